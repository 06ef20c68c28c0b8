theorem dX6_act_0 : decode cX6_act 0 = .ok (.aload_n 0, 1) := by decide +kernel
theorem dX6_act_1 : decode cX6_act 1 = .ok (.iload_n 1, 1) := by decide +kernel
theorem dX6_act_100 : decode cX6_act 100 = .ok (.iconst 1, 1) := by decide +kernel
theorem dX6_act_101 : decode cX6_act 101 = .ok (.isub, 1) := by decide +kernel
theorem dX6_act_102 : decode cX6_act 102 = .ok (.istore 4, 2) := by decide +kernel
theorem dX6_act_104 : decode cX6_act 104 = .ok (.iload 4, 2) := by decide +kernel
theorem dX6_act_106 : decode cX6_act 106 = .ok (.ifCond .lt 44, 3) := by decide +kernel
theorem dX6_act_150 : decode cX6_act 150 = .ok (.iload_n 2, 1) := by decide +kernel
theorem dX6_act_151 : decode cX6_act 151 = .ok (.iconst (-1), 1) := by decide +kernel
theorem dX6_act_152 : decode cX6_act 152 = .ok (.if_icmp .ne 5, 3) := by decide +kernel
theorem dX6_act_155 : decode cX6_act 155 = .ok (.iconst 0, 1) := by decide +kernel
theorem dX6_act_156 : decode cX6_act 156 = .ok (.ireturn, 1) := by decide +kernel
theorem dX6_act_2 : decode cX6_act 2 = .ok (.iconst 2, 1) := by decide +kernel
theorem dX6_act_3 : decode cX6_act 3 = .ok (.invokevirtual 78, 3) := by decide +kernel
theorem dX6_act_6 : decode cX6_act 6 = .ok (.istore_n 2, 1) := by decide +kernel
theorem dX6_act_7 : decode cX6_act 7 = .ok (.iload_n 2, 1) := by decide +kernel
theorem dX6_act_79 : decode cX6_act 79 = .ok (.aload_n 0, 1) := by decide +kernel
theorem dX6_act_8 : decode cX6_act 8 = .ok (.iconst (-1), 1) := by decide +kernel
theorem dX6_act_80 : decode cX6_act 80 = .ok (.iload_n 1, 1) := by decide +kernel
theorem dX6_act_81 : decode cX6_act 81 = .ok (.invokevirtual 87, 3) := by decide +kernel
theorem dX6_act_84 : decode cX6_act 84 = .ok (.ifCond .eq 5, 3) := by decide +kernel
theorem dX6_act_89 : decode cX6_act 89 = .ok (.aload_n 0, 1) := by decide +kernel
theorem dX6_act_9 : decode cX6_act 9 = .ok (.if_icmp .eq 70, 3) := by decide +kernel
theorem dX6_act_90 : decode cX6_act 90 = .ok (.iload_n 1, 1) := by decide +kernel
theorem dX6_act_91 : decode cX6_act 91 = .ok (.iconst 0, 1) := by decide +kernel
theorem dX6_act_92 : decode cX6_act 92 = .ok (.invokevirtual 78, 3) := by decide +kernel
theorem dX6_act_95 : decode cX6_act 95 = .ok (.istore_n 3, 1) := by decide +kernel
theorem dX6_act_96 : decode cX6_act 96 = .ok (.aload_n 0, 1) := by decide +kernel
theorem dX6_act_97 : decode cX6_act 97 = .ok (.getfield 31, 3) := by decide +kernel
theorem dX6_begun_0 : decode cX6_begun 0 = .ok (.aload_n 0, 1) := by decide +kernel
theorem dX6_begun_1 : decode cX6_begun 1 = .ok (.iload_n 1, 1) := by decide +kernel
theorem dX6_begun_10 : decode cX6_begun 10 = .ok (.iload_n 2, 1) := by decide +kernel
theorem dX6_begun_11 : decode cX6_begun 11 = .ok (.istore_n 3, 1) := by decide +kernel
theorem dX6_begun_12 : decode cX6_begun 12 = .ok (.iload_n 3, 1) := by decide +kernel
theorem dX6_begun_13 : decode cX6_begun 13 = .ok (.ifCond .le 43, 3) := by decide +kernel
theorem dX6_begun_16 : decode cX6_begun 16 = .ok (.aload_n 0, 1) := by decide +kernel
theorem dX6_begun_17 : decode cX6_begun 17 = .ok (.getfield 9, 3) := by decide +kernel
theorem dX6_begun_2 : decode cX6_begun 2 = .ok (.iconst 2, 1) := by decide +kernel
theorem dX6_begun_20 : decode cX6_begun 20 = .ok (.bipush 117, 2) := by decide +kernel
theorem dX6_begun_22 : decode cX6_begun 22 = .ok (.iaload, 1) := by decide +kernel
theorem dX6_begun_23 : decode cX6_begun 23 = .ok (.iload_n 3, 1) := by decide +kernel
theorem dX6_begun_24 : decode cX6_begun 24 = .ok (.if_icmp .lt 26, 3) := by decide +kernel
theorem dX6_begun_27 : decode cX6_begun 27 = .ok (.aload_n 0, 1) := by decide +kernel
theorem dX6_begun_28 : decode cX6_begun 28 = .ok (.iload_n 3, 1) := by decide +kernel
theorem dX6_begun_29 : decode cX6_begun 29 = .ok (.invokevirtual 93, 3) := by decide +kernel
theorem dX6_begun_3 : decode cX6_begun 3 = .ok (.invokevirtual 41, 3) := by decide +kernel
theorem dX6_begun_32 : decode cX6_begun 32 = .ok (.aload_n 0, 1) := by decide +kernel
theorem dX6_begun_33 : decode cX6_begun 33 = .ok (.iload_n 1, 1) := by decide +kernel
theorem dX6_begun_34 : decode cX6_begun 34 = .ok (.iconst 2, 1) := by decide +kernel
theorem dX6_begun_35 : decode cX6_begun 35 = .ok (.invokevirtual 41, 3) := by decide +kernel
theorem dX6_begun_38 : decode cX6_begun 38 = .ok (.iload_n 2, 1) := by decide +kernel
theorem dX6_begun_39 : decode cX6_begun 39 = .ok (.iload_n 3, 1) := by decide +kernel
theorem dX6_begun_40 : decode cX6_begun 40 = .ok (.isub, 1) := by decide +kernel
theorem dX6_begun_41 : decode cX6_begun 41 = .ok (.invokestatic 90, 3) := by decide +kernel
theorem dX6_begun_44 : decode cX6_begun 44 = .ok (.idiv, 1) := by decide +kernel
theorem dX6_begun_45 : decode cX6_begun 45 = .ok (.if_icmp .ne 5, 3) := by decide +kernel
theorem dX6_begun_48 : decode cX6_begun 48 = .ok (.iload_n 3, 1) := by decide +kernel
theorem dX6_begun_49 : decode cX6_begun 49 = .ok (.ireturn, 1) := by decide +kernel
theorem dX6_begun_50 : decode cX6_begun 50 = .ok (.iinc 3 (-1), 3) := by decide +kernel
theorem dX6_begun_53 : decode cX6_begun 53 = .ok (.goto (-41), 3) := by decide +kernel
theorem dX6_begun_56 : decode cX6_begun 56 = .ok (.iconst 0, 1) := by decide +kernel
theorem dX6_begun_57 : decode cX6_begun 57 = .ok (.ireturn, 1) := by decide +kernel
theorem dX6_begun_6 : decode cX6_begun 6 = .ok (.invokestatic 53, 3) := by decide +kernel
theorem dX6_begun_9 : decode cX6_begun 9 = .ok (.istore_n 2, 1) := by decide +kernel
theorem dX6_homeBy_0 : decode cX6_homeBy 0 = .ok (.aload_n 0, 1) := by decide +kernel
theorem dX6_homeBy_1 : decode cX6_homeBy 1 = .ok (.iload_n 1, 1) := by decide +kernel
theorem dX6_homeBy_10 : decode cX6_homeBy 10 = .ok (.aload_n 0, 1) := by decide +kernel
theorem dX6_homeBy_11 : decode cX6_homeBy 11 = .ok (.getfield 9, 3) := by decide +kernel
theorem dX6_homeBy_14 : decode cX6_homeBy 14 = .ok (.astore_n 3, 1) := by decide +kernel
theorem dX6_homeBy_15 : decode cX6_homeBy 15 = .ok (.aload_n 0, 1) := by decide +kernel
theorem dX6_homeBy_16 : decode cX6_homeBy 16 = .ok (.aload_n 3, 1) := by decide +kernel
theorem dX6_homeBy_17 : decode cX6_homeBy 17 = .ok (.invokevirtual 133, 3) := by decide +kernel
theorem dX6_homeBy_2 : decode cX6_homeBy 2 = .ok (.invokevirtual 87, 3) := by decide +kernel
theorem dX6_homeBy_20 : decode cX6_homeBy 20 = .ok (.checkcast 134, 3) := by decide +kernel
theorem dX6_homeBy_23 : decode cX6_homeBy 23 = .ok (.putfield 9, 3) := by decide +kernel
theorem dX6_homeBy_26 : decode cX6_homeBy 26 = .ok (.iconst (-1), 1) := by decide +kernel
theorem dX6_homeBy_27 : decode cX6_homeBy 27 = .ok (.istore 4, 2) := by decide +kernel
theorem dX6_homeBy_29 : decode cX6_homeBy 29 = .ok (.iload_n 2, 1) := by decide +kernel
theorem dX6_homeBy_30 : decode cX6_homeBy 30 = .ok (.invokestatic 53, 3) := by decide +kernel
theorem dX6_homeBy_33 : decode cX6_homeBy 33 = .ok (.istore 5, 2) := by decide +kernel
theorem dX6_homeBy_35 : decode cX6_homeBy 35 = .ok (.iconst 1, 1) := by decide +kernel
theorem dX6_homeBy_36 : decode cX6_homeBy 36 = .ok (.istore 6, 2) := by decide +kernel
theorem dX6_homeBy_38 : decode cX6_homeBy 38 = .ok (.iload 6, 2) := by decide +kernel
theorem dX6_homeBy_40 : decode cX6_homeBy 40 = .ok (.iload 5, 2) := by decide +kernel
theorem dX6_homeBy_42 : decode cX6_homeBy 42 = .ok (.if_icmp .gt 45, 3) := by decide +kernel
theorem dX6_homeBy_45 : decode cX6_homeBy 45 = .ok (.iload 4, 2) := by decide +kernel
theorem dX6_homeBy_47 : decode cX6_homeBy 47 = .ok (.iconst (-1), 1) := by decide +kernel
theorem dX6_homeBy_48 : decode cX6_homeBy 48 = .ok (.if_icmp .ne 39, 3) := by decide +kernel
theorem dX6_homeBy_5 : decode cX6_homeBy 5 = .ok (.ifCond .eq 5, 3) := by decide +kernel
theorem dX6_homeBy_51 : decode cX6_homeBy 51 = .ok (.aload_n 0, 1) := by decide +kernel
theorem dX6_homeBy_52 : decode cX6_homeBy 52 = .ok (.iload_n 2, 1) := by decide +kernel
theorem dX6_homeBy_53 : decode cX6_homeBy 53 = .ok (.iload 5, 2) := by decide +kernel
theorem dX6_homeBy_55 : decode cX6_homeBy 55 = .ok (.iload 6, 2) := by decide +kernel
theorem dX6_homeBy_57 : decode cX6_homeBy 57 = .ok (.isub, 1) := by decide +kernel
theorem dX6_homeBy_58 : decode cX6_homeBy 58 = .ok (.invokestatic 90, 3) := by decide +kernel
theorem dX6_homeBy_61 : decode cX6_homeBy 61 = .ok (.idiv, 1) := by decide +kernel
theorem dX6_homeBy_62 : decode cX6_homeBy 62 = .ok (.bipush 10, 2) := by decide +kernel
theorem dX6_homeBy_64 : decode cX6_homeBy 64 = .ok (.irem, 1) := by decide +kernel
theorem dX6_homeBy_65 : decode cX6_homeBy 65 = .ok (.invokevirtual 130, 3) := by decide +kernel
theorem dX6_homeBy_68 : decode cX6_homeBy 68 = .ok (.pop, 1) := by decide +kernel
theorem dX6_homeBy_69 : decode cX6_homeBy 69 = .ok (.aload_n 0, 1) := by decide +kernel
theorem dX6_homeBy_70 : decode cX6_homeBy 70 = .ok (.iload_n 1, 1) := by decide +kernel
theorem dX6_homeBy_71 : decode cX6_homeBy 71 = .ok (.invokevirtual 87, 3) := by decide +kernel
theorem dX6_homeBy_74 : decode cX6_homeBy 74 = .ok (.ifCond .eq 7, 3) := by decide +kernel
theorem dX6_homeBy_81 : decode cX6_homeBy 81 = .ok (.iinc 6 1, 3) := by decide +kernel
theorem dX6_homeBy_84 : decode cX6_homeBy 84 = .ok (.goto (-46), 3) := by decide +kernel
theorem dX6_homeBy_87 : decode cX6_homeBy 87 = .ok (.aload_n 0, 1) := by decide +kernel
theorem dX6_homeBy_88 : decode cX6_homeBy 88 = .ok (.aload_n 3, 1) := by decide +kernel
theorem dX6_homeBy_89 : decode cX6_homeBy 89 = .ok (.putfield 9, 3) := by decide +kernel
theorem dX6_homeBy_92 : decode cX6_homeBy 92 = .ok (.iload 4, 2) := by decide +kernel
theorem dX6_homeBy_94 : decode cX6_homeBy 94 = .ok (.ireturn, 1) := by decide +kernel
theorem dX6_latest_0 : decode cX6_latest 0 = .ok (.aload_n 0, 1) := by decide +kernel
theorem dX6_latest_1 : decode cX6_latest 1 = .ok (.getfield 9, 3) := by decide +kernel
theorem dX6_latest_11 : decode cX6_latest 11 = .ok (.irem, 1) := by decide +kernel
theorem dX6_latest_12 : decode cX6_latest 12 = .ok (.ireturn, 1) := by decide +kernel
theorem dX6_latest_4 : decode cX6_latest 4 = .ok (.bipush 116, 2) := by decide +kernel
theorem dX6_latest_6 : decode cX6_latest 6 = .ok (.iaload, 1) := by decide +kernel
theorem dX6_latest_7 : decode cX6_latest 7 = .ok (.iload_n 1, 1) := by decide +kernel
theorem dX6_latest_8 : decode cX6_latest 8 = .ok (.invokestatic 90, 3) := by decide +kernel
theorem dX6_ringOne_0 : decode cX6_ringOne 0 = .ok (.iconst 0, 1) := by decide +kernel
theorem dX6_ringOne_1 : decode cX6_ringOne 1 = .ok (.istore_n 2, 1) := by decide +kernel
theorem dX6_ringOne_10 : decode cX6_ringOne 10 = .ok (.aload_n 0, 1) := by decide +kernel
theorem dX6_ringOne_100 : decode cX6_ringOne 100 = .ok (.goto 49, 3) := by decide +kernel
theorem dX6_ringOne_103 : decode cX6_ringOne 103 = .ok (.aload_n 0, 1) := by decide +kernel
theorem dX6_ringOne_104 : decode cX6_ringOne 104 = .ok (.iload_n 2, 1) := by decide +kernel
theorem dX6_ringOne_105 : decode cX6_ringOne 105 = .ok (.iconst 1, 1) := by decide +kernel
theorem dX6_ringOne_106 : decode cX6_ringOne 106 = .ok (.aload_n 0, 1) := by decide +kernel
theorem dX6_ringOne_107 : decode cX6_ringOne 107 = .ok (.iload_n 2, 1) := by decide +kernel
theorem dX6_ringOne_108 : decode cX6_ringOne 108 = .ok (.iconst 1, 1) := by decide +kernel
theorem dX6_ringOne_109 : decode cX6_ringOne 109 = .ok (.invokevirtual 41, 3) := by decide +kernel
theorem dX6_ringOne_11 : decode cX6_ringOne 11 = .ok (.iload_n 2, 1) := by decide +kernel
theorem dX6_ringOne_112 : decode cX6_ringOne 112 = .ok (.aload_n 0, 1) := by decide +kernel
theorem dX6_ringOne_113 : decode cX6_ringOne 113 = .ok (.iload_n 2, 1) := by decide +kernel
theorem dX6_ringOne_114 : decode cX6_ringOne 114 = .ok (.iconst 3, 1) := by decide +kernel
theorem dX6_ringOne_115 : decode cX6_ringOne 115 = .ok (.invokevirtual 41, 3) := by decide +kernel
theorem dX6_ringOne_118 : decode cX6_ringOne 118 = .ok (.iadd, 1) := by decide +kernel
theorem dX6_ringOne_119 : decode cX6_ringOne 119 = .ok (.iconst 2, 1) := by decide +kernel
theorem dX6_ringOne_12 : decode cX6_ringOne 12 = .ok (.invokevirtual 87, 3) := by decide +kernel
theorem dX6_ringOne_120 : decode cX6_ringOne 120 = .ok (.aload_n 0, 1) := by decide +kernel
theorem dX6_ringOne_121 : decode cX6_ringOne 121 = .ok (.iload_n 2, 1) := by decide +kernel
theorem dX6_ringOne_122 : decode cX6_ringOne 122 = .ok (.iconst 0, 1) := by decide +kernel
theorem dX6_ringOne_123 : decode cX6_ringOne 123 = .ok (.invokevirtual 41, 3) := by decide +kernel
theorem dX6_ringOne_126 : decode cX6_ringOne 126 = .ok (.imul, 1) := by decide +kernel
theorem dX6_ringOne_127 : decode cX6_ringOne 127 = .ok (.iadd, 1) := by decide +kernel
theorem dX6_ringOne_128 : decode cX6_ringOne 128 = .ok (.aload_n 0, 1) := by decide +kernel
theorem dX6_ringOne_129 : decode cX6_ringOne 129 = .ok (.iload_n 2, 1) := by decide +kernel
theorem dX6_ringOne_130 : decode cX6_ringOne 130 = .ok (.iconst 0, 1) := by decide +kernel
theorem dX6_ringOne_131 : decode cX6_ringOne 131 = .ok (.invokevirtual 41, 3) := by decide +kernel
theorem dX6_ringOne_134 : decode cX6_ringOne 134 = .ok (.irem, 1) := by decide +kernel
theorem dX6_ringOne_135 : decode cX6_ringOne 135 = .ok (.invokevirtual 49, 3) := by decide +kernel
theorem dX6_ringOne_138 : decode cX6_ringOne 138 = .ok (.aload_n 0, 1) := by decide +kernel
theorem dX6_ringOne_139 : decode cX6_ringOne 139 = .ok (.getfield 9, 3) := by decide +kernel
theorem dX6_ringOne_142 : decode cX6_ringOne 142 = .ok (.bipush 118, 2) := by decide +kernel
theorem dX6_ringOne_144 : decode cX6_ringOne 144 = .ok (.dup2, 1) := by decide +kernel
theorem dX6_ringOne_145 : decode cX6_ringOne 145 = .ok (.iaload, 1) := by decide +kernel
theorem dX6_ringOne_146 : decode cX6_ringOne 146 = .ok (.iconst 1, 1) := by decide +kernel
theorem dX6_ringOne_147 : decode cX6_ringOne 147 = .ok (.iadd, 1) := by decide +kernel
theorem dX6_ringOne_148 : decode cX6_ringOne 148 = .ok (.iastore, 1) := by decide +kernel
theorem dX6_ringOne_149 : decode cX6_ringOne 149 = .ok (.iinc 2 1, 3) := by decide +kernel
theorem dX6_ringOne_15 : decode cX6_ringOne 15 = .ok (.ifCond .ne 17, 3) := by decide +kernel
theorem dX6_ringOne_152 : decode cX6_ringOne 152 = .ok (.goto (-77), 3) := by decide +kernel
theorem dX6_ringOne_155 : decode cX6_ringOne 155 = .ok (.iconst 0, 1) := by decide +kernel
theorem dX6_ringOne_156 : decode cX6_ringOne 156 = .ok (.istore_n 2, 1) := by decide +kernel
theorem dX6_ringOne_157 : decode cX6_ringOne 157 = .ok (.iload_n 2, 1) := by decide +kernel
theorem dX6_ringOne_158 : decode cX6_ringOne 158 = .ok (.aload_n 0, 1) := by decide +kernel
theorem dX6_ringOne_159 : decode cX6_ringOne 159 = .ok (.getfield 31, 3) := by decide +kernel
theorem dX6_ringOne_162 : decode cX6_ringOne 162 = .ok (.if_icmp .ge 14, 3) := by decide +kernel
theorem dX6_ringOne_176 : decode cX6_ringOne 176 = .ok (.iconst 0, 1) := by decide +kernel
theorem dX6_ringOne_177 : decode cX6_ringOne 177 = .ok (.istore_n 2, 1) := by decide +kernel
theorem dX6_ringOne_178 : decode cX6_ringOne 178 = .ok (.iconst 0, 1) := by decide +kernel
theorem dX6_ringOne_179 : decode cX6_ringOne 179 = .ok (.istore_n 3, 1) := by decide +kernel
theorem dX6_ringOne_18 : decode cX6_ringOne 18 = .ok (.aload_n 0, 1) := by decide +kernel
theorem dX6_ringOne_180 : decode cX6_ringOne 180 = .ok (.iload_n 3, 1) := by decide +kernel
theorem dX6_ringOne_181 : decode cX6_ringOne 181 = .ok (.aload_n 0, 1) := by decide +kernel
theorem dX6_ringOne_182 : decode cX6_ringOne 182 = .ok (.getfield 34, 3) := by decide +kernel
theorem dX6_ringOne_185 : decode cX6_ringOne 185 = .ok (.if_icmp .ge 25, 3) := by decide +kernel
theorem dX6_ringOne_188 : decode cX6_ringOne 188 = .ok (.iload_n 2, 1) := by decide +kernel
theorem dX6_ringOne_189 : decode cX6_ringOne 189 = .ok (.aload_n 0, 1) := by decide +kernel
theorem dX6_ringOne_19 : decode cX6_ringOne 19 = .ok (.iload_n 2, 1) := by decide +kernel
theorem dX6_ringOne_190 : decode cX6_ringOne 190 = .ok (.iload_n 3, 1) := by decide +kernel
theorem dX6_ringOne_191 : decode cX6_ringOne 191 = .ok (.invokevirtual 127, 3) := by decide +kernel
theorem dX6_ringOne_194 : decode cX6_ringOne 194 = .ok (.ifCond .eq 7, 3) := by decide +kernel
theorem dX6_ringOne_2 : decode cX6_ringOne 2 = .ok (.iload_n 2, 1) := by decide +kernel
theorem dX6_ringOne_20 : decode cX6_ringOne 20 = .ok (.iconst 5, 1) := by decide +kernel
theorem dX6_ringOne_201 : decode cX6_ringOne 201 = .ok (.iconst 0, 1) := by decide +kernel
theorem dX6_ringOne_202 : decode cX6_ringOne 202 = .ok (.iadd, 1) := by decide +kernel
theorem dX6_ringOne_203 : decode cX6_ringOne 203 = .ok (.istore_n 2, 1) := by decide +kernel
theorem dX6_ringOne_204 : decode cX6_ringOne 204 = .ok (.iinc 3 1, 3) := by decide +kernel
theorem dX6_ringOne_207 : decode cX6_ringOne 207 = .ok (.goto (-27), 3) := by decide +kernel
theorem dX6_ringOne_21 : decode cX6_ringOne 21 = .ok (.aload_n 0, 1) := by decide +kernel
theorem dX6_ringOne_210 : decode cX6_ringOne 210 = .ok (.iload_n 2, 1) := by decide +kernel
theorem dX6_ringOne_211 : decode cX6_ringOne 211 = .ok (.ireturn, 1) := by decide +kernel
theorem dX6_ringOne_22 : decode cX6_ringOne 22 = .ok (.iload_n 2, 1) := by decide +kernel
theorem dX6_ringOne_23 : decode cX6_ringOne 23 = .ok (.iconst 5, 1) := by decide +kernel
theorem dX6_ringOne_24 : decode cX6_ringOne 24 = .ok (.invokevirtual 78, 3) := by decide +kernel
theorem dX6_ringOne_27 : decode cX6_ringOne 27 = .ok (.iconst 1, 1) := by decide +kernel
theorem dX6_ringOne_28 : decode cX6_ringOne 28 = .ok (.iadd, 1) := by decide +kernel
theorem dX6_ringOne_29 : decode cX6_ringOne 29 = .ok (.invokevirtual 84, 3) := by decide +kernel
theorem dX6_ringOne_3 : decode cX6_ringOne 3 = .ok (.aload_n 0, 1) := by decide +kernel
theorem dX6_ringOne_32 : decode cX6_ringOne 32 = .ok (.iinc 2 1, 3) := by decide +kernel
theorem dX6_ringOne_35 : decode cX6_ringOne 35 = .ok (.goto (-33), 3) := by decide +kernel
theorem dX6_ringOne_38 : decode cX6_ringOne 38 = .ok (.aload_n 0, 1) := by decide +kernel
theorem dX6_ringOne_39 : decode cX6_ringOne 39 = .ok (.getfield 9, 3) := by decide +kernel
theorem dX6_ringOne_4 : decode cX6_ringOne 4 = .ok (.getfield 34, 3) := by decide +kernel
theorem dX6_ringOne_42 : decode cX6_ringOne 42 = .ok (.bipush 116, 2) := by decide +kernel
theorem dX6_ringOne_44 : decode cX6_ringOne 44 = .ok (.aload_n 0, 1) := by decide +kernel
theorem dX6_ringOne_45 : decode cX6_ringOne 45 = .ok (.getfield 9, 3) := by decide +kernel
theorem dX6_ringOne_48 : decode cX6_ringOne 48 = .ok (.bipush 116, 2) := by decide +kernel
theorem dX6_ringOne_50 : decode cX6_ringOne 50 = .ok (.iaload, 1) := by decide +kernel
theorem dX6_ringOne_51 : decode cX6_ringOne 51 = .ok (.iconst 5, 1) := by decide +kernel
theorem dX6_ringOne_52 : decode cX6_ringOne 52 = .ok (.invokestatic 90, 3) := by decide +kernel
theorem dX6_ringOne_55 : decode cX6_ringOne 55 = .ok (.irem, 1) := by decide +kernel
theorem dX6_ringOne_56 : decode cX6_ringOne 56 = .ok (.bipush 10, 2) := by decide +kernel
theorem dX6_ringOne_58 : decode cX6_ringOne 58 = .ok (.imul, 1) := by decide +kernel
theorem dX6_ringOne_59 : decode cX6_ringOne 59 = .ok (.iload_n 1, 1) := by decide +kernel
theorem dX6_ringOne_60 : decode cX6_ringOne 60 = .ok (.iadd, 1) := by decide +kernel
theorem dX6_ringOne_61 : decode cX6_ringOne 61 = .ok (.iastore, 1) := by decide +kernel
theorem dX6_ringOne_62 : decode cX6_ringOne 62 = .ok (.aload_n 0, 1) := by decide +kernel
theorem dX6_ringOne_63 : decode cX6_ringOne 63 = .ok (.getfield 9, 3) := by decide +kernel
theorem dX6_ringOne_66 : decode cX6_ringOne 66 = .ok (.bipush 117, 2) := by decide +kernel
theorem dX6_ringOne_68 : decode cX6_ringOne 68 = .ok (.dup2, 1) := by decide +kernel
theorem dX6_ringOne_69 : decode cX6_ringOne 69 = .ok (.iaload, 1) := by decide +kernel
theorem dX6_ringOne_7 : decode cX6_ringOne 7 = .ok (.if_icmp .ge 31, 3) := by decide +kernel
theorem dX6_ringOne_70 : decode cX6_ringOne 70 = .ok (.iconst 1, 1) := by decide +kernel
theorem dX6_ringOne_71 : decode cX6_ringOne 71 = .ok (.iadd, 1) := by decide +kernel
theorem dX6_ringOne_72 : decode cX6_ringOne 72 = .ok (.iastore, 1) := by decide +kernel
theorem dX6_ringOne_73 : decode cX6_ringOne 73 = .ok (.iconst 0, 1) := by decide +kernel
theorem dX6_ringOne_74 : decode cX6_ringOne 74 = .ok (.istore_n 2, 1) := by decide +kernel
theorem dX6_ringOne_75 : decode cX6_ringOne 75 = .ok (.iload_n 2, 1) := by decide +kernel
theorem dX6_ringOne_76 : decode cX6_ringOne 76 = .ok (.aload_n 0, 1) := by decide +kernel
theorem dX6_ringOne_77 : decode cX6_ringOne 77 = .ok (.getfield 24, 3) := by decide +kernel
theorem dX6_ringOne_80 : decode cX6_ringOne 80 = .ok (.if_icmp .ge 75, 3) := by decide +kernel
theorem dX6_ringOne_83 : decode cX6_ringOne 83 = .ok (.aload_n 0, 1) := by decide +kernel
theorem dX6_ringOne_84 : decode cX6_ringOne 84 = .ok (.iload_n 2, 1) := by decide +kernel
theorem dX6_ringOne_85 : decode cX6_ringOne 85 = .ok (.invokevirtual 96, 3) := by decide +kernel
theorem dX6_ringOne_88 : decode cX6_ringOne 88 = .ok (.aload_n 0, 1) := by decide +kernel
theorem dX6_ringOne_89 : decode cX6_ringOne 89 = .ok (.iload_n 2, 1) := by decide +kernel
theorem dX6_ringOne_90 : decode cX6_ringOne 90 = .ok (.iconst 2, 1) := by decide +kernel
theorem dX6_ringOne_91 : decode cX6_ringOne 91 = .ok (.invokevirtual 41, 3) := by decide +kernel
theorem dX6_ringOne_94 : decode cX6_ringOne 94 = .ok (.invokestatic 53, 3) := by decide +kernel
theorem dX6_ringOne_97 : decode cX6_ringOne 97 = .ok (.if_icmp .eq 6, 3) := by decide +kernel
def v_c_latest : List Cond := .code yX6_latest cX6_latest 2 (some .int) :: ([Cond.fieldLink RX6 9 "HotelOfBellsModel" "row" "[I", Cond.code yX6_power cX6_power 3 (some .int), Cond.methodLink RX6 90 yX6_power, Cond.static yX6_power, Cond.initialized RX6] ++ (wsX60 ++ []))
theorem u_c_latest_X6 : ∀ w ∈ wsX60, w ∈ v_c_latest := fun _ h => List.mem_cons_of_mem _ (List.mem_append_right _ (List.mem_append_left _ h))
theorem gg_c_latest_c_power_1 : GoodIn v_c_latest v_c_power_1 := goodIn_r _ [2] (by rfl) (by decide +kernel)
set_option maxHeartbeats 4000000 in
set_option maxRecDepth 100000 in
theorem c_latest (l : Launch) (hl9 : l.stackTraces = false) (dC : Nat → ClassId) (dI : Nat → Nat → Nat) (tE : Nat) (h0 : Nat) (rq : Nat) (sbq : Nat) (th : Int32) (ci : ClassId) (xh : Int32) (xr : Int32) (xt : Int32) (xw : Int32) (sz : Nat) : Met l yX6_latest v_c_latest ({ frames := 1, cells := 0, slots := 0, locals := 22 }) (va_Pc [.ref h0, .int 1] (Pre0 dC dI tE sz [(ci, .int)] [(h0, .inr (11, [.int th, .int 1, .int 0, .int 1, .ref rq, .ref sbq])), (rq, .inl (ci, 119, .inl (RW xh xr xt xw)))])) (va_Qi (fun (r : Int32) (_ : Unit) => True) (fun _ t => Pst dC dI [(ci, .int)] (va_A [(h0, .inr (11, [.int th, .int 1, .int 0, .int 1, .ref rq, .ref sbq])), (rq, .inl (ci, 119, .inl (RW xh xr xt xw)))] sz) [(h0, .inr (11, [.int th, .int 1, .int 0, .int 1, .ref rq, .ref sbq])), (rq, .inl (ci, 119, .inl (RW xh xr xt xw)))] t) (va_A [(h0, .inr (11, [.int th, .int 1, .int 0, .int 1, .ref rq, .ref sbq])), (rq, .inl (ci, 119, .inl (RW xh xr xt xw)))] sz)) 0 0 (va_A [(h0, .inr (11, [.int th, .int 1, .int 0, .int 1, .ref rq, .ref sbq])), (rq, .inl (ci, 119, .inl (RW xh xr xt xw)))] sz) := by
  refine Met.ofW (cc := cX6_latest) (maxL := 2) (ret := (some .int)) (by decide) rfl ?_
  intro p e s m args below meth c s₁ B hml hv
  obtain ⟨rfl, hsz, hP, hK, hD0, hT⟩ := hv
  have hx := B.exec
  have hb := B.bytes
  have hr := B.returns
  have hts := atoms_spec (ws := v_c_latest) B.pre
  have hown : s.vm.findClass RX6 = some m.cls := findClass_of_methodNamed B.named
  have hlocks := B.notSynchronized
  subst hsz
  have hD := hD0.self (sz := s.heap.size)
  generalize hAe : va_A [(h0, .inr (11, [.int th, .int 1, .int 0, .int 1, .ref rq, .ref sbq])), (rq, .inl (ci, 119, .inl (RW xh xr xt xw)))] s.heap.size = A at hD hT ⊢
  have hA : ∀ q : Nat, s.heap.size ≤ q → A q := fun q h => by rw [← hAe]; exact Or.inr h
  have hS : va_S A s.heap s.heap [] := va_S.rf
  have hl := lv_entry ([.ref h0, .int 1]) (n := 2) (Nat.le_of_ble_eq_true rfl)
  rw [lg_entry_eq]
  generalize (lg_sl ([.ref h0, .int 1]) ++ List.replicate (2 - (lg_sl ([.ref h0, .int 1])).length) Slot.unset).toArray = ls at hl ⊢
  have hl : lv_has ls 2 [(0, .ref h0), (1, .int 1)] := hl
  refine lv_aload_n hx hb dX6_latest_0 rfl (lv_at hl 0 rfl) ?_
  refine va_get (D := (dC, dI)) (ci := 11) (v := .ref rq) (C := RX6) (T := TX6) (N := 6) hx hb hts u_c_latest_X6 hown hK hP 0 rfl rfl 4 (by decide) (hts (.fieldLink RX6 9 "HotelOfBellsModel" "row" "[I") (List.mem_of_getElem? (i := 1) rfl)) (fun _ h9 => h9) rfl dX6_latest_1 ?_
  refine lv_bipush (v := 116) hx hb dX6_latest_4 (by decide) ?_
  refine va_iald hx hb hK hP 1 0 rfl rfl (by unfold vp_in; decide) dX6_latest_6 ?_
  refine lv_topi (fun x_1 e_2 => ?_)
  obtain rfl : xh = x_1 := (e_2.trans (rw_l116 _ _ _ _)).symm
  refine lv_iload_n hx hb dX6_latest_7 rfl (lv_at hl 1 rfl) ?_
  have hPc := hP.sub (ws' := []) [] rfl
  have hDc := hD.sub (ws' := []) [] (by decide) rfl
  have hKc := hK.sub (tys' := []) [] rfl
  have hFc := va_free (wc := []) hD hS hA [] rfl
  refine va_calli (va_runS (As := [.int 1]) (rest := [.int xh]) ⟨hx, hb, hml, hown, hts⟩ (c_power_1 l hl9 dC dI tE  _ ) (va_cwS 1 hts (goodIn_app (goodIn_r _ [3, 4, 5] (by rfl) (by decide +kernel)) gg_c_latest_c_power_1) rfl rfl rfl (by decide +kernel) ⟨Nat.le_of_ble_eq_true rfl, Nat.le_of_ble_eq_true rfl⟩) ⟨Pre0.blind, Pre0.give hPc hKc hDc hT hS hFc⟩ rfl rfl hl.1 rfl (lv_room (Nat.le_of_ble_eq_true rfl)) dX6_latest_8 ⟨Nat.le_of_ble_eq_true rfl, Nat.le_of_ble_eq_true rfl⟩) hS (fun q _ h => hFc q h) hFc (fun r_3 u t H1 locs ht hvm hw hB hz1 hk1 hS => ?_)
  obtain ⟨hP1, hK1, hD1⟩ := hB
  rw [ht] at hP1
  have hK1 := va_K.moved hvm.symm hK1
  obtain ⟨hP, hD⟩ := va_join (wr := [(h0, .inr (11, [.int th, .int 1, .int 0, .int 1, .ref rq, .ref sbq])), (rq, .inl (ci, 119, .inl (RW xh xr xt xw)))]) (w1 := []) hP hD [] [0, 1] rfl rfl (by decide) (by decide) hk1 hFc hP1 hD1
  generalize H1 = H at hP hS ⊢
  have hP : va_P (dC, dI) vwCl [(h0, .inr (11, [.int th, .int 1, .int 0, .int 1, .ref rq, .ref sbq])), (rq, .inl (ci, 119, .inl (RW xh xr xt xw)))] H := hP
  have hD : va_D A [(h0, .inr (11, [.int th, .int 1, .int 0, .int 1, .ref rq, .ref sbq])), (rq, .inl (ci, 119, .inl (RW xh xr xt xw)))] := hD
  refine W.widen (k := 0) (n := 0) (by omega) (by omega) ?_
  obtain rfl : r_3 = 10 := hw
  refine lv_irem hx hb dX6_latest_11 (by decide) ?_
  refine lv_topi (fun x_4 e_5 => ?_)
  have hP9 := hP.sub (ws' := [(h0, .inr (11, [.int th, .int 1, .int 0, .int 1, .ref rq, .ref sbq])), (rq, .inl (ci, 119, .inl (RW xh xr xt xw)))]) [0, 1] rfl
  have hD9 := hD.sub (ws' := [(h0, .inr (11, [.int th, .int 1, .int 0, .int 1, .ref rq, .ref sbq])), (rq, .inl (ci, 119, .inl (RW xh xr xt xw)))]) [0, 1] (by decide) rfl
  have hK9 := hK.sub (tys' := [(ci, .int)]) [0] rfl
  exact W.iret (v := x_4) hx hb hr (fun t ht hW => ⟨⟨x_4, (), rfl, trivial, by rw [ht]; exact hP9, va_K.moved hW.alike hK9, hD9⟩, hS.F ht⟩) hS.2.2 dX6_latest_12
def v_c_begun : List Cond := .code yX6_begun cX6_begun 4 (some .int) :: ([Cond.code yX6_fl cX6_fl 3 (some .int), Cond.fieldLink RX6 9 "HotelOfBellsModel" "row" "[I", Cond.methodLink RX6 41 yX6_fl, Cond.instanceMethod yX6_fl, Cond.selects RX6 yX6_fl yX6_fl, Cond.initialized RX6, Cond.code yX6_digits cX6_digits 3 (some .int), Cond.code yX6_isIn cX6_isIn 3 (some .boolean), Cond.methodLink RX6 27 yX6_isIn, Cond.static yX6_isIn, Cond.methodLink RX6 53 yX6_digits, Cond.static yX6_digits, Cond.code yX6_latest cX6_latest 2 (some .int), Cond.code yX6_power cX6_power 3 (some .int), Cond.methodLink RX6 90 yX6_power, Cond.static yX6_power, Cond.methodLink RX6 93 yX6_latest, Cond.instanceMethod yX6_latest, Cond.selects RX6 yX6_latest yX6_latest] ++ (wsX60 ++ []))
theorem u_c_begun_X6 : ∀ w ∈ wsX60, w ∈ v_c_begun := fun _ h => List.mem_cons_of_mem _ (List.mem_append_right _ (List.mem_append_left _ h))
theorem gg_c_begun_c_fl_2 : GoodIn v_c_begun v_c_fl_2 := goodIn_r _ [1, 2, 20, 21, 22, 23, 24, 25] (by rfl) (by decide +kernel)
theorem gg_c_begun_c_digits : GoodIn v_c_begun v_c_digits := goodIn_r _ [7, 8, 9, 10, 6] (by rfl) (by decide +kernel)
theorem gg_c_begun_c_latest : GoodIn v_c_begun v_c_latest := goodIn_r _ [13, 2, 14, 15, 16, 6, 20, 21, 22, 23, 24, 25] (by rfl) (by decide +kernel)
theorem gg_c_begun_c_power_0 : GoodIn v_c_begun v_c_power_0 := goodIn_r _ [14] (by rfl) (by decide +kernel)
set_option maxHeartbeats 4000000 in
set_option maxRecDepth 100000 in
theorem c_begun (l : Launch) (hl9 : l.stackTraces = false) (dC : Nat → ClassId) (dI : Nat → Nat → Nat) (tE : Nat) (h0 : Nat) (rq : Nat) (sbq : Nat) (th : Int32) (ci : ClassId) (xh : Int32) (xr : Int32) (xt : Int32) (xw : Int32) (sz : Nat) : Met l yX6_begun v_c_begun ({ frames := 2, cells := 0, slots := 0, locals := 44 }) (va_Pc [.ref h0, .int 0] (Pre0 dC dI tE sz [(ci, .int)] [(h0, .inr (11, [.int th, .int 1, .int 0, .int 1, .ref rq, .ref sbq])), (rq, .inl (ci, 119, .inl (RW xh xr xt xw)))])) (va_Qi (fun (r : Int32) (_ : Unit) => True) (fun _ t => Pst dC dI [(ci, .int)] (va_A [(h0, .inr (11, [.int th, .int 1, .int 0, .int 1, .ref rq, .ref sbq])), (rq, .inl (ci, 119, .inl (RW xh xr xt xw)))] sz) [(h0, .inr (11, [.int th, .int 1, .int 0, .int 1, .ref rq, .ref sbq])), (rq, .inl (ci, 119, .inl (RW xh xr xt xw)))] t) (va_A [(h0, .inr (11, [.int th, .int 1, .int 0, .int 1, .ref rq, .ref sbq])), (rq, .inl (ci, 119, .inl (RW xh xr xt xw)))] sz)) 0 0 (va_A [(h0, .inr (11, [.int th, .int 1, .int 0, .int 1, .ref rq, .ref sbq])), (rq, .inl (ci, 119, .inl (RW xh xr xt xw)))] sz) := by
  refine Met.ofW (cc := cX6_begun) (maxL := 4) (ret := (some .int)) (by decide) rfl ?_
  intro p e s m args below meth c s₁ B hml hv
  obtain ⟨rfl, hsz, hP, hK, hD0, hT⟩ := hv
  have hx := B.exec
  have hb := B.bytes
  have hr := B.returns
  have hts := atoms_spec (ws := v_c_begun) B.pre
  have hown : s.vm.findClass RX6 = some m.cls := findClass_of_methodNamed B.named
  have hlocks := B.notSynchronized
  subst hsz
  have hD := hD0.self (sz := s.heap.size)
  generalize hAe : va_A [(h0, .inr (11, [.int th, .int 1, .int 0, .int 1, .ref rq, .ref sbq])), (rq, .inl (ci, 119, .inl (RW xh xr xt xw)))] s.heap.size = A at hD hT ⊢
  have hA : ∀ q : Nat, s.heap.size ≤ q → A q := fun q h => by rw [← hAe]; exact Or.inr h
  have hS : va_S A s.heap s.heap [] := va_S.rf
  have hl := lv_entry ([.ref h0, .int 0]) (n := 4) (Nat.le_of_ble_eq_true rfl)
  rw [lg_entry_eq]
  generalize (lg_sl ([.ref h0, .int 0]) ++ List.replicate (4 - (lg_sl ([.ref h0, .int 0])).length) Slot.unset).toArray = ls at hl ⊢
  have hl : lv_has ls 4 [(0, .ref h0), (1, .int 0)] := hl
  refine lv_aload_n hx hb dX6_begun_0 rfl (lv_at hl 0 rfl) ?_
  refine lv_iload_n hx hb dX6_begun_1 rfl (lv_at hl 1 rfl) ?_
  refine lv_iconst (v := 2) hx hb dX6_begun_2 (by decide) ?_
  have hPc := hP.sub (ws' := [(h0, .inr (11, [.int th, .int 1, .int 0, .int 1, .ref rq, .ref sbq])), (rq, .inl (ci, 119, .inl (RW xh xr xt xw)))]) [0, 1] rfl
  have hDc := hD.sub (ws' := [(h0, .inr (11, [.int th, .int 1, .int 0, .int 1, .ref rq, .ref sbq])), (rq, .inl (ci, 119, .inl (RW xh xr xt xw)))]) [0, 1] (by decide) rfl
  have hKc := hK.sub (tys' := [(ci, .int)]) [0] rfl
  have hFc := va_free (wc := [(h0, .inr (11, [.int th, .int 1, .int 0, .int 1, .ref rq, .ref sbq])), (rq, .inl (ci, 119, .inl (RW xh xr xt xw)))]) hD hS hA [0, 1] rfl
  refine va_calli (va_runV (As := [.int 0, .int 2]) (rest := []) ⟨hx, hb, hml, hown, hts⟩ (c_fl_2 l hl9 dC dI tE h0 rq sbq th ci xh xr xt xw _ ) (cwV 2 hts (goodIn_app (goodIn_r _ [3, 4, 5, 6] (by rfl) (by decide +kernel)) gg_c_begun_c_fl_2) rfl rfl rfl (by decide +kernel) ⟨Nat.le_of_ble_eq_true rfl, Nat.le_of_ble_eq_true rfl⟩) ⟨Pre0.blind, va_recv hKc hPc (ci := 11) (q0 := 0) rfl rfl, Pre0.give hPc hKc hDc hT hS hFc⟩ rfl rfl hl.1 rfl (lv_room (Nat.le_of_ble_eq_true rfl)) dX6_begun_3 ⟨Nat.le_of_ble_eq_true rfl, Nat.le_of_ble_eq_true rfl⟩) hS (fun q _ h => hFc q h) hFc (fun r_1 u t H1 locs ht hvm hw hB hz1 hk1 hS => ?_)
  obtain ⟨hP1, hK1, hD1⟩ := hB
  rw [ht] at hP1
  have hK1 := va_K.moved hvm.symm hK1
  obtain ⟨hP, hD⟩ := va_join (wr := []) (w1 := [(h0, .inr (11, [.int th, .int 1, .int 0, .int 1, .ref rq, .ref sbq])), (rq, .inl (ci, 119, .inl (RW xh xr xt xw)))]) hP hD [0, 1] [] rfl rfl (by decide) (by decide) hk1 hFc hP1 hD1
  generalize H1 = H at hP hS ⊢
  have hP : va_P (dC, dI) vwCl [(h0, .inr (11, [.int th, .int 1, .int 0, .int 1, .ref rq, .ref sbq])), (rq, .inl (ci, 119, .inl (RW xh xr xt xw)))] H := hP
  have hD : va_D A [(h0, .inr (11, [.int th, .int 1, .int 0, .int 1, .ref rq, .ref sbq])), (rq, .inl (ci, 119, .inl (RW xh xr xt xw)))] := hD
  refine W.widen (k := 0) (n := 0) (by omega) (by omega) ?_
  obtain rfl : r_1 = 1 := hw
  have hPc := hP.sub (ws' := []) [] rfl
  have hDc := hD.sub (ws' := []) [] (by decide) rfl
  have hKc := hK.sub (tys' := []) [] rfl
  have hFc := va_free (wc := []) hD hS hA [] rfl
  refine va_calli (va_runS (As := [.int 1]) (rest := []) ⟨hx, hb, hml, hown, hts⟩ (c_digits l hl9 dC dI tE 1 _ ) (va_cwS 1 hts (goodIn_app (goodIn_r _ [11, 12, 6] (by rfl) (by decide +kernel)) gg_c_begun_c_digits) rfl rfl rfl (by decide +kernel) ⟨Nat.le_of_ble_eq_true rfl, Nat.le_of_ble_eq_true rfl⟩) ⟨Pre0.blind, Pre0.give hPc hKc hDc hT hS hFc⟩ rfl rfl hl.1 rfl (lv_room (Nat.le_of_ble_eq_true rfl)) dX6_begun_6 ⟨Nat.le_of_ble_eq_true rfl, Nat.le_of_ble_eq_true rfl⟩) hS (fun q _ h => hFc q h) hFc (fun r_2 u t H1 locs ht hvm hw hB hz1 hk1 hS => ?_)
  obtain ⟨hP1, hK1, hD1⟩ := hB
  rw [ht] at hP1
  have hK1 := va_K.moved hvm.symm hK1
  obtain ⟨hP, hD⟩ := va_join (wr := [(h0, .inr (11, [.int th, .int 1, .int 0, .int 1, .ref rq, .ref sbq])), (rq, .inl (ci, 119, .inl (RW xh xr xt xw)))]) (w1 := []) hP hD [] [0, 1] rfl rfl (by decide) (by decide) hk1 hFc hP1 hD1
  generalize H1 = H at hP hS ⊢
  have hP : va_P (dC, dI) vwCl [(h0, .inr (11, [.int th, .int 1, .int 0, .int 1, .ref rq, .ref sbq])), (rq, .inl (ci, 119, .inl (RW xh xr xt xw)))] H := hP
  have hD : va_D A [(h0, .inr (11, [.int th, .int 1, .int 0, .int 1, .ref rq, .ref sbq])), (rq, .inl (ci, 119, .inl (RW xh xr xt xw)))] := hD
  refine W.widen (k := 0) (n := 0) (by omega) (by omega) ?_
  obtain rfl : r_2 = 1 := hw.trans (by decide)
  refine lv_istore_n (lv' := [(2, .int 1), (0, .ref h0), (1, .int 0)]) hx hb dX6_begun_9 rfl hl (by decide) rfl (fun ls hl => ?_)
  refine lv_iload_n hx hb dX6_begun_10 rfl (lv_at hl 0 rfl) ?_
  refine lv_istore_n (lv' := [(3, .int 1), (2, .int 1), (0, .ref h0), (1, .int 0)]) hx hb dX6_begun_11 rfl hl (by decide) rfl (fun ls hl => ?_)
  refine lv_iload_n hx hb dX6_begun_12 rfl (lv_at hl 0 rfl) ?_
  refine lv_if_le (tgt := 56) hx hb dX6_begun_13 (by decide) (fun c_3 => absurd c_3 (by decide)) (fun _ => ?_)
  refine lv_aload_n hx hb dX6_begun_16 rfl (lv_at hl 2 rfl) ?_
  refine va_get (D := (dC, dI)) (ci := 11) (v := .ref rq) (C := RX6) (T := TX6) (N := 6) hx hb hts u_c_begun_X6 hown hK hP 0 rfl rfl 4 (by decide) (hts (.fieldLink RX6 9 "HotelOfBellsModel" "row" "[I") (List.mem_of_getElem? (i := 2) rfl)) (fun _ h9 => h9) rfl dX6_begun_17 ?_
  refine lv_bipush (v := 117) hx hb dX6_begun_20 (by decide) ?_
  refine va_iald hx hb hK hP 1 0 rfl rfl (by unfold vp_in; decide) dX6_begun_22 ?_
  refine lv_topi (fun x_4 e_5 => ?_)
  obtain rfl : xr = x_4 := (e_5.trans (rw_l117 _ _ _ _)).symm
  refine lv_iload_n hx hb dX6_begun_23 rfl (lv_at hl 0 rfl) ?_
  refine lv_icmp_lt (tgt := 50) hx hb dX6_begun_24 (by decide) (fun c_6 => ?_) (fun c_6 => ?_)
  · refine lv_iinc (v := 0) (lv' := [(3, .int 0), (2, .int 1), (0, .ref h0), (1, .int 0)]) hx hb dX6_begun_50 hl (k := 0) rfl (by decide) (by decide) rfl (fun ls hl => ?_)
    refine lv_goto (tgt := 12) hx hb dX6_begun_53 (by decide) ?_
    refine lv_iload_n hx hb dX6_begun_12 rfl (lv_at hl 0 rfl) ?_
    refine lv_if_le (tgt := 56) hx hb dX6_begun_13 (by decide) (fun _ => ?_) (fun c_7 => absurd (by decide) c_7)
    refine lv_iconst (v := 0) hx hb dX6_begun_56 (by decide) ?_
    have hP9 := hP.sub (ws' := [(h0, .inr (11, [.int th, .int 1, .int 0, .int 1, .ref rq, .ref sbq])), (rq, .inl (ci, 119, .inl (RW xh xr xt xw)))]) [0, 1] rfl
    have hD9 := hD.sub (ws' := [(h0, .inr (11, [.int th, .int 1, .int 0, .int 1, .ref rq, .ref sbq])), (rq, .inl (ci, 119, .inl (RW xh xr xt xw)))]) [0, 1] (by decide) rfl
    have hK9 := hK.sub (tys' := [(ci, .int)]) [0] rfl
    exact W.iret (v := 0) hx hb hr (fun t ht hW => ⟨⟨0, (), rfl, trivial, by rw [ht]; exact hP9, va_K.moved hW.alike hK9, hD9⟩, hS.F ht⟩) hS.2.2 dX6_begun_57
  · refine lv_aload_n hx hb dX6_begun_27 rfl (lv_at hl 2 rfl) ?_
    refine lv_iload_n hx hb dX6_begun_28 rfl (lv_at hl 0 rfl) ?_
    have hPc := hP.sub (ws' := [(h0, .inr (11, [.int th, .int 1, .int 0, .int 1, .ref rq, .ref sbq])), (rq, .inl (ci, 119, .inl (RW xh xr xt xw)))]) [0, 1] rfl
    have hDc := hD.sub (ws' := [(h0, .inr (11, [.int th, .int 1, .int 0, .int 1, .ref rq, .ref sbq])), (rq, .inl (ci, 119, .inl (RW xh xr xt xw)))]) [0, 1] (by decide) rfl
    have hKc := hK.sub (tys' := [(ci, .int)]) [0] rfl
    have hFc := va_free (wc := [(h0, .inr (11, [.int th, .int 1, .int 0, .int 1, .ref rq, .ref sbq])), (rq, .inl (ci, 119, .inl (RW xh xr xt xw)))]) hD hS hA [0, 1] rfl
    refine va_calli (va_runV (As := [.int 1]) (rest := []) ⟨hx, hb, hml, hown, hts⟩ (c_latest l hl9 dC dI tE h0 rq sbq th ci xh xr xt xw _ ) (cwV 1 hts (goodIn_app (goodIn_r _ [17, 18, 19, 6] (by rfl) (by decide +kernel)) gg_c_begun_c_latest) rfl rfl rfl (by decide +kernel) ⟨Nat.le_of_ble_eq_true rfl, Nat.le_of_ble_eq_true rfl⟩) ⟨Pre0.blind, va_recv hKc hPc (ci := 11) (q0 := 0) rfl rfl, Pre0.give hPc hKc hDc hT hS hFc⟩ rfl rfl hl.1 rfl (lv_room (Nat.le_of_ble_eq_true rfl)) dX6_begun_29 ⟨Nat.le_of_ble_eq_true rfl, Nat.le_of_ble_eq_true rfl⟩) hS (fun q _ h => hFc q h) hFc (fun r_8 u t H1 locs ht hvm hw hB hz1 hk1 hS => ?_)
    obtain ⟨hP1, hK1, hD1⟩ := hB
    rw [ht] at hP1
    have hK1 := va_K.moved hvm.symm hK1
    obtain ⟨hP, hD⟩ := va_join (wr := []) (w1 := [(h0, .inr (11, [.int th, .int 1, .int 0, .int 1, .ref rq, .ref sbq])), (rq, .inl (ci, 119, .inl (RW xh xr xt xw)))]) hP hD [0, 1] [] rfl rfl (by decide) (by decide) hk1 hFc hP1 hD1
    generalize H1 = H at hP hS ⊢
    have hP : va_P (dC, dI) vwCl [(h0, .inr (11, [.int th, .int 1, .int 0, .int 1, .ref rq, .ref sbq])), (rq, .inl (ci, 119, .inl (RW xh xr xt xw)))] H := hP
    have hD : va_D A [(h0, .inr (11, [.int th, .int 1, .int 0, .int 1, .ref rq, .ref sbq])), (rq, .inl (ci, 119, .inl (RW xh xr xt xw)))] := hD
    refine W.widen (k := 0) (n := 0) (by omega) (by omega) ?_
    refine lv_aload_n hx hb dX6_begun_32 rfl (lv_at hl 2 rfl) ?_
    refine lv_iload_n hx hb dX6_begun_33 rfl (lv_at hl 3 rfl) ?_
    refine lv_iconst (v := 2) hx hb dX6_begun_34 (by decide) ?_
    have hPc := hP.sub (ws' := [(h0, .inr (11, [.int th, .int 1, .int 0, .int 1, .ref rq, .ref sbq])), (rq, .inl (ci, 119, .inl (RW xh xr xt xw)))]) [0, 1] rfl
    have hDc := hD.sub (ws' := [(h0, .inr (11, [.int th, .int 1, .int 0, .int 1, .ref rq, .ref sbq])), (rq, .inl (ci, 119, .inl (RW xh xr xt xw)))]) [0, 1] (by decide) rfl
    have hKc := hK.sub (tys' := [(ci, .int)]) [0] rfl
    have hFc := va_free (wc := [(h0, .inr (11, [.int th, .int 1, .int 0, .int 1, .ref rq, .ref sbq])), (rq, .inl (ci, 119, .inl (RW xh xr xt xw)))]) hD hS hA [0, 1] rfl
    refine va_calli (va_runV (As := [.int 0, .int 2]) (rest := [.int r_8]) ⟨hx, hb, hml, hown, hts⟩ (c_fl_2 l hl9 dC dI tE h0 rq sbq th ci xh xr xt xw _ ) (cwV 2 hts (goodIn_app (goodIn_r _ [3, 4, 5, 6] (by rfl) (by decide +kernel)) gg_c_begun_c_fl_2) rfl rfl rfl (by decide +kernel) ⟨Nat.le_of_ble_eq_true rfl, Nat.le_of_ble_eq_true rfl⟩) ⟨Pre0.blind, va_recv hKc hPc (ci := 11) (q0 := 0) rfl rfl, Pre0.give hPc hKc hDc hT hS hFc⟩ rfl rfl hl.1 rfl (lv_room (Nat.le_of_ble_eq_true rfl)) dX6_begun_35 ⟨Nat.le_of_ble_eq_true rfl, Nat.le_of_ble_eq_true rfl⟩) hS (fun q _ h => hFc q h) hFc (fun r_9 u t H1 locs ht hvm hw hB hz1 hk1 hS => ?_)
    obtain ⟨hP1, hK1, hD1⟩ := hB
    rw [ht] at hP1
    have hK1 := va_K.moved hvm.symm hK1
    obtain ⟨hP, hD⟩ := va_join (wr := []) (w1 := [(h0, .inr (11, [.int th, .int 1, .int 0, .int 1, .ref rq, .ref sbq])), (rq, .inl (ci, 119, .inl (RW xh xr xt xw)))]) hP hD [0, 1] [] rfl rfl (by decide) (by decide) hk1 hFc hP1 hD1
    generalize H1 = H at hP hS ⊢
    have hP : va_P (dC, dI) vwCl [(h0, .inr (11, [.int th, .int 1, .int 0, .int 1, .ref rq, .ref sbq])), (rq, .inl (ci, 119, .inl (RW xh xr xt xw)))] H := hP
    have hD : va_D A [(h0, .inr (11, [.int th, .int 1, .int 0, .int 1, .ref rq, .ref sbq])), (rq, .inl (ci, 119, .inl (RW xh xr xt xw)))] := hD
    refine W.widen (k := 0) (n := 0) (by omega) (by omega) ?_
    obtain rfl : r_9 = 1 := hw
    refine lv_iload_n hx hb dX6_begun_38 rfl (lv_at hl 1 rfl) ?_
    refine lv_iload_n hx hb dX6_begun_39 rfl (lv_at hl 0 rfl) ?_
    refine lv_isub hx hb dX6_begun_40 ?_
    refine lv_topi (fun x_10 e_11 => ?_)
    obtain rfl : x_10 = 0 := e_11.trans (by decide)
    have hPc := hP.sub (ws' := []) [] rfl
    have hDc := hD.sub (ws' := []) [] (by decide) rfl
    have hKc := hK.sub (tys' := []) [] rfl
    have hFc := va_free (wc := []) hD hS hA [] rfl
    refine va_calli (va_runS (As := [.int 0]) (rest := [.int 1, .int r_8]) ⟨hx, hb, hml, hown, hts⟩ (c_power_0 l hl9 dC dI tE  _ ) (va_cwS 1 hts (goodIn_app (goodIn_r _ [15, 16, 6] (by rfl) (by decide +kernel)) gg_c_begun_c_power_0) rfl rfl rfl (by decide +kernel) ⟨Nat.le_of_ble_eq_true rfl, Nat.le_of_ble_eq_true rfl⟩) ⟨Pre0.blind, Pre0.give hPc hKc hDc hT hS hFc⟩ rfl rfl hl.1 rfl (lv_room (Nat.le_of_ble_eq_true rfl)) dX6_begun_41 ⟨Nat.le_of_ble_eq_true rfl, Nat.le_of_ble_eq_true rfl⟩) hS (fun q _ h => hFc q h) hFc (fun r_12 u t H1 locs ht hvm hw hB hz1 hk1 hS => ?_)
    obtain ⟨hP1, hK1, hD1⟩ := hB
    rw [ht] at hP1
    have hK1 := va_K.moved hvm.symm hK1
    obtain ⟨hP, hD⟩ := va_join (wr := [(h0, .inr (11, [.int th, .int 1, .int 0, .int 1, .ref rq, .ref sbq])), (rq, .inl (ci, 119, .inl (RW xh xr xt xw)))]) (w1 := []) hP hD [] [0, 1] rfl rfl (by decide) (by decide) hk1 hFc hP1 hD1
    generalize H1 = H at hP hS ⊢
    have hP : va_P (dC, dI) vwCl [(h0, .inr (11, [.int th, .int 1, .int 0, .int 1, .ref rq, .ref sbq])), (rq, .inl (ci, 119, .inl (RW xh xr xt xw)))] H := hP
    have hD : va_D A [(h0, .inr (11, [.int th, .int 1, .int 0, .int 1, .ref rq, .ref sbq])), (rq, .inl (ci, 119, .inl (RW xh xr xt xw)))] := hD
    refine W.widen (k := 0) (n := 0) (by omega) (by omega) ?_
    obtain rfl : r_12 = 1 := hw
    refine lv_idiv hx hb dX6_begun_44 (by decide) ?_
    refine lv_topi (fun x_13 e_14 => ?_)
    obtain rfl : x_13 = 1 := e_14.trans (by decide)
    refine lv_icmp_ne (tgt := 50) hx hb dX6_begun_45 (by decide) (fun c_15 => ?_) (fun c_15 => ?_)
    · refine lv_iinc (v := 0) (lv' := [(3, .int 0), (2, .int 1), (0, .ref h0), (1, .int 0)]) hx hb dX6_begun_50 hl (k := 0) rfl (by decide) (by decide) rfl (fun ls hl => ?_)
      refine lv_goto (tgt := 12) hx hb dX6_begun_53 (by decide) ?_
      refine lv_iload_n hx hb dX6_begun_12 rfl (lv_at hl 0 rfl) ?_
      refine lv_if_le (tgt := 56) hx hb dX6_begun_13 (by decide) (fun _ => ?_) (fun c_16 => absurd (by decide) c_16)
      refine lv_iconst (v := 0) hx hb dX6_begun_56 (by decide) ?_
      have hP9 := hP.sub (ws' := [(h0, .inr (11, [.int th, .int 1, .int 0, .int 1, .ref rq, .ref sbq])), (rq, .inl (ci, 119, .inl (RW xh xr xt xw)))]) [0, 1] rfl
      have hD9 := hD.sub (ws' := [(h0, .inr (11, [.int th, .int 1, .int 0, .int 1, .ref rq, .ref sbq])), (rq, .inl (ci, 119, .inl (RW xh xr xt xw)))]) [0, 1] (by decide) rfl
      have hK9 := hK.sub (tys' := [(ci, .int)]) [0] rfl
      exact W.iret (v := 0) hx hb hr (fun t ht hW => ⟨⟨0, (), rfl, trivial, by rw [ht]; exact hP9, va_K.moved hW.alike hK9, hD9⟩, hS.F ht⟩) hS.2.2 dX6_begun_57
    · refine lv_iload_n hx hb dX6_begun_48 rfl (lv_at hl 0 rfl) ?_
      have hP9 := hP.sub (ws' := [(h0, .inr (11, [.int th, .int 1, .int 0, .int 1, .ref rq, .ref sbq])), (rq, .inl (ci, 119, .inl (RW xh xr xt xw)))]) [0, 1] rfl
      have hD9 := hD.sub (ws' := [(h0, .inr (11, [.int th, .int 1, .int 0, .int 1, .ref rq, .ref sbq])), (rq, .inl (ci, 119, .inl (RW xh xr xt xw)))]) [0, 1] (by decide) rfl
      have hK9 := hK.sub (tys' := [(ci, .int)]) [0] rfl
      exact W.iret (v := 1) hx hb hr (fun t ht hW => ⟨⟨1, (), rfl, trivial, by rw [ht]; exact hP9, va_K.moved hW.alike hK9, hD9⟩, hS.F ht⟩) hS.2.2 dX6_begun_49
def v_c_Mact : List Cond := .code yX6_act cX6_act 5 (some .boolean) :: ([Cond.code yX6_gu cX6_gu 3 (some .int), Cond.fieldLink RX6 9 "HotelOfBellsModel" "row" "[I", Cond.methodLink RX6 78 yX6_gu, Cond.instanceMethod yX6_gu, Cond.selects RX6 yX6_gu yX6_gu, Cond.initialized RX6, Cond.code yX6_isHome cX6_isHome 2 (some .boolean), Cond.methodLink RX6 87 yX6_isHome, Cond.instanceMethod yX6_isHome, Cond.selects RX6 yX6_isHome yX6_isHome, Cond.fieldLink RX6 31 "HotelOfBellsModel" "lifts" "I"] ++ (wsX60 ++ []))
theorem u_c_Mact_X6 : ∀ w ∈ wsX60, w ∈ v_c_Mact := fun _ h => List.mem_cons_of_mem _ (List.mem_append_right _ (List.mem_append_left _ h))
theorem gg_c_Mact_c_gu_2 : GoodIn v_c_Mact v_c_gu_2 := goodIn_r _ [1, 2, 12, 13, 14, 15, 16, 17] (by rfl) (by decide +kernel)
theorem gg_c_Mact_c_isHome : GoodIn v_c_Mact v_c_isHome := goodIn_r _ [7, 1, 2, 3, 4, 5, 6, 12, 13, 14, 15, 16, 17] (by rfl) (by decide +kernel)
theorem gg_c_Mact_c_gu_0 : GoodIn v_c_Mact v_c_gu_0 := goodIn_r _ [1, 2, 12, 13, 14, 15, 16, 17] (by rfl) (by decide +kernel)
set_option maxHeartbeats 4000000 in
set_option maxRecDepth 100000 in
theorem c_Mact (l : Launch) (hl9 : l.stackTraces = false) (dC : Nat → ClassId) (dI : Nat → Nat → Nat) (tE : Nat) (h0 : Nat) (rq : Nat) (sbq : Nat) (th : Int32) (ci : ClassId) (xh : Int32) (xr : Int32) (xt : Int32) (xw : Int32) (sz : Nat) : Met l yX6_act v_c_Mact ({ frames := 2, cells := 0, slots := 0, locals := 43 }) (va_Pc [.ref h0, .int 0] (Pre0 dC dI tE sz [(ci, .int)] [(h0, .inr (11, [.int th, .int 1, .int 0, .int 1, .ref rq, .ref sbq])), (rq, .inl (ci, 119, .inl (RW xh xr xt xw)))])) (va_Qi (fun (r : Int32) (_ : Unit) => r = 0) (fun _ t => Pst dC dI [(ci, .int)] (va_A [(h0, .inr (11, [.int th, .int 1, .int 0, .int 1, .ref rq, .ref sbq])), (rq, .inl (ci, 119, .inl (RW xh xr xt xw)))] sz) [(h0, .inr (11, [.int th, .int 1, .int 0, .int 1, .ref rq, .ref sbq])), (rq, .inl (ci, 119, .inl (RW xh xr xt xw)))] t) (va_A [(h0, .inr (11, [.int th, .int 1, .int 0, .int 1, .ref rq, .ref sbq])), (rq, .inl (ci, 119, .inl (RW xh xr xt xw)))] sz)) 0 0 (va_A [(h0, .inr (11, [.int th, .int 1, .int 0, .int 1, .ref rq, .ref sbq])), (rq, .inl (ci, 119, .inl (RW xh xr xt xw)))] sz) := by
  refine Met.ofW (cc := cX6_act) (maxL := 5) (ret := (some .boolean)) (by decide) rfl ?_
  intro p e s m args below meth c s₁ B hml hv
  obtain ⟨rfl, hsz, hP, hK, hD0, hT⟩ := hv
  have hx := B.exec
  have hb := B.bytes
  have hr := B.returns
  have hts := atoms_spec (ws := v_c_Mact) B.pre
  have hown : s.vm.findClass RX6 = some m.cls := findClass_of_methodNamed B.named
  have hlocks := B.notSynchronized
  subst hsz
  have hD := hD0.self (sz := s.heap.size)
  generalize hAe : va_A [(h0, .inr (11, [.int th, .int 1, .int 0, .int 1, .ref rq, .ref sbq])), (rq, .inl (ci, 119, .inl (RW xh xr xt xw)))] s.heap.size = A at hD hT ⊢
  have hA : ∀ q : Nat, s.heap.size ≤ q → A q := fun q h => by rw [← hAe]; exact Or.inr h
  have hS : va_S A s.heap s.heap [] := va_S.rf
  have hl := lv_entry ([.ref h0, .int 0]) (n := 5) (Nat.le_of_ble_eq_true rfl)
  rw [lg_entry_eq]
  generalize (lg_sl ([.ref h0, .int 0]) ++ List.replicate (5 - (lg_sl ([.ref h0, .int 0])).length) Slot.unset).toArray = ls at hl ⊢
  have hl : lv_has ls 5 [(0, .ref h0), (1, .int 0)] := hl
  refine lv_aload_n hx hb dX6_act_0 rfl (lv_at hl 0 rfl) ?_
  refine lv_iload_n hx hb dX6_act_1 rfl (lv_at hl 1 rfl) ?_
  refine lv_iconst (v := 2) hx hb dX6_act_2 (by decide) ?_
  have hPc := hP.sub (ws' := [(h0, .inr (11, [.int th, .int 1, .int 0, .int 1, .ref rq, .ref sbq])), (rq, .inl (ci, 119, .inl (RW xh xr xt xw)))]) [0, 1] rfl
  have hDc := hD.sub (ws' := [(h0, .inr (11, [.int th, .int 1, .int 0, .int 1, .ref rq, .ref sbq])), (rq, .inl (ci, 119, .inl (RW xh xr xt xw)))]) [0, 1] (by decide) rfl
  have hKc := hK.sub (tys' := [(ci, .int)]) [0] rfl
  have hFc := va_free (wc := [(h0, .inr (11, [.int th, .int 1, .int 0, .int 1, .ref rq, .ref sbq])), (rq, .inl (ci, 119, .inl (RW xh xr xt xw)))]) hD hS hA [0, 1] rfl
  refine va_calli (va_runV (As := [.int 0, .int 2]) (rest := []) ⟨hx, hb, hml, hown, hts⟩ (c_gu_2 l hl9 dC dI tE h0 rq sbq th ci xh xr xt xw _ ) (cwV 2 hts (goodIn_app (goodIn_r _ [3, 4, 5, 6] (by rfl) (by decide +kernel)) gg_c_Mact_c_gu_2) rfl rfl rfl (by decide +kernel) ⟨Nat.le_of_ble_eq_true rfl, Nat.le_of_ble_eq_true rfl⟩) ⟨Pre0.blind, va_recv hKc hPc (ci := 11) (q0 := 0) rfl rfl, Pre0.give hPc hKc hDc hT hS hFc⟩ rfl rfl hl.1 rfl (lv_room (Nat.le_of_ble_eq_true rfl)) dX6_act_3 ⟨Nat.le_of_ble_eq_true rfl, Nat.le_of_ble_eq_true rfl⟩) hS (fun q _ h => hFc q h) hFc (fun r_1 u t H1 locs ht hvm hw hB hz1 hk1 hS => ?_)
  obtain ⟨hP1, hK1, hD1⟩ := hB
  rw [ht] at hP1
  have hK1 := va_K.moved hvm.symm hK1
  obtain ⟨hP, hD⟩ := va_join (wr := []) (w1 := [(h0, .inr (11, [.int th, .int 1, .int 0, .int 1, .ref rq, .ref sbq])), (rq, .inl (ci, 119, .inl (RW xh xr xt xw)))]) hP hD [0, 1] [] rfl rfl (by decide) (by decide) hk1 hFc hP1 hD1
  generalize H1 = H at hP hS ⊢
  have hP : va_P (dC, dI) vwCl [(h0, .inr (11, [.int th, .int 1, .int 0, .int 1, .ref rq, .ref sbq])), (rq, .inl (ci, 119, .inl (RW xh xr xt xw)))] H := hP
  have hD : va_D A [(h0, .inr (11, [.int th, .int 1, .int 0, .int 1, .ref rq, .ref sbq])), (rq, .inl (ci, 119, .inl (RW xh xr xt xw)))] := hD
  refine W.widen (k := 0) (n := 0) (by omega) (by omega) ?_
  obtain rfl : r_1 = (-1) := hw
  refine lv_istore_n (lv' := [(2, .int (-1)), (0, .ref h0), (1, .int 0)]) hx hb dX6_act_6 rfl hl (by decide) rfl (fun ls hl => ?_)
  refine lv_iload_n hx hb dX6_act_7 rfl (lv_at hl 0 rfl) ?_
  refine lv_iconst (v := (-1)) hx hb dX6_act_8 (by decide) ?_
  refine lv_icmp_eq (tgt := 79) hx hb dX6_act_9 (by decide) (fun _ => ?_) (fun c_2 => absurd (by decide) c_2)
  refine lv_aload_n hx hb dX6_act_79 rfl (lv_at hl 1 rfl) ?_
  refine lv_iload_n hx hb dX6_act_80 rfl (lv_at hl 2 rfl) ?_
  have hPc := hP.sub (ws' := [(h0, .inr (11, [.int th, .int 1, .int 0, .int 1, .ref rq, .ref sbq])), (rq, .inl (ci, 119, .inl (RW xh xr xt xw)))]) [0, 1] rfl
  have hDc := hD.sub (ws' := [(h0, .inr (11, [.int th, .int 1, .int 0, .int 1, .ref rq, .ref sbq])), (rq, .inl (ci, 119, .inl (RW xh xr xt xw)))]) [0, 1] (by decide) rfl
  have hKc := hK.sub (tys' := [(ci, .int)]) [0] rfl
  have hFc := va_free (wc := [(h0, .inr (11, [.int th, .int 1, .int 0, .int 1, .ref rq, .ref sbq])), (rq, .inl (ci, 119, .inl (RW xh xr xt xw)))]) hD hS hA [0, 1] rfl
  refine va_calli (va_runV (As := [.int 0]) (rest := []) ⟨hx, hb, hml, hown, hts⟩ (c_isHome l hl9 dC dI tE h0 rq sbq th ci xh xr xt xw _ ) (cwV 1 hts (goodIn_app (goodIn_r _ [8, 9, 10, 6] (by rfl) (by decide +kernel)) gg_c_Mact_c_isHome) rfl rfl rfl (by decide +kernel) ⟨Nat.le_of_ble_eq_true rfl, Nat.le_of_ble_eq_true rfl⟩) ⟨Pre0.blind, va_recv hKc hPc (ci := 11) (q0 := 0) rfl rfl, Pre0.give hPc hKc hDc hT hS hFc⟩ rfl rfl hl.1 rfl (lv_room (Nat.le_of_ble_eq_true rfl)) dX6_act_81 ⟨Nat.le_of_ble_eq_true rfl, Nat.le_of_ble_eq_true rfl⟩) hS (fun q _ h => hFc q h) hFc (fun r_3 u t H1 locs ht hvm hw hB hz1 hk1 hS => ?_)
  obtain ⟨hP1, hK1, hD1⟩ := hB
  rw [ht] at hP1
  have hK1 := va_K.moved hvm.symm hK1
  obtain ⟨hP, hD⟩ := va_join (wr := []) (w1 := [(h0, .inr (11, [.int th, .int 1, .int 0, .int 1, .ref rq, .ref sbq])), (rq, .inl (ci, 119, .inl (RW xh xr xt xw)))]) hP hD [0, 1] [] rfl rfl (by decide) (by decide) hk1 hFc hP1 hD1
  generalize H1 = H at hP hS ⊢
  have hP : va_P (dC, dI) vwCl [(h0, .inr (11, [.int th, .int 1, .int 0, .int 1, .ref rq, .ref sbq])), (rq, .inl (ci, 119, .inl (RW xh xr xt xw)))] H := hP
  have hD : va_D A [(h0, .inr (11, [.int th, .int 1, .int 0, .int 1, .ref rq, .ref sbq])), (rq, .inl (ci, 119, .inl (RW xh xr xt xw)))] := hD
  refine W.widen (k := 0) (n := 0) (by omega) (by omega) ?_
  obtain rfl : r_3 = 0 := hw
  refine lv_if_eq (tgt := 89) hx hb dX6_act_84 (by decide) (fun _ => ?_) (fun c_4 => absurd (by decide) c_4)
  refine lv_aload_n hx hb dX6_act_89 rfl (lv_at hl 1 rfl) ?_
  refine lv_iload_n hx hb dX6_act_90 rfl (lv_at hl 2 rfl) ?_
  refine lv_iconst (v := 0) hx hb dX6_act_91 (by decide) ?_
  have hPc := hP.sub (ws' := [(h0, .inr (11, [.int th, .int 1, .int 0, .int 1, .ref rq, .ref sbq])), (rq, .inl (ci, 119, .inl (RW xh xr xt xw)))]) [0, 1] rfl
  have hDc := hD.sub (ws' := [(h0, .inr (11, [.int th, .int 1, .int 0, .int 1, .ref rq, .ref sbq])), (rq, .inl (ci, 119, .inl (RW xh xr xt xw)))]) [0, 1] (by decide) rfl
  have hKc := hK.sub (tys' := [(ci, .int)]) [0] rfl
  have hFc := va_free (wc := [(h0, .inr (11, [.int th, .int 1, .int 0, .int 1, .ref rq, .ref sbq])), (rq, .inl (ci, 119, .inl (RW xh xr xt xw)))]) hD hS hA [0, 1] rfl
  refine va_calli (va_runV (As := [.int 0, .int 0]) (rest := []) ⟨hx, hb, hml, hown, hts⟩ (c_gu_0 l hl9 dC dI tE h0 rq sbq th ci xh xr xt xw _ ) (cwV 2 hts (goodIn_app (goodIn_r _ [3, 4, 5, 6] (by rfl) (by decide +kernel)) gg_c_Mact_c_gu_0) rfl rfl rfl (by decide +kernel) ⟨Nat.le_of_ble_eq_true rfl, Nat.le_of_ble_eq_true rfl⟩) ⟨Pre0.blind, va_recv hKc hPc (ci := 11) (q0 := 0) rfl rfl, Pre0.give hPc hKc hDc hT hS hFc⟩ rfl rfl hl.1 rfl (lv_room (Nat.le_of_ble_eq_true rfl)) dX6_act_92 ⟨Nat.le_of_ble_eq_true rfl, Nat.le_of_ble_eq_true rfl⟩) hS (fun q _ h => hFc q h) hFc (fun r_5 u t H1 locs ht hvm hw hB hz1 hk1 hS => ?_)
  obtain ⟨hP1, hK1, hD1⟩ := hB
  rw [ht] at hP1
  have hK1 := va_K.moved hvm.symm hK1
  obtain ⟨hP, hD⟩ := va_join (wr := []) (w1 := [(h0, .inr (11, [.int th, .int 1, .int 0, .int 1, .ref rq, .ref sbq])), (rq, .inl (ci, 119, .inl (RW xh xr xt xw)))]) hP hD [0, 1] [] rfl rfl (by decide) (by decide) hk1 hFc hP1 hD1
  generalize H1 = H at hP hS ⊢
  have hP : va_P (dC, dI) vwCl [(h0, .inr (11, [.int th, .int 1, .int 0, .int 1, .ref rq, .ref sbq])), (rq, .inl (ci, 119, .inl (RW xh xr xt xw)))] H := hP
  have hD : va_D A [(h0, .inr (11, [.int th, .int 1, .int 0, .int 1, .ref rq, .ref sbq])), (rq, .inl (ci, 119, .inl (RW xh xr xt xw)))] := hD
  refine W.widen (k := 0) (n := 0) (by omega) (by omega) ?_
  obtain rfl : r_5 = 0 := hw
  refine lv_istore_n (lv' := [(3, .int 0), (2, .int (-1)), (0, .ref h0), (1, .int 0)]) hx hb dX6_act_95 rfl hl (by decide) rfl (fun ls hl => ?_)
  refine lv_aload_n hx hb dX6_act_96 rfl (lv_at hl 2 rfl) ?_
  refine va_get (D := (dC, dI)) (ci := 11) (v := .int 0) (C := RX6) (T := TX6) (N := 6) hx hb hts u_c_Mact_X6 hown hK hP 0 rfl rfl 2 (by decide) (hts (.fieldLink RX6 31 "HotelOfBellsModel" "lifts" "I") (List.mem_of_getElem? (i := 11) rfl)) (fun _ h9 => h9) rfl dX6_act_97 ?_
  refine lv_iconst (v := 1) hx hb dX6_act_100 (by decide) ?_
  refine lv_isub hx hb dX6_act_101 ?_
  refine lv_topi (fun x_6 e_7 => ?_)
  obtain rfl : x_6 = (-1) := e_7.trans (by decide)
  refine lv_istore (lv' := [(4, .int (-1)), (3, .int 0), (2, .int (-1)), (0, .ref h0), (1, .int 0)]) hx hb dX6_act_102 hl (by decide) rfl (fun ls hl => ?_)
  refine lv_iload hx hb dX6_act_104 (lv_at hl 0 rfl) ?_
  refine lv_if_lt (tgt := 150) hx hb dX6_act_106 (by decide) (fun _ => ?_) (fun c_8 => absurd (by decide) c_8)
  refine lv_iload_n hx hb dX6_act_150 rfl (lv_at hl 2 rfl) ?_
  refine lv_iconst (v := (-1)) hx hb dX6_act_151 (by decide) ?_
  refine lv_icmp_ne (tgt := 157) hx hb dX6_act_152 (by decide) (fun c_9 => absurd (by decide) c_9) (fun _ => ?_)
  refine lv_iconst (v := 0) hx hb dX6_act_155 (by decide) ?_
  have hP9 := hP.sub (ws' := [(h0, .inr (11, [.int th, .int 1, .int 0, .int 1, .ref rq, .ref sbq])), (rq, .inl (ci, 119, .inl (RW xh xr xt xw)))]) [0, 1] rfl
  have hD9 := hD.sub (ws' := [(h0, .inr (11, [.int th, .int 1, .int 0, .int 1, .ref rq, .ref sbq])), (rq, .inl (ci, 119, .inl (RW xh xr xt xw)))]) [0, 1] (by decide) rfl
  have hK9 := hK.sub (tys' := [(ci, .int)]) [0] rfl
  exact W.zret (v := 0) hx hb hr (by decide) (fun t ht hW => ⟨⟨0, (), rfl, rfl, by rw [ht]; exact hP9, va_K.moved hW.alike hK9, hD9⟩, hS.F ht⟩) hS.2.2 dX6_act_156
def v_c_ringOne : List Cond := .code yX6_ringOne cX6_ringOne 4 (some .int) :: ([Cond.fieldLink RX6 34 "HotelOfBellsModel" "guests" "I", Cond.code yX6_isHome cX6_isHome 2 (some .boolean), Cond.code yX6_gu cX6_gu 3 (some .int), Cond.fieldLink RX6 9 "HotelOfBellsModel" "row" "[I", Cond.methodLink RX6 78 yX6_gu, Cond.instanceMethod yX6_gu, Cond.selects RX6 yX6_gu yX6_gu, Cond.initialized RX6, Cond.methodLink RX6 87 yX6_isHome, Cond.instanceMethod yX6_isHome, Cond.selects RX6 yX6_isHome yX6_isHome, Cond.code yX6_setGu cX6_setGu 4 none, Cond.methodLink RX6 84 yX6_setGu, Cond.instanceMethod yX6_setGu, Cond.selects RX6 yX6_setGu yX6_setGu, Cond.code yX6_power cX6_power 3 (some .int), Cond.methodLink RX6 90 yX6_power, Cond.static yX6_power, Cond.fieldLink RX6 24 "HotelOfBellsModel" "floors" "I", Cond.code yX6_begun cX6_begun 4 (some .int), Cond.code yX6_fl cX6_fl 3 (some .int), Cond.methodLink RX6 41 yX6_fl, Cond.instanceMethod yX6_fl, Cond.selects RX6 yX6_fl yX6_fl, Cond.code yX6_digits cX6_digits 3 (some .int), Cond.code yX6_isIn cX6_isIn 3 (some .boolean), Cond.methodLink RX6 27 yX6_isIn, Cond.static yX6_isIn, Cond.methodLink RX6 53 yX6_digits, Cond.static yX6_digits, Cond.code yX6_latest cX6_latest 2 (some .int), Cond.methodLink RX6 93 yX6_latest, Cond.instanceMethod yX6_latest, Cond.selects RX6 yX6_latest yX6_latest, Cond.methodLink RX6 96 yX6_begun, Cond.instanceMethod yX6_begun, Cond.selects RX6 yX6_begun yX6_begun, Cond.code yX6_setFl cX6_setFl 4 none, Cond.methodLink RX6 49 yX6_setFl, Cond.instanceMethod yX6_setFl, Cond.selects RX6 yX6_setFl yX6_setFl, Cond.fieldLink RX6 31 "HotelOfBellsModel" "lifts" "I", Cond.code yX6_act cX6_act 5 (some .boolean), Cond.methodLink RX6 127 yX6_act, Cond.instanceMethod yX6_act, Cond.selects RX6 yX6_act yX6_act] ++ (wsX60 ++ []))
theorem u_c_ringOne_X6 : ∀ w ∈ wsX60, w ∈ v_c_ringOne := fun _ h => List.mem_cons_of_mem _ (List.mem_append_right _ (List.mem_append_left _ h))
theorem gg_c_ringOne_c_isHome : GoodIn v_c_ringOne v_c_isHome := goodIn_r _ [2, 3, 4, 5, 6, 7, 8, 47, 48, 49, 50, 51, 52] (by rfl) (by decide +kernel)
theorem gg_c_ringOne_c_gu_5 : GoodIn v_c_ringOne v_c_gu_5 := goodIn_r _ [3, 4, 47, 48, 49, 50, 51, 52] (by rfl) (by decide +kernel)
theorem gg_c_ringOne_c_setGu_5 : GoodIn v_c_ringOne v_c_setGu_5 := goodIn_r _ [12, 4, 47, 48, 49, 50, 51, 52] (by rfl) (by decide +kernel)
theorem gg_c_ringOne_c_power_5 : GoodIn v_c_ringOne v_c_power_5 := goodIn_r _ [16] (by rfl) (by decide +kernel)
theorem gg_c_ringOne_c_begun : GoodIn v_c_ringOne v_c_begun := goodIn_r _ [20, 21, 4, 22, 23, 24, 8, 25, 26, 27, 28, 29, 30, 31, 16, 17, 18, 32, 33, 34, 47, 48, 49, 50, 51, 52] (by rfl) (by decide +kernel)
theorem gg_c_ringOne_c_fl_2 : GoodIn v_c_ringOne v_c_fl_2 := goodIn_r _ [21, 4, 47, 48, 49, 50, 51, 52] (by rfl) (by decide +kernel)
theorem gg_c_ringOne_c_digits : GoodIn v_c_ringOne v_c_digits := goodIn_r _ [25, 26, 27, 28, 8] (by rfl) (by decide +kernel)
theorem gg_c_ringOne_c_fl_1 : GoodIn v_c_ringOne v_c_fl_1 := goodIn_r _ [21, 4, 47, 48, 49, 50, 51, 52] (by rfl) (by decide +kernel)
theorem gg_c_ringOne_c_fl_3 : GoodIn v_c_ringOne v_c_fl_3 := goodIn_r _ [21, 4, 47, 48, 49, 50, 51, 52] (by rfl) (by decide +kernel)
theorem gg_c_ringOne_c_fl_0 : GoodIn v_c_ringOne v_c_fl_0 := goodIn_r _ [21, 4, 47, 48, 49, 50, 51, 52] (by rfl) (by decide +kernel)
theorem gg_c_ringOne_c_setFl_1 : GoodIn v_c_ringOne v_c_setFl_1 := goodIn_r _ [38, 4, 47, 48, 49, 50, 51, 52] (by rfl) (by decide +kernel)
theorem gg_c_ringOne_c_Mact : GoodIn v_c_ringOne v_c_Mact := goodIn_r _ [43, 3, 4, 5, 6, 7, 8, 2, 9, 10, 11, 42, 47, 48, 49, 50, 51, 52] (by rfl) (by decide +kernel)
set_option maxHeartbeats 4000000 in
set_option maxRecDepth 100000 in
theorem c_ringOne (l : Launch) (hl9 : l.stackTraces = false) (dC : Nat → ClassId) (dI : Nat → Nat → Nat) (tE : Nat) (h0 : Nat) (rq : Nat) (sbq : Nat) (th : Int32) (ci : ClassId) (xh : Int32) (xr : Int32) (xt : Int32) (xw : Int32) (p0 : Int32) (sz : Nat) : Met l yX6_ringOne v_c_ringOne ({ frames := 3, cells := 0, slots := 0, locals := 67 }) (va_Pc [.ref h0, .int p0] (Pre0 dC dI tE sz [(ci, .int)] [(h0, .inr (11, [.int th, .int 1, .int 0, .int 1, .ref rq, .ref sbq])), (rq, .inl (ci, 119, .inl (RW xh xr xt xw)))])) (va_Qi (fun (r : Int32) (_ : Unit) => r = 0) (fun _ t => ∃ (vx0 : Int32), ∃ (vx1 : Int32), ∃ (vx2 : Int32), ∃ (vx3 : Int32), Pst dC dI [(ci, .int)] (va_A [(h0, .inr (11, [.int th, .int 1, .int 0, .int 1, .ref rq, .ref sbq])), (rq, .inl (ci, 119, .inl (RW xh xr xt xw)))] sz) [(h0, .inr (11, [.int th, .int 1, .int 0, .int 1, .ref rq, .ref sbq])), (rq, .inl (ci, 119, .inl (RW vx0 vx1 vx2 vx3)))] t) (va_A [(h0, .inr (11, [.int th, .int 1, .int 0, .int 1, .ref rq, .ref sbq])), (rq, .inl (ci, 119, .inl (RW xh xr xt xw)))] sz)) 0 0 (va_A [(h0, .inr (11, [.int th, .int 1, .int 0, .int 1, .ref rq, .ref sbq])), (rq, .inl (ci, 119, .inl (RW xh xr xt xw)))] sz) := by
  refine Met.ofW (cc := cX6_ringOne) (maxL := 4) (ret := (some .int)) (by decide) rfl ?_
  intro p e s m args below meth c s₁ B hml hv
  obtain ⟨rfl, hsz, hP, hK, hD0, hT⟩ := hv
  have hx := B.exec
  have hb := B.bytes
  have hr := B.returns
  have hts := atoms_spec (ws := v_c_ringOne) B.pre
  have hown : s.vm.findClass RX6 = some m.cls := findClass_of_methodNamed B.named
  have hlocks := B.notSynchronized
  subst hsz
  have hD := hD0.self (sz := s.heap.size)
  generalize hAe : va_A [(h0, .inr (11, [.int th, .int 1, .int 0, .int 1, .ref rq, .ref sbq])), (rq, .inl (ci, 119, .inl (RW xh xr xt xw)))] s.heap.size = A at hD hT ⊢
  have hA : ∀ q : Nat, s.heap.size ≤ q → A q := fun q h => by rw [← hAe]; exact Or.inr h
  have hS : va_S A s.heap s.heap [] := va_S.rf
  have hl := lv_entry ([.ref h0, .int p0]) (n := 4) (Nat.le_of_ble_eq_true rfl)
  rw [lg_entry_eq]
  generalize (lg_sl ([.ref h0, .int p0]) ++ List.replicate (4 - (lg_sl ([.ref h0, .int p0])).length) Slot.unset).toArray = ls at hl ⊢
  have hl : lv_has ls 4 [(0, .ref h0), (1, .int p0)] := hl
  refine lv_iconst (v := 0) hx hb dX6_ringOne_0 (by decide) ?_
  refine lv_istore_n (lv' := [(2, .int 0), (0, .ref h0), (1, .int p0)]) hx hb dX6_ringOne_1 rfl hl (by decide) rfl (fun ls hl => ?_)
  refine lv_iload_n hx hb dX6_ringOne_2 rfl (lv_at hl 0 rfl) ?_
  refine lv_aload_n hx hb dX6_ringOne_3 rfl (lv_at hl 1 rfl) ?_
  refine va_get (D := (dC, dI)) (ci := 11) (v := .int 1) (C := RX6) (T := TX6) (N := 6) hx hb hts u_c_ringOne_X6 hown hK hP 0 rfl rfl 3 (by decide) (hts (.fieldLink RX6 34 "HotelOfBellsModel" "guests" "I") (List.mem_of_getElem? (i := 1) rfl)) (fun _ h9 => h9) rfl dX6_ringOne_4 ?_
  refine lv_icmp_ge (tgt := 38) hx hb dX6_ringOne_7 (by decide) (fun c_1 => absurd c_1 (by decide)) (fun _ => ?_)
  refine lv_aload_n hx hb dX6_ringOne_10 rfl (lv_at hl 1 rfl) ?_
  refine lv_iload_n hx hb dX6_ringOne_11 rfl (lv_at hl 0 rfl) ?_
  have hPc := hP.sub (ws' := [(h0, .inr (11, [.int th, .int 1, .int 0, .int 1, .ref rq, .ref sbq])), (rq, .inl (ci, 119, .inl (RW xh xr xt xw)))]) [0, 1] rfl
  have hDc := hD.sub (ws' := [(h0, .inr (11, [.int th, .int 1, .int 0, .int 1, .ref rq, .ref sbq])), (rq, .inl (ci, 119, .inl (RW xh xr xt xw)))]) [0, 1] (by decide) rfl
  have hKc := hK.sub (tys' := [(ci, .int)]) [0] rfl
  have hFc := va_free (wc := [(h0, .inr (11, [.int th, .int 1, .int 0, .int 1, .ref rq, .ref sbq])), (rq, .inl (ci, 119, .inl (RW xh xr xt xw)))]) hD hS hA [0, 1] rfl
  refine va_calli (va_runV (As := [.int 0]) (rest := []) ⟨hx, hb, hml, hown, hts⟩ (c_isHome l hl9 dC dI tE h0 rq sbq th ci xh xr xt xw _ ) (cwV 1 hts (goodIn_app (goodIn_r _ [9, 10, 11, 8] (by rfl) (by decide +kernel)) gg_c_ringOne_c_isHome) rfl rfl rfl (by decide +kernel) ⟨Nat.le_of_ble_eq_true rfl, Nat.le_of_ble_eq_true rfl⟩) ⟨Pre0.blind, va_recv hKc hPc (ci := 11) (q0 := 0) rfl rfl, Pre0.give hPc hKc hDc hT hS hFc⟩ rfl rfl hl.1 rfl (lv_room (Nat.le_of_ble_eq_true rfl)) dX6_ringOne_12 ⟨Nat.le_of_ble_eq_true rfl, Nat.le_of_ble_eq_true rfl⟩) hS (fun q _ h => hFc q h) hFc (fun r_2 u t H1 locs ht hvm hw hB hz1 hk1 hS => ?_)
  obtain ⟨hP1, hK1, hD1⟩ := hB
  rw [ht] at hP1
  have hK1 := va_K.moved hvm.symm hK1
  obtain ⟨hP, hD⟩ := va_join (wr := []) (w1 := [(h0, .inr (11, [.int th, .int 1, .int 0, .int 1, .ref rq, .ref sbq])), (rq, .inl (ci, 119, .inl (RW xh xr xt xw)))]) hP hD [0, 1] [] rfl rfl (by decide) (by decide) hk1 hFc hP1 hD1
  generalize H1 = H at hP hS ⊢
  have hP : va_P (dC, dI) vwCl [(h0, .inr (11, [.int th, .int 1, .int 0, .int 1, .ref rq, .ref sbq])), (rq, .inl (ci, 119, .inl (RW xh xr xt xw)))] H := hP
  have hD : va_D A [(h0, .inr (11, [.int th, .int 1, .int 0, .int 1, .ref rq, .ref sbq])), (rq, .inl (ci, 119, .inl (RW xh xr xt xw)))] := hD
  refine W.widen (k := 0) (n := 0) (by omega) (by omega) ?_
  obtain rfl : r_2 = 0 := hw
  refine lv_if_ne (tgt := 32) hx hb dX6_ringOne_15 (by decide) (fun c_3 => absurd (by decide) c_3) (fun _ => ?_)
  refine lv_aload_n hx hb dX6_ringOne_18 rfl (lv_at hl 1 rfl) ?_
  refine lv_iload_n hx hb dX6_ringOne_19 rfl (lv_at hl 0 rfl) ?_
  refine lv_iconst (v := 5) hx hb dX6_ringOne_20 (by decide) ?_
  refine lv_aload_n hx hb dX6_ringOne_21 rfl (lv_at hl 1 rfl) ?_
  refine lv_iload_n hx hb dX6_ringOne_22 rfl (lv_at hl 0 rfl) ?_
  refine lv_iconst (v := 5) hx hb dX6_ringOne_23 (by decide) ?_
  have hPc := hP.sub (ws' := [(h0, .inr (11, [.int th, .int 1, .int 0, .int 1, .ref rq, .ref sbq])), (rq, .inl (ci, 119, .inl (RW xh xr xt xw)))]) [0, 1] rfl
  have hDc := hD.sub (ws' := [(h0, .inr (11, [.int th, .int 1, .int 0, .int 1, .ref rq, .ref sbq])), (rq, .inl (ci, 119, .inl (RW xh xr xt xw)))]) [0, 1] (by decide) rfl
  have hKc := hK.sub (tys' := [(ci, .int)]) [0] rfl
  have hFc := va_free (wc := [(h0, .inr (11, [.int th, .int 1, .int 0, .int 1, .ref rq, .ref sbq])), (rq, .inl (ci, 119, .inl (RW xh xr xt xw)))]) hD hS hA [0, 1] rfl
  refine va_calli (va_runV (As := [.int 0, .int 5]) (rest := [.int 5, .int 0, .ref h0]) ⟨hx, hb, hml, hown, hts⟩ (c_gu_5 l hl9 dC dI tE h0 rq sbq th ci xh xr xt xw _ ) (cwV 2 hts (goodIn_app (goodIn_r _ [5, 6, 7, 8] (by rfl) (by decide +kernel)) gg_c_ringOne_c_gu_5) rfl rfl rfl (by decide +kernel) ⟨Nat.le_of_ble_eq_true rfl, Nat.le_of_ble_eq_true rfl⟩) ⟨Pre0.blind, va_recv hKc hPc (ci := 11) (q0 := 0) rfl rfl, Pre0.give hPc hKc hDc hT hS hFc⟩ rfl rfl hl.1 rfl (lv_room (Nat.le_of_ble_eq_true rfl)) dX6_ringOne_24 ⟨Nat.le_of_ble_eq_true rfl, Nat.le_of_ble_eq_true rfl⟩) hS (fun q _ h => hFc q h) hFc (fun r_4 u t H1 locs ht hvm hw hB hz1 hk1 hS => ?_)
  obtain ⟨hP1, hK1, hD1⟩ := hB
  rw [ht] at hP1
  have hK1 := va_K.moved hvm.symm hK1
  obtain ⟨hP, hD⟩ := va_join (wr := []) (w1 := [(h0, .inr (11, [.int th, .int 1, .int 0, .int 1, .ref rq, .ref sbq])), (rq, .inl (ci, 119, .inl (RW xh xr xt xw)))]) hP hD [0, 1] [] rfl rfl (by decide) (by decide) hk1 hFc hP1 hD1
  generalize H1 = H at hP hS ⊢
  have hP : va_P (dC, dI) vwCl [(h0, .inr (11, [.int th, .int 1, .int 0, .int 1, .ref rq, .ref sbq])), (rq, .inl (ci, 119, .inl (RW xh xr xt xw)))] H := hP
  have hD : va_D A [(h0, .inr (11, [.int th, .int 1, .int 0, .int 1, .ref rq, .ref sbq])), (rq, .inl (ci, 119, .inl (RW xh xr xt xw)))] := hD
  refine W.widen (k := 0) (n := 0) (by omega) (by omega) ?_
  obtain rfl : xw = r_4 := hw.symm
  refine lv_iconst (v := 1) hx hb dX6_ringOne_27 (by decide) ?_
  refine lv_iadd hx hb dX6_ringOne_28 ?_
  refine lv_topi (fun x_5 e_6 => ?_)
  have hPc := hP.sub (ws' := [(h0, .inr (11, [.int th, .int 1, .int 0, .int 1, .ref rq, .ref sbq])), (rq, .inl (ci, 119, .inl (RW xh xr xt xw)))]) [0, 1] rfl
  have hDc := hD.sub (ws' := [(h0, .inr (11, [.int th, .int 1, .int 0, .int 1, .ref rq, .ref sbq])), (rq, .inl (ci, 119, .inl (RW xh xr xt xw)))]) [0, 1] (by decide) rfl
  have hKc := hK.sub (tys' := [(ci, .int)]) [0] rfl
  have hFc := va_free (wc := [(h0, .inr (11, [.int th, .int 1, .int 0, .int 1, .ref rq, .ref sbq])), (rq, .inl (ci, 119, .inl (RW xh xr xt xw)))]) hD hS hA [0, 1] rfl
  refine va_callv (va_runV (As := [.int 0, .int 5, .int x_5]) (rest := []) ⟨hx, hb, hml, hown, hts⟩ (c_setGu_5 l hl9 dC dI tE h0 rq sbq th ci xh xr xt xw x_5 _ ) (cwV 3 hts (goodIn_app (goodIn_r _ [13, 14, 15, 8] (by rfl) (by decide +kernel)) gg_c_ringOne_c_setGu_5) rfl rfl rfl (by decide +kernel) ⟨Nat.le_of_ble_eq_true rfl, Nat.le_of_ble_eq_true rfl⟩) ⟨Pre0.blind, va_recv hKc hPc (ci := 11) (q0 := 0) rfl rfl, Pre0.give hPc hKc hDc hT hS hFc⟩ rfl rfl hl.1 rfl (lv_room (Nat.le_of_ble_eq_true rfl)) dX6_ringOne_29 ⟨Nat.le_of_ble_eq_true rfl, Nat.le_of_ble_eq_true rfl⟩) hS (fun q _ h => hFc q h) hFc (fun u t H1 locs ht hvm hw hB hz1 hk1 hS => ?_)
  obtain ⟨hP1, hK1, hD1⟩ := hB
  rw [ht] at hP1
  have hK1 := va_K.moved hvm.symm hK1
  obtain ⟨hP, hD⟩ := va_join (wr := []) (w1 := [(h0, .inr (11, [.int th, .int 1, .int 0, .int 1, .ref rq, .ref sbq])), (rq, .inl (ci, 119, .inl (RW xh xr xt x_5)))]) hP hD [0, 1] [] rfl rfl (by decide) (by decide) hk1 hFc hP1 hD1
  generalize H1 = H at hP hS ⊢
  have hP : va_P (dC, dI) vwCl [(h0, .inr (11, [.int th, .int 1, .int 0, .int 1, .ref rq, .ref sbq])), (rq, .inl (ci, 119, .inl (RW xh xr xt x_5)))] H := hP
  have hD : va_D A [(h0, .inr (11, [.int th, .int 1, .int 0, .int 1, .ref rq, .ref sbq])), (rq, .inl (ci, 119, .inl (RW xh xr xt x_5)))] := hD
  refine W.widen (k := 0) (n := 0) (by omega) (by omega) ?_
  refine lv_iinc (v := 1) (lv' := [(2, .int 1), (0, .ref h0), (1, .int p0)]) hx hb dX6_ringOne_32 hl (k := 0) rfl (by decide) (by decide) rfl (fun ls hl => ?_)
  refine lv_goto (tgt := 2) hx hb dX6_ringOne_35 (by decide) ?_
  refine lv_iload_n hx hb dX6_ringOne_2 rfl (lv_at hl 0 rfl) ?_
  refine lv_aload_n hx hb dX6_ringOne_3 rfl (lv_at hl 1 rfl) ?_
  refine va_get (D := (dC, dI)) (ci := 11) (v := .int 1) (C := RX6) (T := TX6) (N := 6) hx hb hts u_c_ringOne_X6 hown hK hP 0 rfl rfl 3 (by decide) (hts (.fieldLink RX6 34 "HotelOfBellsModel" "guests" "I") (List.mem_of_getElem? (i := 1) rfl)) (fun _ h9 => h9) rfl dX6_ringOne_4 ?_
  refine lv_icmp_ge (tgt := 38) hx hb dX6_ringOne_7 (by decide) (fun _ => ?_) (fun c_8 => absurd (by decide) c_8)
  refine lv_aload_n hx hb dX6_ringOne_38 rfl (lv_at hl 1 rfl) ?_
  refine va_get (D := (dC, dI)) (ci := 11) (v := .ref rq) (C := RX6) (T := TX6) (N := 6) hx hb hts u_c_ringOne_X6 hown hK hP 0 rfl rfl 4 (by decide) (hts (.fieldLink RX6 9 "HotelOfBellsModel" "row" "[I") (List.mem_of_getElem? (i := 4) rfl)) (fun _ h9 => h9) rfl dX6_ringOne_39 ?_
  refine lv_bipush (v := 116) hx hb dX6_ringOne_42 (by decide) ?_
  refine lv_aload_n hx hb dX6_ringOne_44 rfl (lv_at hl 1 rfl) ?_
  refine va_get (D := (dC, dI)) (ci := 11) (v := .ref rq) (C := RX6) (T := TX6) (N := 6) hx hb hts u_c_ringOne_X6 hown hK hP 0 rfl rfl 4 (by decide) (hts (.fieldLink RX6 9 "HotelOfBellsModel" "row" "[I") (List.mem_of_getElem? (i := 4) rfl)) (fun _ h9 => h9) rfl dX6_ringOne_45 ?_
  refine lv_bipush (v := 116) hx hb dX6_ringOne_48 (by decide) ?_
  refine va_iald hx hb hK hP 1 0 rfl rfl (by unfold vp_in; decide) dX6_ringOne_50 ?_
  refine lv_topi (fun x_9 e_10 => ?_)
  obtain rfl : xh = x_9 := (e_10.trans (rw_l116 _ _ _ _)).symm
  refine lv_iconst (v := 5) hx hb dX6_ringOne_51 (by decide) ?_
  have hPc := hP.sub (ws' := []) [] rfl
  have hDc := hD.sub (ws' := []) [] (by decide) rfl
  have hKc := hK.sub (tys' := []) [] rfl
  have hFc := va_free (wc := []) hD hS hA [] rfl
  refine va_calli (va_runS (As := [.int 5]) (rest := [.int xh, .int 116, .ref rq]) ⟨hx, hb, hml, hown, hts⟩ (c_power_5 l hl9 dC dI tE  _ ) (va_cwS 1 hts (goodIn_app (goodIn_r _ [17, 18, 8] (by rfl) (by decide +kernel)) gg_c_ringOne_c_power_5) rfl rfl rfl (by decide +kernel) ⟨Nat.le_of_ble_eq_true rfl, Nat.le_of_ble_eq_true rfl⟩) ⟨Pre0.blind, Pre0.give hPc hKc hDc hT hS hFc⟩ rfl rfl hl.1 rfl (lv_room (Nat.le_of_ble_eq_true rfl)) dX6_ringOne_52 ⟨Nat.le_of_ble_eq_true rfl, Nat.le_of_ble_eq_true rfl⟩) hS (fun q _ h => hFc q h) hFc (fun r_11 u t H1 locs ht hvm hw hB hz1 hk1 hS => ?_)
  obtain ⟨hP1, hK1, hD1⟩ := hB
  rw [ht] at hP1
  have hK1 := va_K.moved hvm.symm hK1
  obtain ⟨hP, hD⟩ := va_join (wr := [(h0, .inr (11, [.int th, .int 1, .int 0, .int 1, .ref rq, .ref sbq])), (rq, .inl (ci, 119, .inl (RW xh xr xt x_5)))]) (w1 := []) hP hD [] [0, 1] rfl rfl (by decide) (by decide) hk1 hFc hP1 hD1
  generalize H1 = H at hP hS ⊢
  have hP : va_P (dC, dI) vwCl [(h0, .inr (11, [.int th, .int 1, .int 0, .int 1, .ref rq, .ref sbq])), (rq, .inl (ci, 119, .inl (RW xh xr xt x_5)))] H := hP
  have hD : va_D A [(h0, .inr (11, [.int th, .int 1, .int 0, .int 1, .ref rq, .ref sbq])), (rq, .inl (ci, 119, .inl (RW xh xr xt x_5)))] := hD
  refine W.widen (k := 0) (n := 0) (by omega) (by omega) ?_
  obtain rfl : r_11 = 100000 := hw
  refine lv_irem hx hb dX6_ringOne_55 (by decide) ?_
  refine lv_topi (fun x_12 e_13 => ?_)
  refine lv_bipush (v := 10) hx hb dX6_ringOne_56 (by decide) ?_
  refine lv_imul hx hb dX6_ringOne_58 ?_
  refine lv_topi (fun x_14 e_15 => ?_)
  refine lv_iload_n hx hb dX6_ringOne_59 rfl (lv_at hl 2 rfl) ?_
  refine lv_iadd hx hb dX6_ringOne_60 ?_
  refine lv_topi (fun x_16 e_17 => ?_)
  refine va_iast hx hb hK hP hD hS 1 0 rfl rfl (by unfold vp_in; decide) dX6_ringOne_61 (fun H locs hP hD hS => ?_)
  rw [rw_s116] at hP hD
  have hP : va_P (dC, dI) vwCl [(h0, .inr (11, [.int th, .int 1, .int 0, .int 1, .ref rq, .ref sbq])), (rq, .inl (ci, 119, .inl (RW x_16 xr xt x_5)))] H := hP
  have hD : va_D A [(h0, .inr (11, [.int th, .int 1, .int 0, .int 1, .ref rq, .ref sbq])), (rq, .inl (ci, 119, .inl (RW x_16 xr xt x_5)))] := hD
  refine lv_aload_n hx hb dX6_ringOne_62 rfl (lv_at hl 1 rfl) ?_
  refine va_get (D := (dC, dI)) (ci := 11) (v := .ref rq) (C := RX6) (T := TX6) (N := 6) hx hb hts u_c_ringOne_X6 hown hK hP 0 rfl rfl 4 (by decide) (hts (.fieldLink RX6 9 "HotelOfBellsModel" "row" "[I") (List.mem_of_getElem? (i := 4) rfl)) (fun _ h9 => h9) rfl dX6_ringOne_63 ?_
  refine lv_bipush (v := 117) hx hb dX6_ringOne_66 (by decide) ?_
  refine lv_dup2_11 hx hb dX6_ringOne_68 rfl rfl ?_
  refine va_iald hx hb hK hP 1 0 rfl rfl (by unfold vp_in; decide) dX6_ringOne_69 ?_
  refine lv_topi (fun x_18 e_19 => ?_)
  obtain rfl : xr = x_18 := (e_19.trans (rw_l117 _ _ _ _)).symm
  refine lv_iconst (v := 1) hx hb dX6_ringOne_70 (by decide) ?_
  refine lv_iadd hx hb dX6_ringOne_71 ?_
  refine lv_topi (fun x_20 e_21 => ?_)
  refine va_iast hx hb hK hP hD hS 1 0 rfl rfl (by unfold vp_in; decide) dX6_ringOne_72 (fun H locs hP hD hS => ?_)
  rw [rw_s117] at hP hD
  have hP : va_P (dC, dI) vwCl [(h0, .inr (11, [.int th, .int 1, .int 0, .int 1, .ref rq, .ref sbq])), (rq, .inl (ci, 119, .inl (RW x_16 x_20 xt x_5)))] H := hP
  have hD : va_D A [(h0, .inr (11, [.int th, .int 1, .int 0, .int 1, .ref rq, .ref sbq])), (rq, .inl (ci, 119, .inl (RW x_16 x_20 xt x_5)))] := hD
  refine lv_iconst (v := 0) hx hb dX6_ringOne_73 (by decide) ?_
  refine lv_istore_n (lv' := [(2, .int 0), (0, .ref h0), (1, .int p0)]) hx hb dX6_ringOne_74 rfl hl (by decide) rfl (fun ls hl => ?_)
  refine lv_iload_n hx hb dX6_ringOne_75 rfl (lv_at hl 0 rfl) ?_
  refine lv_aload_n hx hb dX6_ringOne_76 rfl (lv_at hl 1 rfl) ?_
  refine va_get (D := (dC, dI)) (ci := 11) (v := .int 1) (C := RX6) (T := TX6) (N := 6) hx hb hts u_c_ringOne_X6 hown hK hP 0 rfl rfl 1 (by decide) (hts (.fieldLink RX6 24 "HotelOfBellsModel" "floors" "I") (List.mem_of_getElem? (i := 19) rfl)) (fun _ h9 => h9) rfl dX6_ringOne_77 ?_
  refine lv_icmp_ge (tgt := 155) hx hb dX6_ringOne_80 (by decide) (fun c_22 => absurd c_22 (by decide)) (fun _ => ?_)
  refine lv_aload_n hx hb dX6_ringOne_83 rfl (lv_at hl 1 rfl) ?_
  refine lv_iload_n hx hb dX6_ringOne_84 rfl (lv_at hl 0 rfl) ?_
  have hPc := hP.sub (ws' := [(h0, .inr (11, [.int th, .int 1, .int 0, .int 1, .ref rq, .ref sbq])), (rq, .inl (ci, 119, .inl (RW x_16 x_20 xt x_5)))]) [0, 1] rfl
  have hDc := hD.sub (ws' := [(h0, .inr (11, [.int th, .int 1, .int 0, .int 1, .ref rq, .ref sbq])), (rq, .inl (ci, 119, .inl (RW x_16 x_20 xt x_5)))]) [0, 1] (by decide) rfl
  have hKc := hK.sub (tys' := [(ci, .int)]) [0] rfl
  have hFc := va_free (wc := [(h0, .inr (11, [.int th, .int 1, .int 0, .int 1, .ref rq, .ref sbq])), (rq, .inl (ci, 119, .inl (RW x_16 x_20 xt x_5)))]) hD hS hA [0, 1] rfl
  refine va_calli (va_runV (As := [.int 0]) (rest := []) ⟨hx, hb, hml, hown, hts⟩ (c_begun l hl9 dC dI tE h0 rq sbq th ci x_16 x_20 xt x_5 _ ) (cwV 1 hts (goodIn_app (goodIn_r _ [35, 36, 37, 8] (by rfl) (by decide +kernel)) gg_c_ringOne_c_begun) rfl rfl rfl (by decide +kernel) ⟨Nat.le_of_ble_eq_true rfl, Nat.le_of_ble_eq_true rfl⟩) ⟨Pre0.blind, va_recv hKc hPc (ci := 11) (q0 := 0) rfl rfl, Pre0.give hPc hKc hDc hT hS hFc⟩ rfl rfl hl.1 rfl (lv_room (Nat.le_of_ble_eq_true rfl)) dX6_ringOne_85 ⟨Nat.le_of_ble_eq_true rfl, Nat.le_of_ble_eq_true rfl⟩) hS (fun q _ h => hFc q h) hFc (fun r_23 u t H1 locs ht hvm hw hB hz1 hk1 hS => ?_)
  obtain ⟨hP1, hK1, hD1⟩ := hB
  rw [ht] at hP1
  have hK1 := va_K.moved hvm.symm hK1
  obtain ⟨hP, hD⟩ := va_join (wr := []) (w1 := [(h0, .inr (11, [.int th, .int 1, .int 0, .int 1, .ref rq, .ref sbq])), (rq, .inl (ci, 119, .inl (RW x_16 x_20 xt x_5)))]) hP hD [0, 1] [] rfl rfl (by decide) (by decide) hk1 hFc hP1 hD1
  generalize H1 = H at hP hS ⊢
  have hP : va_P (dC, dI) vwCl [(h0, .inr (11, [.int th, .int 1, .int 0, .int 1, .ref rq, .ref sbq])), (rq, .inl (ci, 119, .inl (RW x_16 x_20 xt x_5)))] H := hP
  have hD : va_D A [(h0, .inr (11, [.int th, .int 1, .int 0, .int 1, .ref rq, .ref sbq])), (rq, .inl (ci, 119, .inl (RW x_16 x_20 xt x_5)))] := hD
  refine W.widen (k := 0) (n := 0) (by omega) (by omega) ?_
  refine lv_aload_n hx hb dX6_ringOne_88 rfl (lv_at hl 1 rfl) ?_
  refine lv_iload_n hx hb dX6_ringOne_89 rfl (lv_at hl 0 rfl) ?_
  refine lv_iconst (v := 2) hx hb dX6_ringOne_90 (by decide) ?_
  have hPc := hP.sub (ws' := [(h0, .inr (11, [.int th, .int 1, .int 0, .int 1, .ref rq, .ref sbq])), (rq, .inl (ci, 119, .inl (RW x_16 x_20 xt x_5)))]) [0, 1] rfl
  have hDc := hD.sub (ws' := [(h0, .inr (11, [.int th, .int 1, .int 0, .int 1, .ref rq, .ref sbq])), (rq, .inl (ci, 119, .inl (RW x_16 x_20 xt x_5)))]) [0, 1] (by decide) rfl
  have hKc := hK.sub (tys' := [(ci, .int)]) [0] rfl
  have hFc := va_free (wc := [(h0, .inr (11, [.int th, .int 1, .int 0, .int 1, .ref rq, .ref sbq])), (rq, .inl (ci, 119, .inl (RW x_16 x_20 xt x_5)))]) hD hS hA [0, 1] rfl
  refine va_calli (va_runV (As := [.int 0, .int 2]) (rest := [.int r_23]) ⟨hx, hb, hml, hown, hts⟩ (c_fl_2 l hl9 dC dI tE h0 rq sbq th ci x_16 x_20 xt x_5 _ ) (cwV 2 hts (goodIn_app (goodIn_r _ [22, 23, 24, 8] (by rfl) (by decide +kernel)) gg_c_ringOne_c_fl_2) rfl rfl rfl (by decide +kernel) ⟨Nat.le_of_ble_eq_true rfl, Nat.le_of_ble_eq_true rfl⟩) ⟨Pre0.blind, va_recv hKc hPc (ci := 11) (q0 := 0) rfl rfl, Pre0.give hPc hKc hDc hT hS hFc⟩ rfl rfl hl.1 rfl (lv_room (Nat.le_of_ble_eq_true rfl)) dX6_ringOne_91 ⟨Nat.le_of_ble_eq_true rfl, Nat.le_of_ble_eq_true rfl⟩) hS (fun q _ h => hFc q h) hFc (fun r_24 u t H1 locs ht hvm hw hB hz1 hk1 hS => ?_)
  obtain ⟨hP1, hK1, hD1⟩ := hB
  rw [ht] at hP1
  have hK1 := va_K.moved hvm.symm hK1
  obtain ⟨hP, hD⟩ := va_join (wr := []) (w1 := [(h0, .inr (11, [.int th, .int 1, .int 0, .int 1, .ref rq, .ref sbq])), (rq, .inl (ci, 119, .inl (RW x_16 x_20 xt x_5)))]) hP hD [0, 1] [] rfl rfl (by decide) (by decide) hk1 hFc hP1 hD1
  generalize H1 = H at hP hS ⊢
  have hP : va_P (dC, dI) vwCl [(h0, .inr (11, [.int th, .int 1, .int 0, .int 1, .ref rq, .ref sbq])), (rq, .inl (ci, 119, .inl (RW x_16 x_20 xt x_5)))] H := hP
  have hD : va_D A [(h0, .inr (11, [.int th, .int 1, .int 0, .int 1, .ref rq, .ref sbq])), (rq, .inl (ci, 119, .inl (RW x_16 x_20 xt x_5)))] := hD
  refine W.widen (k := 0) (n := 0) (by omega) (by omega) ?_
  obtain rfl : r_24 = 1 := hw
  have hPc := hP.sub (ws' := []) [] rfl
  have hDc := hD.sub (ws' := []) [] (by decide) rfl
  have hKc := hK.sub (tys' := []) [] rfl
  have hFc := va_free (wc := []) hD hS hA [] rfl
  refine va_calli (va_runS (As := [.int 1]) (rest := [.int r_23]) ⟨hx, hb, hml, hown, hts⟩ (c_digits l hl9 dC dI tE 1 _ ) (va_cwS 1 hts (goodIn_app (goodIn_r _ [29, 30, 8] (by rfl) (by decide +kernel)) gg_c_ringOne_c_digits) rfl rfl rfl (by decide +kernel) ⟨Nat.le_of_ble_eq_true rfl, Nat.le_of_ble_eq_true rfl⟩) ⟨Pre0.blind, Pre0.give hPc hKc hDc hT hS hFc⟩ rfl rfl hl.1 rfl (lv_room (Nat.le_of_ble_eq_true rfl)) dX6_ringOne_94 ⟨Nat.le_of_ble_eq_true rfl, Nat.le_of_ble_eq_true rfl⟩) hS (fun q _ h => hFc q h) hFc (fun r_25 u t H1 locs ht hvm hw hB hz1 hk1 hS => ?_)
  obtain ⟨hP1, hK1, hD1⟩ := hB
  rw [ht] at hP1
  have hK1 := va_K.moved hvm.symm hK1
  obtain ⟨hP, hD⟩ := va_join (wr := [(h0, .inr (11, [.int th, .int 1, .int 0, .int 1, .ref rq, .ref sbq])), (rq, .inl (ci, 119, .inl (RW x_16 x_20 xt x_5)))]) (w1 := []) hP hD [] [0, 1] rfl rfl (by decide) (by decide) hk1 hFc hP1 hD1
  generalize H1 = H at hP hS ⊢
  have hP : va_P (dC, dI) vwCl [(h0, .inr (11, [.int th, .int 1, .int 0, .int 1, .ref rq, .ref sbq])), (rq, .inl (ci, 119, .inl (RW x_16 x_20 xt x_5)))] H := hP
  have hD : va_D A [(h0, .inr (11, [.int th, .int 1, .int 0, .int 1, .ref rq, .ref sbq])), (rq, .inl (ci, 119, .inl (RW x_16 x_20 xt x_5)))] := hD
  refine W.widen (k := 0) (n := 0) (by omega) (by omega) ?_
  obtain rfl : r_25 = 1 := hw.trans (by decide)
  refine lv_icmp_eq (tgt := 103) hx hb dX6_ringOne_97 (by decide) (fun c_26 => ?_) (fun c_26 => ?_)
  · refine lv_aload_n hx hb dX6_ringOne_103 rfl (lv_at hl 1 rfl) ?_
    refine lv_iload_n hx hb dX6_ringOne_104 rfl (lv_at hl 0 rfl) ?_
    refine lv_iconst (v := 1) hx hb dX6_ringOne_105 (by decide) ?_
    refine lv_aload_n hx hb dX6_ringOne_106 rfl (lv_at hl 1 rfl) ?_
    refine lv_iload_n hx hb dX6_ringOne_107 rfl (lv_at hl 0 rfl) ?_
    refine lv_iconst (v := 1) hx hb dX6_ringOne_108 (by decide) ?_
    have hPc := hP.sub (ws' := [(h0, .inr (11, [.int th, .int 1, .int 0, .int 1, .ref rq, .ref sbq])), (rq, .inl (ci, 119, .inl (RW x_16 x_20 xt x_5)))]) [0, 1] rfl
    have hDc := hD.sub (ws' := [(h0, .inr (11, [.int th, .int 1, .int 0, .int 1, .ref rq, .ref sbq])), (rq, .inl (ci, 119, .inl (RW x_16 x_20 xt x_5)))]) [0, 1] (by decide) rfl
    have hKc := hK.sub (tys' := [(ci, .int)]) [0] rfl
    have hFc := va_free (wc := [(h0, .inr (11, [.int th, .int 1, .int 0, .int 1, .ref rq, .ref sbq])), (rq, .inl (ci, 119, .inl (RW x_16 x_20 xt x_5)))]) hD hS hA [0, 1] rfl
    refine va_calli (va_runV (As := [.int 0, .int 1]) (rest := [.int 1, .int 0, .ref h0]) ⟨hx, hb, hml, hown, hts⟩ (c_fl_1 l hl9 dC dI tE h0 rq sbq th ci x_16 x_20 xt x_5 _ ) (cwV 2 hts (goodIn_app (goodIn_r _ [22, 23, 24, 8] (by rfl) (by decide +kernel)) gg_c_ringOne_c_fl_1) rfl rfl rfl (by decide +kernel) ⟨Nat.le_of_ble_eq_true rfl, Nat.le_of_ble_eq_true rfl⟩) ⟨Pre0.blind, va_recv hKc hPc (ci := 11) (q0 := 0) rfl rfl, Pre0.give hPc hKc hDc hT hS hFc⟩ rfl rfl hl.1 rfl (lv_room (Nat.le_of_ble_eq_true rfl)) dX6_ringOne_109 ⟨Nat.le_of_ble_eq_true rfl, Nat.le_of_ble_eq_true rfl⟩) hS (fun q _ h => hFc q h) hFc (fun r_27 u t H1 locs ht hvm hw hB hz1 hk1 hS => ?_)
    obtain ⟨hP1, hK1, hD1⟩ := hB
    rw [ht] at hP1
    have hK1 := va_K.moved hvm.symm hK1
    obtain ⟨hP, hD⟩ := va_join (wr := []) (w1 := [(h0, .inr (11, [.int th, .int 1, .int 0, .int 1, .ref rq, .ref sbq])), (rq, .inl (ci, 119, .inl (RW x_16 x_20 xt x_5)))]) hP hD [0, 1] [] rfl rfl (by decide) (by decide) hk1 hFc hP1 hD1
    generalize H1 = H at hP hS ⊢
    have hP : va_P (dC, dI) vwCl [(h0, .inr (11, [.int th, .int 1, .int 0, .int 1, .ref rq, .ref sbq])), (rq, .inl (ci, 119, .inl (RW x_16 x_20 xt x_5)))] H := hP
    have hD : va_D A [(h0, .inr (11, [.int th, .int 1, .int 0, .int 1, .ref rq, .ref sbq])), (rq, .inl (ci, 119, .inl (RW x_16 x_20 xt x_5)))] := hD
    refine W.widen (k := 0) (n := 0) (by omega) (by omega) ?_
    obtain rfl : r_27 = 0 := hw
    refine lv_aload_n hx hb dX6_ringOne_112 rfl (lv_at hl 1 rfl) ?_
    refine lv_iload_n hx hb dX6_ringOne_113 rfl (lv_at hl 0 rfl) ?_
    refine lv_iconst (v := 3) hx hb dX6_ringOne_114 (by decide) ?_
    have hPc := hP.sub (ws' := [(h0, .inr (11, [.int th, .int 1, .int 0, .int 1, .ref rq, .ref sbq])), (rq, .inl (ci, 119, .inl (RW x_16 x_20 xt x_5)))]) [0, 1] rfl
    have hDc := hD.sub (ws' := [(h0, .inr (11, [.int th, .int 1, .int 0, .int 1, .ref rq, .ref sbq])), (rq, .inl (ci, 119, .inl (RW x_16 x_20 xt x_5)))]) [0, 1] (by decide) rfl
    have hKc := hK.sub (tys' := [(ci, .int)]) [0] rfl
    have hFc := va_free (wc := [(h0, .inr (11, [.int th, .int 1, .int 0, .int 1, .ref rq, .ref sbq])), (rq, .inl (ci, 119, .inl (RW x_16 x_20 xt x_5)))]) hD hS hA [0, 1] rfl
    refine va_calli (va_runV (As := [.int 0, .int 3]) (rest := [.int 0, .int 1, .int 0, .ref h0]) ⟨hx, hb, hml, hown, hts⟩ (c_fl_3 l hl9 dC dI tE h0 rq sbq th ci x_16 x_20 xt x_5 _ ) (cwV 2 hts (goodIn_app (goodIn_r _ [22, 23, 24, 8] (by rfl) (by decide +kernel)) gg_c_ringOne_c_fl_3) rfl rfl rfl (by decide +kernel) ⟨Nat.le_of_ble_eq_true rfl, Nat.le_of_ble_eq_true rfl⟩) ⟨Pre0.blind, va_recv hKc hPc (ci := 11) (q0 := 0) rfl rfl, Pre0.give hPc hKc hDc hT hS hFc⟩ rfl rfl hl.1 rfl (lv_room (Nat.le_of_ble_eq_true rfl)) dX6_ringOne_115 ⟨Nat.le_of_ble_eq_true rfl, Nat.le_of_ble_eq_true rfl⟩) hS (fun q _ h => hFc q h) hFc (fun r_28 u t H1 locs ht hvm hw hB hz1 hk1 hS => ?_)
    obtain ⟨hP1, hK1, hD1⟩ := hB
    rw [ht] at hP1
    have hK1 := va_K.moved hvm.symm hK1
    obtain ⟨hP, hD⟩ := va_join (wr := []) (w1 := [(h0, .inr (11, [.int th, .int 1, .int 0, .int 1, .ref rq, .ref sbq])), (rq, .inl (ci, 119, .inl (RW x_16 x_20 xt x_5)))]) hP hD [0, 1] [] rfl rfl (by decide) (by decide) hk1 hFc hP1 hD1
    generalize H1 = H at hP hS ⊢
    have hP : va_P (dC, dI) vwCl [(h0, .inr (11, [.int th, .int 1, .int 0, .int 1, .ref rq, .ref sbq])), (rq, .inl (ci, 119, .inl (RW x_16 x_20 xt x_5)))] H := hP
    have hD : va_D A [(h0, .inr (11, [.int th, .int 1, .int 0, .int 1, .ref rq, .ref sbq])), (rq, .inl (ci, 119, .inl (RW x_16 x_20 xt x_5)))] := hD
    refine W.widen (k := 0) (n := 0) (by omega) (by omega) ?_
    obtain rfl : r_28 = 0 := hw
    refine lv_iadd hx hb dX6_ringOne_118 ?_
    refine lv_topi (fun x_29 e_30 => ?_)
    obtain rfl : x_29 = 0 := e_30.trans (by decide)
    refine lv_iconst (v := 2) hx hb dX6_ringOne_119 (by decide) ?_
    refine lv_aload_n hx hb dX6_ringOne_120 rfl (lv_at hl 1 rfl) ?_
    refine lv_iload_n hx hb dX6_ringOne_121 rfl (lv_at hl 0 rfl) ?_
    refine lv_iconst (v := 0) hx hb dX6_ringOne_122 (by decide) ?_
    have hPc := hP.sub (ws' := [(h0, .inr (11, [.int th, .int 1, .int 0, .int 1, .ref rq, .ref sbq])), (rq, .inl (ci, 119, .inl (RW x_16 x_20 xt x_5)))]) [0, 1] rfl
    have hDc := hD.sub (ws' := [(h0, .inr (11, [.int th, .int 1, .int 0, .int 1, .ref rq, .ref sbq])), (rq, .inl (ci, 119, .inl (RW x_16 x_20 xt x_5)))]) [0, 1] (by decide) rfl
    have hKc := hK.sub (tys' := [(ci, .int)]) [0] rfl
    have hFc := va_free (wc := [(h0, .inr (11, [.int th, .int 1, .int 0, .int 1, .ref rq, .ref sbq])), (rq, .inl (ci, 119, .inl (RW x_16 x_20 xt x_5)))]) hD hS hA [0, 1] rfl
    refine va_calli (va_runV (As := [.int 0, .int 0]) (rest := [.int 2, .int 0, .int 1, .int 0, .ref h0]) ⟨hx, hb, hml, hown, hts⟩ (c_fl_0 l hl9 dC dI tE h0 rq sbq th ci x_16 x_20 xt x_5 _ ) (cwV 2 hts (goodIn_app (goodIn_r _ [22, 23, 24, 8] (by rfl) (by decide +kernel)) gg_c_ringOne_c_fl_0) rfl rfl rfl (by decide +kernel) ⟨Nat.le_of_ble_eq_true rfl, Nat.le_of_ble_eq_true rfl⟩) ⟨Pre0.blind, va_recv hKc hPc (ci := 11) (q0 := 0) rfl rfl, Pre0.give hPc hKc hDc hT hS hFc⟩ rfl rfl hl.1 rfl (lv_room (Nat.le_of_ble_eq_true rfl)) dX6_ringOne_123 ⟨Nat.le_of_ble_eq_true rfl, Nat.le_of_ble_eq_true rfl⟩) hS (fun q _ h => hFc q h) hFc (fun r_31 u t H1 locs ht hvm hw hB hz1 hk1 hS => ?_)
    obtain ⟨hP1, hK1, hD1⟩ := hB
    rw [ht] at hP1
    have hK1 := va_K.moved hvm.symm hK1
    obtain ⟨hP, hD⟩ := va_join (wr := []) (w1 := [(h0, .inr (11, [.int th, .int 1, .int 0, .int 1, .ref rq, .ref sbq])), (rq, .inl (ci, 119, .inl (RW x_16 x_20 xt x_5)))]) hP hD [0, 1] [] rfl rfl (by decide) (by decide) hk1 hFc hP1 hD1
    generalize H1 = H at hP hS ⊢
    have hP : va_P (dC, dI) vwCl [(h0, .inr (11, [.int th, .int 1, .int 0, .int 1, .ref rq, .ref sbq])), (rq, .inl (ci, 119, .inl (RW x_16 x_20 xt x_5)))] H := hP
    have hD : va_D A [(h0, .inr (11, [.int th, .int 1, .int 0, .int 1, .ref rq, .ref sbq])), (rq, .inl (ci, 119, .inl (RW x_16 x_20 xt x_5)))] := hD
    refine W.widen (k := 0) (n := 0) (by omega) (by omega) ?_
    obtain rfl : r_31 = 3 := hw
    refine lv_imul hx hb dX6_ringOne_126 ?_
    refine lv_topi (fun x_32 e_33 => ?_)
    obtain rfl : x_32 = 6 := e_33.trans (by decide)
    refine lv_iadd hx hb dX6_ringOne_127 ?_
    refine lv_topi (fun x_34 e_35 => ?_)
    obtain rfl : x_34 = 6 := e_35.trans (by decide)
    refine lv_aload_n hx hb dX6_ringOne_128 rfl (lv_at hl 1 rfl) ?_
    refine lv_iload_n hx hb dX6_ringOne_129 rfl (lv_at hl 0 rfl) ?_
    refine lv_iconst (v := 0) hx hb dX6_ringOne_130 (by decide) ?_
    have hPc := hP.sub (ws' := [(h0, .inr (11, [.int th, .int 1, .int 0, .int 1, .ref rq, .ref sbq])), (rq, .inl (ci, 119, .inl (RW x_16 x_20 xt x_5)))]) [0, 1] rfl
    have hDc := hD.sub (ws' := [(h0, .inr (11, [.int th, .int 1, .int 0, .int 1, .ref rq, .ref sbq])), (rq, .inl (ci, 119, .inl (RW x_16 x_20 xt x_5)))]) [0, 1] (by decide) rfl
    have hKc := hK.sub (tys' := [(ci, .int)]) [0] rfl
    have hFc := va_free (wc := [(h0, .inr (11, [.int th, .int 1, .int 0, .int 1, .ref rq, .ref sbq])), (rq, .inl (ci, 119, .inl (RW x_16 x_20 xt x_5)))]) hD hS hA [0, 1] rfl
    refine va_calli (va_runV (As := [.int 0, .int 0]) (rest := [.int 6, .int 1, .int 0, .ref h0]) ⟨hx, hb, hml, hown, hts⟩ (c_fl_0 l hl9 dC dI tE h0 rq sbq th ci x_16 x_20 xt x_5 _ ) (cwV 2 hts (goodIn_app (goodIn_r _ [22, 23, 24, 8] (by rfl) (by decide +kernel)) gg_c_ringOne_c_fl_0) rfl rfl rfl (by decide +kernel) ⟨Nat.le_of_ble_eq_true rfl, Nat.le_of_ble_eq_true rfl⟩) ⟨Pre0.blind, va_recv hKc hPc (ci := 11) (q0 := 0) rfl rfl, Pre0.give hPc hKc hDc hT hS hFc⟩ rfl rfl hl.1 rfl (lv_room (Nat.le_of_ble_eq_true rfl)) dX6_ringOne_131 ⟨Nat.le_of_ble_eq_true rfl, Nat.le_of_ble_eq_true rfl⟩) hS (fun q _ h => hFc q h) hFc (fun r_36 u t H1 locs ht hvm hw hB hz1 hk1 hS => ?_)
    obtain ⟨hP1, hK1, hD1⟩ := hB
    rw [ht] at hP1
    have hK1 := va_K.moved hvm.symm hK1
    obtain ⟨hP, hD⟩ := va_join (wr := []) (w1 := [(h0, .inr (11, [.int th, .int 1, .int 0, .int 1, .ref rq, .ref sbq])), (rq, .inl (ci, 119, .inl (RW x_16 x_20 xt x_5)))]) hP hD [0, 1] [] rfl rfl (by decide) (by decide) hk1 hFc hP1 hD1
    generalize H1 = H at hP hS ⊢
    have hP : va_P (dC, dI) vwCl [(h0, .inr (11, [.int th, .int 1, .int 0, .int 1, .ref rq, .ref sbq])), (rq, .inl (ci, 119, .inl (RW x_16 x_20 xt x_5)))] H := hP
    have hD : va_D A [(h0, .inr (11, [.int th, .int 1, .int 0, .int 1, .ref rq, .ref sbq])), (rq, .inl (ci, 119, .inl (RW x_16 x_20 xt x_5)))] := hD
    refine W.widen (k := 0) (n := 0) (by omega) (by omega) ?_
    obtain rfl : r_36 = 3 := hw
    refine lv_irem hx hb dX6_ringOne_134 (by decide) ?_
    refine lv_topi (fun x_37 e_38 => ?_)
    obtain rfl : x_37 = 0 := e_38.trans (by decide)
    have hPc := hP.sub (ws' := [(h0, .inr (11, [.int th, .int 1, .int 0, .int 1, .ref rq, .ref sbq])), (rq, .inl (ci, 119, .inl (RW x_16 x_20 xt x_5)))]) [0, 1] rfl
    have hDc := hD.sub (ws' := [(h0, .inr (11, [.int th, .int 1, .int 0, .int 1, .ref rq, .ref sbq])), (rq, .inl (ci, 119, .inl (RW x_16 x_20 xt x_5)))]) [0, 1] (by decide) rfl
    have hKc := hK.sub (tys' := [(ci, .int)]) [0] rfl
    have hFc := va_free (wc := [(h0, .inr (11, [.int th, .int 1, .int 0, .int 1, .ref rq, .ref sbq])), (rq, .inl (ci, 119, .inl (RW x_16 x_20 xt x_5)))]) hD hS hA [0, 1] rfl
    refine va_callv (va_runV (As := [.int 0, .int 1, .int 0]) (rest := []) ⟨hx, hb, hml, hown, hts⟩ (c_setFl_1 l hl9 dC dI tE h0 rq sbq th ci x_16 x_20 xt x_5 _ ) (cwV 3 hts (goodIn_app (goodIn_r _ [39, 40, 41, 8] (by rfl) (by decide +kernel)) gg_c_ringOne_c_setFl_1) rfl rfl rfl (by decide +kernel) ⟨Nat.le_of_ble_eq_true rfl, Nat.le_of_ble_eq_true rfl⟩) ⟨Pre0.blind, va_recv hKc hPc (ci := 11) (q0 := 0) rfl rfl, Pre0.give hPc hKc hDc hT hS hFc⟩ rfl rfl hl.1 rfl (lv_room (Nat.le_of_ble_eq_true rfl)) dX6_ringOne_135 ⟨Nat.le_of_ble_eq_true rfl, Nat.le_of_ble_eq_true rfl⟩) hS (fun q _ h => hFc q h) hFc (fun u t H1 locs ht hvm hw hB hz1 hk1 hS => ?_)
    obtain ⟨hP1, hK1, hD1⟩ := hB
    rw [ht] at hP1
    have hK1 := va_K.moved hvm.symm hK1
    obtain ⟨hP, hD⟩ := va_join (wr := []) (w1 := [(h0, .inr (11, [.int th, .int 1, .int 0, .int 1, .ref rq, .ref sbq])), (rq, .inl (ci, 119, .inl (RW x_16 x_20 xt x_5)))]) hP hD [0, 1] [] rfl rfl (by decide) (by decide) hk1 hFc hP1 hD1
    generalize H1 = H at hP hS ⊢
    have hP : va_P (dC, dI) vwCl [(h0, .inr (11, [.int th, .int 1, .int 0, .int 1, .ref rq, .ref sbq])), (rq, .inl (ci, 119, .inl (RW x_16 x_20 xt x_5)))] H := hP
    have hD : va_D A [(h0, .inr (11, [.int th, .int 1, .int 0, .int 1, .ref rq, .ref sbq])), (rq, .inl (ci, 119, .inl (RW x_16 x_20 xt x_5)))] := hD
    refine W.widen (k := 0) (n := 0) (by omega) (by omega) ?_
    refine lv_aload_n hx hb dX6_ringOne_138 rfl (lv_at hl 1 rfl) ?_
    refine va_get (D := (dC, dI)) (ci := 11) (v := .ref rq) (C := RX6) (T := TX6) (N := 6) hx hb hts u_c_ringOne_X6 hown hK hP 0 rfl rfl 4 (by decide) (hts (.fieldLink RX6 9 "HotelOfBellsModel" "row" "[I") (List.mem_of_getElem? (i := 4) rfl)) (fun _ h9 => h9) rfl dX6_ringOne_139 ?_
    refine lv_bipush (v := 118) hx hb dX6_ringOne_142 (by decide) ?_
    refine lv_dup2_11 hx hb dX6_ringOne_144 rfl rfl ?_
    refine va_iald hx hb hK hP 1 0 rfl rfl (by unfold vp_in; decide) dX6_ringOne_145 ?_
    refine lv_topi (fun x_40 e_41 => ?_)
    obtain rfl : xt = x_40 := (e_41.trans (rw_l118 _ _ _ _)).symm
    refine lv_iconst (v := 1) hx hb dX6_ringOne_146 (by decide) ?_
    refine lv_iadd hx hb dX6_ringOne_147 ?_
    refine lv_topi (fun x_42 e_43 => ?_)
    refine va_iast hx hb hK hP hD hS 1 0 rfl rfl (by unfold vp_in; decide) dX6_ringOne_148 (fun H locs hP hD hS => ?_)
    rw [rw_s118] at hP hD
    have hP : va_P (dC, dI) vwCl [(h0, .inr (11, [.int th, .int 1, .int 0, .int 1, .ref rq, .ref sbq])), (rq, .inl (ci, 119, .inl (RW x_16 x_20 x_42 x_5)))] H := hP
    have hD : va_D A [(h0, .inr (11, [.int th, .int 1, .int 0, .int 1, .ref rq, .ref sbq])), (rq, .inl (ci, 119, .inl (RW x_16 x_20 x_42 x_5)))] := hD
    refine lv_iinc (v := 1) (lv' := [(2, .int 1), (0, .ref h0), (1, .int p0)]) hx hb dX6_ringOne_149 hl (k := 0) rfl (by decide) (by decide) rfl (fun ls hl => ?_)
    refine lv_goto (tgt := 75) hx hb dX6_ringOne_152 (by decide) ?_
    refine lv_iload_n hx hb dX6_ringOne_75 rfl (lv_at hl 0 rfl) ?_
    refine lv_aload_n hx hb dX6_ringOne_76 rfl (lv_at hl 1 rfl) ?_
    refine va_get (D := (dC, dI)) (ci := 11) (v := .int 1) (C := RX6) (T := TX6) (N := 6) hx hb hts u_c_ringOne_X6 hown hK hP 0 rfl rfl 1 (by decide) (hts (.fieldLink RX6 24 "HotelOfBellsModel" "floors" "I") (List.mem_of_getElem? (i := 19) rfl)) (fun _ h9 => h9) rfl dX6_ringOne_77 ?_
    refine lv_icmp_ge (tgt := 155) hx hb dX6_ringOne_80 (by decide) (fun _ => ?_) (fun c_44 => absurd (by decide) c_44)
    refine lv_iconst (v := 0) hx hb dX6_ringOne_155 (by decide) ?_
    refine lv_istore_n (lv' := [(2, .int 0), (0, .ref h0), (1, .int p0)]) hx hb dX6_ringOne_156 rfl hl (by decide) rfl (fun ls hl => ?_)
    refine lv_iload_n hx hb dX6_ringOne_157 rfl (lv_at hl 0 rfl) ?_
    refine lv_aload_n hx hb dX6_ringOne_158 rfl (lv_at hl 1 rfl) ?_
    refine va_get (D := (dC, dI)) (ci := 11) (v := .int 0) (C := RX6) (T := TX6) (N := 6) hx hb hts u_c_ringOne_X6 hown hK hP 0 rfl rfl 2 (by decide) (hts (.fieldLink RX6 31 "HotelOfBellsModel" "lifts" "I") (List.mem_of_getElem? (i := 42) rfl)) (fun _ h9 => h9) rfl dX6_ringOne_159 ?_
    refine lv_icmp_ge (tgt := 176) hx hb dX6_ringOne_162 (by decide) (fun _ => ?_) (fun c_45 => absurd (by decide) c_45)
    refine lv_iconst (v := 0) hx hb dX6_ringOne_176 (by decide) ?_
    refine lv_istore_n (lv' := [(2, .int 0), (0, .ref h0), (1, .int p0)]) hx hb dX6_ringOne_177 rfl hl (by decide) rfl (fun ls hl => ?_)
    refine lv_iconst (v := 0) hx hb dX6_ringOne_178 (by decide) ?_
    refine lv_istore_n (lv' := [(3, .int 0), (2, .int 0), (0, .ref h0), (1, .int p0)]) hx hb dX6_ringOne_179 rfl hl (by decide) rfl (fun ls hl => ?_)
    refine lv_iload_n hx hb dX6_ringOne_180 rfl (lv_at hl 0 rfl) ?_
    refine lv_aload_n hx hb dX6_ringOne_181 rfl (lv_at hl 2 rfl) ?_
    refine va_get (D := (dC, dI)) (ci := 11) (v := .int 1) (C := RX6) (T := TX6) (N := 6) hx hb hts u_c_ringOne_X6 hown hK hP 0 rfl rfl 3 (by decide) (hts (.fieldLink RX6 34 "HotelOfBellsModel" "guests" "I") (List.mem_of_getElem? (i := 1) rfl)) (fun _ h9 => h9) rfl dX6_ringOne_182 ?_
    refine lv_icmp_ge (tgt := 210) hx hb dX6_ringOne_185 (by decide) (fun c_46 => absurd c_46 (by decide)) (fun _ => ?_)
    refine lv_iload_n hx hb dX6_ringOne_188 rfl (lv_at hl 1 rfl) ?_
    refine lv_aload_n hx hb dX6_ringOne_189 rfl (lv_at hl 2 rfl) ?_
    refine lv_iload_n hx hb dX6_ringOne_190 rfl (lv_at hl 0 rfl) ?_
    have hPc := hP.sub (ws' := [(h0, .inr (11, [.int th, .int 1, .int 0, .int 1, .ref rq, .ref sbq])), (rq, .inl (ci, 119, .inl (RW x_16 x_20 x_42 x_5)))]) [0, 1] rfl
    have hDc := hD.sub (ws' := [(h0, .inr (11, [.int th, .int 1, .int 0, .int 1, .ref rq, .ref sbq])), (rq, .inl (ci, 119, .inl (RW x_16 x_20 x_42 x_5)))]) [0, 1] (by decide) rfl
    have hKc := hK.sub (tys' := [(ci, .int)]) [0] rfl
    have hFc := va_free (wc := [(h0, .inr (11, [.int th, .int 1, .int 0, .int 1, .ref rq, .ref sbq])), (rq, .inl (ci, 119, .inl (RW x_16 x_20 x_42 x_5)))]) hD hS hA [0, 1] rfl
    refine va_calli (va_runV (As := [.int 0]) (rest := [.int 0]) ⟨hx, hb, hml, hown, hts⟩ (c_Mact l hl9 dC dI tE h0 rq sbq th ci x_16 x_20 x_42 x_5 _ ) (cwV 1 hts (goodIn_app (goodIn_r _ [44, 45, 46, 8] (by rfl) (by decide +kernel)) gg_c_ringOne_c_Mact) rfl rfl rfl (by decide +kernel) ⟨Nat.le_of_ble_eq_true rfl, Nat.le_of_ble_eq_true rfl⟩) ⟨Pre0.blind, va_recv hKc hPc (ci := 11) (q0 := 0) rfl rfl, Pre0.give hPc hKc hDc hT hS hFc⟩ rfl rfl hl.1 rfl (lv_room (Nat.le_of_ble_eq_true rfl)) dX6_ringOne_191 ⟨Nat.le_of_ble_eq_true rfl, Nat.le_of_ble_eq_true rfl⟩) hS (fun q _ h => hFc q h) hFc (fun r_47 u t H1 locs ht hvm hw hB hz1 hk1 hS => ?_)
    obtain ⟨hP1, hK1, hD1⟩ := hB
    rw [ht] at hP1
    have hK1 := va_K.moved hvm.symm hK1
    obtain ⟨hP, hD⟩ := va_join (wr := []) (w1 := [(h0, .inr (11, [.int th, .int 1, .int 0, .int 1, .ref rq, .ref sbq])), (rq, .inl (ci, 119, .inl (RW x_16 x_20 x_42 x_5)))]) hP hD [0, 1] [] rfl rfl (by decide) (by decide) hk1 hFc hP1 hD1
    generalize H1 = H at hP hS ⊢
    have hP : va_P (dC, dI) vwCl [(h0, .inr (11, [.int th, .int 1, .int 0, .int 1, .ref rq, .ref sbq])), (rq, .inl (ci, 119, .inl (RW x_16 x_20 x_42 x_5)))] H := hP
    have hD : va_D A [(h0, .inr (11, [.int th, .int 1, .int 0, .int 1, .ref rq, .ref sbq])), (rq, .inl (ci, 119, .inl (RW x_16 x_20 x_42 x_5)))] := hD
    refine W.widen (k := 0) (n := 0) (by omega) (by omega) ?_
    obtain rfl : r_47 = 0 := hw
    refine lv_if_eq (tgt := 201) hx hb dX6_ringOne_194 (by decide) (fun _ => ?_) (fun c_48 => absurd (by decide) c_48)
    refine lv_iconst (v := 0) hx hb dX6_ringOne_201 (by decide) ?_
    refine lv_iadd hx hb dX6_ringOne_202 ?_
    refine lv_topi (fun x_49 e_50 => ?_)
    obtain rfl : x_49 = 0 := e_50.trans (by decide)
    refine lv_istore_n (lv' := [(2, .int 0), (3, .int 0), (0, .ref h0), (1, .int p0)]) hx hb dX6_ringOne_203 rfl hl (by decide) rfl (fun ls hl => ?_)
    refine lv_iinc (v := 1) (lv' := [(3, .int 1), (2, .int 0), (0, .ref h0), (1, .int p0)]) hx hb dX6_ringOne_204 hl (k := 1) rfl (by decide) (by decide) rfl (fun ls hl => ?_)
    refine lv_goto (tgt := 180) hx hb dX6_ringOne_207 (by decide) ?_
    refine lv_iload_n hx hb dX6_ringOne_180 rfl (lv_at hl 0 rfl) ?_
    refine lv_aload_n hx hb dX6_ringOne_181 rfl (lv_at hl 2 rfl) ?_
    refine va_get (D := (dC, dI)) (ci := 11) (v := .int 1) (C := RX6) (T := TX6) (N := 6) hx hb hts u_c_ringOne_X6 hown hK hP 0 rfl rfl 3 (by decide) (hts (.fieldLink RX6 34 "HotelOfBellsModel" "guests" "I") (List.mem_of_getElem? (i := 1) rfl)) (fun _ h9 => h9) rfl dX6_ringOne_182 ?_
    refine lv_icmp_ge (tgt := 210) hx hb dX6_ringOne_185 (by decide) (fun _ => ?_) (fun c_51 => absurd (by decide) c_51)
    refine lv_iload_n hx hb dX6_ringOne_210 rfl (lv_at hl 1 rfl) ?_
    have hP9 := hP.sub (ws' := [(h0, .inr (11, [.int th, .int 1, .int 0, .int 1, .ref rq, .ref sbq])), (rq, .inl (ci, 119, .inl (RW x_16 x_20 x_42 x_5)))]) [0, 1] rfl
    have hD9 := hD.sub (ws' := [(h0, .inr (11, [.int th, .int 1, .int 0, .int 1, .ref rq, .ref sbq])), (rq, .inl (ci, 119, .inl (RW x_16 x_20 x_42 x_5)))]) [0, 1] (by decide) rfl
    have hK9 := hK.sub (tys' := [(ci, .int)]) [0] rfl
    exact W.iret (v := 0) hx hb hr (fun t ht hW => ⟨⟨0, (), rfl, rfl, x_16, x_20, x_42, x_5, by rw [ht]; exact hP9, va_K.moved hW.alike hK9, hD9⟩, hS.F ht⟩) hS.2.2 dX6_ringOne_211
  · refine lv_goto (tgt := 149) hx hb dX6_ringOne_100 (by decide) ?_
    refine lv_iinc (v := 1) (lv' := [(2, .int 1), (0, .ref h0), (1, .int p0)]) hx hb dX6_ringOne_149 hl (k := 0) rfl (by decide) (by decide) rfl (fun ls hl => ?_)
    refine lv_goto (tgt := 75) hx hb dX6_ringOne_152 (by decide) ?_
    refine lv_iload_n hx hb dX6_ringOne_75 rfl (lv_at hl 0 rfl) ?_
    refine lv_aload_n hx hb dX6_ringOne_76 rfl (lv_at hl 1 rfl) ?_
    refine va_get (D := (dC, dI)) (ci := 11) (v := .int 1) (C := RX6) (T := TX6) (N := 6) hx hb hts u_c_ringOne_X6 hown hK hP 0 rfl rfl 1 (by decide) (hts (.fieldLink RX6 24 "HotelOfBellsModel" "floors" "I") (List.mem_of_getElem? (i := 19) rfl)) (fun _ h9 => h9) rfl dX6_ringOne_77 ?_
    refine lv_icmp_ge (tgt := 155) hx hb dX6_ringOne_80 (by decide) (fun _ => ?_) (fun c_52 => absurd (by decide) c_52)
    refine lv_iconst (v := 0) hx hb dX6_ringOne_155 (by decide) ?_
    refine lv_istore_n (lv' := [(2, .int 0), (0, .ref h0), (1, .int p0)]) hx hb dX6_ringOne_156 rfl hl (by decide) rfl (fun ls hl => ?_)
    refine lv_iload_n hx hb dX6_ringOne_157 rfl (lv_at hl 0 rfl) ?_
    refine lv_aload_n hx hb dX6_ringOne_158 rfl (lv_at hl 1 rfl) ?_
    refine va_get (D := (dC, dI)) (ci := 11) (v := .int 0) (C := RX6) (T := TX6) (N := 6) hx hb hts u_c_ringOne_X6 hown hK hP 0 rfl rfl 2 (by decide) (hts (.fieldLink RX6 31 "HotelOfBellsModel" "lifts" "I") (List.mem_of_getElem? (i := 42) rfl)) (fun _ h9 => h9) rfl dX6_ringOne_159 ?_
    refine lv_icmp_ge (tgt := 176) hx hb dX6_ringOne_162 (by decide) (fun _ => ?_) (fun c_53 => absurd (by decide) c_53)
    refine lv_iconst (v := 0) hx hb dX6_ringOne_176 (by decide) ?_
    refine lv_istore_n (lv' := [(2, .int 0), (0, .ref h0), (1, .int p0)]) hx hb dX6_ringOne_177 rfl hl (by decide) rfl (fun ls hl => ?_)
    refine lv_iconst (v := 0) hx hb dX6_ringOne_178 (by decide) ?_
    refine lv_istore_n (lv' := [(3, .int 0), (2, .int 0), (0, .ref h0), (1, .int p0)]) hx hb dX6_ringOne_179 rfl hl (by decide) rfl (fun ls hl => ?_)
    refine lv_iload_n hx hb dX6_ringOne_180 rfl (lv_at hl 0 rfl) ?_
    refine lv_aload_n hx hb dX6_ringOne_181 rfl (lv_at hl 2 rfl) ?_
    refine va_get (D := (dC, dI)) (ci := 11) (v := .int 1) (C := RX6) (T := TX6) (N := 6) hx hb hts u_c_ringOne_X6 hown hK hP 0 rfl rfl 3 (by decide) (hts (.fieldLink RX6 34 "HotelOfBellsModel" "guests" "I") (List.mem_of_getElem? (i := 1) rfl)) (fun _ h9 => h9) rfl dX6_ringOne_182 ?_
    refine lv_icmp_ge (tgt := 210) hx hb dX6_ringOne_185 (by decide) (fun c_54 => absurd c_54 (by decide)) (fun _ => ?_)
    refine lv_iload_n hx hb dX6_ringOne_188 rfl (lv_at hl 1 rfl) ?_
    refine lv_aload_n hx hb dX6_ringOne_189 rfl (lv_at hl 2 rfl) ?_
    refine lv_iload_n hx hb dX6_ringOne_190 rfl (lv_at hl 0 rfl) ?_
    have hPc := hP.sub (ws' := [(h0, .inr (11, [.int th, .int 1, .int 0, .int 1, .ref rq, .ref sbq])), (rq, .inl (ci, 119, .inl (RW x_16 x_20 xt x_5)))]) [0, 1] rfl
    have hDc := hD.sub (ws' := [(h0, .inr (11, [.int th, .int 1, .int 0, .int 1, .ref rq, .ref sbq])), (rq, .inl (ci, 119, .inl (RW x_16 x_20 xt x_5)))]) [0, 1] (by decide) rfl
    have hKc := hK.sub (tys' := [(ci, .int)]) [0] rfl
    have hFc := va_free (wc := [(h0, .inr (11, [.int th, .int 1, .int 0, .int 1, .ref rq, .ref sbq])), (rq, .inl (ci, 119, .inl (RW x_16 x_20 xt x_5)))]) hD hS hA [0, 1] rfl
    refine va_calli (va_runV (As := [.int 0]) (rest := [.int 0]) ⟨hx, hb, hml, hown, hts⟩ (c_Mact l hl9 dC dI tE h0 rq sbq th ci x_16 x_20 xt x_5 _ ) (cwV 1 hts (goodIn_app (goodIn_r _ [44, 45, 46, 8] (by rfl) (by decide +kernel)) gg_c_ringOne_c_Mact) rfl rfl rfl (by decide +kernel) ⟨Nat.le_of_ble_eq_true rfl, Nat.le_of_ble_eq_true rfl⟩) ⟨Pre0.blind, va_recv hKc hPc (ci := 11) (q0 := 0) rfl rfl, Pre0.give hPc hKc hDc hT hS hFc⟩ rfl rfl hl.1 rfl (lv_room (Nat.le_of_ble_eq_true rfl)) dX6_ringOne_191 ⟨Nat.le_of_ble_eq_true rfl, Nat.le_of_ble_eq_true rfl⟩) hS (fun q _ h => hFc q h) hFc (fun r_55 u t H1 locs ht hvm hw hB hz1 hk1 hS => ?_)
    obtain ⟨hP1, hK1, hD1⟩ := hB
    rw [ht] at hP1
    have hK1 := va_K.moved hvm.symm hK1
    obtain ⟨hP, hD⟩ := va_join (wr := []) (w1 := [(h0, .inr (11, [.int th, .int 1, .int 0, .int 1, .ref rq, .ref sbq])), (rq, .inl (ci, 119, .inl (RW x_16 x_20 xt x_5)))]) hP hD [0, 1] [] rfl rfl (by decide) (by decide) hk1 hFc hP1 hD1
    generalize H1 = H at hP hS ⊢
    have hP : va_P (dC, dI) vwCl [(h0, .inr (11, [.int th, .int 1, .int 0, .int 1, .ref rq, .ref sbq])), (rq, .inl (ci, 119, .inl (RW x_16 x_20 xt x_5)))] H := hP
    have hD : va_D A [(h0, .inr (11, [.int th, .int 1, .int 0, .int 1, .ref rq, .ref sbq])), (rq, .inl (ci, 119, .inl (RW x_16 x_20 xt x_5)))] := hD
    refine W.widen (k := 0) (n := 0) (by omega) (by omega) ?_
    obtain rfl : r_55 = 0 := hw
    refine lv_if_eq (tgt := 201) hx hb dX6_ringOne_194 (by decide) (fun _ => ?_) (fun c_56 => absurd (by decide) c_56)
    refine lv_iconst (v := 0) hx hb dX6_ringOne_201 (by decide) ?_
    refine lv_iadd hx hb dX6_ringOne_202 ?_
    refine lv_topi (fun x_57 e_58 => ?_)
    obtain rfl : x_57 = 0 := e_58.trans (by decide)
    refine lv_istore_n (lv' := [(2, .int 0), (3, .int 0), (0, .ref h0), (1, .int p0)]) hx hb dX6_ringOne_203 rfl hl (by decide) rfl (fun ls hl => ?_)
    refine lv_iinc (v := 1) (lv' := [(3, .int 1), (2, .int 0), (0, .ref h0), (1, .int p0)]) hx hb dX6_ringOne_204 hl (k := 1) rfl (by decide) (by decide) rfl (fun ls hl => ?_)
    refine lv_goto (tgt := 180) hx hb dX6_ringOne_207 (by decide) ?_
    refine lv_iload_n hx hb dX6_ringOne_180 rfl (lv_at hl 0 rfl) ?_
    refine lv_aload_n hx hb dX6_ringOne_181 rfl (lv_at hl 2 rfl) ?_
    refine va_get (D := (dC, dI)) (ci := 11) (v := .int 1) (C := RX6) (T := TX6) (N := 6) hx hb hts u_c_ringOne_X6 hown hK hP 0 rfl rfl 3 (by decide) (hts (.fieldLink RX6 34 "HotelOfBellsModel" "guests" "I") (List.mem_of_getElem? (i := 1) rfl)) (fun _ h9 => h9) rfl dX6_ringOne_182 ?_
    refine lv_icmp_ge (tgt := 210) hx hb dX6_ringOne_185 (by decide) (fun _ => ?_) (fun c_59 => absurd (by decide) c_59)
    refine lv_iload_n hx hb dX6_ringOne_210 rfl (lv_at hl 1 rfl) ?_
    have hP9 := hP.sub (ws' := [(h0, .inr (11, [.int th, .int 1, .int 0, .int 1, .ref rq, .ref sbq])), (rq, .inl (ci, 119, .inl (RW x_16 x_20 xt x_5)))]) [0, 1] rfl
    have hD9 := hD.sub (ws' := [(h0, .inr (11, [.int th, .int 1, .int 0, .int 1, .ref rq, .ref sbq])), (rq, .inl (ci, 119, .inl (RW x_16 x_20 xt x_5)))]) [0, 1] (by decide) rfl
    have hK9 := hK.sub (tys' := [(ci, .int)]) [0] rfl
    exact W.iret (v := 0) hx hb hr (fun t ht hW => ⟨⟨0, (), rfl, rfl, x_16, x_20, xt, x_5, by rw [ht]; exact hP9, va_K.moved hW.alike hK9, hD9⟩, hS.F ht⟩) hS.2.2 dX6_ringOne_211
def v_c_homeBy : List Cond := .code yX6_homeBy cX6_homeBy 7 (some .int) :: ([Cond.code yX6_isHome cX6_isHome 2 (some .boolean), Cond.code yX6_gu cX6_gu 3 (some .int), Cond.fieldLink RX6 9 "HotelOfBellsModel" "row" "[I", Cond.methodLink RX6 78 yX6_gu, Cond.instanceMethod yX6_gu, Cond.selects RX6 yX6_gu yX6_gu, Cond.initialized RX6, Cond.methodLink RX6 87 yX6_isHome, Cond.instanceMethod yX6_isHome, Cond.selects RX6 yX6_isHome yX6_isHome, Cond.methodLink RX6 133 ⟨"[I", "clone", "()Ljava/lang/Object;"⟩, Cond.sameMethod "[I" "java/lang/Object" "clone" "()Ljava/lang/Object;", Cond.native ⟨"java/lang/Object", "clone", "()Ljava/lang/Object;"⟩, Cond.instanceMethod ⟨"java/lang/Object", "clone", "()Ljava/lang/Object;"⟩, Cond.selects "[I" ⟨"[I", "clone", "()Ljava/lang/Object;"⟩ ⟨"java/lang/Object", "clone", "()Ljava/lang/Object;"⟩, Cond.classLink RX6 134 "[I", Cond.code yX6_digits cX6_digits 3 (some .int), Cond.code yX6_isIn cX6_isIn 3 (some .boolean), Cond.methodLink RX6 27 yX6_isIn, Cond.static yX6_isIn, Cond.methodLink RX6 53 yX6_digits, Cond.static yX6_digits, Cond.code yX6_power cX6_power 3 (some .int), Cond.methodLink RX6 90 yX6_power, Cond.static yX6_power, Cond.code yX6_ringOne cX6_ringOne 4 (some .int), Cond.fieldLink RX6 34 "HotelOfBellsModel" "guests" "I", Cond.code yX6_setGu cX6_setGu 4 none, Cond.methodLink RX6 84 yX6_setGu, Cond.instanceMethod yX6_setGu, Cond.selects RX6 yX6_setGu yX6_setGu, Cond.fieldLink RX6 24 "HotelOfBellsModel" "floors" "I", Cond.code yX6_begun cX6_begun 4 (some .int), Cond.code yX6_fl cX6_fl 3 (some .int), Cond.methodLink RX6 41 yX6_fl, Cond.instanceMethod yX6_fl, Cond.selects RX6 yX6_fl yX6_fl, Cond.code yX6_latest cX6_latest 2 (some .int), Cond.methodLink RX6 93 yX6_latest, Cond.instanceMethod yX6_latest, Cond.selects RX6 yX6_latest yX6_latest, Cond.methodLink RX6 96 yX6_begun, Cond.instanceMethod yX6_begun, Cond.selects RX6 yX6_begun yX6_begun, Cond.code yX6_setFl cX6_setFl 4 none, Cond.methodLink RX6 49 yX6_setFl, Cond.instanceMethod yX6_setFl, Cond.selects RX6 yX6_setFl yX6_setFl, Cond.fieldLink RX6 31 "HotelOfBellsModel" "lifts" "I", Cond.code yX6_act cX6_act 5 (some .boolean), Cond.methodLink RX6 127 yX6_act, Cond.instanceMethod yX6_act, Cond.selects RX6 yX6_act yX6_act, Cond.methodLink RX6 130 yX6_ringOne, Cond.instanceMethod yX6_ringOne, Cond.selects RX6 yX6_ringOne yX6_ringOne] ++ (wsX60 ++ []))
theorem u_c_homeBy_X6 : ∀ w ∈ wsX60, w ∈ v_c_homeBy := fun _ h => List.mem_cons_of_mem _ (List.mem_append_right _ (List.mem_append_left _ h))
theorem gg_c_homeBy_c_isHome : GoodIn v_c_homeBy v_c_isHome := goodIn_r _ [1, 2, 3, 4, 5, 6, 7, 57, 58, 59, 60, 61, 62] (by rfl) (by decide +kernel)
theorem gg_c_homeBy_c_digits : GoodIn v_c_homeBy v_c_digits := goodIn_r _ [17, 18, 19, 20, 7] (by rfl) (by decide +kernel)
theorem gg_c_homeBy_c_power_0 : GoodIn v_c_homeBy v_c_power_0 := goodIn_r _ [23] (by rfl) (by decide +kernel)
theorem gg_c_homeBy_c_ringOne : GoodIn v_c_homeBy v_c_ringOne := goodIn_r _ [26, 27, 1, 2, 3, 4, 5, 6, 7, 8, 9, 10, 28, 29, 30, 31, 23, 24, 25, 32, 33, 34, 35, 36, 37, 17, 18, 19, 20, 21, 22, 38, 39, 40, 41, 42, 43, 44, 45, 46, 47, 48, 49, 50, 51, 52, 53, 57, 58, 59, 60, 61, 62] (by rfl) (by decide +kernel)
theorem gg_c_homeBy_c_power_1 : GoodIn v_c_homeBy v_c_power_1 := goodIn_r _ [23] (by rfl) (by decide +kernel)
theorem gg_c_homeBy_c_power_2 : GoodIn v_c_homeBy v_c_power_2 := goodIn_r _ [23] (by rfl) (by decide +kernel)
theorem gg_c_homeBy_c_power_3 : GoodIn v_c_homeBy v_c_power_3 := goodIn_r _ [23] (by rfl) (by decide +kernel)
theorem gg_c_homeBy_c_power_4 : GoodIn v_c_homeBy v_c_power_4 := goodIn_r _ [23] (by rfl) (by decide +kernel)
theorem gg_c_homeBy_c_power_5 : GoodIn v_c_homeBy v_c_power_5 := goodIn_r _ [23] (by rfl) (by decide +kernel)
set_option maxHeartbeats 4000000 in
set_option maxRecDepth 100000 in
theorem c_homeBy (l : Launch) (hl9 : l.stackTraces = false) (dC : Nat → ClassId) (dI : Nat → Nat → Nat) (tE : Nat) (h0 : Nat) (rq : Nat) (sbq : Nat) (th : Int32) (ci : ClassId) (xh : Int32) (xr : Int32) (xt : Int32) (xw : Int32) (p1 : Int32) (sz : Nat) : Met l yX6_homeBy v_c_homeBy ({ frames := 4, cells := 1, slots := 119, locals := 90 }) (va_Pc [.ref h0, .int 0, .int p1] (Pre0 dC dI tE sz [(ci, .int)] [(h0, .inr (11, [.int th, .int 1, .int 0, .int 1, .ref rq, .ref sbq])), (rq, .inl (ci, 119, .inl (RW xh xr xt xw)))])) (va_Qi (fun (r : Int32) (_ : Unit) => r = (-1)) (fun _ t => ∃ (qx0 : Nat), ∃ (fx0 : Nat → Int32), Pst dC dI [(ci, .int)] (va_A [(h0, .inr (11, [.int th, .int 1, .int 0, .int 1, .ref rq, .ref sbq])), (rq, .inl (ci, 119, .inl (RW xh xr xt xw)))] sz) [(h0, .inr (11, [.int th, .int 1, .int 0, .int 1, .ref rq, .ref sbq])), (rq, .inl (ci, 119, .inl (RW xh xr xt xw))), (qx0, .inl (ci, 119, .inl fx0))] t) (va_A [(h0, .inr (11, [.int th, .int 1, .int 0, .int 1, .ref rq, .ref sbq])), (rq, .inl (ci, 119, .inl (RW xh xr xt xw)))] sz)) 1 119 (va_A [(h0, .inr (11, [.int th, .int 1, .int 0, .int 1, .ref rq, .ref sbq])), (rq, .inl (ci, 119, .inl (RW xh xr xt xw)))] sz) := by
  refine Met.ofW (cc := cX6_homeBy) (maxL := 7) (ret := (some .int)) (by decide) rfl ?_
  intro p e s m args below meth c s₁ B hml hv
  obtain ⟨rfl, hsz, hP, hK, hD0, hT⟩ := hv
  have hx := B.exec
  have hb := B.bytes
  have hr := B.returns
  have hts := atoms_spec (ws := v_c_homeBy) B.pre
  have hown : s.vm.findClass RX6 = some m.cls := findClass_of_methodNamed B.named
  have hlocks := B.notSynchronized
  subst hsz
  have hD := hD0.self (sz := s.heap.size)
  generalize hAe : va_A [(h0, .inr (11, [.int th, .int 1, .int 0, .int 1, .ref rq, .ref sbq])), (rq, .inl (ci, 119, .inl (RW xh xr xt xw)))] s.heap.size = A at hD hT ⊢
  have hA : ∀ q : Nat, s.heap.size ≤ q → A q := fun q h => by rw [← hAe]; exact Or.inr h
  have hS : va_S A s.heap s.heap [] := va_S.rf
  have hl := lv_entry ([.ref h0, .int 0, .int p1]) (n := 7) (Nat.le_of_ble_eq_true rfl)
  rw [lg_entry_eq]
  generalize (lg_sl ([.ref h0, .int 0, .int p1]) ++ List.replicate (7 - (lg_sl ([.ref h0, .int 0, .int p1])).length) Slot.unset).toArray = ls at hl ⊢
  have hl : lv_has ls 7 [(0, .ref h0), (1, .int 0), (2, .int p1)] := hl
  refine lv_aload_n hx hb dX6_homeBy_0 rfl (lv_at hl 0 rfl) ?_
  refine lv_iload_n hx hb dX6_homeBy_1 rfl (lv_at hl 1 rfl) ?_
  have hPc := hP.sub (ws' := [(h0, .inr (11, [.int th, .int 1, .int 0, .int 1, .ref rq, .ref sbq])), (rq, .inl (ci, 119, .inl (RW xh xr xt xw)))]) [0, 1] rfl
  have hDc := hD.sub (ws' := [(h0, .inr (11, [.int th, .int 1, .int 0, .int 1, .ref rq, .ref sbq])), (rq, .inl (ci, 119, .inl (RW xh xr xt xw)))]) [0, 1] (by decide) rfl
  have hKc := hK.sub (tys' := [(ci, .int)]) [0] rfl
  have hFc := va_free (wc := [(h0, .inr (11, [.int th, .int 1, .int 0, .int 1, .ref rq, .ref sbq])), (rq, .inl (ci, 119, .inl (RW xh xr xt xw)))]) hD hS hA [0, 1] rfl
  refine va_calli (va_runV (As := [.int 0]) (rest := []) ⟨hx, hb, hml, hown, hts⟩ (c_isHome l hl9 dC dI tE h0 rq sbq th ci xh xr xt xw _ ) (cwV 1 hts (goodIn_app (goodIn_r _ [8, 9, 10, 7] (by rfl) (by decide +kernel)) gg_c_homeBy_c_isHome) rfl rfl rfl (by decide +kernel) ⟨Nat.le_of_ble_eq_true rfl, Nat.le_of_ble_eq_true rfl⟩) ⟨Pre0.blind, va_recv hKc hPc (ci := 11) (q0 := 0) rfl rfl, Pre0.give hPc hKc hDc hT hS hFc⟩ rfl rfl hl.1 rfl (lv_room (Nat.le_of_ble_eq_true rfl)) dX6_homeBy_2 ⟨Nat.le_of_ble_eq_true rfl, Nat.le_of_ble_eq_true rfl⟩) hS (fun q _ h => hFc q h) hFc (fun r_1 u t H1 locs ht hvm hw hB hz1 hk1 hS => ?_)
  obtain ⟨hP1, hK1, hD1⟩ := hB
  rw [ht] at hP1
  have hK1 := va_K.moved hvm.symm hK1
  obtain ⟨hP, hD⟩ := va_join (wr := []) (w1 := [(h0, .inr (11, [.int th, .int 1, .int 0, .int 1, .ref rq, .ref sbq])), (rq, .inl (ci, 119, .inl (RW xh xr xt xw)))]) hP hD [0, 1] [] rfl rfl (by decide) (by decide) hk1 hFc hP1 hD1
  generalize H1 = H at hP hS ⊢
  have hP : va_P (dC, dI) vwCl [(h0, .inr (11, [.int th, .int 1, .int 0, .int 1, .ref rq, .ref sbq])), (rq, .inl (ci, 119, .inl (RW xh xr xt xw)))] H := hP
  have hD : va_D A [(h0, .inr (11, [.int th, .int 1, .int 0, .int 1, .ref rq, .ref sbq])), (rq, .inl (ci, 119, .inl (RW xh xr xt xw)))] := hD
  refine W.widen (k := 0) (n := 0) (by omega) (by omega) ?_
  obtain rfl : r_1 = 0 := hw
  refine lv_if_eq (tgt := 10) hx hb dX6_homeBy_5 (by decide) (fun _ => ?_) (fun c_2 => absurd (by decide) c_2)
  refine lv_aload_n hx hb dX6_homeBy_10 rfl (lv_at hl 0 rfl) ?_
  refine va_get (D := (dC, dI)) (ci := 11) (v := .ref rq) (C := RX6) (T := TX6) (N := 6) hx hb hts u_c_homeBy_X6 hown hK hP 0 rfl rfl 4 (by decide) (hts (.fieldLink RX6 9 "HotelOfBellsModel" "row" "[I") (List.mem_of_getElem? (i := 3) rfl)) (fun _ h9 => h9) rfl dX6_homeBy_11 ?_
  refine lv_astore_n (lv' := [(3, .ref rq), (0, .ref h0), (1, .int 0), (2, .int p1)]) hx hb dX6_homeBy_14 rfl hl (by decide) rfl (fun ls hl => ?_)
  refine lv_aload_n hx hb dX6_homeBy_15 rfl (lv_at hl 1 rfl) ?_
  refine lv_aload_n hx hb dX6_homeBy_16 rfl (lv_at hl 0 rfl) ?_
  refine va_clone (ad := "[I") hx hb (hml.trans hl.1.symm) hown (hts (.methodLink RX6 133 ⟨"[I", "clone", "()Ljava/lang/Object;"⟩) (List.mem_of_getElem? (i := 11) rfl)) (hts (.sameMethod "[I" "java/lang/Object" "clone" "()Ljava/lang/Object;") (List.mem_of_getElem? (i := 12) rfl)) (hts (.native ⟨"java/lang/Object", "clone", "()Ljava/lang/Object;"⟩) (List.mem_of_getElem? (i := 13) rfl)) (hts (.instanceMethod ⟨"java/lang/Object", "clone", "()Ljava/lang/Object;"⟩) (List.mem_of_getElem? (i := 14) rfl)) (hts (.selects "[I" ⟨"[I", "clone", "()Ljava/lang/Object;"⟩ ⟨"java/lang/Object", "clone", "()Ljava/lang/Object;"⟩) (List.mem_of_getElem? (i := 15) rfl)) hT.cl hK hP hD hS hA 1 0 rfl rfl (ra_int (hK.2 0 _ rfl).2) (fit_i _ _ _) (Nat.le_of_ble_eq_true rfl) (Nat.le_of_ble_eq_true rfl) (Nat.le_of_ble_eq_true rfl) (Nat.le_of_ble_eq_true rfl) dX6_homeBy_17 (fun q_3 H hK hP hD hS => ?_)
  have hP : va_P (dC, dI) vwCl [(h0, .inr (11, [.int th, .int 1, .int 0, .int 1, .ref rq, .ref sbq])), (rq, .inl (ci, 119, .inl (RW xh xr xt xw))), (q_3, .inl (ci, 119, .inl (RW xh xr xt xw)))] H := hP
  have hD : va_D A [(h0, .inr (11, [.int th, .int 1, .int 0, .int 1, .ref rq, .ref sbq])), (rq, .inl (ci, 119, .inl (RW xh xr xt xw))), (q_3, .inl (ci, 119, .inl (RW xh xr xt xw)))] := hD
  have hK : va_K (dC, dI) vwCl [(ci, .int), (ci, .int)] s := hK
  refine W.widen (k := 1) (n := 119) (by omega) (by omega) ?_
  refine va_castA hx hb hown (hts (.classLink RX6 134 "[I") (List.mem_of_getElem? (i := 16) rfl)) hP 2 rfl (ra_int (hK.2 0 _ rfl).2) dX6_homeBy_20 ?_
  refine va_put (D := (dC, dI)) (ci := 11) (v := .ref q_3) (ty := .array .int) (C := RX6) (T := TX6) (N := 6) hx hb hts u_c_homeBy_X6 tyX6 tyX6_ok nmX6 hown hK hP hD hS 0 rfl rfl 4 (by decide) (hts (.fieldLink RX6 9 "HotelOfBellsModel" "row" "[I") (List.mem_of_getElem? (i := 3) rfl)) (fun _ h9 => h9) rfl (by decide +kernel) rfl rfl (Nat.le_of_ble_eq_true rfl) dX6_homeBy_23 (fun H locs hP hD hS => ?_)
  have hP : va_P (dC, dI) vwCl [(h0, .inr (11, [.int th, .int 1, .int 0, .int 1, .ref q_3, .ref sbq])), (rq, .inl (ci, 119, .inl (RW xh xr xt xw))), (q_3, .inl (ci, 119, .inl (RW xh xr xt xw)))] H := hP
  have hD : va_D A [(h0, .inr (11, [.int th, .int 1, .int 0, .int 1, .ref q_3, .ref sbq])), (rq, .inl (ci, 119, .inl (RW xh xr xt xw))), (q_3, .inl (ci, 119, .inl (RW xh xr xt xw)))] := hD
  refine lv_iconst (v := (-1)) hx hb dX6_homeBy_26 (by decide) ?_
  refine lv_istore (lv' := [(4, .int (-1)), (3, .ref rq), (0, .ref h0), (1, .int 0), (2, .int p1)]) hx hb dX6_homeBy_27 hl (by decide) rfl (fun ls hl => ?_)
  refine lv_iload_n hx hb dX6_homeBy_29 rfl (lv_at hl 4 rfl) ?_
  have hPc := hP.sub (ws' := []) [] rfl
  have hDc := hD.sub (ws' := []) [] (by decide) rfl
  have hKc := hK.sub (tys' := []) [] rfl
  have hFc := va_free (wc := []) hD hS hA [] rfl
  refine va_calli (va_runS (As := [.int p1]) (rest := []) ⟨hx, hb, hml, hown, hts⟩ (c_digits l hl9 dC dI tE p1 _ ) (va_cwS 1 hts (goodIn_app (goodIn_r _ [21, 22, 7] (by rfl) (by decide +kernel)) gg_c_homeBy_c_digits) rfl rfl rfl (by decide +kernel) ⟨Nat.le_of_ble_eq_true rfl, Nat.le_of_ble_eq_true rfl⟩) ⟨Pre0.blind, Pre0.give hPc hKc hDc hT hS hFc⟩ rfl rfl hl.1 rfl (lv_room (Nat.le_of_ble_eq_true rfl)) dX6_homeBy_30 ⟨Nat.le_of_ble_eq_true rfl, Nat.le_of_ble_eq_true rfl⟩) hS (fun q _ h => hFc q h) hFc (fun r_4 u t H1 locs ht hvm hw hB hz1 hk1 hS => ?_)
  obtain ⟨hP1, hK1, hD1⟩ := hB
  rw [ht] at hP1
  have hK1 := va_K.moved hvm.symm hK1
  obtain ⟨hP, hD⟩ := va_join (wr := [(h0, .inr (11, [.int th, .int 1, .int 0, .int 1, .ref q_3, .ref sbq])), (rq, .inl (ci, 119, .inl (RW xh xr xt xw))), (q_3, .inl (ci, 119, .inl (RW xh xr xt xw)))]) (w1 := []) hP hD [] [0, 1, 2] rfl rfl (by decide) (by decide) hk1 hFc hP1 hD1
  generalize H1 = H at hP hS ⊢
  have hP : va_P (dC, dI) vwCl [(h0, .inr (11, [.int th, .int 1, .int 0, .int 1, .ref q_3, .ref sbq])), (rq, .inl (ci, 119, .inl (RW xh xr xt xw))), (q_3, .inl (ci, 119, .inl (RW xh xr xt xw)))] H := hP
  have hD : va_D A [(h0, .inr (11, [.int th, .int 1, .int 0, .int 1, .ref q_3, .ref sbq])), (rq, .inl (ci, 119, .inl (RW xh xr xt xw))), (q_3, .inl (ci, 119, .inl (RW xh xr xt xw)))] := hD
  refine W.widen (k := 1) (n := 119) (by omega) (by omega) ?_
  rcases dgt_cases p1 with hd0 | hd0 | hd0 | hd0 | hd0 | hd0 | hd0
  · obtain rfl : r_4 = 0 := hw.trans hd0
    refine lv_istore (lv' := [(5, .int 0), (4, .int (-1)), (3, .ref rq), (0, .ref h0), (1, .int 0), (2, .int p1)]) hx hb dX6_homeBy_33 hl (by decide) rfl (fun ls hl => ?_)
    refine lv_iconst (v := 1) hx hb dX6_homeBy_35 (by decide) ?_
    refine lv_istore (lv' := [(6, .int 1), (5, .int 0), (4, .int (-1)), (3, .ref rq), (0, .ref h0), (1, .int 0), (2, .int p1)]) hx hb dX6_homeBy_36 hl (by decide) rfl (fun ls hl => ?_)
    refine lv_iload hx hb dX6_homeBy_38 (lv_at hl 0 rfl) ?_
    refine lv_iload hx hb dX6_homeBy_40 (lv_at hl 1 rfl) ?_
    refine lv_icmp_gt (tgt := 87) hx hb dX6_homeBy_42 (by decide) (fun _ => ?_) (fun c_5 => absurd (by decide) c_5)
    refine lv_aload_n hx hb dX6_homeBy_87 rfl (lv_at hl 4 rfl) ?_
    refine lv_aload_n hx hb dX6_homeBy_88 rfl (lv_at hl 3 rfl) ?_
    refine va_put (D := (dC, dI)) (ci := 11) (v := .ref rq) (ty := .array .int) (C := RX6) (T := TX6) (N := 6) hx hb hts u_c_homeBy_X6 tyX6 tyX6_ok nmX6 hown hK hP hD hS 0 rfl rfl 4 (by decide) (hts (.fieldLink RX6 9 "HotelOfBellsModel" "row" "[I") (List.mem_of_getElem? (i := 3) rfl)) (fun _ h9 => h9) rfl (by decide +kernel) rfl rfl (Nat.le_of_ble_eq_true rfl) dX6_homeBy_89 (fun H locs hP hD hS => ?_)
    have hP : va_P (dC, dI) vwCl [(h0, .inr (11, [.int th, .int 1, .int 0, .int 1, .ref rq, .ref sbq])), (rq, .inl (ci, 119, .inl (RW xh xr xt xw))), (q_3, .inl (ci, 119, .inl (RW xh xr xt xw)))] H := hP
    have hD : va_D A [(h0, .inr (11, [.int th, .int 1, .int 0, .int 1, .ref rq, .ref sbq])), (rq, .inl (ci, 119, .inl (RW xh xr xt xw))), (q_3, .inl (ci, 119, .inl (RW xh xr xt xw)))] := hD
    refine lv_iload hx hb dX6_homeBy_92 (lv_at hl 2 rfl) ?_
    have hP9 := hP.sub (ws' := [(h0, .inr (11, [.int th, .int 1, .int 0, .int 1, .ref rq, .ref sbq])), (rq, .inl (ci, 119, .inl (RW xh xr xt xw))), (q_3, .inl (ci, 119, .inl (RW xh xr xt xw)))]) [0, 1, 2] rfl
    have hD9 := hD.sub (ws' := [(h0, .inr (11, [.int th, .int 1, .int 0, .int 1, .ref rq, .ref sbq])), (rq, .inl (ci, 119, .inl (RW xh xr xt xw))), (q_3, .inl (ci, 119, .inl (RW xh xr xt xw)))]) [0, 1, 2] (by decide) rfl
    have hK9 := hK.sub (tys' := [(ci, .int)]) [0] rfl
    exact W.iret (v := (-1)) hx hb hr (fun t ht hW => ⟨⟨(-1), (), rfl, rfl, q_3, (RW xh xr xt xw), by rw [ht]; exact hP9, va_K.moved hW.alike hK9, hD9⟩, hS.F ht⟩) hS.2.2 dX6_homeBy_94
  · obtain rfl : r_4 = 1 := hw.trans hd0
    refine lv_istore (lv' := [(5, .int 1), (4, .int (-1)), (3, .ref rq), (0, .ref h0), (1, .int 0), (2, .int p1)]) hx hb dX6_homeBy_33 hl (by decide) rfl (fun ls hl => ?_)
    refine lv_iconst (v := 1) hx hb dX6_homeBy_35 (by decide) ?_
    refine lv_istore (lv' := [(6, .int 1), (5, .int 1), (4, .int (-1)), (3, .ref rq), (0, .ref h0), (1, .int 0), (2, .int p1)]) hx hb dX6_homeBy_36 hl (by decide) rfl (fun ls hl => ?_)
    refine lv_iload hx hb dX6_homeBy_38 (lv_at hl 0 rfl) ?_
    refine lv_iload hx hb dX6_homeBy_40 (lv_at hl 1 rfl) ?_
    refine lv_icmp_gt (tgt := 87) hx hb dX6_homeBy_42 (by decide) (fun c_6 => absurd c_6 (by decide)) (fun _ => ?_)
    refine lv_iload hx hb dX6_homeBy_45 (lv_at hl 2 rfl) ?_
    refine lv_iconst (v := (-1)) hx hb dX6_homeBy_47 (by decide) ?_
    refine lv_icmp_ne (tgt := 87) hx hb dX6_homeBy_48 (by decide) (fun c_7 => absurd (by decide) c_7) (fun _ => ?_)
    refine lv_aload_n hx hb dX6_homeBy_51 rfl (lv_at hl 4 rfl) ?_
    refine lv_iload_n hx hb dX6_homeBy_52 rfl (lv_at hl 6 rfl) ?_
    refine lv_iload hx hb dX6_homeBy_53 (lv_at hl 1 rfl) ?_
    refine lv_iload hx hb dX6_homeBy_55 (lv_at hl 0 rfl) ?_
    refine lv_isub hx hb dX6_homeBy_57 ?_
    refine lv_topi (fun x_8 e_9 => ?_)
    obtain rfl : x_8 = 0 := e_9.trans (by decide)
    have hPc := hP.sub (ws' := []) [] rfl
    have hDc := hD.sub (ws' := []) [] (by decide) rfl
    have hKc := hK.sub (tys' := []) [] rfl
    have hFc := va_free (wc := []) hD hS hA [] rfl
    refine va_calli (va_runS (As := [.int 0]) (rest := [.int p1, .ref h0]) ⟨hx, hb, hml, hown, hts⟩ (c_power_0 l hl9 dC dI tE  _ ) (va_cwS 1 hts (goodIn_app (goodIn_r _ [24, 25, 7] (by rfl) (by decide +kernel)) gg_c_homeBy_c_power_0) rfl rfl rfl (by decide +kernel) ⟨Nat.le_of_ble_eq_true rfl, Nat.le_of_ble_eq_true rfl⟩) ⟨Pre0.blind, Pre0.give hPc hKc hDc hT hS hFc⟩ rfl rfl hl.1 rfl (lv_room (Nat.le_of_ble_eq_true rfl)) dX6_homeBy_58 ⟨Nat.le_of_ble_eq_true rfl, Nat.le_of_ble_eq_true rfl⟩) hS (fun q _ h => hFc q h) hFc (fun r_10 u t H1 locs ht hvm hw hB hz1 hk1 hS => ?_)
    obtain ⟨hP1, hK1, hD1⟩ := hB
    rw [ht] at hP1
    have hK1 := va_K.moved hvm.symm hK1
    obtain ⟨hP, hD⟩ := va_join (wr := [(h0, .inr (11, [.int th, .int 1, .int 0, .int 1, .ref q_3, .ref sbq])), (rq, .inl (ci, 119, .inl (RW xh xr xt xw))), (q_3, .inl (ci, 119, .inl (RW xh xr xt xw)))]) (w1 := []) hP hD [] [0, 1, 2] rfl rfl (by decide) (by decide) hk1 hFc hP1 hD1
    generalize H1 = H at hP hS ⊢
    have hP : va_P (dC, dI) vwCl [(h0, .inr (11, [.int th, .int 1, .int 0, .int 1, .ref q_3, .ref sbq])), (rq, .inl (ci, 119, .inl (RW xh xr xt xw))), (q_3, .inl (ci, 119, .inl (RW xh xr xt xw)))] H := hP
    have hD : va_D A [(h0, .inr (11, [.int th, .int 1, .int 0, .int 1, .ref q_3, .ref sbq])), (rq, .inl (ci, 119, .inl (RW xh xr xt xw))), (q_3, .inl (ci, 119, .inl (RW xh xr xt xw)))] := hD
    refine W.widen (k := 1) (n := 119) (by omega) (by omega) ?_
    obtain rfl : r_10 = 1 := hw
    refine lv_idiv hx hb dX6_homeBy_61 (by decide) ?_
    refine lv_topi (fun x_11 e_12 => ?_)
    refine lv_bipush (v := 10) hx hb dX6_homeBy_62 (by decide) ?_
    refine lv_irem hx hb dX6_homeBy_64 (by decide) ?_
    refine lv_topi (fun x_13 e_14 => ?_)
    have hPc := hP.sub (ws' := [(h0, .inr (11, [.int th, .int 1, .int 0, .int 1, .ref q_3, .ref sbq])), (q_3, .inl (ci, 119, .inl (RW xh xr xt xw)))]) [0, 2] rfl
    have hDc := hD.sub (ws' := [(h0, .inr (11, [.int th, .int 1, .int 0, .int 1, .ref q_3, .ref sbq])), (q_3, .inl (ci, 119, .inl (RW xh xr xt xw)))]) [0, 2] (by decide) rfl
    have hKc := hK.sub (tys' := [(ci, .int)]) [0] rfl
    have hFc := va_free (wc := [(h0, .inr (11, [.int th, .int 1, .int 0, .int 1, .ref q_3, .ref sbq])), (q_3, .inl (ci, 119, .inl (RW xh xr xt xw)))]) hD hS hA [0, 2] rfl
    refine va_calli (va_runV (As := [.int x_13]) (rest := []) ⟨hx, hb, hml, hown, hts⟩ (c_ringOne l hl9 dC dI tE h0 q_3 sbq th ci xh xr xt xw x_13 _ ) (cwV 1 hts (goodIn_app (goodIn_r _ [54, 55, 56, 7] (by rfl) (by decide +kernel)) gg_c_homeBy_c_ringOne) rfl rfl rfl (by decide +kernel) ⟨Nat.le_of_ble_eq_true rfl, Nat.le_of_ble_eq_true rfl⟩) ⟨Pre0.blind, va_recv hKc hPc (ci := 11) (q0 := 0) rfl rfl, Pre0.give hPc hKc hDc hT hS hFc⟩ rfl rfl hl.1 rfl (lv_room (Nat.le_of_ble_eq_true rfl)) dX6_homeBy_65 ⟨Nat.le_of_ble_eq_true rfl, Nat.le_of_ble_eq_true rfl⟩) hS (fun q _ h => hFc q h) hFc (fun r_15 u t H1 locs ht hvm hw hB hz1 hk1 hS => ?_)
    obtain ⟨vx_16, vx_17, vx_18, vx_19, hP1, hK1, hD1⟩ := hB
    rw [ht] at hP1
    have hK1 := va_K.moved hvm.symm hK1
    obtain ⟨hP, hD⟩ := va_join (wr := [(rq, .inl (ci, 119, .inl (RW xh xr xt xw)))]) (w1 := [(h0, .inr (11, [.int th, .int 1, .int 0, .int 1, .ref q_3, .ref sbq])), (q_3, .inl (ci, 119, .inl (RW vx_16 vx_17 vx_18 vx_19)))]) hP hD [0, 2] [1] rfl rfl (by decide) (by decide) hk1 hFc hP1 hD1
    generalize H1 = H at hP hS ⊢
    have hP : va_P (dC, dI) vwCl [(rq, .inl (ci, 119, .inl (RW xh xr xt xw))), (h0, .inr (11, [.int th, .int 1, .int 0, .int 1, .ref q_3, .ref sbq])), (q_3, .inl (ci, 119, .inl (RW vx_16 vx_17 vx_18 vx_19)))] H := hP
    have hD : va_D A [(rq, .inl (ci, 119, .inl (RW xh xr xt xw))), (h0, .inr (11, [.int th, .int 1, .int 0, .int 1, .ref q_3, .ref sbq])), (q_3, .inl (ci, 119, .inl (RW vx_16 vx_17 vx_18 vx_19)))] := hD
    refine W.widen (k := 1) (n := 119) (by omega) (by omega) ?_
    obtain rfl : r_15 = 0 := hw
    refine lv_pop hx hb dX6_homeBy_68 rfl ?_
    refine lv_aload_n hx hb dX6_homeBy_69 rfl (lv_at hl 4 rfl) ?_
    refine lv_iload_n hx hb dX6_homeBy_70 rfl (lv_at hl 5 rfl) ?_
    have hPc := hP.sub (ws' := [(h0, .inr (11, [.int th, .int 1, .int 0, .int 1, .ref q_3, .ref sbq])), (q_3, .inl (ci, 119, .inl (RW vx_16 vx_17 vx_18 vx_19)))]) [1, 2] rfl
    have hDc := hD.sub (ws' := [(h0, .inr (11, [.int th, .int 1, .int 0, .int 1, .ref q_3, .ref sbq])), (q_3, .inl (ci, 119, .inl (RW vx_16 vx_17 vx_18 vx_19)))]) [1, 2] (by decide) rfl
    have hKc := hK.sub (tys' := [(ci, .int)]) [0] rfl
    have hFc := va_free (wc := [(h0, .inr (11, [.int th, .int 1, .int 0, .int 1, .ref q_3, .ref sbq])), (q_3, .inl (ci, 119, .inl (RW vx_16 vx_17 vx_18 vx_19)))]) hD hS hA [1, 2] rfl
    refine va_calli (va_runV (As := [.int 0]) (rest := []) ⟨hx, hb, hml, hown, hts⟩ (c_isHome l hl9 dC dI tE h0 q_3 sbq th ci vx_16 vx_17 vx_18 vx_19 _ ) (cwV 1 hts (goodIn_app (goodIn_r _ [8, 9, 10, 7] (by rfl) (by decide +kernel)) gg_c_homeBy_c_isHome) rfl rfl rfl (by decide +kernel) ⟨Nat.le_of_ble_eq_true rfl, Nat.le_of_ble_eq_true rfl⟩) ⟨Pre0.blind, va_recv hKc hPc (ci := 11) (q0 := 0) rfl rfl, Pre0.give hPc hKc hDc hT hS hFc⟩ rfl rfl hl.1 rfl (lv_room (Nat.le_of_ble_eq_true rfl)) dX6_homeBy_71 ⟨Nat.le_of_ble_eq_true rfl, Nat.le_of_ble_eq_true rfl⟩) hS (fun q _ h => hFc q h) hFc (fun r_20 u t H1 locs ht hvm hw hB hz1 hk1 hS => ?_)
    obtain ⟨hP1, hK1, hD1⟩ := hB
    rw [ht] at hP1
    have hK1 := va_K.moved hvm.symm hK1
    obtain ⟨hP, hD⟩ := va_join (wr := [(rq, .inl (ci, 119, .inl (RW xh xr xt xw)))]) (w1 := [(h0, .inr (11, [.int th, .int 1, .int 0, .int 1, .ref q_3, .ref sbq])), (q_3, .inl (ci, 119, .inl (RW vx_16 vx_17 vx_18 vx_19)))]) hP hD [1, 2] [0] rfl rfl (by decide) (by decide) hk1 hFc hP1 hD1
    generalize H1 = H at hP hS ⊢
    have hP : va_P (dC, dI) vwCl [(rq, .inl (ci, 119, .inl (RW xh xr xt xw))), (h0, .inr (11, [.int th, .int 1, .int 0, .int 1, .ref q_3, .ref sbq])), (q_3, .inl (ci, 119, .inl (RW vx_16 vx_17 vx_18 vx_19)))] H := hP
    have hD : va_D A [(rq, .inl (ci, 119, .inl (RW xh xr xt xw))), (h0, .inr (11, [.int th, .int 1, .int 0, .int 1, .ref q_3, .ref sbq])), (q_3, .inl (ci, 119, .inl (RW vx_16 vx_17 vx_18 vx_19)))] := hD
    refine W.widen (k := 1) (n := 119) (by omega) (by omega) ?_
    obtain rfl : r_20 = 0 := hw
    refine lv_if_eq (tgt := 81) hx hb dX6_homeBy_74 (by decide) (fun _ => ?_) (fun c_21 => absurd (by decide) c_21)
    refine lv_iinc (v := 2) (lv' := [(6, .int 2), (5, .int 1), (4, .int (-1)), (3, .ref rq), (0, .ref h0), (1, .int 0), (2, .int p1)]) hx hb dX6_homeBy_81 hl (k := 0) rfl (by decide) (by decide) rfl (fun ls hl => ?_)
    refine lv_goto (tgt := 38) hx hb dX6_homeBy_84 (by decide) ?_
    refine lv_iload hx hb dX6_homeBy_38 (lv_at hl 0 rfl) ?_
    refine lv_iload hx hb dX6_homeBy_40 (lv_at hl 1 rfl) ?_
    refine lv_icmp_gt (tgt := 87) hx hb dX6_homeBy_42 (by decide) (fun _ => ?_) (fun c_22 => absurd (by decide) c_22)
    refine lv_aload_n hx hb dX6_homeBy_87 rfl (lv_at hl 4 rfl) ?_
    refine lv_aload_n hx hb dX6_homeBy_88 rfl (lv_at hl 3 rfl) ?_
    refine va_put (D := (dC, dI)) (ci := 11) (v := .ref rq) (ty := .array .int) (C := RX6) (T := TX6) (N := 6) hx hb hts u_c_homeBy_X6 tyX6 tyX6_ok nmX6 hown hK hP hD hS 1 rfl rfl 4 (by decide) (hts (.fieldLink RX6 9 "HotelOfBellsModel" "row" "[I") (List.mem_of_getElem? (i := 3) rfl)) (fun _ h9 => h9) rfl (by decide +kernel) rfl rfl (Nat.le_of_ble_eq_true rfl) dX6_homeBy_89 (fun H locs hP hD hS => ?_)
    have hP : va_P (dC, dI) vwCl [(rq, .inl (ci, 119, .inl (RW xh xr xt xw))), (h0, .inr (11, [.int th, .int 1, .int 0, .int 1, .ref rq, .ref sbq])), (q_3, .inl (ci, 119, .inl (RW vx_16 vx_17 vx_18 vx_19)))] H := hP
    have hD : va_D A [(rq, .inl (ci, 119, .inl (RW xh xr xt xw))), (h0, .inr (11, [.int th, .int 1, .int 0, .int 1, .ref rq, .ref sbq])), (q_3, .inl (ci, 119, .inl (RW vx_16 vx_17 vx_18 vx_19)))] := hD
    refine lv_iload hx hb dX6_homeBy_92 (lv_at hl 2 rfl) ?_
    have hP9 := hP.sub (ws' := [(h0, .inr (11, [.int th, .int 1, .int 0, .int 1, .ref rq, .ref sbq])), (rq, .inl (ci, 119, .inl (RW xh xr xt xw))), (q_3, .inl (ci, 119, .inl (RW vx_16 vx_17 vx_18 vx_19)))]) [1, 0, 2] rfl
    have hD9 := hD.sub (ws' := [(h0, .inr (11, [.int th, .int 1, .int 0, .int 1, .ref rq, .ref sbq])), (rq, .inl (ci, 119, .inl (RW xh xr xt xw))), (q_3, .inl (ci, 119, .inl (RW vx_16 vx_17 vx_18 vx_19)))]) [1, 0, 2] (by decide) rfl
    have hK9 := hK.sub (tys' := [(ci, .int)]) [0] rfl
    exact W.iret (v := (-1)) hx hb hr (fun t ht hW => ⟨⟨(-1), (), rfl, rfl, q_3, (RW vx_16 vx_17 vx_18 vx_19), by rw [ht]; exact hP9, va_K.moved hW.alike hK9, hD9⟩, hS.F ht⟩) hS.2.2 dX6_homeBy_94
  · obtain rfl : r_4 = 2 := hw.trans hd0
    refine lv_istore (lv' := [(5, .int 2), (4, .int (-1)), (3, .ref rq), (0, .ref h0), (1, .int 0), (2, .int p1)]) hx hb dX6_homeBy_33 hl (by decide) rfl (fun ls hl => ?_)
    refine lv_iconst (v := 1) hx hb dX6_homeBy_35 (by decide) ?_
    refine lv_istore (lv' := [(6, .int 1), (5, .int 2), (4, .int (-1)), (3, .ref rq), (0, .ref h0), (1, .int 0), (2, .int p1)]) hx hb dX6_homeBy_36 hl (by decide) rfl (fun ls hl => ?_)
    refine lv_iload hx hb dX6_homeBy_38 (lv_at hl 0 rfl) ?_
    refine lv_iload hx hb dX6_homeBy_40 (lv_at hl 1 rfl) ?_
    refine lv_icmp_gt (tgt := 87) hx hb dX6_homeBy_42 (by decide) (fun c_23 => absurd c_23 (by decide)) (fun _ => ?_)
    refine lv_iload hx hb dX6_homeBy_45 (lv_at hl 2 rfl) ?_
    refine lv_iconst (v := (-1)) hx hb dX6_homeBy_47 (by decide) ?_
    refine lv_icmp_ne (tgt := 87) hx hb dX6_homeBy_48 (by decide) (fun c_24 => absurd (by decide) c_24) (fun _ => ?_)
    refine lv_aload_n hx hb dX6_homeBy_51 rfl (lv_at hl 4 rfl) ?_
    refine lv_iload_n hx hb dX6_homeBy_52 rfl (lv_at hl 6 rfl) ?_
    refine lv_iload hx hb dX6_homeBy_53 (lv_at hl 1 rfl) ?_
    refine lv_iload hx hb dX6_homeBy_55 (lv_at hl 0 rfl) ?_
    refine lv_isub hx hb dX6_homeBy_57 ?_
    refine lv_topi (fun x_25 e_26 => ?_)
    obtain rfl : x_25 = 1 := e_26.trans (by decide)
    have hPc := hP.sub (ws' := []) [] rfl
    have hDc := hD.sub (ws' := []) [] (by decide) rfl
    have hKc := hK.sub (tys' := []) [] rfl
    have hFc := va_free (wc := []) hD hS hA [] rfl
    refine va_calli (va_runS (As := [.int 1]) (rest := [.int p1, .ref h0]) ⟨hx, hb, hml, hown, hts⟩ (c_power_1 l hl9 dC dI tE  _ ) (va_cwS 1 hts (goodIn_app (goodIn_r _ [24, 25, 7] (by rfl) (by decide +kernel)) gg_c_homeBy_c_power_1) rfl rfl rfl (by decide +kernel) ⟨Nat.le_of_ble_eq_true rfl, Nat.le_of_ble_eq_true rfl⟩) ⟨Pre0.blind, Pre0.give hPc hKc hDc hT hS hFc⟩ rfl rfl hl.1 rfl (lv_room (Nat.le_of_ble_eq_true rfl)) dX6_homeBy_58 ⟨Nat.le_of_ble_eq_true rfl, Nat.le_of_ble_eq_true rfl⟩) hS (fun q _ h => hFc q h) hFc (fun r_27 u t H1 locs ht hvm hw hB hz1 hk1 hS => ?_)
    obtain ⟨hP1, hK1, hD1⟩ := hB
    rw [ht] at hP1
    have hK1 := va_K.moved hvm.symm hK1
    obtain ⟨hP, hD⟩ := va_join (wr := [(h0, .inr (11, [.int th, .int 1, .int 0, .int 1, .ref q_3, .ref sbq])), (rq, .inl (ci, 119, .inl (RW xh xr xt xw))), (q_3, .inl (ci, 119, .inl (RW xh xr xt xw)))]) (w1 := []) hP hD [] [0, 1, 2] rfl rfl (by decide) (by decide) hk1 hFc hP1 hD1
    generalize H1 = H at hP hS ⊢
    have hP : va_P (dC, dI) vwCl [(h0, .inr (11, [.int th, .int 1, .int 0, .int 1, .ref q_3, .ref sbq])), (rq, .inl (ci, 119, .inl (RW xh xr xt xw))), (q_3, .inl (ci, 119, .inl (RW xh xr xt xw)))] H := hP
    have hD : va_D A [(h0, .inr (11, [.int th, .int 1, .int 0, .int 1, .ref q_3, .ref sbq])), (rq, .inl (ci, 119, .inl (RW xh xr xt xw))), (q_3, .inl (ci, 119, .inl (RW xh xr xt xw)))] := hD
    refine W.widen (k := 1) (n := 119) (by omega) (by omega) ?_
    obtain rfl : r_27 = 10 := hw
    refine lv_idiv hx hb dX6_homeBy_61 (by decide) ?_
    refine lv_topi (fun x_28 e_29 => ?_)
    refine lv_bipush (v := 10) hx hb dX6_homeBy_62 (by decide) ?_
    refine lv_irem hx hb dX6_homeBy_64 (by decide) ?_
    refine lv_topi (fun x_30 e_31 => ?_)
    have hPc := hP.sub (ws' := [(h0, .inr (11, [.int th, .int 1, .int 0, .int 1, .ref q_3, .ref sbq])), (q_3, .inl (ci, 119, .inl (RW xh xr xt xw)))]) [0, 2] rfl
    have hDc := hD.sub (ws' := [(h0, .inr (11, [.int th, .int 1, .int 0, .int 1, .ref q_3, .ref sbq])), (q_3, .inl (ci, 119, .inl (RW xh xr xt xw)))]) [0, 2] (by decide) rfl
    have hKc := hK.sub (tys' := [(ci, .int)]) [0] rfl
    have hFc := va_free (wc := [(h0, .inr (11, [.int th, .int 1, .int 0, .int 1, .ref q_3, .ref sbq])), (q_3, .inl (ci, 119, .inl (RW xh xr xt xw)))]) hD hS hA [0, 2] rfl
    refine va_calli (va_runV (As := [.int x_30]) (rest := []) ⟨hx, hb, hml, hown, hts⟩ (c_ringOne l hl9 dC dI tE h0 q_3 sbq th ci xh xr xt xw x_30 _ ) (cwV 1 hts (goodIn_app (goodIn_r _ [54, 55, 56, 7] (by rfl) (by decide +kernel)) gg_c_homeBy_c_ringOne) rfl rfl rfl (by decide +kernel) ⟨Nat.le_of_ble_eq_true rfl, Nat.le_of_ble_eq_true rfl⟩) ⟨Pre0.blind, va_recv hKc hPc (ci := 11) (q0 := 0) rfl rfl, Pre0.give hPc hKc hDc hT hS hFc⟩ rfl rfl hl.1 rfl (lv_room (Nat.le_of_ble_eq_true rfl)) dX6_homeBy_65 ⟨Nat.le_of_ble_eq_true rfl, Nat.le_of_ble_eq_true rfl⟩) hS (fun q _ h => hFc q h) hFc (fun r_32 u t H1 locs ht hvm hw hB hz1 hk1 hS => ?_)
    obtain ⟨vx_33, vx_34, vx_35, vx_36, hP1, hK1, hD1⟩ := hB
    rw [ht] at hP1
    have hK1 := va_K.moved hvm.symm hK1
    obtain ⟨hP, hD⟩ := va_join (wr := [(rq, .inl (ci, 119, .inl (RW xh xr xt xw)))]) (w1 := [(h0, .inr (11, [.int th, .int 1, .int 0, .int 1, .ref q_3, .ref sbq])), (q_3, .inl (ci, 119, .inl (RW vx_33 vx_34 vx_35 vx_36)))]) hP hD [0, 2] [1] rfl rfl (by decide) (by decide) hk1 hFc hP1 hD1
    generalize H1 = H at hP hS ⊢
    have hP : va_P (dC, dI) vwCl [(rq, .inl (ci, 119, .inl (RW xh xr xt xw))), (h0, .inr (11, [.int th, .int 1, .int 0, .int 1, .ref q_3, .ref sbq])), (q_3, .inl (ci, 119, .inl (RW vx_33 vx_34 vx_35 vx_36)))] H := hP
    have hD : va_D A [(rq, .inl (ci, 119, .inl (RW xh xr xt xw))), (h0, .inr (11, [.int th, .int 1, .int 0, .int 1, .ref q_3, .ref sbq])), (q_3, .inl (ci, 119, .inl (RW vx_33 vx_34 vx_35 vx_36)))] := hD
    refine W.widen (k := 1) (n := 119) (by omega) (by omega) ?_
    obtain rfl : r_32 = 0 := hw
    refine lv_pop hx hb dX6_homeBy_68 rfl ?_
    refine lv_aload_n hx hb dX6_homeBy_69 rfl (lv_at hl 4 rfl) ?_
    refine lv_iload_n hx hb dX6_homeBy_70 rfl (lv_at hl 5 rfl) ?_
    have hPc := hP.sub (ws' := [(h0, .inr (11, [.int th, .int 1, .int 0, .int 1, .ref q_3, .ref sbq])), (q_3, .inl (ci, 119, .inl (RW vx_33 vx_34 vx_35 vx_36)))]) [1, 2] rfl
    have hDc := hD.sub (ws' := [(h0, .inr (11, [.int th, .int 1, .int 0, .int 1, .ref q_3, .ref sbq])), (q_3, .inl (ci, 119, .inl (RW vx_33 vx_34 vx_35 vx_36)))]) [1, 2] (by decide) rfl
    have hKc := hK.sub (tys' := [(ci, .int)]) [0] rfl
    have hFc := va_free (wc := [(h0, .inr (11, [.int th, .int 1, .int 0, .int 1, .ref q_3, .ref sbq])), (q_3, .inl (ci, 119, .inl (RW vx_33 vx_34 vx_35 vx_36)))]) hD hS hA [1, 2] rfl
    refine va_calli (va_runV (As := [.int 0]) (rest := []) ⟨hx, hb, hml, hown, hts⟩ (c_isHome l hl9 dC dI tE h0 q_3 sbq th ci vx_33 vx_34 vx_35 vx_36 _ ) (cwV 1 hts (goodIn_app (goodIn_r _ [8, 9, 10, 7] (by rfl) (by decide +kernel)) gg_c_homeBy_c_isHome) rfl rfl rfl (by decide +kernel) ⟨Nat.le_of_ble_eq_true rfl, Nat.le_of_ble_eq_true rfl⟩) ⟨Pre0.blind, va_recv hKc hPc (ci := 11) (q0 := 0) rfl rfl, Pre0.give hPc hKc hDc hT hS hFc⟩ rfl rfl hl.1 rfl (lv_room (Nat.le_of_ble_eq_true rfl)) dX6_homeBy_71 ⟨Nat.le_of_ble_eq_true rfl, Nat.le_of_ble_eq_true rfl⟩) hS (fun q _ h => hFc q h) hFc (fun r_37 u t H1 locs ht hvm hw hB hz1 hk1 hS => ?_)
    obtain ⟨hP1, hK1, hD1⟩ := hB
    rw [ht] at hP1
    have hK1 := va_K.moved hvm.symm hK1
    obtain ⟨hP, hD⟩ := va_join (wr := [(rq, .inl (ci, 119, .inl (RW xh xr xt xw)))]) (w1 := [(h0, .inr (11, [.int th, .int 1, .int 0, .int 1, .ref q_3, .ref sbq])), (q_3, .inl (ci, 119, .inl (RW vx_33 vx_34 vx_35 vx_36)))]) hP hD [1, 2] [0] rfl rfl (by decide) (by decide) hk1 hFc hP1 hD1
    generalize H1 = H at hP hS ⊢
    have hP : va_P (dC, dI) vwCl [(rq, .inl (ci, 119, .inl (RW xh xr xt xw))), (h0, .inr (11, [.int th, .int 1, .int 0, .int 1, .ref q_3, .ref sbq])), (q_3, .inl (ci, 119, .inl (RW vx_33 vx_34 vx_35 vx_36)))] H := hP
    have hD : va_D A [(rq, .inl (ci, 119, .inl (RW xh xr xt xw))), (h0, .inr (11, [.int th, .int 1, .int 0, .int 1, .ref q_3, .ref sbq])), (q_3, .inl (ci, 119, .inl (RW vx_33 vx_34 vx_35 vx_36)))] := hD
    refine W.widen (k := 1) (n := 119) (by omega) (by omega) ?_
    obtain rfl : r_37 = 0 := hw
    refine lv_if_eq (tgt := 81) hx hb dX6_homeBy_74 (by decide) (fun _ => ?_) (fun c_38 => absurd (by decide) c_38)
    refine lv_iinc (v := 2) (lv' := [(6, .int 2), (5, .int 2), (4, .int (-1)), (3, .ref rq), (0, .ref h0), (1, .int 0), (2, .int p1)]) hx hb dX6_homeBy_81 hl (k := 0) rfl (by decide) (by decide) rfl (fun ls hl => ?_)
    refine lv_goto (tgt := 38) hx hb dX6_homeBy_84 (by decide) ?_
    refine lv_iload hx hb dX6_homeBy_38 (lv_at hl 0 rfl) ?_
    refine lv_iload hx hb dX6_homeBy_40 (lv_at hl 1 rfl) ?_
    refine lv_icmp_gt (tgt := 87) hx hb dX6_homeBy_42 (by decide) (fun c_39 => absurd c_39 (by decide)) (fun _ => ?_)
    refine lv_iload hx hb dX6_homeBy_45 (lv_at hl 2 rfl) ?_
    refine lv_iconst (v := (-1)) hx hb dX6_homeBy_47 (by decide) ?_
    refine lv_icmp_ne (tgt := 87) hx hb dX6_homeBy_48 (by decide) (fun c_40 => absurd (by decide) c_40) (fun _ => ?_)
    refine lv_aload_n hx hb dX6_homeBy_51 rfl (lv_at hl 4 rfl) ?_
    refine lv_iload_n hx hb dX6_homeBy_52 rfl (lv_at hl 6 rfl) ?_
    refine lv_iload hx hb dX6_homeBy_53 (lv_at hl 1 rfl) ?_
    refine lv_iload hx hb dX6_homeBy_55 (lv_at hl 0 rfl) ?_
    refine lv_isub hx hb dX6_homeBy_57 ?_
    refine lv_topi (fun x_41 e_42 => ?_)
    obtain rfl : x_41 = 0 := e_42.trans (by decide)
    have hPc := hP.sub (ws' := []) [] rfl
    have hDc := hD.sub (ws' := []) [] (by decide) rfl
    have hKc := hK.sub (tys' := []) [] rfl
    have hFc := va_free (wc := []) hD hS hA [] rfl
    refine va_calli (va_runS (As := [.int 0]) (rest := [.int p1, .ref h0]) ⟨hx, hb, hml, hown, hts⟩ (c_power_0 l hl9 dC dI tE  _ ) (va_cwS 1 hts (goodIn_app (goodIn_r _ [24, 25, 7] (by rfl) (by decide +kernel)) gg_c_homeBy_c_power_0) rfl rfl rfl (by decide +kernel) ⟨Nat.le_of_ble_eq_true rfl, Nat.le_of_ble_eq_true rfl⟩) ⟨Pre0.blind, Pre0.give hPc hKc hDc hT hS hFc⟩ rfl rfl hl.1 rfl (lv_room (Nat.le_of_ble_eq_true rfl)) dX6_homeBy_58 ⟨Nat.le_of_ble_eq_true rfl, Nat.le_of_ble_eq_true rfl⟩) hS (fun q _ h => hFc q h) hFc (fun r_43 u t H1 locs ht hvm hw hB hz1 hk1 hS => ?_)
    obtain ⟨hP1, hK1, hD1⟩ := hB
    rw [ht] at hP1
    have hK1 := va_K.moved hvm.symm hK1
    obtain ⟨hP, hD⟩ := va_join (wr := [(rq, .inl (ci, 119, .inl (RW xh xr xt xw))), (h0, .inr (11, [.int th, .int 1, .int 0, .int 1, .ref q_3, .ref sbq])), (q_3, .inl (ci, 119, .inl (RW vx_33 vx_34 vx_35 vx_36)))]) (w1 := []) hP hD [] [0, 1, 2] rfl rfl (by decide) (by decide) hk1 hFc hP1 hD1
    generalize H1 = H at hP hS ⊢
    have hP : va_P (dC, dI) vwCl [(rq, .inl (ci, 119, .inl (RW xh xr xt xw))), (h0, .inr (11, [.int th, .int 1, .int 0, .int 1, .ref q_3, .ref sbq])), (q_3, .inl (ci, 119, .inl (RW vx_33 vx_34 vx_35 vx_36)))] H := hP
    have hD : va_D A [(rq, .inl (ci, 119, .inl (RW xh xr xt xw))), (h0, .inr (11, [.int th, .int 1, .int 0, .int 1, .ref q_3, .ref sbq])), (q_3, .inl (ci, 119, .inl (RW vx_33 vx_34 vx_35 vx_36)))] := hD
    refine W.widen (k := 1) (n := 119) (by omega) (by omega) ?_
    obtain rfl : r_43 = 1 := hw
    refine lv_idiv hx hb dX6_homeBy_61 (by decide) ?_
    refine lv_topi (fun x_44 e_45 => ?_)
    refine lv_bipush (v := 10) hx hb dX6_homeBy_62 (by decide) ?_
    refine lv_irem hx hb dX6_homeBy_64 (by decide) ?_
    refine lv_topi (fun x_46 e_47 => ?_)
    have hPc := hP.sub (ws' := [(h0, .inr (11, [.int th, .int 1, .int 0, .int 1, .ref q_3, .ref sbq])), (q_3, .inl (ci, 119, .inl (RW vx_33 vx_34 vx_35 vx_36)))]) [1, 2] rfl
    have hDc := hD.sub (ws' := [(h0, .inr (11, [.int th, .int 1, .int 0, .int 1, .ref q_3, .ref sbq])), (q_3, .inl (ci, 119, .inl (RW vx_33 vx_34 vx_35 vx_36)))]) [1, 2] (by decide) rfl
    have hKc := hK.sub (tys' := [(ci, .int)]) [0] rfl
    have hFc := va_free (wc := [(h0, .inr (11, [.int th, .int 1, .int 0, .int 1, .ref q_3, .ref sbq])), (q_3, .inl (ci, 119, .inl (RW vx_33 vx_34 vx_35 vx_36)))]) hD hS hA [1, 2] rfl
    refine va_calli (va_runV (As := [.int x_46]) (rest := []) ⟨hx, hb, hml, hown, hts⟩ (c_ringOne l hl9 dC dI tE h0 q_3 sbq th ci vx_33 vx_34 vx_35 vx_36 x_46 _ ) (cwV 1 hts (goodIn_app (goodIn_r _ [54, 55, 56, 7] (by rfl) (by decide +kernel)) gg_c_homeBy_c_ringOne) rfl rfl rfl (by decide +kernel) ⟨Nat.le_of_ble_eq_true rfl, Nat.le_of_ble_eq_true rfl⟩) ⟨Pre0.blind, va_recv hKc hPc (ci := 11) (q0 := 0) rfl rfl, Pre0.give hPc hKc hDc hT hS hFc⟩ rfl rfl hl.1 rfl (lv_room (Nat.le_of_ble_eq_true rfl)) dX6_homeBy_65 ⟨Nat.le_of_ble_eq_true rfl, Nat.le_of_ble_eq_true rfl⟩) hS (fun q _ h => hFc q h) hFc (fun r_48 u t H1 locs ht hvm hw hB hz1 hk1 hS => ?_)
    obtain ⟨vx_49, vx_50, vx_51, vx_52, hP1, hK1, hD1⟩ := hB
    rw [ht] at hP1
    have hK1 := va_K.moved hvm.symm hK1
    obtain ⟨hP, hD⟩ := va_join (wr := [(rq, .inl (ci, 119, .inl (RW xh xr xt xw)))]) (w1 := [(h0, .inr (11, [.int th, .int 1, .int 0, .int 1, .ref q_3, .ref sbq])), (q_3, .inl (ci, 119, .inl (RW vx_49 vx_50 vx_51 vx_52)))]) hP hD [1, 2] [0] rfl rfl (by decide) (by decide) hk1 hFc hP1 hD1
    generalize H1 = H at hP hS ⊢
    have hP : va_P (dC, dI) vwCl [(rq, .inl (ci, 119, .inl (RW xh xr xt xw))), (h0, .inr (11, [.int th, .int 1, .int 0, .int 1, .ref q_3, .ref sbq])), (q_3, .inl (ci, 119, .inl (RW vx_49 vx_50 vx_51 vx_52)))] H := hP
    have hD : va_D A [(rq, .inl (ci, 119, .inl (RW xh xr xt xw))), (h0, .inr (11, [.int th, .int 1, .int 0, .int 1, .ref q_3, .ref sbq])), (q_3, .inl (ci, 119, .inl (RW vx_49 vx_50 vx_51 vx_52)))] := hD
    refine W.widen (k := 1) (n := 119) (by omega) (by omega) ?_
    obtain rfl : r_48 = 0 := hw
    refine lv_pop hx hb dX6_homeBy_68 rfl ?_
    refine lv_aload_n hx hb dX6_homeBy_69 rfl (lv_at hl 4 rfl) ?_
    refine lv_iload_n hx hb dX6_homeBy_70 rfl (lv_at hl 5 rfl) ?_
    have hPc := hP.sub (ws' := [(h0, .inr (11, [.int th, .int 1, .int 0, .int 1, .ref q_3, .ref sbq])), (q_3, .inl (ci, 119, .inl (RW vx_49 vx_50 vx_51 vx_52)))]) [1, 2] rfl
    have hDc := hD.sub (ws' := [(h0, .inr (11, [.int th, .int 1, .int 0, .int 1, .ref q_3, .ref sbq])), (q_3, .inl (ci, 119, .inl (RW vx_49 vx_50 vx_51 vx_52)))]) [1, 2] (by decide) rfl
    have hKc := hK.sub (tys' := [(ci, .int)]) [0] rfl
    have hFc := va_free (wc := [(h0, .inr (11, [.int th, .int 1, .int 0, .int 1, .ref q_3, .ref sbq])), (q_3, .inl (ci, 119, .inl (RW vx_49 vx_50 vx_51 vx_52)))]) hD hS hA [1, 2] rfl
    refine va_calli (va_runV (As := [.int 0]) (rest := []) ⟨hx, hb, hml, hown, hts⟩ (c_isHome l hl9 dC dI tE h0 q_3 sbq th ci vx_49 vx_50 vx_51 vx_52 _ ) (cwV 1 hts (goodIn_app (goodIn_r _ [8, 9, 10, 7] (by rfl) (by decide +kernel)) gg_c_homeBy_c_isHome) rfl rfl rfl (by decide +kernel) ⟨Nat.le_of_ble_eq_true rfl, Nat.le_of_ble_eq_true rfl⟩) ⟨Pre0.blind, va_recv hKc hPc (ci := 11) (q0 := 0) rfl rfl, Pre0.give hPc hKc hDc hT hS hFc⟩ rfl rfl hl.1 rfl (lv_room (Nat.le_of_ble_eq_true rfl)) dX6_homeBy_71 ⟨Nat.le_of_ble_eq_true rfl, Nat.le_of_ble_eq_true rfl⟩) hS (fun q _ h => hFc q h) hFc (fun r_53 u t H1 locs ht hvm hw hB hz1 hk1 hS => ?_)
    obtain ⟨hP1, hK1, hD1⟩ := hB
    rw [ht] at hP1
    have hK1 := va_K.moved hvm.symm hK1
    obtain ⟨hP, hD⟩ := va_join (wr := [(rq, .inl (ci, 119, .inl (RW xh xr xt xw)))]) (w1 := [(h0, .inr (11, [.int th, .int 1, .int 0, .int 1, .ref q_3, .ref sbq])), (q_3, .inl (ci, 119, .inl (RW vx_49 vx_50 vx_51 vx_52)))]) hP hD [1, 2] [0] rfl rfl (by decide) (by decide) hk1 hFc hP1 hD1
    generalize H1 = H at hP hS ⊢
    have hP : va_P (dC, dI) vwCl [(rq, .inl (ci, 119, .inl (RW xh xr xt xw))), (h0, .inr (11, [.int th, .int 1, .int 0, .int 1, .ref q_3, .ref sbq])), (q_3, .inl (ci, 119, .inl (RW vx_49 vx_50 vx_51 vx_52)))] H := hP
    have hD : va_D A [(rq, .inl (ci, 119, .inl (RW xh xr xt xw))), (h0, .inr (11, [.int th, .int 1, .int 0, .int 1, .ref q_3, .ref sbq])), (q_3, .inl (ci, 119, .inl (RW vx_49 vx_50 vx_51 vx_52)))] := hD
    refine W.widen (k := 1) (n := 119) (by omega) (by omega) ?_
    obtain rfl : r_53 = 0 := hw
    refine lv_if_eq (tgt := 81) hx hb dX6_homeBy_74 (by decide) (fun _ => ?_) (fun c_54 => absurd (by decide) c_54)
    refine lv_iinc (v := 3) (lv' := [(6, .int 3), (5, .int 2), (4, .int (-1)), (3, .ref rq), (0, .ref h0), (1, .int 0), (2, .int p1)]) hx hb dX6_homeBy_81 hl (k := 0) rfl (by decide) (by decide) rfl (fun ls hl => ?_)
    refine lv_goto (tgt := 38) hx hb dX6_homeBy_84 (by decide) ?_
    refine lv_iload hx hb dX6_homeBy_38 (lv_at hl 0 rfl) ?_
    refine lv_iload hx hb dX6_homeBy_40 (lv_at hl 1 rfl) ?_
    refine lv_icmp_gt (tgt := 87) hx hb dX6_homeBy_42 (by decide) (fun _ => ?_) (fun c_55 => absurd (by decide) c_55)
    refine lv_aload_n hx hb dX6_homeBy_87 rfl (lv_at hl 4 rfl) ?_
    refine lv_aload_n hx hb dX6_homeBy_88 rfl (lv_at hl 3 rfl) ?_
    refine va_put (D := (dC, dI)) (ci := 11) (v := .ref rq) (ty := .array .int) (C := RX6) (T := TX6) (N := 6) hx hb hts u_c_homeBy_X6 tyX6 tyX6_ok nmX6 hown hK hP hD hS 1 rfl rfl 4 (by decide) (hts (.fieldLink RX6 9 "HotelOfBellsModel" "row" "[I") (List.mem_of_getElem? (i := 3) rfl)) (fun _ h9 => h9) rfl (by decide +kernel) rfl rfl (Nat.le_of_ble_eq_true rfl) dX6_homeBy_89 (fun H locs hP hD hS => ?_)
    have hP : va_P (dC, dI) vwCl [(rq, .inl (ci, 119, .inl (RW xh xr xt xw))), (h0, .inr (11, [.int th, .int 1, .int 0, .int 1, .ref rq, .ref sbq])), (q_3, .inl (ci, 119, .inl (RW vx_49 vx_50 vx_51 vx_52)))] H := hP
    have hD : va_D A [(rq, .inl (ci, 119, .inl (RW xh xr xt xw))), (h0, .inr (11, [.int th, .int 1, .int 0, .int 1, .ref rq, .ref sbq])), (q_3, .inl (ci, 119, .inl (RW vx_49 vx_50 vx_51 vx_52)))] := hD
    refine lv_iload hx hb dX6_homeBy_92 (lv_at hl 2 rfl) ?_
    have hP9 := hP.sub (ws' := [(h0, .inr (11, [.int th, .int 1, .int 0, .int 1, .ref rq, .ref sbq])), (rq, .inl (ci, 119, .inl (RW xh xr xt xw))), (q_3, .inl (ci, 119, .inl (RW vx_49 vx_50 vx_51 vx_52)))]) [1, 0, 2] rfl
    have hD9 := hD.sub (ws' := [(h0, .inr (11, [.int th, .int 1, .int 0, .int 1, .ref rq, .ref sbq])), (rq, .inl (ci, 119, .inl (RW xh xr xt xw))), (q_3, .inl (ci, 119, .inl (RW vx_49 vx_50 vx_51 vx_52)))]) [1, 0, 2] (by decide) rfl
    have hK9 := hK.sub (tys' := [(ci, .int)]) [0] rfl
    exact W.iret (v := (-1)) hx hb hr (fun t ht hW => ⟨⟨(-1), (), rfl, rfl, q_3, (RW vx_49 vx_50 vx_51 vx_52), by rw [ht]; exact hP9, va_K.moved hW.alike hK9, hD9⟩, hS.F ht⟩) hS.2.2 dX6_homeBy_94
  · obtain rfl : r_4 = 3 := hw.trans hd0
    refine lv_istore (lv' := [(5, .int 3), (4, .int (-1)), (3, .ref rq), (0, .ref h0), (1, .int 0), (2, .int p1)]) hx hb dX6_homeBy_33 hl (by decide) rfl (fun ls hl => ?_)
    refine lv_iconst (v := 1) hx hb dX6_homeBy_35 (by decide) ?_
    refine lv_istore (lv' := [(6, .int 1), (5, .int 3), (4, .int (-1)), (3, .ref rq), (0, .ref h0), (1, .int 0), (2, .int p1)]) hx hb dX6_homeBy_36 hl (by decide) rfl (fun ls hl => ?_)
    refine lv_iload hx hb dX6_homeBy_38 (lv_at hl 0 rfl) ?_
    refine lv_iload hx hb dX6_homeBy_40 (lv_at hl 1 rfl) ?_
    refine lv_icmp_gt (tgt := 87) hx hb dX6_homeBy_42 (by decide) (fun c_56 => absurd c_56 (by decide)) (fun _ => ?_)
    refine lv_iload hx hb dX6_homeBy_45 (lv_at hl 2 rfl) ?_
    refine lv_iconst (v := (-1)) hx hb dX6_homeBy_47 (by decide) ?_
    refine lv_icmp_ne (tgt := 87) hx hb dX6_homeBy_48 (by decide) (fun c_57 => absurd (by decide) c_57) (fun _ => ?_)
    refine lv_aload_n hx hb dX6_homeBy_51 rfl (lv_at hl 4 rfl) ?_
    refine lv_iload_n hx hb dX6_homeBy_52 rfl (lv_at hl 6 rfl) ?_
    refine lv_iload hx hb dX6_homeBy_53 (lv_at hl 1 rfl) ?_
    refine lv_iload hx hb dX6_homeBy_55 (lv_at hl 0 rfl) ?_
    refine lv_isub hx hb dX6_homeBy_57 ?_
    refine lv_topi (fun x_58 e_59 => ?_)
    obtain rfl : x_58 = 2 := e_59.trans (by decide)
    have hPc := hP.sub (ws' := []) [] rfl
    have hDc := hD.sub (ws' := []) [] (by decide) rfl
    have hKc := hK.sub (tys' := []) [] rfl
    have hFc := va_free (wc := []) hD hS hA [] rfl
    refine va_calli (va_runS (As := [.int 2]) (rest := [.int p1, .ref h0]) ⟨hx, hb, hml, hown, hts⟩ (c_power_2 l hl9 dC dI tE  _ ) (va_cwS 1 hts (goodIn_app (goodIn_r _ [24, 25, 7] (by rfl) (by decide +kernel)) gg_c_homeBy_c_power_2) rfl rfl rfl (by decide +kernel) ⟨Nat.le_of_ble_eq_true rfl, Nat.le_of_ble_eq_true rfl⟩) ⟨Pre0.blind, Pre0.give hPc hKc hDc hT hS hFc⟩ rfl rfl hl.1 rfl (lv_room (Nat.le_of_ble_eq_true rfl)) dX6_homeBy_58 ⟨Nat.le_of_ble_eq_true rfl, Nat.le_of_ble_eq_true rfl⟩) hS (fun q _ h => hFc q h) hFc (fun r_60 u t H1 locs ht hvm hw hB hz1 hk1 hS => ?_)
    obtain ⟨hP1, hK1, hD1⟩ := hB
    rw [ht] at hP1
    have hK1 := va_K.moved hvm.symm hK1
    obtain ⟨hP, hD⟩ := va_join (wr := [(h0, .inr (11, [.int th, .int 1, .int 0, .int 1, .ref q_3, .ref sbq])), (rq, .inl (ci, 119, .inl (RW xh xr xt xw))), (q_3, .inl (ci, 119, .inl (RW xh xr xt xw)))]) (w1 := []) hP hD [] [0, 1, 2] rfl rfl (by decide) (by decide) hk1 hFc hP1 hD1
    generalize H1 = H at hP hS ⊢
    have hP : va_P (dC, dI) vwCl [(h0, .inr (11, [.int th, .int 1, .int 0, .int 1, .ref q_3, .ref sbq])), (rq, .inl (ci, 119, .inl (RW xh xr xt xw))), (q_3, .inl (ci, 119, .inl (RW xh xr xt xw)))] H := hP
    have hD : va_D A [(h0, .inr (11, [.int th, .int 1, .int 0, .int 1, .ref q_3, .ref sbq])), (rq, .inl (ci, 119, .inl (RW xh xr xt xw))), (q_3, .inl (ci, 119, .inl (RW xh xr xt xw)))] := hD
    refine W.widen (k := 1) (n := 119) (by omega) (by omega) ?_
    obtain rfl : r_60 = 100 := hw
    refine lv_idiv hx hb dX6_homeBy_61 (by decide) ?_
    refine lv_topi (fun x_61 e_62 => ?_)
    refine lv_bipush (v := 10) hx hb dX6_homeBy_62 (by decide) ?_
    refine lv_irem hx hb dX6_homeBy_64 (by decide) ?_
    refine lv_topi (fun x_63 e_64 => ?_)
    have hPc := hP.sub (ws' := [(h0, .inr (11, [.int th, .int 1, .int 0, .int 1, .ref q_3, .ref sbq])), (q_3, .inl (ci, 119, .inl (RW xh xr xt xw)))]) [0, 2] rfl
    have hDc := hD.sub (ws' := [(h0, .inr (11, [.int th, .int 1, .int 0, .int 1, .ref q_3, .ref sbq])), (q_3, .inl (ci, 119, .inl (RW xh xr xt xw)))]) [0, 2] (by decide) rfl
    have hKc := hK.sub (tys' := [(ci, .int)]) [0] rfl
    have hFc := va_free (wc := [(h0, .inr (11, [.int th, .int 1, .int 0, .int 1, .ref q_3, .ref sbq])), (q_3, .inl (ci, 119, .inl (RW xh xr xt xw)))]) hD hS hA [0, 2] rfl
    refine va_calli (va_runV (As := [.int x_63]) (rest := []) ⟨hx, hb, hml, hown, hts⟩ (c_ringOne l hl9 dC dI tE h0 q_3 sbq th ci xh xr xt xw x_63 _ ) (cwV 1 hts (goodIn_app (goodIn_r _ [54, 55, 56, 7] (by rfl) (by decide +kernel)) gg_c_homeBy_c_ringOne) rfl rfl rfl (by decide +kernel) ⟨Nat.le_of_ble_eq_true rfl, Nat.le_of_ble_eq_true rfl⟩) ⟨Pre0.blind, va_recv hKc hPc (ci := 11) (q0 := 0) rfl rfl, Pre0.give hPc hKc hDc hT hS hFc⟩ rfl rfl hl.1 rfl (lv_room (Nat.le_of_ble_eq_true rfl)) dX6_homeBy_65 ⟨Nat.le_of_ble_eq_true rfl, Nat.le_of_ble_eq_true rfl⟩) hS (fun q _ h => hFc q h) hFc (fun r_65 u t H1 locs ht hvm hw hB hz1 hk1 hS => ?_)
    obtain ⟨vx_66, vx_67, vx_68, vx_69, hP1, hK1, hD1⟩ := hB
    rw [ht] at hP1
    have hK1 := va_K.moved hvm.symm hK1
    obtain ⟨hP, hD⟩ := va_join (wr := [(rq, .inl (ci, 119, .inl (RW xh xr xt xw)))]) (w1 := [(h0, .inr (11, [.int th, .int 1, .int 0, .int 1, .ref q_3, .ref sbq])), (q_3, .inl (ci, 119, .inl (RW vx_66 vx_67 vx_68 vx_69)))]) hP hD [0, 2] [1] rfl rfl (by decide) (by decide) hk1 hFc hP1 hD1
    generalize H1 = H at hP hS ⊢
    have hP : va_P (dC, dI) vwCl [(rq, .inl (ci, 119, .inl (RW xh xr xt xw))), (h0, .inr (11, [.int th, .int 1, .int 0, .int 1, .ref q_3, .ref sbq])), (q_3, .inl (ci, 119, .inl (RW vx_66 vx_67 vx_68 vx_69)))] H := hP
    have hD : va_D A [(rq, .inl (ci, 119, .inl (RW xh xr xt xw))), (h0, .inr (11, [.int th, .int 1, .int 0, .int 1, .ref q_3, .ref sbq])), (q_3, .inl (ci, 119, .inl (RW vx_66 vx_67 vx_68 vx_69)))] := hD
    refine W.widen (k := 1) (n := 119) (by omega) (by omega) ?_
    obtain rfl : r_65 = 0 := hw
    refine lv_pop hx hb dX6_homeBy_68 rfl ?_
    refine lv_aload_n hx hb dX6_homeBy_69 rfl (lv_at hl 4 rfl) ?_
    refine lv_iload_n hx hb dX6_homeBy_70 rfl (lv_at hl 5 rfl) ?_
    have hPc := hP.sub (ws' := [(h0, .inr (11, [.int th, .int 1, .int 0, .int 1, .ref q_3, .ref sbq])), (q_3, .inl (ci, 119, .inl (RW vx_66 vx_67 vx_68 vx_69)))]) [1, 2] rfl
    have hDc := hD.sub (ws' := [(h0, .inr (11, [.int th, .int 1, .int 0, .int 1, .ref q_3, .ref sbq])), (q_3, .inl (ci, 119, .inl (RW vx_66 vx_67 vx_68 vx_69)))]) [1, 2] (by decide) rfl
    have hKc := hK.sub (tys' := [(ci, .int)]) [0] rfl
    have hFc := va_free (wc := [(h0, .inr (11, [.int th, .int 1, .int 0, .int 1, .ref q_3, .ref sbq])), (q_3, .inl (ci, 119, .inl (RW vx_66 vx_67 vx_68 vx_69)))]) hD hS hA [1, 2] rfl
    refine va_calli (va_runV (As := [.int 0]) (rest := []) ⟨hx, hb, hml, hown, hts⟩ (c_isHome l hl9 dC dI tE h0 q_3 sbq th ci vx_66 vx_67 vx_68 vx_69 _ ) (cwV 1 hts (goodIn_app (goodIn_r _ [8, 9, 10, 7] (by rfl) (by decide +kernel)) gg_c_homeBy_c_isHome) rfl rfl rfl (by decide +kernel) ⟨Nat.le_of_ble_eq_true rfl, Nat.le_of_ble_eq_true rfl⟩) ⟨Pre0.blind, va_recv hKc hPc (ci := 11) (q0 := 0) rfl rfl, Pre0.give hPc hKc hDc hT hS hFc⟩ rfl rfl hl.1 rfl (lv_room (Nat.le_of_ble_eq_true rfl)) dX6_homeBy_71 ⟨Nat.le_of_ble_eq_true rfl, Nat.le_of_ble_eq_true rfl⟩) hS (fun q _ h => hFc q h) hFc (fun r_70 u t H1 locs ht hvm hw hB hz1 hk1 hS => ?_)
    obtain ⟨hP1, hK1, hD1⟩ := hB
    rw [ht] at hP1
    have hK1 := va_K.moved hvm.symm hK1
    obtain ⟨hP, hD⟩ := va_join (wr := [(rq, .inl (ci, 119, .inl (RW xh xr xt xw)))]) (w1 := [(h0, .inr (11, [.int th, .int 1, .int 0, .int 1, .ref q_3, .ref sbq])), (q_3, .inl (ci, 119, .inl (RW vx_66 vx_67 vx_68 vx_69)))]) hP hD [1, 2] [0] rfl rfl (by decide) (by decide) hk1 hFc hP1 hD1
    generalize H1 = H at hP hS ⊢
    have hP : va_P (dC, dI) vwCl [(rq, .inl (ci, 119, .inl (RW xh xr xt xw))), (h0, .inr (11, [.int th, .int 1, .int 0, .int 1, .ref q_3, .ref sbq])), (q_3, .inl (ci, 119, .inl (RW vx_66 vx_67 vx_68 vx_69)))] H := hP
    have hD : va_D A [(rq, .inl (ci, 119, .inl (RW xh xr xt xw))), (h0, .inr (11, [.int th, .int 1, .int 0, .int 1, .ref q_3, .ref sbq])), (q_3, .inl (ci, 119, .inl (RW vx_66 vx_67 vx_68 vx_69)))] := hD
    refine W.widen (k := 1) (n := 119) (by omega) (by omega) ?_
    obtain rfl : r_70 = 0 := hw
    refine lv_if_eq (tgt := 81) hx hb dX6_homeBy_74 (by decide) (fun _ => ?_) (fun c_71 => absurd (by decide) c_71)
    refine lv_iinc (v := 2) (lv' := [(6, .int 2), (5, .int 3), (4, .int (-1)), (3, .ref rq), (0, .ref h0), (1, .int 0), (2, .int p1)]) hx hb dX6_homeBy_81 hl (k := 0) rfl (by decide) (by decide) rfl (fun ls hl => ?_)
    refine lv_goto (tgt := 38) hx hb dX6_homeBy_84 (by decide) ?_
    refine lv_iload hx hb dX6_homeBy_38 (lv_at hl 0 rfl) ?_
    refine lv_iload hx hb dX6_homeBy_40 (lv_at hl 1 rfl) ?_
    refine lv_icmp_gt (tgt := 87) hx hb dX6_homeBy_42 (by decide) (fun c_72 => absurd c_72 (by decide)) (fun _ => ?_)
    refine lv_iload hx hb dX6_homeBy_45 (lv_at hl 2 rfl) ?_
    refine lv_iconst (v := (-1)) hx hb dX6_homeBy_47 (by decide) ?_
    refine lv_icmp_ne (tgt := 87) hx hb dX6_homeBy_48 (by decide) (fun c_73 => absurd (by decide) c_73) (fun _ => ?_)
    refine lv_aload_n hx hb dX6_homeBy_51 rfl (lv_at hl 4 rfl) ?_
    refine lv_iload_n hx hb dX6_homeBy_52 rfl (lv_at hl 6 rfl) ?_
    refine lv_iload hx hb dX6_homeBy_53 (lv_at hl 1 rfl) ?_
    refine lv_iload hx hb dX6_homeBy_55 (lv_at hl 0 rfl) ?_
    refine lv_isub hx hb dX6_homeBy_57 ?_
    refine lv_topi (fun x_74 e_75 => ?_)
    obtain rfl : x_74 = 1 := e_75.trans (by decide)
    have hPc := hP.sub (ws' := []) [] rfl
    have hDc := hD.sub (ws' := []) [] (by decide) rfl
    have hKc := hK.sub (tys' := []) [] rfl
    have hFc := va_free (wc := []) hD hS hA [] rfl
    refine va_calli (va_runS (As := [.int 1]) (rest := [.int p1, .ref h0]) ⟨hx, hb, hml, hown, hts⟩ (c_power_1 l hl9 dC dI tE  _ ) (va_cwS 1 hts (goodIn_app (goodIn_r _ [24, 25, 7] (by rfl) (by decide +kernel)) gg_c_homeBy_c_power_1) rfl rfl rfl (by decide +kernel) ⟨Nat.le_of_ble_eq_true rfl, Nat.le_of_ble_eq_true rfl⟩) ⟨Pre0.blind, Pre0.give hPc hKc hDc hT hS hFc⟩ rfl rfl hl.1 rfl (lv_room (Nat.le_of_ble_eq_true rfl)) dX6_homeBy_58 ⟨Nat.le_of_ble_eq_true rfl, Nat.le_of_ble_eq_true rfl⟩) hS (fun q _ h => hFc q h) hFc (fun r_76 u t H1 locs ht hvm hw hB hz1 hk1 hS => ?_)
    obtain ⟨hP1, hK1, hD1⟩ := hB
    rw [ht] at hP1
    have hK1 := va_K.moved hvm.symm hK1
    obtain ⟨hP, hD⟩ := va_join (wr := [(rq, .inl (ci, 119, .inl (RW xh xr xt xw))), (h0, .inr (11, [.int th, .int 1, .int 0, .int 1, .ref q_3, .ref sbq])), (q_3, .inl (ci, 119, .inl (RW vx_66 vx_67 vx_68 vx_69)))]) (w1 := []) hP hD [] [0, 1, 2] rfl rfl (by decide) (by decide) hk1 hFc hP1 hD1
    generalize H1 = H at hP hS ⊢
    have hP : va_P (dC, dI) vwCl [(rq, .inl (ci, 119, .inl (RW xh xr xt xw))), (h0, .inr (11, [.int th, .int 1, .int 0, .int 1, .ref q_3, .ref sbq])), (q_3, .inl (ci, 119, .inl (RW vx_66 vx_67 vx_68 vx_69)))] H := hP
    have hD : va_D A [(rq, .inl (ci, 119, .inl (RW xh xr xt xw))), (h0, .inr (11, [.int th, .int 1, .int 0, .int 1, .ref q_3, .ref sbq])), (q_3, .inl (ci, 119, .inl (RW vx_66 vx_67 vx_68 vx_69)))] := hD
    refine W.widen (k := 1) (n := 119) (by omega) (by omega) ?_
    obtain rfl : r_76 = 10 := hw
    refine lv_idiv hx hb dX6_homeBy_61 (by decide) ?_
    refine lv_topi (fun x_77 e_78 => ?_)
    refine lv_bipush (v := 10) hx hb dX6_homeBy_62 (by decide) ?_
    refine lv_irem hx hb dX6_homeBy_64 (by decide) ?_
    refine lv_topi (fun x_79 e_80 => ?_)
    have hPc := hP.sub (ws' := [(h0, .inr (11, [.int th, .int 1, .int 0, .int 1, .ref q_3, .ref sbq])), (q_3, .inl (ci, 119, .inl (RW vx_66 vx_67 vx_68 vx_69)))]) [1, 2] rfl
    have hDc := hD.sub (ws' := [(h0, .inr (11, [.int th, .int 1, .int 0, .int 1, .ref q_3, .ref sbq])), (q_3, .inl (ci, 119, .inl (RW vx_66 vx_67 vx_68 vx_69)))]) [1, 2] (by decide) rfl
    have hKc := hK.sub (tys' := [(ci, .int)]) [0] rfl
    have hFc := va_free (wc := [(h0, .inr (11, [.int th, .int 1, .int 0, .int 1, .ref q_3, .ref sbq])), (q_3, .inl (ci, 119, .inl (RW vx_66 vx_67 vx_68 vx_69)))]) hD hS hA [1, 2] rfl
    refine va_calli (va_runV (As := [.int x_79]) (rest := []) ⟨hx, hb, hml, hown, hts⟩ (c_ringOne l hl9 dC dI tE h0 q_3 sbq th ci vx_66 vx_67 vx_68 vx_69 x_79 _ ) (cwV 1 hts (goodIn_app (goodIn_r _ [54, 55, 56, 7] (by rfl) (by decide +kernel)) gg_c_homeBy_c_ringOne) rfl rfl rfl (by decide +kernel) ⟨Nat.le_of_ble_eq_true rfl, Nat.le_of_ble_eq_true rfl⟩) ⟨Pre0.blind, va_recv hKc hPc (ci := 11) (q0 := 0) rfl rfl, Pre0.give hPc hKc hDc hT hS hFc⟩ rfl rfl hl.1 rfl (lv_room (Nat.le_of_ble_eq_true rfl)) dX6_homeBy_65 ⟨Nat.le_of_ble_eq_true rfl, Nat.le_of_ble_eq_true rfl⟩) hS (fun q _ h => hFc q h) hFc (fun r_81 u t H1 locs ht hvm hw hB hz1 hk1 hS => ?_)
    obtain ⟨vx_82, vx_83, vx_84, vx_85, hP1, hK1, hD1⟩ := hB
    rw [ht] at hP1
    have hK1 := va_K.moved hvm.symm hK1
    obtain ⟨hP, hD⟩ := va_join (wr := [(rq, .inl (ci, 119, .inl (RW xh xr xt xw)))]) (w1 := [(h0, .inr (11, [.int th, .int 1, .int 0, .int 1, .ref q_3, .ref sbq])), (q_3, .inl (ci, 119, .inl (RW vx_82 vx_83 vx_84 vx_85)))]) hP hD [1, 2] [0] rfl rfl (by decide) (by decide) hk1 hFc hP1 hD1
    generalize H1 = H at hP hS ⊢
    have hP : va_P (dC, dI) vwCl [(rq, .inl (ci, 119, .inl (RW xh xr xt xw))), (h0, .inr (11, [.int th, .int 1, .int 0, .int 1, .ref q_3, .ref sbq])), (q_3, .inl (ci, 119, .inl (RW vx_82 vx_83 vx_84 vx_85)))] H := hP
    have hD : va_D A [(rq, .inl (ci, 119, .inl (RW xh xr xt xw))), (h0, .inr (11, [.int th, .int 1, .int 0, .int 1, .ref q_3, .ref sbq])), (q_3, .inl (ci, 119, .inl (RW vx_82 vx_83 vx_84 vx_85)))] := hD
    refine W.widen (k := 1) (n := 119) (by omega) (by omega) ?_
    obtain rfl : r_81 = 0 := hw
    refine lv_pop hx hb dX6_homeBy_68 rfl ?_
    refine lv_aload_n hx hb dX6_homeBy_69 rfl (lv_at hl 4 rfl) ?_
    refine lv_iload_n hx hb dX6_homeBy_70 rfl (lv_at hl 5 rfl) ?_
    have hPc := hP.sub (ws' := [(h0, .inr (11, [.int th, .int 1, .int 0, .int 1, .ref q_3, .ref sbq])), (q_3, .inl (ci, 119, .inl (RW vx_82 vx_83 vx_84 vx_85)))]) [1, 2] rfl
    have hDc := hD.sub (ws' := [(h0, .inr (11, [.int th, .int 1, .int 0, .int 1, .ref q_3, .ref sbq])), (q_3, .inl (ci, 119, .inl (RW vx_82 vx_83 vx_84 vx_85)))]) [1, 2] (by decide) rfl
    have hKc := hK.sub (tys' := [(ci, .int)]) [0] rfl
    have hFc := va_free (wc := [(h0, .inr (11, [.int th, .int 1, .int 0, .int 1, .ref q_3, .ref sbq])), (q_3, .inl (ci, 119, .inl (RW vx_82 vx_83 vx_84 vx_85)))]) hD hS hA [1, 2] rfl
    refine va_calli (va_runV (As := [.int 0]) (rest := []) ⟨hx, hb, hml, hown, hts⟩ (c_isHome l hl9 dC dI tE h0 q_3 sbq th ci vx_82 vx_83 vx_84 vx_85 _ ) (cwV 1 hts (goodIn_app (goodIn_r _ [8, 9, 10, 7] (by rfl) (by decide +kernel)) gg_c_homeBy_c_isHome) rfl rfl rfl (by decide +kernel) ⟨Nat.le_of_ble_eq_true rfl, Nat.le_of_ble_eq_true rfl⟩) ⟨Pre0.blind, va_recv hKc hPc (ci := 11) (q0 := 0) rfl rfl, Pre0.give hPc hKc hDc hT hS hFc⟩ rfl rfl hl.1 rfl (lv_room (Nat.le_of_ble_eq_true rfl)) dX6_homeBy_71 ⟨Nat.le_of_ble_eq_true rfl, Nat.le_of_ble_eq_true rfl⟩) hS (fun q _ h => hFc q h) hFc (fun r_86 u t H1 locs ht hvm hw hB hz1 hk1 hS => ?_)
    obtain ⟨hP1, hK1, hD1⟩ := hB
    rw [ht] at hP1
    have hK1 := va_K.moved hvm.symm hK1
    obtain ⟨hP, hD⟩ := va_join (wr := [(rq, .inl (ci, 119, .inl (RW xh xr xt xw)))]) (w1 := [(h0, .inr (11, [.int th, .int 1, .int 0, .int 1, .ref q_3, .ref sbq])), (q_3, .inl (ci, 119, .inl (RW vx_82 vx_83 vx_84 vx_85)))]) hP hD [1, 2] [0] rfl rfl (by decide) (by decide) hk1 hFc hP1 hD1
    generalize H1 = H at hP hS ⊢
    have hP : va_P (dC, dI) vwCl [(rq, .inl (ci, 119, .inl (RW xh xr xt xw))), (h0, .inr (11, [.int th, .int 1, .int 0, .int 1, .ref q_3, .ref sbq])), (q_3, .inl (ci, 119, .inl (RW vx_82 vx_83 vx_84 vx_85)))] H := hP
    have hD : va_D A [(rq, .inl (ci, 119, .inl (RW xh xr xt xw))), (h0, .inr (11, [.int th, .int 1, .int 0, .int 1, .ref q_3, .ref sbq])), (q_3, .inl (ci, 119, .inl (RW vx_82 vx_83 vx_84 vx_85)))] := hD
    refine W.widen (k := 1) (n := 119) (by omega) (by omega) ?_
    obtain rfl : r_86 = 0 := hw
    refine lv_if_eq (tgt := 81) hx hb dX6_homeBy_74 (by decide) (fun _ => ?_) (fun c_87 => absurd (by decide) c_87)
    refine lv_iinc (v := 3) (lv' := [(6, .int 3), (5, .int 3), (4, .int (-1)), (3, .ref rq), (0, .ref h0), (1, .int 0), (2, .int p1)]) hx hb dX6_homeBy_81 hl (k := 0) rfl (by decide) (by decide) rfl (fun ls hl => ?_)
    refine lv_goto (tgt := 38) hx hb dX6_homeBy_84 (by decide) ?_
    refine lv_iload hx hb dX6_homeBy_38 (lv_at hl 0 rfl) ?_
    refine lv_iload hx hb dX6_homeBy_40 (lv_at hl 1 rfl) ?_
    refine lv_icmp_gt (tgt := 87) hx hb dX6_homeBy_42 (by decide) (fun c_88 => absurd c_88 (by decide)) (fun _ => ?_)
    refine lv_iload hx hb dX6_homeBy_45 (lv_at hl 2 rfl) ?_
    refine lv_iconst (v := (-1)) hx hb dX6_homeBy_47 (by decide) ?_
    refine lv_icmp_ne (tgt := 87) hx hb dX6_homeBy_48 (by decide) (fun c_89 => absurd (by decide) c_89) (fun _ => ?_)
    refine lv_aload_n hx hb dX6_homeBy_51 rfl (lv_at hl 4 rfl) ?_
    refine lv_iload_n hx hb dX6_homeBy_52 rfl (lv_at hl 6 rfl) ?_
    refine lv_iload hx hb dX6_homeBy_53 (lv_at hl 1 rfl) ?_
    refine lv_iload hx hb dX6_homeBy_55 (lv_at hl 0 rfl) ?_
    refine lv_isub hx hb dX6_homeBy_57 ?_
    refine lv_topi (fun x_90 e_91 => ?_)
    obtain rfl : x_90 = 0 := e_91.trans (by decide)
    have hPc := hP.sub (ws' := []) [] rfl
    have hDc := hD.sub (ws' := []) [] (by decide) rfl
    have hKc := hK.sub (tys' := []) [] rfl
    have hFc := va_free (wc := []) hD hS hA [] rfl
    refine va_calli (va_runS (As := [.int 0]) (rest := [.int p1, .ref h0]) ⟨hx, hb, hml, hown, hts⟩ (c_power_0 l hl9 dC dI tE  _ ) (va_cwS 1 hts (goodIn_app (goodIn_r _ [24, 25, 7] (by rfl) (by decide +kernel)) gg_c_homeBy_c_power_0) rfl rfl rfl (by decide +kernel) ⟨Nat.le_of_ble_eq_true rfl, Nat.le_of_ble_eq_true rfl⟩) ⟨Pre0.blind, Pre0.give hPc hKc hDc hT hS hFc⟩ rfl rfl hl.1 rfl (lv_room (Nat.le_of_ble_eq_true rfl)) dX6_homeBy_58 ⟨Nat.le_of_ble_eq_true rfl, Nat.le_of_ble_eq_true rfl⟩) hS (fun q _ h => hFc q h) hFc (fun r_92 u t H1 locs ht hvm hw hB hz1 hk1 hS => ?_)
    obtain ⟨hP1, hK1, hD1⟩ := hB
    rw [ht] at hP1
    have hK1 := va_K.moved hvm.symm hK1
    obtain ⟨hP, hD⟩ := va_join (wr := [(rq, .inl (ci, 119, .inl (RW xh xr xt xw))), (h0, .inr (11, [.int th, .int 1, .int 0, .int 1, .ref q_3, .ref sbq])), (q_3, .inl (ci, 119, .inl (RW vx_82 vx_83 vx_84 vx_85)))]) (w1 := []) hP hD [] [0, 1, 2] rfl rfl (by decide) (by decide) hk1 hFc hP1 hD1
    generalize H1 = H at hP hS ⊢
    have hP : va_P (dC, dI) vwCl [(rq, .inl (ci, 119, .inl (RW xh xr xt xw))), (h0, .inr (11, [.int th, .int 1, .int 0, .int 1, .ref q_3, .ref sbq])), (q_3, .inl (ci, 119, .inl (RW vx_82 vx_83 vx_84 vx_85)))] H := hP
    have hD : va_D A [(rq, .inl (ci, 119, .inl (RW xh xr xt xw))), (h0, .inr (11, [.int th, .int 1, .int 0, .int 1, .ref q_3, .ref sbq])), (q_3, .inl (ci, 119, .inl (RW vx_82 vx_83 vx_84 vx_85)))] := hD
    refine W.widen (k := 1) (n := 119) (by omega) (by omega) ?_
    obtain rfl : r_92 = 1 := hw
    refine lv_idiv hx hb dX6_homeBy_61 (by decide) ?_
    refine lv_topi (fun x_93 e_94 => ?_)
    refine lv_bipush (v := 10) hx hb dX6_homeBy_62 (by decide) ?_
    refine lv_irem hx hb dX6_homeBy_64 (by decide) ?_
    refine lv_topi (fun x_95 e_96 => ?_)
    have hPc := hP.sub (ws' := [(h0, .inr (11, [.int th, .int 1, .int 0, .int 1, .ref q_3, .ref sbq])), (q_3, .inl (ci, 119, .inl (RW vx_82 vx_83 vx_84 vx_85)))]) [1, 2] rfl
    have hDc := hD.sub (ws' := [(h0, .inr (11, [.int th, .int 1, .int 0, .int 1, .ref q_3, .ref sbq])), (q_3, .inl (ci, 119, .inl (RW vx_82 vx_83 vx_84 vx_85)))]) [1, 2] (by decide) rfl
    have hKc := hK.sub (tys' := [(ci, .int)]) [0] rfl
    have hFc := va_free (wc := [(h0, .inr (11, [.int th, .int 1, .int 0, .int 1, .ref q_3, .ref sbq])), (q_3, .inl (ci, 119, .inl (RW vx_82 vx_83 vx_84 vx_85)))]) hD hS hA [1, 2] rfl
    refine va_calli (va_runV (As := [.int x_95]) (rest := []) ⟨hx, hb, hml, hown, hts⟩ (c_ringOne l hl9 dC dI tE h0 q_3 sbq th ci vx_82 vx_83 vx_84 vx_85 x_95 _ ) (cwV 1 hts (goodIn_app (goodIn_r _ [54, 55, 56, 7] (by rfl) (by decide +kernel)) gg_c_homeBy_c_ringOne) rfl rfl rfl (by decide +kernel) ⟨Nat.le_of_ble_eq_true rfl, Nat.le_of_ble_eq_true rfl⟩) ⟨Pre0.blind, va_recv hKc hPc (ci := 11) (q0 := 0) rfl rfl, Pre0.give hPc hKc hDc hT hS hFc⟩ rfl rfl hl.1 rfl (lv_room (Nat.le_of_ble_eq_true rfl)) dX6_homeBy_65 ⟨Nat.le_of_ble_eq_true rfl, Nat.le_of_ble_eq_true rfl⟩) hS (fun q _ h => hFc q h) hFc (fun r_97 u t H1 locs ht hvm hw hB hz1 hk1 hS => ?_)
    obtain ⟨vx_98, vx_99, vx_100, vx_101, hP1, hK1, hD1⟩ := hB
    rw [ht] at hP1
    have hK1 := va_K.moved hvm.symm hK1
    obtain ⟨hP, hD⟩ := va_join (wr := [(rq, .inl (ci, 119, .inl (RW xh xr xt xw)))]) (w1 := [(h0, .inr (11, [.int th, .int 1, .int 0, .int 1, .ref q_3, .ref sbq])), (q_3, .inl (ci, 119, .inl (RW vx_98 vx_99 vx_100 vx_101)))]) hP hD [1, 2] [0] rfl rfl (by decide) (by decide) hk1 hFc hP1 hD1
    generalize H1 = H at hP hS ⊢
    have hP : va_P (dC, dI) vwCl [(rq, .inl (ci, 119, .inl (RW xh xr xt xw))), (h0, .inr (11, [.int th, .int 1, .int 0, .int 1, .ref q_3, .ref sbq])), (q_3, .inl (ci, 119, .inl (RW vx_98 vx_99 vx_100 vx_101)))] H := hP
    have hD : va_D A [(rq, .inl (ci, 119, .inl (RW xh xr xt xw))), (h0, .inr (11, [.int th, .int 1, .int 0, .int 1, .ref q_3, .ref sbq])), (q_3, .inl (ci, 119, .inl (RW vx_98 vx_99 vx_100 vx_101)))] := hD
    refine W.widen (k := 1) (n := 119) (by omega) (by omega) ?_
    obtain rfl : r_97 = 0 := hw
    refine lv_pop hx hb dX6_homeBy_68 rfl ?_
    refine lv_aload_n hx hb dX6_homeBy_69 rfl (lv_at hl 4 rfl) ?_
    refine lv_iload_n hx hb dX6_homeBy_70 rfl (lv_at hl 5 rfl) ?_
    have hPc := hP.sub (ws' := [(h0, .inr (11, [.int th, .int 1, .int 0, .int 1, .ref q_3, .ref sbq])), (q_3, .inl (ci, 119, .inl (RW vx_98 vx_99 vx_100 vx_101)))]) [1, 2] rfl
    have hDc := hD.sub (ws' := [(h0, .inr (11, [.int th, .int 1, .int 0, .int 1, .ref q_3, .ref sbq])), (q_3, .inl (ci, 119, .inl (RW vx_98 vx_99 vx_100 vx_101)))]) [1, 2] (by decide) rfl
    have hKc := hK.sub (tys' := [(ci, .int)]) [0] rfl
    have hFc := va_free (wc := [(h0, .inr (11, [.int th, .int 1, .int 0, .int 1, .ref q_3, .ref sbq])), (q_3, .inl (ci, 119, .inl (RW vx_98 vx_99 vx_100 vx_101)))]) hD hS hA [1, 2] rfl
    refine va_calli (va_runV (As := [.int 0]) (rest := []) ⟨hx, hb, hml, hown, hts⟩ (c_isHome l hl9 dC dI tE h0 q_3 sbq th ci vx_98 vx_99 vx_100 vx_101 _ ) (cwV 1 hts (goodIn_app (goodIn_r _ [8, 9, 10, 7] (by rfl) (by decide +kernel)) gg_c_homeBy_c_isHome) rfl rfl rfl (by decide +kernel) ⟨Nat.le_of_ble_eq_true rfl, Nat.le_of_ble_eq_true rfl⟩) ⟨Pre0.blind, va_recv hKc hPc (ci := 11) (q0 := 0) rfl rfl, Pre0.give hPc hKc hDc hT hS hFc⟩ rfl rfl hl.1 rfl (lv_room (Nat.le_of_ble_eq_true rfl)) dX6_homeBy_71 ⟨Nat.le_of_ble_eq_true rfl, Nat.le_of_ble_eq_true rfl⟩) hS (fun q _ h => hFc q h) hFc (fun r_102 u t H1 locs ht hvm hw hB hz1 hk1 hS => ?_)
    obtain ⟨hP1, hK1, hD1⟩ := hB
    rw [ht] at hP1
    have hK1 := va_K.moved hvm.symm hK1
    obtain ⟨hP, hD⟩ := va_join (wr := [(rq, .inl (ci, 119, .inl (RW xh xr xt xw)))]) (w1 := [(h0, .inr (11, [.int th, .int 1, .int 0, .int 1, .ref q_3, .ref sbq])), (q_3, .inl (ci, 119, .inl (RW vx_98 vx_99 vx_100 vx_101)))]) hP hD [1, 2] [0] rfl rfl (by decide) (by decide) hk1 hFc hP1 hD1
    generalize H1 = H at hP hS ⊢
    have hP : va_P (dC, dI) vwCl [(rq, .inl (ci, 119, .inl (RW xh xr xt xw))), (h0, .inr (11, [.int th, .int 1, .int 0, .int 1, .ref q_3, .ref sbq])), (q_3, .inl (ci, 119, .inl (RW vx_98 vx_99 vx_100 vx_101)))] H := hP
    have hD : va_D A [(rq, .inl (ci, 119, .inl (RW xh xr xt xw))), (h0, .inr (11, [.int th, .int 1, .int 0, .int 1, .ref q_3, .ref sbq])), (q_3, .inl (ci, 119, .inl (RW vx_98 vx_99 vx_100 vx_101)))] := hD
    refine W.widen (k := 1) (n := 119) (by omega) (by omega) ?_
    obtain rfl : r_102 = 0 := hw
    refine lv_if_eq (tgt := 81) hx hb dX6_homeBy_74 (by decide) (fun _ => ?_) (fun c_103 => absurd (by decide) c_103)
    refine lv_iinc (v := 4) (lv' := [(6, .int 4), (5, .int 3), (4, .int (-1)), (3, .ref rq), (0, .ref h0), (1, .int 0), (2, .int p1)]) hx hb dX6_homeBy_81 hl (k := 0) rfl (by decide) (by decide) rfl (fun ls hl => ?_)
    refine lv_goto (tgt := 38) hx hb dX6_homeBy_84 (by decide) ?_
    refine lv_iload hx hb dX6_homeBy_38 (lv_at hl 0 rfl) ?_
    refine lv_iload hx hb dX6_homeBy_40 (lv_at hl 1 rfl) ?_
    refine lv_icmp_gt (tgt := 87) hx hb dX6_homeBy_42 (by decide) (fun _ => ?_) (fun c_104 => absurd (by decide) c_104)
    refine lv_aload_n hx hb dX6_homeBy_87 rfl (lv_at hl 4 rfl) ?_
    refine lv_aload_n hx hb dX6_homeBy_88 rfl (lv_at hl 3 rfl) ?_
    refine va_put (D := (dC, dI)) (ci := 11) (v := .ref rq) (ty := .array .int) (C := RX6) (T := TX6) (N := 6) hx hb hts u_c_homeBy_X6 tyX6 tyX6_ok nmX6 hown hK hP hD hS 1 rfl rfl 4 (by decide) (hts (.fieldLink RX6 9 "HotelOfBellsModel" "row" "[I") (List.mem_of_getElem? (i := 3) rfl)) (fun _ h9 => h9) rfl (by decide +kernel) rfl rfl (Nat.le_of_ble_eq_true rfl) dX6_homeBy_89 (fun H locs hP hD hS => ?_)
    have hP : va_P (dC, dI) vwCl [(rq, .inl (ci, 119, .inl (RW xh xr xt xw))), (h0, .inr (11, [.int th, .int 1, .int 0, .int 1, .ref rq, .ref sbq])), (q_3, .inl (ci, 119, .inl (RW vx_98 vx_99 vx_100 vx_101)))] H := hP
    have hD : va_D A [(rq, .inl (ci, 119, .inl (RW xh xr xt xw))), (h0, .inr (11, [.int th, .int 1, .int 0, .int 1, .ref rq, .ref sbq])), (q_3, .inl (ci, 119, .inl (RW vx_98 vx_99 vx_100 vx_101)))] := hD
    refine lv_iload hx hb dX6_homeBy_92 (lv_at hl 2 rfl) ?_
    have hP9 := hP.sub (ws' := [(h0, .inr (11, [.int th, .int 1, .int 0, .int 1, .ref rq, .ref sbq])), (rq, .inl (ci, 119, .inl (RW xh xr xt xw))), (q_3, .inl (ci, 119, .inl (RW vx_98 vx_99 vx_100 vx_101)))]) [1, 0, 2] rfl
    have hD9 := hD.sub (ws' := [(h0, .inr (11, [.int th, .int 1, .int 0, .int 1, .ref rq, .ref sbq])), (rq, .inl (ci, 119, .inl (RW xh xr xt xw))), (q_3, .inl (ci, 119, .inl (RW vx_98 vx_99 vx_100 vx_101)))]) [1, 0, 2] (by decide) rfl
    have hK9 := hK.sub (tys' := [(ci, .int)]) [0] rfl
    exact W.iret (v := (-1)) hx hb hr (fun t ht hW => ⟨⟨(-1), (), rfl, rfl, q_3, (RW vx_98 vx_99 vx_100 vx_101), by rw [ht]; exact hP9, va_K.moved hW.alike hK9, hD9⟩, hS.F ht⟩) hS.2.2 dX6_homeBy_94
  · obtain rfl : r_4 = 4 := hw.trans hd0
    refine lv_istore (lv' := [(5, .int 4), (4, .int (-1)), (3, .ref rq), (0, .ref h0), (1, .int 0), (2, .int p1)]) hx hb dX6_homeBy_33 hl (by decide) rfl (fun ls hl => ?_)
    refine lv_iconst (v := 1) hx hb dX6_homeBy_35 (by decide) ?_
    refine lv_istore (lv' := [(6, .int 1), (5, .int 4), (4, .int (-1)), (3, .ref rq), (0, .ref h0), (1, .int 0), (2, .int p1)]) hx hb dX6_homeBy_36 hl (by decide) rfl (fun ls hl => ?_)
    refine lv_iload hx hb dX6_homeBy_38 (lv_at hl 0 rfl) ?_
    refine lv_iload hx hb dX6_homeBy_40 (lv_at hl 1 rfl) ?_
    refine lv_icmp_gt (tgt := 87) hx hb dX6_homeBy_42 (by decide) (fun c_105 => absurd c_105 (by decide)) (fun _ => ?_)
    refine lv_iload hx hb dX6_homeBy_45 (lv_at hl 2 rfl) ?_
    refine lv_iconst (v := (-1)) hx hb dX6_homeBy_47 (by decide) ?_
    refine lv_icmp_ne (tgt := 87) hx hb dX6_homeBy_48 (by decide) (fun c_106 => absurd (by decide) c_106) (fun _ => ?_)
    refine lv_aload_n hx hb dX6_homeBy_51 rfl (lv_at hl 4 rfl) ?_
    refine lv_iload_n hx hb dX6_homeBy_52 rfl (lv_at hl 6 rfl) ?_
    refine lv_iload hx hb dX6_homeBy_53 (lv_at hl 1 rfl) ?_
    refine lv_iload hx hb dX6_homeBy_55 (lv_at hl 0 rfl) ?_
    refine lv_isub hx hb dX6_homeBy_57 ?_
    refine lv_topi (fun x_107 e_108 => ?_)
    obtain rfl : x_107 = 3 := e_108.trans (by decide)
    have hPc := hP.sub (ws' := []) [] rfl
    have hDc := hD.sub (ws' := []) [] (by decide) rfl
    have hKc := hK.sub (tys' := []) [] rfl
    have hFc := va_free (wc := []) hD hS hA [] rfl
    refine va_calli (va_runS (As := [.int 3]) (rest := [.int p1, .ref h0]) ⟨hx, hb, hml, hown, hts⟩ (c_power_3 l hl9 dC dI tE  _ ) (va_cwS 1 hts (goodIn_app (goodIn_r _ [24, 25, 7] (by rfl) (by decide +kernel)) gg_c_homeBy_c_power_3) rfl rfl rfl (by decide +kernel) ⟨Nat.le_of_ble_eq_true rfl, Nat.le_of_ble_eq_true rfl⟩) ⟨Pre0.blind, Pre0.give hPc hKc hDc hT hS hFc⟩ rfl rfl hl.1 rfl (lv_room (Nat.le_of_ble_eq_true rfl)) dX6_homeBy_58 ⟨Nat.le_of_ble_eq_true rfl, Nat.le_of_ble_eq_true rfl⟩) hS (fun q _ h => hFc q h) hFc (fun r_109 u t H1 locs ht hvm hw hB hz1 hk1 hS => ?_)
    obtain ⟨hP1, hK1, hD1⟩ := hB
    rw [ht] at hP1
    have hK1 := va_K.moved hvm.symm hK1
    obtain ⟨hP, hD⟩ := va_join (wr := [(h0, .inr (11, [.int th, .int 1, .int 0, .int 1, .ref q_3, .ref sbq])), (rq, .inl (ci, 119, .inl (RW xh xr xt xw))), (q_3, .inl (ci, 119, .inl (RW xh xr xt xw)))]) (w1 := []) hP hD [] [0, 1, 2] rfl rfl (by decide) (by decide) hk1 hFc hP1 hD1
    generalize H1 = H at hP hS ⊢
    have hP : va_P (dC, dI) vwCl [(h0, .inr (11, [.int th, .int 1, .int 0, .int 1, .ref q_3, .ref sbq])), (rq, .inl (ci, 119, .inl (RW xh xr xt xw))), (q_3, .inl (ci, 119, .inl (RW xh xr xt xw)))] H := hP
    have hD : va_D A [(h0, .inr (11, [.int th, .int 1, .int 0, .int 1, .ref q_3, .ref sbq])), (rq, .inl (ci, 119, .inl (RW xh xr xt xw))), (q_3, .inl (ci, 119, .inl (RW xh xr xt xw)))] := hD
    refine W.widen (k := 1) (n := 119) (by omega) (by omega) ?_
    obtain rfl : r_109 = 1000 := hw
    refine lv_idiv hx hb dX6_homeBy_61 (by decide) ?_
    refine lv_topi (fun x_110 e_111 => ?_)
    refine lv_bipush (v := 10) hx hb dX6_homeBy_62 (by decide) ?_
    refine lv_irem hx hb dX6_homeBy_64 (by decide) ?_
    refine lv_topi (fun x_112 e_113 => ?_)
    have hPc := hP.sub (ws' := [(h0, .inr (11, [.int th, .int 1, .int 0, .int 1, .ref q_3, .ref sbq])), (q_3, .inl (ci, 119, .inl (RW xh xr xt xw)))]) [0, 2] rfl
    have hDc := hD.sub (ws' := [(h0, .inr (11, [.int th, .int 1, .int 0, .int 1, .ref q_3, .ref sbq])), (q_3, .inl (ci, 119, .inl (RW xh xr xt xw)))]) [0, 2] (by decide) rfl
    have hKc := hK.sub (tys' := [(ci, .int)]) [0] rfl
    have hFc := va_free (wc := [(h0, .inr (11, [.int th, .int 1, .int 0, .int 1, .ref q_3, .ref sbq])), (q_3, .inl (ci, 119, .inl (RW xh xr xt xw)))]) hD hS hA [0, 2] rfl
    refine va_calli (va_runV (As := [.int x_112]) (rest := []) ⟨hx, hb, hml, hown, hts⟩ (c_ringOne l hl9 dC dI tE h0 q_3 sbq th ci xh xr xt xw x_112 _ ) (cwV 1 hts (goodIn_app (goodIn_r _ [54, 55, 56, 7] (by rfl) (by decide +kernel)) gg_c_homeBy_c_ringOne) rfl rfl rfl (by decide +kernel) ⟨Nat.le_of_ble_eq_true rfl, Nat.le_of_ble_eq_true rfl⟩) ⟨Pre0.blind, va_recv hKc hPc (ci := 11) (q0 := 0) rfl rfl, Pre0.give hPc hKc hDc hT hS hFc⟩ rfl rfl hl.1 rfl (lv_room (Nat.le_of_ble_eq_true rfl)) dX6_homeBy_65 ⟨Nat.le_of_ble_eq_true rfl, Nat.le_of_ble_eq_true rfl⟩) hS (fun q _ h => hFc q h) hFc (fun r_114 u t H1 locs ht hvm hw hB hz1 hk1 hS => ?_)
    obtain ⟨vx_115, vx_116, vx_117, vx_118, hP1, hK1, hD1⟩ := hB
    rw [ht] at hP1
    have hK1 := va_K.moved hvm.symm hK1
    obtain ⟨hP, hD⟩ := va_join (wr := [(rq, .inl (ci, 119, .inl (RW xh xr xt xw)))]) (w1 := [(h0, .inr (11, [.int th, .int 1, .int 0, .int 1, .ref q_3, .ref sbq])), (q_3, .inl (ci, 119, .inl (RW vx_115 vx_116 vx_117 vx_118)))]) hP hD [0, 2] [1] rfl rfl (by decide) (by decide) hk1 hFc hP1 hD1
    generalize H1 = H at hP hS ⊢
    have hP : va_P (dC, dI) vwCl [(rq, .inl (ci, 119, .inl (RW xh xr xt xw))), (h0, .inr (11, [.int th, .int 1, .int 0, .int 1, .ref q_3, .ref sbq])), (q_3, .inl (ci, 119, .inl (RW vx_115 vx_116 vx_117 vx_118)))] H := hP
    have hD : va_D A [(rq, .inl (ci, 119, .inl (RW xh xr xt xw))), (h0, .inr (11, [.int th, .int 1, .int 0, .int 1, .ref q_3, .ref sbq])), (q_3, .inl (ci, 119, .inl (RW vx_115 vx_116 vx_117 vx_118)))] := hD
    refine W.widen (k := 1) (n := 119) (by omega) (by omega) ?_
    obtain rfl : r_114 = 0 := hw
    refine lv_pop hx hb dX6_homeBy_68 rfl ?_
    refine lv_aload_n hx hb dX6_homeBy_69 rfl (lv_at hl 4 rfl) ?_
    refine lv_iload_n hx hb dX6_homeBy_70 rfl (lv_at hl 5 rfl) ?_
    have hPc := hP.sub (ws' := [(h0, .inr (11, [.int th, .int 1, .int 0, .int 1, .ref q_3, .ref sbq])), (q_3, .inl (ci, 119, .inl (RW vx_115 vx_116 vx_117 vx_118)))]) [1, 2] rfl
    have hDc := hD.sub (ws' := [(h0, .inr (11, [.int th, .int 1, .int 0, .int 1, .ref q_3, .ref sbq])), (q_3, .inl (ci, 119, .inl (RW vx_115 vx_116 vx_117 vx_118)))]) [1, 2] (by decide) rfl
    have hKc := hK.sub (tys' := [(ci, .int)]) [0] rfl
    have hFc := va_free (wc := [(h0, .inr (11, [.int th, .int 1, .int 0, .int 1, .ref q_3, .ref sbq])), (q_3, .inl (ci, 119, .inl (RW vx_115 vx_116 vx_117 vx_118)))]) hD hS hA [1, 2] rfl
    refine va_calli (va_runV (As := [.int 0]) (rest := []) ⟨hx, hb, hml, hown, hts⟩ (c_isHome l hl9 dC dI tE h0 q_3 sbq th ci vx_115 vx_116 vx_117 vx_118 _ ) (cwV 1 hts (goodIn_app (goodIn_r _ [8, 9, 10, 7] (by rfl) (by decide +kernel)) gg_c_homeBy_c_isHome) rfl rfl rfl (by decide +kernel) ⟨Nat.le_of_ble_eq_true rfl, Nat.le_of_ble_eq_true rfl⟩) ⟨Pre0.blind, va_recv hKc hPc (ci := 11) (q0 := 0) rfl rfl, Pre0.give hPc hKc hDc hT hS hFc⟩ rfl rfl hl.1 rfl (lv_room (Nat.le_of_ble_eq_true rfl)) dX6_homeBy_71 ⟨Nat.le_of_ble_eq_true rfl, Nat.le_of_ble_eq_true rfl⟩) hS (fun q _ h => hFc q h) hFc (fun r_119 u t H1 locs ht hvm hw hB hz1 hk1 hS => ?_)
    obtain ⟨hP1, hK1, hD1⟩ := hB
    rw [ht] at hP1
    have hK1 := va_K.moved hvm.symm hK1
    obtain ⟨hP, hD⟩ := va_join (wr := [(rq, .inl (ci, 119, .inl (RW xh xr xt xw)))]) (w1 := [(h0, .inr (11, [.int th, .int 1, .int 0, .int 1, .ref q_3, .ref sbq])), (q_3, .inl (ci, 119, .inl (RW vx_115 vx_116 vx_117 vx_118)))]) hP hD [1, 2] [0] rfl rfl (by decide) (by decide) hk1 hFc hP1 hD1
    generalize H1 = H at hP hS ⊢
    have hP : va_P (dC, dI) vwCl [(rq, .inl (ci, 119, .inl (RW xh xr xt xw))), (h0, .inr (11, [.int th, .int 1, .int 0, .int 1, .ref q_3, .ref sbq])), (q_3, .inl (ci, 119, .inl (RW vx_115 vx_116 vx_117 vx_118)))] H := hP
    have hD : va_D A [(rq, .inl (ci, 119, .inl (RW xh xr xt xw))), (h0, .inr (11, [.int th, .int 1, .int 0, .int 1, .ref q_3, .ref sbq])), (q_3, .inl (ci, 119, .inl (RW vx_115 vx_116 vx_117 vx_118)))] := hD
    refine W.widen (k := 1) (n := 119) (by omega) (by omega) ?_
    obtain rfl : r_119 = 0 := hw
    refine lv_if_eq (tgt := 81) hx hb dX6_homeBy_74 (by decide) (fun _ => ?_) (fun c_120 => absurd (by decide) c_120)
    refine lv_iinc (v := 2) (lv' := [(6, .int 2), (5, .int 4), (4, .int (-1)), (3, .ref rq), (0, .ref h0), (1, .int 0), (2, .int p1)]) hx hb dX6_homeBy_81 hl (k := 0) rfl (by decide) (by decide) rfl (fun ls hl => ?_)
    refine lv_goto (tgt := 38) hx hb dX6_homeBy_84 (by decide) ?_
    refine lv_iload hx hb dX6_homeBy_38 (lv_at hl 0 rfl) ?_
    refine lv_iload hx hb dX6_homeBy_40 (lv_at hl 1 rfl) ?_
    refine lv_icmp_gt (tgt := 87) hx hb dX6_homeBy_42 (by decide) (fun c_121 => absurd c_121 (by decide)) (fun _ => ?_)
    refine lv_iload hx hb dX6_homeBy_45 (lv_at hl 2 rfl) ?_
    refine lv_iconst (v := (-1)) hx hb dX6_homeBy_47 (by decide) ?_
    refine lv_icmp_ne (tgt := 87) hx hb dX6_homeBy_48 (by decide) (fun c_122 => absurd (by decide) c_122) (fun _ => ?_)
    refine lv_aload_n hx hb dX6_homeBy_51 rfl (lv_at hl 4 rfl) ?_
    refine lv_iload_n hx hb dX6_homeBy_52 rfl (lv_at hl 6 rfl) ?_
    refine lv_iload hx hb dX6_homeBy_53 (lv_at hl 1 rfl) ?_
    refine lv_iload hx hb dX6_homeBy_55 (lv_at hl 0 rfl) ?_
    refine lv_isub hx hb dX6_homeBy_57 ?_
    refine lv_topi (fun x_123 e_124 => ?_)
    obtain rfl : x_123 = 2 := e_124.trans (by decide)
    have hPc := hP.sub (ws' := []) [] rfl
    have hDc := hD.sub (ws' := []) [] (by decide) rfl
    have hKc := hK.sub (tys' := []) [] rfl
    have hFc := va_free (wc := []) hD hS hA [] rfl
    refine va_calli (va_runS (As := [.int 2]) (rest := [.int p1, .ref h0]) ⟨hx, hb, hml, hown, hts⟩ (c_power_2 l hl9 dC dI tE  _ ) (va_cwS 1 hts (goodIn_app (goodIn_r _ [24, 25, 7] (by rfl) (by decide +kernel)) gg_c_homeBy_c_power_2) rfl rfl rfl (by decide +kernel) ⟨Nat.le_of_ble_eq_true rfl, Nat.le_of_ble_eq_true rfl⟩) ⟨Pre0.blind, Pre0.give hPc hKc hDc hT hS hFc⟩ rfl rfl hl.1 rfl (lv_room (Nat.le_of_ble_eq_true rfl)) dX6_homeBy_58 ⟨Nat.le_of_ble_eq_true rfl, Nat.le_of_ble_eq_true rfl⟩) hS (fun q _ h => hFc q h) hFc (fun r_125 u t H1 locs ht hvm hw hB hz1 hk1 hS => ?_)
    obtain ⟨hP1, hK1, hD1⟩ := hB
    rw [ht] at hP1
    have hK1 := va_K.moved hvm.symm hK1
    obtain ⟨hP, hD⟩ := va_join (wr := [(rq, .inl (ci, 119, .inl (RW xh xr xt xw))), (h0, .inr (11, [.int th, .int 1, .int 0, .int 1, .ref q_3, .ref sbq])), (q_3, .inl (ci, 119, .inl (RW vx_115 vx_116 vx_117 vx_118)))]) (w1 := []) hP hD [] [0, 1, 2] rfl rfl (by decide) (by decide) hk1 hFc hP1 hD1
    generalize H1 = H at hP hS ⊢
    have hP : va_P (dC, dI) vwCl [(rq, .inl (ci, 119, .inl (RW xh xr xt xw))), (h0, .inr (11, [.int th, .int 1, .int 0, .int 1, .ref q_3, .ref sbq])), (q_3, .inl (ci, 119, .inl (RW vx_115 vx_116 vx_117 vx_118)))] H := hP
    have hD : va_D A [(rq, .inl (ci, 119, .inl (RW xh xr xt xw))), (h0, .inr (11, [.int th, .int 1, .int 0, .int 1, .ref q_3, .ref sbq])), (q_3, .inl (ci, 119, .inl (RW vx_115 vx_116 vx_117 vx_118)))] := hD
    refine W.widen (k := 1) (n := 119) (by omega) (by omega) ?_
    obtain rfl : r_125 = 100 := hw
    refine lv_idiv hx hb dX6_homeBy_61 (by decide) ?_
    refine lv_topi (fun x_126 e_127 => ?_)
    refine lv_bipush (v := 10) hx hb dX6_homeBy_62 (by decide) ?_
    refine lv_irem hx hb dX6_homeBy_64 (by decide) ?_
    refine lv_topi (fun x_128 e_129 => ?_)
    have hPc := hP.sub (ws' := [(h0, .inr (11, [.int th, .int 1, .int 0, .int 1, .ref q_3, .ref sbq])), (q_3, .inl (ci, 119, .inl (RW vx_115 vx_116 vx_117 vx_118)))]) [1, 2] rfl
    have hDc := hD.sub (ws' := [(h0, .inr (11, [.int th, .int 1, .int 0, .int 1, .ref q_3, .ref sbq])), (q_3, .inl (ci, 119, .inl (RW vx_115 vx_116 vx_117 vx_118)))]) [1, 2] (by decide) rfl
    have hKc := hK.sub (tys' := [(ci, .int)]) [0] rfl
    have hFc := va_free (wc := [(h0, .inr (11, [.int th, .int 1, .int 0, .int 1, .ref q_3, .ref sbq])), (q_3, .inl (ci, 119, .inl (RW vx_115 vx_116 vx_117 vx_118)))]) hD hS hA [1, 2] rfl
    refine va_calli (va_runV (As := [.int x_128]) (rest := []) ⟨hx, hb, hml, hown, hts⟩ (c_ringOne l hl9 dC dI tE h0 q_3 sbq th ci vx_115 vx_116 vx_117 vx_118 x_128 _ ) (cwV 1 hts (goodIn_app (goodIn_r _ [54, 55, 56, 7] (by rfl) (by decide +kernel)) gg_c_homeBy_c_ringOne) rfl rfl rfl (by decide +kernel) ⟨Nat.le_of_ble_eq_true rfl, Nat.le_of_ble_eq_true rfl⟩) ⟨Pre0.blind, va_recv hKc hPc (ci := 11) (q0 := 0) rfl rfl, Pre0.give hPc hKc hDc hT hS hFc⟩ rfl rfl hl.1 rfl (lv_room (Nat.le_of_ble_eq_true rfl)) dX6_homeBy_65 ⟨Nat.le_of_ble_eq_true rfl, Nat.le_of_ble_eq_true rfl⟩) hS (fun q _ h => hFc q h) hFc (fun r_130 u t H1 locs ht hvm hw hB hz1 hk1 hS => ?_)
    obtain ⟨vx_131, vx_132, vx_133, vx_134, hP1, hK1, hD1⟩ := hB
    rw [ht] at hP1
    have hK1 := va_K.moved hvm.symm hK1
    obtain ⟨hP, hD⟩ := va_join (wr := [(rq, .inl (ci, 119, .inl (RW xh xr xt xw)))]) (w1 := [(h0, .inr (11, [.int th, .int 1, .int 0, .int 1, .ref q_3, .ref sbq])), (q_3, .inl (ci, 119, .inl (RW vx_131 vx_132 vx_133 vx_134)))]) hP hD [1, 2] [0] rfl rfl (by decide) (by decide) hk1 hFc hP1 hD1
    generalize H1 = H at hP hS ⊢
    have hP : va_P (dC, dI) vwCl [(rq, .inl (ci, 119, .inl (RW xh xr xt xw))), (h0, .inr (11, [.int th, .int 1, .int 0, .int 1, .ref q_3, .ref sbq])), (q_3, .inl (ci, 119, .inl (RW vx_131 vx_132 vx_133 vx_134)))] H := hP
    have hD : va_D A [(rq, .inl (ci, 119, .inl (RW xh xr xt xw))), (h0, .inr (11, [.int th, .int 1, .int 0, .int 1, .ref q_3, .ref sbq])), (q_3, .inl (ci, 119, .inl (RW vx_131 vx_132 vx_133 vx_134)))] := hD
    refine W.widen (k := 1) (n := 119) (by omega) (by omega) ?_
    obtain rfl : r_130 = 0 := hw
    refine lv_pop hx hb dX6_homeBy_68 rfl ?_
    refine lv_aload_n hx hb dX6_homeBy_69 rfl (lv_at hl 4 rfl) ?_
    refine lv_iload_n hx hb dX6_homeBy_70 rfl (lv_at hl 5 rfl) ?_
    have hPc := hP.sub (ws' := [(h0, .inr (11, [.int th, .int 1, .int 0, .int 1, .ref q_3, .ref sbq])), (q_3, .inl (ci, 119, .inl (RW vx_131 vx_132 vx_133 vx_134)))]) [1, 2] rfl
    have hDc := hD.sub (ws' := [(h0, .inr (11, [.int th, .int 1, .int 0, .int 1, .ref q_3, .ref sbq])), (q_3, .inl (ci, 119, .inl (RW vx_131 vx_132 vx_133 vx_134)))]) [1, 2] (by decide) rfl
    have hKc := hK.sub (tys' := [(ci, .int)]) [0] rfl
    have hFc := va_free (wc := [(h0, .inr (11, [.int th, .int 1, .int 0, .int 1, .ref q_3, .ref sbq])), (q_3, .inl (ci, 119, .inl (RW vx_131 vx_132 vx_133 vx_134)))]) hD hS hA [1, 2] rfl
    refine va_calli (va_runV (As := [.int 0]) (rest := []) ⟨hx, hb, hml, hown, hts⟩ (c_isHome l hl9 dC dI tE h0 q_3 sbq th ci vx_131 vx_132 vx_133 vx_134 _ ) (cwV 1 hts (goodIn_app (goodIn_r _ [8, 9, 10, 7] (by rfl) (by decide +kernel)) gg_c_homeBy_c_isHome) rfl rfl rfl (by decide +kernel) ⟨Nat.le_of_ble_eq_true rfl, Nat.le_of_ble_eq_true rfl⟩) ⟨Pre0.blind, va_recv hKc hPc (ci := 11) (q0 := 0) rfl rfl, Pre0.give hPc hKc hDc hT hS hFc⟩ rfl rfl hl.1 rfl (lv_room (Nat.le_of_ble_eq_true rfl)) dX6_homeBy_71 ⟨Nat.le_of_ble_eq_true rfl, Nat.le_of_ble_eq_true rfl⟩) hS (fun q _ h => hFc q h) hFc (fun r_135 u t H1 locs ht hvm hw hB hz1 hk1 hS => ?_)
    obtain ⟨hP1, hK1, hD1⟩ := hB
    rw [ht] at hP1
    have hK1 := va_K.moved hvm.symm hK1
    obtain ⟨hP, hD⟩ := va_join (wr := [(rq, .inl (ci, 119, .inl (RW xh xr xt xw)))]) (w1 := [(h0, .inr (11, [.int th, .int 1, .int 0, .int 1, .ref q_3, .ref sbq])), (q_3, .inl (ci, 119, .inl (RW vx_131 vx_132 vx_133 vx_134)))]) hP hD [1, 2] [0] rfl rfl (by decide) (by decide) hk1 hFc hP1 hD1
    generalize H1 = H at hP hS ⊢
    have hP : va_P (dC, dI) vwCl [(rq, .inl (ci, 119, .inl (RW xh xr xt xw))), (h0, .inr (11, [.int th, .int 1, .int 0, .int 1, .ref q_3, .ref sbq])), (q_3, .inl (ci, 119, .inl (RW vx_131 vx_132 vx_133 vx_134)))] H := hP
    have hD : va_D A [(rq, .inl (ci, 119, .inl (RW xh xr xt xw))), (h0, .inr (11, [.int th, .int 1, .int 0, .int 1, .ref q_3, .ref sbq])), (q_3, .inl (ci, 119, .inl (RW vx_131 vx_132 vx_133 vx_134)))] := hD
    refine W.widen (k := 1) (n := 119) (by omega) (by omega) ?_
    obtain rfl : r_135 = 0 := hw
    refine lv_if_eq (tgt := 81) hx hb dX6_homeBy_74 (by decide) (fun _ => ?_) (fun c_136 => absurd (by decide) c_136)
    refine lv_iinc (v := 3) (lv' := [(6, .int 3), (5, .int 4), (4, .int (-1)), (3, .ref rq), (0, .ref h0), (1, .int 0), (2, .int p1)]) hx hb dX6_homeBy_81 hl (k := 0) rfl (by decide) (by decide) rfl (fun ls hl => ?_)
    refine lv_goto (tgt := 38) hx hb dX6_homeBy_84 (by decide) ?_
    refine lv_iload hx hb dX6_homeBy_38 (lv_at hl 0 rfl) ?_
    refine lv_iload hx hb dX6_homeBy_40 (lv_at hl 1 rfl) ?_
    refine lv_icmp_gt (tgt := 87) hx hb dX6_homeBy_42 (by decide) (fun c_137 => absurd c_137 (by decide)) (fun _ => ?_)
    refine lv_iload hx hb dX6_homeBy_45 (lv_at hl 2 rfl) ?_
    refine lv_iconst (v := (-1)) hx hb dX6_homeBy_47 (by decide) ?_
    refine lv_icmp_ne (tgt := 87) hx hb dX6_homeBy_48 (by decide) (fun c_138 => absurd (by decide) c_138) (fun _ => ?_)
    refine lv_aload_n hx hb dX6_homeBy_51 rfl (lv_at hl 4 rfl) ?_
    refine lv_iload_n hx hb dX6_homeBy_52 rfl (lv_at hl 6 rfl) ?_
    refine lv_iload hx hb dX6_homeBy_53 (lv_at hl 1 rfl) ?_
    refine lv_iload hx hb dX6_homeBy_55 (lv_at hl 0 rfl) ?_
    refine lv_isub hx hb dX6_homeBy_57 ?_
    refine lv_topi (fun x_139 e_140 => ?_)
    obtain rfl : x_139 = 1 := e_140.trans (by decide)
    have hPc := hP.sub (ws' := []) [] rfl
    have hDc := hD.sub (ws' := []) [] (by decide) rfl
    have hKc := hK.sub (tys' := []) [] rfl
    have hFc := va_free (wc := []) hD hS hA [] rfl
    refine va_calli (va_runS (As := [.int 1]) (rest := [.int p1, .ref h0]) ⟨hx, hb, hml, hown, hts⟩ (c_power_1 l hl9 dC dI tE  _ ) (va_cwS 1 hts (goodIn_app (goodIn_r _ [24, 25, 7] (by rfl) (by decide +kernel)) gg_c_homeBy_c_power_1) rfl rfl rfl (by decide +kernel) ⟨Nat.le_of_ble_eq_true rfl, Nat.le_of_ble_eq_true rfl⟩) ⟨Pre0.blind, Pre0.give hPc hKc hDc hT hS hFc⟩ rfl rfl hl.1 rfl (lv_room (Nat.le_of_ble_eq_true rfl)) dX6_homeBy_58 ⟨Nat.le_of_ble_eq_true rfl, Nat.le_of_ble_eq_true rfl⟩) hS (fun q _ h => hFc q h) hFc (fun r_141 u t H1 locs ht hvm hw hB hz1 hk1 hS => ?_)
    obtain ⟨hP1, hK1, hD1⟩ := hB
    rw [ht] at hP1
    have hK1 := va_K.moved hvm.symm hK1
    obtain ⟨hP, hD⟩ := va_join (wr := [(rq, .inl (ci, 119, .inl (RW xh xr xt xw))), (h0, .inr (11, [.int th, .int 1, .int 0, .int 1, .ref q_3, .ref sbq])), (q_3, .inl (ci, 119, .inl (RW vx_131 vx_132 vx_133 vx_134)))]) (w1 := []) hP hD [] [0, 1, 2] rfl rfl (by decide) (by decide) hk1 hFc hP1 hD1
    generalize H1 = H at hP hS ⊢
    have hP : va_P (dC, dI) vwCl [(rq, .inl (ci, 119, .inl (RW xh xr xt xw))), (h0, .inr (11, [.int th, .int 1, .int 0, .int 1, .ref q_3, .ref sbq])), (q_3, .inl (ci, 119, .inl (RW vx_131 vx_132 vx_133 vx_134)))] H := hP
    have hD : va_D A [(rq, .inl (ci, 119, .inl (RW xh xr xt xw))), (h0, .inr (11, [.int th, .int 1, .int 0, .int 1, .ref q_3, .ref sbq])), (q_3, .inl (ci, 119, .inl (RW vx_131 vx_132 vx_133 vx_134)))] := hD
    refine W.widen (k := 1) (n := 119) (by omega) (by omega) ?_
    obtain rfl : r_141 = 10 := hw
    refine lv_idiv hx hb dX6_homeBy_61 (by decide) ?_
    refine lv_topi (fun x_142 e_143 => ?_)
    refine lv_bipush (v := 10) hx hb dX6_homeBy_62 (by decide) ?_
    refine lv_irem hx hb dX6_homeBy_64 (by decide) ?_
    refine lv_topi (fun x_144 e_145 => ?_)
    have hPc := hP.sub (ws' := [(h0, .inr (11, [.int th, .int 1, .int 0, .int 1, .ref q_3, .ref sbq])), (q_3, .inl (ci, 119, .inl (RW vx_131 vx_132 vx_133 vx_134)))]) [1, 2] rfl
    have hDc := hD.sub (ws' := [(h0, .inr (11, [.int th, .int 1, .int 0, .int 1, .ref q_3, .ref sbq])), (q_3, .inl (ci, 119, .inl (RW vx_131 vx_132 vx_133 vx_134)))]) [1, 2] (by decide) rfl
    have hKc := hK.sub (tys' := [(ci, .int)]) [0] rfl
    have hFc := va_free (wc := [(h0, .inr (11, [.int th, .int 1, .int 0, .int 1, .ref q_3, .ref sbq])), (q_3, .inl (ci, 119, .inl (RW vx_131 vx_132 vx_133 vx_134)))]) hD hS hA [1, 2] rfl
    refine va_calli (va_runV (As := [.int x_144]) (rest := []) ⟨hx, hb, hml, hown, hts⟩ (c_ringOne l hl9 dC dI tE h0 q_3 sbq th ci vx_131 vx_132 vx_133 vx_134 x_144 _ ) (cwV 1 hts (goodIn_app (goodIn_r _ [54, 55, 56, 7] (by rfl) (by decide +kernel)) gg_c_homeBy_c_ringOne) rfl rfl rfl (by decide +kernel) ⟨Nat.le_of_ble_eq_true rfl, Nat.le_of_ble_eq_true rfl⟩) ⟨Pre0.blind, va_recv hKc hPc (ci := 11) (q0 := 0) rfl rfl, Pre0.give hPc hKc hDc hT hS hFc⟩ rfl rfl hl.1 rfl (lv_room (Nat.le_of_ble_eq_true rfl)) dX6_homeBy_65 ⟨Nat.le_of_ble_eq_true rfl, Nat.le_of_ble_eq_true rfl⟩) hS (fun q _ h => hFc q h) hFc (fun r_146 u t H1 locs ht hvm hw hB hz1 hk1 hS => ?_)
    obtain ⟨vx_147, vx_148, vx_149, vx_150, hP1, hK1, hD1⟩ := hB
    rw [ht] at hP1
    have hK1 := va_K.moved hvm.symm hK1
    obtain ⟨hP, hD⟩ := va_join (wr := [(rq, .inl (ci, 119, .inl (RW xh xr xt xw)))]) (w1 := [(h0, .inr (11, [.int th, .int 1, .int 0, .int 1, .ref q_3, .ref sbq])), (q_3, .inl (ci, 119, .inl (RW vx_147 vx_148 vx_149 vx_150)))]) hP hD [1, 2] [0] rfl rfl (by decide) (by decide) hk1 hFc hP1 hD1
    generalize H1 = H at hP hS ⊢
    have hP : va_P (dC, dI) vwCl [(rq, .inl (ci, 119, .inl (RW xh xr xt xw))), (h0, .inr (11, [.int th, .int 1, .int 0, .int 1, .ref q_3, .ref sbq])), (q_3, .inl (ci, 119, .inl (RW vx_147 vx_148 vx_149 vx_150)))] H := hP
    have hD : va_D A [(rq, .inl (ci, 119, .inl (RW xh xr xt xw))), (h0, .inr (11, [.int th, .int 1, .int 0, .int 1, .ref q_3, .ref sbq])), (q_3, .inl (ci, 119, .inl (RW vx_147 vx_148 vx_149 vx_150)))] := hD
    refine W.widen (k := 1) (n := 119) (by omega) (by omega) ?_
    obtain rfl : r_146 = 0 := hw
    refine lv_pop hx hb dX6_homeBy_68 rfl ?_
    refine lv_aload_n hx hb dX6_homeBy_69 rfl (lv_at hl 4 rfl) ?_
    refine lv_iload_n hx hb dX6_homeBy_70 rfl (lv_at hl 5 rfl) ?_
    have hPc := hP.sub (ws' := [(h0, .inr (11, [.int th, .int 1, .int 0, .int 1, .ref q_3, .ref sbq])), (q_3, .inl (ci, 119, .inl (RW vx_147 vx_148 vx_149 vx_150)))]) [1, 2] rfl
    have hDc := hD.sub (ws' := [(h0, .inr (11, [.int th, .int 1, .int 0, .int 1, .ref q_3, .ref sbq])), (q_3, .inl (ci, 119, .inl (RW vx_147 vx_148 vx_149 vx_150)))]) [1, 2] (by decide) rfl
    have hKc := hK.sub (tys' := [(ci, .int)]) [0] rfl
    have hFc := va_free (wc := [(h0, .inr (11, [.int th, .int 1, .int 0, .int 1, .ref q_3, .ref sbq])), (q_3, .inl (ci, 119, .inl (RW vx_147 vx_148 vx_149 vx_150)))]) hD hS hA [1, 2] rfl
    refine va_calli (va_runV (As := [.int 0]) (rest := []) ⟨hx, hb, hml, hown, hts⟩ (c_isHome l hl9 dC dI tE h0 q_3 sbq th ci vx_147 vx_148 vx_149 vx_150 _ ) (cwV 1 hts (goodIn_app (goodIn_r _ [8, 9, 10, 7] (by rfl) (by decide +kernel)) gg_c_homeBy_c_isHome) rfl rfl rfl (by decide +kernel) ⟨Nat.le_of_ble_eq_true rfl, Nat.le_of_ble_eq_true rfl⟩) ⟨Pre0.blind, va_recv hKc hPc (ci := 11) (q0 := 0) rfl rfl, Pre0.give hPc hKc hDc hT hS hFc⟩ rfl rfl hl.1 rfl (lv_room (Nat.le_of_ble_eq_true rfl)) dX6_homeBy_71 ⟨Nat.le_of_ble_eq_true rfl, Nat.le_of_ble_eq_true rfl⟩) hS (fun q _ h => hFc q h) hFc (fun r_151 u t H1 locs ht hvm hw hB hz1 hk1 hS => ?_)
    obtain ⟨hP1, hK1, hD1⟩ := hB
    rw [ht] at hP1
    have hK1 := va_K.moved hvm.symm hK1
    obtain ⟨hP, hD⟩ := va_join (wr := [(rq, .inl (ci, 119, .inl (RW xh xr xt xw)))]) (w1 := [(h0, .inr (11, [.int th, .int 1, .int 0, .int 1, .ref q_3, .ref sbq])), (q_3, .inl (ci, 119, .inl (RW vx_147 vx_148 vx_149 vx_150)))]) hP hD [1, 2] [0] rfl rfl (by decide) (by decide) hk1 hFc hP1 hD1
    generalize H1 = H at hP hS ⊢
    have hP : va_P (dC, dI) vwCl [(rq, .inl (ci, 119, .inl (RW xh xr xt xw))), (h0, .inr (11, [.int th, .int 1, .int 0, .int 1, .ref q_3, .ref sbq])), (q_3, .inl (ci, 119, .inl (RW vx_147 vx_148 vx_149 vx_150)))] H := hP
    have hD : va_D A [(rq, .inl (ci, 119, .inl (RW xh xr xt xw))), (h0, .inr (11, [.int th, .int 1, .int 0, .int 1, .ref q_3, .ref sbq])), (q_3, .inl (ci, 119, .inl (RW vx_147 vx_148 vx_149 vx_150)))] := hD
    refine W.widen (k := 1) (n := 119) (by omega) (by omega) ?_
    obtain rfl : r_151 = 0 := hw
    refine lv_if_eq (tgt := 81) hx hb dX6_homeBy_74 (by decide) (fun _ => ?_) (fun c_152 => absurd (by decide) c_152)
    refine lv_iinc (v := 4) (lv' := [(6, .int 4), (5, .int 4), (4, .int (-1)), (3, .ref rq), (0, .ref h0), (1, .int 0), (2, .int p1)]) hx hb dX6_homeBy_81 hl (k := 0) rfl (by decide) (by decide) rfl (fun ls hl => ?_)
    refine lv_goto (tgt := 38) hx hb dX6_homeBy_84 (by decide) ?_
    refine lv_iload hx hb dX6_homeBy_38 (lv_at hl 0 rfl) ?_
    refine lv_iload hx hb dX6_homeBy_40 (lv_at hl 1 rfl) ?_
    refine lv_icmp_gt (tgt := 87) hx hb dX6_homeBy_42 (by decide) (fun c_153 => absurd c_153 (by decide)) (fun _ => ?_)
    refine lv_iload hx hb dX6_homeBy_45 (lv_at hl 2 rfl) ?_
    refine lv_iconst (v := (-1)) hx hb dX6_homeBy_47 (by decide) ?_
    refine lv_icmp_ne (tgt := 87) hx hb dX6_homeBy_48 (by decide) (fun c_154 => absurd (by decide) c_154) (fun _ => ?_)
    refine lv_aload_n hx hb dX6_homeBy_51 rfl (lv_at hl 4 rfl) ?_
    refine lv_iload_n hx hb dX6_homeBy_52 rfl (lv_at hl 6 rfl) ?_
    refine lv_iload hx hb dX6_homeBy_53 (lv_at hl 1 rfl) ?_
    refine lv_iload hx hb dX6_homeBy_55 (lv_at hl 0 rfl) ?_
    refine lv_isub hx hb dX6_homeBy_57 ?_
    refine lv_topi (fun x_155 e_156 => ?_)
    obtain rfl : x_155 = 0 := e_156.trans (by decide)
    have hPc := hP.sub (ws' := []) [] rfl
    have hDc := hD.sub (ws' := []) [] (by decide) rfl
    have hKc := hK.sub (tys' := []) [] rfl
    have hFc := va_free (wc := []) hD hS hA [] rfl
    refine va_calli (va_runS (As := [.int 0]) (rest := [.int p1, .ref h0]) ⟨hx, hb, hml, hown, hts⟩ (c_power_0 l hl9 dC dI tE  _ ) (va_cwS 1 hts (goodIn_app (goodIn_r _ [24, 25, 7] (by rfl) (by decide +kernel)) gg_c_homeBy_c_power_0) rfl rfl rfl (by decide +kernel) ⟨Nat.le_of_ble_eq_true rfl, Nat.le_of_ble_eq_true rfl⟩) ⟨Pre0.blind, Pre0.give hPc hKc hDc hT hS hFc⟩ rfl rfl hl.1 rfl (lv_room (Nat.le_of_ble_eq_true rfl)) dX6_homeBy_58 ⟨Nat.le_of_ble_eq_true rfl, Nat.le_of_ble_eq_true rfl⟩) hS (fun q _ h => hFc q h) hFc (fun r_157 u t H1 locs ht hvm hw hB hz1 hk1 hS => ?_)
    obtain ⟨hP1, hK1, hD1⟩ := hB
    rw [ht] at hP1
    have hK1 := va_K.moved hvm.symm hK1
    obtain ⟨hP, hD⟩ := va_join (wr := [(rq, .inl (ci, 119, .inl (RW xh xr xt xw))), (h0, .inr (11, [.int th, .int 1, .int 0, .int 1, .ref q_3, .ref sbq])), (q_3, .inl (ci, 119, .inl (RW vx_147 vx_148 vx_149 vx_150)))]) (w1 := []) hP hD [] [0, 1, 2] rfl rfl (by decide) (by decide) hk1 hFc hP1 hD1
    generalize H1 = H at hP hS ⊢
    have hP : va_P (dC, dI) vwCl [(rq, .inl (ci, 119, .inl (RW xh xr xt xw))), (h0, .inr (11, [.int th, .int 1, .int 0, .int 1, .ref q_3, .ref sbq])), (q_3, .inl (ci, 119, .inl (RW vx_147 vx_148 vx_149 vx_150)))] H := hP
    have hD : va_D A [(rq, .inl (ci, 119, .inl (RW xh xr xt xw))), (h0, .inr (11, [.int th, .int 1, .int 0, .int 1, .ref q_3, .ref sbq])), (q_3, .inl (ci, 119, .inl (RW vx_147 vx_148 vx_149 vx_150)))] := hD
    refine W.widen (k := 1) (n := 119) (by omega) (by omega) ?_
    obtain rfl : r_157 = 1 := hw
    refine lv_idiv hx hb dX6_homeBy_61 (by decide) ?_
    refine lv_topi (fun x_158 e_159 => ?_)
    refine lv_bipush (v := 10) hx hb dX6_homeBy_62 (by decide) ?_
    refine lv_irem hx hb dX6_homeBy_64 (by decide) ?_
    refine lv_topi (fun x_160 e_161 => ?_)
    have hPc := hP.sub (ws' := [(h0, .inr (11, [.int th, .int 1, .int 0, .int 1, .ref q_3, .ref sbq])), (q_3, .inl (ci, 119, .inl (RW vx_147 vx_148 vx_149 vx_150)))]) [1, 2] rfl
    have hDc := hD.sub (ws' := [(h0, .inr (11, [.int th, .int 1, .int 0, .int 1, .ref q_3, .ref sbq])), (q_3, .inl (ci, 119, .inl (RW vx_147 vx_148 vx_149 vx_150)))]) [1, 2] (by decide) rfl
    have hKc := hK.sub (tys' := [(ci, .int)]) [0] rfl
    have hFc := va_free (wc := [(h0, .inr (11, [.int th, .int 1, .int 0, .int 1, .ref q_3, .ref sbq])), (q_3, .inl (ci, 119, .inl (RW vx_147 vx_148 vx_149 vx_150)))]) hD hS hA [1, 2] rfl
    refine va_calli (va_runV (As := [.int x_160]) (rest := []) ⟨hx, hb, hml, hown, hts⟩ (c_ringOne l hl9 dC dI tE h0 q_3 sbq th ci vx_147 vx_148 vx_149 vx_150 x_160 _ ) (cwV 1 hts (goodIn_app (goodIn_r _ [54, 55, 56, 7] (by rfl) (by decide +kernel)) gg_c_homeBy_c_ringOne) rfl rfl rfl (by decide +kernel) ⟨Nat.le_of_ble_eq_true rfl, Nat.le_of_ble_eq_true rfl⟩) ⟨Pre0.blind, va_recv hKc hPc (ci := 11) (q0 := 0) rfl rfl, Pre0.give hPc hKc hDc hT hS hFc⟩ rfl rfl hl.1 rfl (lv_room (Nat.le_of_ble_eq_true rfl)) dX6_homeBy_65 ⟨Nat.le_of_ble_eq_true rfl, Nat.le_of_ble_eq_true rfl⟩) hS (fun q _ h => hFc q h) hFc (fun r_162 u t H1 locs ht hvm hw hB hz1 hk1 hS => ?_)
    obtain ⟨vx_163, vx_164, vx_165, vx_166, hP1, hK1, hD1⟩ := hB
    rw [ht] at hP1
    have hK1 := va_K.moved hvm.symm hK1
    obtain ⟨hP, hD⟩ := va_join (wr := [(rq, .inl (ci, 119, .inl (RW xh xr xt xw)))]) (w1 := [(h0, .inr (11, [.int th, .int 1, .int 0, .int 1, .ref q_3, .ref sbq])), (q_3, .inl (ci, 119, .inl (RW vx_163 vx_164 vx_165 vx_166)))]) hP hD [1, 2] [0] rfl rfl (by decide) (by decide) hk1 hFc hP1 hD1
    generalize H1 = H at hP hS ⊢
    have hP : va_P (dC, dI) vwCl [(rq, .inl (ci, 119, .inl (RW xh xr xt xw))), (h0, .inr (11, [.int th, .int 1, .int 0, .int 1, .ref q_3, .ref sbq])), (q_3, .inl (ci, 119, .inl (RW vx_163 vx_164 vx_165 vx_166)))] H := hP
    have hD : va_D A [(rq, .inl (ci, 119, .inl (RW xh xr xt xw))), (h0, .inr (11, [.int th, .int 1, .int 0, .int 1, .ref q_3, .ref sbq])), (q_3, .inl (ci, 119, .inl (RW vx_163 vx_164 vx_165 vx_166)))] := hD
    refine W.widen (k := 1) (n := 119) (by omega) (by omega) ?_
    obtain rfl : r_162 = 0 := hw
    refine lv_pop hx hb dX6_homeBy_68 rfl ?_
    refine lv_aload_n hx hb dX6_homeBy_69 rfl (lv_at hl 4 rfl) ?_
    refine lv_iload_n hx hb dX6_homeBy_70 rfl (lv_at hl 5 rfl) ?_
    have hPc := hP.sub (ws' := [(h0, .inr (11, [.int th, .int 1, .int 0, .int 1, .ref q_3, .ref sbq])), (q_3, .inl (ci, 119, .inl (RW vx_163 vx_164 vx_165 vx_166)))]) [1, 2] rfl
    have hDc := hD.sub (ws' := [(h0, .inr (11, [.int th, .int 1, .int 0, .int 1, .ref q_3, .ref sbq])), (q_3, .inl (ci, 119, .inl (RW vx_163 vx_164 vx_165 vx_166)))]) [1, 2] (by decide) rfl
    have hKc := hK.sub (tys' := [(ci, .int)]) [0] rfl
    have hFc := va_free (wc := [(h0, .inr (11, [.int th, .int 1, .int 0, .int 1, .ref q_3, .ref sbq])), (q_3, .inl (ci, 119, .inl (RW vx_163 vx_164 vx_165 vx_166)))]) hD hS hA [1, 2] rfl
    refine va_calli (va_runV (As := [.int 0]) (rest := []) ⟨hx, hb, hml, hown, hts⟩ (c_isHome l hl9 dC dI tE h0 q_3 sbq th ci vx_163 vx_164 vx_165 vx_166 _ ) (cwV 1 hts (goodIn_app (goodIn_r _ [8, 9, 10, 7] (by rfl) (by decide +kernel)) gg_c_homeBy_c_isHome) rfl rfl rfl (by decide +kernel) ⟨Nat.le_of_ble_eq_true rfl, Nat.le_of_ble_eq_true rfl⟩) ⟨Pre0.blind, va_recv hKc hPc (ci := 11) (q0 := 0) rfl rfl, Pre0.give hPc hKc hDc hT hS hFc⟩ rfl rfl hl.1 rfl (lv_room (Nat.le_of_ble_eq_true rfl)) dX6_homeBy_71 ⟨Nat.le_of_ble_eq_true rfl, Nat.le_of_ble_eq_true rfl⟩) hS (fun q _ h => hFc q h) hFc (fun r_167 u t H1 locs ht hvm hw hB hz1 hk1 hS => ?_)
    obtain ⟨hP1, hK1, hD1⟩ := hB
    rw [ht] at hP1
    have hK1 := va_K.moved hvm.symm hK1
    obtain ⟨hP, hD⟩ := va_join (wr := [(rq, .inl (ci, 119, .inl (RW xh xr xt xw)))]) (w1 := [(h0, .inr (11, [.int th, .int 1, .int 0, .int 1, .ref q_3, .ref sbq])), (q_3, .inl (ci, 119, .inl (RW vx_163 vx_164 vx_165 vx_166)))]) hP hD [1, 2] [0] rfl rfl (by decide) (by decide) hk1 hFc hP1 hD1
    generalize H1 = H at hP hS ⊢
    have hP : va_P (dC, dI) vwCl [(rq, .inl (ci, 119, .inl (RW xh xr xt xw))), (h0, .inr (11, [.int th, .int 1, .int 0, .int 1, .ref q_3, .ref sbq])), (q_3, .inl (ci, 119, .inl (RW vx_163 vx_164 vx_165 vx_166)))] H := hP
    have hD : va_D A [(rq, .inl (ci, 119, .inl (RW xh xr xt xw))), (h0, .inr (11, [.int th, .int 1, .int 0, .int 1, .ref q_3, .ref sbq])), (q_3, .inl (ci, 119, .inl (RW vx_163 vx_164 vx_165 vx_166)))] := hD
    refine W.widen (k := 1) (n := 119) (by omega) (by omega) ?_
    obtain rfl : r_167 = 0 := hw
    refine lv_if_eq (tgt := 81) hx hb dX6_homeBy_74 (by decide) (fun _ => ?_) (fun c_168 => absurd (by decide) c_168)
    refine lv_iinc (v := 5) (lv' := [(6, .int 5), (5, .int 4), (4, .int (-1)), (3, .ref rq), (0, .ref h0), (1, .int 0), (2, .int p1)]) hx hb dX6_homeBy_81 hl (k := 0) rfl (by decide) (by decide) rfl (fun ls hl => ?_)
    refine lv_goto (tgt := 38) hx hb dX6_homeBy_84 (by decide) ?_
    refine lv_iload hx hb dX6_homeBy_38 (lv_at hl 0 rfl) ?_
    refine lv_iload hx hb dX6_homeBy_40 (lv_at hl 1 rfl) ?_
    refine lv_icmp_gt (tgt := 87) hx hb dX6_homeBy_42 (by decide) (fun _ => ?_) (fun c_169 => absurd (by decide) c_169)
    refine lv_aload_n hx hb dX6_homeBy_87 rfl (lv_at hl 4 rfl) ?_
    refine lv_aload_n hx hb dX6_homeBy_88 rfl (lv_at hl 3 rfl) ?_
    refine va_put (D := (dC, dI)) (ci := 11) (v := .ref rq) (ty := .array .int) (C := RX6) (T := TX6) (N := 6) hx hb hts u_c_homeBy_X6 tyX6 tyX6_ok nmX6 hown hK hP hD hS 1 rfl rfl 4 (by decide) (hts (.fieldLink RX6 9 "HotelOfBellsModel" "row" "[I") (List.mem_of_getElem? (i := 3) rfl)) (fun _ h9 => h9) rfl (by decide +kernel) rfl rfl (Nat.le_of_ble_eq_true rfl) dX6_homeBy_89 (fun H locs hP hD hS => ?_)
    have hP : va_P (dC, dI) vwCl [(rq, .inl (ci, 119, .inl (RW xh xr xt xw))), (h0, .inr (11, [.int th, .int 1, .int 0, .int 1, .ref rq, .ref sbq])), (q_3, .inl (ci, 119, .inl (RW vx_163 vx_164 vx_165 vx_166)))] H := hP
    have hD : va_D A [(rq, .inl (ci, 119, .inl (RW xh xr xt xw))), (h0, .inr (11, [.int th, .int 1, .int 0, .int 1, .ref rq, .ref sbq])), (q_3, .inl (ci, 119, .inl (RW vx_163 vx_164 vx_165 vx_166)))] := hD
    refine lv_iload hx hb dX6_homeBy_92 (lv_at hl 2 rfl) ?_
    have hP9 := hP.sub (ws' := [(h0, .inr (11, [.int th, .int 1, .int 0, .int 1, .ref rq, .ref sbq])), (rq, .inl (ci, 119, .inl (RW xh xr xt xw))), (q_3, .inl (ci, 119, .inl (RW vx_163 vx_164 vx_165 vx_166)))]) [1, 0, 2] rfl
    have hD9 := hD.sub (ws' := [(h0, .inr (11, [.int th, .int 1, .int 0, .int 1, .ref rq, .ref sbq])), (rq, .inl (ci, 119, .inl (RW xh xr xt xw))), (q_3, .inl (ci, 119, .inl (RW vx_163 vx_164 vx_165 vx_166)))]) [1, 0, 2] (by decide) rfl
    have hK9 := hK.sub (tys' := [(ci, .int)]) [0] rfl
    exact W.iret (v := (-1)) hx hb hr (fun t ht hW => ⟨⟨(-1), (), rfl, rfl, q_3, (RW vx_163 vx_164 vx_165 vx_166), by rw [ht]; exact hP9, va_K.moved hW.alike hK9, hD9⟩, hS.F ht⟩) hS.2.2 dX6_homeBy_94
  · obtain rfl : r_4 = 5 := hw.trans hd0
    refine lv_istore (lv' := [(5, .int 5), (4, .int (-1)), (3, .ref rq), (0, .ref h0), (1, .int 0), (2, .int p1)]) hx hb dX6_homeBy_33 hl (by decide) rfl (fun ls hl => ?_)
    refine lv_iconst (v := 1) hx hb dX6_homeBy_35 (by decide) ?_
    refine lv_istore (lv' := [(6, .int 1), (5, .int 5), (4, .int (-1)), (3, .ref rq), (0, .ref h0), (1, .int 0), (2, .int p1)]) hx hb dX6_homeBy_36 hl (by decide) rfl (fun ls hl => ?_)
    refine lv_iload hx hb dX6_homeBy_38 (lv_at hl 0 rfl) ?_
    refine lv_iload hx hb dX6_homeBy_40 (lv_at hl 1 rfl) ?_
    refine lv_icmp_gt (tgt := 87) hx hb dX6_homeBy_42 (by decide) (fun c_170 => absurd c_170 (by decide)) (fun _ => ?_)
    refine lv_iload hx hb dX6_homeBy_45 (lv_at hl 2 rfl) ?_
    refine lv_iconst (v := (-1)) hx hb dX6_homeBy_47 (by decide) ?_
    refine lv_icmp_ne (tgt := 87) hx hb dX6_homeBy_48 (by decide) (fun c_171 => absurd (by decide) c_171) (fun _ => ?_)
    refine lv_aload_n hx hb dX6_homeBy_51 rfl (lv_at hl 4 rfl) ?_
    refine lv_iload_n hx hb dX6_homeBy_52 rfl (lv_at hl 6 rfl) ?_
    refine lv_iload hx hb dX6_homeBy_53 (lv_at hl 1 rfl) ?_
    refine lv_iload hx hb dX6_homeBy_55 (lv_at hl 0 rfl) ?_
    refine lv_isub hx hb dX6_homeBy_57 ?_
    refine lv_topi (fun x_172 e_173 => ?_)
    obtain rfl : x_172 = 4 := e_173.trans (by decide)
    have hPc := hP.sub (ws' := []) [] rfl
    have hDc := hD.sub (ws' := []) [] (by decide) rfl
    have hKc := hK.sub (tys' := []) [] rfl
    have hFc := va_free (wc := []) hD hS hA [] rfl
    refine va_calli (va_runS (As := [.int 4]) (rest := [.int p1, .ref h0]) ⟨hx, hb, hml, hown, hts⟩ (c_power_4 l hl9 dC dI tE  _ ) (va_cwS 1 hts (goodIn_app (goodIn_r _ [24, 25, 7] (by rfl) (by decide +kernel)) gg_c_homeBy_c_power_4) rfl rfl rfl (by decide +kernel) ⟨Nat.le_of_ble_eq_true rfl, Nat.le_of_ble_eq_true rfl⟩) ⟨Pre0.blind, Pre0.give hPc hKc hDc hT hS hFc⟩ rfl rfl hl.1 rfl (lv_room (Nat.le_of_ble_eq_true rfl)) dX6_homeBy_58 ⟨Nat.le_of_ble_eq_true rfl, Nat.le_of_ble_eq_true rfl⟩) hS (fun q _ h => hFc q h) hFc (fun r_174 u t H1 locs ht hvm hw hB hz1 hk1 hS => ?_)
    obtain ⟨hP1, hK1, hD1⟩ := hB
    rw [ht] at hP1
    have hK1 := va_K.moved hvm.symm hK1
    obtain ⟨hP, hD⟩ := va_join (wr := [(h0, .inr (11, [.int th, .int 1, .int 0, .int 1, .ref q_3, .ref sbq])), (rq, .inl (ci, 119, .inl (RW xh xr xt xw))), (q_3, .inl (ci, 119, .inl (RW xh xr xt xw)))]) (w1 := []) hP hD [] [0, 1, 2] rfl rfl (by decide) (by decide) hk1 hFc hP1 hD1
    generalize H1 = H at hP hS ⊢
    have hP : va_P (dC, dI) vwCl [(h0, .inr (11, [.int th, .int 1, .int 0, .int 1, .ref q_3, .ref sbq])), (rq, .inl (ci, 119, .inl (RW xh xr xt xw))), (q_3, .inl (ci, 119, .inl (RW xh xr xt xw)))] H := hP
    have hD : va_D A [(h0, .inr (11, [.int th, .int 1, .int 0, .int 1, .ref q_3, .ref sbq])), (rq, .inl (ci, 119, .inl (RW xh xr xt xw))), (q_3, .inl (ci, 119, .inl (RW xh xr xt xw)))] := hD
    refine W.widen (k := 1) (n := 119) (by omega) (by omega) ?_
    obtain rfl : r_174 = 10000 := hw
    refine lv_idiv hx hb dX6_homeBy_61 (by decide) ?_
    refine lv_topi (fun x_175 e_176 => ?_)
    refine lv_bipush (v := 10) hx hb dX6_homeBy_62 (by decide) ?_
    refine lv_irem hx hb dX6_homeBy_64 (by decide) ?_
    refine lv_topi (fun x_177 e_178 => ?_)
    have hPc := hP.sub (ws' := [(h0, .inr (11, [.int th, .int 1, .int 0, .int 1, .ref q_3, .ref sbq])), (q_3, .inl (ci, 119, .inl (RW xh xr xt xw)))]) [0, 2] rfl
    have hDc := hD.sub (ws' := [(h0, .inr (11, [.int th, .int 1, .int 0, .int 1, .ref q_3, .ref sbq])), (q_3, .inl (ci, 119, .inl (RW xh xr xt xw)))]) [0, 2] (by decide) rfl
    have hKc := hK.sub (tys' := [(ci, .int)]) [0] rfl
    have hFc := va_free (wc := [(h0, .inr (11, [.int th, .int 1, .int 0, .int 1, .ref q_3, .ref sbq])), (q_3, .inl (ci, 119, .inl (RW xh xr xt xw)))]) hD hS hA [0, 2] rfl
    refine va_calli (va_runV (As := [.int x_177]) (rest := []) ⟨hx, hb, hml, hown, hts⟩ (c_ringOne l hl9 dC dI tE h0 q_3 sbq th ci xh xr xt xw x_177 _ ) (cwV 1 hts (goodIn_app (goodIn_r _ [54, 55, 56, 7] (by rfl) (by decide +kernel)) gg_c_homeBy_c_ringOne) rfl rfl rfl (by decide +kernel) ⟨Nat.le_of_ble_eq_true rfl, Nat.le_of_ble_eq_true rfl⟩) ⟨Pre0.blind, va_recv hKc hPc (ci := 11) (q0 := 0) rfl rfl, Pre0.give hPc hKc hDc hT hS hFc⟩ rfl rfl hl.1 rfl (lv_room (Nat.le_of_ble_eq_true rfl)) dX6_homeBy_65 ⟨Nat.le_of_ble_eq_true rfl, Nat.le_of_ble_eq_true rfl⟩) hS (fun q _ h => hFc q h) hFc (fun r_179 u t H1 locs ht hvm hw hB hz1 hk1 hS => ?_)
    obtain ⟨vx_180, vx_181, vx_182, vx_183, hP1, hK1, hD1⟩ := hB
    rw [ht] at hP1
    have hK1 := va_K.moved hvm.symm hK1
    obtain ⟨hP, hD⟩ := va_join (wr := [(rq, .inl (ci, 119, .inl (RW xh xr xt xw)))]) (w1 := [(h0, .inr (11, [.int th, .int 1, .int 0, .int 1, .ref q_3, .ref sbq])), (q_3, .inl (ci, 119, .inl (RW vx_180 vx_181 vx_182 vx_183)))]) hP hD [0, 2] [1] rfl rfl (by decide) (by decide) hk1 hFc hP1 hD1
    generalize H1 = H at hP hS ⊢
    have hP : va_P (dC, dI) vwCl [(rq, .inl (ci, 119, .inl (RW xh xr xt xw))), (h0, .inr (11, [.int th, .int 1, .int 0, .int 1, .ref q_3, .ref sbq])), (q_3, .inl (ci, 119, .inl (RW vx_180 vx_181 vx_182 vx_183)))] H := hP
    have hD : va_D A [(rq, .inl (ci, 119, .inl (RW xh xr xt xw))), (h0, .inr (11, [.int th, .int 1, .int 0, .int 1, .ref q_3, .ref sbq])), (q_3, .inl (ci, 119, .inl (RW vx_180 vx_181 vx_182 vx_183)))] := hD
    refine W.widen (k := 1) (n := 119) (by omega) (by omega) ?_
    obtain rfl : r_179 = 0 := hw
    refine lv_pop hx hb dX6_homeBy_68 rfl ?_
    refine lv_aload_n hx hb dX6_homeBy_69 rfl (lv_at hl 4 rfl) ?_
    refine lv_iload_n hx hb dX6_homeBy_70 rfl (lv_at hl 5 rfl) ?_
    have hPc := hP.sub (ws' := [(h0, .inr (11, [.int th, .int 1, .int 0, .int 1, .ref q_3, .ref sbq])), (q_3, .inl (ci, 119, .inl (RW vx_180 vx_181 vx_182 vx_183)))]) [1, 2] rfl
    have hDc := hD.sub (ws' := [(h0, .inr (11, [.int th, .int 1, .int 0, .int 1, .ref q_3, .ref sbq])), (q_3, .inl (ci, 119, .inl (RW vx_180 vx_181 vx_182 vx_183)))]) [1, 2] (by decide) rfl
    have hKc := hK.sub (tys' := [(ci, .int)]) [0] rfl
    have hFc := va_free (wc := [(h0, .inr (11, [.int th, .int 1, .int 0, .int 1, .ref q_3, .ref sbq])), (q_3, .inl (ci, 119, .inl (RW vx_180 vx_181 vx_182 vx_183)))]) hD hS hA [1, 2] rfl
    refine va_calli (va_runV (As := [.int 0]) (rest := []) ⟨hx, hb, hml, hown, hts⟩ (c_isHome l hl9 dC dI tE h0 q_3 sbq th ci vx_180 vx_181 vx_182 vx_183 _ ) (cwV 1 hts (goodIn_app (goodIn_r _ [8, 9, 10, 7] (by rfl) (by decide +kernel)) gg_c_homeBy_c_isHome) rfl rfl rfl (by decide +kernel) ⟨Nat.le_of_ble_eq_true rfl, Nat.le_of_ble_eq_true rfl⟩) ⟨Pre0.blind, va_recv hKc hPc (ci := 11) (q0 := 0) rfl rfl, Pre0.give hPc hKc hDc hT hS hFc⟩ rfl rfl hl.1 rfl (lv_room (Nat.le_of_ble_eq_true rfl)) dX6_homeBy_71 ⟨Nat.le_of_ble_eq_true rfl, Nat.le_of_ble_eq_true rfl⟩) hS (fun q _ h => hFc q h) hFc (fun r_184 u t H1 locs ht hvm hw hB hz1 hk1 hS => ?_)
    obtain ⟨hP1, hK1, hD1⟩ := hB
    rw [ht] at hP1
    have hK1 := va_K.moved hvm.symm hK1
    obtain ⟨hP, hD⟩ := va_join (wr := [(rq, .inl (ci, 119, .inl (RW xh xr xt xw)))]) (w1 := [(h0, .inr (11, [.int th, .int 1, .int 0, .int 1, .ref q_3, .ref sbq])), (q_3, .inl (ci, 119, .inl (RW vx_180 vx_181 vx_182 vx_183)))]) hP hD [1, 2] [0] rfl rfl (by decide) (by decide) hk1 hFc hP1 hD1
    generalize H1 = H at hP hS ⊢
    have hP : va_P (dC, dI) vwCl [(rq, .inl (ci, 119, .inl (RW xh xr xt xw))), (h0, .inr (11, [.int th, .int 1, .int 0, .int 1, .ref q_3, .ref sbq])), (q_3, .inl (ci, 119, .inl (RW vx_180 vx_181 vx_182 vx_183)))] H := hP
    have hD : va_D A [(rq, .inl (ci, 119, .inl (RW xh xr xt xw))), (h0, .inr (11, [.int th, .int 1, .int 0, .int 1, .ref q_3, .ref sbq])), (q_3, .inl (ci, 119, .inl (RW vx_180 vx_181 vx_182 vx_183)))] := hD
    refine W.widen (k := 1) (n := 119) (by omega) (by omega) ?_
    obtain rfl : r_184 = 0 := hw
    refine lv_if_eq (tgt := 81) hx hb dX6_homeBy_74 (by decide) (fun _ => ?_) (fun c_185 => absurd (by decide) c_185)
    refine lv_iinc (v := 2) (lv' := [(6, .int 2), (5, .int 5), (4, .int (-1)), (3, .ref rq), (0, .ref h0), (1, .int 0), (2, .int p1)]) hx hb dX6_homeBy_81 hl (k := 0) rfl (by decide) (by decide) rfl (fun ls hl => ?_)
    refine lv_goto (tgt := 38) hx hb dX6_homeBy_84 (by decide) ?_
    refine lv_iload hx hb dX6_homeBy_38 (lv_at hl 0 rfl) ?_
    refine lv_iload hx hb dX6_homeBy_40 (lv_at hl 1 rfl) ?_
    refine lv_icmp_gt (tgt := 87) hx hb dX6_homeBy_42 (by decide) (fun c_186 => absurd c_186 (by decide)) (fun _ => ?_)
    refine lv_iload hx hb dX6_homeBy_45 (lv_at hl 2 rfl) ?_
    refine lv_iconst (v := (-1)) hx hb dX6_homeBy_47 (by decide) ?_
    refine lv_icmp_ne (tgt := 87) hx hb dX6_homeBy_48 (by decide) (fun c_187 => absurd (by decide) c_187) (fun _ => ?_)
    refine lv_aload_n hx hb dX6_homeBy_51 rfl (lv_at hl 4 rfl) ?_
    refine lv_iload_n hx hb dX6_homeBy_52 rfl (lv_at hl 6 rfl) ?_
    refine lv_iload hx hb dX6_homeBy_53 (lv_at hl 1 rfl) ?_
    refine lv_iload hx hb dX6_homeBy_55 (lv_at hl 0 rfl) ?_
    refine lv_isub hx hb dX6_homeBy_57 ?_
    refine lv_topi (fun x_188 e_189 => ?_)
    obtain rfl : x_188 = 3 := e_189.trans (by decide)
    have hPc := hP.sub (ws' := []) [] rfl
    have hDc := hD.sub (ws' := []) [] (by decide) rfl
    have hKc := hK.sub (tys' := []) [] rfl
    have hFc := va_free (wc := []) hD hS hA [] rfl
    refine va_calli (va_runS (As := [.int 3]) (rest := [.int p1, .ref h0]) ⟨hx, hb, hml, hown, hts⟩ (c_power_3 l hl9 dC dI tE  _ ) (va_cwS 1 hts (goodIn_app (goodIn_r _ [24, 25, 7] (by rfl) (by decide +kernel)) gg_c_homeBy_c_power_3) rfl rfl rfl (by decide +kernel) ⟨Nat.le_of_ble_eq_true rfl, Nat.le_of_ble_eq_true rfl⟩) ⟨Pre0.blind, Pre0.give hPc hKc hDc hT hS hFc⟩ rfl rfl hl.1 rfl (lv_room (Nat.le_of_ble_eq_true rfl)) dX6_homeBy_58 ⟨Nat.le_of_ble_eq_true rfl, Nat.le_of_ble_eq_true rfl⟩) hS (fun q _ h => hFc q h) hFc (fun r_190 u t H1 locs ht hvm hw hB hz1 hk1 hS => ?_)
    obtain ⟨hP1, hK1, hD1⟩ := hB
    rw [ht] at hP1
    have hK1 := va_K.moved hvm.symm hK1
    obtain ⟨hP, hD⟩ := va_join (wr := [(rq, .inl (ci, 119, .inl (RW xh xr xt xw))), (h0, .inr (11, [.int th, .int 1, .int 0, .int 1, .ref q_3, .ref sbq])), (q_3, .inl (ci, 119, .inl (RW vx_180 vx_181 vx_182 vx_183)))]) (w1 := []) hP hD [] [0, 1, 2] rfl rfl (by decide) (by decide) hk1 hFc hP1 hD1
    generalize H1 = H at hP hS ⊢
    have hP : va_P (dC, dI) vwCl [(rq, .inl (ci, 119, .inl (RW xh xr xt xw))), (h0, .inr (11, [.int th, .int 1, .int 0, .int 1, .ref q_3, .ref sbq])), (q_3, .inl (ci, 119, .inl (RW vx_180 vx_181 vx_182 vx_183)))] H := hP
    have hD : va_D A [(rq, .inl (ci, 119, .inl (RW xh xr xt xw))), (h0, .inr (11, [.int th, .int 1, .int 0, .int 1, .ref q_3, .ref sbq])), (q_3, .inl (ci, 119, .inl (RW vx_180 vx_181 vx_182 vx_183)))] := hD
    refine W.widen (k := 1) (n := 119) (by omega) (by omega) ?_
    obtain rfl : r_190 = 1000 := hw
    refine lv_idiv hx hb dX6_homeBy_61 (by decide) ?_
    refine lv_topi (fun x_191 e_192 => ?_)
    refine lv_bipush (v := 10) hx hb dX6_homeBy_62 (by decide) ?_
    refine lv_irem hx hb dX6_homeBy_64 (by decide) ?_
    refine lv_topi (fun x_193 e_194 => ?_)
    have hPc := hP.sub (ws' := [(h0, .inr (11, [.int th, .int 1, .int 0, .int 1, .ref q_3, .ref sbq])), (q_3, .inl (ci, 119, .inl (RW vx_180 vx_181 vx_182 vx_183)))]) [1, 2] rfl
    have hDc := hD.sub (ws' := [(h0, .inr (11, [.int th, .int 1, .int 0, .int 1, .ref q_3, .ref sbq])), (q_3, .inl (ci, 119, .inl (RW vx_180 vx_181 vx_182 vx_183)))]) [1, 2] (by decide) rfl
    have hKc := hK.sub (tys' := [(ci, .int)]) [0] rfl
    have hFc := va_free (wc := [(h0, .inr (11, [.int th, .int 1, .int 0, .int 1, .ref q_3, .ref sbq])), (q_3, .inl (ci, 119, .inl (RW vx_180 vx_181 vx_182 vx_183)))]) hD hS hA [1, 2] rfl
    refine va_calli (va_runV (As := [.int x_193]) (rest := []) ⟨hx, hb, hml, hown, hts⟩ (c_ringOne l hl9 dC dI tE h0 q_3 sbq th ci vx_180 vx_181 vx_182 vx_183 x_193 _ ) (cwV 1 hts (goodIn_app (goodIn_r _ [54, 55, 56, 7] (by rfl) (by decide +kernel)) gg_c_homeBy_c_ringOne) rfl rfl rfl (by decide +kernel) ⟨Nat.le_of_ble_eq_true rfl, Nat.le_of_ble_eq_true rfl⟩) ⟨Pre0.blind, va_recv hKc hPc (ci := 11) (q0 := 0) rfl rfl, Pre0.give hPc hKc hDc hT hS hFc⟩ rfl rfl hl.1 rfl (lv_room (Nat.le_of_ble_eq_true rfl)) dX6_homeBy_65 ⟨Nat.le_of_ble_eq_true rfl, Nat.le_of_ble_eq_true rfl⟩) hS (fun q _ h => hFc q h) hFc (fun r_195 u t H1 locs ht hvm hw hB hz1 hk1 hS => ?_)
    obtain ⟨vx_196, vx_197, vx_198, vx_199, hP1, hK1, hD1⟩ := hB
    rw [ht] at hP1
    have hK1 := va_K.moved hvm.symm hK1
    obtain ⟨hP, hD⟩ := va_join (wr := [(rq, .inl (ci, 119, .inl (RW xh xr xt xw)))]) (w1 := [(h0, .inr (11, [.int th, .int 1, .int 0, .int 1, .ref q_3, .ref sbq])), (q_3, .inl (ci, 119, .inl (RW vx_196 vx_197 vx_198 vx_199)))]) hP hD [1, 2] [0] rfl rfl (by decide) (by decide) hk1 hFc hP1 hD1
    generalize H1 = H at hP hS ⊢
    have hP : va_P (dC, dI) vwCl [(rq, .inl (ci, 119, .inl (RW xh xr xt xw))), (h0, .inr (11, [.int th, .int 1, .int 0, .int 1, .ref q_3, .ref sbq])), (q_3, .inl (ci, 119, .inl (RW vx_196 vx_197 vx_198 vx_199)))] H := hP
    have hD : va_D A [(rq, .inl (ci, 119, .inl (RW xh xr xt xw))), (h0, .inr (11, [.int th, .int 1, .int 0, .int 1, .ref q_3, .ref sbq])), (q_3, .inl (ci, 119, .inl (RW vx_196 vx_197 vx_198 vx_199)))] := hD
    refine W.widen (k := 1) (n := 119) (by omega) (by omega) ?_
    obtain rfl : r_195 = 0 := hw
    refine lv_pop hx hb dX6_homeBy_68 rfl ?_
    refine lv_aload_n hx hb dX6_homeBy_69 rfl (lv_at hl 4 rfl) ?_
    refine lv_iload_n hx hb dX6_homeBy_70 rfl (lv_at hl 5 rfl) ?_
    have hPc := hP.sub (ws' := [(h0, .inr (11, [.int th, .int 1, .int 0, .int 1, .ref q_3, .ref sbq])), (q_3, .inl (ci, 119, .inl (RW vx_196 vx_197 vx_198 vx_199)))]) [1, 2] rfl
    have hDc := hD.sub (ws' := [(h0, .inr (11, [.int th, .int 1, .int 0, .int 1, .ref q_3, .ref sbq])), (q_3, .inl (ci, 119, .inl (RW vx_196 vx_197 vx_198 vx_199)))]) [1, 2] (by decide) rfl
    have hKc := hK.sub (tys' := [(ci, .int)]) [0] rfl
    have hFc := va_free (wc := [(h0, .inr (11, [.int th, .int 1, .int 0, .int 1, .ref q_3, .ref sbq])), (q_3, .inl (ci, 119, .inl (RW vx_196 vx_197 vx_198 vx_199)))]) hD hS hA [1, 2] rfl
    refine va_calli (va_runV (As := [.int 0]) (rest := []) ⟨hx, hb, hml, hown, hts⟩ (c_isHome l hl9 dC dI tE h0 q_3 sbq th ci vx_196 vx_197 vx_198 vx_199 _ ) (cwV 1 hts (goodIn_app (goodIn_r _ [8, 9, 10, 7] (by rfl) (by decide +kernel)) gg_c_homeBy_c_isHome) rfl rfl rfl (by decide +kernel) ⟨Nat.le_of_ble_eq_true rfl, Nat.le_of_ble_eq_true rfl⟩) ⟨Pre0.blind, va_recv hKc hPc (ci := 11) (q0 := 0) rfl rfl, Pre0.give hPc hKc hDc hT hS hFc⟩ rfl rfl hl.1 rfl (lv_room (Nat.le_of_ble_eq_true rfl)) dX6_homeBy_71 ⟨Nat.le_of_ble_eq_true rfl, Nat.le_of_ble_eq_true rfl⟩) hS (fun q _ h => hFc q h) hFc (fun r_200 u t H1 locs ht hvm hw hB hz1 hk1 hS => ?_)
    obtain ⟨hP1, hK1, hD1⟩ := hB
    rw [ht] at hP1
    have hK1 := va_K.moved hvm.symm hK1
    obtain ⟨hP, hD⟩ := va_join (wr := [(rq, .inl (ci, 119, .inl (RW xh xr xt xw)))]) (w1 := [(h0, .inr (11, [.int th, .int 1, .int 0, .int 1, .ref q_3, .ref sbq])), (q_3, .inl (ci, 119, .inl (RW vx_196 vx_197 vx_198 vx_199)))]) hP hD [1, 2] [0] rfl rfl (by decide) (by decide) hk1 hFc hP1 hD1
    generalize H1 = H at hP hS ⊢
    have hP : va_P (dC, dI) vwCl [(rq, .inl (ci, 119, .inl (RW xh xr xt xw))), (h0, .inr (11, [.int th, .int 1, .int 0, .int 1, .ref q_3, .ref sbq])), (q_3, .inl (ci, 119, .inl (RW vx_196 vx_197 vx_198 vx_199)))] H := hP
    have hD : va_D A [(rq, .inl (ci, 119, .inl (RW xh xr xt xw))), (h0, .inr (11, [.int th, .int 1, .int 0, .int 1, .ref q_3, .ref sbq])), (q_3, .inl (ci, 119, .inl (RW vx_196 vx_197 vx_198 vx_199)))] := hD
    refine W.widen (k := 1) (n := 119) (by omega) (by omega) ?_
    obtain rfl : r_200 = 0 := hw
    refine lv_if_eq (tgt := 81) hx hb dX6_homeBy_74 (by decide) (fun _ => ?_) (fun c_201 => absurd (by decide) c_201)
    refine lv_iinc (v := 3) (lv' := [(6, .int 3), (5, .int 5), (4, .int (-1)), (3, .ref rq), (0, .ref h0), (1, .int 0), (2, .int p1)]) hx hb dX6_homeBy_81 hl (k := 0) rfl (by decide) (by decide) rfl (fun ls hl => ?_)
    refine lv_goto (tgt := 38) hx hb dX6_homeBy_84 (by decide) ?_
    refine lv_iload hx hb dX6_homeBy_38 (lv_at hl 0 rfl) ?_
    refine lv_iload hx hb dX6_homeBy_40 (lv_at hl 1 rfl) ?_
    refine lv_icmp_gt (tgt := 87) hx hb dX6_homeBy_42 (by decide) (fun c_202 => absurd c_202 (by decide)) (fun _ => ?_)
    refine lv_iload hx hb dX6_homeBy_45 (lv_at hl 2 rfl) ?_
    refine lv_iconst (v := (-1)) hx hb dX6_homeBy_47 (by decide) ?_
    refine lv_icmp_ne (tgt := 87) hx hb dX6_homeBy_48 (by decide) (fun c_203 => absurd (by decide) c_203) (fun _ => ?_)
    refine lv_aload_n hx hb dX6_homeBy_51 rfl (lv_at hl 4 rfl) ?_
    refine lv_iload_n hx hb dX6_homeBy_52 rfl (lv_at hl 6 rfl) ?_
    refine lv_iload hx hb dX6_homeBy_53 (lv_at hl 1 rfl) ?_
    refine lv_iload hx hb dX6_homeBy_55 (lv_at hl 0 rfl) ?_
    refine lv_isub hx hb dX6_homeBy_57 ?_
    refine lv_topi (fun x_204 e_205 => ?_)
    obtain rfl : x_204 = 2 := e_205.trans (by decide)
    have hPc := hP.sub (ws' := []) [] rfl
    have hDc := hD.sub (ws' := []) [] (by decide) rfl
    have hKc := hK.sub (tys' := []) [] rfl
    have hFc := va_free (wc := []) hD hS hA [] rfl
    refine va_calli (va_runS (As := [.int 2]) (rest := [.int p1, .ref h0]) ⟨hx, hb, hml, hown, hts⟩ (c_power_2 l hl9 dC dI tE  _ ) (va_cwS 1 hts (goodIn_app (goodIn_r _ [24, 25, 7] (by rfl) (by decide +kernel)) gg_c_homeBy_c_power_2) rfl rfl rfl (by decide +kernel) ⟨Nat.le_of_ble_eq_true rfl, Nat.le_of_ble_eq_true rfl⟩) ⟨Pre0.blind, Pre0.give hPc hKc hDc hT hS hFc⟩ rfl rfl hl.1 rfl (lv_room (Nat.le_of_ble_eq_true rfl)) dX6_homeBy_58 ⟨Nat.le_of_ble_eq_true rfl, Nat.le_of_ble_eq_true rfl⟩) hS (fun q _ h => hFc q h) hFc (fun r_206 u t H1 locs ht hvm hw hB hz1 hk1 hS => ?_)
    obtain ⟨hP1, hK1, hD1⟩ := hB
    rw [ht] at hP1
    have hK1 := va_K.moved hvm.symm hK1
    obtain ⟨hP, hD⟩ := va_join (wr := [(rq, .inl (ci, 119, .inl (RW xh xr xt xw))), (h0, .inr (11, [.int th, .int 1, .int 0, .int 1, .ref q_3, .ref sbq])), (q_3, .inl (ci, 119, .inl (RW vx_196 vx_197 vx_198 vx_199)))]) (w1 := []) hP hD [] [0, 1, 2] rfl rfl (by decide) (by decide) hk1 hFc hP1 hD1
    generalize H1 = H at hP hS ⊢
    have hP : va_P (dC, dI) vwCl [(rq, .inl (ci, 119, .inl (RW xh xr xt xw))), (h0, .inr (11, [.int th, .int 1, .int 0, .int 1, .ref q_3, .ref sbq])), (q_3, .inl (ci, 119, .inl (RW vx_196 vx_197 vx_198 vx_199)))] H := hP
    have hD : va_D A [(rq, .inl (ci, 119, .inl (RW xh xr xt xw))), (h0, .inr (11, [.int th, .int 1, .int 0, .int 1, .ref q_3, .ref sbq])), (q_3, .inl (ci, 119, .inl (RW vx_196 vx_197 vx_198 vx_199)))] := hD
    refine W.widen (k := 1) (n := 119) (by omega) (by omega) ?_
    obtain rfl : r_206 = 100 := hw
    refine lv_idiv hx hb dX6_homeBy_61 (by decide) ?_
    refine lv_topi (fun x_207 e_208 => ?_)
    refine lv_bipush (v := 10) hx hb dX6_homeBy_62 (by decide) ?_
    refine lv_irem hx hb dX6_homeBy_64 (by decide) ?_
    refine lv_topi (fun x_209 e_210 => ?_)
    have hPc := hP.sub (ws' := [(h0, .inr (11, [.int th, .int 1, .int 0, .int 1, .ref q_3, .ref sbq])), (q_3, .inl (ci, 119, .inl (RW vx_196 vx_197 vx_198 vx_199)))]) [1, 2] rfl
    have hDc := hD.sub (ws' := [(h0, .inr (11, [.int th, .int 1, .int 0, .int 1, .ref q_3, .ref sbq])), (q_3, .inl (ci, 119, .inl (RW vx_196 vx_197 vx_198 vx_199)))]) [1, 2] (by decide) rfl
    have hKc := hK.sub (tys' := [(ci, .int)]) [0] rfl
    have hFc := va_free (wc := [(h0, .inr (11, [.int th, .int 1, .int 0, .int 1, .ref q_3, .ref sbq])), (q_3, .inl (ci, 119, .inl (RW vx_196 vx_197 vx_198 vx_199)))]) hD hS hA [1, 2] rfl
    refine va_calli (va_runV (As := [.int x_209]) (rest := []) ⟨hx, hb, hml, hown, hts⟩ (c_ringOne l hl9 dC dI tE h0 q_3 sbq th ci vx_196 vx_197 vx_198 vx_199 x_209 _ ) (cwV 1 hts (goodIn_app (goodIn_r _ [54, 55, 56, 7] (by rfl) (by decide +kernel)) gg_c_homeBy_c_ringOne) rfl rfl rfl (by decide +kernel) ⟨Nat.le_of_ble_eq_true rfl, Nat.le_of_ble_eq_true rfl⟩) ⟨Pre0.blind, va_recv hKc hPc (ci := 11) (q0 := 0) rfl rfl, Pre0.give hPc hKc hDc hT hS hFc⟩ rfl rfl hl.1 rfl (lv_room (Nat.le_of_ble_eq_true rfl)) dX6_homeBy_65 ⟨Nat.le_of_ble_eq_true rfl, Nat.le_of_ble_eq_true rfl⟩) hS (fun q _ h => hFc q h) hFc (fun r_211 u t H1 locs ht hvm hw hB hz1 hk1 hS => ?_)
    obtain ⟨vx_212, vx_213, vx_214, vx_215, hP1, hK1, hD1⟩ := hB
    rw [ht] at hP1
    have hK1 := va_K.moved hvm.symm hK1
    obtain ⟨hP, hD⟩ := va_join (wr := [(rq, .inl (ci, 119, .inl (RW xh xr xt xw)))]) (w1 := [(h0, .inr (11, [.int th, .int 1, .int 0, .int 1, .ref q_3, .ref sbq])), (q_3, .inl (ci, 119, .inl (RW vx_212 vx_213 vx_214 vx_215)))]) hP hD [1, 2] [0] rfl rfl (by decide) (by decide) hk1 hFc hP1 hD1
    generalize H1 = H at hP hS ⊢
    have hP : va_P (dC, dI) vwCl [(rq, .inl (ci, 119, .inl (RW xh xr xt xw))), (h0, .inr (11, [.int th, .int 1, .int 0, .int 1, .ref q_3, .ref sbq])), (q_3, .inl (ci, 119, .inl (RW vx_212 vx_213 vx_214 vx_215)))] H := hP
    have hD : va_D A [(rq, .inl (ci, 119, .inl (RW xh xr xt xw))), (h0, .inr (11, [.int th, .int 1, .int 0, .int 1, .ref q_3, .ref sbq])), (q_3, .inl (ci, 119, .inl (RW vx_212 vx_213 vx_214 vx_215)))] := hD
    refine W.widen (k := 1) (n := 119) (by omega) (by omega) ?_
    obtain rfl : r_211 = 0 := hw
    refine lv_pop hx hb dX6_homeBy_68 rfl ?_
    refine lv_aload_n hx hb dX6_homeBy_69 rfl (lv_at hl 4 rfl) ?_
    refine lv_iload_n hx hb dX6_homeBy_70 rfl (lv_at hl 5 rfl) ?_
    have hPc := hP.sub (ws' := [(h0, .inr (11, [.int th, .int 1, .int 0, .int 1, .ref q_3, .ref sbq])), (q_3, .inl (ci, 119, .inl (RW vx_212 vx_213 vx_214 vx_215)))]) [1, 2] rfl
    have hDc := hD.sub (ws' := [(h0, .inr (11, [.int th, .int 1, .int 0, .int 1, .ref q_3, .ref sbq])), (q_3, .inl (ci, 119, .inl (RW vx_212 vx_213 vx_214 vx_215)))]) [1, 2] (by decide) rfl
    have hKc := hK.sub (tys' := [(ci, .int)]) [0] rfl
    have hFc := va_free (wc := [(h0, .inr (11, [.int th, .int 1, .int 0, .int 1, .ref q_3, .ref sbq])), (q_3, .inl (ci, 119, .inl (RW vx_212 vx_213 vx_214 vx_215)))]) hD hS hA [1, 2] rfl
    refine va_calli (va_runV (As := [.int 0]) (rest := []) ⟨hx, hb, hml, hown, hts⟩ (c_isHome l hl9 dC dI tE h0 q_3 sbq th ci vx_212 vx_213 vx_214 vx_215 _ ) (cwV 1 hts (goodIn_app (goodIn_r _ [8, 9, 10, 7] (by rfl) (by decide +kernel)) gg_c_homeBy_c_isHome) rfl rfl rfl (by decide +kernel) ⟨Nat.le_of_ble_eq_true rfl, Nat.le_of_ble_eq_true rfl⟩) ⟨Pre0.blind, va_recv hKc hPc (ci := 11) (q0 := 0) rfl rfl, Pre0.give hPc hKc hDc hT hS hFc⟩ rfl rfl hl.1 rfl (lv_room (Nat.le_of_ble_eq_true rfl)) dX6_homeBy_71 ⟨Nat.le_of_ble_eq_true rfl, Nat.le_of_ble_eq_true rfl⟩) hS (fun q _ h => hFc q h) hFc (fun r_216 u t H1 locs ht hvm hw hB hz1 hk1 hS => ?_)
    obtain ⟨hP1, hK1, hD1⟩ := hB
    rw [ht] at hP1
    have hK1 := va_K.moved hvm.symm hK1
    obtain ⟨hP, hD⟩ := va_join (wr := [(rq, .inl (ci, 119, .inl (RW xh xr xt xw)))]) (w1 := [(h0, .inr (11, [.int th, .int 1, .int 0, .int 1, .ref q_3, .ref sbq])), (q_3, .inl (ci, 119, .inl (RW vx_212 vx_213 vx_214 vx_215)))]) hP hD [1, 2] [0] rfl rfl (by decide) (by decide) hk1 hFc hP1 hD1
    generalize H1 = H at hP hS ⊢
    have hP : va_P (dC, dI) vwCl [(rq, .inl (ci, 119, .inl (RW xh xr xt xw))), (h0, .inr (11, [.int th, .int 1, .int 0, .int 1, .ref q_3, .ref sbq])), (q_3, .inl (ci, 119, .inl (RW vx_212 vx_213 vx_214 vx_215)))] H := hP
    have hD : va_D A [(rq, .inl (ci, 119, .inl (RW xh xr xt xw))), (h0, .inr (11, [.int th, .int 1, .int 0, .int 1, .ref q_3, .ref sbq])), (q_3, .inl (ci, 119, .inl (RW vx_212 vx_213 vx_214 vx_215)))] := hD
    refine W.widen (k := 1) (n := 119) (by omega) (by omega) ?_
    obtain rfl : r_216 = 0 := hw
    refine lv_if_eq (tgt := 81) hx hb dX6_homeBy_74 (by decide) (fun _ => ?_) (fun c_217 => absurd (by decide) c_217)
    refine lv_iinc (v := 4) (lv' := [(6, .int 4), (5, .int 5), (4, .int (-1)), (3, .ref rq), (0, .ref h0), (1, .int 0), (2, .int p1)]) hx hb dX6_homeBy_81 hl (k := 0) rfl (by decide) (by decide) rfl (fun ls hl => ?_)
    refine lv_goto (tgt := 38) hx hb dX6_homeBy_84 (by decide) ?_
    refine lv_iload hx hb dX6_homeBy_38 (lv_at hl 0 rfl) ?_
    refine lv_iload hx hb dX6_homeBy_40 (lv_at hl 1 rfl) ?_
    refine lv_icmp_gt (tgt := 87) hx hb dX6_homeBy_42 (by decide) (fun c_218 => absurd c_218 (by decide)) (fun _ => ?_)
    refine lv_iload hx hb dX6_homeBy_45 (lv_at hl 2 rfl) ?_
    refine lv_iconst (v := (-1)) hx hb dX6_homeBy_47 (by decide) ?_
    refine lv_icmp_ne (tgt := 87) hx hb dX6_homeBy_48 (by decide) (fun c_219 => absurd (by decide) c_219) (fun _ => ?_)
    refine lv_aload_n hx hb dX6_homeBy_51 rfl (lv_at hl 4 rfl) ?_
    refine lv_iload_n hx hb dX6_homeBy_52 rfl (lv_at hl 6 rfl) ?_
    refine lv_iload hx hb dX6_homeBy_53 (lv_at hl 1 rfl) ?_
    refine lv_iload hx hb dX6_homeBy_55 (lv_at hl 0 rfl) ?_
    refine lv_isub hx hb dX6_homeBy_57 ?_
    refine lv_topi (fun x_220 e_221 => ?_)
    obtain rfl : x_220 = 1 := e_221.trans (by decide)
    have hPc := hP.sub (ws' := []) [] rfl
    have hDc := hD.sub (ws' := []) [] (by decide) rfl
    have hKc := hK.sub (tys' := []) [] rfl
    have hFc := va_free (wc := []) hD hS hA [] rfl
    refine va_calli (va_runS (As := [.int 1]) (rest := [.int p1, .ref h0]) ⟨hx, hb, hml, hown, hts⟩ (c_power_1 l hl9 dC dI tE  _ ) (va_cwS 1 hts (goodIn_app (goodIn_r _ [24, 25, 7] (by rfl) (by decide +kernel)) gg_c_homeBy_c_power_1) rfl rfl rfl (by decide +kernel) ⟨Nat.le_of_ble_eq_true rfl, Nat.le_of_ble_eq_true rfl⟩) ⟨Pre0.blind, Pre0.give hPc hKc hDc hT hS hFc⟩ rfl rfl hl.1 rfl (lv_room (Nat.le_of_ble_eq_true rfl)) dX6_homeBy_58 ⟨Nat.le_of_ble_eq_true rfl, Nat.le_of_ble_eq_true rfl⟩) hS (fun q _ h => hFc q h) hFc (fun r_222 u t H1 locs ht hvm hw hB hz1 hk1 hS => ?_)
    obtain ⟨hP1, hK1, hD1⟩ := hB
    rw [ht] at hP1
    have hK1 := va_K.moved hvm.symm hK1
    obtain ⟨hP, hD⟩ := va_join (wr := [(rq, .inl (ci, 119, .inl (RW xh xr xt xw))), (h0, .inr (11, [.int th, .int 1, .int 0, .int 1, .ref q_3, .ref sbq])), (q_3, .inl (ci, 119, .inl (RW vx_212 vx_213 vx_214 vx_215)))]) (w1 := []) hP hD [] [0, 1, 2] rfl rfl (by decide) (by decide) hk1 hFc hP1 hD1
    generalize H1 = H at hP hS ⊢
    have hP : va_P (dC, dI) vwCl [(rq, .inl (ci, 119, .inl (RW xh xr xt xw))), (h0, .inr (11, [.int th, .int 1, .int 0, .int 1, .ref q_3, .ref sbq])), (q_3, .inl (ci, 119, .inl (RW vx_212 vx_213 vx_214 vx_215)))] H := hP
    have hD : va_D A [(rq, .inl (ci, 119, .inl (RW xh xr xt xw))), (h0, .inr (11, [.int th, .int 1, .int 0, .int 1, .ref q_3, .ref sbq])), (q_3, .inl (ci, 119, .inl (RW vx_212 vx_213 vx_214 vx_215)))] := hD
    refine W.widen (k := 1) (n := 119) (by omega) (by omega) ?_
    obtain rfl : r_222 = 10 := hw
    refine lv_idiv hx hb dX6_homeBy_61 (by decide) ?_
    refine lv_topi (fun x_223 e_224 => ?_)
    refine lv_bipush (v := 10) hx hb dX6_homeBy_62 (by decide) ?_
    refine lv_irem hx hb dX6_homeBy_64 (by decide) ?_
    refine lv_topi (fun x_225 e_226 => ?_)
    have hPc := hP.sub (ws' := [(h0, .inr (11, [.int th, .int 1, .int 0, .int 1, .ref q_3, .ref sbq])), (q_3, .inl (ci, 119, .inl (RW vx_212 vx_213 vx_214 vx_215)))]) [1, 2] rfl
    have hDc := hD.sub (ws' := [(h0, .inr (11, [.int th, .int 1, .int 0, .int 1, .ref q_3, .ref sbq])), (q_3, .inl (ci, 119, .inl (RW vx_212 vx_213 vx_214 vx_215)))]) [1, 2] (by decide) rfl
    have hKc := hK.sub (tys' := [(ci, .int)]) [0] rfl
    have hFc := va_free (wc := [(h0, .inr (11, [.int th, .int 1, .int 0, .int 1, .ref q_3, .ref sbq])), (q_3, .inl (ci, 119, .inl (RW vx_212 vx_213 vx_214 vx_215)))]) hD hS hA [1, 2] rfl
    refine va_calli (va_runV (As := [.int x_225]) (rest := []) ⟨hx, hb, hml, hown, hts⟩ (c_ringOne l hl9 dC dI tE h0 q_3 sbq th ci vx_212 vx_213 vx_214 vx_215 x_225 _ ) (cwV 1 hts (goodIn_app (goodIn_r _ [54, 55, 56, 7] (by rfl) (by decide +kernel)) gg_c_homeBy_c_ringOne) rfl rfl rfl (by decide +kernel) ⟨Nat.le_of_ble_eq_true rfl, Nat.le_of_ble_eq_true rfl⟩) ⟨Pre0.blind, va_recv hKc hPc (ci := 11) (q0 := 0) rfl rfl, Pre0.give hPc hKc hDc hT hS hFc⟩ rfl rfl hl.1 rfl (lv_room (Nat.le_of_ble_eq_true rfl)) dX6_homeBy_65 ⟨Nat.le_of_ble_eq_true rfl, Nat.le_of_ble_eq_true rfl⟩) hS (fun q _ h => hFc q h) hFc (fun r_227 u t H1 locs ht hvm hw hB hz1 hk1 hS => ?_)
    obtain ⟨vx_228, vx_229, vx_230, vx_231, hP1, hK1, hD1⟩ := hB
    rw [ht] at hP1
    have hK1 := va_K.moved hvm.symm hK1
    obtain ⟨hP, hD⟩ := va_join (wr := [(rq, .inl (ci, 119, .inl (RW xh xr xt xw)))]) (w1 := [(h0, .inr (11, [.int th, .int 1, .int 0, .int 1, .ref q_3, .ref sbq])), (q_3, .inl (ci, 119, .inl (RW vx_228 vx_229 vx_230 vx_231)))]) hP hD [1, 2] [0] rfl rfl (by decide) (by decide) hk1 hFc hP1 hD1
    generalize H1 = H at hP hS ⊢
    have hP : va_P (dC, dI) vwCl [(rq, .inl (ci, 119, .inl (RW xh xr xt xw))), (h0, .inr (11, [.int th, .int 1, .int 0, .int 1, .ref q_3, .ref sbq])), (q_3, .inl (ci, 119, .inl (RW vx_228 vx_229 vx_230 vx_231)))] H := hP
    have hD : va_D A [(rq, .inl (ci, 119, .inl (RW xh xr xt xw))), (h0, .inr (11, [.int th, .int 1, .int 0, .int 1, .ref q_3, .ref sbq])), (q_3, .inl (ci, 119, .inl (RW vx_228 vx_229 vx_230 vx_231)))] := hD
    refine W.widen (k := 1) (n := 119) (by omega) (by omega) ?_
    obtain rfl : r_227 = 0 := hw
    refine lv_pop hx hb dX6_homeBy_68 rfl ?_
    refine lv_aload_n hx hb dX6_homeBy_69 rfl (lv_at hl 4 rfl) ?_
    refine lv_iload_n hx hb dX6_homeBy_70 rfl (lv_at hl 5 rfl) ?_
    have hPc := hP.sub (ws' := [(h0, .inr (11, [.int th, .int 1, .int 0, .int 1, .ref q_3, .ref sbq])), (q_3, .inl (ci, 119, .inl (RW vx_228 vx_229 vx_230 vx_231)))]) [1, 2] rfl
    have hDc := hD.sub (ws' := [(h0, .inr (11, [.int th, .int 1, .int 0, .int 1, .ref q_3, .ref sbq])), (q_3, .inl (ci, 119, .inl (RW vx_228 vx_229 vx_230 vx_231)))]) [1, 2] (by decide) rfl
    have hKc := hK.sub (tys' := [(ci, .int)]) [0] rfl
    have hFc := va_free (wc := [(h0, .inr (11, [.int th, .int 1, .int 0, .int 1, .ref q_3, .ref sbq])), (q_3, .inl (ci, 119, .inl (RW vx_228 vx_229 vx_230 vx_231)))]) hD hS hA [1, 2] rfl
    refine va_calli (va_runV (As := [.int 0]) (rest := []) ⟨hx, hb, hml, hown, hts⟩ (c_isHome l hl9 dC dI tE h0 q_3 sbq th ci vx_228 vx_229 vx_230 vx_231 _ ) (cwV 1 hts (goodIn_app (goodIn_r _ [8, 9, 10, 7] (by rfl) (by decide +kernel)) gg_c_homeBy_c_isHome) rfl rfl rfl (by decide +kernel) ⟨Nat.le_of_ble_eq_true rfl, Nat.le_of_ble_eq_true rfl⟩) ⟨Pre0.blind, va_recv hKc hPc (ci := 11) (q0 := 0) rfl rfl, Pre0.give hPc hKc hDc hT hS hFc⟩ rfl rfl hl.1 rfl (lv_room (Nat.le_of_ble_eq_true rfl)) dX6_homeBy_71 ⟨Nat.le_of_ble_eq_true rfl, Nat.le_of_ble_eq_true rfl⟩) hS (fun q _ h => hFc q h) hFc (fun r_232 u t H1 locs ht hvm hw hB hz1 hk1 hS => ?_)
    obtain ⟨hP1, hK1, hD1⟩ := hB
    rw [ht] at hP1
    have hK1 := va_K.moved hvm.symm hK1
    obtain ⟨hP, hD⟩ := va_join (wr := [(rq, .inl (ci, 119, .inl (RW xh xr xt xw)))]) (w1 := [(h0, .inr (11, [.int th, .int 1, .int 0, .int 1, .ref q_3, .ref sbq])), (q_3, .inl (ci, 119, .inl (RW vx_228 vx_229 vx_230 vx_231)))]) hP hD [1, 2] [0] rfl rfl (by decide) (by decide) hk1 hFc hP1 hD1
    generalize H1 = H at hP hS ⊢
    have hP : va_P (dC, dI) vwCl [(rq, .inl (ci, 119, .inl (RW xh xr xt xw))), (h0, .inr (11, [.int th, .int 1, .int 0, .int 1, .ref q_3, .ref sbq])), (q_3, .inl (ci, 119, .inl (RW vx_228 vx_229 vx_230 vx_231)))] H := hP
    have hD : va_D A [(rq, .inl (ci, 119, .inl (RW xh xr xt xw))), (h0, .inr (11, [.int th, .int 1, .int 0, .int 1, .ref q_3, .ref sbq])), (q_3, .inl (ci, 119, .inl (RW vx_228 vx_229 vx_230 vx_231)))] := hD
    refine W.widen (k := 1) (n := 119) (by omega) (by omega) ?_
    obtain rfl : r_232 = 0 := hw
    refine lv_if_eq (tgt := 81) hx hb dX6_homeBy_74 (by decide) (fun _ => ?_) (fun c_233 => absurd (by decide) c_233)
    refine lv_iinc (v := 5) (lv' := [(6, .int 5), (5, .int 5), (4, .int (-1)), (3, .ref rq), (0, .ref h0), (1, .int 0), (2, .int p1)]) hx hb dX6_homeBy_81 hl (k := 0) rfl (by decide) (by decide) rfl (fun ls hl => ?_)
    refine lv_goto (tgt := 38) hx hb dX6_homeBy_84 (by decide) ?_
    refine lv_iload hx hb dX6_homeBy_38 (lv_at hl 0 rfl) ?_
    refine lv_iload hx hb dX6_homeBy_40 (lv_at hl 1 rfl) ?_
    refine lv_icmp_gt (tgt := 87) hx hb dX6_homeBy_42 (by decide) (fun c_234 => absurd c_234 (by decide)) (fun _ => ?_)
    refine lv_iload hx hb dX6_homeBy_45 (lv_at hl 2 rfl) ?_
    refine lv_iconst (v := (-1)) hx hb dX6_homeBy_47 (by decide) ?_
    refine lv_icmp_ne (tgt := 87) hx hb dX6_homeBy_48 (by decide) (fun c_235 => absurd (by decide) c_235) (fun _ => ?_)
    refine lv_aload_n hx hb dX6_homeBy_51 rfl (lv_at hl 4 rfl) ?_
    refine lv_iload_n hx hb dX6_homeBy_52 rfl (lv_at hl 6 rfl) ?_
    refine lv_iload hx hb dX6_homeBy_53 (lv_at hl 1 rfl) ?_
    refine lv_iload hx hb dX6_homeBy_55 (lv_at hl 0 rfl) ?_
    refine lv_isub hx hb dX6_homeBy_57 ?_
    refine lv_topi (fun x_236 e_237 => ?_)
    obtain rfl : x_236 = 0 := e_237.trans (by decide)
    have hPc := hP.sub (ws' := []) [] rfl
    have hDc := hD.sub (ws' := []) [] (by decide) rfl
    have hKc := hK.sub (tys' := []) [] rfl
    have hFc := va_free (wc := []) hD hS hA [] rfl
    refine va_calli (va_runS (As := [.int 0]) (rest := [.int p1, .ref h0]) ⟨hx, hb, hml, hown, hts⟩ (c_power_0 l hl9 dC dI tE  _ ) (va_cwS 1 hts (goodIn_app (goodIn_r _ [24, 25, 7] (by rfl) (by decide +kernel)) gg_c_homeBy_c_power_0) rfl rfl rfl (by decide +kernel) ⟨Nat.le_of_ble_eq_true rfl, Nat.le_of_ble_eq_true rfl⟩) ⟨Pre0.blind, Pre0.give hPc hKc hDc hT hS hFc⟩ rfl rfl hl.1 rfl (lv_room (Nat.le_of_ble_eq_true rfl)) dX6_homeBy_58 ⟨Nat.le_of_ble_eq_true rfl, Nat.le_of_ble_eq_true rfl⟩) hS (fun q _ h => hFc q h) hFc (fun r_238 u t H1 locs ht hvm hw hB hz1 hk1 hS => ?_)
    obtain ⟨hP1, hK1, hD1⟩ := hB
    rw [ht] at hP1
    have hK1 := va_K.moved hvm.symm hK1
    obtain ⟨hP, hD⟩ := va_join (wr := [(rq, .inl (ci, 119, .inl (RW xh xr xt xw))), (h0, .inr (11, [.int th, .int 1, .int 0, .int 1, .ref q_3, .ref sbq])), (q_3, .inl (ci, 119, .inl (RW vx_228 vx_229 vx_230 vx_231)))]) (w1 := []) hP hD [] [0, 1, 2] rfl rfl (by decide) (by decide) hk1 hFc hP1 hD1
    generalize H1 = H at hP hS ⊢
    have hP : va_P (dC, dI) vwCl [(rq, .inl (ci, 119, .inl (RW xh xr xt xw))), (h0, .inr (11, [.int th, .int 1, .int 0, .int 1, .ref q_3, .ref sbq])), (q_3, .inl (ci, 119, .inl (RW vx_228 vx_229 vx_230 vx_231)))] H := hP
    have hD : va_D A [(rq, .inl (ci, 119, .inl (RW xh xr xt xw))), (h0, .inr (11, [.int th, .int 1, .int 0, .int 1, .ref q_3, .ref sbq])), (q_3, .inl (ci, 119, .inl (RW vx_228 vx_229 vx_230 vx_231)))] := hD
    refine W.widen (k := 1) (n := 119) (by omega) (by omega) ?_
    obtain rfl : r_238 = 1 := hw
    refine lv_idiv hx hb dX6_homeBy_61 (by decide) ?_
    refine lv_topi (fun x_239 e_240 => ?_)
    refine lv_bipush (v := 10) hx hb dX6_homeBy_62 (by decide) ?_
    refine lv_irem hx hb dX6_homeBy_64 (by decide) ?_
    refine lv_topi (fun x_241 e_242 => ?_)
    have hPc := hP.sub (ws' := [(h0, .inr (11, [.int th, .int 1, .int 0, .int 1, .ref q_3, .ref sbq])), (q_3, .inl (ci, 119, .inl (RW vx_228 vx_229 vx_230 vx_231)))]) [1, 2] rfl
    have hDc := hD.sub (ws' := [(h0, .inr (11, [.int th, .int 1, .int 0, .int 1, .ref q_3, .ref sbq])), (q_3, .inl (ci, 119, .inl (RW vx_228 vx_229 vx_230 vx_231)))]) [1, 2] (by decide) rfl
    have hKc := hK.sub (tys' := [(ci, .int)]) [0] rfl
    have hFc := va_free (wc := [(h0, .inr (11, [.int th, .int 1, .int 0, .int 1, .ref q_3, .ref sbq])), (q_3, .inl (ci, 119, .inl (RW vx_228 vx_229 vx_230 vx_231)))]) hD hS hA [1, 2] rfl
    refine va_calli (va_runV (As := [.int x_241]) (rest := []) ⟨hx, hb, hml, hown, hts⟩ (c_ringOne l hl9 dC dI tE h0 q_3 sbq th ci vx_228 vx_229 vx_230 vx_231 x_241 _ ) (cwV 1 hts (goodIn_app (goodIn_r _ [54, 55, 56, 7] (by rfl) (by decide +kernel)) gg_c_homeBy_c_ringOne) rfl rfl rfl (by decide +kernel) ⟨Nat.le_of_ble_eq_true rfl, Nat.le_of_ble_eq_true rfl⟩) ⟨Pre0.blind, va_recv hKc hPc (ci := 11) (q0 := 0) rfl rfl, Pre0.give hPc hKc hDc hT hS hFc⟩ rfl rfl hl.1 rfl (lv_room (Nat.le_of_ble_eq_true rfl)) dX6_homeBy_65 ⟨Nat.le_of_ble_eq_true rfl, Nat.le_of_ble_eq_true rfl⟩) hS (fun q _ h => hFc q h) hFc (fun r_243 u t H1 locs ht hvm hw hB hz1 hk1 hS => ?_)
    obtain ⟨vx_244, vx_245, vx_246, vx_247, hP1, hK1, hD1⟩ := hB
    rw [ht] at hP1
    have hK1 := va_K.moved hvm.symm hK1
    obtain ⟨hP, hD⟩ := va_join (wr := [(rq, .inl (ci, 119, .inl (RW xh xr xt xw)))]) (w1 := [(h0, .inr (11, [.int th, .int 1, .int 0, .int 1, .ref q_3, .ref sbq])), (q_3, .inl (ci, 119, .inl (RW vx_244 vx_245 vx_246 vx_247)))]) hP hD [1, 2] [0] rfl rfl (by decide) (by decide) hk1 hFc hP1 hD1
    generalize H1 = H at hP hS ⊢
    have hP : va_P (dC, dI) vwCl [(rq, .inl (ci, 119, .inl (RW xh xr xt xw))), (h0, .inr (11, [.int th, .int 1, .int 0, .int 1, .ref q_3, .ref sbq])), (q_3, .inl (ci, 119, .inl (RW vx_244 vx_245 vx_246 vx_247)))] H := hP
    have hD : va_D A [(rq, .inl (ci, 119, .inl (RW xh xr xt xw))), (h0, .inr (11, [.int th, .int 1, .int 0, .int 1, .ref q_3, .ref sbq])), (q_3, .inl (ci, 119, .inl (RW vx_244 vx_245 vx_246 vx_247)))] := hD
    refine W.widen (k := 1) (n := 119) (by omega) (by omega) ?_
    obtain rfl : r_243 = 0 := hw
    refine lv_pop hx hb dX6_homeBy_68 rfl ?_
    refine lv_aload_n hx hb dX6_homeBy_69 rfl (lv_at hl 4 rfl) ?_
    refine lv_iload_n hx hb dX6_homeBy_70 rfl (lv_at hl 5 rfl) ?_
    have hPc := hP.sub (ws' := [(h0, .inr (11, [.int th, .int 1, .int 0, .int 1, .ref q_3, .ref sbq])), (q_3, .inl (ci, 119, .inl (RW vx_244 vx_245 vx_246 vx_247)))]) [1, 2] rfl
    have hDc := hD.sub (ws' := [(h0, .inr (11, [.int th, .int 1, .int 0, .int 1, .ref q_3, .ref sbq])), (q_3, .inl (ci, 119, .inl (RW vx_244 vx_245 vx_246 vx_247)))]) [1, 2] (by decide) rfl
    have hKc := hK.sub (tys' := [(ci, .int)]) [0] rfl
    have hFc := va_free (wc := [(h0, .inr (11, [.int th, .int 1, .int 0, .int 1, .ref q_3, .ref sbq])), (q_3, .inl (ci, 119, .inl (RW vx_244 vx_245 vx_246 vx_247)))]) hD hS hA [1, 2] rfl
    refine va_calli (va_runV (As := [.int 0]) (rest := []) ⟨hx, hb, hml, hown, hts⟩ (c_isHome l hl9 dC dI tE h0 q_3 sbq th ci vx_244 vx_245 vx_246 vx_247 _ ) (cwV 1 hts (goodIn_app (goodIn_r _ [8, 9, 10, 7] (by rfl) (by decide +kernel)) gg_c_homeBy_c_isHome) rfl rfl rfl (by decide +kernel) ⟨Nat.le_of_ble_eq_true rfl, Nat.le_of_ble_eq_true rfl⟩) ⟨Pre0.blind, va_recv hKc hPc (ci := 11) (q0 := 0) rfl rfl, Pre0.give hPc hKc hDc hT hS hFc⟩ rfl rfl hl.1 rfl (lv_room (Nat.le_of_ble_eq_true rfl)) dX6_homeBy_71 ⟨Nat.le_of_ble_eq_true rfl, Nat.le_of_ble_eq_true rfl⟩) hS (fun q _ h => hFc q h) hFc (fun r_248 u t H1 locs ht hvm hw hB hz1 hk1 hS => ?_)
    obtain ⟨hP1, hK1, hD1⟩ := hB
    rw [ht] at hP1
    have hK1 := va_K.moved hvm.symm hK1
    obtain ⟨hP, hD⟩ := va_join (wr := [(rq, .inl (ci, 119, .inl (RW xh xr xt xw)))]) (w1 := [(h0, .inr (11, [.int th, .int 1, .int 0, .int 1, .ref q_3, .ref sbq])), (q_3, .inl (ci, 119, .inl (RW vx_244 vx_245 vx_246 vx_247)))]) hP hD [1, 2] [0] rfl rfl (by decide) (by decide) hk1 hFc hP1 hD1
    generalize H1 = H at hP hS ⊢
    have hP : va_P (dC, dI) vwCl [(rq, .inl (ci, 119, .inl (RW xh xr xt xw))), (h0, .inr (11, [.int th, .int 1, .int 0, .int 1, .ref q_3, .ref sbq])), (q_3, .inl (ci, 119, .inl (RW vx_244 vx_245 vx_246 vx_247)))] H := hP
    have hD : va_D A [(rq, .inl (ci, 119, .inl (RW xh xr xt xw))), (h0, .inr (11, [.int th, .int 1, .int 0, .int 1, .ref q_3, .ref sbq])), (q_3, .inl (ci, 119, .inl (RW vx_244 vx_245 vx_246 vx_247)))] := hD
    refine W.widen (k := 1) (n := 119) (by omega) (by omega) ?_
    obtain rfl : r_248 = 0 := hw
    refine lv_if_eq (tgt := 81) hx hb dX6_homeBy_74 (by decide) (fun _ => ?_) (fun c_249 => absurd (by decide) c_249)
    refine lv_iinc (v := 6) (lv' := [(6, .int 6), (5, .int 5), (4, .int (-1)), (3, .ref rq), (0, .ref h0), (1, .int 0), (2, .int p1)]) hx hb dX6_homeBy_81 hl (k := 0) rfl (by decide) (by decide) rfl (fun ls hl => ?_)
    refine lv_goto (tgt := 38) hx hb dX6_homeBy_84 (by decide) ?_
    refine lv_iload hx hb dX6_homeBy_38 (lv_at hl 0 rfl) ?_
    refine lv_iload hx hb dX6_homeBy_40 (lv_at hl 1 rfl) ?_
    refine lv_icmp_gt (tgt := 87) hx hb dX6_homeBy_42 (by decide) (fun _ => ?_) (fun c_250 => absurd (by decide) c_250)
    refine lv_aload_n hx hb dX6_homeBy_87 rfl (lv_at hl 4 rfl) ?_
    refine lv_aload_n hx hb dX6_homeBy_88 rfl (lv_at hl 3 rfl) ?_
    refine va_put (D := (dC, dI)) (ci := 11) (v := .ref rq) (ty := .array .int) (C := RX6) (T := TX6) (N := 6) hx hb hts u_c_homeBy_X6 tyX6 tyX6_ok nmX6 hown hK hP hD hS 1 rfl rfl 4 (by decide) (hts (.fieldLink RX6 9 "HotelOfBellsModel" "row" "[I") (List.mem_of_getElem? (i := 3) rfl)) (fun _ h9 => h9) rfl (by decide +kernel) rfl rfl (Nat.le_of_ble_eq_true rfl) dX6_homeBy_89 (fun H locs hP hD hS => ?_)
    have hP : va_P (dC, dI) vwCl [(rq, .inl (ci, 119, .inl (RW xh xr xt xw))), (h0, .inr (11, [.int th, .int 1, .int 0, .int 1, .ref rq, .ref sbq])), (q_3, .inl (ci, 119, .inl (RW vx_244 vx_245 vx_246 vx_247)))] H := hP
    have hD : va_D A [(rq, .inl (ci, 119, .inl (RW xh xr xt xw))), (h0, .inr (11, [.int th, .int 1, .int 0, .int 1, .ref rq, .ref sbq])), (q_3, .inl (ci, 119, .inl (RW vx_244 vx_245 vx_246 vx_247)))] := hD
    refine lv_iload hx hb dX6_homeBy_92 (lv_at hl 2 rfl) ?_
    have hP9 := hP.sub (ws' := [(h0, .inr (11, [.int th, .int 1, .int 0, .int 1, .ref rq, .ref sbq])), (rq, .inl (ci, 119, .inl (RW xh xr xt xw))), (q_3, .inl (ci, 119, .inl (RW vx_244 vx_245 vx_246 vx_247)))]) [1, 0, 2] rfl
    have hD9 := hD.sub (ws' := [(h0, .inr (11, [.int th, .int 1, .int 0, .int 1, .ref rq, .ref sbq])), (rq, .inl (ci, 119, .inl (RW xh xr xt xw))), (q_3, .inl (ci, 119, .inl (RW vx_244 vx_245 vx_246 vx_247)))]) [1, 0, 2] (by decide) rfl
    have hK9 := hK.sub (tys' := [(ci, .int)]) [0] rfl
    exact W.iret (v := (-1)) hx hb hr (fun t ht hW => ⟨⟨(-1), (), rfl, rfl, q_3, (RW vx_244 vx_245 vx_246 vx_247), by rw [ht]; exact hP9, va_K.moved hW.alike hK9, hD9⟩, hS.F ht⟩) hS.2.2 dX6_homeBy_94
  · obtain rfl : r_4 = 6 := hw.trans hd0
    refine lv_istore (lv' := [(5, .int 6), (4, .int (-1)), (3, .ref rq), (0, .ref h0), (1, .int 0), (2, .int p1)]) hx hb dX6_homeBy_33 hl (by decide) rfl (fun ls hl => ?_)
    refine lv_iconst (v := 1) hx hb dX6_homeBy_35 (by decide) ?_
    refine lv_istore (lv' := [(6, .int 1), (5, .int 6), (4, .int (-1)), (3, .ref rq), (0, .ref h0), (1, .int 0), (2, .int p1)]) hx hb dX6_homeBy_36 hl (by decide) rfl (fun ls hl => ?_)
    refine lv_iload hx hb dX6_homeBy_38 (lv_at hl 0 rfl) ?_
    refine lv_iload hx hb dX6_homeBy_40 (lv_at hl 1 rfl) ?_
    refine lv_icmp_gt (tgt := 87) hx hb dX6_homeBy_42 (by decide) (fun c_251 => absurd c_251 (by decide)) (fun _ => ?_)
    refine lv_iload hx hb dX6_homeBy_45 (lv_at hl 2 rfl) ?_
    refine lv_iconst (v := (-1)) hx hb dX6_homeBy_47 (by decide) ?_
    refine lv_icmp_ne (tgt := 87) hx hb dX6_homeBy_48 (by decide) (fun c_252 => absurd (by decide) c_252) (fun _ => ?_)
    refine lv_aload_n hx hb dX6_homeBy_51 rfl (lv_at hl 4 rfl) ?_
    refine lv_iload_n hx hb dX6_homeBy_52 rfl (lv_at hl 6 rfl) ?_
    refine lv_iload hx hb dX6_homeBy_53 (lv_at hl 1 rfl) ?_
    refine lv_iload hx hb dX6_homeBy_55 (lv_at hl 0 rfl) ?_
    refine lv_isub hx hb dX6_homeBy_57 ?_
    refine lv_topi (fun x_253 e_254 => ?_)
    obtain rfl : x_253 = 5 := e_254.trans (by decide)
    have hPc := hP.sub (ws' := []) [] rfl
    have hDc := hD.sub (ws' := []) [] (by decide) rfl
    have hKc := hK.sub (tys' := []) [] rfl
    have hFc := va_free (wc := []) hD hS hA [] rfl
    refine va_calli (va_runS (As := [.int 5]) (rest := [.int p1, .ref h0]) ⟨hx, hb, hml, hown, hts⟩ (c_power_5 l hl9 dC dI tE  _ ) (va_cwS 1 hts (goodIn_app (goodIn_r _ [24, 25, 7] (by rfl) (by decide +kernel)) gg_c_homeBy_c_power_5) rfl rfl rfl (by decide +kernel) ⟨Nat.le_of_ble_eq_true rfl, Nat.le_of_ble_eq_true rfl⟩) ⟨Pre0.blind, Pre0.give hPc hKc hDc hT hS hFc⟩ rfl rfl hl.1 rfl (lv_room (Nat.le_of_ble_eq_true rfl)) dX6_homeBy_58 ⟨Nat.le_of_ble_eq_true rfl, Nat.le_of_ble_eq_true rfl⟩) hS (fun q _ h => hFc q h) hFc (fun r_255 u t H1 locs ht hvm hw hB hz1 hk1 hS => ?_)
    obtain ⟨hP1, hK1, hD1⟩ := hB
    rw [ht] at hP1
    have hK1 := va_K.moved hvm.symm hK1
    obtain ⟨hP, hD⟩ := va_join (wr := [(h0, .inr (11, [.int th, .int 1, .int 0, .int 1, .ref q_3, .ref sbq])), (rq, .inl (ci, 119, .inl (RW xh xr xt xw))), (q_3, .inl (ci, 119, .inl (RW xh xr xt xw)))]) (w1 := []) hP hD [] [0, 1, 2] rfl rfl (by decide) (by decide) hk1 hFc hP1 hD1
    generalize H1 = H at hP hS ⊢
    have hP : va_P (dC, dI) vwCl [(h0, .inr (11, [.int th, .int 1, .int 0, .int 1, .ref q_3, .ref sbq])), (rq, .inl (ci, 119, .inl (RW xh xr xt xw))), (q_3, .inl (ci, 119, .inl (RW xh xr xt xw)))] H := hP
    have hD : va_D A [(h0, .inr (11, [.int th, .int 1, .int 0, .int 1, .ref q_3, .ref sbq])), (rq, .inl (ci, 119, .inl (RW xh xr xt xw))), (q_3, .inl (ci, 119, .inl (RW xh xr xt xw)))] := hD
    refine W.widen (k := 1) (n := 119) (by omega) (by omega) ?_
    obtain rfl : r_255 = 100000 := hw
    refine lv_idiv hx hb dX6_homeBy_61 (by decide) ?_
    refine lv_topi (fun x_256 e_257 => ?_)
    refine lv_bipush (v := 10) hx hb dX6_homeBy_62 (by decide) ?_
    refine lv_irem hx hb dX6_homeBy_64 (by decide) ?_
    refine lv_topi (fun x_258 e_259 => ?_)
    have hPc := hP.sub (ws' := [(h0, .inr (11, [.int th, .int 1, .int 0, .int 1, .ref q_3, .ref sbq])), (q_3, .inl (ci, 119, .inl (RW xh xr xt xw)))]) [0, 2] rfl
    have hDc := hD.sub (ws' := [(h0, .inr (11, [.int th, .int 1, .int 0, .int 1, .ref q_3, .ref sbq])), (q_3, .inl (ci, 119, .inl (RW xh xr xt xw)))]) [0, 2] (by decide) rfl
    have hKc := hK.sub (tys' := [(ci, .int)]) [0] rfl
    have hFc := va_free (wc := [(h0, .inr (11, [.int th, .int 1, .int 0, .int 1, .ref q_3, .ref sbq])), (q_3, .inl (ci, 119, .inl (RW xh xr xt xw)))]) hD hS hA [0, 2] rfl
    refine va_calli (va_runV (As := [.int x_258]) (rest := []) ⟨hx, hb, hml, hown, hts⟩ (c_ringOne l hl9 dC dI tE h0 q_3 sbq th ci xh xr xt xw x_258 _ ) (cwV 1 hts (goodIn_app (goodIn_r _ [54, 55, 56, 7] (by rfl) (by decide +kernel)) gg_c_homeBy_c_ringOne) rfl rfl rfl (by decide +kernel) ⟨Nat.le_of_ble_eq_true rfl, Nat.le_of_ble_eq_true rfl⟩) ⟨Pre0.blind, va_recv hKc hPc (ci := 11) (q0 := 0) rfl rfl, Pre0.give hPc hKc hDc hT hS hFc⟩ rfl rfl hl.1 rfl (lv_room (Nat.le_of_ble_eq_true rfl)) dX6_homeBy_65 ⟨Nat.le_of_ble_eq_true rfl, Nat.le_of_ble_eq_true rfl⟩) hS (fun q _ h => hFc q h) hFc (fun r_260 u t H1 locs ht hvm hw hB hz1 hk1 hS => ?_)
    obtain ⟨vx_261, vx_262, vx_263, vx_264, hP1, hK1, hD1⟩ := hB
    rw [ht] at hP1
    have hK1 := va_K.moved hvm.symm hK1
    obtain ⟨hP, hD⟩ := va_join (wr := [(rq, .inl (ci, 119, .inl (RW xh xr xt xw)))]) (w1 := [(h0, .inr (11, [.int th, .int 1, .int 0, .int 1, .ref q_3, .ref sbq])), (q_3, .inl (ci, 119, .inl (RW vx_261 vx_262 vx_263 vx_264)))]) hP hD [0, 2] [1] rfl rfl (by decide) (by decide) hk1 hFc hP1 hD1
    generalize H1 = H at hP hS ⊢
    have hP : va_P (dC, dI) vwCl [(rq, .inl (ci, 119, .inl (RW xh xr xt xw))), (h0, .inr (11, [.int th, .int 1, .int 0, .int 1, .ref q_3, .ref sbq])), (q_3, .inl (ci, 119, .inl (RW vx_261 vx_262 vx_263 vx_264)))] H := hP
    have hD : va_D A [(rq, .inl (ci, 119, .inl (RW xh xr xt xw))), (h0, .inr (11, [.int th, .int 1, .int 0, .int 1, .ref q_3, .ref sbq])), (q_3, .inl (ci, 119, .inl (RW vx_261 vx_262 vx_263 vx_264)))] := hD
    refine W.widen (k := 1) (n := 119) (by omega) (by omega) ?_
    obtain rfl : r_260 = 0 := hw
    refine lv_pop hx hb dX6_homeBy_68 rfl ?_
    refine lv_aload_n hx hb dX6_homeBy_69 rfl (lv_at hl 4 rfl) ?_
    refine lv_iload_n hx hb dX6_homeBy_70 rfl (lv_at hl 5 rfl) ?_
    have hPc := hP.sub (ws' := [(h0, .inr (11, [.int th, .int 1, .int 0, .int 1, .ref q_3, .ref sbq])), (q_3, .inl (ci, 119, .inl (RW vx_261 vx_262 vx_263 vx_264)))]) [1, 2] rfl
    have hDc := hD.sub (ws' := [(h0, .inr (11, [.int th, .int 1, .int 0, .int 1, .ref q_3, .ref sbq])), (q_3, .inl (ci, 119, .inl (RW vx_261 vx_262 vx_263 vx_264)))]) [1, 2] (by decide) rfl
    have hKc := hK.sub (tys' := [(ci, .int)]) [0] rfl
    have hFc := va_free (wc := [(h0, .inr (11, [.int th, .int 1, .int 0, .int 1, .ref q_3, .ref sbq])), (q_3, .inl (ci, 119, .inl (RW vx_261 vx_262 vx_263 vx_264)))]) hD hS hA [1, 2] rfl
    refine va_calli (va_runV (As := [.int 0]) (rest := []) ⟨hx, hb, hml, hown, hts⟩ (c_isHome l hl9 dC dI tE h0 q_3 sbq th ci vx_261 vx_262 vx_263 vx_264 _ ) (cwV 1 hts (goodIn_app (goodIn_r _ [8, 9, 10, 7] (by rfl) (by decide +kernel)) gg_c_homeBy_c_isHome) rfl rfl rfl (by decide +kernel) ⟨Nat.le_of_ble_eq_true rfl, Nat.le_of_ble_eq_true rfl⟩) ⟨Pre0.blind, va_recv hKc hPc (ci := 11) (q0 := 0) rfl rfl, Pre0.give hPc hKc hDc hT hS hFc⟩ rfl rfl hl.1 rfl (lv_room (Nat.le_of_ble_eq_true rfl)) dX6_homeBy_71 ⟨Nat.le_of_ble_eq_true rfl, Nat.le_of_ble_eq_true rfl⟩) hS (fun q _ h => hFc q h) hFc (fun r_265 u t H1 locs ht hvm hw hB hz1 hk1 hS => ?_)
    obtain ⟨hP1, hK1, hD1⟩ := hB
    rw [ht] at hP1
    have hK1 := va_K.moved hvm.symm hK1
    obtain ⟨hP, hD⟩ := va_join (wr := [(rq, .inl (ci, 119, .inl (RW xh xr xt xw)))]) (w1 := [(h0, .inr (11, [.int th, .int 1, .int 0, .int 1, .ref q_3, .ref sbq])), (q_3, .inl (ci, 119, .inl (RW vx_261 vx_262 vx_263 vx_264)))]) hP hD [1, 2] [0] rfl rfl (by decide) (by decide) hk1 hFc hP1 hD1
    generalize H1 = H at hP hS ⊢
    have hP : va_P (dC, dI) vwCl [(rq, .inl (ci, 119, .inl (RW xh xr xt xw))), (h0, .inr (11, [.int th, .int 1, .int 0, .int 1, .ref q_3, .ref sbq])), (q_3, .inl (ci, 119, .inl (RW vx_261 vx_262 vx_263 vx_264)))] H := hP
    have hD : va_D A [(rq, .inl (ci, 119, .inl (RW xh xr xt xw))), (h0, .inr (11, [.int th, .int 1, .int 0, .int 1, .ref q_3, .ref sbq])), (q_3, .inl (ci, 119, .inl (RW vx_261 vx_262 vx_263 vx_264)))] := hD
    refine W.widen (k := 1) (n := 119) (by omega) (by omega) ?_
    obtain rfl : r_265 = 0 := hw
    refine lv_if_eq (tgt := 81) hx hb dX6_homeBy_74 (by decide) (fun _ => ?_) (fun c_266 => absurd (by decide) c_266)
    refine lv_iinc (v := 2) (lv' := [(6, .int 2), (5, .int 6), (4, .int (-1)), (3, .ref rq), (0, .ref h0), (1, .int 0), (2, .int p1)]) hx hb dX6_homeBy_81 hl (k := 0) rfl (by decide) (by decide) rfl (fun ls hl => ?_)
    refine lv_goto (tgt := 38) hx hb dX6_homeBy_84 (by decide) ?_
    refine lv_iload hx hb dX6_homeBy_38 (lv_at hl 0 rfl) ?_
    refine lv_iload hx hb dX6_homeBy_40 (lv_at hl 1 rfl) ?_
    refine lv_icmp_gt (tgt := 87) hx hb dX6_homeBy_42 (by decide) (fun c_267 => absurd c_267 (by decide)) (fun _ => ?_)
    refine lv_iload hx hb dX6_homeBy_45 (lv_at hl 2 rfl) ?_
    refine lv_iconst (v := (-1)) hx hb dX6_homeBy_47 (by decide) ?_
    refine lv_icmp_ne (tgt := 87) hx hb dX6_homeBy_48 (by decide) (fun c_268 => absurd (by decide) c_268) (fun _ => ?_)
    refine lv_aload_n hx hb dX6_homeBy_51 rfl (lv_at hl 4 rfl) ?_
    refine lv_iload_n hx hb dX6_homeBy_52 rfl (lv_at hl 6 rfl) ?_
    refine lv_iload hx hb dX6_homeBy_53 (lv_at hl 1 rfl) ?_
    refine lv_iload hx hb dX6_homeBy_55 (lv_at hl 0 rfl) ?_
    refine lv_isub hx hb dX6_homeBy_57 ?_
    refine lv_topi (fun x_269 e_270 => ?_)
    obtain rfl : x_269 = 4 := e_270.trans (by decide)
    have hPc := hP.sub (ws' := []) [] rfl
    have hDc := hD.sub (ws' := []) [] (by decide) rfl
    have hKc := hK.sub (tys' := []) [] rfl
    have hFc := va_free (wc := []) hD hS hA [] rfl
    refine va_calli (va_runS (As := [.int 4]) (rest := [.int p1, .ref h0]) ⟨hx, hb, hml, hown, hts⟩ (c_power_4 l hl9 dC dI tE  _ ) (va_cwS 1 hts (goodIn_app (goodIn_r _ [24, 25, 7] (by rfl) (by decide +kernel)) gg_c_homeBy_c_power_4) rfl rfl rfl (by decide +kernel) ⟨Nat.le_of_ble_eq_true rfl, Nat.le_of_ble_eq_true rfl⟩) ⟨Pre0.blind, Pre0.give hPc hKc hDc hT hS hFc⟩ rfl rfl hl.1 rfl (lv_room (Nat.le_of_ble_eq_true rfl)) dX6_homeBy_58 ⟨Nat.le_of_ble_eq_true rfl, Nat.le_of_ble_eq_true rfl⟩) hS (fun q _ h => hFc q h) hFc (fun r_271 u t H1 locs ht hvm hw hB hz1 hk1 hS => ?_)
    obtain ⟨hP1, hK1, hD1⟩ := hB
    rw [ht] at hP1
    have hK1 := va_K.moved hvm.symm hK1
    obtain ⟨hP, hD⟩ := va_join (wr := [(rq, .inl (ci, 119, .inl (RW xh xr xt xw))), (h0, .inr (11, [.int th, .int 1, .int 0, .int 1, .ref q_3, .ref sbq])), (q_3, .inl (ci, 119, .inl (RW vx_261 vx_262 vx_263 vx_264)))]) (w1 := []) hP hD [] [0, 1, 2] rfl rfl (by decide) (by decide) hk1 hFc hP1 hD1
    generalize H1 = H at hP hS ⊢
    have hP : va_P (dC, dI) vwCl [(rq, .inl (ci, 119, .inl (RW xh xr xt xw))), (h0, .inr (11, [.int th, .int 1, .int 0, .int 1, .ref q_3, .ref sbq])), (q_3, .inl (ci, 119, .inl (RW vx_261 vx_262 vx_263 vx_264)))] H := hP
    have hD : va_D A [(rq, .inl (ci, 119, .inl (RW xh xr xt xw))), (h0, .inr (11, [.int th, .int 1, .int 0, .int 1, .ref q_3, .ref sbq])), (q_3, .inl (ci, 119, .inl (RW vx_261 vx_262 vx_263 vx_264)))] := hD
    refine W.widen (k := 1) (n := 119) (by omega) (by omega) ?_
    obtain rfl : r_271 = 10000 := hw
    refine lv_idiv hx hb dX6_homeBy_61 (by decide) ?_
    refine lv_topi (fun x_272 e_273 => ?_)
    refine lv_bipush (v := 10) hx hb dX6_homeBy_62 (by decide) ?_
    refine lv_irem hx hb dX6_homeBy_64 (by decide) ?_
    refine lv_topi (fun x_274 e_275 => ?_)
    have hPc := hP.sub (ws' := [(h0, .inr (11, [.int th, .int 1, .int 0, .int 1, .ref q_3, .ref sbq])), (q_3, .inl (ci, 119, .inl (RW vx_261 vx_262 vx_263 vx_264)))]) [1, 2] rfl
    have hDc := hD.sub (ws' := [(h0, .inr (11, [.int th, .int 1, .int 0, .int 1, .ref q_3, .ref sbq])), (q_3, .inl (ci, 119, .inl (RW vx_261 vx_262 vx_263 vx_264)))]) [1, 2] (by decide) rfl
    have hKc := hK.sub (tys' := [(ci, .int)]) [0] rfl
    have hFc := va_free (wc := [(h0, .inr (11, [.int th, .int 1, .int 0, .int 1, .ref q_3, .ref sbq])), (q_3, .inl (ci, 119, .inl (RW vx_261 vx_262 vx_263 vx_264)))]) hD hS hA [1, 2] rfl
    refine va_calli (va_runV (As := [.int x_274]) (rest := []) ⟨hx, hb, hml, hown, hts⟩ (c_ringOne l hl9 dC dI tE h0 q_3 sbq th ci vx_261 vx_262 vx_263 vx_264 x_274 _ ) (cwV 1 hts (goodIn_app (goodIn_r _ [54, 55, 56, 7] (by rfl) (by decide +kernel)) gg_c_homeBy_c_ringOne) rfl rfl rfl (by decide +kernel) ⟨Nat.le_of_ble_eq_true rfl, Nat.le_of_ble_eq_true rfl⟩) ⟨Pre0.blind, va_recv hKc hPc (ci := 11) (q0 := 0) rfl rfl, Pre0.give hPc hKc hDc hT hS hFc⟩ rfl rfl hl.1 rfl (lv_room (Nat.le_of_ble_eq_true rfl)) dX6_homeBy_65 ⟨Nat.le_of_ble_eq_true rfl, Nat.le_of_ble_eq_true rfl⟩) hS (fun q _ h => hFc q h) hFc (fun r_276 u t H1 locs ht hvm hw hB hz1 hk1 hS => ?_)
    obtain ⟨vx_277, vx_278, vx_279, vx_280, hP1, hK1, hD1⟩ := hB
    rw [ht] at hP1
    have hK1 := va_K.moved hvm.symm hK1
    obtain ⟨hP, hD⟩ := va_join (wr := [(rq, .inl (ci, 119, .inl (RW xh xr xt xw)))]) (w1 := [(h0, .inr (11, [.int th, .int 1, .int 0, .int 1, .ref q_3, .ref sbq])), (q_3, .inl (ci, 119, .inl (RW vx_277 vx_278 vx_279 vx_280)))]) hP hD [1, 2] [0] rfl rfl (by decide) (by decide) hk1 hFc hP1 hD1
    generalize H1 = H at hP hS ⊢
    have hP : va_P (dC, dI) vwCl [(rq, .inl (ci, 119, .inl (RW xh xr xt xw))), (h0, .inr (11, [.int th, .int 1, .int 0, .int 1, .ref q_3, .ref sbq])), (q_3, .inl (ci, 119, .inl (RW vx_277 vx_278 vx_279 vx_280)))] H := hP
    have hD : va_D A [(rq, .inl (ci, 119, .inl (RW xh xr xt xw))), (h0, .inr (11, [.int th, .int 1, .int 0, .int 1, .ref q_3, .ref sbq])), (q_3, .inl (ci, 119, .inl (RW vx_277 vx_278 vx_279 vx_280)))] := hD
    refine W.widen (k := 1) (n := 119) (by omega) (by omega) ?_
    obtain rfl : r_276 = 0 := hw
    refine lv_pop hx hb dX6_homeBy_68 rfl ?_
    refine lv_aload_n hx hb dX6_homeBy_69 rfl (lv_at hl 4 rfl) ?_
    refine lv_iload_n hx hb dX6_homeBy_70 rfl (lv_at hl 5 rfl) ?_
    have hPc := hP.sub (ws' := [(h0, .inr (11, [.int th, .int 1, .int 0, .int 1, .ref q_3, .ref sbq])), (q_3, .inl (ci, 119, .inl (RW vx_277 vx_278 vx_279 vx_280)))]) [1, 2] rfl
    have hDc := hD.sub (ws' := [(h0, .inr (11, [.int th, .int 1, .int 0, .int 1, .ref q_3, .ref sbq])), (q_3, .inl (ci, 119, .inl (RW vx_277 vx_278 vx_279 vx_280)))]) [1, 2] (by decide) rfl
    have hKc := hK.sub (tys' := [(ci, .int)]) [0] rfl
    have hFc := va_free (wc := [(h0, .inr (11, [.int th, .int 1, .int 0, .int 1, .ref q_3, .ref sbq])), (q_3, .inl (ci, 119, .inl (RW vx_277 vx_278 vx_279 vx_280)))]) hD hS hA [1, 2] rfl
    refine va_calli (va_runV (As := [.int 0]) (rest := []) ⟨hx, hb, hml, hown, hts⟩ (c_isHome l hl9 dC dI tE h0 q_3 sbq th ci vx_277 vx_278 vx_279 vx_280 _ ) (cwV 1 hts (goodIn_app (goodIn_r _ [8, 9, 10, 7] (by rfl) (by decide +kernel)) gg_c_homeBy_c_isHome) rfl rfl rfl (by decide +kernel) ⟨Nat.le_of_ble_eq_true rfl, Nat.le_of_ble_eq_true rfl⟩) ⟨Pre0.blind, va_recv hKc hPc (ci := 11) (q0 := 0) rfl rfl, Pre0.give hPc hKc hDc hT hS hFc⟩ rfl rfl hl.1 rfl (lv_room (Nat.le_of_ble_eq_true rfl)) dX6_homeBy_71 ⟨Nat.le_of_ble_eq_true rfl, Nat.le_of_ble_eq_true rfl⟩) hS (fun q _ h => hFc q h) hFc (fun r_281 u t H1 locs ht hvm hw hB hz1 hk1 hS => ?_)
    obtain ⟨hP1, hK1, hD1⟩ := hB
    rw [ht] at hP1
    have hK1 := va_K.moved hvm.symm hK1
    obtain ⟨hP, hD⟩ := va_join (wr := [(rq, .inl (ci, 119, .inl (RW xh xr xt xw)))]) (w1 := [(h0, .inr (11, [.int th, .int 1, .int 0, .int 1, .ref q_3, .ref sbq])), (q_3, .inl (ci, 119, .inl (RW vx_277 vx_278 vx_279 vx_280)))]) hP hD [1, 2] [0] rfl rfl (by decide) (by decide) hk1 hFc hP1 hD1
    generalize H1 = H at hP hS ⊢
    have hP : va_P (dC, dI) vwCl [(rq, .inl (ci, 119, .inl (RW xh xr xt xw))), (h0, .inr (11, [.int th, .int 1, .int 0, .int 1, .ref q_3, .ref sbq])), (q_3, .inl (ci, 119, .inl (RW vx_277 vx_278 vx_279 vx_280)))] H := hP
    have hD : va_D A [(rq, .inl (ci, 119, .inl (RW xh xr xt xw))), (h0, .inr (11, [.int th, .int 1, .int 0, .int 1, .ref q_3, .ref sbq])), (q_3, .inl (ci, 119, .inl (RW vx_277 vx_278 vx_279 vx_280)))] := hD
    refine W.widen (k := 1) (n := 119) (by omega) (by omega) ?_
    obtain rfl : r_281 = 0 := hw
    refine lv_if_eq (tgt := 81) hx hb dX6_homeBy_74 (by decide) (fun _ => ?_) (fun c_282 => absurd (by decide) c_282)
    refine lv_iinc (v := 3) (lv' := [(6, .int 3), (5, .int 6), (4, .int (-1)), (3, .ref rq), (0, .ref h0), (1, .int 0), (2, .int p1)]) hx hb dX6_homeBy_81 hl (k := 0) rfl (by decide) (by decide) rfl (fun ls hl => ?_)
    refine lv_goto (tgt := 38) hx hb dX6_homeBy_84 (by decide) ?_
    refine lv_iload hx hb dX6_homeBy_38 (lv_at hl 0 rfl) ?_
    refine lv_iload hx hb dX6_homeBy_40 (lv_at hl 1 rfl) ?_
    refine lv_icmp_gt (tgt := 87) hx hb dX6_homeBy_42 (by decide) (fun c_283 => absurd c_283 (by decide)) (fun _ => ?_)
    refine lv_iload hx hb dX6_homeBy_45 (lv_at hl 2 rfl) ?_
    refine lv_iconst (v := (-1)) hx hb dX6_homeBy_47 (by decide) ?_
    refine lv_icmp_ne (tgt := 87) hx hb dX6_homeBy_48 (by decide) (fun c_284 => absurd (by decide) c_284) (fun _ => ?_)
    refine lv_aload_n hx hb dX6_homeBy_51 rfl (lv_at hl 4 rfl) ?_
    refine lv_iload_n hx hb dX6_homeBy_52 rfl (lv_at hl 6 rfl) ?_
    refine lv_iload hx hb dX6_homeBy_53 (lv_at hl 1 rfl) ?_
    refine lv_iload hx hb dX6_homeBy_55 (lv_at hl 0 rfl) ?_
    refine lv_isub hx hb dX6_homeBy_57 ?_
    refine lv_topi (fun x_285 e_286 => ?_)
    obtain rfl : x_285 = 3 := e_286.trans (by decide)
    have hPc := hP.sub (ws' := []) [] rfl
    have hDc := hD.sub (ws' := []) [] (by decide) rfl
    have hKc := hK.sub (tys' := []) [] rfl
    have hFc := va_free (wc := []) hD hS hA [] rfl
    refine va_calli (va_runS (As := [.int 3]) (rest := [.int p1, .ref h0]) ⟨hx, hb, hml, hown, hts⟩ (c_power_3 l hl9 dC dI tE  _ ) (va_cwS 1 hts (goodIn_app (goodIn_r _ [24, 25, 7] (by rfl) (by decide +kernel)) gg_c_homeBy_c_power_3) rfl rfl rfl (by decide +kernel) ⟨Nat.le_of_ble_eq_true rfl, Nat.le_of_ble_eq_true rfl⟩) ⟨Pre0.blind, Pre0.give hPc hKc hDc hT hS hFc⟩ rfl rfl hl.1 rfl (lv_room (Nat.le_of_ble_eq_true rfl)) dX6_homeBy_58 ⟨Nat.le_of_ble_eq_true rfl, Nat.le_of_ble_eq_true rfl⟩) hS (fun q _ h => hFc q h) hFc (fun r_287 u t H1 locs ht hvm hw hB hz1 hk1 hS => ?_)
    obtain ⟨hP1, hK1, hD1⟩ := hB
    rw [ht] at hP1
    have hK1 := va_K.moved hvm.symm hK1
    obtain ⟨hP, hD⟩ := va_join (wr := [(rq, .inl (ci, 119, .inl (RW xh xr xt xw))), (h0, .inr (11, [.int th, .int 1, .int 0, .int 1, .ref q_3, .ref sbq])), (q_3, .inl (ci, 119, .inl (RW vx_277 vx_278 vx_279 vx_280)))]) (w1 := []) hP hD [] [0, 1, 2] rfl rfl (by decide) (by decide) hk1 hFc hP1 hD1
    generalize H1 = H at hP hS ⊢
    have hP : va_P (dC, dI) vwCl [(rq, .inl (ci, 119, .inl (RW xh xr xt xw))), (h0, .inr (11, [.int th, .int 1, .int 0, .int 1, .ref q_3, .ref sbq])), (q_3, .inl (ci, 119, .inl (RW vx_277 vx_278 vx_279 vx_280)))] H := hP
    have hD : va_D A [(rq, .inl (ci, 119, .inl (RW xh xr xt xw))), (h0, .inr (11, [.int th, .int 1, .int 0, .int 1, .ref q_3, .ref sbq])), (q_3, .inl (ci, 119, .inl (RW vx_277 vx_278 vx_279 vx_280)))] := hD
    refine W.widen (k := 1) (n := 119) (by omega) (by omega) ?_
    obtain rfl : r_287 = 1000 := hw
    refine lv_idiv hx hb dX6_homeBy_61 (by decide) ?_
    refine lv_topi (fun x_288 e_289 => ?_)
    refine lv_bipush (v := 10) hx hb dX6_homeBy_62 (by decide) ?_
    refine lv_irem hx hb dX6_homeBy_64 (by decide) ?_
    refine lv_topi (fun x_290 e_291 => ?_)
    have hPc := hP.sub (ws' := [(h0, .inr (11, [.int th, .int 1, .int 0, .int 1, .ref q_3, .ref sbq])), (q_3, .inl (ci, 119, .inl (RW vx_277 vx_278 vx_279 vx_280)))]) [1, 2] rfl
    have hDc := hD.sub (ws' := [(h0, .inr (11, [.int th, .int 1, .int 0, .int 1, .ref q_3, .ref sbq])), (q_3, .inl (ci, 119, .inl (RW vx_277 vx_278 vx_279 vx_280)))]) [1, 2] (by decide) rfl
    have hKc := hK.sub (tys' := [(ci, .int)]) [0] rfl
    have hFc := va_free (wc := [(h0, .inr (11, [.int th, .int 1, .int 0, .int 1, .ref q_3, .ref sbq])), (q_3, .inl (ci, 119, .inl (RW vx_277 vx_278 vx_279 vx_280)))]) hD hS hA [1, 2] rfl
    refine va_calli (va_runV (As := [.int x_290]) (rest := []) ⟨hx, hb, hml, hown, hts⟩ (c_ringOne l hl9 dC dI tE h0 q_3 sbq th ci vx_277 vx_278 vx_279 vx_280 x_290 _ ) (cwV 1 hts (goodIn_app (goodIn_r _ [54, 55, 56, 7] (by rfl) (by decide +kernel)) gg_c_homeBy_c_ringOne) rfl rfl rfl (by decide +kernel) ⟨Nat.le_of_ble_eq_true rfl, Nat.le_of_ble_eq_true rfl⟩) ⟨Pre0.blind, va_recv hKc hPc (ci := 11) (q0 := 0) rfl rfl, Pre0.give hPc hKc hDc hT hS hFc⟩ rfl rfl hl.1 rfl (lv_room (Nat.le_of_ble_eq_true rfl)) dX6_homeBy_65 ⟨Nat.le_of_ble_eq_true rfl, Nat.le_of_ble_eq_true rfl⟩) hS (fun q _ h => hFc q h) hFc (fun r_292 u t H1 locs ht hvm hw hB hz1 hk1 hS => ?_)
    obtain ⟨vx_293, vx_294, vx_295, vx_296, hP1, hK1, hD1⟩ := hB
    rw [ht] at hP1
    have hK1 := va_K.moved hvm.symm hK1
    obtain ⟨hP, hD⟩ := va_join (wr := [(rq, .inl (ci, 119, .inl (RW xh xr xt xw)))]) (w1 := [(h0, .inr (11, [.int th, .int 1, .int 0, .int 1, .ref q_3, .ref sbq])), (q_3, .inl (ci, 119, .inl (RW vx_293 vx_294 vx_295 vx_296)))]) hP hD [1, 2] [0] rfl rfl (by decide) (by decide) hk1 hFc hP1 hD1
    generalize H1 = H at hP hS ⊢
    have hP : va_P (dC, dI) vwCl [(rq, .inl (ci, 119, .inl (RW xh xr xt xw))), (h0, .inr (11, [.int th, .int 1, .int 0, .int 1, .ref q_3, .ref sbq])), (q_3, .inl (ci, 119, .inl (RW vx_293 vx_294 vx_295 vx_296)))] H := hP
    have hD : va_D A [(rq, .inl (ci, 119, .inl (RW xh xr xt xw))), (h0, .inr (11, [.int th, .int 1, .int 0, .int 1, .ref q_3, .ref sbq])), (q_3, .inl (ci, 119, .inl (RW vx_293 vx_294 vx_295 vx_296)))] := hD
    refine W.widen (k := 1) (n := 119) (by omega) (by omega) ?_
    obtain rfl : r_292 = 0 := hw
    refine lv_pop hx hb dX6_homeBy_68 rfl ?_
    refine lv_aload_n hx hb dX6_homeBy_69 rfl (lv_at hl 4 rfl) ?_
    refine lv_iload_n hx hb dX6_homeBy_70 rfl (lv_at hl 5 rfl) ?_
    have hPc := hP.sub (ws' := [(h0, .inr (11, [.int th, .int 1, .int 0, .int 1, .ref q_3, .ref sbq])), (q_3, .inl (ci, 119, .inl (RW vx_293 vx_294 vx_295 vx_296)))]) [1, 2] rfl
    have hDc := hD.sub (ws' := [(h0, .inr (11, [.int th, .int 1, .int 0, .int 1, .ref q_3, .ref sbq])), (q_3, .inl (ci, 119, .inl (RW vx_293 vx_294 vx_295 vx_296)))]) [1, 2] (by decide) rfl
    have hKc := hK.sub (tys' := [(ci, .int)]) [0] rfl
    have hFc := va_free (wc := [(h0, .inr (11, [.int th, .int 1, .int 0, .int 1, .ref q_3, .ref sbq])), (q_3, .inl (ci, 119, .inl (RW vx_293 vx_294 vx_295 vx_296)))]) hD hS hA [1, 2] rfl
    refine va_calli (va_runV (As := [.int 0]) (rest := []) ⟨hx, hb, hml, hown, hts⟩ (c_isHome l hl9 dC dI tE h0 q_3 sbq th ci vx_293 vx_294 vx_295 vx_296 _ ) (cwV 1 hts (goodIn_app (goodIn_r _ [8, 9, 10, 7] (by rfl) (by decide +kernel)) gg_c_homeBy_c_isHome) rfl rfl rfl (by decide +kernel) ⟨Nat.le_of_ble_eq_true rfl, Nat.le_of_ble_eq_true rfl⟩) ⟨Pre0.blind, va_recv hKc hPc (ci := 11) (q0 := 0) rfl rfl, Pre0.give hPc hKc hDc hT hS hFc⟩ rfl rfl hl.1 rfl (lv_room (Nat.le_of_ble_eq_true rfl)) dX6_homeBy_71 ⟨Nat.le_of_ble_eq_true rfl, Nat.le_of_ble_eq_true rfl⟩) hS (fun q _ h => hFc q h) hFc (fun r_297 u t H1 locs ht hvm hw hB hz1 hk1 hS => ?_)
    obtain ⟨hP1, hK1, hD1⟩ := hB
    rw [ht] at hP1
    have hK1 := va_K.moved hvm.symm hK1
    obtain ⟨hP, hD⟩ := va_join (wr := [(rq, .inl (ci, 119, .inl (RW xh xr xt xw)))]) (w1 := [(h0, .inr (11, [.int th, .int 1, .int 0, .int 1, .ref q_3, .ref sbq])), (q_3, .inl (ci, 119, .inl (RW vx_293 vx_294 vx_295 vx_296)))]) hP hD [1, 2] [0] rfl rfl (by decide) (by decide) hk1 hFc hP1 hD1
    generalize H1 = H at hP hS ⊢
    have hP : va_P (dC, dI) vwCl [(rq, .inl (ci, 119, .inl (RW xh xr xt xw))), (h0, .inr (11, [.int th, .int 1, .int 0, .int 1, .ref q_3, .ref sbq])), (q_3, .inl (ci, 119, .inl (RW vx_293 vx_294 vx_295 vx_296)))] H := hP
    have hD : va_D A [(rq, .inl (ci, 119, .inl (RW xh xr xt xw))), (h0, .inr (11, [.int th, .int 1, .int 0, .int 1, .ref q_3, .ref sbq])), (q_3, .inl (ci, 119, .inl (RW vx_293 vx_294 vx_295 vx_296)))] := hD
    refine W.widen (k := 1) (n := 119) (by omega) (by omega) ?_
    obtain rfl : r_297 = 0 := hw
    refine lv_if_eq (tgt := 81) hx hb dX6_homeBy_74 (by decide) (fun _ => ?_) (fun c_298 => absurd (by decide) c_298)
    refine lv_iinc (v := 4) (lv' := [(6, .int 4), (5, .int 6), (4, .int (-1)), (3, .ref rq), (0, .ref h0), (1, .int 0), (2, .int p1)]) hx hb dX6_homeBy_81 hl (k := 0) rfl (by decide) (by decide) rfl (fun ls hl => ?_)
    refine lv_goto (tgt := 38) hx hb dX6_homeBy_84 (by decide) ?_
    refine lv_iload hx hb dX6_homeBy_38 (lv_at hl 0 rfl) ?_
    refine lv_iload hx hb dX6_homeBy_40 (lv_at hl 1 rfl) ?_
    refine lv_icmp_gt (tgt := 87) hx hb dX6_homeBy_42 (by decide) (fun c_299 => absurd c_299 (by decide)) (fun _ => ?_)
    refine lv_iload hx hb dX6_homeBy_45 (lv_at hl 2 rfl) ?_
    refine lv_iconst (v := (-1)) hx hb dX6_homeBy_47 (by decide) ?_
    refine lv_icmp_ne (tgt := 87) hx hb dX6_homeBy_48 (by decide) (fun c_300 => absurd (by decide) c_300) (fun _ => ?_)
    refine lv_aload_n hx hb dX6_homeBy_51 rfl (lv_at hl 4 rfl) ?_
    refine lv_iload_n hx hb dX6_homeBy_52 rfl (lv_at hl 6 rfl) ?_
    refine lv_iload hx hb dX6_homeBy_53 (lv_at hl 1 rfl) ?_
    refine lv_iload hx hb dX6_homeBy_55 (lv_at hl 0 rfl) ?_
    refine lv_isub hx hb dX6_homeBy_57 ?_
    refine lv_topi (fun x_301 e_302 => ?_)
    obtain rfl : x_301 = 2 := e_302.trans (by decide)
    have hPc := hP.sub (ws' := []) [] rfl
    have hDc := hD.sub (ws' := []) [] (by decide) rfl
    have hKc := hK.sub (tys' := []) [] rfl
    have hFc := va_free (wc := []) hD hS hA [] rfl
    refine va_calli (va_runS (As := [.int 2]) (rest := [.int p1, .ref h0]) ⟨hx, hb, hml, hown, hts⟩ (c_power_2 l hl9 dC dI tE  _ ) (va_cwS 1 hts (goodIn_app (goodIn_r _ [24, 25, 7] (by rfl) (by decide +kernel)) gg_c_homeBy_c_power_2) rfl rfl rfl (by decide +kernel) ⟨Nat.le_of_ble_eq_true rfl, Nat.le_of_ble_eq_true rfl⟩) ⟨Pre0.blind, Pre0.give hPc hKc hDc hT hS hFc⟩ rfl rfl hl.1 rfl (lv_room (Nat.le_of_ble_eq_true rfl)) dX6_homeBy_58 ⟨Nat.le_of_ble_eq_true rfl, Nat.le_of_ble_eq_true rfl⟩) hS (fun q _ h => hFc q h) hFc (fun r_303 u t H1 locs ht hvm hw hB hz1 hk1 hS => ?_)
    obtain ⟨hP1, hK1, hD1⟩ := hB
    rw [ht] at hP1
    have hK1 := va_K.moved hvm.symm hK1
    obtain ⟨hP, hD⟩ := va_join (wr := [(rq, .inl (ci, 119, .inl (RW xh xr xt xw))), (h0, .inr (11, [.int th, .int 1, .int 0, .int 1, .ref q_3, .ref sbq])), (q_3, .inl (ci, 119, .inl (RW vx_293 vx_294 vx_295 vx_296)))]) (w1 := []) hP hD [] [0, 1, 2] rfl rfl (by decide) (by decide) hk1 hFc hP1 hD1
    generalize H1 = H at hP hS ⊢
    have hP : va_P (dC, dI) vwCl [(rq, .inl (ci, 119, .inl (RW xh xr xt xw))), (h0, .inr (11, [.int th, .int 1, .int 0, .int 1, .ref q_3, .ref sbq])), (q_3, .inl (ci, 119, .inl (RW vx_293 vx_294 vx_295 vx_296)))] H := hP
    have hD : va_D A [(rq, .inl (ci, 119, .inl (RW xh xr xt xw))), (h0, .inr (11, [.int th, .int 1, .int 0, .int 1, .ref q_3, .ref sbq])), (q_3, .inl (ci, 119, .inl (RW vx_293 vx_294 vx_295 vx_296)))] := hD
    refine W.widen (k := 1) (n := 119) (by omega) (by omega) ?_
    obtain rfl : r_303 = 100 := hw
    refine lv_idiv hx hb dX6_homeBy_61 (by decide) ?_
    refine lv_topi (fun x_304 e_305 => ?_)
    refine lv_bipush (v := 10) hx hb dX6_homeBy_62 (by decide) ?_
    refine lv_irem hx hb dX6_homeBy_64 (by decide) ?_
    refine lv_topi (fun x_306 e_307 => ?_)
    have hPc := hP.sub (ws' := [(h0, .inr (11, [.int th, .int 1, .int 0, .int 1, .ref q_3, .ref sbq])), (q_3, .inl (ci, 119, .inl (RW vx_293 vx_294 vx_295 vx_296)))]) [1, 2] rfl
    have hDc := hD.sub (ws' := [(h0, .inr (11, [.int th, .int 1, .int 0, .int 1, .ref q_3, .ref sbq])), (q_3, .inl (ci, 119, .inl (RW vx_293 vx_294 vx_295 vx_296)))]) [1, 2] (by decide) rfl
    have hKc := hK.sub (tys' := [(ci, .int)]) [0] rfl
    have hFc := va_free (wc := [(h0, .inr (11, [.int th, .int 1, .int 0, .int 1, .ref q_3, .ref sbq])), (q_3, .inl (ci, 119, .inl (RW vx_293 vx_294 vx_295 vx_296)))]) hD hS hA [1, 2] rfl
    refine va_calli (va_runV (As := [.int x_306]) (rest := []) ⟨hx, hb, hml, hown, hts⟩ (c_ringOne l hl9 dC dI tE h0 q_3 sbq th ci vx_293 vx_294 vx_295 vx_296 x_306 _ ) (cwV 1 hts (goodIn_app (goodIn_r _ [54, 55, 56, 7] (by rfl) (by decide +kernel)) gg_c_homeBy_c_ringOne) rfl rfl rfl (by decide +kernel) ⟨Nat.le_of_ble_eq_true rfl, Nat.le_of_ble_eq_true rfl⟩) ⟨Pre0.blind, va_recv hKc hPc (ci := 11) (q0 := 0) rfl rfl, Pre0.give hPc hKc hDc hT hS hFc⟩ rfl rfl hl.1 rfl (lv_room (Nat.le_of_ble_eq_true rfl)) dX6_homeBy_65 ⟨Nat.le_of_ble_eq_true rfl, Nat.le_of_ble_eq_true rfl⟩) hS (fun q _ h => hFc q h) hFc (fun r_308 u t H1 locs ht hvm hw hB hz1 hk1 hS => ?_)
    obtain ⟨vx_309, vx_310, vx_311, vx_312, hP1, hK1, hD1⟩ := hB
    rw [ht] at hP1
    have hK1 := va_K.moved hvm.symm hK1
    obtain ⟨hP, hD⟩ := va_join (wr := [(rq, .inl (ci, 119, .inl (RW xh xr xt xw)))]) (w1 := [(h0, .inr (11, [.int th, .int 1, .int 0, .int 1, .ref q_3, .ref sbq])), (q_3, .inl (ci, 119, .inl (RW vx_309 vx_310 vx_311 vx_312)))]) hP hD [1, 2] [0] rfl rfl (by decide) (by decide) hk1 hFc hP1 hD1
    generalize H1 = H at hP hS ⊢
    have hP : va_P (dC, dI) vwCl [(rq, .inl (ci, 119, .inl (RW xh xr xt xw))), (h0, .inr (11, [.int th, .int 1, .int 0, .int 1, .ref q_3, .ref sbq])), (q_3, .inl (ci, 119, .inl (RW vx_309 vx_310 vx_311 vx_312)))] H := hP
    have hD : va_D A [(rq, .inl (ci, 119, .inl (RW xh xr xt xw))), (h0, .inr (11, [.int th, .int 1, .int 0, .int 1, .ref q_3, .ref sbq])), (q_3, .inl (ci, 119, .inl (RW vx_309 vx_310 vx_311 vx_312)))] := hD
    refine W.widen (k := 1) (n := 119) (by omega) (by omega) ?_
    obtain rfl : r_308 = 0 := hw
    refine lv_pop hx hb dX6_homeBy_68 rfl ?_
    refine lv_aload_n hx hb dX6_homeBy_69 rfl (lv_at hl 4 rfl) ?_
    refine lv_iload_n hx hb dX6_homeBy_70 rfl (lv_at hl 5 rfl) ?_
    have hPc := hP.sub (ws' := [(h0, .inr (11, [.int th, .int 1, .int 0, .int 1, .ref q_3, .ref sbq])), (q_3, .inl (ci, 119, .inl (RW vx_309 vx_310 vx_311 vx_312)))]) [1, 2] rfl
    have hDc := hD.sub (ws' := [(h0, .inr (11, [.int th, .int 1, .int 0, .int 1, .ref q_3, .ref sbq])), (q_3, .inl (ci, 119, .inl (RW vx_309 vx_310 vx_311 vx_312)))]) [1, 2] (by decide) rfl
    have hKc := hK.sub (tys' := [(ci, .int)]) [0] rfl
    have hFc := va_free (wc := [(h0, .inr (11, [.int th, .int 1, .int 0, .int 1, .ref q_3, .ref sbq])), (q_3, .inl (ci, 119, .inl (RW vx_309 vx_310 vx_311 vx_312)))]) hD hS hA [1, 2] rfl
    refine va_calli (va_runV (As := [.int 0]) (rest := []) ⟨hx, hb, hml, hown, hts⟩ (c_isHome l hl9 dC dI tE h0 q_3 sbq th ci vx_309 vx_310 vx_311 vx_312 _ ) (cwV 1 hts (goodIn_app (goodIn_r _ [8, 9, 10, 7] (by rfl) (by decide +kernel)) gg_c_homeBy_c_isHome) rfl rfl rfl (by decide +kernel) ⟨Nat.le_of_ble_eq_true rfl, Nat.le_of_ble_eq_true rfl⟩) ⟨Pre0.blind, va_recv hKc hPc (ci := 11) (q0 := 0) rfl rfl, Pre0.give hPc hKc hDc hT hS hFc⟩ rfl rfl hl.1 rfl (lv_room (Nat.le_of_ble_eq_true rfl)) dX6_homeBy_71 ⟨Nat.le_of_ble_eq_true rfl, Nat.le_of_ble_eq_true rfl⟩) hS (fun q _ h => hFc q h) hFc (fun r_313 u t H1 locs ht hvm hw hB hz1 hk1 hS => ?_)
    obtain ⟨hP1, hK1, hD1⟩ := hB
    rw [ht] at hP1
    have hK1 := va_K.moved hvm.symm hK1
    obtain ⟨hP, hD⟩ := va_join (wr := [(rq, .inl (ci, 119, .inl (RW xh xr xt xw)))]) (w1 := [(h0, .inr (11, [.int th, .int 1, .int 0, .int 1, .ref q_3, .ref sbq])), (q_3, .inl (ci, 119, .inl (RW vx_309 vx_310 vx_311 vx_312)))]) hP hD [1, 2] [0] rfl rfl (by decide) (by decide) hk1 hFc hP1 hD1
    generalize H1 = H at hP hS ⊢
    have hP : va_P (dC, dI) vwCl [(rq, .inl (ci, 119, .inl (RW xh xr xt xw))), (h0, .inr (11, [.int th, .int 1, .int 0, .int 1, .ref q_3, .ref sbq])), (q_3, .inl (ci, 119, .inl (RW vx_309 vx_310 vx_311 vx_312)))] H := hP
    have hD : va_D A [(rq, .inl (ci, 119, .inl (RW xh xr xt xw))), (h0, .inr (11, [.int th, .int 1, .int 0, .int 1, .ref q_3, .ref sbq])), (q_3, .inl (ci, 119, .inl (RW vx_309 vx_310 vx_311 vx_312)))] := hD
    refine W.widen (k := 1) (n := 119) (by omega) (by omega) ?_
    obtain rfl : r_313 = 0 := hw
    refine lv_if_eq (tgt := 81) hx hb dX6_homeBy_74 (by decide) (fun _ => ?_) (fun c_314 => absurd (by decide) c_314)
    refine lv_iinc (v := 5) (lv' := [(6, .int 5), (5, .int 6), (4, .int (-1)), (3, .ref rq), (0, .ref h0), (1, .int 0), (2, .int p1)]) hx hb dX6_homeBy_81 hl (k := 0) rfl (by decide) (by decide) rfl (fun ls hl => ?_)
    refine lv_goto (tgt := 38) hx hb dX6_homeBy_84 (by decide) ?_
    refine lv_iload hx hb dX6_homeBy_38 (lv_at hl 0 rfl) ?_
    refine lv_iload hx hb dX6_homeBy_40 (lv_at hl 1 rfl) ?_
    refine lv_icmp_gt (tgt := 87) hx hb dX6_homeBy_42 (by decide) (fun c_315 => absurd c_315 (by decide)) (fun _ => ?_)
    refine lv_iload hx hb dX6_homeBy_45 (lv_at hl 2 rfl) ?_
    refine lv_iconst (v := (-1)) hx hb dX6_homeBy_47 (by decide) ?_
    refine lv_icmp_ne (tgt := 87) hx hb dX6_homeBy_48 (by decide) (fun c_316 => absurd (by decide) c_316) (fun _ => ?_)
    refine lv_aload_n hx hb dX6_homeBy_51 rfl (lv_at hl 4 rfl) ?_
    refine lv_iload_n hx hb dX6_homeBy_52 rfl (lv_at hl 6 rfl) ?_
    refine lv_iload hx hb dX6_homeBy_53 (lv_at hl 1 rfl) ?_
    refine lv_iload hx hb dX6_homeBy_55 (lv_at hl 0 rfl) ?_
    refine lv_isub hx hb dX6_homeBy_57 ?_
    refine lv_topi (fun x_317 e_318 => ?_)
    obtain rfl : x_317 = 1 := e_318.trans (by decide)
    have hPc := hP.sub (ws' := []) [] rfl
    have hDc := hD.sub (ws' := []) [] (by decide) rfl
    have hKc := hK.sub (tys' := []) [] rfl
    have hFc := va_free (wc := []) hD hS hA [] rfl
    refine va_calli (va_runS (As := [.int 1]) (rest := [.int p1, .ref h0]) ⟨hx, hb, hml, hown, hts⟩ (c_power_1 l hl9 dC dI tE  _ ) (va_cwS 1 hts (goodIn_app (goodIn_r _ [24, 25, 7] (by rfl) (by decide +kernel)) gg_c_homeBy_c_power_1) rfl rfl rfl (by decide +kernel) ⟨Nat.le_of_ble_eq_true rfl, Nat.le_of_ble_eq_true rfl⟩) ⟨Pre0.blind, Pre0.give hPc hKc hDc hT hS hFc⟩ rfl rfl hl.1 rfl (lv_room (Nat.le_of_ble_eq_true rfl)) dX6_homeBy_58 ⟨Nat.le_of_ble_eq_true rfl, Nat.le_of_ble_eq_true rfl⟩) hS (fun q _ h => hFc q h) hFc (fun r_319 u t H1 locs ht hvm hw hB hz1 hk1 hS => ?_)
    obtain ⟨hP1, hK1, hD1⟩ := hB
    rw [ht] at hP1
    have hK1 := va_K.moved hvm.symm hK1
    obtain ⟨hP, hD⟩ := va_join (wr := [(rq, .inl (ci, 119, .inl (RW xh xr xt xw))), (h0, .inr (11, [.int th, .int 1, .int 0, .int 1, .ref q_3, .ref sbq])), (q_3, .inl (ci, 119, .inl (RW vx_309 vx_310 vx_311 vx_312)))]) (w1 := []) hP hD [] [0, 1, 2] rfl rfl (by decide) (by decide) hk1 hFc hP1 hD1
    generalize H1 = H at hP hS ⊢
    have hP : va_P (dC, dI) vwCl [(rq, .inl (ci, 119, .inl (RW xh xr xt xw))), (h0, .inr (11, [.int th, .int 1, .int 0, .int 1, .ref q_3, .ref sbq])), (q_3, .inl (ci, 119, .inl (RW vx_309 vx_310 vx_311 vx_312)))] H := hP
    have hD : va_D A [(rq, .inl (ci, 119, .inl (RW xh xr xt xw))), (h0, .inr (11, [.int th, .int 1, .int 0, .int 1, .ref q_3, .ref sbq])), (q_3, .inl (ci, 119, .inl (RW vx_309 vx_310 vx_311 vx_312)))] := hD
    refine W.widen (k := 1) (n := 119) (by omega) (by omega) ?_
    obtain rfl : r_319 = 10 := hw
    refine lv_idiv hx hb dX6_homeBy_61 (by decide) ?_
    refine lv_topi (fun x_320 e_321 => ?_)
    refine lv_bipush (v := 10) hx hb dX6_homeBy_62 (by decide) ?_
    refine lv_irem hx hb dX6_homeBy_64 (by decide) ?_
    refine lv_topi (fun x_322 e_323 => ?_)
    have hPc := hP.sub (ws' := [(h0, .inr (11, [.int th, .int 1, .int 0, .int 1, .ref q_3, .ref sbq])), (q_3, .inl (ci, 119, .inl (RW vx_309 vx_310 vx_311 vx_312)))]) [1, 2] rfl
    have hDc := hD.sub (ws' := [(h0, .inr (11, [.int th, .int 1, .int 0, .int 1, .ref q_3, .ref sbq])), (q_3, .inl (ci, 119, .inl (RW vx_309 vx_310 vx_311 vx_312)))]) [1, 2] (by decide) rfl
    have hKc := hK.sub (tys' := [(ci, .int)]) [0] rfl
    have hFc := va_free (wc := [(h0, .inr (11, [.int th, .int 1, .int 0, .int 1, .ref q_3, .ref sbq])), (q_3, .inl (ci, 119, .inl (RW vx_309 vx_310 vx_311 vx_312)))]) hD hS hA [1, 2] rfl
    refine va_calli (va_runV (As := [.int x_322]) (rest := []) ⟨hx, hb, hml, hown, hts⟩ (c_ringOne l hl9 dC dI tE h0 q_3 sbq th ci vx_309 vx_310 vx_311 vx_312 x_322 _ ) (cwV 1 hts (goodIn_app (goodIn_r _ [54, 55, 56, 7] (by rfl) (by decide +kernel)) gg_c_homeBy_c_ringOne) rfl rfl rfl (by decide +kernel) ⟨Nat.le_of_ble_eq_true rfl, Nat.le_of_ble_eq_true rfl⟩) ⟨Pre0.blind, va_recv hKc hPc (ci := 11) (q0 := 0) rfl rfl, Pre0.give hPc hKc hDc hT hS hFc⟩ rfl rfl hl.1 rfl (lv_room (Nat.le_of_ble_eq_true rfl)) dX6_homeBy_65 ⟨Nat.le_of_ble_eq_true rfl, Nat.le_of_ble_eq_true rfl⟩) hS (fun q _ h => hFc q h) hFc (fun r_324 u t H1 locs ht hvm hw hB hz1 hk1 hS => ?_)
    obtain ⟨vx_325, vx_326, vx_327, vx_328, hP1, hK1, hD1⟩ := hB
    rw [ht] at hP1
    have hK1 := va_K.moved hvm.symm hK1
    obtain ⟨hP, hD⟩ := va_join (wr := [(rq, .inl (ci, 119, .inl (RW xh xr xt xw)))]) (w1 := [(h0, .inr (11, [.int th, .int 1, .int 0, .int 1, .ref q_3, .ref sbq])), (q_3, .inl (ci, 119, .inl (RW vx_325 vx_326 vx_327 vx_328)))]) hP hD [1, 2] [0] rfl rfl (by decide) (by decide) hk1 hFc hP1 hD1
    generalize H1 = H at hP hS ⊢
    have hP : va_P (dC, dI) vwCl [(rq, .inl (ci, 119, .inl (RW xh xr xt xw))), (h0, .inr (11, [.int th, .int 1, .int 0, .int 1, .ref q_3, .ref sbq])), (q_3, .inl (ci, 119, .inl (RW vx_325 vx_326 vx_327 vx_328)))] H := hP
    have hD : va_D A [(rq, .inl (ci, 119, .inl (RW xh xr xt xw))), (h0, .inr (11, [.int th, .int 1, .int 0, .int 1, .ref q_3, .ref sbq])), (q_3, .inl (ci, 119, .inl (RW vx_325 vx_326 vx_327 vx_328)))] := hD
    refine W.widen (k := 1) (n := 119) (by omega) (by omega) ?_
    obtain rfl : r_324 = 0 := hw
    refine lv_pop hx hb dX6_homeBy_68 rfl ?_
    refine lv_aload_n hx hb dX6_homeBy_69 rfl (lv_at hl 4 rfl) ?_
    refine lv_iload_n hx hb dX6_homeBy_70 rfl (lv_at hl 5 rfl) ?_
    have hPc := hP.sub (ws' := [(h0, .inr (11, [.int th, .int 1, .int 0, .int 1, .ref q_3, .ref sbq])), (q_3, .inl (ci, 119, .inl (RW vx_325 vx_326 vx_327 vx_328)))]) [1, 2] rfl
    have hDc := hD.sub (ws' := [(h0, .inr (11, [.int th, .int 1, .int 0, .int 1, .ref q_3, .ref sbq])), (q_3, .inl (ci, 119, .inl (RW vx_325 vx_326 vx_327 vx_328)))]) [1, 2] (by decide) rfl
    have hKc := hK.sub (tys' := [(ci, .int)]) [0] rfl
    have hFc := va_free (wc := [(h0, .inr (11, [.int th, .int 1, .int 0, .int 1, .ref q_3, .ref sbq])), (q_3, .inl (ci, 119, .inl (RW vx_325 vx_326 vx_327 vx_328)))]) hD hS hA [1, 2] rfl
    refine va_calli (va_runV (As := [.int 0]) (rest := []) ⟨hx, hb, hml, hown, hts⟩ (c_isHome l hl9 dC dI tE h0 q_3 sbq th ci vx_325 vx_326 vx_327 vx_328 _ ) (cwV 1 hts (goodIn_app (goodIn_r _ [8, 9, 10, 7] (by rfl) (by decide +kernel)) gg_c_homeBy_c_isHome) rfl rfl rfl (by decide +kernel) ⟨Nat.le_of_ble_eq_true rfl, Nat.le_of_ble_eq_true rfl⟩) ⟨Pre0.blind, va_recv hKc hPc (ci := 11) (q0 := 0) rfl rfl, Pre0.give hPc hKc hDc hT hS hFc⟩ rfl rfl hl.1 rfl (lv_room (Nat.le_of_ble_eq_true rfl)) dX6_homeBy_71 ⟨Nat.le_of_ble_eq_true rfl, Nat.le_of_ble_eq_true rfl⟩) hS (fun q _ h => hFc q h) hFc (fun r_329 u t H1 locs ht hvm hw hB hz1 hk1 hS => ?_)
    obtain ⟨hP1, hK1, hD1⟩ := hB
    rw [ht] at hP1
    have hK1 := va_K.moved hvm.symm hK1
    obtain ⟨hP, hD⟩ := va_join (wr := [(rq, .inl (ci, 119, .inl (RW xh xr xt xw)))]) (w1 := [(h0, .inr (11, [.int th, .int 1, .int 0, .int 1, .ref q_3, .ref sbq])), (q_3, .inl (ci, 119, .inl (RW vx_325 vx_326 vx_327 vx_328)))]) hP hD [1, 2] [0] rfl rfl (by decide) (by decide) hk1 hFc hP1 hD1
    generalize H1 = H at hP hS ⊢
    have hP : va_P (dC, dI) vwCl [(rq, .inl (ci, 119, .inl (RW xh xr xt xw))), (h0, .inr (11, [.int th, .int 1, .int 0, .int 1, .ref q_3, .ref sbq])), (q_3, .inl (ci, 119, .inl (RW vx_325 vx_326 vx_327 vx_328)))] H := hP
    have hD : va_D A [(rq, .inl (ci, 119, .inl (RW xh xr xt xw))), (h0, .inr (11, [.int th, .int 1, .int 0, .int 1, .ref q_3, .ref sbq])), (q_3, .inl (ci, 119, .inl (RW vx_325 vx_326 vx_327 vx_328)))] := hD
    refine W.widen (k := 1) (n := 119) (by omega) (by omega) ?_
    obtain rfl : r_329 = 0 := hw
    refine lv_if_eq (tgt := 81) hx hb dX6_homeBy_74 (by decide) (fun _ => ?_) (fun c_330 => absurd (by decide) c_330)
    refine lv_iinc (v := 6) (lv' := [(6, .int 6), (5, .int 6), (4, .int (-1)), (3, .ref rq), (0, .ref h0), (1, .int 0), (2, .int p1)]) hx hb dX6_homeBy_81 hl (k := 0) rfl (by decide) (by decide) rfl (fun ls hl => ?_)
    refine lv_goto (tgt := 38) hx hb dX6_homeBy_84 (by decide) ?_
    refine lv_iload hx hb dX6_homeBy_38 (lv_at hl 0 rfl) ?_
    refine lv_iload hx hb dX6_homeBy_40 (lv_at hl 1 rfl) ?_
    refine lv_icmp_gt (tgt := 87) hx hb dX6_homeBy_42 (by decide) (fun c_331 => absurd c_331 (by decide)) (fun _ => ?_)
    refine lv_iload hx hb dX6_homeBy_45 (lv_at hl 2 rfl) ?_
    refine lv_iconst (v := (-1)) hx hb dX6_homeBy_47 (by decide) ?_
    refine lv_icmp_ne (tgt := 87) hx hb dX6_homeBy_48 (by decide) (fun c_332 => absurd (by decide) c_332) (fun _ => ?_)
    refine lv_aload_n hx hb dX6_homeBy_51 rfl (lv_at hl 4 rfl) ?_
    refine lv_iload_n hx hb dX6_homeBy_52 rfl (lv_at hl 6 rfl) ?_
    refine lv_iload hx hb dX6_homeBy_53 (lv_at hl 1 rfl) ?_
    refine lv_iload hx hb dX6_homeBy_55 (lv_at hl 0 rfl) ?_
    refine lv_isub hx hb dX6_homeBy_57 ?_
    refine lv_topi (fun x_333 e_334 => ?_)
    obtain rfl : x_333 = 0 := e_334.trans (by decide)
    have hPc := hP.sub (ws' := []) [] rfl
    have hDc := hD.sub (ws' := []) [] (by decide) rfl
    have hKc := hK.sub (tys' := []) [] rfl
    have hFc := va_free (wc := []) hD hS hA [] rfl
    refine va_calli (va_runS (As := [.int 0]) (rest := [.int p1, .ref h0]) ⟨hx, hb, hml, hown, hts⟩ (c_power_0 l hl9 dC dI tE  _ ) (va_cwS 1 hts (goodIn_app (goodIn_r _ [24, 25, 7] (by rfl) (by decide +kernel)) gg_c_homeBy_c_power_0) rfl rfl rfl (by decide +kernel) ⟨Nat.le_of_ble_eq_true rfl, Nat.le_of_ble_eq_true rfl⟩) ⟨Pre0.blind, Pre0.give hPc hKc hDc hT hS hFc⟩ rfl rfl hl.1 rfl (lv_room (Nat.le_of_ble_eq_true rfl)) dX6_homeBy_58 ⟨Nat.le_of_ble_eq_true rfl, Nat.le_of_ble_eq_true rfl⟩) hS (fun q _ h => hFc q h) hFc (fun r_335 u t H1 locs ht hvm hw hB hz1 hk1 hS => ?_)
    obtain ⟨hP1, hK1, hD1⟩ := hB
    rw [ht] at hP1
    have hK1 := va_K.moved hvm.symm hK1
    obtain ⟨hP, hD⟩ := va_join (wr := [(rq, .inl (ci, 119, .inl (RW xh xr xt xw))), (h0, .inr (11, [.int th, .int 1, .int 0, .int 1, .ref q_3, .ref sbq])), (q_3, .inl (ci, 119, .inl (RW vx_325 vx_326 vx_327 vx_328)))]) (w1 := []) hP hD [] [0, 1, 2] rfl rfl (by decide) (by decide) hk1 hFc hP1 hD1
    generalize H1 = H at hP hS ⊢
    have hP : va_P (dC, dI) vwCl [(rq, .inl (ci, 119, .inl (RW xh xr xt xw))), (h0, .inr (11, [.int th, .int 1, .int 0, .int 1, .ref q_3, .ref sbq])), (q_3, .inl (ci, 119, .inl (RW vx_325 vx_326 vx_327 vx_328)))] H := hP
    have hD : va_D A [(rq, .inl (ci, 119, .inl (RW xh xr xt xw))), (h0, .inr (11, [.int th, .int 1, .int 0, .int 1, .ref q_3, .ref sbq])), (q_3, .inl (ci, 119, .inl (RW vx_325 vx_326 vx_327 vx_328)))] := hD
    refine W.widen (k := 1) (n := 119) (by omega) (by omega) ?_
    obtain rfl : r_335 = 1 := hw
    refine lv_idiv hx hb dX6_homeBy_61 (by decide) ?_
    refine lv_topi (fun x_336 e_337 => ?_)
    refine lv_bipush (v := 10) hx hb dX6_homeBy_62 (by decide) ?_
    refine lv_irem hx hb dX6_homeBy_64 (by decide) ?_
    refine lv_topi (fun x_338 e_339 => ?_)
    have hPc := hP.sub (ws' := [(h0, .inr (11, [.int th, .int 1, .int 0, .int 1, .ref q_3, .ref sbq])), (q_3, .inl (ci, 119, .inl (RW vx_325 vx_326 vx_327 vx_328)))]) [1, 2] rfl
    have hDc := hD.sub (ws' := [(h0, .inr (11, [.int th, .int 1, .int 0, .int 1, .ref q_3, .ref sbq])), (q_3, .inl (ci, 119, .inl (RW vx_325 vx_326 vx_327 vx_328)))]) [1, 2] (by decide) rfl
    have hKc := hK.sub (tys' := [(ci, .int)]) [0] rfl
    have hFc := va_free (wc := [(h0, .inr (11, [.int th, .int 1, .int 0, .int 1, .ref q_3, .ref sbq])), (q_3, .inl (ci, 119, .inl (RW vx_325 vx_326 vx_327 vx_328)))]) hD hS hA [1, 2] rfl
    refine va_calli (va_runV (As := [.int x_338]) (rest := []) ⟨hx, hb, hml, hown, hts⟩ (c_ringOne l hl9 dC dI tE h0 q_3 sbq th ci vx_325 vx_326 vx_327 vx_328 x_338 _ ) (cwV 1 hts (goodIn_app (goodIn_r _ [54, 55, 56, 7] (by rfl) (by decide +kernel)) gg_c_homeBy_c_ringOne) rfl rfl rfl (by decide +kernel) ⟨Nat.le_of_ble_eq_true rfl, Nat.le_of_ble_eq_true rfl⟩) ⟨Pre0.blind, va_recv hKc hPc (ci := 11) (q0 := 0) rfl rfl, Pre0.give hPc hKc hDc hT hS hFc⟩ rfl rfl hl.1 rfl (lv_room (Nat.le_of_ble_eq_true rfl)) dX6_homeBy_65 ⟨Nat.le_of_ble_eq_true rfl, Nat.le_of_ble_eq_true rfl⟩) hS (fun q _ h => hFc q h) hFc (fun r_340 u t H1 locs ht hvm hw hB hz1 hk1 hS => ?_)
    obtain ⟨vx_341, vx_342, vx_343, vx_344, hP1, hK1, hD1⟩ := hB
    rw [ht] at hP1
    have hK1 := va_K.moved hvm.symm hK1
    obtain ⟨hP, hD⟩ := va_join (wr := [(rq, .inl (ci, 119, .inl (RW xh xr xt xw)))]) (w1 := [(h0, .inr (11, [.int th, .int 1, .int 0, .int 1, .ref q_3, .ref sbq])), (q_3, .inl (ci, 119, .inl (RW vx_341 vx_342 vx_343 vx_344)))]) hP hD [1, 2] [0] rfl rfl (by decide) (by decide) hk1 hFc hP1 hD1
    generalize H1 = H at hP hS ⊢
    have hP : va_P (dC, dI) vwCl [(rq, .inl (ci, 119, .inl (RW xh xr xt xw))), (h0, .inr (11, [.int th, .int 1, .int 0, .int 1, .ref q_3, .ref sbq])), (q_3, .inl (ci, 119, .inl (RW vx_341 vx_342 vx_343 vx_344)))] H := hP
    have hD : va_D A [(rq, .inl (ci, 119, .inl (RW xh xr xt xw))), (h0, .inr (11, [.int th, .int 1, .int 0, .int 1, .ref q_3, .ref sbq])), (q_3, .inl (ci, 119, .inl (RW vx_341 vx_342 vx_343 vx_344)))] := hD
    refine W.widen (k := 1) (n := 119) (by omega) (by omega) ?_
    obtain rfl : r_340 = 0 := hw
    refine lv_pop hx hb dX6_homeBy_68 rfl ?_
    refine lv_aload_n hx hb dX6_homeBy_69 rfl (lv_at hl 4 rfl) ?_
    refine lv_iload_n hx hb dX6_homeBy_70 rfl (lv_at hl 5 rfl) ?_
    have hPc := hP.sub (ws' := [(h0, .inr (11, [.int th, .int 1, .int 0, .int 1, .ref q_3, .ref sbq])), (q_3, .inl (ci, 119, .inl (RW vx_341 vx_342 vx_343 vx_344)))]) [1, 2] rfl
    have hDc := hD.sub (ws' := [(h0, .inr (11, [.int th, .int 1, .int 0, .int 1, .ref q_3, .ref sbq])), (q_3, .inl (ci, 119, .inl (RW vx_341 vx_342 vx_343 vx_344)))]) [1, 2] (by decide) rfl
    have hKc := hK.sub (tys' := [(ci, .int)]) [0] rfl
    have hFc := va_free (wc := [(h0, .inr (11, [.int th, .int 1, .int 0, .int 1, .ref q_3, .ref sbq])), (q_3, .inl (ci, 119, .inl (RW vx_341 vx_342 vx_343 vx_344)))]) hD hS hA [1, 2] rfl
    refine va_calli (va_runV (As := [.int 0]) (rest := []) ⟨hx, hb, hml, hown, hts⟩ (c_isHome l hl9 dC dI tE h0 q_3 sbq th ci vx_341 vx_342 vx_343 vx_344 _ ) (cwV 1 hts (goodIn_app (goodIn_r _ [8, 9, 10, 7] (by rfl) (by decide +kernel)) gg_c_homeBy_c_isHome) rfl rfl rfl (by decide +kernel) ⟨Nat.le_of_ble_eq_true rfl, Nat.le_of_ble_eq_true rfl⟩) ⟨Pre0.blind, va_recv hKc hPc (ci := 11) (q0 := 0) rfl rfl, Pre0.give hPc hKc hDc hT hS hFc⟩ rfl rfl hl.1 rfl (lv_room (Nat.le_of_ble_eq_true rfl)) dX6_homeBy_71 ⟨Nat.le_of_ble_eq_true rfl, Nat.le_of_ble_eq_true rfl⟩) hS (fun q _ h => hFc q h) hFc (fun r_345 u t H1 locs ht hvm hw hB hz1 hk1 hS => ?_)
    obtain ⟨hP1, hK1, hD1⟩ := hB
    rw [ht] at hP1
    have hK1 := va_K.moved hvm.symm hK1
    obtain ⟨hP, hD⟩ := va_join (wr := [(rq, .inl (ci, 119, .inl (RW xh xr xt xw)))]) (w1 := [(h0, .inr (11, [.int th, .int 1, .int 0, .int 1, .ref q_3, .ref sbq])), (q_3, .inl (ci, 119, .inl (RW vx_341 vx_342 vx_343 vx_344)))]) hP hD [1, 2] [0] rfl rfl (by decide) (by decide) hk1 hFc hP1 hD1
    generalize H1 = H at hP hS ⊢
    have hP : va_P (dC, dI) vwCl [(rq, .inl (ci, 119, .inl (RW xh xr xt xw))), (h0, .inr (11, [.int th, .int 1, .int 0, .int 1, .ref q_3, .ref sbq])), (q_3, .inl (ci, 119, .inl (RW vx_341 vx_342 vx_343 vx_344)))] H := hP
    have hD : va_D A [(rq, .inl (ci, 119, .inl (RW xh xr xt xw))), (h0, .inr (11, [.int th, .int 1, .int 0, .int 1, .ref q_3, .ref sbq])), (q_3, .inl (ci, 119, .inl (RW vx_341 vx_342 vx_343 vx_344)))] := hD
    refine W.widen (k := 1) (n := 119) (by omega) (by omega) ?_
    obtain rfl : r_345 = 0 := hw
    refine lv_if_eq (tgt := 81) hx hb dX6_homeBy_74 (by decide) (fun _ => ?_) (fun c_346 => absurd (by decide) c_346)
    refine lv_iinc (v := 7) (lv' := [(6, .int 7), (5, .int 6), (4, .int (-1)), (3, .ref rq), (0, .ref h0), (1, .int 0), (2, .int p1)]) hx hb dX6_homeBy_81 hl (k := 0) rfl (by decide) (by decide) rfl (fun ls hl => ?_)
    refine lv_goto (tgt := 38) hx hb dX6_homeBy_84 (by decide) ?_
    refine lv_iload hx hb dX6_homeBy_38 (lv_at hl 0 rfl) ?_
    refine lv_iload hx hb dX6_homeBy_40 (lv_at hl 1 rfl) ?_
    refine lv_icmp_gt (tgt := 87) hx hb dX6_homeBy_42 (by decide) (fun _ => ?_) (fun c_347 => absurd (by decide) c_347)
    refine lv_aload_n hx hb dX6_homeBy_87 rfl (lv_at hl 4 rfl) ?_
    refine lv_aload_n hx hb dX6_homeBy_88 rfl (lv_at hl 3 rfl) ?_
    refine va_put (D := (dC, dI)) (ci := 11) (v := .ref rq) (ty := .array .int) (C := RX6) (T := TX6) (N := 6) hx hb hts u_c_homeBy_X6 tyX6 tyX6_ok nmX6 hown hK hP hD hS 1 rfl rfl 4 (by decide) (hts (.fieldLink RX6 9 "HotelOfBellsModel" "row" "[I") (List.mem_of_getElem? (i := 3) rfl)) (fun _ h9 => h9) rfl (by decide +kernel) rfl rfl (Nat.le_of_ble_eq_true rfl) dX6_homeBy_89 (fun H locs hP hD hS => ?_)
    have hP : va_P (dC, dI) vwCl [(rq, .inl (ci, 119, .inl (RW xh xr xt xw))), (h0, .inr (11, [.int th, .int 1, .int 0, .int 1, .ref rq, .ref sbq])), (q_3, .inl (ci, 119, .inl (RW vx_341 vx_342 vx_343 vx_344)))] H := hP
    have hD : va_D A [(rq, .inl (ci, 119, .inl (RW xh xr xt xw))), (h0, .inr (11, [.int th, .int 1, .int 0, .int 1, .ref rq, .ref sbq])), (q_3, .inl (ci, 119, .inl (RW vx_341 vx_342 vx_343 vx_344)))] := hD
    refine lv_iload hx hb dX6_homeBy_92 (lv_at hl 2 rfl) ?_
    have hP9 := hP.sub (ws' := [(h0, .inr (11, [.int th, .int 1, .int 0, .int 1, .ref rq, .ref sbq])), (rq, .inl (ci, 119, .inl (RW xh xr xt xw))), (q_3, .inl (ci, 119, .inl (RW vx_341 vx_342 vx_343 vx_344)))]) [1, 0, 2] rfl
    have hD9 := hD.sub (ws' := [(h0, .inr (11, [.int th, .int 1, .int 0, .int 1, .ref rq, .ref sbq])), (rq, .inl (ci, 119, .inl (RW xh xr xt xw))), (q_3, .inl (ci, 119, .inl (RW vx_341 vx_342 vx_343 vx_344)))]) [1, 0, 2] (by decide) rfl
    have hK9 := hK.sub (tys' := [(ci, .int)]) [0] rfl
    exact W.iret (v := (-1)) hx hb hr (fun t ht hW => ⟨⟨(-1), (), rfl, rfl, q_3, (RW vx_341 vx_342 vx_343 vx_344), by rw [ht]; exact hP9, va_K.moved hW.alike hK9, hD9⟩, hS.F ht⟩) hS.2.2 dX6_homeBy_94
