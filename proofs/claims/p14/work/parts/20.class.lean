theorem dX1_hearsItsTune_0 : decode cX1_hearsItsTune 0 = .ok (.iload_n 1, 1) := by decide +kernel
theorem dX1_hearsItsTune_1 : decode cX1_hearsItsTune 1 = .ok (.aload_n 0, 1) := by decide +kernel
theorem dX1_hearsItsTune_12 : decode cX1_hearsItsTune 12 = .ok (.if_icmp .ne 7, 3) := by decide +kernel
theorem dX1_hearsItsTune_15 : decode cX1_hearsItsTune 15 = .ok (.iconst 1, 1) := by decide +kernel
theorem dX1_hearsItsTune_16 : decode cX1_hearsItsTune 16 = .ok (.goto 4, 3) := by decide +kernel
theorem dX1_hearsItsTune_19 : decode cX1_hearsItsTune 19 = .ok (.iconst 0, 1) := by decide +kernel
theorem dX1_hearsItsTune_2 : decode cX1_hearsItsTune 2 = .ok (.getfield 13, 3) := by decide +kernel
theorem dX1_hearsItsTune_20 : decode cX1_hearsItsTune 20 = .ok (.ireturn, 1) := by decide +kernel
theorem dX1_hearsItsTune_5 : decode cX1_hearsItsTune 5 = .ok (.invokestatic 19, 3) := by decide +kernel
theorem dX1_hearsItsTune_8 : decode cX1_hearsItsTune 8 = .ok (.aload_n 0, 1) := by decide +kernel
theorem dX1_hearsItsTune_9 : decode cX1_hearsItsTune 9 = .ok (.getfield 7, 3) := by decide +kernel
theorem dX1_nextTurn_0 : decode cX1_nextTurn 0 = .ok (.iload_n 1, 1) := by decide +kernel
theorem dX1_nextTurn_1 : decode cX1_nextTurn 1 = .ok (.aload_n 0, 1) := by decide +kernel
theorem dX1_nextTurn_11 : decode cX1_nextTurn 11 = .ok (.imul, 1) := by decide +kernel
theorem dX1_nextTurn_12 : decode cX1_nextTurn 12 = .ok (.iadd, 1) := by decide +kernel
theorem dX1_nextTurn_13 : decode cX1_nextTurn 13 = .ok (.aload_n 0, 1) := by decide +kernel
theorem dX1_nextTurn_14 : decode cX1_nextTurn 14 = .ok (.getfield 16, 3) := by decide +kernel
theorem dX1_nextTurn_17 : decode cX1_nextTurn 17 = .ok (.invokestatic 19, 3) := by decide +kernel
theorem dX1_nextTurn_2 : decode cX1_nextTurn 2 = .ok (.getfield 25, 3) := by decide +kernel
theorem dX1_nextTurn_20 : decode cX1_nextTurn 20 = .ok (.ireturn, 1) := by decide +kernel
theorem dX1_nextTurn_5 : decode cX1_nextTurn 5 = .ok (.iadd, 1) := by decide +kernel
theorem dX1_nextTurn_6 : decode cX1_nextTurn 6 = .ok (.iconst 2, 1) := by decide +kernel
theorem dX1_nextTurn_7 : decode cX1_nextTurn 7 = .ok (.aload_n 0, 1) := by decide +kernel
theorem dX1_nextTurn_8 : decode cX1_nextTurn 8 = .ok (.getfield 16, 3) := by decide +kernel
theorem dX2_becomeLike_0 : decode cX2_becomeLike 0 = .ok (.aload_n 0, 1) := by decide +kernel
theorem dX2_becomeLike_1 : decode cX2_becomeLike 1 = .ok (.aload_n 1, 1) := by decide +kernel
theorem dX2_becomeLike_10 : decode cX2_becomeLike 10 = .ok (.getfield 18, 3) := by decide +kernel
theorem dX2_becomeLike_13 : decode cX2_becomeLike 13 = .ok (.putfield 18, 3) := by decide +kernel
theorem dX2_becomeLike_16 : decode cX2_becomeLike 16 = .ok (.aload_n 0, 1) := by decide +kernel
theorem dX2_becomeLike_17 : decode cX2_becomeLike 17 = .ok (.aload_n 1, 1) := by decide +kernel
theorem dX2_becomeLike_18 : decode cX2_becomeLike 18 = .ok (.getfield 9, 3) := by decide +kernel
theorem dX2_becomeLike_2 : decode cX2_becomeLike 2 = .ok (.getfield 15, 3) := by decide +kernel
theorem dX2_becomeLike_21 : decode cX2_becomeLike 21 = .ok (.putfield 9, 3) := by decide +kernel
theorem dX2_becomeLike_24 : decode cX2_becomeLike 24 = .ok (.aload_n 0, 1) := by decide +kernel
theorem dX2_becomeLike_25 : decode cX2_becomeLike 25 = .ok (.aload_n 1, 1) := by decide +kernel
theorem dX2_becomeLike_26 : decode cX2_becomeLike 26 = .ok (.getfield 21, 3) := by decide +kernel
theorem dX2_becomeLike_29 : decode cX2_becomeLike 29 = .ok (.putfield 21, 3) := by decide +kernel
theorem dX2_becomeLike_32 : decode cX2_becomeLike 32 = .ok (.aload_n 0, 1) := by decide +kernel
theorem dX2_becomeLike_33 : decode cX2_becomeLike 33 = .ok (.aload_n 1, 1) := by decide +kernel
theorem dX2_becomeLike_34 : decode cX2_becomeLike 34 = .ok (.getfield 24, 3) := by decide +kernel
theorem dX2_becomeLike_37 : decode cX2_becomeLike 37 = .ok (.putfield 24, 3) := by decide +kernel
theorem dX2_becomeLike_40 : decode cX2_becomeLike 40 = .ok (.aload_n 0, 1) := by decide +kernel
theorem dX2_becomeLike_41 : decode cX2_becomeLike 41 = .ok (.aload_n 1, 1) := by decide +kernel
theorem dX2_becomeLike_42 : decode cX2_becomeLike 42 = .ok (.getfield 27, 3) := by decide +kernel
theorem dX2_becomeLike_45 : decode cX2_becomeLike 45 = .ok (.putfield 27, 3) := by decide +kernel
theorem dX2_becomeLike_48 : decode cX2_becomeLike 48 = .ok (.return_, 1) := by decide +kernel
theorem dX2_becomeLike_5 : decode cX2_becomeLike 5 = .ok (.putfield 15, 3) := by decide +kernel
theorem dX2_becomeLike_8 : decode cX2_becomeLike 8 = .ok (.aload_n 0, 1) := by decide +kernel
theorem dX2_becomeLike_9 : decode cX2_becomeLike 9 = .ok (.aload_n 1, 1) := by decide +kernel
theorem dX2_isHome_0 : decode cX2_isHome 0 = .ok (.aload_n 0, 1) := by decide +kernel
theorem dX2_isHome_1 : decode cX2_isHome 1 = .ok (.getfield 15, 3) := by decide +kernel
theorem dX2_isHome_11 : decode cX2_isHome 11 = .ok (.aload_n 0, 1) := by decide +kernel
theorem dX2_isHome_12 : decode cX2_isHome 12 = .ok (.getfield 18, 3) := by decide +kernel
theorem dX2_isHome_15 : decode cX2_isHome 15 = .ok (.aload_n 0, 1) := by decide +kernel
theorem dX2_isHome_16 : decode cX2_isHome 16 = .ok (.getfield 24, 3) := by decide +kernel
theorem dX2_isHome_19 : decode cX2_isHome 19 = .ok (.if_icmp .ne 7, 3) := by decide +kernel
theorem dX2_isHome_26 : decode cX2_isHome 26 = .ok (.iconst 0, 1) := by decide +kernel
theorem dX2_isHome_27 : decode cX2_isHome 27 = .ok (.ireturn, 1) := by decide +kernel
theorem dX2_isHome_4 : decode cX2_isHome 4 = .ok (.aload_n 0, 1) := by decide +kernel
theorem dX2_isHome_5 : decode cX2_isHome 5 = .ok (.getfield 21, 3) := by decide +kernel
theorem dX2_isHome_8 : decode cX2_isHome 8 = .ok (.if_icmp .ne 18, 3) := by decide +kernel
theorem dX3_becomeLike_0 : decode cX3_becomeLike 0 = .ok (.aload_n 0, 1) := by decide +kernel
theorem dX3_becomeLike_1 : decode cX3_becomeLike 1 = .ok (.aload_n 1, 1) := by decide +kernel
theorem dX3_becomeLike_10 : decode cX3_becomeLike 10 = .ok (.iload_n 2, 1) := by decide +kernel
theorem dX3_becomeLike_11 : decode cX3_becomeLike 11 = .ok (.aload_n 0, 1) := by decide +kernel
theorem dX3_becomeLike_12 : decode cX3_becomeLike 12 = .ok (.getfield 9, 3) := by decide +kernel
theorem dX3_becomeLike_15 : decode cX3_becomeLike 15 = .ok (.arraylength, 1) := by decide +kernel
theorem dX3_becomeLike_16 : decode cX3_becomeLike 16 = .ok (.if_icmp .ge 20, 3) := by decide +kernel
theorem dX3_becomeLike_19 : decode cX3_becomeLike 19 = .ok (.aload_n 0, 1) := by decide +kernel
theorem dX3_becomeLike_2 : decode cX3_becomeLike 2 = .ok (.getfield 22, 3) := by decide +kernel
theorem dX3_becomeLike_20 : decode cX3_becomeLike 20 = .ok (.getfield 9, 3) := by decide +kernel
theorem dX3_becomeLike_23 : decode cX3_becomeLike 23 = .ok (.iload_n 2, 1) := by decide +kernel
theorem dX3_becomeLike_24 : decode cX3_becomeLike 24 = .ok (.aload_n 1, 1) := by decide +kernel
theorem dX3_becomeLike_25 : decode cX3_becomeLike 25 = .ok (.iload_n 2, 1) := by decide +kernel
theorem dX3_becomeLike_26 : decode cX3_becomeLike 26 = .ok (.invokevirtual 26, 3) := by decide +kernel
theorem dX3_becomeLike_29 : decode cX3_becomeLike 29 = .ok (.iastore, 1) := by decide +kernel
theorem dX3_becomeLike_30 : decode cX3_becomeLike 30 = .ok (.iinc 2 1, 3) := by decide +kernel
theorem dX3_becomeLike_33 : decode cX3_becomeLike 33 = .ok (.goto (-23), 3) := by decide +kernel
theorem dX3_becomeLike_36 : decode cX3_becomeLike 36 = .ok (.iconst 0, 1) := by decide +kernel
theorem dX3_becomeLike_37 : decode cX3_becomeLike 37 = .ok (.istore_n 2, 1) := by decide +kernel
theorem dX3_becomeLike_38 : decode cX3_becomeLike 38 = .ok (.iload_n 2, 1) := by decide +kernel
theorem dX3_becomeLike_39 : decode cX3_becomeLike 39 = .ok (.aload_n 0, 1) := by decide +kernel
theorem dX3_becomeLike_40 : decode cX3_becomeLike 40 = .ok (.getfield 15, 3) := by decide +kernel
theorem dX3_becomeLike_43 : decode cX3_becomeLike 43 = .ok (.arraylength, 1) := by decide +kernel
theorem dX3_becomeLike_44 : decode cX3_becomeLike 44 = .ok (.if_icmp .ge 48, 3) := by decide +kernel
theorem dX3_becomeLike_47 : decode cX3_becomeLike 47 = .ok (.iload_n 2, 1) := by decide +kernel
theorem dX3_becomeLike_48 : decode cX3_becomeLike 48 = .ok (.aload_n 0, 1) := by decide +kernel
theorem dX3_becomeLike_49 : decode cX3_becomeLike 49 = .ok (.getfield 18, 3) := by decide +kernel
theorem dX3_becomeLike_5 : decode cX3_becomeLike 5 = .ok (.putfield 22, 3) := by decide +kernel
theorem dX3_becomeLike_52 : decode cX3_becomeLike 52 = .ok (.arraylength, 1) := by decide +kernel
theorem dX3_becomeLike_53 : decode cX3_becomeLike 53 = .ok (.if_icmp .ge 39, 3) := by decide +kernel
theorem dX3_becomeLike_56 : decode cX3_becomeLike 56 = .ok (.aload_n 0, 1) := by decide +kernel
theorem dX3_becomeLike_57 : decode cX3_becomeLike 57 = .ok (.getfield 15, 3) := by decide +kernel
theorem dX3_becomeLike_60 : decode cX3_becomeLike 60 = .ok (.iload_n 2, 1) := by decide +kernel
theorem dX3_becomeLike_61 : decode cX3_becomeLike 61 = .ok (.aload_n 1, 1) := by decide +kernel
theorem dX3_becomeLike_62 : decode cX3_becomeLike 62 = .ok (.iload_n 2, 1) := by decide +kernel
theorem dX3_becomeLike_63 : decode cX3_becomeLike 63 = .ok (.invokevirtual 30, 3) := by decide +kernel
theorem dX3_becomeLike_66 : decode cX3_becomeLike 66 = .ok (.iastore, 1) := by decide +kernel
theorem dX3_becomeLike_67 : decode cX3_becomeLike 67 = .ok (.aload_n 0, 1) := by decide +kernel
theorem dX3_becomeLike_68 : decode cX3_becomeLike 68 = .ok (.getfield 18, 3) := by decide +kernel
theorem dX3_becomeLike_71 : decode cX3_becomeLike 71 = .ok (.iload_n 2, 1) := by decide +kernel
theorem dX3_becomeLike_72 : decode cX3_becomeLike 72 = .ok (.aload_n 1, 1) := by decide +kernel
theorem dX3_becomeLike_73 : decode cX3_becomeLike 73 = .ok (.iload_n 2, 1) := by decide +kernel
theorem dX3_becomeLike_74 : decode cX3_becomeLike 74 = .ok (.invokevirtual 33, 3) := by decide +kernel
theorem dX3_becomeLike_77 : decode cX3_becomeLike 77 = .ok (.ifCond .ne 7, 3) := by decide +kernel
theorem dX3_becomeLike_8 : decode cX3_becomeLike 8 = .ok (.iconst 0, 1) := by decide +kernel
theorem dX3_becomeLike_84 : decode cX3_becomeLike 84 = .ok (.iconst 0, 1) := by decide +kernel
theorem dX3_becomeLike_85 : decode cX3_becomeLike 85 = .ok (.bastore, 1) := by decide +kernel
theorem dX3_becomeLike_86 : decode cX3_becomeLike 86 = .ok (.iinc 2 1, 3) := by decide +kernel
theorem dX3_becomeLike_89 : decode cX3_becomeLike 89 = .ok (.goto (-51), 3) := by decide +kernel
theorem dX3_becomeLike_9 : decode cX3_becomeLike 9 = .ok (.istore_n 2, 1) := by decide +kernel
theorem dX3_becomeLike_92 : decode cX3_becomeLike 92 = .ok (.return_, 1) := by decide +kernel
theorem dX3_heightOf_0 : decode cX3_heightOf 0 = .ok (.iload_n 1, 1) := by decide +kernel
theorem dX3_heightOf_1 : decode cX3_heightOf 1 = .ok (.ifCond .lt 21, 3) := by decide +kernel
theorem dX3_heightOf_10 : decode cX3_heightOf 10 = .ok (.if_icmp .ge 12, 3) := by decide +kernel
theorem dX3_heightOf_13 : decode cX3_heightOf 13 = .ok (.aload_n 0, 1) := by decide +kernel
theorem dX3_heightOf_14 : decode cX3_heightOf 14 = .ok (.getfield 15, 3) := by decide +kernel
theorem dX3_heightOf_17 : decode cX3_heightOf 17 = .ok (.iload_n 1, 1) := by decide +kernel
theorem dX3_heightOf_18 : decode cX3_heightOf 18 = .ok (.iaload, 1) := by decide +kernel
theorem dX3_heightOf_19 : decode cX3_heightOf 19 = .ok (.goto 4, 3) := by decide +kernel
theorem dX3_heightOf_23 : decode cX3_heightOf 23 = .ok (.ireturn, 1) := by decide +kernel
theorem dX3_heightOf_4 : decode cX3_heightOf 4 = .ok (.iload_n 1, 1) := by decide +kernel
theorem dX3_heightOf_5 : decode cX3_heightOf 5 = .ok (.aload_n 0, 1) := by decide +kernel
theorem dX3_heightOf_6 : decode cX3_heightOf 6 = .ok (.getfield 15, 3) := by decide +kernel
theorem dX3_heightOf_9 : decode cX3_heightOf 9 = .ok (.arraylength, 1) := by decide +kernel
theorem dX3_isRising_0 : decode cX3_isRising 0 = .ok (.iload_n 1, 1) := by decide +kernel
theorem dX3_isRising_1 : decode cX3_isRising 1 = .ok (.ifCond .lt 25, 3) := by decide +kernel
theorem dX3_isRising_10 : decode cX3_isRising 10 = .ok (.if_icmp .ge 16, 3) := by decide +kernel
theorem dX3_isRising_13 : decode cX3_isRising 13 = .ok (.aload_n 0, 1) := by decide +kernel
theorem dX3_isRising_14 : decode cX3_isRising 14 = .ok (.getfield 18, 3) := by decide +kernel
theorem dX3_isRising_17 : decode cX3_isRising 17 = .ok (.iload_n 1, 1) := by decide +kernel
theorem dX3_isRising_18 : decode cX3_isRising 18 = .ok (.baload, 1) := by decide +kernel
theorem dX3_isRising_19 : decode cX3_isRising 19 = .ok (.ifCond .ne 7, 3) := by decide +kernel
theorem dX3_isRising_22 : decode cX3_isRising 22 = .ok (.iconst 1, 1) := by decide +kernel
theorem dX3_isRising_23 : decode cX3_isRising 23 = .ok (.goto 4, 3) := by decide +kernel
theorem dX3_isRising_27 : decode cX3_isRising 27 = .ok (.ireturn, 1) := by decide +kernel
theorem dX3_isRising_4 : decode cX3_isRising 4 = .ok (.iload_n 1, 1) := by decide +kernel
theorem dX3_isRising_5 : decode cX3_isRising 5 = .ok (.aload_n 0, 1) := by decide +kernel
theorem dX3_isRising_6 : decode cX3_isRising 6 = .ok (.getfield 18, 3) := by decide +kernel
theorem dX3_isRising_9 : decode cX3_isRising 9 = .ok (.arraylength, 1) := by decide +kernel
theorem dX3_setTurn_0 : decode cX3_setTurn 0 = .ok (.iload_n 1, 1) := by decide +kernel
theorem dX3_setTurn_1 : decode cX3_setTurn 1 = .ok (.ifCond .lt 19, 3) := by decide +kernel
theorem dX3_setTurn_10 : decode cX3_setTurn 10 = .ok (.if_icmp .ge 10, 3) := by decide +kernel
theorem dX3_setTurn_13 : decode cX3_setTurn 13 = .ok (.aload_n 0, 1) := by decide +kernel
theorem dX3_setTurn_14 : decode cX3_setTurn 14 = .ok (.getfield 9, 3) := by decide +kernel
theorem dX3_setTurn_17 : decode cX3_setTurn 17 = .ok (.iload_n 1, 1) := by decide +kernel
theorem dX3_setTurn_18 : decode cX3_setTurn 18 = .ok (.iload_n 2, 1) := by decide +kernel
theorem dX3_setTurn_19 : decode cX3_setTurn 19 = .ok (.iastore, 1) := by decide +kernel
theorem dX3_setTurn_20 : decode cX3_setTurn 20 = .ok (.return_, 1) := by decide +kernel
theorem dX3_setTurn_4 : decode cX3_setTurn 4 = .ok (.iload_n 1, 1) := by decide +kernel
theorem dX3_setTurn_5 : decode cX3_setTurn 5 = .ok (.aload_n 0, 1) := by decide +kernel
theorem dX3_setTurn_6 : decode cX3_setTurn 6 = .ok (.getfield 9, 3) := by decide +kernel
theorem dX3_setTurn_9 : decode cX3_setTurn 9 = .ok (.arraylength, 1) := by decide +kernel
theorem dX3_turnOf_0 : decode cX3_turnOf 0 = .ok (.iload_n 1, 1) := by decide +kernel
theorem dX3_turnOf_1 : decode cX3_turnOf 1 = .ok (.ifCond .lt 21, 3) := by decide +kernel
theorem dX3_turnOf_10 : decode cX3_turnOf 10 = .ok (.if_icmp .ge 12, 3) := by decide +kernel
theorem dX3_turnOf_13 : decode cX3_turnOf 13 = .ok (.aload_n 0, 1) := by decide +kernel
theorem dX3_turnOf_14 : decode cX3_turnOf 14 = .ok (.getfield 9, 3) := by decide +kernel
theorem dX3_turnOf_17 : decode cX3_turnOf 17 = .ok (.iload_n 1, 1) := by decide +kernel
theorem dX3_turnOf_18 : decode cX3_turnOf 18 = .ok (.iaload, 1) := by decide +kernel
theorem dX3_turnOf_19 : decode cX3_turnOf 19 = .ok (.goto 4, 3) := by decide +kernel
theorem dX3_turnOf_23 : decode cX3_turnOf 23 = .ok (.ireturn, 1) := by decide +kernel
theorem dX3_turnOf_4 : decode cX3_turnOf 4 = .ok (.iload_n 1, 1) := by decide +kernel
theorem dX3_turnOf_5 : decode cX3_turnOf 5 = .ok (.aload_n 0, 1) := by decide +kernel
theorem dX3_turnOf_6 : decode cX3_turnOf 6 = .ok (.getfield 9, 3) := by decide +kernel
theorem dX3_turnOf_9 : decode cX3_turnOf 9 = .ok (.arraylength, 1) := by decide +kernel
theorem dX5_act_0 : decode cX5_act 0 = .ok (.aload_n 1, 1) := by decide +kernel
theorem dX5_act_1 : decode cX5_act 1 = .ok (.getfield 189, 3) := by decide +kernel
theorem dX5_act_25 : decode cX5_act 25 = .ok (.aload_n 1, 1) := by decide +kernel
theorem dX5_act_26 : decode cX5_act 26 = .ok (.invokevirtual 146, 3) := by decide +kernel
theorem dX5_act_29 : decode cX5_act 29 = .ok (.ifCond .ne 27, 3) := by decide +kernel
theorem dX5_act_32 : decode cX5_act 32 = .ok (.aload_n 0, 1) := by decide +kernel
theorem dX5_act_33 : decode cX5_act 33 = .ok (.aload_n 1, 1) := by decide +kernel
theorem dX5_act_34 : decode cX5_act 34 = .ok (.getfield 183, 3) := by decide +kernel
theorem dX5_act_37 : decode cX5_act 37 = .ok (.aload_n 1, 1) := by decide +kernel
theorem dX5_act_38 : decode cX5_act 38 = .ok (.getfield 186, 3) := by decide +kernel
theorem dX5_act_4 : decode cX5_act 4 = .ok (.iconst (-1), 1) := by decide +kernel
theorem dX5_act_41 : decode cX5_act 41 = .ok (.aload_n 2, 1) := by decide +kernel
theorem dX5_act_42 : decode cX5_act 42 = .ok (.invokevirtual 300, 3) := by decide +kernel
theorem dX5_act_45 : decode cX5_act 45 = .ok (.istore_n 3, 1) := by decide +kernel
theorem dX5_act_46 : decode cX5_act 46 = .ok (.iload_n 3, 1) := by decide +kernel
theorem dX5_act_47 : decode cX5_act 47 = .ok (.iconst (-1), 1) := by decide +kernel
theorem dX5_act_48 : decode cX5_act 48 = .ok (.if_icmp .eq 8, 3) := by decide +kernel
theorem dX5_act_5 : decode cX5_act 5 = .ok (.if_icmp .eq 20, 3) := by decide +kernel
theorem dX5_act_56 : decode cX5_act 56 = .ok (.iconst 0, 1) := by decide +kernel
theorem dX5_act_57 : decode cX5_act 57 = .ok (.ireturn, 1) := by decide +kernel
theorem dX5_heardWith_0 : decode cX5_heardWith 0 = .ok (.iload_n 0, 1) := by decide +kernel
theorem dX5_heardWith_1 : decode cX5_heardWith 1 = .ok (.ldc 247, 2) := by decide +kernel
theorem dX5_heardWith_10 : decode cX5_heardWith 10 = .ok (.iadd, 1) := by decide +kernel
theorem dX5_heardWith_11 : decode cX5_heardWith 11 = .ok (.ireturn, 1) := by decide +kernel
theorem dX5_heardWith_3 : decode cX5_heardWith 3 = .ok (.irem, 1) := by decide +kernel
theorem dX5_heardWith_4 : decode cX5_heardWith 4 = .ok (.bipush 10, 2) := by decide +kernel
theorem dX5_heardWith_6 : decode cX5_heardWith 6 = .ok (.imul, 1) := by decide +kernel
theorem dX5_heardWith_7 : decode cX5_heardWith 7 = .ok (.iload_n 1, 1) := by decide +kernel
theorem dX5_heardWith_8 : decode cX5_heardWith 8 = .ok (.iadd, 1) := by decide +kernel
theorem dX5_heardWith_9 : decode cX5_heardWith 9 = .ok (.iconst 1, 1) := by decide +kernel
theorem dX5_isFloor_0 : decode cX5_isFloor 0 = .ok (.iload_n 1, 1) := by decide +kernel
theorem dX5_isFloor_1 : decode cX5_isFloor 1 = .ok (.ifCond .lt 18, 3) := by decide +kernel
theorem dX5_isFloor_12 : decode cX5_isFloor 12 = .ok (.if_icmp .ge 7, 3) := by decide +kernel
theorem dX5_isFloor_15 : decode cX5_isFloor 15 = .ok (.iconst 1, 1) := by decide +kernel
theorem dX5_isFloor_16 : decode cX5_isFloor 16 = .ok (.goto 4, 3) := by decide +kernel
theorem dX5_isFloor_20 : decode cX5_isFloor 20 = .ok (.ireturn, 1) := by decide +kernel
theorem dX5_isFloor_4 : decode cX5_isFloor 4 = .ok (.iload_n 1, 1) := by decide +kernel
theorem dX5_isFloor_5 : decode cX5_isFloor 5 = .ok (.aload_n 0, 1) := by decide +kernel
theorem dX5_isFloor_6 : decode cX5_isFloor 6 = .ok (.getfield 10, 3) := by decide +kernel
theorem dX5_isFloor_9 : decode cX5_isFloor 9 = .ok (.invokevirtual 49, 3) := by decide +kernel
theorem dX5_isGuest_0 : decode cX5_isGuest 0 = .ok (.iload_n 1, 1) := by decide +kernel
theorem dX5_isGuest_1 : decode cX5_isGuest 1 = .ok (.ifCond .lt 18, 3) := by decide +kernel
theorem dX5_isGuest_12 : decode cX5_isGuest 12 = .ok (.if_icmp .ge 7, 3) := by decide +kernel
theorem dX5_isGuest_15 : decode cX5_isGuest 15 = .ok (.iconst 1, 1) := by decide +kernel
theorem dX5_isGuest_16 : decode cX5_isGuest 16 = .ok (.goto 4, 3) := by decide +kernel
theorem dX5_isGuest_20 : decode cX5_isGuest 20 = .ok (.ireturn, 1) := by decide +kernel
theorem dX5_isGuest_4 : decode cX5_isGuest 4 = .ok (.iload_n 1, 1) := by decide +kernel
theorem dX5_isGuest_5 : decode cX5_isGuest 5 = .ok (.aload_n 0, 1) := by decide +kernel
theorem dX5_isGuest_6 : decode cX5_isGuest 6 = .ok (.getfield 19, 3) := by decide +kernel
theorem dX5_isGuest_9 : decode cX5_isGuest 9 = .ok (.invokevirtual 49, 3) := by decide +kernel
theorem dX5_isRoom_0 : decode cX5_isRoom 0 = .ok (.aload_n 0, 1) := by decide +kernel
theorem dX5_isRoom_1 : decode cX5_isRoom 1 = .ok (.iload_n 1, 1) := by decide +kernel
theorem dX5_isRoom_12 : decode cX5_isRoom 12 = .ok (.iload_n 2, 1) := by decide +kernel
theorem dX5_isRoom_13 : decode cX5_isRoom 13 = .ok (.aload_n 0, 1) := by decide +kernel
theorem dX5_isRoom_14 : decode cX5_isRoom 14 = .ok (.getfield 10, 3) := by decide +kernel
theorem dX5_isRoom_17 : decode cX5_isRoom 17 = .ok (.iload_n 1, 1) := by decide +kernel
theorem dX5_isRoom_18 : decode cX5_isRoom 18 = .ok (.invokevirtual 84, 3) := by decide +kernel
theorem dX5_isRoom_2 : decode cX5_isRoom 2 = .ok (.invokevirtual 67, 3) := by decide +kernel
theorem dX5_isRoom_21 : decode cX5_isRoom 21 = .ok (.checkcast 58, 3) := by decide +kernel
theorem dX5_isRoom_24 : decode cX5_isRoom 24 = .ok (.getfield 108, 3) := by decide +kernel
theorem dX5_isRoom_27 : decode cX5_isRoom 27 = .ok (.if_icmp .ge 7, 3) := by decide +kernel
theorem dX5_isRoom_30 : decode cX5_isRoom 30 = .ok (.iconst 1, 1) := by decide +kernel
theorem dX5_isRoom_31 : decode cX5_isRoom 31 = .ok (.goto 4, 3) := by decide +kernel
theorem dX5_isRoom_35 : decode cX5_isRoom 35 = .ok (.ireturn, 1) := by decide +kernel
theorem dX5_isRoom_5 : decode cX5_isRoom 5 = .ok (.ifCond .eq 29, 3) := by decide +kernel
theorem dX5_isRoom_8 : decode cX5_isRoom 8 = .ok (.iload_n 2, 1) := by decide +kernel
theorem dX5_isRoom_9 : decode cX5_isRoom 9 = .ok (.ifCond .lt 25, 3) := by decide +kernel
theorem dX5_liftBefore_0 : decode cX5_liftBefore 0 = .ok (.aload_n 0, 1) := by decide +kernel
theorem dX5_liftBefore_1 : decode cX5_liftBefore 1 = .ok (.iload_n 1, 1) := by decide +kernel
theorem dX5_liftBefore_11 : decode cX5_liftBefore 11 = .ok (.iconst (-1), 1) := by decide +kernel
theorem dX5_liftBefore_12 : decode cX5_liftBefore 12 = .ok (.if_icmp .ne 5, 3) := by decide +kernel
theorem dX5_liftBefore_17 : decode cX5_liftBefore 17 = .ok (.iconst 0, 1) := by decide +kernel
theorem dX5_liftBefore_18 : decode cX5_liftBefore 18 = .ok (.istore 5, 2) := by decide +kernel
theorem dX5_liftBefore_2 : decode cX5_liftBefore 2 = .ok (.iload_n 2, 1) := by decide +kernel
theorem dX5_liftBefore_20 : decode cX5_liftBefore 20 = .ok (.iload 5, 2) := by decide +kernel
theorem dX5_liftBefore_22 : decode cX5_liftBefore 22 = .ok (.aload_n 0, 1) := by decide +kernel
theorem dX5_liftBefore_23 : decode cX5_liftBefore 23 = .ok (.getfield 16, 3) := by decide +kernel
theorem dX5_liftBefore_26 : decode cX5_liftBefore 26 = .ok (.invokevirtual 49, 3) := by decide +kernel
theorem dX5_liftBefore_29 : decode cX5_liftBefore 29 = .ok (.if_icmp .ge 43, 3) := by decide +kernel
theorem dX5_liftBefore_3 : decode cX5_liftBefore 3 = .ok (.aload_n 3, 1) := by decide +kernel
theorem dX5_liftBefore_4 : decode cX5_liftBefore 4 = .ok (.invokevirtual 164, 3) := by decide +kernel
theorem dX5_liftBefore_7 : decode cX5_liftBefore 7 = .ok (.istore 4, 2) := by decide +kernel
theorem dX5_liftBefore_72 : decode cX5_liftBefore 72 = .ok (.iconst (-1), 1) := by decide +kernel
theorem dX5_liftBefore_73 : decode cX5_liftBefore 73 = .ok (.ireturn, 1) := by decide +kernel
theorem dX5_liftBefore_9 : decode cX5_liftBefore 9 = .ok (.iload 4, 2) := by decide +kernel
theorem dX5_placeOf_0 : decode cX5_placeOf 0 = .ok (.aload_n 0, 1) := by decide +kernel
theorem dX5_placeOf_1 : decode cX5_placeOf 1 = .ok (.iload_n 1, 1) := by decide +kernel
theorem dX5_placeOf_10 : decode cX5_placeOf 10 = .ok (.iload_n 2, 1) := by decide +kernel
theorem dX5_placeOf_11 : decode cX5_placeOf 11 = .ok (.aload_n 3, 1) := by decide +kernel
theorem dX5_placeOf_12 : decode cX5_placeOf 12 = .ok (.iload_n 1, 1) := by decide +kernel
theorem dX5_placeOf_13 : decode cX5_placeOf 13 = .ok (.invokevirtual 150, 3) := by decide +kernel
theorem dX5_placeOf_16 : decode cX5_placeOf 16 = .ok (.iadd, 1) := by decide +kernel
theorem dX5_placeOf_17 : decode cX5_placeOf 17 = .ok (.aload_n 0, 1) := by decide +kernel
theorem dX5_placeOf_18 : decode cX5_placeOf 18 = .ok (.getfield 10, 3) := by decide +kernel
theorem dX5_placeOf_2 : decode cX5_placeOf 2 = .ok (.invokevirtual 67, 3) := by decide +kernel
theorem dX5_placeOf_21 : decode cX5_placeOf 21 = .ok (.iload_n 1, 1) := by decide +kernel
theorem dX5_placeOf_22 : decode cX5_placeOf 22 = .ok (.invokevirtual 84, 3) := by decide +kernel
theorem dX5_placeOf_25 : decode cX5_placeOf 25 = .ok (.checkcast 58, 3) := by decide +kernel
theorem dX5_placeOf_28 : decode cX5_placeOf 28 = .ok (.getfield 108, 3) := by decide +kernel
theorem dX5_placeOf_31 : decode cX5_placeOf 31 = .ok (.invokestatic 306, 3) := by decide +kernel
theorem dX5_placeOf_34 : decode cX5_placeOf 34 = .ok (.ireturn, 1) := by decide +kernel
theorem dX5_placeOf_5 : decode cX5_placeOf 5 = .ok (.ifCond .ne 5, 3) := by decide +kernel
theorem dX5_remainder_0 : decode cX5_remainder 0 = .ok (.iload_n 1, 1) := by decide +kernel
theorem dX5_remainder_1 : decode cX5_remainder 1 = .ok (.ifCond .le 9, 3) := by decide +kernel
theorem dX5_remainder_11 : decode cX5_remainder 11 = .ok (.ireturn, 1) := by decide +kernel
theorem dX5_remainder_4 : decode cX5_remainder 4 = .ok (.iload_n 0, 1) := by decide +kernel
theorem dX5_remainder_5 : decode cX5_remainder 5 = .ok (.iload_n 1, 1) := by decide +kernel
theorem dX5_remainder_6 : decode cX5_remainder 6 = .ok (.irem, 1) := by decide +kernel
theorem dX5_remainder_7 : decode cX5_remainder 7 = .ok (.goto 4, 3) := by decide +kernel
theorem dX5_strike_0 : decode cX5_strike 0 = .ok (.aload_n 1, 1) := by decide +kernel
theorem dX5_strike_1 : decode cX5_strike 1 = .ok (.aload_n 1, 1) := by decide +kernel
theorem dX5_strike_115 : decode cX5_strike 115 = .ok (.iload_n 3, 1) := by decide +kernel
theorem dX5_strike_116 : decode cX5_strike 116 = .ok (.ireturn, 1) := by decide +kernel
theorem dX5_strike_12 : decode cX5_strike 12 = .ok (.iconst 0, 1) := by decide +kernel
theorem dX5_strike_13 : decode cX5_strike 13 = .ok (.istore_n 3, 1) := by decide +kernel
theorem dX5_strike_14 : decode cX5_strike 14 = .ok (.iconst 0, 1) := by decide +kernel
theorem dX5_strike_15 : decode cX5_strike 15 = .ok (.istore 4, 2) := by decide +kernel
theorem dX5_strike_17 : decode cX5_strike 17 = .ok (.iload 4, 2) := by decide +kernel
theorem dX5_strike_19 : decode cX5_strike 19 = .ok (.aload_n 0, 1) := by decide +kernel
theorem dX5_strike_2 : decode cX5_strike 2 = .ok (.getfield 156, 3) := by decide +kernel
theorem dX5_strike_20 : decode cX5_strike 20 = .ok (.getfield 10, 3) := by decide +kernel
theorem dX5_strike_23 : decode cX5_strike 23 = .ok (.invokevirtual 49, 3) := by decide +kernel
theorem dX5_strike_26 : decode cX5_strike 26 = .ok (.if_icmp .ge 55, 3) := by decide +kernel
theorem dX5_strike_29 : decode cX5_strike 29 = .ok (.aload_n 0, 1) := by decide +kernel
theorem dX5_strike_30 : decode cX5_strike 30 = .ok (.getfield 10, 3) := by decide +kernel
theorem dX5_strike_33 : decode cX5_strike 33 = .ok (.iload 4, 2) := by decide +kernel
theorem dX5_strike_35 : decode cX5_strike 35 = .ok (.invokevirtual 84, 3) := by decide +kernel
theorem dX5_strike_38 : decode cX5_strike 38 = .ok (.checkcast 58, 3) := by decide +kernel
theorem dX5_strike_41 : decode cX5_strike 41 = .ok (.astore 5, 2) := by decide +kernel
theorem dX5_strike_43 : decode cX5_strike 43 = .ok (.aload 5, 2) := by decide +kernel
theorem dX5_strike_45 : decode cX5_strike 45 = .ok (.aload_n 1, 1) := by decide +kernel
theorem dX5_strike_46 : decode cX5_strike 46 = .ok (.getfield 156, 3) := by decide +kernel
theorem dX5_strike_49 : decode cX5_strike 49 = .ok (.invokevirtual 255, 3) := by decide +kernel
theorem dX5_strike_5 : decode cX5_strike 5 = .ok (.iload_n 2, 1) := by decide +kernel
theorem dX5_strike_52 : decode cX5_strike 52 = .ok (.ifCond .eq 23, 3) := by decide +kernel
theorem dX5_strike_55 : decode cX5_strike 55 = .ok (.aload_n 1, 1) := by decide +kernel
theorem dX5_strike_56 : decode cX5_strike 56 = .ok (.iload 4, 2) := by decide +kernel
theorem dX5_strike_58 : decode cX5_strike 58 = .ok (.aload 5, 2) := by decide +kernel
theorem dX5_strike_6 : decode cX5_strike 6 = .ok (.invokestatic 252, 3) := by decide +kernel
theorem dX5_strike_60 : decode cX5_strike 60 = .ok (.aload_n 1, 1) := by decide +kernel
theorem dX5_strike_61 : decode cX5_strike 61 = .ok (.iload 4, 2) := by decide +kernel
theorem dX5_strike_63 : decode cX5_strike 63 = .ok (.invokevirtual 150, 3) := by decide +kernel
theorem dX5_strike_66 : decode cX5_strike 66 = .ok (.invokevirtual 285, 3) := by decide +kernel
theorem dX5_strike_69 : decode cX5_strike 69 = .ok (.invokevirtual 288, 3) := by decide +kernel
theorem dX5_strike_72 : decode cX5_strike 72 = .ok (.iinc 3 1, 3) := by decide +kernel
theorem dX5_strike_75 : decode cX5_strike 75 = .ok (.iinc 4 1, 3) := by decide +kernel
theorem dX5_strike_78 : decode cX5_strike 78 = .ok (.goto (-61), 3) := by decide +kernel
theorem dX5_strike_81 : decode cX5_strike 81 = .ok (.iconst 0, 1) := by decide +kernel
theorem dX5_strike_82 : decode cX5_strike 82 = .ok (.istore 4, 2) := by decide +kernel
theorem dX5_strike_84 : decode cX5_strike 84 = .ok (.iload 4, 2) := by decide +kernel
theorem dX5_strike_86 : decode cX5_strike 86 = .ok (.aload_n 0, 1) := by decide +kernel
theorem dX5_strike_87 : decode cX5_strike 87 = .ok (.getfield 16, 3) := by decide +kernel
theorem dX5_strike_9 : decode cX5_strike 9 = .ok (.putfield 156, 3) := by decide +kernel
theorem dX5_strike_90 : decode cX5_strike 90 = .ok (.invokevirtual 49, 3) := by decide +kernel
theorem dX5_strike_93 : decode cX5_strike 93 = .ok (.if_icmp .ge 22, 3) := by decide +kernel
def v_c_remainder_any : List Cond := .code yX5_remainder cX5_remainder 2 (some .int) :: ([] ++ [])
set_option maxHeartbeats 4000000 in
set_option maxRecDepth 100000 in
theorem c_remainder_any (l : Launch) (hl9 : l.stackTraces = false) (dC : Nat → ClassId) (dI : Nat → Nat → Nat) (tE : Nat) (p0 : Int32) (sz : Nat) : Met l yX5_remainder v_c_remainder_any ({ frames := 0, cells := 0, slots := 0, locals := 0 }) (va_Pc [.int p0, .int 10] (Pre0 dC dI tE sz [] [])) (va_Qi (fun (r : Int32) (_ : Unit) => True) (fun _ t => Pst dC dI [] (va_A [] sz) [] t) (va_A [] sz)) 0 0 (va_A [] sz) := by
  refine Met.ofW (cc := cX5_remainder) (maxL := 2) (ret := (some .int)) (by decide) rfl ?_
  intro p e s m args below meth c s₁ B hml hv
  obtain ⟨rfl, hsz, hP, hK, hD0, hT⟩ := hv
  have hx := B.exec
  have hb := B.bytes
  have hr := B.returns
  have hts := atoms_spec (ws := v_c_remainder_any) B.pre
  have hown : s.vm.findClass RX5 = some m.cls := findClass_of_methodNamed B.named
  have hlocks := B.notSynchronized
  subst hsz
  have hD := hD0.self (sz := s.heap.size)
  generalize hAe : va_A [] s.heap.size = A at hD hT ⊢
  have hA : ∀ q : Nat, s.heap.size ≤ q → A q := fun q h => by rw [← hAe]; exact Or.inr h
  have hS : va_S A s.heap s.heap [] := va_S.rf
  have hl := lv_entry ([.int p0, .int 10]) (n := 2) (Nat.le_of_ble_eq_true rfl)
  rw [lg_entry_eq]
  generalize (lg_sl ([.int p0, .int 10]) ++ List.replicate (2 - (lg_sl ([.int p0, .int 10])).length) Slot.unset).toArray = ls at hl ⊢
  have hl : lv_has ls 2 [(0, .int p0), (1, .int 10)] := hl
  refine lv_iload_n hx hb dX5_remainder_0 rfl (lv_at hl 1 rfl) ?_
  refine lv_if_le (tgt := 10) hx hb dX5_remainder_1 (by decide) (fun c_1 => absurd c_1 (by decide)) (fun _ => ?_)
  refine lv_iload_n hx hb dX5_remainder_4 rfl (lv_at hl 0 rfl) ?_
  refine lv_iload_n hx hb dX5_remainder_5 rfl (lv_at hl 1 rfl) ?_
  refine lv_irem hx hb dX5_remainder_6 (by decide) ?_
  refine lv_topi (fun x_2 e_3 => ?_)
  refine lv_goto (tgt := 11) hx hb dX5_remainder_7 (by decide) ?_
  have hP9 := hP.sub (ws' := []) [] rfl
  have hD9 := hD.sub (ws' := []) [] (by decide) rfl
  have hK9 := hK.sub (tys' := []) [] rfl
  exact W.iret (v := x_2) hx hb hr (fun t ht hW => ⟨⟨x_2, (), rfl, trivial, by rw [ht]; exact hP9, va_K.moved hW.alike hK9, hD9⟩, hS.F ht⟩) hS.2.2 dX5_remainder_11
def v_c_remainder_6 : List Cond := .code yX5_remainder cX5_remainder 2 (some .int) :: ([] ++ [])
set_option maxHeartbeats 4000000 in
set_option maxRecDepth 100000 in
theorem c_remainder_6 (l : Launch) (hl9 : l.stackTraces = false) (dC : Nat → ClassId) (dI : Nat → Nat → Nat) (tE : Nat)  (sz : Nat) : Met l yX5_remainder v_c_remainder_6 ({ frames := 0, cells := 0, slots := 0, locals := 0 }) (va_Pc [.int 6, .int 3] (Pre0 dC dI tE sz [] [])) (va_Qi (fun (r : Int32) (_ : Unit) => r = 0) (fun _ t => Pst dC dI [] (va_A [] sz) [] t) (va_A [] sz)) 0 0 (va_A [] sz) := by
  refine Met.ofW (cc := cX5_remainder) (maxL := 2) (ret := (some .int)) (by decide) rfl ?_
  intro p e s m args below meth c s₁ B hml hv
  obtain ⟨rfl, hsz, hP, hK, hD0, hT⟩ := hv
  have hx := B.exec
  have hb := B.bytes
  have hr := B.returns
  have hts := atoms_spec (ws := v_c_remainder_6) B.pre
  have hown : s.vm.findClass RX5 = some m.cls := findClass_of_methodNamed B.named
  have hlocks := B.notSynchronized
  subst hsz
  have hD := hD0.self (sz := s.heap.size)
  generalize hAe : va_A [] s.heap.size = A at hD hT ⊢
  have hA : ∀ q : Nat, s.heap.size ≤ q → A q := fun q h => by rw [← hAe]; exact Or.inr h
  have hS : va_S A s.heap s.heap [] := va_S.rf
  have hl := lv_entry ([.int 6, .int 3]) (n := 2) (Nat.le_of_ble_eq_true rfl)
  rw [lg_entry_eq]
  generalize (lg_sl ([.int 6, .int 3]) ++ List.replicate (2 - (lg_sl ([.int 6, .int 3])).length) Slot.unset).toArray = ls at hl ⊢
  have hl : lv_has ls 2 [(0, .int 6), (1, .int 3)] := hl
  refine lv_iload_n hx hb dX5_remainder_0 rfl (lv_at hl 1 rfl) ?_
  refine lv_if_le (tgt := 10) hx hb dX5_remainder_1 (by decide) (fun c_1 => absurd c_1 (by decide)) (fun _ => ?_)
  refine lv_iload_n hx hb dX5_remainder_4 rfl (lv_at hl 0 rfl) ?_
  refine lv_iload_n hx hb dX5_remainder_5 rfl (lv_at hl 1 rfl) ?_
  refine lv_irem hx hb dX5_remainder_6 (by decide) ?_
  refine lv_topi (fun x_2 e_3 => ?_)
  obtain rfl : x_2 = 0 := e_3.trans (by decide)
  refine lv_goto (tgt := 11) hx hb dX5_remainder_7 (by decide) ?_
  have hP9 := hP.sub (ws' := []) [] rfl
  have hD9 := hD.sub (ws' := []) [] (by decide) rfl
  have hK9 := hK.sub (tys' := []) [] rfl
  exact W.iret (v := 0) hx hb hr (fun t ht hW => ⟨⟨0, (), rfl, rfl, by rw [ht]; exact hP9, va_K.moved hW.alike hK9, hD9⟩, hS.F ht⟩) hS.2.2 dX5_remainder_11
def v_c_remainder_0 : List Cond := .code yX5_remainder cX5_remainder 2 (some .int) :: ([] ++ [])
set_option maxHeartbeats 4000000 in
set_option maxRecDepth 100000 in
theorem c_remainder_0 (l : Launch) (hl9 : l.stackTraces = false) (dC : Nat → ClassId) (dI : Nat → Nat → Nat) (tE : Nat)  (sz : Nat) : Met l yX5_remainder v_c_remainder_0 ({ frames := 0, cells := 0, slots := 0, locals := 0 }) (va_Pc [.int 0, .int 3] (Pre0 dC dI tE sz [] [])) (va_Qi (fun (r : Int32) (_ : Unit) => r = 0) (fun _ t => Pst dC dI [] (va_A [] sz) [] t) (va_A [] sz)) 0 0 (va_A [] sz) := by
  refine Met.ofW (cc := cX5_remainder) (maxL := 2) (ret := (some .int)) (by decide) rfl ?_
  intro p e s m args below meth c s₁ B hml hv
  obtain ⟨rfl, hsz, hP, hK, hD0, hT⟩ := hv
  have hx := B.exec
  have hb := B.bytes
  have hr := B.returns
  have hts := atoms_spec (ws := v_c_remainder_0) B.pre
  have hown : s.vm.findClass RX5 = some m.cls := findClass_of_methodNamed B.named
  have hlocks := B.notSynchronized
  subst hsz
  have hD := hD0.self (sz := s.heap.size)
  generalize hAe : va_A [] s.heap.size = A at hD hT ⊢
  have hA : ∀ q : Nat, s.heap.size ≤ q → A q := fun q h => by rw [← hAe]; exact Or.inr h
  have hS : va_S A s.heap s.heap [] := va_S.rf
  have hl := lv_entry ([.int 0, .int 3]) (n := 2) (Nat.le_of_ble_eq_true rfl)
  rw [lg_entry_eq]
  generalize (lg_sl ([.int 0, .int 3]) ++ List.replicate (2 - (lg_sl ([.int 0, .int 3])).length) Slot.unset).toArray = ls at hl ⊢
  have hl : lv_has ls 2 [(0, .int 0), (1, .int 3)] := hl
  refine lv_iload_n hx hb dX5_remainder_0 rfl (lv_at hl 1 rfl) ?_
  refine lv_if_le (tgt := 10) hx hb dX5_remainder_1 (by decide) (fun c_1 => absurd c_1 (by decide)) (fun _ => ?_)
  refine lv_iload_n hx hb dX5_remainder_4 rfl (lv_at hl 0 rfl) ?_
  refine lv_iload_n hx hb dX5_remainder_5 rfl (lv_at hl 1 rfl) ?_
  refine lv_irem hx hb dX5_remainder_6 (by decide) ?_
  refine lv_topi (fun x_2 e_3 => ?_)
  obtain rfl : x_2 = 0 := e_3.trans (by decide)
  refine lv_goto (tgt := 11) hx hb dX5_remainder_7 (by decide) ?_
  have hP9 := hP.sub (ws' := []) [] rfl
  have hD9 := hD.sub (ws' := []) [] (by decide) rfl
  have hK9 := hK.sub (tys' := []) [] rfl
  exact W.iret (v := 0) hx hb hr (fun t ht hW => ⟨⟨0, (), rfl, rfl, by rw [ht]; exact hP9, va_K.moved hW.alike hK9, hD9⟩, hS.F ht⟩) hS.2.2 dX5_remainder_11
def v_c_heardWith : List Cond := .code yX5_heardWith cX5_heardWith 2 (some .int) :: ([Cond.constant RX5 247 (100000)] ++ [])
set_option maxHeartbeats 4000000 in
set_option maxRecDepth 100000 in
theorem c_heardWith (l : Launch) (hl9 : l.stackTraces = false) (dC : Nat → ClassId) (dI : Nat → Nat → Nat) (tE : Nat) (p0 : Int32) (p1 : Int32) (sz : Nat) : Met l yX5_heardWith v_c_heardWith ({ frames := 0, cells := 0, slots := 0, locals := 0 }) (va_Pc [.int p0, .int p1] (Pre0 dC dI tE sz [] [])) (va_Qi (fun (r : Int32) (_ : Unit) => True) (fun _ t => Pst dC dI [] (va_A [] sz) [] t) (va_A [] sz)) 0 0 (va_A [] sz) := by
  refine Met.ofW (cc := cX5_heardWith) (maxL := 2) (ret := (some .int)) (by decide) rfl ?_
  intro p e s m args below meth c s₁ B hml hv
  obtain ⟨rfl, hsz, hP, hK, hD0, hT⟩ := hv
  have hx := B.exec
  have hb := B.bytes
  have hr := B.returns
  have hts := atoms_spec (ws := v_c_heardWith) B.pre
  have hown : s.vm.findClass RX5 = some m.cls := findClass_of_methodNamed B.named
  have hlocks := B.notSynchronized
  subst hsz
  have hD := hD0.self (sz := s.heap.size)
  generalize hAe : va_A [] s.heap.size = A at hD hT ⊢
  have hA : ∀ q : Nat, s.heap.size ≤ q → A q := fun q h => by rw [← hAe]; exact Or.inr h
  have hS : va_S A s.heap s.heap [] := va_S.rf
  have hl := lv_entry ([.int p0, .int p1]) (n := 2) (Nat.le_of_ble_eq_true rfl)
  rw [lg_entry_eq]
  generalize (lg_sl ([.int p0, .int p1]) ++ List.replicate (2 - (lg_sl ([.int p0, .int p1])).length) Slot.unset).toArray = ls at hl ⊢
  have hl : lv_has ls 2 [(0, .int p0), (1, .int p1)] := hl
  refine lv_iload_n hx hb dX5_heardWith_0 rfl (lv_at hl 0 rfl) ?_
  refine lv_ldc (v := 100000) hx hb hown (hts (.constant RX5 247 (100000)) (List.mem_of_getElem? (i := 1) rfl)) dX5_heardWith_1 ?_
  refine lv_irem hx hb dX5_heardWith_3 (by decide) ?_
  refine lv_topi (fun x_1 e_2 => ?_)
  refine lv_bipush (v := 10) hx hb dX5_heardWith_4 (by decide) ?_
  refine lv_imul hx hb dX5_heardWith_6 ?_
  refine lv_topi (fun x_3 e_4 => ?_)
  refine lv_iload_n hx hb dX5_heardWith_7 rfl (lv_at hl 1 rfl) ?_
  refine lv_iadd hx hb dX5_heardWith_8 ?_
  refine lv_topi (fun x_5 e_6 => ?_)
  refine lv_iconst (v := 1) hx hb dX5_heardWith_9 (by decide) ?_
  refine lv_iadd hx hb dX5_heardWith_10 ?_
  refine lv_topi (fun x_7 e_8 => ?_)
  have hP9 := hP.sub (ws' := []) [] rfl
  have hD9 := hD.sub (ws' := []) [] (by decide) rfl
  have hK9 := hK.sub (tys' := []) [] rfl
  exact W.iret (v := x_7) hx hb hr (fun t ht hW => ⟨⟨x_7, (), rfl, trivial, by rw [ht]; exact hP9, va_K.moved hW.alike hK9, hD9⟩, hS.F ht⟩) hS.2.2 dX5_heardWith_11
def v_c_hears : List Cond := .code yX1_hearsItsTune cX1_hearsItsTune 2 (some .boolean) :: ([Cond.fieldLink RX1 13 "HotelOfBells$Floor" "span" "I", Cond.code yX5_remainder cX5_remainder 2 (some .int), Cond.initialized RX5, Cond.static yX5_remainder, Cond.fieldLink RX1 7 "HotelOfBells$Floor" "tune" "I"] ++ (wsX10 ++ []))
theorem u_c_hears_X1 : ∀ w ∈ wsX10, w ∈ v_c_hears := fun _ h => List.mem_cons_of_mem _ (List.mem_append_right _ (List.mem_append_left _ h))
theorem gg_c_hears_c_remainder_any : GoodIn v_c_hears v_c_remainder_any := goodIn_r _ [2] (by rfl) (by decide +kernel)
set_option maxHeartbeats 4000000 in
set_option maxRecDepth 100000 in
theorem c_hears (l : Launch) (hl9 : l.stackTraces = false) (dC : Nat → ClassId) (dI : Nat → Nat → Nat) (tE : Nat) (h0 : Nat) (p0 : Int32) (sz : Nat) : Met l yX1_hearsItsTune v_c_hears ({ frames := 1, cells := 0, slots := 0, locals := 21 }) (va_Pc [.ref h0, .int p0] (Pre0 dC dI tE sz [] [(h0, .inr (6, [.int 3, .int 1, .int 10, .int 0]))])) (va_Qi (fun (r : Int32) (_ : Unit) => True) (fun _ t => Pst dC dI [] (va_A [(h0, .inr (6, [.int 3, .int 1, .int 10, .int 0]))] sz) [(h0, .inr (6, [.int 3, .int 1, .int 10, .int 0]))] t) (va_A [(h0, .inr (6, [.int 3, .int 1, .int 10, .int 0]))] sz)) 0 0 (va_A [(h0, .inr (6, [.int 3, .int 1, .int 10, .int 0]))] sz) := by
  refine Met.ofW (cc := cX1_hearsItsTune) (maxL := 2) (ret := (some .boolean)) (by decide) rfl ?_
  intro p e s m args below meth c s₁ B hml hv
  obtain ⟨rfl, hsz, hP, hK, hD0, hT⟩ := hv
  have hx := B.exec
  have hb := B.bytes
  have hr := B.returns
  have hts := atoms_spec (ws := v_c_hears) B.pre
  have hown : s.vm.findClass RX1 = some m.cls := findClass_of_methodNamed B.named
  have hlocks := B.notSynchronized
  subst hsz
  have hD := hD0.self (sz := s.heap.size)
  generalize hAe : va_A [(h0, .inr (6, [.int 3, .int 1, .int 10, .int 0]))] s.heap.size = A at hD hT ⊢
  have hA : ∀ q : Nat, s.heap.size ≤ q → A q := fun q h => by rw [← hAe]; exact Or.inr h
  have hS : va_S A s.heap s.heap [] := va_S.rf
  have hl := lv_entry ([.ref h0, .int p0]) (n := 2) (Nat.le_of_ble_eq_true rfl)
  rw [lg_entry_eq]
  generalize (lg_sl ([.ref h0, .int p0]) ++ List.replicate (2 - (lg_sl ([.ref h0, .int p0])).length) Slot.unset).toArray = ls at hl ⊢
  have hl : lv_has ls 2 [(0, .ref h0), (1, .int p0)] := hl
  refine lv_iload_n hx hb dX1_hearsItsTune_0 rfl (lv_at hl 1 rfl) ?_
  refine lv_aload_n hx hb dX1_hearsItsTune_1 rfl (lv_at hl 0 rfl) ?_
  refine va_get (D := (dC, dI)) (ci := 6) (v := .int 10) (C := RX1) (T := TX1) (N := 4) hx hb hts u_c_hears_X1 hown hK hP 0 rfl rfl 2 (by decide) (hts (.fieldLink RX1 13 "HotelOfBells$Floor" "span" "I") (List.mem_of_getElem? (i := 1) rfl)) (fun _ h9 => h9) rfl dX1_hearsItsTune_2 ?_
  have hPc := hP.sub (ws' := []) [] rfl
  have hDc := hD.sub (ws' := []) [] (by decide) rfl
  have hKc := hK.sub (tys' := []) [] rfl
  have hFc := va_free (wc := []) hD hS hA [] rfl
  refine va_calli (va_runSN (As := [.int p0, .int 10]) (rest := []) ⟨hx, hb, hml, hown, hts⟩ (c_remainder_any l hl9 dC dI tE p0 _ ) ⟨va_cnB 2 hts gg_c_hears_c_remainder_any rfl rfl rfl hT.n3 (hts (.initialized RX5) (List.mem_of_getElem? (i := 3) rfl)) (by decide +kernel) ⟨Nat.le_of_ble_eq_true rfl, Nat.le_of_ble_eq_true rfl⟩, (hts (.static yX5_remainder) (List.mem_of_getElem? (i := 4) rfl)), trivial⟩ ⟨Pre0.blind, Pre0.give hPc hKc hDc hT hS hFc⟩ rfl rfl hl.1 rfl (lv_room (Nat.le_of_ble_eq_true rfl)) dX1_hearsItsTune_5 ⟨Nat.le_of_ble_eq_true rfl, Nat.le_of_ble_eq_true rfl⟩) hS (fun q _ h => hFc q h) hFc (fun r_1 u t H1 locs ht hvm hw hB hz1 hk1 hS => ?_)
  obtain ⟨hP1, hK1, hD1⟩ := hB
  rw [ht] at hP1
  have hK1 := va_K.moved hvm.symm hK1
  obtain ⟨hP, hD⟩ := va_join (wr := [(h0, .inr (6, [.int 3, .int 1, .int 10, .int 0]))]) (w1 := []) hP hD [] [0] rfl rfl (by decide) (by decide) hk1 hFc hP1 hD1
  generalize H1 = H at hP hS ⊢
  have hP : va_P (dC, dI) vwCl [(h0, .inr (6, [.int 3, .int 1, .int 10, .int 0]))] H := hP
  have hD : va_D A [(h0, .inr (6, [.int 3, .int 1, .int 10, .int 0]))] := hD
  refine W.widen (k := 0) (n := 0) (by omega) (by omega) ?_
  refine lv_aload_n hx hb dX1_hearsItsTune_8 rfl (lv_at hl 0 rfl) ?_
  refine va_get (D := (dC, dI)) (ci := 6) (v := .int 1) (C := RX1) (T := TX1) (N := 4) hx hb hts u_c_hears_X1 hown hK hP 0 rfl rfl 1 (by decide) (hts (.fieldLink RX1 7 "HotelOfBells$Floor" "tune" "I") (List.mem_of_getElem? (i := 5) rfl)) (fun _ h9 => h9) rfl dX1_hearsItsTune_9 ?_
  refine lv_icmp_ne (tgt := 19) hx hb dX1_hearsItsTune_12 (by decide) (fun c_2 => ?_) (fun c_2 => ?_)
  · refine lv_iconst (v := 0) hx hb dX1_hearsItsTune_19 (by decide) ?_
    have hP9 := hP.sub (ws' := [(h0, .inr (6, [.int 3, .int 1, .int 10, .int 0]))]) [0] rfl
    have hD9 := hD.sub (ws' := [(h0, .inr (6, [.int 3, .int 1, .int 10, .int 0]))]) [0] (by decide) rfl
    have hK9 := hK.sub (tys' := []) [] rfl
    exact W.zret (v := 0) hx hb hr (by decide) (fun t ht hW => ⟨⟨0, (), rfl, trivial, by rw [ht]; exact hP9, va_K.moved hW.alike hK9, hD9⟩, hS.F ht⟩) hS.2.2 dX1_hearsItsTune_20
  · refine lv_iconst (v := 1) hx hb dX1_hearsItsTune_15 (by decide) ?_
    refine lv_goto (tgt := 20) hx hb dX1_hearsItsTune_16 (by decide) ?_
    have hP9 := hP.sub (ws' := [(h0, .inr (6, [.int 3, .int 1, .int 10, .int 0]))]) [0] rfl
    have hD9 := hD.sub (ws' := [(h0, .inr (6, [.int 3, .int 1, .int 10, .int 0]))]) [0] (by decide) rfl
    have hK9 := hK.sub (tys' := []) [] rfl
    exact W.zret (v := 1) hx hb hr (by decide) (fun t ht hW => ⟨⟨1, (), rfl, trivial, by rw [ht]; exact hP9, va_K.moved hW.alike hK9, hD9⟩, hS.F ht⟩) hS.2.2 dX1_hearsItsTune_20
def v_c_nextTurn : List Cond := .code yX1_nextTurn cX1_nextTurn 2 (some .int) :: ([Cond.fieldLink RX1 25 "HotelOfBells$Floor" "step" "I", Cond.fieldLink RX1 16 "HotelOfBells$Floor" "rooms" "I", Cond.code yX5_remainder cX5_remainder 2 (some .int), Cond.initialized RX5, Cond.static yX5_remainder] ++ (wsX10 ++ []))
theorem u_c_nextTurn_X1 : ∀ w ∈ wsX10, w ∈ v_c_nextTurn := fun _ h => List.mem_cons_of_mem _ (List.mem_append_right _ (List.mem_append_left _ h))
theorem gg_c_nextTurn_c_remainder_6 : GoodIn v_c_nextTurn v_c_remainder_6 := goodIn_r _ [3] (by rfl) (by decide +kernel)
set_option maxHeartbeats 4000000 in
set_option maxRecDepth 100000 in
theorem c_nextTurn (l : Launch) (hl9 : l.stackTraces = false) (dC : Nat → ClassId) (dI : Nat → Nat → Nat) (tE : Nat) (h0 : Nat) (sz : Nat) : Met l yX1_nextTurn v_c_nextTurn ({ frames := 1, cells := 0, slots := 0, locals := 21 }) (va_Pc [.ref h0, .int 0] (Pre0 dC dI tE sz [] [(h0, .inr (6, [.int 3, .int 1, .int 10, .int 0]))])) (va_Qi (fun (r : Int32) (_ : Unit) => r = 0) (fun _ t => Pst dC dI [] (va_A [(h0, .inr (6, [.int 3, .int 1, .int 10, .int 0]))] sz) [(h0, .inr (6, [.int 3, .int 1, .int 10, .int 0]))] t) (va_A [(h0, .inr (6, [.int 3, .int 1, .int 10, .int 0]))] sz)) 0 0 (va_A [(h0, .inr (6, [.int 3, .int 1, .int 10, .int 0]))] sz) := by
  refine Met.ofW (cc := cX1_nextTurn) (maxL := 2) (ret := (some .int)) (by decide) rfl ?_
  intro p e s m args below meth c s₁ B hml hv
  obtain ⟨rfl, hsz, hP, hK, hD0, hT⟩ := hv
  have hx := B.exec
  have hb := B.bytes
  have hr := B.returns
  have hts := atoms_spec (ws := v_c_nextTurn) B.pre
  have hown : s.vm.findClass RX1 = some m.cls := findClass_of_methodNamed B.named
  have hlocks := B.notSynchronized
  subst hsz
  have hD := hD0.self (sz := s.heap.size)
  generalize hAe : va_A [(h0, .inr (6, [.int 3, .int 1, .int 10, .int 0]))] s.heap.size = A at hD hT ⊢
  have hA : ∀ q : Nat, s.heap.size ≤ q → A q := fun q h => by rw [← hAe]; exact Or.inr h
  have hS : va_S A s.heap s.heap [] := va_S.rf
  have hl := lv_entry ([.ref h0, .int 0]) (n := 2) (Nat.le_of_ble_eq_true rfl)
  rw [lg_entry_eq]
  generalize (lg_sl ([.ref h0, .int 0]) ++ List.replicate (2 - (lg_sl ([.ref h0, .int 0])).length) Slot.unset).toArray = ls at hl ⊢
  have hl : lv_has ls 2 [(0, .ref h0), (1, .int 0)] := hl
  refine lv_iload_n hx hb dX1_nextTurn_0 rfl (lv_at hl 1 rfl) ?_
  refine lv_aload_n hx hb dX1_nextTurn_1 rfl (lv_at hl 0 rfl) ?_
  refine va_get (D := (dC, dI)) (ci := 6) (v := .int 0) (C := RX1) (T := TX1) (N := 4) hx hb hts u_c_nextTurn_X1 hown hK hP 0 rfl rfl 3 (by decide) (hts (.fieldLink RX1 25 "HotelOfBells$Floor" "step" "I") (List.mem_of_getElem? (i := 1) rfl)) (fun _ h9 => h9) rfl dX1_nextTurn_2 ?_
  refine lv_iadd hx hb dX1_nextTurn_5 ?_
  refine lv_topi (fun x_1 e_2 => ?_)
  obtain rfl : x_1 = 0 := e_2.trans (by decide)
  refine lv_iconst (v := 2) hx hb dX1_nextTurn_6 (by decide) ?_
  refine lv_aload_n hx hb dX1_nextTurn_7 rfl (lv_at hl 0 rfl) ?_
  refine va_get (D := (dC, dI)) (ci := 6) (v := .int 3) (C := RX1) (T := TX1) (N := 4) hx hb hts u_c_nextTurn_X1 hown hK hP 0 rfl rfl 0 (by decide) (hts (.fieldLink RX1 16 "HotelOfBells$Floor" "rooms" "I") (List.mem_of_getElem? (i := 2) rfl)) (fun _ h9 => h9) rfl dX1_nextTurn_8 ?_
  refine lv_imul hx hb dX1_nextTurn_11 ?_
  refine lv_topi (fun x_3 e_4 => ?_)
  obtain rfl : x_3 = 6 := e_4.trans (by decide)
  refine lv_iadd hx hb dX1_nextTurn_12 ?_
  refine lv_topi (fun x_5 e_6 => ?_)
  obtain rfl : x_5 = 6 := e_6.trans (by decide)
  refine lv_aload_n hx hb dX1_nextTurn_13 rfl (lv_at hl 0 rfl) ?_
  refine va_get (D := (dC, dI)) (ci := 6) (v := .int 3) (C := RX1) (T := TX1) (N := 4) hx hb hts u_c_nextTurn_X1 hown hK hP 0 rfl rfl 0 (by decide) (hts (.fieldLink RX1 16 "HotelOfBells$Floor" "rooms" "I") (List.mem_of_getElem? (i := 2) rfl)) (fun _ h9 => h9) rfl dX1_nextTurn_14 ?_
  have hPc := hP.sub (ws' := []) [] rfl
  have hDc := hD.sub (ws' := []) [] (by decide) rfl
  have hKc := hK.sub (tys' := []) [] rfl
  have hFc := va_free (wc := []) hD hS hA [] rfl
  refine va_calli (va_runSN (As := [.int 6, .int 3]) (rest := []) ⟨hx, hb, hml, hown, hts⟩ (c_remainder_6 l hl9 dC dI tE  _ ) ⟨va_cnB 2 hts gg_c_nextTurn_c_remainder_6 rfl rfl rfl hT.n3 (hts (.initialized RX5) (List.mem_of_getElem? (i := 4) rfl)) (by decide +kernel) ⟨Nat.le_of_ble_eq_true rfl, Nat.le_of_ble_eq_true rfl⟩, (hts (.static yX5_remainder) (List.mem_of_getElem? (i := 5) rfl)), trivial⟩ ⟨Pre0.blind, Pre0.give hPc hKc hDc hT hS hFc⟩ rfl rfl hl.1 rfl (lv_room (Nat.le_of_ble_eq_true rfl)) dX1_nextTurn_17 ⟨Nat.le_of_ble_eq_true rfl, Nat.le_of_ble_eq_true rfl⟩) hS (fun q _ h => hFc q h) hFc (fun r_7 u t H1 locs ht hvm hw hB hz1 hk1 hS => ?_)
  obtain ⟨hP1, hK1, hD1⟩ := hB
  rw [ht] at hP1
  have hK1 := va_K.moved hvm.symm hK1
  obtain ⟨hP, hD⟩ := va_join (wr := [(h0, .inr (6, [.int 3, .int 1, .int 10, .int 0]))]) (w1 := []) hP hD [] [0] rfl rfl (by decide) (by decide) hk1 hFc hP1 hD1
  generalize H1 = H at hP hS ⊢
  have hP : va_P (dC, dI) vwCl [(h0, .inr (6, [.int 3, .int 1, .int 10, .int 0]))] H := hP
  have hD : va_D A [(h0, .inr (6, [.int 3, .int 1, .int 10, .int 0]))] := hD
  refine W.widen (k := 0) (n := 0) (by omega) (by omega) ?_
  obtain rfl : r_7 = 0 := hw
  have hP9 := hP.sub (ws' := [(h0, .inr (6, [.int 3, .int 1, .int 10, .int 0]))]) [0] rfl
  have hD9 := hD.sub (ws' := [(h0, .inr (6, [.int 3, .int 1, .int 10, .int 0]))]) [0] (by decide) rfl
  have hK9 := hK.sub (tys' := []) [] rfl
  exact W.iret (v := 0) hx hb hr (fun t ht hW => ⟨⟨0, (), rfl, rfl, by rw [ht]; exact hP9, va_K.moved hW.alike hK9, hD9⟩, hS.F ht⟩) hS.2.2 dX1_nextTurn_20
def v_c_turnOf_0 : List Cond := .code yX3_turnOf cX3_turnOf 2 (some .int) :: ([Cond.fieldLink RX3 9 "HotelOfBells$Moment" "turns" "[I"] ++ (wsX30 ++ []))
theorem u_c_turnOf_0_X3 : ∀ w ∈ wsX30, w ∈ v_c_turnOf_0 := fun _ h => List.mem_cons_of_mem _ (List.mem_append_right _ (List.mem_append_left _ h))
set_option maxHeartbeats 4000000 in
set_option maxRecDepth 100000 in
theorem c_turnOf_0 (l : Launch) (hl9 : l.stackTraces = false) (dC : Nat → ClassId) (dI : Nat → Nat → Nat) (tE : Nat) (h0 : Nat) (tq : Nat) (zq : Nat) (wq : Nat) (hd : Int32) (ci : ClassId) (sz : Nat) : Met l yX3_turnOf v_c_turnOf_0 ({ frames := 0, cells := 0, slots := 0, locals := 0 }) (va_Pc [.ref h0, .int 0] (Pre0 dC dI tE sz [(ci, .int)] [(h0, .inr (8, [.int hd, .ref tq, .ref zq, .ref wq])), (tq, .inl (ci, 6, .inl (fun _ => 0)))])) (va_Qi (fun (r : Int32) (_ : Unit) => r = 0) (fun _ t => Pst dC dI [(ci, .int)] (va_A [(h0, .inr (8, [.int hd, .ref tq, .ref zq, .ref wq])), (tq, .inl (ci, 6, .inl (fun _ => 0)))] sz) [(h0, .inr (8, [.int hd, .ref tq, .ref zq, .ref wq])), (tq, .inl (ci, 6, .inl (fun _ => 0)))] t) (va_A [(h0, .inr (8, [.int hd, .ref tq, .ref zq, .ref wq])), (tq, .inl (ci, 6, .inl (fun _ => 0)))] sz)) 0 0 (va_A [(h0, .inr (8, [.int hd, .ref tq, .ref zq, .ref wq])), (tq, .inl (ci, 6, .inl (fun _ => 0)))] sz) := by
  refine Met.ofW (cc := cX3_turnOf) (maxL := 2) (ret := (some .int)) (by decide) rfl ?_
  intro p e s m args below meth c s₁ B hml hv
  obtain ⟨rfl, hsz, hP, hK, hD0, hT⟩ := hv
  have hx := B.exec
  have hb := B.bytes
  have hr := B.returns
  have hts := atoms_spec (ws := v_c_turnOf_0) B.pre
  have hown : s.vm.findClass RX3 = some m.cls := findClass_of_methodNamed B.named
  have hlocks := B.notSynchronized
  subst hsz
  have hD := hD0.self (sz := s.heap.size)
  generalize hAe : va_A [(h0, .inr (8, [.int hd, .ref tq, .ref zq, .ref wq])), (tq, .inl (ci, 6, .inl (fun _ => 0)))] s.heap.size = A at hD hT ⊢
  have hA : ∀ q : Nat, s.heap.size ≤ q → A q := fun q h => by rw [← hAe]; exact Or.inr h
  have hS : va_S A s.heap s.heap [] := va_S.rf
  have hl := lv_entry ([.ref h0, .int 0]) (n := 2) (Nat.le_of_ble_eq_true rfl)
  rw [lg_entry_eq]
  generalize (lg_sl ([.ref h0, .int 0]) ++ List.replicate (2 - (lg_sl ([.ref h0, .int 0])).length) Slot.unset).toArray = ls at hl ⊢
  have hl : lv_has ls 2 [(0, .ref h0), (1, .int 0)] := hl
  refine lv_iload_n hx hb dX3_turnOf_0 rfl (lv_at hl 1 rfl) ?_
  refine lv_if_lt (tgt := 22) hx hb dX3_turnOf_1 (by decide) (fun c_1 => absurd c_1 (by decide)) (fun _ => ?_)
  refine lv_iload_n hx hb dX3_turnOf_4 rfl (lv_at hl 1 rfl) ?_
  refine lv_aload_n hx hb dX3_turnOf_5 rfl (lv_at hl 0 rfl) ?_
  refine va_get (D := (dC, dI)) (ci := 8) (v := .ref tq) (C := RX3) (T := TX3) (N := 4) hx hb hts u_c_turnOf_0_X3 hown hK hP 0 rfl rfl 1 (by decide) (hts (.fieldLink RX3 9 "HotelOfBells$Moment" "turns" "[I") (List.mem_of_getElem? (i := 1) rfl)) (fun _ h9 => h9) rfl dX3_turnOf_6 ?_
  refine va_alen (v := 6) hx hb hK hP 1 0 rfl rfl rfl dX3_turnOf_9 ?_
  refine lv_icmp_ge (tgt := 22) hx hb dX3_turnOf_10 (by decide) (fun c_2 => absurd c_2 (by decide)) (fun _ => ?_)
  refine lv_aload_n hx hb dX3_turnOf_13 rfl (lv_at hl 0 rfl) ?_
  refine va_get (D := (dC, dI)) (ci := 8) (v := .ref tq) (C := RX3) (T := TX3) (N := 4) hx hb hts u_c_turnOf_0_X3 hown hK hP 0 rfl rfl 1 (by decide) (hts (.fieldLink RX3 9 "HotelOfBells$Moment" "turns" "[I") (List.mem_of_getElem? (i := 1) rfl)) (fun _ h9 => h9) rfl dX3_turnOf_14 ?_
  refine lv_iload_n hx hb dX3_turnOf_17 rfl (lv_at hl 1 rfl) ?_
  refine va_iald hx hb hK hP 1 0 rfl rfl (by unfold vp_in; decide) dX3_turnOf_18 ?_
  refine lv_topi (fun x_3 e_4 => ?_)
  obtain rfl : x_3 = 0 := e_4
  refine lv_goto (tgt := 23) hx hb dX3_turnOf_19 (by decide) ?_
  have hP9 := hP.sub (ws' := [(h0, .inr (8, [.int hd, .ref tq, .ref zq, .ref wq])), (tq, .inl (ci, 6, .inl (fun _ => 0)))]) [0, 1] rfl
  have hD9 := hD.sub (ws' := [(h0, .inr (8, [.int hd, .ref tq, .ref zq, .ref wq])), (tq, .inl (ci, 6, .inl (fun _ => 0)))]) [0, 1] (by decide) rfl
  have hK9 := hK.sub (tys' := [(ci, .int)]) [0] rfl
  exact W.iret (v := 0) hx hb hr (fun t ht hW => ⟨⟨0, (), rfl, rfl, by rw [ht]; exact hP9, va_K.moved hW.alike hK9, hD9⟩, hS.F ht⟩) hS.2.2 dX3_turnOf_23
def v_c_turnOf_1 : List Cond := .code yX3_turnOf cX3_turnOf 2 (some .int) :: ([Cond.fieldLink RX3 9 "HotelOfBells$Moment" "turns" "[I"] ++ (wsX30 ++ []))
theorem u_c_turnOf_1_X3 : ∀ w ∈ wsX30, w ∈ v_c_turnOf_1 := fun _ h => List.mem_cons_of_mem _ (List.mem_append_right _ (List.mem_append_left _ h))
set_option maxHeartbeats 4000000 in
set_option maxRecDepth 100000 in
theorem c_turnOf_1 (l : Launch) (hl9 : l.stackTraces = false) (dC : Nat → ClassId) (dI : Nat → Nat → Nat) (tE : Nat) (h0 : Nat) (tq : Nat) (zq : Nat) (wq : Nat) (hd : Int32) (ci : ClassId) (sz : Nat) : Met l yX3_turnOf v_c_turnOf_1 ({ frames := 0, cells := 0, slots := 0, locals := 0 }) (va_Pc [.ref h0, .int 1] (Pre0 dC dI tE sz [(ci, .int)] [(h0, .inr (8, [.int hd, .ref tq, .ref zq, .ref wq])), (tq, .inl (ci, 6, .inl (fun _ => 0)))])) (va_Qi (fun (r : Int32) (_ : Unit) => r = 0) (fun _ t => Pst dC dI [(ci, .int)] (va_A [(h0, .inr (8, [.int hd, .ref tq, .ref zq, .ref wq])), (tq, .inl (ci, 6, .inl (fun _ => 0)))] sz) [(h0, .inr (8, [.int hd, .ref tq, .ref zq, .ref wq])), (tq, .inl (ci, 6, .inl (fun _ => 0)))] t) (va_A [(h0, .inr (8, [.int hd, .ref tq, .ref zq, .ref wq])), (tq, .inl (ci, 6, .inl (fun _ => 0)))] sz)) 0 0 (va_A [(h0, .inr (8, [.int hd, .ref tq, .ref zq, .ref wq])), (tq, .inl (ci, 6, .inl (fun _ => 0)))] sz) := by
  refine Met.ofW (cc := cX3_turnOf) (maxL := 2) (ret := (some .int)) (by decide) rfl ?_
  intro p e s m args below meth c s₁ B hml hv
  obtain ⟨rfl, hsz, hP, hK, hD0, hT⟩ := hv
  have hx := B.exec
  have hb := B.bytes
  have hr := B.returns
  have hts := atoms_spec (ws := v_c_turnOf_1) B.pre
  have hown : s.vm.findClass RX3 = some m.cls := findClass_of_methodNamed B.named
  have hlocks := B.notSynchronized
  subst hsz
  have hD := hD0.self (sz := s.heap.size)
  generalize hAe : va_A [(h0, .inr (8, [.int hd, .ref tq, .ref zq, .ref wq])), (tq, .inl (ci, 6, .inl (fun _ => 0)))] s.heap.size = A at hD hT ⊢
  have hA : ∀ q : Nat, s.heap.size ≤ q → A q := fun q h => by rw [← hAe]; exact Or.inr h
  have hS : va_S A s.heap s.heap [] := va_S.rf
  have hl := lv_entry ([.ref h0, .int 1]) (n := 2) (Nat.le_of_ble_eq_true rfl)
  rw [lg_entry_eq]
  generalize (lg_sl ([.ref h0, .int 1]) ++ List.replicate (2 - (lg_sl ([.ref h0, .int 1])).length) Slot.unset).toArray = ls at hl ⊢
  have hl : lv_has ls 2 [(0, .ref h0), (1, .int 1)] := hl
  refine lv_iload_n hx hb dX3_turnOf_0 rfl (lv_at hl 1 rfl) ?_
  refine lv_if_lt (tgt := 22) hx hb dX3_turnOf_1 (by decide) (fun c_1 => absurd c_1 (by decide)) (fun _ => ?_)
  refine lv_iload_n hx hb dX3_turnOf_4 rfl (lv_at hl 1 rfl) ?_
  refine lv_aload_n hx hb dX3_turnOf_5 rfl (lv_at hl 0 rfl) ?_
  refine va_get (D := (dC, dI)) (ci := 8) (v := .ref tq) (C := RX3) (T := TX3) (N := 4) hx hb hts u_c_turnOf_1_X3 hown hK hP 0 rfl rfl 1 (by decide) (hts (.fieldLink RX3 9 "HotelOfBells$Moment" "turns" "[I") (List.mem_of_getElem? (i := 1) rfl)) (fun _ h9 => h9) rfl dX3_turnOf_6 ?_
  refine va_alen (v := 6) hx hb hK hP 1 0 rfl rfl rfl dX3_turnOf_9 ?_
  refine lv_icmp_ge (tgt := 22) hx hb dX3_turnOf_10 (by decide) (fun c_2 => absurd c_2 (by decide)) (fun _ => ?_)
  refine lv_aload_n hx hb dX3_turnOf_13 rfl (lv_at hl 0 rfl) ?_
  refine va_get (D := (dC, dI)) (ci := 8) (v := .ref tq) (C := RX3) (T := TX3) (N := 4) hx hb hts u_c_turnOf_1_X3 hown hK hP 0 rfl rfl 1 (by decide) (hts (.fieldLink RX3 9 "HotelOfBells$Moment" "turns" "[I") (List.mem_of_getElem? (i := 1) rfl)) (fun _ h9 => h9) rfl dX3_turnOf_14 ?_
  refine lv_iload_n hx hb dX3_turnOf_17 rfl (lv_at hl 1 rfl) ?_
  refine va_iald hx hb hK hP 1 0 rfl rfl (by unfold vp_in; decide) dX3_turnOf_18 ?_
  refine lv_topi (fun x_3 e_4 => ?_)
  obtain rfl : x_3 = 0 := e_4
  refine lv_goto (tgt := 23) hx hb dX3_turnOf_19 (by decide) ?_
  have hP9 := hP.sub (ws' := [(h0, .inr (8, [.int hd, .ref tq, .ref zq, .ref wq])), (tq, .inl (ci, 6, .inl (fun _ => 0)))]) [0, 1] rfl
  have hD9 := hD.sub (ws' := [(h0, .inr (8, [.int hd, .ref tq, .ref zq, .ref wq])), (tq, .inl (ci, 6, .inl (fun _ => 0)))]) [0, 1] (by decide) rfl
  have hK9 := hK.sub (tys' := [(ci, .int)]) [0] rfl
  exact W.iret (v := 0) hx hb hr (fun t ht hW => ⟨⟨0, (), rfl, rfl, by rw [ht]; exact hP9, va_K.moved hW.alike hK9, hD9⟩, hS.F ht⟩) hS.2.2 dX3_turnOf_23
def v_c_turnOf_2 : List Cond := .code yX3_turnOf cX3_turnOf 2 (some .int) :: ([Cond.fieldLink RX3 9 "HotelOfBells$Moment" "turns" "[I"] ++ (wsX30 ++ []))
theorem u_c_turnOf_2_X3 : ∀ w ∈ wsX30, w ∈ v_c_turnOf_2 := fun _ h => List.mem_cons_of_mem _ (List.mem_append_right _ (List.mem_append_left _ h))
set_option maxHeartbeats 4000000 in
set_option maxRecDepth 100000 in
theorem c_turnOf_2 (l : Launch) (hl9 : l.stackTraces = false) (dC : Nat → ClassId) (dI : Nat → Nat → Nat) (tE : Nat) (h0 : Nat) (tq : Nat) (zq : Nat) (wq : Nat) (hd : Int32) (ci : ClassId) (sz : Nat) : Met l yX3_turnOf v_c_turnOf_2 ({ frames := 0, cells := 0, slots := 0, locals := 0 }) (va_Pc [.ref h0, .int 2] (Pre0 dC dI tE sz [(ci, .int)] [(h0, .inr (8, [.int hd, .ref tq, .ref zq, .ref wq])), (tq, .inl (ci, 6, .inl (fun _ => 0)))])) (va_Qi (fun (r : Int32) (_ : Unit) => r = 0) (fun _ t => Pst dC dI [(ci, .int)] (va_A [(h0, .inr (8, [.int hd, .ref tq, .ref zq, .ref wq])), (tq, .inl (ci, 6, .inl (fun _ => 0)))] sz) [(h0, .inr (8, [.int hd, .ref tq, .ref zq, .ref wq])), (tq, .inl (ci, 6, .inl (fun _ => 0)))] t) (va_A [(h0, .inr (8, [.int hd, .ref tq, .ref zq, .ref wq])), (tq, .inl (ci, 6, .inl (fun _ => 0)))] sz)) 0 0 (va_A [(h0, .inr (8, [.int hd, .ref tq, .ref zq, .ref wq])), (tq, .inl (ci, 6, .inl (fun _ => 0)))] sz) := by
  refine Met.ofW (cc := cX3_turnOf) (maxL := 2) (ret := (some .int)) (by decide) rfl ?_
  intro p e s m args below meth c s₁ B hml hv
  obtain ⟨rfl, hsz, hP, hK, hD0, hT⟩ := hv
  have hx := B.exec
  have hb := B.bytes
  have hr := B.returns
  have hts := atoms_spec (ws := v_c_turnOf_2) B.pre
  have hown : s.vm.findClass RX3 = some m.cls := findClass_of_methodNamed B.named
  have hlocks := B.notSynchronized
  subst hsz
  have hD := hD0.self (sz := s.heap.size)
  generalize hAe : va_A [(h0, .inr (8, [.int hd, .ref tq, .ref zq, .ref wq])), (tq, .inl (ci, 6, .inl (fun _ => 0)))] s.heap.size = A at hD hT ⊢
  have hA : ∀ q : Nat, s.heap.size ≤ q → A q := fun q h => by rw [← hAe]; exact Or.inr h
  have hS : va_S A s.heap s.heap [] := va_S.rf
  have hl := lv_entry ([.ref h0, .int 2]) (n := 2) (Nat.le_of_ble_eq_true rfl)
  rw [lg_entry_eq]
  generalize (lg_sl ([.ref h0, .int 2]) ++ List.replicate (2 - (lg_sl ([.ref h0, .int 2])).length) Slot.unset).toArray = ls at hl ⊢
  have hl : lv_has ls 2 [(0, .ref h0), (1, .int 2)] := hl
  refine lv_iload_n hx hb dX3_turnOf_0 rfl (lv_at hl 1 rfl) ?_
  refine lv_if_lt (tgt := 22) hx hb dX3_turnOf_1 (by decide) (fun c_1 => absurd c_1 (by decide)) (fun _ => ?_)
  refine lv_iload_n hx hb dX3_turnOf_4 rfl (lv_at hl 1 rfl) ?_
  refine lv_aload_n hx hb dX3_turnOf_5 rfl (lv_at hl 0 rfl) ?_
  refine va_get (D := (dC, dI)) (ci := 8) (v := .ref tq) (C := RX3) (T := TX3) (N := 4) hx hb hts u_c_turnOf_2_X3 hown hK hP 0 rfl rfl 1 (by decide) (hts (.fieldLink RX3 9 "HotelOfBells$Moment" "turns" "[I") (List.mem_of_getElem? (i := 1) rfl)) (fun _ h9 => h9) rfl dX3_turnOf_6 ?_
  refine va_alen (v := 6) hx hb hK hP 1 0 rfl rfl rfl dX3_turnOf_9 ?_
  refine lv_icmp_ge (tgt := 22) hx hb dX3_turnOf_10 (by decide) (fun c_2 => absurd c_2 (by decide)) (fun _ => ?_)
  refine lv_aload_n hx hb dX3_turnOf_13 rfl (lv_at hl 0 rfl) ?_
  refine va_get (D := (dC, dI)) (ci := 8) (v := .ref tq) (C := RX3) (T := TX3) (N := 4) hx hb hts u_c_turnOf_2_X3 hown hK hP 0 rfl rfl 1 (by decide) (hts (.fieldLink RX3 9 "HotelOfBells$Moment" "turns" "[I") (List.mem_of_getElem? (i := 1) rfl)) (fun _ h9 => h9) rfl dX3_turnOf_14 ?_
  refine lv_iload_n hx hb dX3_turnOf_17 rfl (lv_at hl 1 rfl) ?_
  refine va_iald hx hb hK hP 1 0 rfl rfl (by unfold vp_in; decide) dX3_turnOf_18 ?_
  refine lv_topi (fun x_3 e_4 => ?_)
  obtain rfl : x_3 = 0 := e_4
  refine lv_goto (tgt := 23) hx hb dX3_turnOf_19 (by decide) ?_
  have hP9 := hP.sub (ws' := [(h0, .inr (8, [.int hd, .ref tq, .ref zq, .ref wq])), (tq, .inl (ci, 6, .inl (fun _ => 0)))]) [0, 1] rfl
  have hD9 := hD.sub (ws' := [(h0, .inr (8, [.int hd, .ref tq, .ref zq, .ref wq])), (tq, .inl (ci, 6, .inl (fun _ => 0)))]) [0, 1] (by decide) rfl
  have hK9 := hK.sub (tys' := [(ci, .int)]) [0] rfl
  exact W.iret (v := 0) hx hb hr (fun t ht hW => ⟨⟨0, (), rfl, rfl, by rw [ht]; exact hP9, va_K.moved hW.alike hK9, hD9⟩, hS.F ht⟩) hS.2.2 dX3_turnOf_23
def v_c_turnOf_3 : List Cond := .code yX3_turnOf cX3_turnOf 2 (some .int) :: ([Cond.fieldLink RX3 9 "HotelOfBells$Moment" "turns" "[I"] ++ (wsX30 ++ []))
theorem u_c_turnOf_3_X3 : ∀ w ∈ wsX30, w ∈ v_c_turnOf_3 := fun _ h => List.mem_cons_of_mem _ (List.mem_append_right _ (List.mem_append_left _ h))
set_option maxHeartbeats 4000000 in
set_option maxRecDepth 100000 in
theorem c_turnOf_3 (l : Launch) (hl9 : l.stackTraces = false) (dC : Nat → ClassId) (dI : Nat → Nat → Nat) (tE : Nat) (h0 : Nat) (tq : Nat) (zq : Nat) (wq : Nat) (hd : Int32) (ci : ClassId) (sz : Nat) : Met l yX3_turnOf v_c_turnOf_3 ({ frames := 0, cells := 0, slots := 0, locals := 0 }) (va_Pc [.ref h0, .int 3] (Pre0 dC dI tE sz [(ci, .int)] [(h0, .inr (8, [.int hd, .ref tq, .ref zq, .ref wq])), (tq, .inl (ci, 6, .inl (fun _ => 0)))])) (va_Qi (fun (r : Int32) (_ : Unit) => r = 0) (fun _ t => Pst dC dI [(ci, .int)] (va_A [(h0, .inr (8, [.int hd, .ref tq, .ref zq, .ref wq])), (tq, .inl (ci, 6, .inl (fun _ => 0)))] sz) [(h0, .inr (8, [.int hd, .ref tq, .ref zq, .ref wq])), (tq, .inl (ci, 6, .inl (fun _ => 0)))] t) (va_A [(h0, .inr (8, [.int hd, .ref tq, .ref zq, .ref wq])), (tq, .inl (ci, 6, .inl (fun _ => 0)))] sz)) 0 0 (va_A [(h0, .inr (8, [.int hd, .ref tq, .ref zq, .ref wq])), (tq, .inl (ci, 6, .inl (fun _ => 0)))] sz) := by
  refine Met.ofW (cc := cX3_turnOf) (maxL := 2) (ret := (some .int)) (by decide) rfl ?_
  intro p e s m args below meth c s₁ B hml hv
  obtain ⟨rfl, hsz, hP, hK, hD0, hT⟩ := hv
  have hx := B.exec
  have hb := B.bytes
  have hr := B.returns
  have hts := atoms_spec (ws := v_c_turnOf_3) B.pre
  have hown : s.vm.findClass RX3 = some m.cls := findClass_of_methodNamed B.named
  have hlocks := B.notSynchronized
  subst hsz
  have hD := hD0.self (sz := s.heap.size)
  generalize hAe : va_A [(h0, .inr (8, [.int hd, .ref tq, .ref zq, .ref wq])), (tq, .inl (ci, 6, .inl (fun _ => 0)))] s.heap.size = A at hD hT ⊢
  have hA : ∀ q : Nat, s.heap.size ≤ q → A q := fun q h => by rw [← hAe]; exact Or.inr h
  have hS : va_S A s.heap s.heap [] := va_S.rf
  have hl := lv_entry ([.ref h0, .int 3]) (n := 2) (Nat.le_of_ble_eq_true rfl)
  rw [lg_entry_eq]
  generalize (lg_sl ([.ref h0, .int 3]) ++ List.replicate (2 - (lg_sl ([.ref h0, .int 3])).length) Slot.unset).toArray = ls at hl ⊢
  have hl : lv_has ls 2 [(0, .ref h0), (1, .int 3)] := hl
  refine lv_iload_n hx hb dX3_turnOf_0 rfl (lv_at hl 1 rfl) ?_
  refine lv_if_lt (tgt := 22) hx hb dX3_turnOf_1 (by decide) (fun c_1 => absurd c_1 (by decide)) (fun _ => ?_)
  refine lv_iload_n hx hb dX3_turnOf_4 rfl (lv_at hl 1 rfl) ?_
  refine lv_aload_n hx hb dX3_turnOf_5 rfl (lv_at hl 0 rfl) ?_
  refine va_get (D := (dC, dI)) (ci := 8) (v := .ref tq) (C := RX3) (T := TX3) (N := 4) hx hb hts u_c_turnOf_3_X3 hown hK hP 0 rfl rfl 1 (by decide) (hts (.fieldLink RX3 9 "HotelOfBells$Moment" "turns" "[I") (List.mem_of_getElem? (i := 1) rfl)) (fun _ h9 => h9) rfl dX3_turnOf_6 ?_
  refine va_alen (v := 6) hx hb hK hP 1 0 rfl rfl rfl dX3_turnOf_9 ?_
  refine lv_icmp_ge (tgt := 22) hx hb dX3_turnOf_10 (by decide) (fun c_2 => absurd c_2 (by decide)) (fun _ => ?_)
  refine lv_aload_n hx hb dX3_turnOf_13 rfl (lv_at hl 0 rfl) ?_
  refine va_get (D := (dC, dI)) (ci := 8) (v := .ref tq) (C := RX3) (T := TX3) (N := 4) hx hb hts u_c_turnOf_3_X3 hown hK hP 0 rfl rfl 1 (by decide) (hts (.fieldLink RX3 9 "HotelOfBells$Moment" "turns" "[I") (List.mem_of_getElem? (i := 1) rfl)) (fun _ h9 => h9) rfl dX3_turnOf_14 ?_
  refine lv_iload_n hx hb dX3_turnOf_17 rfl (lv_at hl 1 rfl) ?_
  refine va_iald hx hb hK hP 1 0 rfl rfl (by unfold vp_in; decide) dX3_turnOf_18 ?_
  refine lv_topi (fun x_3 e_4 => ?_)
  obtain rfl : x_3 = 0 := e_4
  refine lv_goto (tgt := 23) hx hb dX3_turnOf_19 (by decide) ?_
  have hP9 := hP.sub (ws' := [(h0, .inr (8, [.int hd, .ref tq, .ref zq, .ref wq])), (tq, .inl (ci, 6, .inl (fun _ => 0)))]) [0, 1] rfl
  have hD9 := hD.sub (ws' := [(h0, .inr (8, [.int hd, .ref tq, .ref zq, .ref wq])), (tq, .inl (ci, 6, .inl (fun _ => 0)))]) [0, 1] (by decide) rfl
  have hK9 := hK.sub (tys' := [(ci, .int)]) [0] rfl
  exact W.iret (v := 0) hx hb hr (fun t ht hW => ⟨⟨0, (), rfl, rfl, by rw [ht]; exact hP9, va_K.moved hW.alike hK9, hD9⟩, hS.F ht⟩) hS.2.2 dX3_turnOf_23
def v_c_turnOf_4 : List Cond := .code yX3_turnOf cX3_turnOf 2 (some .int) :: ([Cond.fieldLink RX3 9 "HotelOfBells$Moment" "turns" "[I"] ++ (wsX30 ++ []))
theorem u_c_turnOf_4_X3 : ∀ w ∈ wsX30, w ∈ v_c_turnOf_4 := fun _ h => List.mem_cons_of_mem _ (List.mem_append_right _ (List.mem_append_left _ h))
set_option maxHeartbeats 4000000 in
set_option maxRecDepth 100000 in
theorem c_turnOf_4 (l : Launch) (hl9 : l.stackTraces = false) (dC : Nat → ClassId) (dI : Nat → Nat → Nat) (tE : Nat) (h0 : Nat) (tq : Nat) (zq : Nat) (wq : Nat) (hd : Int32) (ci : ClassId) (sz : Nat) : Met l yX3_turnOf v_c_turnOf_4 ({ frames := 0, cells := 0, slots := 0, locals := 0 }) (va_Pc [.ref h0, .int 4] (Pre0 dC dI tE sz [(ci, .int)] [(h0, .inr (8, [.int hd, .ref tq, .ref zq, .ref wq])), (tq, .inl (ci, 6, .inl (fun _ => 0)))])) (va_Qi (fun (r : Int32) (_ : Unit) => r = 0) (fun _ t => Pst dC dI [(ci, .int)] (va_A [(h0, .inr (8, [.int hd, .ref tq, .ref zq, .ref wq])), (tq, .inl (ci, 6, .inl (fun _ => 0)))] sz) [(h0, .inr (8, [.int hd, .ref tq, .ref zq, .ref wq])), (tq, .inl (ci, 6, .inl (fun _ => 0)))] t) (va_A [(h0, .inr (8, [.int hd, .ref tq, .ref zq, .ref wq])), (tq, .inl (ci, 6, .inl (fun _ => 0)))] sz)) 0 0 (va_A [(h0, .inr (8, [.int hd, .ref tq, .ref zq, .ref wq])), (tq, .inl (ci, 6, .inl (fun _ => 0)))] sz) := by
  refine Met.ofW (cc := cX3_turnOf) (maxL := 2) (ret := (some .int)) (by decide) rfl ?_
  intro p e s m args below meth c s₁ B hml hv
  obtain ⟨rfl, hsz, hP, hK, hD0, hT⟩ := hv
  have hx := B.exec
  have hb := B.bytes
  have hr := B.returns
  have hts := atoms_spec (ws := v_c_turnOf_4) B.pre
  have hown : s.vm.findClass RX3 = some m.cls := findClass_of_methodNamed B.named
  have hlocks := B.notSynchronized
  subst hsz
  have hD := hD0.self (sz := s.heap.size)
  generalize hAe : va_A [(h0, .inr (8, [.int hd, .ref tq, .ref zq, .ref wq])), (tq, .inl (ci, 6, .inl (fun _ => 0)))] s.heap.size = A at hD hT ⊢
  have hA : ∀ q : Nat, s.heap.size ≤ q → A q := fun q h => by rw [← hAe]; exact Or.inr h
  have hS : va_S A s.heap s.heap [] := va_S.rf
  have hl := lv_entry ([.ref h0, .int 4]) (n := 2) (Nat.le_of_ble_eq_true rfl)
  rw [lg_entry_eq]
  generalize (lg_sl ([.ref h0, .int 4]) ++ List.replicate (2 - (lg_sl ([.ref h0, .int 4])).length) Slot.unset).toArray = ls at hl ⊢
  have hl : lv_has ls 2 [(0, .ref h0), (1, .int 4)] := hl
  refine lv_iload_n hx hb dX3_turnOf_0 rfl (lv_at hl 1 rfl) ?_
  refine lv_if_lt (tgt := 22) hx hb dX3_turnOf_1 (by decide) (fun c_1 => absurd c_1 (by decide)) (fun _ => ?_)
  refine lv_iload_n hx hb dX3_turnOf_4 rfl (lv_at hl 1 rfl) ?_
  refine lv_aload_n hx hb dX3_turnOf_5 rfl (lv_at hl 0 rfl) ?_
  refine va_get (D := (dC, dI)) (ci := 8) (v := .ref tq) (C := RX3) (T := TX3) (N := 4) hx hb hts u_c_turnOf_4_X3 hown hK hP 0 rfl rfl 1 (by decide) (hts (.fieldLink RX3 9 "HotelOfBells$Moment" "turns" "[I") (List.mem_of_getElem? (i := 1) rfl)) (fun _ h9 => h9) rfl dX3_turnOf_6 ?_
  refine va_alen (v := 6) hx hb hK hP 1 0 rfl rfl rfl dX3_turnOf_9 ?_
  refine lv_icmp_ge (tgt := 22) hx hb dX3_turnOf_10 (by decide) (fun c_2 => absurd c_2 (by decide)) (fun _ => ?_)
  refine lv_aload_n hx hb dX3_turnOf_13 rfl (lv_at hl 0 rfl) ?_
  refine va_get (D := (dC, dI)) (ci := 8) (v := .ref tq) (C := RX3) (T := TX3) (N := 4) hx hb hts u_c_turnOf_4_X3 hown hK hP 0 rfl rfl 1 (by decide) (hts (.fieldLink RX3 9 "HotelOfBells$Moment" "turns" "[I") (List.mem_of_getElem? (i := 1) rfl)) (fun _ h9 => h9) rfl dX3_turnOf_14 ?_
  refine lv_iload_n hx hb dX3_turnOf_17 rfl (lv_at hl 1 rfl) ?_
  refine va_iald hx hb hK hP 1 0 rfl rfl (by unfold vp_in; decide) dX3_turnOf_18 ?_
  refine lv_topi (fun x_3 e_4 => ?_)
  obtain rfl : x_3 = 0 := e_4
  refine lv_goto (tgt := 23) hx hb dX3_turnOf_19 (by decide) ?_
  have hP9 := hP.sub (ws' := [(h0, .inr (8, [.int hd, .ref tq, .ref zq, .ref wq])), (tq, .inl (ci, 6, .inl (fun _ => 0)))]) [0, 1] rfl
  have hD9 := hD.sub (ws' := [(h0, .inr (8, [.int hd, .ref tq, .ref zq, .ref wq])), (tq, .inl (ci, 6, .inl (fun _ => 0)))]) [0, 1] (by decide) rfl
  have hK9 := hK.sub (tys' := [(ci, .int)]) [0] rfl
  exact W.iret (v := 0) hx hb hr (fun t ht hW => ⟨⟨0, (), rfl, rfl, by rw [ht]; exact hP9, va_K.moved hW.alike hK9, hD9⟩, hS.F ht⟩) hS.2.2 dX3_turnOf_23
def v_c_turnOf_5 : List Cond := .code yX3_turnOf cX3_turnOf 2 (some .int) :: ([Cond.fieldLink RX3 9 "HotelOfBells$Moment" "turns" "[I"] ++ (wsX30 ++ []))
theorem u_c_turnOf_5_X3 : ∀ w ∈ wsX30, w ∈ v_c_turnOf_5 := fun _ h => List.mem_cons_of_mem _ (List.mem_append_right _ (List.mem_append_left _ h))
set_option maxHeartbeats 4000000 in
set_option maxRecDepth 100000 in
theorem c_turnOf_5 (l : Launch) (hl9 : l.stackTraces = false) (dC : Nat → ClassId) (dI : Nat → Nat → Nat) (tE : Nat) (h0 : Nat) (tq : Nat) (zq : Nat) (wq : Nat) (hd : Int32) (ci : ClassId) (sz : Nat) : Met l yX3_turnOf v_c_turnOf_5 ({ frames := 0, cells := 0, slots := 0, locals := 0 }) (va_Pc [.ref h0, .int 5] (Pre0 dC dI tE sz [(ci, .int)] [(h0, .inr (8, [.int hd, .ref tq, .ref zq, .ref wq])), (tq, .inl (ci, 6, .inl (fun _ => 0)))])) (va_Qi (fun (r : Int32) (_ : Unit) => r = 0) (fun _ t => Pst dC dI [(ci, .int)] (va_A [(h0, .inr (8, [.int hd, .ref tq, .ref zq, .ref wq])), (tq, .inl (ci, 6, .inl (fun _ => 0)))] sz) [(h0, .inr (8, [.int hd, .ref tq, .ref zq, .ref wq])), (tq, .inl (ci, 6, .inl (fun _ => 0)))] t) (va_A [(h0, .inr (8, [.int hd, .ref tq, .ref zq, .ref wq])), (tq, .inl (ci, 6, .inl (fun _ => 0)))] sz)) 0 0 (va_A [(h0, .inr (8, [.int hd, .ref tq, .ref zq, .ref wq])), (tq, .inl (ci, 6, .inl (fun _ => 0)))] sz) := by
  refine Met.ofW (cc := cX3_turnOf) (maxL := 2) (ret := (some .int)) (by decide) rfl ?_
  intro p e s m args below meth c s₁ B hml hv
  obtain ⟨rfl, hsz, hP, hK, hD0, hT⟩ := hv
  have hx := B.exec
  have hb := B.bytes
  have hr := B.returns
  have hts := atoms_spec (ws := v_c_turnOf_5) B.pre
  have hown : s.vm.findClass RX3 = some m.cls := findClass_of_methodNamed B.named
  have hlocks := B.notSynchronized
  subst hsz
  have hD := hD0.self (sz := s.heap.size)
  generalize hAe : va_A [(h0, .inr (8, [.int hd, .ref tq, .ref zq, .ref wq])), (tq, .inl (ci, 6, .inl (fun _ => 0)))] s.heap.size = A at hD hT ⊢
  have hA : ∀ q : Nat, s.heap.size ≤ q → A q := fun q h => by rw [← hAe]; exact Or.inr h
  have hS : va_S A s.heap s.heap [] := va_S.rf
  have hl := lv_entry ([.ref h0, .int 5]) (n := 2) (Nat.le_of_ble_eq_true rfl)
  rw [lg_entry_eq]
  generalize (lg_sl ([.ref h0, .int 5]) ++ List.replicate (2 - (lg_sl ([.ref h0, .int 5])).length) Slot.unset).toArray = ls at hl ⊢
  have hl : lv_has ls 2 [(0, .ref h0), (1, .int 5)] := hl
  refine lv_iload_n hx hb dX3_turnOf_0 rfl (lv_at hl 1 rfl) ?_
  refine lv_if_lt (tgt := 22) hx hb dX3_turnOf_1 (by decide) (fun c_1 => absurd c_1 (by decide)) (fun _ => ?_)
  refine lv_iload_n hx hb dX3_turnOf_4 rfl (lv_at hl 1 rfl) ?_
  refine lv_aload_n hx hb dX3_turnOf_5 rfl (lv_at hl 0 rfl) ?_
  refine va_get (D := (dC, dI)) (ci := 8) (v := .ref tq) (C := RX3) (T := TX3) (N := 4) hx hb hts u_c_turnOf_5_X3 hown hK hP 0 rfl rfl 1 (by decide) (hts (.fieldLink RX3 9 "HotelOfBells$Moment" "turns" "[I") (List.mem_of_getElem? (i := 1) rfl)) (fun _ h9 => h9) rfl dX3_turnOf_6 ?_
  refine va_alen (v := 6) hx hb hK hP 1 0 rfl rfl rfl dX3_turnOf_9 ?_
  refine lv_icmp_ge (tgt := 22) hx hb dX3_turnOf_10 (by decide) (fun c_2 => absurd c_2 (by decide)) (fun _ => ?_)
  refine lv_aload_n hx hb dX3_turnOf_13 rfl (lv_at hl 0 rfl) ?_
  refine va_get (D := (dC, dI)) (ci := 8) (v := .ref tq) (C := RX3) (T := TX3) (N := 4) hx hb hts u_c_turnOf_5_X3 hown hK hP 0 rfl rfl 1 (by decide) (hts (.fieldLink RX3 9 "HotelOfBells$Moment" "turns" "[I") (List.mem_of_getElem? (i := 1) rfl)) (fun _ h9 => h9) rfl dX3_turnOf_14 ?_
  refine lv_iload_n hx hb dX3_turnOf_17 rfl (lv_at hl 1 rfl) ?_
  refine va_iald hx hb hK hP 1 0 rfl rfl (by unfold vp_in; decide) dX3_turnOf_18 ?_
  refine lv_topi (fun x_3 e_4 => ?_)
  obtain rfl : x_3 = 0 := e_4
  refine lv_goto (tgt := 23) hx hb dX3_turnOf_19 (by decide) ?_
  have hP9 := hP.sub (ws' := [(h0, .inr (8, [.int hd, .ref tq, .ref zq, .ref wq])), (tq, .inl (ci, 6, .inl (fun _ => 0)))]) [0, 1] rfl
  have hD9 := hD.sub (ws' := [(h0, .inr (8, [.int hd, .ref tq, .ref zq, .ref wq])), (tq, .inl (ci, 6, .inl (fun _ => 0)))]) [0, 1] (by decide) rfl
  have hK9 := hK.sub (tys' := [(ci, .int)]) [0] rfl
  exact W.iret (v := 0) hx hb hr (fun t ht hW => ⟨⟨0, (), rfl, rfl, by rw [ht]; exact hP9, va_K.moved hW.alike hK9, hD9⟩, hS.F ht⟩) hS.2.2 dX3_turnOf_23
def v_c_heightOf_0 : List Cond := .code yX3_heightOf cX3_heightOf 2 (some .int) :: ([Cond.fieldLink RX3 15 "HotelOfBells$Moment" "heights" "[I"] ++ (wsX30 ++ []))
theorem u_c_heightOf_0_X3 : ∀ w ∈ wsX30, w ∈ v_c_heightOf_0 := fun _ h => List.mem_cons_of_mem _ (List.mem_append_right _ (List.mem_append_left _ h))
set_option maxHeartbeats 4000000 in
set_option maxRecDepth 100000 in
theorem c_heightOf_0 (l : Launch) (hl9 : l.stackTraces = false) (dC : Nat → ClassId) (dI : Nat → Nat → Nat) (tE : Nat) (h0 : Nat) (tq : Nat) (zq : Nat) (wq : Nat) (hd : Int32) (ci : ClassId) (sz : Nat) : Met l yX3_heightOf v_c_heightOf_0 ({ frames := 0, cells := 0, slots := 0, locals := 0 }) (va_Pc [.ref h0, .int 0] (Pre0 dC dI tE sz [(ci, .int)] [(h0, .inr (8, [.int hd, .ref tq, .ref zq, .ref wq])), (zq, .inl (ci, 4, .inl (fun _ => 0)))])) (va_Qi (fun (r : Int32) (_ : Unit) => r = 0) (fun _ t => Pst dC dI [(ci, .int)] (va_A [(h0, .inr (8, [.int hd, .ref tq, .ref zq, .ref wq])), (zq, .inl (ci, 4, .inl (fun _ => 0)))] sz) [(h0, .inr (8, [.int hd, .ref tq, .ref zq, .ref wq])), (zq, .inl (ci, 4, .inl (fun _ => 0)))] t) (va_A [(h0, .inr (8, [.int hd, .ref tq, .ref zq, .ref wq])), (zq, .inl (ci, 4, .inl (fun _ => 0)))] sz)) 0 0 (va_A [(h0, .inr (8, [.int hd, .ref tq, .ref zq, .ref wq])), (zq, .inl (ci, 4, .inl (fun _ => 0)))] sz) := by
  refine Met.ofW (cc := cX3_heightOf) (maxL := 2) (ret := (some .int)) (by decide) rfl ?_
  intro p e s m args below meth c s₁ B hml hv
  obtain ⟨rfl, hsz, hP, hK, hD0, hT⟩ := hv
  have hx := B.exec
  have hb := B.bytes
  have hr := B.returns
  have hts := atoms_spec (ws := v_c_heightOf_0) B.pre
  have hown : s.vm.findClass RX3 = some m.cls := findClass_of_methodNamed B.named
  have hlocks := B.notSynchronized
  subst hsz
  have hD := hD0.self (sz := s.heap.size)
  generalize hAe : va_A [(h0, .inr (8, [.int hd, .ref tq, .ref zq, .ref wq])), (zq, .inl (ci, 4, .inl (fun _ => 0)))] s.heap.size = A at hD hT ⊢
  have hA : ∀ q : Nat, s.heap.size ≤ q → A q := fun q h => by rw [← hAe]; exact Or.inr h
  have hS : va_S A s.heap s.heap [] := va_S.rf
  have hl := lv_entry ([.ref h0, .int 0]) (n := 2) (Nat.le_of_ble_eq_true rfl)
  rw [lg_entry_eq]
  generalize (lg_sl ([.ref h0, .int 0]) ++ List.replicate (2 - (lg_sl ([.ref h0, .int 0])).length) Slot.unset).toArray = ls at hl ⊢
  have hl : lv_has ls 2 [(0, .ref h0), (1, .int 0)] := hl
  refine lv_iload_n hx hb dX3_heightOf_0 rfl (lv_at hl 1 rfl) ?_
  refine lv_if_lt (tgt := 22) hx hb dX3_heightOf_1 (by decide) (fun c_1 => absurd c_1 (by decide)) (fun _ => ?_)
  refine lv_iload_n hx hb dX3_heightOf_4 rfl (lv_at hl 1 rfl) ?_
  refine lv_aload_n hx hb dX3_heightOf_5 rfl (lv_at hl 0 rfl) ?_
  refine va_get (D := (dC, dI)) (ci := 8) (v := .ref zq) (C := RX3) (T := TX3) (N := 4) hx hb hts u_c_heightOf_0_X3 hown hK hP 0 rfl rfl 2 (by decide) (hts (.fieldLink RX3 15 "HotelOfBells$Moment" "heights" "[I") (List.mem_of_getElem? (i := 1) rfl)) (fun _ h9 => h9) rfl dX3_heightOf_6 ?_
  refine va_alen (v := 4) hx hb hK hP 1 0 rfl rfl rfl dX3_heightOf_9 ?_
  refine lv_icmp_ge (tgt := 22) hx hb dX3_heightOf_10 (by decide) (fun c_2 => absurd c_2 (by decide)) (fun _ => ?_)
  refine lv_aload_n hx hb dX3_heightOf_13 rfl (lv_at hl 0 rfl) ?_
  refine va_get (D := (dC, dI)) (ci := 8) (v := .ref zq) (C := RX3) (T := TX3) (N := 4) hx hb hts u_c_heightOf_0_X3 hown hK hP 0 rfl rfl 2 (by decide) (hts (.fieldLink RX3 15 "HotelOfBells$Moment" "heights" "[I") (List.mem_of_getElem? (i := 1) rfl)) (fun _ h9 => h9) rfl dX3_heightOf_14 ?_
  refine lv_iload_n hx hb dX3_heightOf_17 rfl (lv_at hl 1 rfl) ?_
  refine va_iald hx hb hK hP 1 0 rfl rfl (by unfold vp_in; decide) dX3_heightOf_18 ?_
  refine lv_topi (fun x_3 e_4 => ?_)
  obtain rfl : x_3 = 0 := e_4
  refine lv_goto (tgt := 23) hx hb dX3_heightOf_19 (by decide) ?_
  have hP9 := hP.sub (ws' := [(h0, .inr (8, [.int hd, .ref tq, .ref zq, .ref wq])), (zq, .inl (ci, 4, .inl (fun _ => 0)))]) [0, 1] rfl
  have hD9 := hD.sub (ws' := [(h0, .inr (8, [.int hd, .ref tq, .ref zq, .ref wq])), (zq, .inl (ci, 4, .inl (fun _ => 0)))]) [0, 1] (by decide) rfl
  have hK9 := hK.sub (tys' := [(ci, .int)]) [0] rfl
  exact W.iret (v := 0) hx hb hr (fun t ht hW => ⟨⟨0, (), rfl, rfl, by rw [ht]; exact hP9, va_K.moved hW.alike hK9, hD9⟩, hS.F ht⟩) hS.2.2 dX3_heightOf_23
def v_c_heightOf_1 : List Cond := .code yX3_heightOf cX3_heightOf 2 (some .int) :: ([Cond.fieldLink RX3 15 "HotelOfBells$Moment" "heights" "[I"] ++ (wsX30 ++ []))
theorem u_c_heightOf_1_X3 : ∀ w ∈ wsX30, w ∈ v_c_heightOf_1 := fun _ h => List.mem_cons_of_mem _ (List.mem_append_right _ (List.mem_append_left _ h))
set_option maxHeartbeats 4000000 in
set_option maxRecDepth 100000 in
theorem c_heightOf_1 (l : Launch) (hl9 : l.stackTraces = false) (dC : Nat → ClassId) (dI : Nat → Nat → Nat) (tE : Nat) (h0 : Nat) (tq : Nat) (zq : Nat) (wq : Nat) (hd : Int32) (ci : ClassId) (sz : Nat) : Met l yX3_heightOf v_c_heightOf_1 ({ frames := 0, cells := 0, slots := 0, locals := 0 }) (va_Pc [.ref h0, .int 1] (Pre0 dC dI tE sz [(ci, .int)] [(h0, .inr (8, [.int hd, .ref tq, .ref zq, .ref wq])), (zq, .inl (ci, 4, .inl (fun _ => 0)))])) (va_Qi (fun (r : Int32) (_ : Unit) => r = 0) (fun _ t => Pst dC dI [(ci, .int)] (va_A [(h0, .inr (8, [.int hd, .ref tq, .ref zq, .ref wq])), (zq, .inl (ci, 4, .inl (fun _ => 0)))] sz) [(h0, .inr (8, [.int hd, .ref tq, .ref zq, .ref wq])), (zq, .inl (ci, 4, .inl (fun _ => 0)))] t) (va_A [(h0, .inr (8, [.int hd, .ref tq, .ref zq, .ref wq])), (zq, .inl (ci, 4, .inl (fun _ => 0)))] sz)) 0 0 (va_A [(h0, .inr (8, [.int hd, .ref tq, .ref zq, .ref wq])), (zq, .inl (ci, 4, .inl (fun _ => 0)))] sz) := by
  refine Met.ofW (cc := cX3_heightOf) (maxL := 2) (ret := (some .int)) (by decide) rfl ?_
  intro p e s m args below meth c s₁ B hml hv
  obtain ⟨rfl, hsz, hP, hK, hD0, hT⟩ := hv
  have hx := B.exec
  have hb := B.bytes
  have hr := B.returns
  have hts := atoms_spec (ws := v_c_heightOf_1) B.pre
  have hown : s.vm.findClass RX3 = some m.cls := findClass_of_methodNamed B.named
  have hlocks := B.notSynchronized
  subst hsz
  have hD := hD0.self (sz := s.heap.size)
  generalize hAe : va_A [(h0, .inr (8, [.int hd, .ref tq, .ref zq, .ref wq])), (zq, .inl (ci, 4, .inl (fun _ => 0)))] s.heap.size = A at hD hT ⊢
  have hA : ∀ q : Nat, s.heap.size ≤ q → A q := fun q h => by rw [← hAe]; exact Or.inr h
  have hS : va_S A s.heap s.heap [] := va_S.rf
  have hl := lv_entry ([.ref h0, .int 1]) (n := 2) (Nat.le_of_ble_eq_true rfl)
  rw [lg_entry_eq]
  generalize (lg_sl ([.ref h0, .int 1]) ++ List.replicate (2 - (lg_sl ([.ref h0, .int 1])).length) Slot.unset).toArray = ls at hl ⊢
  have hl : lv_has ls 2 [(0, .ref h0), (1, .int 1)] := hl
  refine lv_iload_n hx hb dX3_heightOf_0 rfl (lv_at hl 1 rfl) ?_
  refine lv_if_lt (tgt := 22) hx hb dX3_heightOf_1 (by decide) (fun c_1 => absurd c_1 (by decide)) (fun _ => ?_)
  refine lv_iload_n hx hb dX3_heightOf_4 rfl (lv_at hl 1 rfl) ?_
  refine lv_aload_n hx hb dX3_heightOf_5 rfl (lv_at hl 0 rfl) ?_
  refine va_get (D := (dC, dI)) (ci := 8) (v := .ref zq) (C := RX3) (T := TX3) (N := 4) hx hb hts u_c_heightOf_1_X3 hown hK hP 0 rfl rfl 2 (by decide) (hts (.fieldLink RX3 15 "HotelOfBells$Moment" "heights" "[I") (List.mem_of_getElem? (i := 1) rfl)) (fun _ h9 => h9) rfl dX3_heightOf_6 ?_
  refine va_alen (v := 4) hx hb hK hP 1 0 rfl rfl rfl dX3_heightOf_9 ?_
  refine lv_icmp_ge (tgt := 22) hx hb dX3_heightOf_10 (by decide) (fun c_2 => absurd c_2 (by decide)) (fun _ => ?_)
  refine lv_aload_n hx hb dX3_heightOf_13 rfl (lv_at hl 0 rfl) ?_
  refine va_get (D := (dC, dI)) (ci := 8) (v := .ref zq) (C := RX3) (T := TX3) (N := 4) hx hb hts u_c_heightOf_1_X3 hown hK hP 0 rfl rfl 2 (by decide) (hts (.fieldLink RX3 15 "HotelOfBells$Moment" "heights" "[I") (List.mem_of_getElem? (i := 1) rfl)) (fun _ h9 => h9) rfl dX3_heightOf_14 ?_
  refine lv_iload_n hx hb dX3_heightOf_17 rfl (lv_at hl 1 rfl) ?_
  refine va_iald hx hb hK hP 1 0 rfl rfl (by unfold vp_in; decide) dX3_heightOf_18 ?_
  refine lv_topi (fun x_3 e_4 => ?_)
  obtain rfl : x_3 = 0 := e_4
  refine lv_goto (tgt := 23) hx hb dX3_heightOf_19 (by decide) ?_
  have hP9 := hP.sub (ws' := [(h0, .inr (8, [.int hd, .ref tq, .ref zq, .ref wq])), (zq, .inl (ci, 4, .inl (fun _ => 0)))]) [0, 1] rfl
  have hD9 := hD.sub (ws' := [(h0, .inr (8, [.int hd, .ref tq, .ref zq, .ref wq])), (zq, .inl (ci, 4, .inl (fun _ => 0)))]) [0, 1] (by decide) rfl
  have hK9 := hK.sub (tys' := [(ci, .int)]) [0] rfl
  exact W.iret (v := 0) hx hb hr (fun t ht hW => ⟨⟨0, (), rfl, rfl, by rw [ht]; exact hP9, va_K.moved hW.alike hK9, hD9⟩, hS.F ht⟩) hS.2.2 dX3_heightOf_23
def v_c_heightOf_2 : List Cond := .code yX3_heightOf cX3_heightOf 2 (some .int) :: ([Cond.fieldLink RX3 15 "HotelOfBells$Moment" "heights" "[I"] ++ (wsX30 ++ []))
theorem u_c_heightOf_2_X3 : ∀ w ∈ wsX30, w ∈ v_c_heightOf_2 := fun _ h => List.mem_cons_of_mem _ (List.mem_append_right _ (List.mem_append_left _ h))
set_option maxHeartbeats 4000000 in
set_option maxRecDepth 100000 in
theorem c_heightOf_2 (l : Launch) (hl9 : l.stackTraces = false) (dC : Nat → ClassId) (dI : Nat → Nat → Nat) (tE : Nat) (h0 : Nat) (tq : Nat) (zq : Nat) (wq : Nat) (hd : Int32) (ci : ClassId) (sz : Nat) : Met l yX3_heightOf v_c_heightOf_2 ({ frames := 0, cells := 0, slots := 0, locals := 0 }) (va_Pc [.ref h0, .int 2] (Pre0 dC dI tE sz [(ci, .int)] [(h0, .inr (8, [.int hd, .ref tq, .ref zq, .ref wq])), (zq, .inl (ci, 4, .inl (fun _ => 0)))])) (va_Qi (fun (r : Int32) (_ : Unit) => r = 0) (fun _ t => Pst dC dI [(ci, .int)] (va_A [(h0, .inr (8, [.int hd, .ref tq, .ref zq, .ref wq])), (zq, .inl (ci, 4, .inl (fun _ => 0)))] sz) [(h0, .inr (8, [.int hd, .ref tq, .ref zq, .ref wq])), (zq, .inl (ci, 4, .inl (fun _ => 0)))] t) (va_A [(h0, .inr (8, [.int hd, .ref tq, .ref zq, .ref wq])), (zq, .inl (ci, 4, .inl (fun _ => 0)))] sz)) 0 0 (va_A [(h0, .inr (8, [.int hd, .ref tq, .ref zq, .ref wq])), (zq, .inl (ci, 4, .inl (fun _ => 0)))] sz) := by
  refine Met.ofW (cc := cX3_heightOf) (maxL := 2) (ret := (some .int)) (by decide) rfl ?_
  intro p e s m args below meth c s₁ B hml hv
  obtain ⟨rfl, hsz, hP, hK, hD0, hT⟩ := hv
  have hx := B.exec
  have hb := B.bytes
  have hr := B.returns
  have hts := atoms_spec (ws := v_c_heightOf_2) B.pre
  have hown : s.vm.findClass RX3 = some m.cls := findClass_of_methodNamed B.named
  have hlocks := B.notSynchronized
  subst hsz
  have hD := hD0.self (sz := s.heap.size)
  generalize hAe : va_A [(h0, .inr (8, [.int hd, .ref tq, .ref zq, .ref wq])), (zq, .inl (ci, 4, .inl (fun _ => 0)))] s.heap.size = A at hD hT ⊢
  have hA : ∀ q : Nat, s.heap.size ≤ q → A q := fun q h => by rw [← hAe]; exact Or.inr h
  have hS : va_S A s.heap s.heap [] := va_S.rf
  have hl := lv_entry ([.ref h0, .int 2]) (n := 2) (Nat.le_of_ble_eq_true rfl)
  rw [lg_entry_eq]
  generalize (lg_sl ([.ref h0, .int 2]) ++ List.replicate (2 - (lg_sl ([.ref h0, .int 2])).length) Slot.unset).toArray = ls at hl ⊢
  have hl : lv_has ls 2 [(0, .ref h0), (1, .int 2)] := hl
  refine lv_iload_n hx hb dX3_heightOf_0 rfl (lv_at hl 1 rfl) ?_
  refine lv_if_lt (tgt := 22) hx hb dX3_heightOf_1 (by decide) (fun c_1 => absurd c_1 (by decide)) (fun _ => ?_)
  refine lv_iload_n hx hb dX3_heightOf_4 rfl (lv_at hl 1 rfl) ?_
  refine lv_aload_n hx hb dX3_heightOf_5 rfl (lv_at hl 0 rfl) ?_
  refine va_get (D := (dC, dI)) (ci := 8) (v := .ref zq) (C := RX3) (T := TX3) (N := 4) hx hb hts u_c_heightOf_2_X3 hown hK hP 0 rfl rfl 2 (by decide) (hts (.fieldLink RX3 15 "HotelOfBells$Moment" "heights" "[I") (List.mem_of_getElem? (i := 1) rfl)) (fun _ h9 => h9) rfl dX3_heightOf_6 ?_
  refine va_alen (v := 4) hx hb hK hP 1 0 rfl rfl rfl dX3_heightOf_9 ?_
  refine lv_icmp_ge (tgt := 22) hx hb dX3_heightOf_10 (by decide) (fun c_2 => absurd c_2 (by decide)) (fun _ => ?_)
  refine lv_aload_n hx hb dX3_heightOf_13 rfl (lv_at hl 0 rfl) ?_
  refine va_get (D := (dC, dI)) (ci := 8) (v := .ref zq) (C := RX3) (T := TX3) (N := 4) hx hb hts u_c_heightOf_2_X3 hown hK hP 0 rfl rfl 2 (by decide) (hts (.fieldLink RX3 15 "HotelOfBells$Moment" "heights" "[I") (List.mem_of_getElem? (i := 1) rfl)) (fun _ h9 => h9) rfl dX3_heightOf_14 ?_
  refine lv_iload_n hx hb dX3_heightOf_17 rfl (lv_at hl 1 rfl) ?_
  refine va_iald hx hb hK hP 1 0 rfl rfl (by unfold vp_in; decide) dX3_heightOf_18 ?_
  refine lv_topi (fun x_3 e_4 => ?_)
  obtain rfl : x_3 = 0 := e_4
  refine lv_goto (tgt := 23) hx hb dX3_heightOf_19 (by decide) ?_
  have hP9 := hP.sub (ws' := [(h0, .inr (8, [.int hd, .ref tq, .ref zq, .ref wq])), (zq, .inl (ci, 4, .inl (fun _ => 0)))]) [0, 1] rfl
  have hD9 := hD.sub (ws' := [(h0, .inr (8, [.int hd, .ref tq, .ref zq, .ref wq])), (zq, .inl (ci, 4, .inl (fun _ => 0)))]) [0, 1] (by decide) rfl
  have hK9 := hK.sub (tys' := [(ci, .int)]) [0] rfl
  exact W.iret (v := 0) hx hb hr (fun t ht hW => ⟨⟨0, (), rfl, rfl, by rw [ht]; exact hP9, va_K.moved hW.alike hK9, hD9⟩, hS.F ht⟩) hS.2.2 dX3_heightOf_23
def v_c_heightOf_3 : List Cond := .code yX3_heightOf cX3_heightOf 2 (some .int) :: ([Cond.fieldLink RX3 15 "HotelOfBells$Moment" "heights" "[I"] ++ (wsX30 ++ []))
theorem u_c_heightOf_3_X3 : ∀ w ∈ wsX30, w ∈ v_c_heightOf_3 := fun _ h => List.mem_cons_of_mem _ (List.mem_append_right _ (List.mem_append_left _ h))
set_option maxHeartbeats 4000000 in
set_option maxRecDepth 100000 in
theorem c_heightOf_3 (l : Launch) (hl9 : l.stackTraces = false) (dC : Nat → ClassId) (dI : Nat → Nat → Nat) (tE : Nat) (h0 : Nat) (tq : Nat) (zq : Nat) (wq : Nat) (hd : Int32) (ci : ClassId) (sz : Nat) : Met l yX3_heightOf v_c_heightOf_3 ({ frames := 0, cells := 0, slots := 0, locals := 0 }) (va_Pc [.ref h0, .int 3] (Pre0 dC dI tE sz [(ci, .int)] [(h0, .inr (8, [.int hd, .ref tq, .ref zq, .ref wq])), (zq, .inl (ci, 4, .inl (fun _ => 0)))])) (va_Qi (fun (r : Int32) (_ : Unit) => r = 0) (fun _ t => Pst dC dI [(ci, .int)] (va_A [(h0, .inr (8, [.int hd, .ref tq, .ref zq, .ref wq])), (zq, .inl (ci, 4, .inl (fun _ => 0)))] sz) [(h0, .inr (8, [.int hd, .ref tq, .ref zq, .ref wq])), (zq, .inl (ci, 4, .inl (fun _ => 0)))] t) (va_A [(h0, .inr (8, [.int hd, .ref tq, .ref zq, .ref wq])), (zq, .inl (ci, 4, .inl (fun _ => 0)))] sz)) 0 0 (va_A [(h0, .inr (8, [.int hd, .ref tq, .ref zq, .ref wq])), (zq, .inl (ci, 4, .inl (fun _ => 0)))] sz) := by
  refine Met.ofW (cc := cX3_heightOf) (maxL := 2) (ret := (some .int)) (by decide) rfl ?_
  intro p e s m args below meth c s₁ B hml hv
  obtain ⟨rfl, hsz, hP, hK, hD0, hT⟩ := hv
  have hx := B.exec
  have hb := B.bytes
  have hr := B.returns
  have hts := atoms_spec (ws := v_c_heightOf_3) B.pre
  have hown : s.vm.findClass RX3 = some m.cls := findClass_of_methodNamed B.named
  have hlocks := B.notSynchronized
  subst hsz
  have hD := hD0.self (sz := s.heap.size)
  generalize hAe : va_A [(h0, .inr (8, [.int hd, .ref tq, .ref zq, .ref wq])), (zq, .inl (ci, 4, .inl (fun _ => 0)))] s.heap.size = A at hD hT ⊢
  have hA : ∀ q : Nat, s.heap.size ≤ q → A q := fun q h => by rw [← hAe]; exact Or.inr h
  have hS : va_S A s.heap s.heap [] := va_S.rf
  have hl := lv_entry ([.ref h0, .int 3]) (n := 2) (Nat.le_of_ble_eq_true rfl)
  rw [lg_entry_eq]
  generalize (lg_sl ([.ref h0, .int 3]) ++ List.replicate (2 - (lg_sl ([.ref h0, .int 3])).length) Slot.unset).toArray = ls at hl ⊢
  have hl : lv_has ls 2 [(0, .ref h0), (1, .int 3)] := hl
  refine lv_iload_n hx hb dX3_heightOf_0 rfl (lv_at hl 1 rfl) ?_
  refine lv_if_lt (tgt := 22) hx hb dX3_heightOf_1 (by decide) (fun c_1 => absurd c_1 (by decide)) (fun _ => ?_)
  refine lv_iload_n hx hb dX3_heightOf_4 rfl (lv_at hl 1 rfl) ?_
  refine lv_aload_n hx hb dX3_heightOf_5 rfl (lv_at hl 0 rfl) ?_
  refine va_get (D := (dC, dI)) (ci := 8) (v := .ref zq) (C := RX3) (T := TX3) (N := 4) hx hb hts u_c_heightOf_3_X3 hown hK hP 0 rfl rfl 2 (by decide) (hts (.fieldLink RX3 15 "HotelOfBells$Moment" "heights" "[I") (List.mem_of_getElem? (i := 1) rfl)) (fun _ h9 => h9) rfl dX3_heightOf_6 ?_
  refine va_alen (v := 4) hx hb hK hP 1 0 rfl rfl rfl dX3_heightOf_9 ?_
  refine lv_icmp_ge (tgt := 22) hx hb dX3_heightOf_10 (by decide) (fun c_2 => absurd c_2 (by decide)) (fun _ => ?_)
  refine lv_aload_n hx hb dX3_heightOf_13 rfl (lv_at hl 0 rfl) ?_
  refine va_get (D := (dC, dI)) (ci := 8) (v := .ref zq) (C := RX3) (T := TX3) (N := 4) hx hb hts u_c_heightOf_3_X3 hown hK hP 0 rfl rfl 2 (by decide) (hts (.fieldLink RX3 15 "HotelOfBells$Moment" "heights" "[I") (List.mem_of_getElem? (i := 1) rfl)) (fun _ h9 => h9) rfl dX3_heightOf_14 ?_
  refine lv_iload_n hx hb dX3_heightOf_17 rfl (lv_at hl 1 rfl) ?_
  refine va_iald hx hb hK hP 1 0 rfl rfl (by unfold vp_in; decide) dX3_heightOf_18 ?_
  refine lv_topi (fun x_3 e_4 => ?_)
  obtain rfl : x_3 = 0 := e_4
  refine lv_goto (tgt := 23) hx hb dX3_heightOf_19 (by decide) ?_
  have hP9 := hP.sub (ws' := [(h0, .inr (8, [.int hd, .ref tq, .ref zq, .ref wq])), (zq, .inl (ci, 4, .inl (fun _ => 0)))]) [0, 1] rfl
  have hD9 := hD.sub (ws' := [(h0, .inr (8, [.int hd, .ref tq, .ref zq, .ref wq])), (zq, .inl (ci, 4, .inl (fun _ => 0)))]) [0, 1] (by decide) rfl
  have hK9 := hK.sub (tys' := [(ci, .int)]) [0] rfl
  exact W.iret (v := 0) hx hb hr (fun t ht hW => ⟨⟨0, (), rfl, rfl, by rw [ht]; exact hP9, va_K.moved hW.alike hK9, hD9⟩, hS.F ht⟩) hS.2.2 dX3_heightOf_23
def v_c_isRising_0 : List Cond := .code yX3_isRising cX3_isRising 2 (some .boolean) :: ([Cond.fieldLink RX3 18 "HotelOfBells$Moment" "falling" "[Z"] ++ (wsX30 ++ []))
theorem u_c_isRising_0_X3 : ∀ w ∈ wsX30, w ∈ v_c_isRising_0 := fun _ h => List.mem_cons_of_mem _ (List.mem_append_right _ (List.mem_append_left _ h))
set_option maxHeartbeats 4000000 in
set_option maxRecDepth 100000 in
theorem c_isRising_0 (l : Launch) (hl9 : l.stackTraces = false) (dC : Nat → ClassId) (dI : Nat → Nat → Nat) (tE : Nat) (h0 : Nat) (tq : Nat) (zq : Nat) (wq : Nat) (hd : Int32) (cw : ClassId) (sz : Nat) : Met l yX3_isRising v_c_isRising_0 ({ frames := 0, cells := 0, slots := 0, locals := 0 }) (va_Pc [.ref h0, .int 0] (Pre0 dC dI tE sz [(cw, .boolean)] [(h0, .inr (8, [.int hd, .ref tq, .ref zq, .ref wq])), (wq, .inl (cw, 4, .inl (fun _ => 0)))])) (va_Qi (fun (r : Int32) (_ : Unit) => r = 1) (fun _ t => Pst dC dI [(cw, .boolean)] (va_A [(h0, .inr (8, [.int hd, .ref tq, .ref zq, .ref wq])), (wq, .inl (cw, 4, .inl (fun _ => 0)))] sz) [(h0, .inr (8, [.int hd, .ref tq, .ref zq, .ref wq])), (wq, .inl (cw, 4, .inl (fun _ => 0)))] t) (va_A [(h0, .inr (8, [.int hd, .ref tq, .ref zq, .ref wq])), (wq, .inl (cw, 4, .inl (fun _ => 0)))] sz)) 0 0 (va_A [(h0, .inr (8, [.int hd, .ref tq, .ref zq, .ref wq])), (wq, .inl (cw, 4, .inl (fun _ => 0)))] sz) := by
  refine Met.ofW (cc := cX3_isRising) (maxL := 2) (ret := (some .boolean)) (by decide) rfl ?_
  intro p e s m args below meth c s₁ B hml hv
  obtain ⟨rfl, hsz, hP, hK, hD0, hT⟩ := hv
  have hx := B.exec
  have hb := B.bytes
  have hr := B.returns
  have hts := atoms_spec (ws := v_c_isRising_0) B.pre
  have hown : s.vm.findClass RX3 = some m.cls := findClass_of_methodNamed B.named
  have hlocks := B.notSynchronized
  subst hsz
  have hD := hD0.self (sz := s.heap.size)
  generalize hAe : va_A [(h0, .inr (8, [.int hd, .ref tq, .ref zq, .ref wq])), (wq, .inl (cw, 4, .inl (fun _ => 0)))] s.heap.size = A at hD hT ⊢
  have hA : ∀ q : Nat, s.heap.size ≤ q → A q := fun q h => by rw [← hAe]; exact Or.inr h
  have hS : va_S A s.heap s.heap [] := va_S.rf
  have hl := lv_entry ([.ref h0, .int 0]) (n := 2) (Nat.le_of_ble_eq_true rfl)
  rw [lg_entry_eq]
  generalize (lg_sl ([.ref h0, .int 0]) ++ List.replicate (2 - (lg_sl ([.ref h0, .int 0])).length) Slot.unset).toArray = ls at hl ⊢
  have hl : lv_has ls 2 [(0, .ref h0), (1, .int 0)] := hl
  refine lv_iload_n hx hb dX3_isRising_0 rfl (lv_at hl 1 rfl) ?_
  refine lv_if_lt (tgt := 26) hx hb dX3_isRising_1 (by decide) (fun c_1 => absurd c_1 (by decide)) (fun _ => ?_)
  refine lv_iload_n hx hb dX3_isRising_4 rfl (lv_at hl 1 rfl) ?_
  refine lv_aload_n hx hb dX3_isRising_5 rfl (lv_at hl 0 rfl) ?_
  refine va_get (D := (dC, dI)) (ci := 8) (v := .ref wq) (C := RX3) (T := TX3) (N := 4) hx hb hts u_c_isRising_0_X3 hown hK hP 0 rfl rfl 3 (by decide) (hts (.fieldLink RX3 18 "HotelOfBells$Moment" "falling" "[Z") (List.mem_of_getElem? (i := 1) rfl)) (fun _ h9 => h9) rfl dX3_isRising_6 ?_
  refine va_alen (v := 4) hx hb hK hP 1 0 rfl rfl rfl dX3_isRising_9 ?_
  refine lv_icmp_ge (tgt := 26) hx hb dX3_isRising_10 (by decide) (fun c_2 => absurd c_2 (by decide)) (fun _ => ?_)
  refine lv_aload_n hx hb dX3_isRising_13 rfl (lv_at hl 0 rfl) ?_
  refine va_get (D := (dC, dI)) (ci := 8) (v := .ref wq) (C := RX3) (T := TX3) (N := 4) hx hb hts u_c_isRising_0_X3 hown hK hP 0 rfl rfl 3 (by decide) (hts (.fieldLink RX3 18 "HotelOfBells$Moment" "falling" "[Z") (List.mem_of_getElem? (i := 1) rfl)) (fun _ h9 => h9) rfl dX3_isRising_14 ?_
  refine lv_iload_n hx hb dX3_isRising_17 rfl (lv_at hl 1 rfl) ?_
  refine va_zald hx hb hK hP 1 0 rfl rfl (by unfold vp_in; decide) dX3_isRising_18 ?_
  refine lv_topi (fun x_3 e_4 => ?_)
  obtain rfl : x_3 = 0 := e_4
  refine lv_if_ne (tgt := 26) hx hb dX3_isRising_19 (by decide) (fun c_5 => absurd (by decide) c_5) (fun _ => ?_)
  refine lv_iconst (v := 1) hx hb dX3_isRising_22 (by decide) ?_
  refine lv_goto (tgt := 27) hx hb dX3_isRising_23 (by decide) ?_
  have hP9 := hP.sub (ws' := [(h0, .inr (8, [.int hd, .ref tq, .ref zq, .ref wq])), (wq, .inl (cw, 4, .inl (fun _ => 0)))]) [0, 1] rfl
  have hD9 := hD.sub (ws' := [(h0, .inr (8, [.int hd, .ref tq, .ref zq, .ref wq])), (wq, .inl (cw, 4, .inl (fun _ => 0)))]) [0, 1] (by decide) rfl
  have hK9 := hK.sub (tys' := [(cw, .boolean)]) [0] rfl
  exact W.zret (v := 1) hx hb hr (by decide) (fun t ht hW => ⟨⟨1, (), rfl, rfl, by rw [ht]; exact hP9, va_K.moved hW.alike hK9, hD9⟩, hS.F ht⟩) hS.2.2 dX3_isRising_27
def v_c_isRising_1 : List Cond := .code yX3_isRising cX3_isRising 2 (some .boolean) :: ([Cond.fieldLink RX3 18 "HotelOfBells$Moment" "falling" "[Z"] ++ (wsX30 ++ []))
theorem u_c_isRising_1_X3 : ∀ w ∈ wsX30, w ∈ v_c_isRising_1 := fun _ h => List.mem_cons_of_mem _ (List.mem_append_right _ (List.mem_append_left _ h))
set_option maxHeartbeats 4000000 in
set_option maxRecDepth 100000 in
theorem c_isRising_1 (l : Launch) (hl9 : l.stackTraces = false) (dC : Nat → ClassId) (dI : Nat → Nat → Nat) (tE : Nat) (h0 : Nat) (tq : Nat) (zq : Nat) (wq : Nat) (hd : Int32) (cw : ClassId) (sz : Nat) : Met l yX3_isRising v_c_isRising_1 ({ frames := 0, cells := 0, slots := 0, locals := 0 }) (va_Pc [.ref h0, .int 1] (Pre0 dC dI tE sz [(cw, .boolean)] [(h0, .inr (8, [.int hd, .ref tq, .ref zq, .ref wq])), (wq, .inl (cw, 4, .inl (fun _ => 0)))])) (va_Qi (fun (r : Int32) (_ : Unit) => r = 1) (fun _ t => Pst dC dI [(cw, .boolean)] (va_A [(h0, .inr (8, [.int hd, .ref tq, .ref zq, .ref wq])), (wq, .inl (cw, 4, .inl (fun _ => 0)))] sz) [(h0, .inr (8, [.int hd, .ref tq, .ref zq, .ref wq])), (wq, .inl (cw, 4, .inl (fun _ => 0)))] t) (va_A [(h0, .inr (8, [.int hd, .ref tq, .ref zq, .ref wq])), (wq, .inl (cw, 4, .inl (fun _ => 0)))] sz)) 0 0 (va_A [(h0, .inr (8, [.int hd, .ref tq, .ref zq, .ref wq])), (wq, .inl (cw, 4, .inl (fun _ => 0)))] sz) := by
  refine Met.ofW (cc := cX3_isRising) (maxL := 2) (ret := (some .boolean)) (by decide) rfl ?_
  intro p e s m args below meth c s₁ B hml hv
  obtain ⟨rfl, hsz, hP, hK, hD0, hT⟩ := hv
  have hx := B.exec
  have hb := B.bytes
  have hr := B.returns
  have hts := atoms_spec (ws := v_c_isRising_1) B.pre
  have hown : s.vm.findClass RX3 = some m.cls := findClass_of_methodNamed B.named
  have hlocks := B.notSynchronized
  subst hsz
  have hD := hD0.self (sz := s.heap.size)
  generalize hAe : va_A [(h0, .inr (8, [.int hd, .ref tq, .ref zq, .ref wq])), (wq, .inl (cw, 4, .inl (fun _ => 0)))] s.heap.size = A at hD hT ⊢
  have hA : ∀ q : Nat, s.heap.size ≤ q → A q := fun q h => by rw [← hAe]; exact Or.inr h
  have hS : va_S A s.heap s.heap [] := va_S.rf
  have hl := lv_entry ([.ref h0, .int 1]) (n := 2) (Nat.le_of_ble_eq_true rfl)
  rw [lg_entry_eq]
  generalize (lg_sl ([.ref h0, .int 1]) ++ List.replicate (2 - (lg_sl ([.ref h0, .int 1])).length) Slot.unset).toArray = ls at hl ⊢
  have hl : lv_has ls 2 [(0, .ref h0), (1, .int 1)] := hl
  refine lv_iload_n hx hb dX3_isRising_0 rfl (lv_at hl 1 rfl) ?_
  refine lv_if_lt (tgt := 26) hx hb dX3_isRising_1 (by decide) (fun c_1 => absurd c_1 (by decide)) (fun _ => ?_)
  refine lv_iload_n hx hb dX3_isRising_4 rfl (lv_at hl 1 rfl) ?_
  refine lv_aload_n hx hb dX3_isRising_5 rfl (lv_at hl 0 rfl) ?_
  refine va_get (D := (dC, dI)) (ci := 8) (v := .ref wq) (C := RX3) (T := TX3) (N := 4) hx hb hts u_c_isRising_1_X3 hown hK hP 0 rfl rfl 3 (by decide) (hts (.fieldLink RX3 18 "HotelOfBells$Moment" "falling" "[Z") (List.mem_of_getElem? (i := 1) rfl)) (fun _ h9 => h9) rfl dX3_isRising_6 ?_
  refine va_alen (v := 4) hx hb hK hP 1 0 rfl rfl rfl dX3_isRising_9 ?_
  refine lv_icmp_ge (tgt := 26) hx hb dX3_isRising_10 (by decide) (fun c_2 => absurd c_2 (by decide)) (fun _ => ?_)
  refine lv_aload_n hx hb dX3_isRising_13 rfl (lv_at hl 0 rfl) ?_
  refine va_get (D := (dC, dI)) (ci := 8) (v := .ref wq) (C := RX3) (T := TX3) (N := 4) hx hb hts u_c_isRising_1_X3 hown hK hP 0 rfl rfl 3 (by decide) (hts (.fieldLink RX3 18 "HotelOfBells$Moment" "falling" "[Z") (List.mem_of_getElem? (i := 1) rfl)) (fun _ h9 => h9) rfl dX3_isRising_14 ?_
  refine lv_iload_n hx hb dX3_isRising_17 rfl (lv_at hl 1 rfl) ?_
  refine va_zald hx hb hK hP 1 0 rfl rfl (by unfold vp_in; decide) dX3_isRising_18 ?_
  refine lv_topi (fun x_3 e_4 => ?_)
  obtain rfl : x_3 = 0 := e_4
  refine lv_if_ne (tgt := 26) hx hb dX3_isRising_19 (by decide) (fun c_5 => absurd (by decide) c_5) (fun _ => ?_)
  refine lv_iconst (v := 1) hx hb dX3_isRising_22 (by decide) ?_
  refine lv_goto (tgt := 27) hx hb dX3_isRising_23 (by decide) ?_
  have hP9 := hP.sub (ws' := [(h0, .inr (8, [.int hd, .ref tq, .ref zq, .ref wq])), (wq, .inl (cw, 4, .inl (fun _ => 0)))]) [0, 1] rfl
  have hD9 := hD.sub (ws' := [(h0, .inr (8, [.int hd, .ref tq, .ref zq, .ref wq])), (wq, .inl (cw, 4, .inl (fun _ => 0)))]) [0, 1] (by decide) rfl
  have hK9 := hK.sub (tys' := [(cw, .boolean)]) [0] rfl
  exact W.zret (v := 1) hx hb hr (by decide) (fun t ht hW => ⟨⟨1, (), rfl, rfl, by rw [ht]; exact hP9, va_K.moved hW.alike hK9, hD9⟩, hS.F ht⟩) hS.2.2 dX3_isRising_27
def v_c_isRising_2 : List Cond := .code yX3_isRising cX3_isRising 2 (some .boolean) :: ([Cond.fieldLink RX3 18 "HotelOfBells$Moment" "falling" "[Z"] ++ (wsX30 ++ []))
theorem u_c_isRising_2_X3 : ∀ w ∈ wsX30, w ∈ v_c_isRising_2 := fun _ h => List.mem_cons_of_mem _ (List.mem_append_right _ (List.mem_append_left _ h))
set_option maxHeartbeats 4000000 in
set_option maxRecDepth 100000 in
theorem c_isRising_2 (l : Launch) (hl9 : l.stackTraces = false) (dC : Nat → ClassId) (dI : Nat → Nat → Nat) (tE : Nat) (h0 : Nat) (tq : Nat) (zq : Nat) (wq : Nat) (hd : Int32) (cw : ClassId) (sz : Nat) : Met l yX3_isRising v_c_isRising_2 ({ frames := 0, cells := 0, slots := 0, locals := 0 }) (va_Pc [.ref h0, .int 2] (Pre0 dC dI tE sz [(cw, .boolean)] [(h0, .inr (8, [.int hd, .ref tq, .ref zq, .ref wq])), (wq, .inl (cw, 4, .inl (fun _ => 0)))])) (va_Qi (fun (r : Int32) (_ : Unit) => r = 1) (fun _ t => Pst dC dI [(cw, .boolean)] (va_A [(h0, .inr (8, [.int hd, .ref tq, .ref zq, .ref wq])), (wq, .inl (cw, 4, .inl (fun _ => 0)))] sz) [(h0, .inr (8, [.int hd, .ref tq, .ref zq, .ref wq])), (wq, .inl (cw, 4, .inl (fun _ => 0)))] t) (va_A [(h0, .inr (8, [.int hd, .ref tq, .ref zq, .ref wq])), (wq, .inl (cw, 4, .inl (fun _ => 0)))] sz)) 0 0 (va_A [(h0, .inr (8, [.int hd, .ref tq, .ref zq, .ref wq])), (wq, .inl (cw, 4, .inl (fun _ => 0)))] sz) := by
  refine Met.ofW (cc := cX3_isRising) (maxL := 2) (ret := (some .boolean)) (by decide) rfl ?_
  intro p e s m args below meth c s₁ B hml hv
  obtain ⟨rfl, hsz, hP, hK, hD0, hT⟩ := hv
  have hx := B.exec
  have hb := B.bytes
  have hr := B.returns
  have hts := atoms_spec (ws := v_c_isRising_2) B.pre
  have hown : s.vm.findClass RX3 = some m.cls := findClass_of_methodNamed B.named
  have hlocks := B.notSynchronized
  subst hsz
  have hD := hD0.self (sz := s.heap.size)
  generalize hAe : va_A [(h0, .inr (8, [.int hd, .ref tq, .ref zq, .ref wq])), (wq, .inl (cw, 4, .inl (fun _ => 0)))] s.heap.size = A at hD hT ⊢
  have hA : ∀ q : Nat, s.heap.size ≤ q → A q := fun q h => by rw [← hAe]; exact Or.inr h
  have hS : va_S A s.heap s.heap [] := va_S.rf
  have hl := lv_entry ([.ref h0, .int 2]) (n := 2) (Nat.le_of_ble_eq_true rfl)
  rw [lg_entry_eq]
  generalize (lg_sl ([.ref h0, .int 2]) ++ List.replicate (2 - (lg_sl ([.ref h0, .int 2])).length) Slot.unset).toArray = ls at hl ⊢
  have hl : lv_has ls 2 [(0, .ref h0), (1, .int 2)] := hl
  refine lv_iload_n hx hb dX3_isRising_0 rfl (lv_at hl 1 rfl) ?_
  refine lv_if_lt (tgt := 26) hx hb dX3_isRising_1 (by decide) (fun c_1 => absurd c_1 (by decide)) (fun _ => ?_)
  refine lv_iload_n hx hb dX3_isRising_4 rfl (lv_at hl 1 rfl) ?_
  refine lv_aload_n hx hb dX3_isRising_5 rfl (lv_at hl 0 rfl) ?_
  refine va_get (D := (dC, dI)) (ci := 8) (v := .ref wq) (C := RX3) (T := TX3) (N := 4) hx hb hts u_c_isRising_2_X3 hown hK hP 0 rfl rfl 3 (by decide) (hts (.fieldLink RX3 18 "HotelOfBells$Moment" "falling" "[Z") (List.mem_of_getElem? (i := 1) rfl)) (fun _ h9 => h9) rfl dX3_isRising_6 ?_
  refine va_alen (v := 4) hx hb hK hP 1 0 rfl rfl rfl dX3_isRising_9 ?_
  refine lv_icmp_ge (tgt := 26) hx hb dX3_isRising_10 (by decide) (fun c_2 => absurd c_2 (by decide)) (fun _ => ?_)
  refine lv_aload_n hx hb dX3_isRising_13 rfl (lv_at hl 0 rfl) ?_
  refine va_get (D := (dC, dI)) (ci := 8) (v := .ref wq) (C := RX3) (T := TX3) (N := 4) hx hb hts u_c_isRising_2_X3 hown hK hP 0 rfl rfl 3 (by decide) (hts (.fieldLink RX3 18 "HotelOfBells$Moment" "falling" "[Z") (List.mem_of_getElem? (i := 1) rfl)) (fun _ h9 => h9) rfl dX3_isRising_14 ?_
  refine lv_iload_n hx hb dX3_isRising_17 rfl (lv_at hl 1 rfl) ?_
  refine va_zald hx hb hK hP 1 0 rfl rfl (by unfold vp_in; decide) dX3_isRising_18 ?_
  refine lv_topi (fun x_3 e_4 => ?_)
  obtain rfl : x_3 = 0 := e_4
  refine lv_if_ne (tgt := 26) hx hb dX3_isRising_19 (by decide) (fun c_5 => absurd (by decide) c_5) (fun _ => ?_)
  refine lv_iconst (v := 1) hx hb dX3_isRising_22 (by decide) ?_
  refine lv_goto (tgt := 27) hx hb dX3_isRising_23 (by decide) ?_
  have hP9 := hP.sub (ws' := [(h0, .inr (8, [.int hd, .ref tq, .ref zq, .ref wq])), (wq, .inl (cw, 4, .inl (fun _ => 0)))]) [0, 1] rfl
  have hD9 := hD.sub (ws' := [(h0, .inr (8, [.int hd, .ref tq, .ref zq, .ref wq])), (wq, .inl (cw, 4, .inl (fun _ => 0)))]) [0, 1] (by decide) rfl
  have hK9 := hK.sub (tys' := [(cw, .boolean)]) [0] rfl
  exact W.zret (v := 1) hx hb hr (by decide) (fun t ht hW => ⟨⟨1, (), rfl, rfl, by rw [ht]; exact hP9, va_K.moved hW.alike hK9, hD9⟩, hS.F ht⟩) hS.2.2 dX3_isRising_27
def v_c_isRising_3 : List Cond := .code yX3_isRising cX3_isRising 2 (some .boolean) :: ([Cond.fieldLink RX3 18 "HotelOfBells$Moment" "falling" "[Z"] ++ (wsX30 ++ []))
theorem u_c_isRising_3_X3 : ∀ w ∈ wsX30, w ∈ v_c_isRising_3 := fun _ h => List.mem_cons_of_mem _ (List.mem_append_right _ (List.mem_append_left _ h))
set_option maxHeartbeats 4000000 in
set_option maxRecDepth 100000 in
theorem c_isRising_3 (l : Launch) (hl9 : l.stackTraces = false) (dC : Nat → ClassId) (dI : Nat → Nat → Nat) (tE : Nat) (h0 : Nat) (tq : Nat) (zq : Nat) (wq : Nat) (hd : Int32) (cw : ClassId) (sz : Nat) : Met l yX3_isRising v_c_isRising_3 ({ frames := 0, cells := 0, slots := 0, locals := 0 }) (va_Pc [.ref h0, .int 3] (Pre0 dC dI tE sz [(cw, .boolean)] [(h0, .inr (8, [.int hd, .ref tq, .ref zq, .ref wq])), (wq, .inl (cw, 4, .inl (fun _ => 0)))])) (va_Qi (fun (r : Int32) (_ : Unit) => r = 1) (fun _ t => Pst dC dI [(cw, .boolean)] (va_A [(h0, .inr (8, [.int hd, .ref tq, .ref zq, .ref wq])), (wq, .inl (cw, 4, .inl (fun _ => 0)))] sz) [(h0, .inr (8, [.int hd, .ref tq, .ref zq, .ref wq])), (wq, .inl (cw, 4, .inl (fun _ => 0)))] t) (va_A [(h0, .inr (8, [.int hd, .ref tq, .ref zq, .ref wq])), (wq, .inl (cw, 4, .inl (fun _ => 0)))] sz)) 0 0 (va_A [(h0, .inr (8, [.int hd, .ref tq, .ref zq, .ref wq])), (wq, .inl (cw, 4, .inl (fun _ => 0)))] sz) := by
  refine Met.ofW (cc := cX3_isRising) (maxL := 2) (ret := (some .boolean)) (by decide) rfl ?_
  intro p e s m args below meth c s₁ B hml hv
  obtain ⟨rfl, hsz, hP, hK, hD0, hT⟩ := hv
  have hx := B.exec
  have hb := B.bytes
  have hr := B.returns
  have hts := atoms_spec (ws := v_c_isRising_3) B.pre
  have hown : s.vm.findClass RX3 = some m.cls := findClass_of_methodNamed B.named
  have hlocks := B.notSynchronized
  subst hsz
  have hD := hD0.self (sz := s.heap.size)
  generalize hAe : va_A [(h0, .inr (8, [.int hd, .ref tq, .ref zq, .ref wq])), (wq, .inl (cw, 4, .inl (fun _ => 0)))] s.heap.size = A at hD hT ⊢
  have hA : ∀ q : Nat, s.heap.size ≤ q → A q := fun q h => by rw [← hAe]; exact Or.inr h
  have hS : va_S A s.heap s.heap [] := va_S.rf
  have hl := lv_entry ([.ref h0, .int 3]) (n := 2) (Nat.le_of_ble_eq_true rfl)
  rw [lg_entry_eq]
  generalize (lg_sl ([.ref h0, .int 3]) ++ List.replicate (2 - (lg_sl ([.ref h0, .int 3])).length) Slot.unset).toArray = ls at hl ⊢
  have hl : lv_has ls 2 [(0, .ref h0), (1, .int 3)] := hl
  refine lv_iload_n hx hb dX3_isRising_0 rfl (lv_at hl 1 rfl) ?_
  refine lv_if_lt (tgt := 26) hx hb dX3_isRising_1 (by decide) (fun c_1 => absurd c_1 (by decide)) (fun _ => ?_)
  refine lv_iload_n hx hb dX3_isRising_4 rfl (lv_at hl 1 rfl) ?_
  refine lv_aload_n hx hb dX3_isRising_5 rfl (lv_at hl 0 rfl) ?_
  refine va_get (D := (dC, dI)) (ci := 8) (v := .ref wq) (C := RX3) (T := TX3) (N := 4) hx hb hts u_c_isRising_3_X3 hown hK hP 0 rfl rfl 3 (by decide) (hts (.fieldLink RX3 18 "HotelOfBells$Moment" "falling" "[Z") (List.mem_of_getElem? (i := 1) rfl)) (fun _ h9 => h9) rfl dX3_isRising_6 ?_
  refine va_alen (v := 4) hx hb hK hP 1 0 rfl rfl rfl dX3_isRising_9 ?_
  refine lv_icmp_ge (tgt := 26) hx hb dX3_isRising_10 (by decide) (fun c_2 => absurd c_2 (by decide)) (fun _ => ?_)
  refine lv_aload_n hx hb dX3_isRising_13 rfl (lv_at hl 0 rfl) ?_
  refine va_get (D := (dC, dI)) (ci := 8) (v := .ref wq) (C := RX3) (T := TX3) (N := 4) hx hb hts u_c_isRising_3_X3 hown hK hP 0 rfl rfl 3 (by decide) (hts (.fieldLink RX3 18 "HotelOfBells$Moment" "falling" "[Z") (List.mem_of_getElem? (i := 1) rfl)) (fun _ h9 => h9) rfl dX3_isRising_14 ?_
  refine lv_iload_n hx hb dX3_isRising_17 rfl (lv_at hl 1 rfl) ?_
  refine va_zald hx hb hK hP 1 0 rfl rfl (by unfold vp_in; decide) dX3_isRising_18 ?_
  refine lv_topi (fun x_3 e_4 => ?_)
  obtain rfl : x_3 = 0 := e_4
  refine lv_if_ne (tgt := 26) hx hb dX3_isRising_19 (by decide) (fun c_5 => absurd (by decide) c_5) (fun _ => ?_)
  refine lv_iconst (v := 1) hx hb dX3_isRising_22 (by decide) ?_
  refine lv_goto (tgt := 27) hx hb dX3_isRising_23 (by decide) ?_
  have hP9 := hP.sub (ws' := [(h0, .inr (8, [.int hd, .ref tq, .ref zq, .ref wq])), (wq, .inl (cw, 4, .inl (fun _ => 0)))]) [0, 1] rfl
  have hD9 := hD.sub (ws' := [(h0, .inr (8, [.int hd, .ref tq, .ref zq, .ref wq])), (wq, .inl (cw, 4, .inl (fun _ => 0)))]) [0, 1] (by decide) rfl
  have hK9 := hK.sub (tys' := [(cw, .boolean)]) [0] rfl
  exact W.zret (v := 1) hx hb hr (by decide) (fun t ht hW => ⟨⟨1, (), rfl, rfl, by rw [ht]; exact hP9, va_K.moved hW.alike hK9, hD9⟩, hS.F ht⟩) hS.2.2 dX3_isRising_27
def v_c_setTurn : List Cond := .code yX3_setTurn cX3_setTurn 3 none :: ([Cond.fieldLink RX3 9 "HotelOfBells$Moment" "turns" "[I"] ++ (wsX30 ++ []))
theorem u_c_setTurn_X3 : ∀ w ∈ wsX30, w ∈ v_c_setTurn := fun _ h => List.mem_cons_of_mem _ (List.mem_append_right _ (List.mem_append_left _ h))
set_option maxHeartbeats 4000000 in
set_option maxRecDepth 100000 in
theorem c_setTurn (l : Launch) (hl9 : l.stackTraces = false) (dC : Nat → ClassId) (dI : Nat → Nat → Nat) (tE : Nat) (h0 : Nat) (tq : Nat) (zq : Nat) (wq : Nat) (hd : Int32) (ci : ClassId) (sz : Nat) : Met l yX3_setTurn v_c_setTurn ({ frames := 0, cells := 0, slots := 0, locals := 0 }) (va_Pc [.ref h0, .int 0, .int 0] (Pre0 dC dI tE sz [(ci, .int)] [(h0, .inr (8, [.int hd, .ref tq, .ref zq, .ref wq])), (tq, .inl (ci, 6, .inl (fun _ => 0)))])) (va_Qv (fun (_ : Unit) => True) (fun _ t => Pst dC dI [(ci, .int)] (va_A [(h0, .inr (8, [.int hd, .ref tq, .ref zq, .ref wq])), (tq, .inl (ci, 6, .inl (fun _ => 0)))] sz) [(h0, .inr (8, [.int hd, .ref tq, .ref zq, .ref wq])), (tq, .inl (ci, 6, .inl (fun _ => 0)))] t) (va_A [(h0, .inr (8, [.int hd, .ref tq, .ref zq, .ref wq])), (tq, .inl (ci, 6, .inl (fun _ => 0)))] sz)) 0 0 (va_A [(h0, .inr (8, [.int hd, .ref tq, .ref zq, .ref wq])), (tq, .inl (ci, 6, .inl (fun _ => 0)))] sz) := by
  refine Met.ofW (cc := cX3_setTurn) (maxL := 3) (ret := none) (by decide) rfl ?_
  intro p e s m args below meth c s₁ B hml hv
  obtain ⟨rfl, hsz, hP, hK, hD0, hT⟩ := hv
  have hx := B.exec
  have hb := B.bytes
  have hr := B.returns
  have hts := atoms_spec (ws := v_c_setTurn) B.pre
  have hown : s.vm.findClass RX3 = some m.cls := findClass_of_methodNamed B.named
  have hlocks := B.notSynchronized
  subst hsz
  have hD := hD0.self (sz := s.heap.size)
  generalize hAe : va_A [(h0, .inr (8, [.int hd, .ref tq, .ref zq, .ref wq])), (tq, .inl (ci, 6, .inl (fun _ => 0)))] s.heap.size = A at hD hT ⊢
  have hA : ∀ q : Nat, s.heap.size ≤ q → A q := fun q h => by rw [← hAe]; exact Or.inr h
  have hS : va_S A s.heap s.heap [] := va_S.rf
  have hl := lv_entry ([.ref h0, .int 0, .int 0]) (n := 3) (Nat.le_of_ble_eq_true rfl)
  rw [lg_entry_eq]
  generalize (lg_sl ([.ref h0, .int 0, .int 0]) ++ List.replicate (3 - (lg_sl ([.ref h0, .int 0, .int 0])).length) Slot.unset).toArray = ls at hl ⊢
  have hl : lv_has ls 3 [(0, .ref h0), (1, .int 0), (2, .int 0)] := hl
  refine lv_iload_n hx hb dX3_setTurn_0 rfl (lv_at hl 1 rfl) ?_
  refine lv_if_lt (tgt := 20) hx hb dX3_setTurn_1 (by decide) (fun c_1 => absurd c_1 (by decide)) (fun _ => ?_)
  refine lv_iload_n hx hb dX3_setTurn_4 rfl (lv_at hl 1 rfl) ?_
  refine lv_aload_n hx hb dX3_setTurn_5 rfl (lv_at hl 0 rfl) ?_
  refine va_get (D := (dC, dI)) (ci := 8) (v := .ref tq) (C := RX3) (T := TX3) (N := 4) hx hb hts u_c_setTurn_X3 hown hK hP 0 rfl rfl 1 (by decide) (hts (.fieldLink RX3 9 "HotelOfBells$Moment" "turns" "[I") (List.mem_of_getElem? (i := 1) rfl)) (fun _ h9 => h9) rfl dX3_setTurn_6 ?_
  refine va_alen (v := 6) hx hb hK hP 1 0 rfl rfl rfl dX3_setTurn_9 ?_
  refine lv_icmp_ge (tgt := 20) hx hb dX3_setTurn_10 (by decide) (fun c_2 => absurd c_2 (by decide)) (fun _ => ?_)
  refine lv_aload_n hx hb dX3_setTurn_13 rfl (lv_at hl 0 rfl) ?_
  refine va_get (D := (dC, dI)) (ci := 8) (v := .ref tq) (C := RX3) (T := TX3) (N := 4) hx hb hts u_c_setTurn_X3 hown hK hP 0 rfl rfl 1 (by decide) (hts (.fieldLink RX3 9 "HotelOfBells$Moment" "turns" "[I") (List.mem_of_getElem? (i := 1) rfl)) (fun _ h9 => h9) rfl dX3_setTurn_14 ?_
  refine lv_iload_n hx hb dX3_setTurn_17 rfl (lv_at hl 1 rfl) ?_
  refine lv_iload_n hx hb dX3_setTurn_18 rfl (lv_at hl 2 rfl) ?_
  refine va_iast hx hb hK hP hD hS 1 0 rfl rfl (by unfold vp_in; decide) dX3_setTurn_19 (fun H locs hP hD hS => ?_)
  rw [upd_z0] at hP hD
  have hP : va_P (dC, dI) vwCl [(h0, .inr (8, [.int hd, .ref tq, .ref zq, .ref wq])), (tq, .inl (ci, 6, .inl (fun _ => 0)))] H := hP
  have hD : va_D A [(h0, .inr (8, [.int hd, .ref tq, .ref zq, .ref wq])), (tq, .inl (ci, 6, .inl (fun _ => 0)))] := hD
  have hP9 := hP.sub (ws' := [(h0, .inr (8, [.int hd, .ref tq, .ref zq, .ref wq])), (tq, .inl (ci, 6, .inl (fun _ => 0)))]) [0, 1] rfl
  have hD9 := hD.sub (ws' := [(h0, .inr (8, [.int hd, .ref tq, .ref zq, .ref wq])), (tq, .inl (ci, 6, .inl (fun _ => 0)))]) [0, 1] (by decide) rfl
  have hK9 := hK.sub (tys' := [(ci, .int)]) [0] rfl
  exact W.vret hx hb hr (fun t ht hW => ⟨⟨(), rfl, trivial, by rw [ht]; exact hP9, va_K.moved hW.alike hK9, hD9⟩, hS.F ht⟩) hS.2.2 dX3_setTurn_20
def v_c_M_like : List Cond := .code yX3_becomeLike cX3_becomeLike 3 none :: ([Cond.fieldLink RX3 22 "HotelOfBells$Moment" "heard" "I", Cond.fieldLink RX3 9 "HotelOfBells$Moment" "turns" "[I", Cond.code yX3_turnOf cX3_turnOf 2 (some .int), Cond.methodLink RX3 26 yX3_turnOf, Cond.instanceMethod yX3_turnOf, Cond.selects RX3 yX3_turnOf yX3_turnOf, Cond.initialized RX3, Cond.fieldLink RX3 15 "HotelOfBells$Moment" "heights" "[I", Cond.fieldLink RX3 18 "HotelOfBells$Moment" "falling" "[Z", Cond.code yX3_heightOf cX3_heightOf 2 (some .int), Cond.methodLink RX3 30 yX3_heightOf, Cond.instanceMethod yX3_heightOf, Cond.selects RX3 yX3_heightOf yX3_heightOf, Cond.code yX3_isRising cX3_isRising 2 (some .boolean), Cond.methodLink RX3 33 yX3_isRising, Cond.instanceMethod yX3_isRising, Cond.selects RX3 yX3_isRising yX3_isRising] ++ (wsX30 ++ []))
theorem u_c_M_like_X3 : ∀ w ∈ wsX30, w ∈ v_c_M_like := fun _ h => List.mem_cons_of_mem _ (List.mem_append_right _ (List.mem_append_left _ h))
theorem gg_c_M_like_c_turnOf_0 : GoodIn v_c_M_like v_c_turnOf_0 := goodIn_r _ [3, 2, 18, 19, 20, 21] (by rfl) (by decide +kernel)
theorem gg_c_M_like_c_turnOf_1 : GoodIn v_c_M_like v_c_turnOf_1 := goodIn_r _ [3, 2, 18, 19, 20, 21] (by rfl) (by decide +kernel)
theorem gg_c_M_like_c_turnOf_2 : GoodIn v_c_M_like v_c_turnOf_2 := goodIn_r _ [3, 2, 18, 19, 20, 21] (by rfl) (by decide +kernel)
theorem gg_c_M_like_c_turnOf_3 : GoodIn v_c_M_like v_c_turnOf_3 := goodIn_r _ [3, 2, 18, 19, 20, 21] (by rfl) (by decide +kernel)
theorem gg_c_M_like_c_turnOf_4 : GoodIn v_c_M_like v_c_turnOf_4 := goodIn_r _ [3, 2, 18, 19, 20, 21] (by rfl) (by decide +kernel)
theorem gg_c_M_like_c_turnOf_5 : GoodIn v_c_M_like v_c_turnOf_5 := goodIn_r _ [3, 2, 18, 19, 20, 21] (by rfl) (by decide +kernel)
theorem gg_c_M_like_c_heightOf_0 : GoodIn v_c_M_like v_c_heightOf_0 := goodIn_r _ [10, 8, 18, 19, 20, 21] (by rfl) (by decide +kernel)
theorem gg_c_M_like_c_isRising_0 : GoodIn v_c_M_like v_c_isRising_0 := goodIn_r _ [14, 9, 18, 19, 20, 21] (by rfl) (by decide +kernel)
theorem gg_c_M_like_c_heightOf_1 : GoodIn v_c_M_like v_c_heightOf_1 := goodIn_r _ [10, 8, 18, 19, 20, 21] (by rfl) (by decide +kernel)
theorem gg_c_M_like_c_isRising_1 : GoodIn v_c_M_like v_c_isRising_1 := goodIn_r _ [14, 9, 18, 19, 20, 21] (by rfl) (by decide +kernel)
theorem gg_c_M_like_c_heightOf_2 : GoodIn v_c_M_like v_c_heightOf_2 := goodIn_r _ [10, 8, 18, 19, 20, 21] (by rfl) (by decide +kernel)
theorem gg_c_M_like_c_isRising_2 : GoodIn v_c_M_like v_c_isRising_2 := goodIn_r _ [14, 9, 18, 19, 20, 21] (by rfl) (by decide +kernel)
theorem gg_c_M_like_c_heightOf_3 : GoodIn v_c_M_like v_c_heightOf_3 := goodIn_r _ [10, 8, 18, 19, 20, 21] (by rfl) (by decide +kernel)
theorem gg_c_M_like_c_isRising_3 : GoodIn v_c_M_like v_c_isRising_3 := goodIn_r _ [14, 9, 18, 19, 20, 21] (by rfl) (by decide +kernel)
set_option maxHeartbeats 4000000 in
set_option maxRecDepth 100000 in
theorem c_M_like (l : Launch) (hl9 : l.stackTraces = false) (dC : Nat → ClassId) (dI : Nat → Nat → Nat) (tE : Nat) (m0 : Nat) (t0 : Nat) (z0 : Nat) (w0 : Nat) (m1 : Nat) (t1 : Nat) (z1 : Nat) (w1 : Nat) (hd0 : Int32) (hd1 : Int32) (ci : ClassId) (cw : ClassId) (sz : Nat) : Met l yX3_becomeLike v_c_M_like ({ frames := 1, cells := 0, slots := 0, locals := 21 }) (va_Pc [.ref m0, .ref m1] (Pre0 dC dI tE sz [(ci, .int), (ci, .int), (cw, .boolean), (ci, .int), (ci, .int), (cw, .boolean)] [(m0, .inr (8, [.int hd0, .ref t0, .ref z0, .ref w0])), (t0, .inl (ci, 6, .inl (fun _ => 0))), (z0, .inl (ci, 4, .inl (fun _ => 0))), (w0, .inl (cw, 4, .inl (fun _ => 0))), (m1, .inr (8, [.int hd1, .ref t1, .ref z1, .ref w1])), (t1, .inl (ci, 6, .inl (fun _ => 0))), (z1, .inl (ci, 4, .inl (fun _ => 0))), (w1, .inl (cw, 4, .inl (fun _ => 0)))])) (va_Qv (fun (_ : Unit) => True) (fun _ t => Pst dC dI [(ci, .int), (ci, .int), (cw, .boolean), (ci, .int), (ci, .int), (cw, .boolean)] (va_A [(m0, .inr (8, [.int hd0, .ref t0, .ref z0, .ref w0])), (t0, .inl (ci, 6, .inl (fun _ => 0))), (z0, .inl (ci, 4, .inl (fun _ => 0))), (w0, .inl (cw, 4, .inl (fun _ => 0))), (m1, .inr (8, [.int hd1, .ref t1, .ref z1, .ref w1])), (t1, .inl (ci, 6, .inl (fun _ => 0))), (z1, .inl (ci, 4, .inl (fun _ => 0))), (w1, .inl (cw, 4, .inl (fun _ => 0)))] sz) [(m0, .inr (8, [.int hd1, .ref t0, .ref z0, .ref w0])), (t0, .inl (ci, 6, .inl (fun _ => 0))), (z0, .inl (ci, 4, .inl (fun _ => 0))), (w0, .inl (cw, 4, .inl (fun _ => 0))), (t1, .inl (ci, 6, .inl (fun _ => 0))), (z1, .inl (ci, 4, .inl (fun _ => 0))), (m1, .inr (8, [.int hd1, .ref t1, .ref z1, .ref w1])), (w1, .inl (cw, 4, .inl (fun _ => 0)))] t) (va_A [(m0, .inr (8, [.int hd0, .ref t0, .ref z0, .ref w0])), (t0, .inl (ci, 6, .inl (fun _ => 0))), (z0, .inl (ci, 4, .inl (fun _ => 0))), (w0, .inl (cw, 4, .inl (fun _ => 0))), (m1, .inr (8, [.int hd1, .ref t1, .ref z1, .ref w1])), (t1, .inl (ci, 6, .inl (fun _ => 0))), (z1, .inl (ci, 4, .inl (fun _ => 0))), (w1, .inl (cw, 4, .inl (fun _ => 0)))] sz)) 0 0 (va_A [(m0, .inr (8, [.int hd0, .ref t0, .ref z0, .ref w0])), (t0, .inl (ci, 6, .inl (fun _ => 0))), (z0, .inl (ci, 4, .inl (fun _ => 0))), (w0, .inl (cw, 4, .inl (fun _ => 0))), (m1, .inr (8, [.int hd1, .ref t1, .ref z1, .ref w1])), (t1, .inl (ci, 6, .inl (fun _ => 0))), (z1, .inl (ci, 4, .inl (fun _ => 0))), (w1, .inl (cw, 4, .inl (fun _ => 0)))] sz) := by
  refine Met.ofW (cc := cX3_becomeLike) (maxL := 3) (ret := none) (by decide) rfl ?_
  intro p e s m args below meth c s₁ B hml hv
  obtain ⟨rfl, hsz, hP, hK, hD0, hT⟩ := hv
  have hx := B.exec
  have hb := B.bytes
  have hr := B.returns
  have hts := atoms_spec (ws := v_c_M_like) B.pre
  have hown : s.vm.findClass RX3 = some m.cls := findClass_of_methodNamed B.named
  have hlocks := B.notSynchronized
  subst hsz
  have hD := hD0.self (sz := s.heap.size)
  generalize hAe : va_A [(m0, .inr (8, [.int hd0, .ref t0, .ref z0, .ref w0])), (t0, .inl (ci, 6, .inl (fun _ => 0))), (z0, .inl (ci, 4, .inl (fun _ => 0))), (w0, .inl (cw, 4, .inl (fun _ => 0))), (m1, .inr (8, [.int hd1, .ref t1, .ref z1, .ref w1])), (t1, .inl (ci, 6, .inl (fun _ => 0))), (z1, .inl (ci, 4, .inl (fun _ => 0))), (w1, .inl (cw, 4, .inl (fun _ => 0)))] s.heap.size = A at hD hT ⊢
  have hA : ∀ q : Nat, s.heap.size ≤ q → A q := fun q h => by rw [← hAe]; exact Or.inr h
  have hS : va_S A s.heap s.heap [] := va_S.rf
  have hl := lv_entry ([.ref m0, .ref m1]) (n := 3) (Nat.le_of_ble_eq_true rfl)
  rw [lg_entry_eq]
  generalize (lg_sl ([.ref m0, .ref m1]) ++ List.replicate (3 - (lg_sl ([.ref m0, .ref m1])).length) Slot.unset).toArray = ls at hl ⊢
  have hl : lv_has ls 3 [(0, .ref m0), (1, .ref m1)] := hl
  refine lv_aload_n hx hb dX3_becomeLike_0 rfl (lv_at hl 0 rfl) ?_
  refine lv_aload_n hx hb dX3_becomeLike_1 rfl (lv_at hl 1 rfl) ?_
  refine va_get (D := (dC, dI)) (ci := 8) (v := .int hd1) (C := RX3) (T := TX3) (N := 4) hx hb hts u_c_M_like_X3 hown hK hP 4 rfl rfl 0 (by decide) (hts (.fieldLink RX3 22 "HotelOfBells$Moment" "heard" "I") (List.mem_of_getElem? (i := 1) rfl)) (fun _ h9 => h9) rfl dX3_becomeLike_2 ?_
  refine va_put (D := (dC, dI)) (ci := 8) (v := .int hd1) (ty := .int) (C := RX3) (T := TX3) (N := 4) hx hb hts u_c_M_like_X3 tyX3 tyX3_ok nmX3 hown hK hP hD hS 0 rfl rfl 0 (by decide) (hts (.fieldLink RX3 22 "HotelOfBells$Moment" "heard" "I") (List.mem_of_getElem? (i := 1) rfl)) (fun _ h9 => h9) rfl (by decide +kernel) rfl rfl (Nat.le_of_ble_eq_true rfl) dX3_becomeLike_5 (fun H locs hP hD hS => ?_)
  have hP : va_P (dC, dI) vwCl [(m0, .inr (8, [.int hd1, .ref t0, .ref z0, .ref w0])), (t0, .inl (ci, 6, .inl (fun _ => 0))), (z0, .inl (ci, 4, .inl (fun _ => 0))), (w0, .inl (cw, 4, .inl (fun _ => 0))), (m1, .inr (8, [.int hd1, .ref t1, .ref z1, .ref w1])), (t1, .inl (ci, 6, .inl (fun _ => 0))), (z1, .inl (ci, 4, .inl (fun _ => 0))), (w1, .inl (cw, 4, .inl (fun _ => 0)))] H := hP
  have hD : va_D A [(m0, .inr (8, [.int hd1, .ref t0, .ref z0, .ref w0])), (t0, .inl (ci, 6, .inl (fun _ => 0))), (z0, .inl (ci, 4, .inl (fun _ => 0))), (w0, .inl (cw, 4, .inl (fun _ => 0))), (m1, .inr (8, [.int hd1, .ref t1, .ref z1, .ref w1])), (t1, .inl (ci, 6, .inl (fun _ => 0))), (z1, .inl (ci, 4, .inl (fun _ => 0))), (w1, .inl (cw, 4, .inl (fun _ => 0)))] := hD
  refine lv_iconst (v := 0) hx hb dX3_becomeLike_8 (by decide) ?_
  refine lv_istore_n (lv' := [(2, .int 0), (0, .ref m0), (1, .ref m1)]) hx hb dX3_becomeLike_9 rfl hl (by decide) rfl (fun ls hl => ?_)
  refine lv_iload_n hx hb dX3_becomeLike_10 rfl (lv_at hl 0 rfl) ?_
  refine lv_aload_n hx hb dX3_becomeLike_11 rfl (lv_at hl 1 rfl) ?_
  refine va_get (D := (dC, dI)) (ci := 8) (v := .ref t0) (C := RX3) (T := TX3) (N := 4) hx hb hts u_c_M_like_X3 hown hK hP 0 rfl rfl 1 (by decide) (hts (.fieldLink RX3 9 "HotelOfBells$Moment" "turns" "[I") (List.mem_of_getElem? (i := 2) rfl)) (fun _ h9 => h9) rfl dX3_becomeLike_12 ?_
  refine va_alen (v := 6) hx hb hK hP 1 0 rfl rfl rfl dX3_becomeLike_15 ?_
  refine lv_icmp_ge (tgt := 36) hx hb dX3_becomeLike_16 (by decide) (fun c_1 => absurd c_1 (by decide)) (fun _ => ?_)
  refine lv_aload_n hx hb dX3_becomeLike_19 rfl (lv_at hl 1 rfl) ?_
  refine va_get (D := (dC, dI)) (ci := 8) (v := .ref t0) (C := RX3) (T := TX3) (N := 4) hx hb hts u_c_M_like_X3 hown hK hP 0 rfl rfl 1 (by decide) (hts (.fieldLink RX3 9 "HotelOfBells$Moment" "turns" "[I") (List.mem_of_getElem? (i := 2) rfl)) (fun _ h9 => h9) rfl dX3_becomeLike_20 ?_
  refine lv_iload_n hx hb dX3_becomeLike_23 rfl (lv_at hl 0 rfl) ?_
  refine lv_aload_n hx hb dX3_becomeLike_24 rfl (lv_at hl 2 rfl) ?_
  refine lv_iload_n hx hb dX3_becomeLike_25 rfl (lv_at hl 0 rfl) ?_
  have hPc := hP.sub (ws' := [(m1, .inr (8, [.int hd1, .ref t1, .ref z1, .ref w1])), (t1, .inl (ci, 6, .inl (fun _ => 0)))]) [4, 5] rfl
  have hDc := hD.sub (ws' := [(m1, .inr (8, [.int hd1, .ref t1, .ref z1, .ref w1])), (t1, .inl (ci, 6, .inl (fun _ => 0)))]) [4, 5] (by decide) rfl
  have hKc := hK.sub (tys' := [(ci, .int)]) [0] rfl
  have hFc := va_free (wc := [(m1, .inr (8, [.int hd1, .ref t1, .ref z1, .ref w1])), (t1, .inl (ci, 6, .inl (fun _ => 0)))]) hD hS hA [4, 5] rfl
  refine va_calli (va_runV (As := [.int 0]) (rest := [.int 0, .ref t0]) ⟨hx, hb, hml, hown, hts⟩ (c_turnOf_0 l hl9 dC dI tE m1 t1 z1 w1 hd1 ci _ ) (cwV 1 hts (goodIn_app (goodIn_r _ [4, 5, 6, 7] (by rfl) (by decide +kernel)) gg_c_M_like_c_turnOf_0) rfl rfl rfl (by decide +kernel) ⟨Nat.le_of_ble_eq_true rfl, Nat.le_of_ble_eq_true rfl⟩) ⟨Pre0.blind, va_recv hKc hPc (ci := 8) (q0 := 0) rfl rfl, Pre0.give hPc hKc hDc hT hS hFc⟩ rfl rfl hl.1 rfl (lv_room (Nat.le_of_ble_eq_true rfl)) dX3_becomeLike_26 ⟨Nat.le_of_ble_eq_true rfl, Nat.le_of_ble_eq_true rfl⟩) hS (fun q _ h => hFc q h) hFc (fun r_2 u t H1 locs ht hvm hw hB hz1 hk1 hS => ?_)
  obtain ⟨hP1, hK1, hD1⟩ := hB
  rw [ht] at hP1
  have hK1 := va_K.moved hvm.symm hK1
  obtain ⟨hP, hD⟩ := va_join (wr := [(m0, .inr (8, [.int hd1, .ref t0, .ref z0, .ref w0])), (t0, .inl (ci, 6, .inl (fun _ => 0))), (z0, .inl (ci, 4, .inl (fun _ => 0))), (w0, .inl (cw, 4, .inl (fun _ => 0))), (z1, .inl (ci, 4, .inl (fun _ => 0))), (w1, .inl (cw, 4, .inl (fun _ => 0)))]) (w1 := [(m1, .inr (8, [.int hd1, .ref t1, .ref z1, .ref w1])), (t1, .inl (ci, 6, .inl (fun _ => 0)))]) hP hD [4, 5] [0, 1, 2, 3, 6, 7] rfl rfl (by decide) (by decide) hk1 hFc hP1 hD1
  generalize H1 = H at hP hS ⊢
  have hP : va_P (dC, dI) vwCl [(m0, .inr (8, [.int hd1, .ref t0, .ref z0, .ref w0])), (t0, .inl (ci, 6, .inl (fun _ => 0))), (z0, .inl (ci, 4, .inl (fun _ => 0))), (w0, .inl (cw, 4, .inl (fun _ => 0))), (z1, .inl (ci, 4, .inl (fun _ => 0))), (w1, .inl (cw, 4, .inl (fun _ => 0))), (m1, .inr (8, [.int hd1, .ref t1, .ref z1, .ref w1])), (t1, .inl (ci, 6, .inl (fun _ => 0)))] H := hP
  have hD : va_D A [(m0, .inr (8, [.int hd1, .ref t0, .ref z0, .ref w0])), (t0, .inl (ci, 6, .inl (fun _ => 0))), (z0, .inl (ci, 4, .inl (fun _ => 0))), (w0, .inl (cw, 4, .inl (fun _ => 0))), (z1, .inl (ci, 4, .inl (fun _ => 0))), (w1, .inl (cw, 4, .inl (fun _ => 0))), (m1, .inr (8, [.int hd1, .ref t1, .ref z1, .ref w1])), (t1, .inl (ci, 6, .inl (fun _ => 0)))] := hD
  refine W.widen (k := 0) (n := 0) (by omega) (by omega) ?_
  obtain rfl : r_2 = 0 := hw
  refine va_iast hx hb hK hP hD hS 1 0 rfl rfl (by unfold vp_in; decide) dX3_becomeLike_29 (fun H locs hP hD hS => ?_)
  rw [upd_z0] at hP hD
  have hP : va_P (dC, dI) vwCl [(m0, .inr (8, [.int hd1, .ref t0, .ref z0, .ref w0])), (t0, .inl (ci, 6, .inl (fun _ => 0))), (z0, .inl (ci, 4, .inl (fun _ => 0))), (w0, .inl (cw, 4, .inl (fun _ => 0))), (z1, .inl (ci, 4, .inl (fun _ => 0))), (w1, .inl (cw, 4, .inl (fun _ => 0))), (m1, .inr (8, [.int hd1, .ref t1, .ref z1, .ref w1])), (t1, .inl (ci, 6, .inl (fun _ => 0)))] H := hP
  have hD : va_D A [(m0, .inr (8, [.int hd1, .ref t0, .ref z0, .ref w0])), (t0, .inl (ci, 6, .inl (fun _ => 0))), (z0, .inl (ci, 4, .inl (fun _ => 0))), (w0, .inl (cw, 4, .inl (fun _ => 0))), (z1, .inl (ci, 4, .inl (fun _ => 0))), (w1, .inl (cw, 4, .inl (fun _ => 0))), (m1, .inr (8, [.int hd1, .ref t1, .ref z1, .ref w1])), (t1, .inl (ci, 6, .inl (fun _ => 0)))] := hD
  refine lv_iinc (v := 1) (lv' := [(2, .int 1), (0, .ref m0), (1, .ref m1)]) hx hb dX3_becomeLike_30 hl (k := 0) rfl (by decide) (by decide) rfl (fun ls hl => ?_)
  refine lv_goto (tgt := 10) hx hb dX3_becomeLike_33 (by decide) ?_
  refine lv_iload_n hx hb dX3_becomeLike_10 rfl (lv_at hl 0 rfl) ?_
  refine lv_aload_n hx hb dX3_becomeLike_11 rfl (lv_at hl 1 rfl) ?_
  refine va_get (D := (dC, dI)) (ci := 8) (v := .ref t0) (C := RX3) (T := TX3) (N := 4) hx hb hts u_c_M_like_X3 hown hK hP 0 rfl rfl 1 (by decide) (hts (.fieldLink RX3 9 "HotelOfBells$Moment" "turns" "[I") (List.mem_of_getElem? (i := 2) rfl)) (fun _ h9 => h9) rfl dX3_becomeLike_12 ?_
  refine va_alen (v := 6) hx hb hK hP 1 0 rfl rfl rfl dX3_becomeLike_15 ?_
  refine lv_icmp_ge (tgt := 36) hx hb dX3_becomeLike_16 (by decide) (fun c_3 => absurd c_3 (by decide)) (fun _ => ?_)
  refine lv_aload_n hx hb dX3_becomeLike_19 rfl (lv_at hl 1 rfl) ?_
  refine va_get (D := (dC, dI)) (ci := 8) (v := .ref t0) (C := RX3) (T := TX3) (N := 4) hx hb hts u_c_M_like_X3 hown hK hP 0 rfl rfl 1 (by decide) (hts (.fieldLink RX3 9 "HotelOfBells$Moment" "turns" "[I") (List.mem_of_getElem? (i := 2) rfl)) (fun _ h9 => h9) rfl dX3_becomeLike_20 ?_
  refine lv_iload_n hx hb dX3_becomeLike_23 rfl (lv_at hl 0 rfl) ?_
  refine lv_aload_n hx hb dX3_becomeLike_24 rfl (lv_at hl 2 rfl) ?_
  refine lv_iload_n hx hb dX3_becomeLike_25 rfl (lv_at hl 0 rfl) ?_
  have hPc := hP.sub (ws' := [(m1, .inr (8, [.int hd1, .ref t1, .ref z1, .ref w1])), (t1, .inl (ci, 6, .inl (fun _ => 0)))]) [6, 7] rfl
  have hDc := hD.sub (ws' := [(m1, .inr (8, [.int hd1, .ref t1, .ref z1, .ref w1])), (t1, .inl (ci, 6, .inl (fun _ => 0)))]) [6, 7] (by decide) rfl
  have hKc := hK.sub (tys' := [(ci, .int)]) [0] rfl
  have hFc := va_free (wc := [(m1, .inr (8, [.int hd1, .ref t1, .ref z1, .ref w1])), (t1, .inl (ci, 6, .inl (fun _ => 0)))]) hD hS hA [6, 7] rfl
  refine va_calli (va_runV (As := [.int 1]) (rest := [.int 1, .ref t0]) ⟨hx, hb, hml, hown, hts⟩ (c_turnOf_1 l hl9 dC dI tE m1 t1 z1 w1 hd1 ci _ ) (cwV 1 hts (goodIn_app (goodIn_r _ [4, 5, 6, 7] (by rfl) (by decide +kernel)) gg_c_M_like_c_turnOf_1) rfl rfl rfl (by decide +kernel) ⟨Nat.le_of_ble_eq_true rfl, Nat.le_of_ble_eq_true rfl⟩) ⟨Pre0.blind, va_recv hKc hPc (ci := 8) (q0 := 0) rfl rfl, Pre0.give hPc hKc hDc hT hS hFc⟩ rfl rfl hl.1 rfl (lv_room (Nat.le_of_ble_eq_true rfl)) dX3_becomeLike_26 ⟨Nat.le_of_ble_eq_true rfl, Nat.le_of_ble_eq_true rfl⟩) hS (fun q _ h => hFc q h) hFc (fun r_4 u t H1 locs ht hvm hw hB hz1 hk1 hS => ?_)
  obtain ⟨hP1, hK1, hD1⟩ := hB
  rw [ht] at hP1
  have hK1 := va_K.moved hvm.symm hK1
  obtain ⟨hP, hD⟩ := va_join (wr := [(m0, .inr (8, [.int hd1, .ref t0, .ref z0, .ref w0])), (t0, .inl (ci, 6, .inl (fun _ => 0))), (z0, .inl (ci, 4, .inl (fun _ => 0))), (w0, .inl (cw, 4, .inl (fun _ => 0))), (z1, .inl (ci, 4, .inl (fun _ => 0))), (w1, .inl (cw, 4, .inl (fun _ => 0)))]) (w1 := [(m1, .inr (8, [.int hd1, .ref t1, .ref z1, .ref w1])), (t1, .inl (ci, 6, .inl (fun _ => 0)))]) hP hD [6, 7] [0, 1, 2, 3, 4, 5] rfl rfl (by decide) (by decide) hk1 hFc hP1 hD1
  generalize H1 = H at hP hS ⊢
  have hP : va_P (dC, dI) vwCl [(m0, .inr (8, [.int hd1, .ref t0, .ref z0, .ref w0])), (t0, .inl (ci, 6, .inl (fun _ => 0))), (z0, .inl (ci, 4, .inl (fun _ => 0))), (w0, .inl (cw, 4, .inl (fun _ => 0))), (z1, .inl (ci, 4, .inl (fun _ => 0))), (w1, .inl (cw, 4, .inl (fun _ => 0))), (m1, .inr (8, [.int hd1, .ref t1, .ref z1, .ref w1])), (t1, .inl (ci, 6, .inl (fun _ => 0)))] H := hP
  have hD : va_D A [(m0, .inr (8, [.int hd1, .ref t0, .ref z0, .ref w0])), (t0, .inl (ci, 6, .inl (fun _ => 0))), (z0, .inl (ci, 4, .inl (fun _ => 0))), (w0, .inl (cw, 4, .inl (fun _ => 0))), (z1, .inl (ci, 4, .inl (fun _ => 0))), (w1, .inl (cw, 4, .inl (fun _ => 0))), (m1, .inr (8, [.int hd1, .ref t1, .ref z1, .ref w1])), (t1, .inl (ci, 6, .inl (fun _ => 0)))] := hD
  refine W.widen (k := 0) (n := 0) (by omega) (by omega) ?_
  obtain rfl : r_4 = 0 := hw
  refine va_iast hx hb hK hP hD hS 1 0 rfl rfl (by unfold vp_in; decide) dX3_becomeLike_29 (fun H locs hP hD hS => ?_)
  rw [upd_z0] at hP hD
  have hP : va_P (dC, dI) vwCl [(m0, .inr (8, [.int hd1, .ref t0, .ref z0, .ref w0])), (t0, .inl (ci, 6, .inl (fun _ => 0))), (z0, .inl (ci, 4, .inl (fun _ => 0))), (w0, .inl (cw, 4, .inl (fun _ => 0))), (z1, .inl (ci, 4, .inl (fun _ => 0))), (w1, .inl (cw, 4, .inl (fun _ => 0))), (m1, .inr (8, [.int hd1, .ref t1, .ref z1, .ref w1])), (t1, .inl (ci, 6, .inl (fun _ => 0)))] H := hP
  have hD : va_D A [(m0, .inr (8, [.int hd1, .ref t0, .ref z0, .ref w0])), (t0, .inl (ci, 6, .inl (fun _ => 0))), (z0, .inl (ci, 4, .inl (fun _ => 0))), (w0, .inl (cw, 4, .inl (fun _ => 0))), (z1, .inl (ci, 4, .inl (fun _ => 0))), (w1, .inl (cw, 4, .inl (fun _ => 0))), (m1, .inr (8, [.int hd1, .ref t1, .ref z1, .ref w1])), (t1, .inl (ci, 6, .inl (fun _ => 0)))] := hD
  refine lv_iinc (v := 2) (lv' := [(2, .int 2), (0, .ref m0), (1, .ref m1)]) hx hb dX3_becomeLike_30 hl (k := 0) rfl (by decide) (by decide) rfl (fun ls hl => ?_)
  refine lv_goto (tgt := 10) hx hb dX3_becomeLike_33 (by decide) ?_
  refine lv_iload_n hx hb dX3_becomeLike_10 rfl (lv_at hl 0 rfl) ?_
  refine lv_aload_n hx hb dX3_becomeLike_11 rfl (lv_at hl 1 rfl) ?_
  refine va_get (D := (dC, dI)) (ci := 8) (v := .ref t0) (C := RX3) (T := TX3) (N := 4) hx hb hts u_c_M_like_X3 hown hK hP 0 rfl rfl 1 (by decide) (hts (.fieldLink RX3 9 "HotelOfBells$Moment" "turns" "[I") (List.mem_of_getElem? (i := 2) rfl)) (fun _ h9 => h9) rfl dX3_becomeLike_12 ?_
  refine va_alen (v := 6) hx hb hK hP 1 0 rfl rfl rfl dX3_becomeLike_15 ?_
  refine lv_icmp_ge (tgt := 36) hx hb dX3_becomeLike_16 (by decide) (fun c_5 => absurd c_5 (by decide)) (fun _ => ?_)
  refine lv_aload_n hx hb dX3_becomeLike_19 rfl (lv_at hl 1 rfl) ?_
  refine va_get (D := (dC, dI)) (ci := 8) (v := .ref t0) (C := RX3) (T := TX3) (N := 4) hx hb hts u_c_M_like_X3 hown hK hP 0 rfl rfl 1 (by decide) (hts (.fieldLink RX3 9 "HotelOfBells$Moment" "turns" "[I") (List.mem_of_getElem? (i := 2) rfl)) (fun _ h9 => h9) rfl dX3_becomeLike_20 ?_
  refine lv_iload_n hx hb dX3_becomeLike_23 rfl (lv_at hl 0 rfl) ?_
  refine lv_aload_n hx hb dX3_becomeLike_24 rfl (lv_at hl 2 rfl) ?_
  refine lv_iload_n hx hb dX3_becomeLike_25 rfl (lv_at hl 0 rfl) ?_
  have hPc := hP.sub (ws' := [(m1, .inr (8, [.int hd1, .ref t1, .ref z1, .ref w1])), (t1, .inl (ci, 6, .inl (fun _ => 0)))]) [6, 7] rfl
  have hDc := hD.sub (ws' := [(m1, .inr (8, [.int hd1, .ref t1, .ref z1, .ref w1])), (t1, .inl (ci, 6, .inl (fun _ => 0)))]) [6, 7] (by decide) rfl
  have hKc := hK.sub (tys' := [(ci, .int)]) [0] rfl
  have hFc := va_free (wc := [(m1, .inr (8, [.int hd1, .ref t1, .ref z1, .ref w1])), (t1, .inl (ci, 6, .inl (fun _ => 0)))]) hD hS hA [6, 7] rfl
  refine va_calli (va_runV (As := [.int 2]) (rest := [.int 2, .ref t0]) ⟨hx, hb, hml, hown, hts⟩ (c_turnOf_2 l hl9 dC dI tE m1 t1 z1 w1 hd1 ci _ ) (cwV 1 hts (goodIn_app (goodIn_r _ [4, 5, 6, 7] (by rfl) (by decide +kernel)) gg_c_M_like_c_turnOf_2) rfl rfl rfl (by decide +kernel) ⟨Nat.le_of_ble_eq_true rfl, Nat.le_of_ble_eq_true rfl⟩) ⟨Pre0.blind, va_recv hKc hPc (ci := 8) (q0 := 0) rfl rfl, Pre0.give hPc hKc hDc hT hS hFc⟩ rfl rfl hl.1 rfl (lv_room (Nat.le_of_ble_eq_true rfl)) dX3_becomeLike_26 ⟨Nat.le_of_ble_eq_true rfl, Nat.le_of_ble_eq_true rfl⟩) hS (fun q _ h => hFc q h) hFc (fun r_6 u t H1 locs ht hvm hw hB hz1 hk1 hS => ?_)
  obtain ⟨hP1, hK1, hD1⟩ := hB
  rw [ht] at hP1
  have hK1 := va_K.moved hvm.symm hK1
  obtain ⟨hP, hD⟩ := va_join (wr := [(m0, .inr (8, [.int hd1, .ref t0, .ref z0, .ref w0])), (t0, .inl (ci, 6, .inl (fun _ => 0))), (z0, .inl (ci, 4, .inl (fun _ => 0))), (w0, .inl (cw, 4, .inl (fun _ => 0))), (z1, .inl (ci, 4, .inl (fun _ => 0))), (w1, .inl (cw, 4, .inl (fun _ => 0)))]) (w1 := [(m1, .inr (8, [.int hd1, .ref t1, .ref z1, .ref w1])), (t1, .inl (ci, 6, .inl (fun _ => 0)))]) hP hD [6, 7] [0, 1, 2, 3, 4, 5] rfl rfl (by decide) (by decide) hk1 hFc hP1 hD1
  generalize H1 = H at hP hS ⊢
  have hP : va_P (dC, dI) vwCl [(m0, .inr (8, [.int hd1, .ref t0, .ref z0, .ref w0])), (t0, .inl (ci, 6, .inl (fun _ => 0))), (z0, .inl (ci, 4, .inl (fun _ => 0))), (w0, .inl (cw, 4, .inl (fun _ => 0))), (z1, .inl (ci, 4, .inl (fun _ => 0))), (w1, .inl (cw, 4, .inl (fun _ => 0))), (m1, .inr (8, [.int hd1, .ref t1, .ref z1, .ref w1])), (t1, .inl (ci, 6, .inl (fun _ => 0)))] H := hP
  have hD : va_D A [(m0, .inr (8, [.int hd1, .ref t0, .ref z0, .ref w0])), (t0, .inl (ci, 6, .inl (fun _ => 0))), (z0, .inl (ci, 4, .inl (fun _ => 0))), (w0, .inl (cw, 4, .inl (fun _ => 0))), (z1, .inl (ci, 4, .inl (fun _ => 0))), (w1, .inl (cw, 4, .inl (fun _ => 0))), (m1, .inr (8, [.int hd1, .ref t1, .ref z1, .ref w1])), (t1, .inl (ci, 6, .inl (fun _ => 0)))] := hD
  refine W.widen (k := 0) (n := 0) (by omega) (by omega) ?_
  obtain rfl : r_6 = 0 := hw
  refine va_iast hx hb hK hP hD hS 1 0 rfl rfl (by unfold vp_in; decide) dX3_becomeLike_29 (fun H locs hP hD hS => ?_)
  rw [upd_z0] at hP hD
  have hP : va_P (dC, dI) vwCl [(m0, .inr (8, [.int hd1, .ref t0, .ref z0, .ref w0])), (t0, .inl (ci, 6, .inl (fun _ => 0))), (z0, .inl (ci, 4, .inl (fun _ => 0))), (w0, .inl (cw, 4, .inl (fun _ => 0))), (z1, .inl (ci, 4, .inl (fun _ => 0))), (w1, .inl (cw, 4, .inl (fun _ => 0))), (m1, .inr (8, [.int hd1, .ref t1, .ref z1, .ref w1])), (t1, .inl (ci, 6, .inl (fun _ => 0)))] H := hP
  have hD : va_D A [(m0, .inr (8, [.int hd1, .ref t0, .ref z0, .ref w0])), (t0, .inl (ci, 6, .inl (fun _ => 0))), (z0, .inl (ci, 4, .inl (fun _ => 0))), (w0, .inl (cw, 4, .inl (fun _ => 0))), (z1, .inl (ci, 4, .inl (fun _ => 0))), (w1, .inl (cw, 4, .inl (fun _ => 0))), (m1, .inr (8, [.int hd1, .ref t1, .ref z1, .ref w1])), (t1, .inl (ci, 6, .inl (fun _ => 0)))] := hD
  refine lv_iinc (v := 3) (lv' := [(2, .int 3), (0, .ref m0), (1, .ref m1)]) hx hb dX3_becomeLike_30 hl (k := 0) rfl (by decide) (by decide) rfl (fun ls hl => ?_)
  refine lv_goto (tgt := 10) hx hb dX3_becomeLike_33 (by decide) ?_
  refine lv_iload_n hx hb dX3_becomeLike_10 rfl (lv_at hl 0 rfl) ?_
  refine lv_aload_n hx hb dX3_becomeLike_11 rfl (lv_at hl 1 rfl) ?_
  refine va_get (D := (dC, dI)) (ci := 8) (v := .ref t0) (C := RX3) (T := TX3) (N := 4) hx hb hts u_c_M_like_X3 hown hK hP 0 rfl rfl 1 (by decide) (hts (.fieldLink RX3 9 "HotelOfBells$Moment" "turns" "[I") (List.mem_of_getElem? (i := 2) rfl)) (fun _ h9 => h9) rfl dX3_becomeLike_12 ?_
  refine va_alen (v := 6) hx hb hK hP 1 0 rfl rfl rfl dX3_becomeLike_15 ?_
  refine lv_icmp_ge (tgt := 36) hx hb dX3_becomeLike_16 (by decide) (fun c_7 => absurd c_7 (by decide)) (fun _ => ?_)
  refine lv_aload_n hx hb dX3_becomeLike_19 rfl (lv_at hl 1 rfl) ?_
  refine va_get (D := (dC, dI)) (ci := 8) (v := .ref t0) (C := RX3) (T := TX3) (N := 4) hx hb hts u_c_M_like_X3 hown hK hP 0 rfl rfl 1 (by decide) (hts (.fieldLink RX3 9 "HotelOfBells$Moment" "turns" "[I") (List.mem_of_getElem? (i := 2) rfl)) (fun _ h9 => h9) rfl dX3_becomeLike_20 ?_
  refine lv_iload_n hx hb dX3_becomeLike_23 rfl (lv_at hl 0 rfl) ?_
  refine lv_aload_n hx hb dX3_becomeLike_24 rfl (lv_at hl 2 rfl) ?_
  refine lv_iload_n hx hb dX3_becomeLike_25 rfl (lv_at hl 0 rfl) ?_
  have hPc := hP.sub (ws' := [(m1, .inr (8, [.int hd1, .ref t1, .ref z1, .ref w1])), (t1, .inl (ci, 6, .inl (fun _ => 0)))]) [6, 7] rfl
  have hDc := hD.sub (ws' := [(m1, .inr (8, [.int hd1, .ref t1, .ref z1, .ref w1])), (t1, .inl (ci, 6, .inl (fun _ => 0)))]) [6, 7] (by decide) rfl
  have hKc := hK.sub (tys' := [(ci, .int)]) [0] rfl
  have hFc := va_free (wc := [(m1, .inr (8, [.int hd1, .ref t1, .ref z1, .ref w1])), (t1, .inl (ci, 6, .inl (fun _ => 0)))]) hD hS hA [6, 7] rfl
  refine va_calli (va_runV (As := [.int 3]) (rest := [.int 3, .ref t0]) ⟨hx, hb, hml, hown, hts⟩ (c_turnOf_3 l hl9 dC dI tE m1 t1 z1 w1 hd1 ci _ ) (cwV 1 hts (goodIn_app (goodIn_r _ [4, 5, 6, 7] (by rfl) (by decide +kernel)) gg_c_M_like_c_turnOf_3) rfl rfl rfl (by decide +kernel) ⟨Nat.le_of_ble_eq_true rfl, Nat.le_of_ble_eq_true rfl⟩) ⟨Pre0.blind, va_recv hKc hPc (ci := 8) (q0 := 0) rfl rfl, Pre0.give hPc hKc hDc hT hS hFc⟩ rfl rfl hl.1 rfl (lv_room (Nat.le_of_ble_eq_true rfl)) dX3_becomeLike_26 ⟨Nat.le_of_ble_eq_true rfl, Nat.le_of_ble_eq_true rfl⟩) hS (fun q _ h => hFc q h) hFc (fun r_8 u t H1 locs ht hvm hw hB hz1 hk1 hS => ?_)
  obtain ⟨hP1, hK1, hD1⟩ := hB
  rw [ht] at hP1
  have hK1 := va_K.moved hvm.symm hK1
  obtain ⟨hP, hD⟩ := va_join (wr := [(m0, .inr (8, [.int hd1, .ref t0, .ref z0, .ref w0])), (t0, .inl (ci, 6, .inl (fun _ => 0))), (z0, .inl (ci, 4, .inl (fun _ => 0))), (w0, .inl (cw, 4, .inl (fun _ => 0))), (z1, .inl (ci, 4, .inl (fun _ => 0))), (w1, .inl (cw, 4, .inl (fun _ => 0)))]) (w1 := [(m1, .inr (8, [.int hd1, .ref t1, .ref z1, .ref w1])), (t1, .inl (ci, 6, .inl (fun _ => 0)))]) hP hD [6, 7] [0, 1, 2, 3, 4, 5] rfl rfl (by decide) (by decide) hk1 hFc hP1 hD1
  generalize H1 = H at hP hS ⊢
  have hP : va_P (dC, dI) vwCl [(m0, .inr (8, [.int hd1, .ref t0, .ref z0, .ref w0])), (t0, .inl (ci, 6, .inl (fun _ => 0))), (z0, .inl (ci, 4, .inl (fun _ => 0))), (w0, .inl (cw, 4, .inl (fun _ => 0))), (z1, .inl (ci, 4, .inl (fun _ => 0))), (w1, .inl (cw, 4, .inl (fun _ => 0))), (m1, .inr (8, [.int hd1, .ref t1, .ref z1, .ref w1])), (t1, .inl (ci, 6, .inl (fun _ => 0)))] H := hP
  have hD : va_D A [(m0, .inr (8, [.int hd1, .ref t0, .ref z0, .ref w0])), (t0, .inl (ci, 6, .inl (fun _ => 0))), (z0, .inl (ci, 4, .inl (fun _ => 0))), (w0, .inl (cw, 4, .inl (fun _ => 0))), (z1, .inl (ci, 4, .inl (fun _ => 0))), (w1, .inl (cw, 4, .inl (fun _ => 0))), (m1, .inr (8, [.int hd1, .ref t1, .ref z1, .ref w1])), (t1, .inl (ci, 6, .inl (fun _ => 0)))] := hD
  refine W.widen (k := 0) (n := 0) (by omega) (by omega) ?_
  obtain rfl : r_8 = 0 := hw
  refine va_iast hx hb hK hP hD hS 1 0 rfl rfl (by unfold vp_in; decide) dX3_becomeLike_29 (fun H locs hP hD hS => ?_)
  rw [upd_z0] at hP hD
  have hP : va_P (dC, dI) vwCl [(m0, .inr (8, [.int hd1, .ref t0, .ref z0, .ref w0])), (t0, .inl (ci, 6, .inl (fun _ => 0))), (z0, .inl (ci, 4, .inl (fun _ => 0))), (w0, .inl (cw, 4, .inl (fun _ => 0))), (z1, .inl (ci, 4, .inl (fun _ => 0))), (w1, .inl (cw, 4, .inl (fun _ => 0))), (m1, .inr (8, [.int hd1, .ref t1, .ref z1, .ref w1])), (t1, .inl (ci, 6, .inl (fun _ => 0)))] H := hP
  have hD : va_D A [(m0, .inr (8, [.int hd1, .ref t0, .ref z0, .ref w0])), (t0, .inl (ci, 6, .inl (fun _ => 0))), (z0, .inl (ci, 4, .inl (fun _ => 0))), (w0, .inl (cw, 4, .inl (fun _ => 0))), (z1, .inl (ci, 4, .inl (fun _ => 0))), (w1, .inl (cw, 4, .inl (fun _ => 0))), (m1, .inr (8, [.int hd1, .ref t1, .ref z1, .ref w1])), (t1, .inl (ci, 6, .inl (fun _ => 0)))] := hD
  refine lv_iinc (v := 4) (lv' := [(2, .int 4), (0, .ref m0), (1, .ref m1)]) hx hb dX3_becomeLike_30 hl (k := 0) rfl (by decide) (by decide) rfl (fun ls hl => ?_)
  refine lv_goto (tgt := 10) hx hb dX3_becomeLike_33 (by decide) ?_
  refine lv_iload_n hx hb dX3_becomeLike_10 rfl (lv_at hl 0 rfl) ?_
  refine lv_aload_n hx hb dX3_becomeLike_11 rfl (lv_at hl 1 rfl) ?_
  refine va_get (D := (dC, dI)) (ci := 8) (v := .ref t0) (C := RX3) (T := TX3) (N := 4) hx hb hts u_c_M_like_X3 hown hK hP 0 rfl rfl 1 (by decide) (hts (.fieldLink RX3 9 "HotelOfBells$Moment" "turns" "[I") (List.mem_of_getElem? (i := 2) rfl)) (fun _ h9 => h9) rfl dX3_becomeLike_12 ?_
  refine va_alen (v := 6) hx hb hK hP 1 0 rfl rfl rfl dX3_becomeLike_15 ?_
  refine lv_icmp_ge (tgt := 36) hx hb dX3_becomeLike_16 (by decide) (fun c_9 => absurd c_9 (by decide)) (fun _ => ?_)
  refine lv_aload_n hx hb dX3_becomeLike_19 rfl (lv_at hl 1 rfl) ?_
  refine va_get (D := (dC, dI)) (ci := 8) (v := .ref t0) (C := RX3) (T := TX3) (N := 4) hx hb hts u_c_M_like_X3 hown hK hP 0 rfl rfl 1 (by decide) (hts (.fieldLink RX3 9 "HotelOfBells$Moment" "turns" "[I") (List.mem_of_getElem? (i := 2) rfl)) (fun _ h9 => h9) rfl dX3_becomeLike_20 ?_
  refine lv_iload_n hx hb dX3_becomeLike_23 rfl (lv_at hl 0 rfl) ?_
  refine lv_aload_n hx hb dX3_becomeLike_24 rfl (lv_at hl 2 rfl) ?_
  refine lv_iload_n hx hb dX3_becomeLike_25 rfl (lv_at hl 0 rfl) ?_
  have hPc := hP.sub (ws' := [(m1, .inr (8, [.int hd1, .ref t1, .ref z1, .ref w1])), (t1, .inl (ci, 6, .inl (fun _ => 0)))]) [6, 7] rfl
  have hDc := hD.sub (ws' := [(m1, .inr (8, [.int hd1, .ref t1, .ref z1, .ref w1])), (t1, .inl (ci, 6, .inl (fun _ => 0)))]) [6, 7] (by decide) rfl
  have hKc := hK.sub (tys' := [(ci, .int)]) [0] rfl
  have hFc := va_free (wc := [(m1, .inr (8, [.int hd1, .ref t1, .ref z1, .ref w1])), (t1, .inl (ci, 6, .inl (fun _ => 0)))]) hD hS hA [6, 7] rfl
  refine va_calli (va_runV (As := [.int 4]) (rest := [.int 4, .ref t0]) ⟨hx, hb, hml, hown, hts⟩ (c_turnOf_4 l hl9 dC dI tE m1 t1 z1 w1 hd1 ci _ ) (cwV 1 hts (goodIn_app (goodIn_r _ [4, 5, 6, 7] (by rfl) (by decide +kernel)) gg_c_M_like_c_turnOf_4) rfl rfl rfl (by decide +kernel) ⟨Nat.le_of_ble_eq_true rfl, Nat.le_of_ble_eq_true rfl⟩) ⟨Pre0.blind, va_recv hKc hPc (ci := 8) (q0 := 0) rfl rfl, Pre0.give hPc hKc hDc hT hS hFc⟩ rfl rfl hl.1 rfl (lv_room (Nat.le_of_ble_eq_true rfl)) dX3_becomeLike_26 ⟨Nat.le_of_ble_eq_true rfl, Nat.le_of_ble_eq_true rfl⟩) hS (fun q _ h => hFc q h) hFc (fun r_10 u t H1 locs ht hvm hw hB hz1 hk1 hS => ?_)
  obtain ⟨hP1, hK1, hD1⟩ := hB
  rw [ht] at hP1
  have hK1 := va_K.moved hvm.symm hK1
  obtain ⟨hP, hD⟩ := va_join (wr := [(m0, .inr (8, [.int hd1, .ref t0, .ref z0, .ref w0])), (t0, .inl (ci, 6, .inl (fun _ => 0))), (z0, .inl (ci, 4, .inl (fun _ => 0))), (w0, .inl (cw, 4, .inl (fun _ => 0))), (z1, .inl (ci, 4, .inl (fun _ => 0))), (w1, .inl (cw, 4, .inl (fun _ => 0)))]) (w1 := [(m1, .inr (8, [.int hd1, .ref t1, .ref z1, .ref w1])), (t1, .inl (ci, 6, .inl (fun _ => 0)))]) hP hD [6, 7] [0, 1, 2, 3, 4, 5] rfl rfl (by decide) (by decide) hk1 hFc hP1 hD1
  generalize H1 = H at hP hS ⊢
  have hP : va_P (dC, dI) vwCl [(m0, .inr (8, [.int hd1, .ref t0, .ref z0, .ref w0])), (t0, .inl (ci, 6, .inl (fun _ => 0))), (z0, .inl (ci, 4, .inl (fun _ => 0))), (w0, .inl (cw, 4, .inl (fun _ => 0))), (z1, .inl (ci, 4, .inl (fun _ => 0))), (w1, .inl (cw, 4, .inl (fun _ => 0))), (m1, .inr (8, [.int hd1, .ref t1, .ref z1, .ref w1])), (t1, .inl (ci, 6, .inl (fun _ => 0)))] H := hP
  have hD : va_D A [(m0, .inr (8, [.int hd1, .ref t0, .ref z0, .ref w0])), (t0, .inl (ci, 6, .inl (fun _ => 0))), (z0, .inl (ci, 4, .inl (fun _ => 0))), (w0, .inl (cw, 4, .inl (fun _ => 0))), (z1, .inl (ci, 4, .inl (fun _ => 0))), (w1, .inl (cw, 4, .inl (fun _ => 0))), (m1, .inr (8, [.int hd1, .ref t1, .ref z1, .ref w1])), (t1, .inl (ci, 6, .inl (fun _ => 0)))] := hD
  refine W.widen (k := 0) (n := 0) (by omega) (by omega) ?_
  obtain rfl : r_10 = 0 := hw
  refine va_iast hx hb hK hP hD hS 1 0 rfl rfl (by unfold vp_in; decide) dX3_becomeLike_29 (fun H locs hP hD hS => ?_)
  rw [upd_z0] at hP hD
  have hP : va_P (dC, dI) vwCl [(m0, .inr (8, [.int hd1, .ref t0, .ref z0, .ref w0])), (t0, .inl (ci, 6, .inl (fun _ => 0))), (z0, .inl (ci, 4, .inl (fun _ => 0))), (w0, .inl (cw, 4, .inl (fun _ => 0))), (z1, .inl (ci, 4, .inl (fun _ => 0))), (w1, .inl (cw, 4, .inl (fun _ => 0))), (m1, .inr (8, [.int hd1, .ref t1, .ref z1, .ref w1])), (t1, .inl (ci, 6, .inl (fun _ => 0)))] H := hP
  have hD : va_D A [(m0, .inr (8, [.int hd1, .ref t0, .ref z0, .ref w0])), (t0, .inl (ci, 6, .inl (fun _ => 0))), (z0, .inl (ci, 4, .inl (fun _ => 0))), (w0, .inl (cw, 4, .inl (fun _ => 0))), (z1, .inl (ci, 4, .inl (fun _ => 0))), (w1, .inl (cw, 4, .inl (fun _ => 0))), (m1, .inr (8, [.int hd1, .ref t1, .ref z1, .ref w1])), (t1, .inl (ci, 6, .inl (fun _ => 0)))] := hD
  refine lv_iinc (v := 5) (lv' := [(2, .int 5), (0, .ref m0), (1, .ref m1)]) hx hb dX3_becomeLike_30 hl (k := 0) rfl (by decide) (by decide) rfl (fun ls hl => ?_)
  refine lv_goto (tgt := 10) hx hb dX3_becomeLike_33 (by decide) ?_
  refine lv_iload_n hx hb dX3_becomeLike_10 rfl (lv_at hl 0 rfl) ?_
  refine lv_aload_n hx hb dX3_becomeLike_11 rfl (lv_at hl 1 rfl) ?_
  refine va_get (D := (dC, dI)) (ci := 8) (v := .ref t0) (C := RX3) (T := TX3) (N := 4) hx hb hts u_c_M_like_X3 hown hK hP 0 rfl rfl 1 (by decide) (hts (.fieldLink RX3 9 "HotelOfBells$Moment" "turns" "[I") (List.mem_of_getElem? (i := 2) rfl)) (fun _ h9 => h9) rfl dX3_becomeLike_12 ?_
  refine va_alen (v := 6) hx hb hK hP 1 0 rfl rfl rfl dX3_becomeLike_15 ?_
  refine lv_icmp_ge (tgt := 36) hx hb dX3_becomeLike_16 (by decide) (fun c_11 => absurd c_11 (by decide)) (fun _ => ?_)
  refine lv_aload_n hx hb dX3_becomeLike_19 rfl (lv_at hl 1 rfl) ?_
  refine va_get (D := (dC, dI)) (ci := 8) (v := .ref t0) (C := RX3) (T := TX3) (N := 4) hx hb hts u_c_M_like_X3 hown hK hP 0 rfl rfl 1 (by decide) (hts (.fieldLink RX3 9 "HotelOfBells$Moment" "turns" "[I") (List.mem_of_getElem? (i := 2) rfl)) (fun _ h9 => h9) rfl dX3_becomeLike_20 ?_
  refine lv_iload_n hx hb dX3_becomeLike_23 rfl (lv_at hl 0 rfl) ?_
  refine lv_aload_n hx hb dX3_becomeLike_24 rfl (lv_at hl 2 rfl) ?_
  refine lv_iload_n hx hb dX3_becomeLike_25 rfl (lv_at hl 0 rfl) ?_
  have hPc := hP.sub (ws' := [(m1, .inr (8, [.int hd1, .ref t1, .ref z1, .ref w1])), (t1, .inl (ci, 6, .inl (fun _ => 0)))]) [6, 7] rfl
  have hDc := hD.sub (ws' := [(m1, .inr (8, [.int hd1, .ref t1, .ref z1, .ref w1])), (t1, .inl (ci, 6, .inl (fun _ => 0)))]) [6, 7] (by decide) rfl
  have hKc := hK.sub (tys' := [(ci, .int)]) [0] rfl
  have hFc := va_free (wc := [(m1, .inr (8, [.int hd1, .ref t1, .ref z1, .ref w1])), (t1, .inl (ci, 6, .inl (fun _ => 0)))]) hD hS hA [6, 7] rfl
  refine va_calli (va_runV (As := [.int 5]) (rest := [.int 5, .ref t0]) ⟨hx, hb, hml, hown, hts⟩ (c_turnOf_5 l hl9 dC dI tE m1 t1 z1 w1 hd1 ci _ ) (cwV 1 hts (goodIn_app (goodIn_r _ [4, 5, 6, 7] (by rfl) (by decide +kernel)) gg_c_M_like_c_turnOf_5) rfl rfl rfl (by decide +kernel) ⟨Nat.le_of_ble_eq_true rfl, Nat.le_of_ble_eq_true rfl⟩) ⟨Pre0.blind, va_recv hKc hPc (ci := 8) (q0 := 0) rfl rfl, Pre0.give hPc hKc hDc hT hS hFc⟩ rfl rfl hl.1 rfl (lv_room (Nat.le_of_ble_eq_true rfl)) dX3_becomeLike_26 ⟨Nat.le_of_ble_eq_true rfl, Nat.le_of_ble_eq_true rfl⟩) hS (fun q _ h => hFc q h) hFc (fun r_12 u t H1 locs ht hvm hw hB hz1 hk1 hS => ?_)
  obtain ⟨hP1, hK1, hD1⟩ := hB
  rw [ht] at hP1
  have hK1 := va_K.moved hvm.symm hK1
  obtain ⟨hP, hD⟩ := va_join (wr := [(m0, .inr (8, [.int hd1, .ref t0, .ref z0, .ref w0])), (t0, .inl (ci, 6, .inl (fun _ => 0))), (z0, .inl (ci, 4, .inl (fun _ => 0))), (w0, .inl (cw, 4, .inl (fun _ => 0))), (z1, .inl (ci, 4, .inl (fun _ => 0))), (w1, .inl (cw, 4, .inl (fun _ => 0)))]) (w1 := [(m1, .inr (8, [.int hd1, .ref t1, .ref z1, .ref w1])), (t1, .inl (ci, 6, .inl (fun _ => 0)))]) hP hD [6, 7] [0, 1, 2, 3, 4, 5] rfl rfl (by decide) (by decide) hk1 hFc hP1 hD1
  generalize H1 = H at hP hS ⊢
  have hP : va_P (dC, dI) vwCl [(m0, .inr (8, [.int hd1, .ref t0, .ref z0, .ref w0])), (t0, .inl (ci, 6, .inl (fun _ => 0))), (z0, .inl (ci, 4, .inl (fun _ => 0))), (w0, .inl (cw, 4, .inl (fun _ => 0))), (z1, .inl (ci, 4, .inl (fun _ => 0))), (w1, .inl (cw, 4, .inl (fun _ => 0))), (m1, .inr (8, [.int hd1, .ref t1, .ref z1, .ref w1])), (t1, .inl (ci, 6, .inl (fun _ => 0)))] H := hP
  have hD : va_D A [(m0, .inr (8, [.int hd1, .ref t0, .ref z0, .ref w0])), (t0, .inl (ci, 6, .inl (fun _ => 0))), (z0, .inl (ci, 4, .inl (fun _ => 0))), (w0, .inl (cw, 4, .inl (fun _ => 0))), (z1, .inl (ci, 4, .inl (fun _ => 0))), (w1, .inl (cw, 4, .inl (fun _ => 0))), (m1, .inr (8, [.int hd1, .ref t1, .ref z1, .ref w1])), (t1, .inl (ci, 6, .inl (fun _ => 0)))] := hD
  refine W.widen (k := 0) (n := 0) (by omega) (by omega) ?_
  obtain rfl : r_12 = 0 := hw
  refine va_iast hx hb hK hP hD hS 1 0 rfl rfl (by unfold vp_in; decide) dX3_becomeLike_29 (fun H locs hP hD hS => ?_)
  rw [upd_z0] at hP hD
  have hP : va_P (dC, dI) vwCl [(m0, .inr (8, [.int hd1, .ref t0, .ref z0, .ref w0])), (t0, .inl (ci, 6, .inl (fun _ => 0))), (z0, .inl (ci, 4, .inl (fun _ => 0))), (w0, .inl (cw, 4, .inl (fun _ => 0))), (z1, .inl (ci, 4, .inl (fun _ => 0))), (w1, .inl (cw, 4, .inl (fun _ => 0))), (m1, .inr (8, [.int hd1, .ref t1, .ref z1, .ref w1])), (t1, .inl (ci, 6, .inl (fun _ => 0)))] H := hP
  have hD : va_D A [(m0, .inr (8, [.int hd1, .ref t0, .ref z0, .ref w0])), (t0, .inl (ci, 6, .inl (fun _ => 0))), (z0, .inl (ci, 4, .inl (fun _ => 0))), (w0, .inl (cw, 4, .inl (fun _ => 0))), (z1, .inl (ci, 4, .inl (fun _ => 0))), (w1, .inl (cw, 4, .inl (fun _ => 0))), (m1, .inr (8, [.int hd1, .ref t1, .ref z1, .ref w1])), (t1, .inl (ci, 6, .inl (fun _ => 0)))] := hD
  refine lv_iinc (v := 6) (lv' := [(2, .int 6), (0, .ref m0), (1, .ref m1)]) hx hb dX3_becomeLike_30 hl (k := 0) rfl (by decide) (by decide) rfl (fun ls hl => ?_)
  refine lv_goto (tgt := 10) hx hb dX3_becomeLike_33 (by decide) ?_
  refine lv_iload_n hx hb dX3_becomeLike_10 rfl (lv_at hl 0 rfl) ?_
  refine lv_aload_n hx hb dX3_becomeLike_11 rfl (lv_at hl 1 rfl) ?_
  refine va_get (D := (dC, dI)) (ci := 8) (v := .ref t0) (C := RX3) (T := TX3) (N := 4) hx hb hts u_c_M_like_X3 hown hK hP 0 rfl rfl 1 (by decide) (hts (.fieldLink RX3 9 "HotelOfBells$Moment" "turns" "[I") (List.mem_of_getElem? (i := 2) rfl)) (fun _ h9 => h9) rfl dX3_becomeLike_12 ?_
  refine va_alen (v := 6) hx hb hK hP 1 0 rfl rfl rfl dX3_becomeLike_15 ?_
  refine lv_icmp_ge (tgt := 36) hx hb dX3_becomeLike_16 (by decide) (fun _ => ?_) (fun c_13 => absurd (by decide) c_13)
  refine lv_iconst (v := 0) hx hb dX3_becomeLike_36 (by decide) ?_
  refine lv_istore_n (lv' := [(2, .int 0), (0, .ref m0), (1, .ref m1)]) hx hb dX3_becomeLike_37 rfl hl (by decide) rfl (fun ls hl => ?_)
  refine lv_iload_n hx hb dX3_becomeLike_38 rfl (lv_at hl 0 rfl) ?_
  refine lv_aload_n hx hb dX3_becomeLike_39 rfl (lv_at hl 1 rfl) ?_
  refine va_get (D := (dC, dI)) (ci := 8) (v := .ref z0) (C := RX3) (T := TX3) (N := 4) hx hb hts u_c_M_like_X3 hown hK hP 0 rfl rfl 2 (by decide) (hts (.fieldLink RX3 15 "HotelOfBells$Moment" "heights" "[I") (List.mem_of_getElem? (i := 8) rfl)) (fun _ h9 => h9) rfl dX3_becomeLike_40 ?_
  refine va_alen (v := 4) hx hb hK hP 2 0 rfl rfl rfl dX3_becomeLike_43 ?_
  refine lv_icmp_ge (tgt := 92) hx hb dX3_becomeLike_44 (by decide) (fun c_14 => absurd c_14 (by decide)) (fun _ => ?_)
  refine lv_iload_n hx hb dX3_becomeLike_47 rfl (lv_at hl 0 rfl) ?_
  refine lv_aload_n hx hb dX3_becomeLike_48 rfl (lv_at hl 1 rfl) ?_
  refine va_get (D := (dC, dI)) (ci := 8) (v := .ref w0) (C := RX3) (T := TX3) (N := 4) hx hb hts u_c_M_like_X3 hown hK hP 0 rfl rfl 3 (by decide) (hts (.fieldLink RX3 18 "HotelOfBells$Moment" "falling" "[Z") (List.mem_of_getElem? (i := 9) rfl)) (fun _ h9 => h9) rfl dX3_becomeLike_49 ?_
  refine va_alen (v := 4) hx hb hK hP 3 2 rfl rfl rfl dX3_becomeLike_52 ?_
  refine lv_icmp_ge (tgt := 92) hx hb dX3_becomeLike_53 (by decide) (fun c_15 => absurd c_15 (by decide)) (fun _ => ?_)
  refine lv_aload_n hx hb dX3_becomeLike_56 rfl (lv_at hl 1 rfl) ?_
  refine va_get (D := (dC, dI)) (ci := 8) (v := .ref z0) (C := RX3) (T := TX3) (N := 4) hx hb hts u_c_M_like_X3 hown hK hP 0 rfl rfl 2 (by decide) (hts (.fieldLink RX3 15 "HotelOfBells$Moment" "heights" "[I") (List.mem_of_getElem? (i := 8) rfl)) (fun _ h9 => h9) rfl dX3_becomeLike_57 ?_
  refine lv_iload_n hx hb dX3_becomeLike_60 rfl (lv_at hl 0 rfl) ?_
  refine lv_aload_n hx hb dX3_becomeLike_61 rfl (lv_at hl 2 rfl) ?_
  refine lv_iload_n hx hb dX3_becomeLike_62 rfl (lv_at hl 0 rfl) ?_
  have hPc := hP.sub (ws' := [(m1, .inr (8, [.int hd1, .ref t1, .ref z1, .ref w1])), (z1, .inl (ci, 4, .inl (fun _ => 0)))]) [6, 4] rfl
  have hDc := hD.sub (ws' := [(m1, .inr (8, [.int hd1, .ref t1, .ref z1, .ref w1])), (z1, .inl (ci, 4, .inl (fun _ => 0)))]) [6, 4] (by decide) rfl
  have hKc := hK.sub (tys' := [(ci, .int)]) [0] rfl
  have hFc := va_free (wc := [(m1, .inr (8, [.int hd1, .ref t1, .ref z1, .ref w1])), (z1, .inl (ci, 4, .inl (fun _ => 0)))]) hD hS hA [6, 4] rfl
  refine va_calli (va_runV (As := [.int 0]) (rest := [.int 0, .ref z0]) ⟨hx, hb, hml, hown, hts⟩ (c_heightOf_0 l hl9 dC dI tE m1 t1 z1 w1 hd1 ci _ ) (cwV 1 hts (goodIn_app (goodIn_r _ [11, 12, 13, 7] (by rfl) (by decide +kernel)) gg_c_M_like_c_heightOf_0) rfl rfl rfl (by decide +kernel) ⟨Nat.le_of_ble_eq_true rfl, Nat.le_of_ble_eq_true rfl⟩) ⟨Pre0.blind, va_recv hKc hPc (ci := 8) (q0 := 0) rfl rfl, Pre0.give hPc hKc hDc hT hS hFc⟩ rfl rfl hl.1 rfl (lv_room (Nat.le_of_ble_eq_true rfl)) dX3_becomeLike_63 ⟨Nat.le_of_ble_eq_true rfl, Nat.le_of_ble_eq_true rfl⟩) hS (fun q _ h => hFc q h) hFc (fun r_16 u t H1 locs ht hvm hw hB hz1 hk1 hS => ?_)
  obtain ⟨hP1, hK1, hD1⟩ := hB
  rw [ht] at hP1
  have hK1 := va_K.moved hvm.symm hK1
  obtain ⟨hP, hD⟩ := va_join (wr := [(m0, .inr (8, [.int hd1, .ref t0, .ref z0, .ref w0])), (t0, .inl (ci, 6, .inl (fun _ => 0))), (z0, .inl (ci, 4, .inl (fun _ => 0))), (w0, .inl (cw, 4, .inl (fun _ => 0))), (w1, .inl (cw, 4, .inl (fun _ => 0))), (t1, .inl (ci, 6, .inl (fun _ => 0)))]) (w1 := [(m1, .inr (8, [.int hd1, .ref t1, .ref z1, .ref w1])), (z1, .inl (ci, 4, .inl (fun _ => 0)))]) hP hD [6, 4] [0, 1, 2, 3, 5, 7] rfl rfl (by decide) (by decide) hk1 hFc hP1 hD1
  generalize H1 = H at hP hS ⊢
  have hP : va_P (dC, dI) vwCl [(m0, .inr (8, [.int hd1, .ref t0, .ref z0, .ref w0])), (t0, .inl (ci, 6, .inl (fun _ => 0))), (z0, .inl (ci, 4, .inl (fun _ => 0))), (w0, .inl (cw, 4, .inl (fun _ => 0))), (w1, .inl (cw, 4, .inl (fun _ => 0))), (t1, .inl (ci, 6, .inl (fun _ => 0))), (m1, .inr (8, [.int hd1, .ref t1, .ref z1, .ref w1])), (z1, .inl (ci, 4, .inl (fun _ => 0)))] H := hP
  have hD : va_D A [(m0, .inr (8, [.int hd1, .ref t0, .ref z0, .ref w0])), (t0, .inl (ci, 6, .inl (fun _ => 0))), (z0, .inl (ci, 4, .inl (fun _ => 0))), (w0, .inl (cw, 4, .inl (fun _ => 0))), (w1, .inl (cw, 4, .inl (fun _ => 0))), (t1, .inl (ci, 6, .inl (fun _ => 0))), (m1, .inr (8, [.int hd1, .ref t1, .ref z1, .ref w1])), (z1, .inl (ci, 4, .inl (fun _ => 0)))] := hD
  refine W.widen (k := 0) (n := 0) (by omega) (by omega) ?_
  obtain rfl : r_16 = 0 := hw
  refine va_iast hx hb hK hP hD hS 2 0 rfl rfl (by unfold vp_in; decide) dX3_becomeLike_66 (fun H locs hP hD hS => ?_)
  rw [upd_z0] at hP hD
  have hP : va_P (dC, dI) vwCl [(m0, .inr (8, [.int hd1, .ref t0, .ref z0, .ref w0])), (t0, .inl (ci, 6, .inl (fun _ => 0))), (z0, .inl (ci, 4, .inl (fun _ => 0))), (w0, .inl (cw, 4, .inl (fun _ => 0))), (w1, .inl (cw, 4, .inl (fun _ => 0))), (t1, .inl (ci, 6, .inl (fun _ => 0))), (m1, .inr (8, [.int hd1, .ref t1, .ref z1, .ref w1])), (z1, .inl (ci, 4, .inl (fun _ => 0)))] H := hP
  have hD : va_D A [(m0, .inr (8, [.int hd1, .ref t0, .ref z0, .ref w0])), (t0, .inl (ci, 6, .inl (fun _ => 0))), (z0, .inl (ci, 4, .inl (fun _ => 0))), (w0, .inl (cw, 4, .inl (fun _ => 0))), (w1, .inl (cw, 4, .inl (fun _ => 0))), (t1, .inl (ci, 6, .inl (fun _ => 0))), (m1, .inr (8, [.int hd1, .ref t1, .ref z1, .ref w1])), (z1, .inl (ci, 4, .inl (fun _ => 0)))] := hD
  refine lv_aload_n hx hb dX3_becomeLike_67 rfl (lv_at hl 1 rfl) ?_
  refine va_get (D := (dC, dI)) (ci := 8) (v := .ref w0) (C := RX3) (T := TX3) (N := 4) hx hb hts u_c_M_like_X3 hown hK hP 0 rfl rfl 3 (by decide) (hts (.fieldLink RX3 18 "HotelOfBells$Moment" "falling" "[Z") (List.mem_of_getElem? (i := 9) rfl)) (fun _ h9 => h9) rfl dX3_becomeLike_68 ?_
  refine lv_iload_n hx hb dX3_becomeLike_71 rfl (lv_at hl 0 rfl) ?_
  refine lv_aload_n hx hb dX3_becomeLike_72 rfl (lv_at hl 2 rfl) ?_
  refine lv_iload_n hx hb dX3_becomeLike_73 rfl (lv_at hl 0 rfl) ?_
  have hPc := hP.sub (ws' := [(m1, .inr (8, [.int hd1, .ref t1, .ref z1, .ref w1])), (w1, .inl (cw, 4, .inl (fun _ => 0)))]) [6, 4] rfl
  have hDc := hD.sub (ws' := [(m1, .inr (8, [.int hd1, .ref t1, .ref z1, .ref w1])), (w1, .inl (cw, 4, .inl (fun _ => 0)))]) [6, 4] (by decide) rfl
  have hKc := hK.sub (tys' := [(cw, .boolean)]) [2] rfl
  have hFc := va_free (wc := [(m1, .inr (8, [.int hd1, .ref t1, .ref z1, .ref w1])), (w1, .inl (cw, 4, .inl (fun _ => 0)))]) hD hS hA [6, 4] rfl
  refine va_calli (va_runV (As := [.int 0]) (rest := [.int 0, .ref w0]) ⟨hx, hb, hml, hown, hts⟩ (c_isRising_0 l hl9 dC dI tE m1 t1 z1 w1 hd1 cw _ ) (cwV 1 hts (goodIn_app (goodIn_r _ [15, 16, 17, 7] (by rfl) (by decide +kernel)) gg_c_M_like_c_isRising_0) rfl rfl rfl (by decide +kernel) ⟨Nat.le_of_ble_eq_true rfl, Nat.le_of_ble_eq_true rfl⟩) ⟨Pre0.blind, va_recv hKc hPc (ci := 8) (q0 := 0) rfl rfl, Pre0.give hPc hKc hDc hT hS hFc⟩ rfl rfl hl.1 rfl (lv_room (Nat.le_of_ble_eq_true rfl)) dX3_becomeLike_74 ⟨Nat.le_of_ble_eq_true rfl, Nat.le_of_ble_eq_true rfl⟩) hS (fun q _ h => hFc q h) hFc (fun r_17 u t H1 locs ht hvm hw hB hz1 hk1 hS => ?_)
  obtain ⟨hP1, hK1, hD1⟩ := hB
  rw [ht] at hP1
  have hK1 := va_K.moved hvm.symm hK1
  obtain ⟨hP, hD⟩ := va_join (wr := [(m0, .inr (8, [.int hd1, .ref t0, .ref z0, .ref w0])), (t0, .inl (ci, 6, .inl (fun _ => 0))), (z0, .inl (ci, 4, .inl (fun _ => 0))), (w0, .inl (cw, 4, .inl (fun _ => 0))), (t1, .inl (ci, 6, .inl (fun _ => 0))), (z1, .inl (ci, 4, .inl (fun _ => 0)))]) (w1 := [(m1, .inr (8, [.int hd1, .ref t1, .ref z1, .ref w1])), (w1, .inl (cw, 4, .inl (fun _ => 0)))]) hP hD [6, 4] [0, 1, 2, 3, 5, 7] rfl rfl (by decide) (by decide) hk1 hFc hP1 hD1
  generalize H1 = H at hP hS ⊢
  have hP : va_P (dC, dI) vwCl [(m0, .inr (8, [.int hd1, .ref t0, .ref z0, .ref w0])), (t0, .inl (ci, 6, .inl (fun _ => 0))), (z0, .inl (ci, 4, .inl (fun _ => 0))), (w0, .inl (cw, 4, .inl (fun _ => 0))), (t1, .inl (ci, 6, .inl (fun _ => 0))), (z1, .inl (ci, 4, .inl (fun _ => 0))), (m1, .inr (8, [.int hd1, .ref t1, .ref z1, .ref w1])), (w1, .inl (cw, 4, .inl (fun _ => 0)))] H := hP
  have hD : va_D A [(m0, .inr (8, [.int hd1, .ref t0, .ref z0, .ref w0])), (t0, .inl (ci, 6, .inl (fun _ => 0))), (z0, .inl (ci, 4, .inl (fun _ => 0))), (w0, .inl (cw, 4, .inl (fun _ => 0))), (t1, .inl (ci, 6, .inl (fun _ => 0))), (z1, .inl (ci, 4, .inl (fun _ => 0))), (m1, .inr (8, [.int hd1, .ref t1, .ref z1, .ref w1])), (w1, .inl (cw, 4, .inl (fun _ => 0)))] := hD
  refine W.widen (k := 0) (n := 0) (by omega) (by omega) ?_
  obtain rfl : r_17 = 1 := hw
  refine lv_if_ne (tgt := 84) hx hb dX3_becomeLike_77 (by decide) (fun _ => ?_) (fun c_18 => absurd c_18 (by decide))
  refine lv_iconst (v := 0) hx hb dX3_becomeLike_84 (by decide) ?_
  refine va_zast hx hb hK hP hD hS 3 2 rfl rfl (by unfold vp_in; decide) dX3_becomeLike_85 (fun H locs hP hD hS => ?_)
  rw [upd_z0z] at hP hD
  have hP : va_P (dC, dI) vwCl [(m0, .inr (8, [.int hd1, .ref t0, .ref z0, .ref w0])), (t0, .inl (ci, 6, .inl (fun _ => 0))), (z0, .inl (ci, 4, .inl (fun _ => 0))), (w0, .inl (cw, 4, .inl (fun _ => 0))), (t1, .inl (ci, 6, .inl (fun _ => 0))), (z1, .inl (ci, 4, .inl (fun _ => 0))), (m1, .inr (8, [.int hd1, .ref t1, .ref z1, .ref w1])), (w1, .inl (cw, 4, .inl (fun _ => 0)))] H := hP
  have hD : va_D A [(m0, .inr (8, [.int hd1, .ref t0, .ref z0, .ref w0])), (t0, .inl (ci, 6, .inl (fun _ => 0))), (z0, .inl (ci, 4, .inl (fun _ => 0))), (w0, .inl (cw, 4, .inl (fun _ => 0))), (t1, .inl (ci, 6, .inl (fun _ => 0))), (z1, .inl (ci, 4, .inl (fun _ => 0))), (m1, .inr (8, [.int hd1, .ref t1, .ref z1, .ref w1])), (w1, .inl (cw, 4, .inl (fun _ => 0)))] := hD
  refine lv_iinc (v := 1) (lv' := [(2, .int 1), (0, .ref m0), (1, .ref m1)]) hx hb dX3_becomeLike_86 hl (k := 0) rfl (by decide) (by decide) rfl (fun ls hl => ?_)
  refine lv_goto (tgt := 38) hx hb dX3_becomeLike_89 (by decide) ?_
  refine lv_iload_n hx hb dX3_becomeLike_38 rfl (lv_at hl 0 rfl) ?_
  refine lv_aload_n hx hb dX3_becomeLike_39 rfl (lv_at hl 1 rfl) ?_
  refine va_get (D := (dC, dI)) (ci := 8) (v := .ref z0) (C := RX3) (T := TX3) (N := 4) hx hb hts u_c_M_like_X3 hown hK hP 0 rfl rfl 2 (by decide) (hts (.fieldLink RX3 15 "HotelOfBells$Moment" "heights" "[I") (List.mem_of_getElem? (i := 8) rfl)) (fun _ h9 => h9) rfl dX3_becomeLike_40 ?_
  refine va_alen (v := 4) hx hb hK hP 2 0 rfl rfl rfl dX3_becomeLike_43 ?_
  refine lv_icmp_ge (tgt := 92) hx hb dX3_becomeLike_44 (by decide) (fun c_19 => absurd c_19 (by decide)) (fun _ => ?_)
  refine lv_iload_n hx hb dX3_becomeLike_47 rfl (lv_at hl 0 rfl) ?_
  refine lv_aload_n hx hb dX3_becomeLike_48 rfl (lv_at hl 1 rfl) ?_
  refine va_get (D := (dC, dI)) (ci := 8) (v := .ref w0) (C := RX3) (T := TX3) (N := 4) hx hb hts u_c_M_like_X3 hown hK hP 0 rfl rfl 3 (by decide) (hts (.fieldLink RX3 18 "HotelOfBells$Moment" "falling" "[Z") (List.mem_of_getElem? (i := 9) rfl)) (fun _ h9 => h9) rfl dX3_becomeLike_49 ?_
  refine va_alen (v := 4) hx hb hK hP 3 2 rfl rfl rfl dX3_becomeLike_52 ?_
  refine lv_icmp_ge (tgt := 92) hx hb dX3_becomeLike_53 (by decide) (fun c_20 => absurd c_20 (by decide)) (fun _ => ?_)
  refine lv_aload_n hx hb dX3_becomeLike_56 rfl (lv_at hl 1 rfl) ?_
  refine va_get (D := (dC, dI)) (ci := 8) (v := .ref z0) (C := RX3) (T := TX3) (N := 4) hx hb hts u_c_M_like_X3 hown hK hP 0 rfl rfl 2 (by decide) (hts (.fieldLink RX3 15 "HotelOfBells$Moment" "heights" "[I") (List.mem_of_getElem? (i := 8) rfl)) (fun _ h9 => h9) rfl dX3_becomeLike_57 ?_
  refine lv_iload_n hx hb dX3_becomeLike_60 rfl (lv_at hl 0 rfl) ?_
  refine lv_aload_n hx hb dX3_becomeLike_61 rfl (lv_at hl 2 rfl) ?_
  refine lv_iload_n hx hb dX3_becomeLike_62 rfl (lv_at hl 0 rfl) ?_
  have hPc := hP.sub (ws' := [(m1, .inr (8, [.int hd1, .ref t1, .ref z1, .ref w1])), (z1, .inl (ci, 4, .inl (fun _ => 0)))]) [6, 5] rfl
  have hDc := hD.sub (ws' := [(m1, .inr (8, [.int hd1, .ref t1, .ref z1, .ref w1])), (z1, .inl (ci, 4, .inl (fun _ => 0)))]) [6, 5] (by decide) rfl
  have hKc := hK.sub (tys' := [(ci, .int)]) [0] rfl
  have hFc := va_free (wc := [(m1, .inr (8, [.int hd1, .ref t1, .ref z1, .ref w1])), (z1, .inl (ci, 4, .inl (fun _ => 0)))]) hD hS hA [6, 5] rfl
  refine va_calli (va_runV (As := [.int 1]) (rest := [.int 1, .ref z0]) ⟨hx, hb, hml, hown, hts⟩ (c_heightOf_1 l hl9 dC dI tE m1 t1 z1 w1 hd1 ci _ ) (cwV 1 hts (goodIn_app (goodIn_r _ [11, 12, 13, 7] (by rfl) (by decide +kernel)) gg_c_M_like_c_heightOf_1) rfl rfl rfl (by decide +kernel) ⟨Nat.le_of_ble_eq_true rfl, Nat.le_of_ble_eq_true rfl⟩) ⟨Pre0.blind, va_recv hKc hPc (ci := 8) (q0 := 0) rfl rfl, Pre0.give hPc hKc hDc hT hS hFc⟩ rfl rfl hl.1 rfl (lv_room (Nat.le_of_ble_eq_true rfl)) dX3_becomeLike_63 ⟨Nat.le_of_ble_eq_true rfl, Nat.le_of_ble_eq_true rfl⟩) hS (fun q _ h => hFc q h) hFc (fun r_21 u t H1 locs ht hvm hw hB hz1 hk1 hS => ?_)
  obtain ⟨hP1, hK1, hD1⟩ := hB
  rw [ht] at hP1
  have hK1 := va_K.moved hvm.symm hK1
  obtain ⟨hP, hD⟩ := va_join (wr := [(m0, .inr (8, [.int hd1, .ref t0, .ref z0, .ref w0])), (t0, .inl (ci, 6, .inl (fun _ => 0))), (z0, .inl (ci, 4, .inl (fun _ => 0))), (w0, .inl (cw, 4, .inl (fun _ => 0))), (t1, .inl (ci, 6, .inl (fun _ => 0))), (w1, .inl (cw, 4, .inl (fun _ => 0)))]) (w1 := [(m1, .inr (8, [.int hd1, .ref t1, .ref z1, .ref w1])), (z1, .inl (ci, 4, .inl (fun _ => 0)))]) hP hD [6, 5] [0, 1, 2, 3, 4, 7] rfl rfl (by decide) (by decide) hk1 hFc hP1 hD1
  generalize H1 = H at hP hS ⊢
  have hP : va_P (dC, dI) vwCl [(m0, .inr (8, [.int hd1, .ref t0, .ref z0, .ref w0])), (t0, .inl (ci, 6, .inl (fun _ => 0))), (z0, .inl (ci, 4, .inl (fun _ => 0))), (w0, .inl (cw, 4, .inl (fun _ => 0))), (t1, .inl (ci, 6, .inl (fun _ => 0))), (w1, .inl (cw, 4, .inl (fun _ => 0))), (m1, .inr (8, [.int hd1, .ref t1, .ref z1, .ref w1])), (z1, .inl (ci, 4, .inl (fun _ => 0)))] H := hP
  have hD : va_D A [(m0, .inr (8, [.int hd1, .ref t0, .ref z0, .ref w0])), (t0, .inl (ci, 6, .inl (fun _ => 0))), (z0, .inl (ci, 4, .inl (fun _ => 0))), (w0, .inl (cw, 4, .inl (fun _ => 0))), (t1, .inl (ci, 6, .inl (fun _ => 0))), (w1, .inl (cw, 4, .inl (fun _ => 0))), (m1, .inr (8, [.int hd1, .ref t1, .ref z1, .ref w1])), (z1, .inl (ci, 4, .inl (fun _ => 0)))] := hD
  refine W.widen (k := 0) (n := 0) (by omega) (by omega) ?_
  obtain rfl : r_21 = 0 := hw
  refine va_iast hx hb hK hP hD hS 2 0 rfl rfl (by unfold vp_in; decide) dX3_becomeLike_66 (fun H locs hP hD hS => ?_)
  rw [upd_z0] at hP hD
  have hP : va_P (dC, dI) vwCl [(m0, .inr (8, [.int hd1, .ref t0, .ref z0, .ref w0])), (t0, .inl (ci, 6, .inl (fun _ => 0))), (z0, .inl (ci, 4, .inl (fun _ => 0))), (w0, .inl (cw, 4, .inl (fun _ => 0))), (t1, .inl (ci, 6, .inl (fun _ => 0))), (w1, .inl (cw, 4, .inl (fun _ => 0))), (m1, .inr (8, [.int hd1, .ref t1, .ref z1, .ref w1])), (z1, .inl (ci, 4, .inl (fun _ => 0)))] H := hP
  have hD : va_D A [(m0, .inr (8, [.int hd1, .ref t0, .ref z0, .ref w0])), (t0, .inl (ci, 6, .inl (fun _ => 0))), (z0, .inl (ci, 4, .inl (fun _ => 0))), (w0, .inl (cw, 4, .inl (fun _ => 0))), (t1, .inl (ci, 6, .inl (fun _ => 0))), (w1, .inl (cw, 4, .inl (fun _ => 0))), (m1, .inr (8, [.int hd1, .ref t1, .ref z1, .ref w1])), (z1, .inl (ci, 4, .inl (fun _ => 0)))] := hD
  refine lv_aload_n hx hb dX3_becomeLike_67 rfl (lv_at hl 1 rfl) ?_
  refine va_get (D := (dC, dI)) (ci := 8) (v := .ref w0) (C := RX3) (T := TX3) (N := 4) hx hb hts u_c_M_like_X3 hown hK hP 0 rfl rfl 3 (by decide) (hts (.fieldLink RX3 18 "HotelOfBells$Moment" "falling" "[Z") (List.mem_of_getElem? (i := 9) rfl)) (fun _ h9 => h9) rfl dX3_becomeLike_68 ?_
  refine lv_iload_n hx hb dX3_becomeLike_71 rfl (lv_at hl 0 rfl) ?_
  refine lv_aload_n hx hb dX3_becomeLike_72 rfl (lv_at hl 2 rfl) ?_
  refine lv_iload_n hx hb dX3_becomeLike_73 rfl (lv_at hl 0 rfl) ?_
  have hPc := hP.sub (ws' := [(m1, .inr (8, [.int hd1, .ref t1, .ref z1, .ref w1])), (w1, .inl (cw, 4, .inl (fun _ => 0)))]) [6, 5] rfl
  have hDc := hD.sub (ws' := [(m1, .inr (8, [.int hd1, .ref t1, .ref z1, .ref w1])), (w1, .inl (cw, 4, .inl (fun _ => 0)))]) [6, 5] (by decide) rfl
  have hKc := hK.sub (tys' := [(cw, .boolean)]) [2] rfl
  have hFc := va_free (wc := [(m1, .inr (8, [.int hd1, .ref t1, .ref z1, .ref w1])), (w1, .inl (cw, 4, .inl (fun _ => 0)))]) hD hS hA [6, 5] rfl
  refine va_calli (va_runV (As := [.int 1]) (rest := [.int 1, .ref w0]) ⟨hx, hb, hml, hown, hts⟩ (c_isRising_1 l hl9 dC dI tE m1 t1 z1 w1 hd1 cw _ ) (cwV 1 hts (goodIn_app (goodIn_r _ [15, 16, 17, 7] (by rfl) (by decide +kernel)) gg_c_M_like_c_isRising_1) rfl rfl rfl (by decide +kernel) ⟨Nat.le_of_ble_eq_true rfl, Nat.le_of_ble_eq_true rfl⟩) ⟨Pre0.blind, va_recv hKc hPc (ci := 8) (q0 := 0) rfl rfl, Pre0.give hPc hKc hDc hT hS hFc⟩ rfl rfl hl.1 rfl (lv_room (Nat.le_of_ble_eq_true rfl)) dX3_becomeLike_74 ⟨Nat.le_of_ble_eq_true rfl, Nat.le_of_ble_eq_true rfl⟩) hS (fun q _ h => hFc q h) hFc (fun r_22 u t H1 locs ht hvm hw hB hz1 hk1 hS => ?_)
  obtain ⟨hP1, hK1, hD1⟩ := hB
  rw [ht] at hP1
  have hK1 := va_K.moved hvm.symm hK1
  obtain ⟨hP, hD⟩ := va_join (wr := [(m0, .inr (8, [.int hd1, .ref t0, .ref z0, .ref w0])), (t0, .inl (ci, 6, .inl (fun _ => 0))), (z0, .inl (ci, 4, .inl (fun _ => 0))), (w0, .inl (cw, 4, .inl (fun _ => 0))), (t1, .inl (ci, 6, .inl (fun _ => 0))), (z1, .inl (ci, 4, .inl (fun _ => 0)))]) (w1 := [(m1, .inr (8, [.int hd1, .ref t1, .ref z1, .ref w1])), (w1, .inl (cw, 4, .inl (fun _ => 0)))]) hP hD [6, 5] [0, 1, 2, 3, 4, 7] rfl rfl (by decide) (by decide) hk1 hFc hP1 hD1
  generalize H1 = H at hP hS ⊢
  have hP : va_P (dC, dI) vwCl [(m0, .inr (8, [.int hd1, .ref t0, .ref z0, .ref w0])), (t0, .inl (ci, 6, .inl (fun _ => 0))), (z0, .inl (ci, 4, .inl (fun _ => 0))), (w0, .inl (cw, 4, .inl (fun _ => 0))), (t1, .inl (ci, 6, .inl (fun _ => 0))), (z1, .inl (ci, 4, .inl (fun _ => 0))), (m1, .inr (8, [.int hd1, .ref t1, .ref z1, .ref w1])), (w1, .inl (cw, 4, .inl (fun _ => 0)))] H := hP
  have hD : va_D A [(m0, .inr (8, [.int hd1, .ref t0, .ref z0, .ref w0])), (t0, .inl (ci, 6, .inl (fun _ => 0))), (z0, .inl (ci, 4, .inl (fun _ => 0))), (w0, .inl (cw, 4, .inl (fun _ => 0))), (t1, .inl (ci, 6, .inl (fun _ => 0))), (z1, .inl (ci, 4, .inl (fun _ => 0))), (m1, .inr (8, [.int hd1, .ref t1, .ref z1, .ref w1])), (w1, .inl (cw, 4, .inl (fun _ => 0)))] := hD
  refine W.widen (k := 0) (n := 0) (by omega) (by omega) ?_
  obtain rfl : r_22 = 1 := hw
  refine lv_if_ne (tgt := 84) hx hb dX3_becomeLike_77 (by decide) (fun _ => ?_) (fun c_23 => absurd c_23 (by decide))
  refine lv_iconst (v := 0) hx hb dX3_becomeLike_84 (by decide) ?_
  refine va_zast hx hb hK hP hD hS 3 2 rfl rfl (by unfold vp_in; decide) dX3_becomeLike_85 (fun H locs hP hD hS => ?_)
  rw [upd_z0z] at hP hD
  have hP : va_P (dC, dI) vwCl [(m0, .inr (8, [.int hd1, .ref t0, .ref z0, .ref w0])), (t0, .inl (ci, 6, .inl (fun _ => 0))), (z0, .inl (ci, 4, .inl (fun _ => 0))), (w0, .inl (cw, 4, .inl (fun _ => 0))), (t1, .inl (ci, 6, .inl (fun _ => 0))), (z1, .inl (ci, 4, .inl (fun _ => 0))), (m1, .inr (8, [.int hd1, .ref t1, .ref z1, .ref w1])), (w1, .inl (cw, 4, .inl (fun _ => 0)))] H := hP
  have hD : va_D A [(m0, .inr (8, [.int hd1, .ref t0, .ref z0, .ref w0])), (t0, .inl (ci, 6, .inl (fun _ => 0))), (z0, .inl (ci, 4, .inl (fun _ => 0))), (w0, .inl (cw, 4, .inl (fun _ => 0))), (t1, .inl (ci, 6, .inl (fun _ => 0))), (z1, .inl (ci, 4, .inl (fun _ => 0))), (m1, .inr (8, [.int hd1, .ref t1, .ref z1, .ref w1])), (w1, .inl (cw, 4, .inl (fun _ => 0)))] := hD
  refine lv_iinc (v := 2) (lv' := [(2, .int 2), (0, .ref m0), (1, .ref m1)]) hx hb dX3_becomeLike_86 hl (k := 0) rfl (by decide) (by decide) rfl (fun ls hl => ?_)
  refine lv_goto (tgt := 38) hx hb dX3_becomeLike_89 (by decide) ?_
  refine lv_iload_n hx hb dX3_becomeLike_38 rfl (lv_at hl 0 rfl) ?_
  refine lv_aload_n hx hb dX3_becomeLike_39 rfl (lv_at hl 1 rfl) ?_
  refine va_get (D := (dC, dI)) (ci := 8) (v := .ref z0) (C := RX3) (T := TX3) (N := 4) hx hb hts u_c_M_like_X3 hown hK hP 0 rfl rfl 2 (by decide) (hts (.fieldLink RX3 15 "HotelOfBells$Moment" "heights" "[I") (List.mem_of_getElem? (i := 8) rfl)) (fun _ h9 => h9) rfl dX3_becomeLike_40 ?_
  refine va_alen (v := 4) hx hb hK hP 2 0 rfl rfl rfl dX3_becomeLike_43 ?_
  refine lv_icmp_ge (tgt := 92) hx hb dX3_becomeLike_44 (by decide) (fun c_24 => absurd c_24 (by decide)) (fun _ => ?_)
  refine lv_iload_n hx hb dX3_becomeLike_47 rfl (lv_at hl 0 rfl) ?_
  refine lv_aload_n hx hb dX3_becomeLike_48 rfl (lv_at hl 1 rfl) ?_
  refine va_get (D := (dC, dI)) (ci := 8) (v := .ref w0) (C := RX3) (T := TX3) (N := 4) hx hb hts u_c_M_like_X3 hown hK hP 0 rfl rfl 3 (by decide) (hts (.fieldLink RX3 18 "HotelOfBells$Moment" "falling" "[Z") (List.mem_of_getElem? (i := 9) rfl)) (fun _ h9 => h9) rfl dX3_becomeLike_49 ?_
  refine va_alen (v := 4) hx hb hK hP 3 2 rfl rfl rfl dX3_becomeLike_52 ?_
  refine lv_icmp_ge (tgt := 92) hx hb dX3_becomeLike_53 (by decide) (fun c_25 => absurd c_25 (by decide)) (fun _ => ?_)
  refine lv_aload_n hx hb dX3_becomeLike_56 rfl (lv_at hl 1 rfl) ?_
  refine va_get (D := (dC, dI)) (ci := 8) (v := .ref z0) (C := RX3) (T := TX3) (N := 4) hx hb hts u_c_M_like_X3 hown hK hP 0 rfl rfl 2 (by decide) (hts (.fieldLink RX3 15 "HotelOfBells$Moment" "heights" "[I") (List.mem_of_getElem? (i := 8) rfl)) (fun _ h9 => h9) rfl dX3_becomeLike_57 ?_
  refine lv_iload_n hx hb dX3_becomeLike_60 rfl (lv_at hl 0 rfl) ?_
  refine lv_aload_n hx hb dX3_becomeLike_61 rfl (lv_at hl 2 rfl) ?_
  refine lv_iload_n hx hb dX3_becomeLike_62 rfl (lv_at hl 0 rfl) ?_
  have hPc := hP.sub (ws' := [(m1, .inr (8, [.int hd1, .ref t1, .ref z1, .ref w1])), (z1, .inl (ci, 4, .inl (fun _ => 0)))]) [6, 5] rfl
  have hDc := hD.sub (ws' := [(m1, .inr (8, [.int hd1, .ref t1, .ref z1, .ref w1])), (z1, .inl (ci, 4, .inl (fun _ => 0)))]) [6, 5] (by decide) rfl
  have hKc := hK.sub (tys' := [(ci, .int)]) [0] rfl
  have hFc := va_free (wc := [(m1, .inr (8, [.int hd1, .ref t1, .ref z1, .ref w1])), (z1, .inl (ci, 4, .inl (fun _ => 0)))]) hD hS hA [6, 5] rfl
  refine va_calli (va_runV (As := [.int 2]) (rest := [.int 2, .ref z0]) ⟨hx, hb, hml, hown, hts⟩ (c_heightOf_2 l hl9 dC dI tE m1 t1 z1 w1 hd1 ci _ ) (cwV 1 hts (goodIn_app (goodIn_r _ [11, 12, 13, 7] (by rfl) (by decide +kernel)) gg_c_M_like_c_heightOf_2) rfl rfl rfl (by decide +kernel) ⟨Nat.le_of_ble_eq_true rfl, Nat.le_of_ble_eq_true rfl⟩) ⟨Pre0.blind, va_recv hKc hPc (ci := 8) (q0 := 0) rfl rfl, Pre0.give hPc hKc hDc hT hS hFc⟩ rfl rfl hl.1 rfl (lv_room (Nat.le_of_ble_eq_true rfl)) dX3_becomeLike_63 ⟨Nat.le_of_ble_eq_true rfl, Nat.le_of_ble_eq_true rfl⟩) hS (fun q _ h => hFc q h) hFc (fun r_26 u t H1 locs ht hvm hw hB hz1 hk1 hS => ?_)
  obtain ⟨hP1, hK1, hD1⟩ := hB
  rw [ht] at hP1
  have hK1 := va_K.moved hvm.symm hK1
  obtain ⟨hP, hD⟩ := va_join (wr := [(m0, .inr (8, [.int hd1, .ref t0, .ref z0, .ref w0])), (t0, .inl (ci, 6, .inl (fun _ => 0))), (z0, .inl (ci, 4, .inl (fun _ => 0))), (w0, .inl (cw, 4, .inl (fun _ => 0))), (t1, .inl (ci, 6, .inl (fun _ => 0))), (w1, .inl (cw, 4, .inl (fun _ => 0)))]) (w1 := [(m1, .inr (8, [.int hd1, .ref t1, .ref z1, .ref w1])), (z1, .inl (ci, 4, .inl (fun _ => 0)))]) hP hD [6, 5] [0, 1, 2, 3, 4, 7] rfl rfl (by decide) (by decide) hk1 hFc hP1 hD1
  generalize H1 = H at hP hS ⊢
  have hP : va_P (dC, dI) vwCl [(m0, .inr (8, [.int hd1, .ref t0, .ref z0, .ref w0])), (t0, .inl (ci, 6, .inl (fun _ => 0))), (z0, .inl (ci, 4, .inl (fun _ => 0))), (w0, .inl (cw, 4, .inl (fun _ => 0))), (t1, .inl (ci, 6, .inl (fun _ => 0))), (w1, .inl (cw, 4, .inl (fun _ => 0))), (m1, .inr (8, [.int hd1, .ref t1, .ref z1, .ref w1])), (z1, .inl (ci, 4, .inl (fun _ => 0)))] H := hP
  have hD : va_D A [(m0, .inr (8, [.int hd1, .ref t0, .ref z0, .ref w0])), (t0, .inl (ci, 6, .inl (fun _ => 0))), (z0, .inl (ci, 4, .inl (fun _ => 0))), (w0, .inl (cw, 4, .inl (fun _ => 0))), (t1, .inl (ci, 6, .inl (fun _ => 0))), (w1, .inl (cw, 4, .inl (fun _ => 0))), (m1, .inr (8, [.int hd1, .ref t1, .ref z1, .ref w1])), (z1, .inl (ci, 4, .inl (fun _ => 0)))] := hD
  refine W.widen (k := 0) (n := 0) (by omega) (by omega) ?_
  obtain rfl : r_26 = 0 := hw
  refine va_iast hx hb hK hP hD hS 2 0 rfl rfl (by unfold vp_in; decide) dX3_becomeLike_66 (fun H locs hP hD hS => ?_)
  rw [upd_z0] at hP hD
  have hP : va_P (dC, dI) vwCl [(m0, .inr (8, [.int hd1, .ref t0, .ref z0, .ref w0])), (t0, .inl (ci, 6, .inl (fun _ => 0))), (z0, .inl (ci, 4, .inl (fun _ => 0))), (w0, .inl (cw, 4, .inl (fun _ => 0))), (t1, .inl (ci, 6, .inl (fun _ => 0))), (w1, .inl (cw, 4, .inl (fun _ => 0))), (m1, .inr (8, [.int hd1, .ref t1, .ref z1, .ref w1])), (z1, .inl (ci, 4, .inl (fun _ => 0)))] H := hP
  have hD : va_D A [(m0, .inr (8, [.int hd1, .ref t0, .ref z0, .ref w0])), (t0, .inl (ci, 6, .inl (fun _ => 0))), (z0, .inl (ci, 4, .inl (fun _ => 0))), (w0, .inl (cw, 4, .inl (fun _ => 0))), (t1, .inl (ci, 6, .inl (fun _ => 0))), (w1, .inl (cw, 4, .inl (fun _ => 0))), (m1, .inr (8, [.int hd1, .ref t1, .ref z1, .ref w1])), (z1, .inl (ci, 4, .inl (fun _ => 0)))] := hD
  refine lv_aload_n hx hb dX3_becomeLike_67 rfl (lv_at hl 1 rfl) ?_
  refine va_get (D := (dC, dI)) (ci := 8) (v := .ref w0) (C := RX3) (T := TX3) (N := 4) hx hb hts u_c_M_like_X3 hown hK hP 0 rfl rfl 3 (by decide) (hts (.fieldLink RX3 18 "HotelOfBells$Moment" "falling" "[Z") (List.mem_of_getElem? (i := 9) rfl)) (fun _ h9 => h9) rfl dX3_becomeLike_68 ?_
  refine lv_iload_n hx hb dX3_becomeLike_71 rfl (lv_at hl 0 rfl) ?_
  refine lv_aload_n hx hb dX3_becomeLike_72 rfl (lv_at hl 2 rfl) ?_
  refine lv_iload_n hx hb dX3_becomeLike_73 rfl (lv_at hl 0 rfl) ?_
  have hPc := hP.sub (ws' := [(m1, .inr (8, [.int hd1, .ref t1, .ref z1, .ref w1])), (w1, .inl (cw, 4, .inl (fun _ => 0)))]) [6, 5] rfl
  have hDc := hD.sub (ws' := [(m1, .inr (8, [.int hd1, .ref t1, .ref z1, .ref w1])), (w1, .inl (cw, 4, .inl (fun _ => 0)))]) [6, 5] (by decide) rfl
  have hKc := hK.sub (tys' := [(cw, .boolean)]) [2] rfl
  have hFc := va_free (wc := [(m1, .inr (8, [.int hd1, .ref t1, .ref z1, .ref w1])), (w1, .inl (cw, 4, .inl (fun _ => 0)))]) hD hS hA [6, 5] rfl
  refine va_calli (va_runV (As := [.int 2]) (rest := [.int 2, .ref w0]) ⟨hx, hb, hml, hown, hts⟩ (c_isRising_2 l hl9 dC dI tE m1 t1 z1 w1 hd1 cw _ ) (cwV 1 hts (goodIn_app (goodIn_r _ [15, 16, 17, 7] (by rfl) (by decide +kernel)) gg_c_M_like_c_isRising_2) rfl rfl rfl (by decide +kernel) ⟨Nat.le_of_ble_eq_true rfl, Nat.le_of_ble_eq_true rfl⟩) ⟨Pre0.blind, va_recv hKc hPc (ci := 8) (q0 := 0) rfl rfl, Pre0.give hPc hKc hDc hT hS hFc⟩ rfl rfl hl.1 rfl (lv_room (Nat.le_of_ble_eq_true rfl)) dX3_becomeLike_74 ⟨Nat.le_of_ble_eq_true rfl, Nat.le_of_ble_eq_true rfl⟩) hS (fun q _ h => hFc q h) hFc (fun r_27 u t H1 locs ht hvm hw hB hz1 hk1 hS => ?_)
  obtain ⟨hP1, hK1, hD1⟩ := hB
  rw [ht] at hP1
  have hK1 := va_K.moved hvm.symm hK1
  obtain ⟨hP, hD⟩ := va_join (wr := [(m0, .inr (8, [.int hd1, .ref t0, .ref z0, .ref w0])), (t0, .inl (ci, 6, .inl (fun _ => 0))), (z0, .inl (ci, 4, .inl (fun _ => 0))), (w0, .inl (cw, 4, .inl (fun _ => 0))), (t1, .inl (ci, 6, .inl (fun _ => 0))), (z1, .inl (ci, 4, .inl (fun _ => 0)))]) (w1 := [(m1, .inr (8, [.int hd1, .ref t1, .ref z1, .ref w1])), (w1, .inl (cw, 4, .inl (fun _ => 0)))]) hP hD [6, 5] [0, 1, 2, 3, 4, 7] rfl rfl (by decide) (by decide) hk1 hFc hP1 hD1
  generalize H1 = H at hP hS ⊢
  have hP : va_P (dC, dI) vwCl [(m0, .inr (8, [.int hd1, .ref t0, .ref z0, .ref w0])), (t0, .inl (ci, 6, .inl (fun _ => 0))), (z0, .inl (ci, 4, .inl (fun _ => 0))), (w0, .inl (cw, 4, .inl (fun _ => 0))), (t1, .inl (ci, 6, .inl (fun _ => 0))), (z1, .inl (ci, 4, .inl (fun _ => 0))), (m1, .inr (8, [.int hd1, .ref t1, .ref z1, .ref w1])), (w1, .inl (cw, 4, .inl (fun _ => 0)))] H := hP
  have hD : va_D A [(m0, .inr (8, [.int hd1, .ref t0, .ref z0, .ref w0])), (t0, .inl (ci, 6, .inl (fun _ => 0))), (z0, .inl (ci, 4, .inl (fun _ => 0))), (w0, .inl (cw, 4, .inl (fun _ => 0))), (t1, .inl (ci, 6, .inl (fun _ => 0))), (z1, .inl (ci, 4, .inl (fun _ => 0))), (m1, .inr (8, [.int hd1, .ref t1, .ref z1, .ref w1])), (w1, .inl (cw, 4, .inl (fun _ => 0)))] := hD
  refine W.widen (k := 0) (n := 0) (by omega) (by omega) ?_
  obtain rfl : r_27 = 1 := hw
  refine lv_if_ne (tgt := 84) hx hb dX3_becomeLike_77 (by decide) (fun _ => ?_) (fun c_28 => absurd c_28 (by decide))
  refine lv_iconst (v := 0) hx hb dX3_becomeLike_84 (by decide) ?_
  refine va_zast hx hb hK hP hD hS 3 2 rfl rfl (by unfold vp_in; decide) dX3_becomeLike_85 (fun H locs hP hD hS => ?_)
  rw [upd_z0z] at hP hD
  have hP : va_P (dC, dI) vwCl [(m0, .inr (8, [.int hd1, .ref t0, .ref z0, .ref w0])), (t0, .inl (ci, 6, .inl (fun _ => 0))), (z0, .inl (ci, 4, .inl (fun _ => 0))), (w0, .inl (cw, 4, .inl (fun _ => 0))), (t1, .inl (ci, 6, .inl (fun _ => 0))), (z1, .inl (ci, 4, .inl (fun _ => 0))), (m1, .inr (8, [.int hd1, .ref t1, .ref z1, .ref w1])), (w1, .inl (cw, 4, .inl (fun _ => 0)))] H := hP
  have hD : va_D A [(m0, .inr (8, [.int hd1, .ref t0, .ref z0, .ref w0])), (t0, .inl (ci, 6, .inl (fun _ => 0))), (z0, .inl (ci, 4, .inl (fun _ => 0))), (w0, .inl (cw, 4, .inl (fun _ => 0))), (t1, .inl (ci, 6, .inl (fun _ => 0))), (z1, .inl (ci, 4, .inl (fun _ => 0))), (m1, .inr (8, [.int hd1, .ref t1, .ref z1, .ref w1])), (w1, .inl (cw, 4, .inl (fun _ => 0)))] := hD
  refine lv_iinc (v := 3) (lv' := [(2, .int 3), (0, .ref m0), (1, .ref m1)]) hx hb dX3_becomeLike_86 hl (k := 0) rfl (by decide) (by decide) rfl (fun ls hl => ?_)
  refine lv_goto (tgt := 38) hx hb dX3_becomeLike_89 (by decide) ?_
  refine lv_iload_n hx hb dX3_becomeLike_38 rfl (lv_at hl 0 rfl) ?_
  refine lv_aload_n hx hb dX3_becomeLike_39 rfl (lv_at hl 1 rfl) ?_
  refine va_get (D := (dC, dI)) (ci := 8) (v := .ref z0) (C := RX3) (T := TX3) (N := 4) hx hb hts u_c_M_like_X3 hown hK hP 0 rfl rfl 2 (by decide) (hts (.fieldLink RX3 15 "HotelOfBells$Moment" "heights" "[I") (List.mem_of_getElem? (i := 8) rfl)) (fun _ h9 => h9) rfl dX3_becomeLike_40 ?_
  refine va_alen (v := 4) hx hb hK hP 2 0 rfl rfl rfl dX3_becomeLike_43 ?_
  refine lv_icmp_ge (tgt := 92) hx hb dX3_becomeLike_44 (by decide) (fun c_29 => absurd c_29 (by decide)) (fun _ => ?_)
  refine lv_iload_n hx hb dX3_becomeLike_47 rfl (lv_at hl 0 rfl) ?_
  refine lv_aload_n hx hb dX3_becomeLike_48 rfl (lv_at hl 1 rfl) ?_
  refine va_get (D := (dC, dI)) (ci := 8) (v := .ref w0) (C := RX3) (T := TX3) (N := 4) hx hb hts u_c_M_like_X3 hown hK hP 0 rfl rfl 3 (by decide) (hts (.fieldLink RX3 18 "HotelOfBells$Moment" "falling" "[Z") (List.mem_of_getElem? (i := 9) rfl)) (fun _ h9 => h9) rfl dX3_becomeLike_49 ?_
  refine va_alen (v := 4) hx hb hK hP 3 2 rfl rfl rfl dX3_becomeLike_52 ?_
  refine lv_icmp_ge (tgt := 92) hx hb dX3_becomeLike_53 (by decide) (fun c_30 => absurd c_30 (by decide)) (fun _ => ?_)
  refine lv_aload_n hx hb dX3_becomeLike_56 rfl (lv_at hl 1 rfl) ?_
  refine va_get (D := (dC, dI)) (ci := 8) (v := .ref z0) (C := RX3) (T := TX3) (N := 4) hx hb hts u_c_M_like_X3 hown hK hP 0 rfl rfl 2 (by decide) (hts (.fieldLink RX3 15 "HotelOfBells$Moment" "heights" "[I") (List.mem_of_getElem? (i := 8) rfl)) (fun _ h9 => h9) rfl dX3_becomeLike_57 ?_
  refine lv_iload_n hx hb dX3_becomeLike_60 rfl (lv_at hl 0 rfl) ?_
  refine lv_aload_n hx hb dX3_becomeLike_61 rfl (lv_at hl 2 rfl) ?_
  refine lv_iload_n hx hb dX3_becomeLike_62 rfl (lv_at hl 0 rfl) ?_
  have hPc := hP.sub (ws' := [(m1, .inr (8, [.int hd1, .ref t1, .ref z1, .ref w1])), (z1, .inl (ci, 4, .inl (fun _ => 0)))]) [6, 5] rfl
  have hDc := hD.sub (ws' := [(m1, .inr (8, [.int hd1, .ref t1, .ref z1, .ref w1])), (z1, .inl (ci, 4, .inl (fun _ => 0)))]) [6, 5] (by decide) rfl
  have hKc := hK.sub (tys' := [(ci, .int)]) [0] rfl
  have hFc := va_free (wc := [(m1, .inr (8, [.int hd1, .ref t1, .ref z1, .ref w1])), (z1, .inl (ci, 4, .inl (fun _ => 0)))]) hD hS hA [6, 5] rfl
  refine va_calli (va_runV (As := [.int 3]) (rest := [.int 3, .ref z0]) ⟨hx, hb, hml, hown, hts⟩ (c_heightOf_3 l hl9 dC dI tE m1 t1 z1 w1 hd1 ci _ ) (cwV 1 hts (goodIn_app (goodIn_r _ [11, 12, 13, 7] (by rfl) (by decide +kernel)) gg_c_M_like_c_heightOf_3) rfl rfl rfl (by decide +kernel) ⟨Nat.le_of_ble_eq_true rfl, Nat.le_of_ble_eq_true rfl⟩) ⟨Pre0.blind, va_recv hKc hPc (ci := 8) (q0 := 0) rfl rfl, Pre0.give hPc hKc hDc hT hS hFc⟩ rfl rfl hl.1 rfl (lv_room (Nat.le_of_ble_eq_true rfl)) dX3_becomeLike_63 ⟨Nat.le_of_ble_eq_true rfl, Nat.le_of_ble_eq_true rfl⟩) hS (fun q _ h => hFc q h) hFc (fun r_31 u t H1 locs ht hvm hw hB hz1 hk1 hS => ?_)
  obtain ⟨hP1, hK1, hD1⟩ := hB
  rw [ht] at hP1
  have hK1 := va_K.moved hvm.symm hK1
  obtain ⟨hP, hD⟩ := va_join (wr := [(m0, .inr (8, [.int hd1, .ref t0, .ref z0, .ref w0])), (t0, .inl (ci, 6, .inl (fun _ => 0))), (z0, .inl (ci, 4, .inl (fun _ => 0))), (w0, .inl (cw, 4, .inl (fun _ => 0))), (t1, .inl (ci, 6, .inl (fun _ => 0))), (w1, .inl (cw, 4, .inl (fun _ => 0)))]) (w1 := [(m1, .inr (8, [.int hd1, .ref t1, .ref z1, .ref w1])), (z1, .inl (ci, 4, .inl (fun _ => 0)))]) hP hD [6, 5] [0, 1, 2, 3, 4, 7] rfl rfl (by decide) (by decide) hk1 hFc hP1 hD1
  generalize H1 = H at hP hS ⊢
  have hP : va_P (dC, dI) vwCl [(m0, .inr (8, [.int hd1, .ref t0, .ref z0, .ref w0])), (t0, .inl (ci, 6, .inl (fun _ => 0))), (z0, .inl (ci, 4, .inl (fun _ => 0))), (w0, .inl (cw, 4, .inl (fun _ => 0))), (t1, .inl (ci, 6, .inl (fun _ => 0))), (w1, .inl (cw, 4, .inl (fun _ => 0))), (m1, .inr (8, [.int hd1, .ref t1, .ref z1, .ref w1])), (z1, .inl (ci, 4, .inl (fun _ => 0)))] H := hP
  have hD : va_D A [(m0, .inr (8, [.int hd1, .ref t0, .ref z0, .ref w0])), (t0, .inl (ci, 6, .inl (fun _ => 0))), (z0, .inl (ci, 4, .inl (fun _ => 0))), (w0, .inl (cw, 4, .inl (fun _ => 0))), (t1, .inl (ci, 6, .inl (fun _ => 0))), (w1, .inl (cw, 4, .inl (fun _ => 0))), (m1, .inr (8, [.int hd1, .ref t1, .ref z1, .ref w1])), (z1, .inl (ci, 4, .inl (fun _ => 0)))] := hD
  refine W.widen (k := 0) (n := 0) (by omega) (by omega) ?_
  obtain rfl : r_31 = 0 := hw
  refine va_iast hx hb hK hP hD hS 2 0 rfl rfl (by unfold vp_in; decide) dX3_becomeLike_66 (fun H locs hP hD hS => ?_)
  rw [upd_z0] at hP hD
  have hP : va_P (dC, dI) vwCl [(m0, .inr (8, [.int hd1, .ref t0, .ref z0, .ref w0])), (t0, .inl (ci, 6, .inl (fun _ => 0))), (z0, .inl (ci, 4, .inl (fun _ => 0))), (w0, .inl (cw, 4, .inl (fun _ => 0))), (t1, .inl (ci, 6, .inl (fun _ => 0))), (w1, .inl (cw, 4, .inl (fun _ => 0))), (m1, .inr (8, [.int hd1, .ref t1, .ref z1, .ref w1])), (z1, .inl (ci, 4, .inl (fun _ => 0)))] H := hP
  have hD : va_D A [(m0, .inr (8, [.int hd1, .ref t0, .ref z0, .ref w0])), (t0, .inl (ci, 6, .inl (fun _ => 0))), (z0, .inl (ci, 4, .inl (fun _ => 0))), (w0, .inl (cw, 4, .inl (fun _ => 0))), (t1, .inl (ci, 6, .inl (fun _ => 0))), (w1, .inl (cw, 4, .inl (fun _ => 0))), (m1, .inr (8, [.int hd1, .ref t1, .ref z1, .ref w1])), (z1, .inl (ci, 4, .inl (fun _ => 0)))] := hD
  refine lv_aload_n hx hb dX3_becomeLike_67 rfl (lv_at hl 1 rfl) ?_
  refine va_get (D := (dC, dI)) (ci := 8) (v := .ref w0) (C := RX3) (T := TX3) (N := 4) hx hb hts u_c_M_like_X3 hown hK hP 0 rfl rfl 3 (by decide) (hts (.fieldLink RX3 18 "HotelOfBells$Moment" "falling" "[Z") (List.mem_of_getElem? (i := 9) rfl)) (fun _ h9 => h9) rfl dX3_becomeLike_68 ?_
  refine lv_iload_n hx hb dX3_becomeLike_71 rfl (lv_at hl 0 rfl) ?_
  refine lv_aload_n hx hb dX3_becomeLike_72 rfl (lv_at hl 2 rfl) ?_
  refine lv_iload_n hx hb dX3_becomeLike_73 rfl (lv_at hl 0 rfl) ?_
  have hPc := hP.sub (ws' := [(m1, .inr (8, [.int hd1, .ref t1, .ref z1, .ref w1])), (w1, .inl (cw, 4, .inl (fun _ => 0)))]) [6, 5] rfl
  have hDc := hD.sub (ws' := [(m1, .inr (8, [.int hd1, .ref t1, .ref z1, .ref w1])), (w1, .inl (cw, 4, .inl (fun _ => 0)))]) [6, 5] (by decide) rfl
  have hKc := hK.sub (tys' := [(cw, .boolean)]) [2] rfl
  have hFc := va_free (wc := [(m1, .inr (8, [.int hd1, .ref t1, .ref z1, .ref w1])), (w1, .inl (cw, 4, .inl (fun _ => 0)))]) hD hS hA [6, 5] rfl
  refine va_calli (va_runV (As := [.int 3]) (rest := [.int 3, .ref w0]) ⟨hx, hb, hml, hown, hts⟩ (c_isRising_3 l hl9 dC dI tE m1 t1 z1 w1 hd1 cw _ ) (cwV 1 hts (goodIn_app (goodIn_r _ [15, 16, 17, 7] (by rfl) (by decide +kernel)) gg_c_M_like_c_isRising_3) rfl rfl rfl (by decide +kernel) ⟨Nat.le_of_ble_eq_true rfl, Nat.le_of_ble_eq_true rfl⟩) ⟨Pre0.blind, va_recv hKc hPc (ci := 8) (q0 := 0) rfl rfl, Pre0.give hPc hKc hDc hT hS hFc⟩ rfl rfl hl.1 rfl (lv_room (Nat.le_of_ble_eq_true rfl)) dX3_becomeLike_74 ⟨Nat.le_of_ble_eq_true rfl, Nat.le_of_ble_eq_true rfl⟩) hS (fun q _ h => hFc q h) hFc (fun r_32 u t H1 locs ht hvm hw hB hz1 hk1 hS => ?_)
  obtain ⟨hP1, hK1, hD1⟩ := hB
  rw [ht] at hP1
  have hK1 := va_K.moved hvm.symm hK1
  obtain ⟨hP, hD⟩ := va_join (wr := [(m0, .inr (8, [.int hd1, .ref t0, .ref z0, .ref w0])), (t0, .inl (ci, 6, .inl (fun _ => 0))), (z0, .inl (ci, 4, .inl (fun _ => 0))), (w0, .inl (cw, 4, .inl (fun _ => 0))), (t1, .inl (ci, 6, .inl (fun _ => 0))), (z1, .inl (ci, 4, .inl (fun _ => 0)))]) (w1 := [(m1, .inr (8, [.int hd1, .ref t1, .ref z1, .ref w1])), (w1, .inl (cw, 4, .inl (fun _ => 0)))]) hP hD [6, 5] [0, 1, 2, 3, 4, 7] rfl rfl (by decide) (by decide) hk1 hFc hP1 hD1
  generalize H1 = H at hP hS ⊢
  have hP : va_P (dC, dI) vwCl [(m0, .inr (8, [.int hd1, .ref t0, .ref z0, .ref w0])), (t0, .inl (ci, 6, .inl (fun _ => 0))), (z0, .inl (ci, 4, .inl (fun _ => 0))), (w0, .inl (cw, 4, .inl (fun _ => 0))), (t1, .inl (ci, 6, .inl (fun _ => 0))), (z1, .inl (ci, 4, .inl (fun _ => 0))), (m1, .inr (8, [.int hd1, .ref t1, .ref z1, .ref w1])), (w1, .inl (cw, 4, .inl (fun _ => 0)))] H := hP
  have hD : va_D A [(m0, .inr (8, [.int hd1, .ref t0, .ref z0, .ref w0])), (t0, .inl (ci, 6, .inl (fun _ => 0))), (z0, .inl (ci, 4, .inl (fun _ => 0))), (w0, .inl (cw, 4, .inl (fun _ => 0))), (t1, .inl (ci, 6, .inl (fun _ => 0))), (z1, .inl (ci, 4, .inl (fun _ => 0))), (m1, .inr (8, [.int hd1, .ref t1, .ref z1, .ref w1])), (w1, .inl (cw, 4, .inl (fun _ => 0)))] := hD
  refine W.widen (k := 0) (n := 0) (by omega) (by omega) ?_
  obtain rfl : r_32 = 1 := hw
  refine lv_if_ne (tgt := 84) hx hb dX3_becomeLike_77 (by decide) (fun _ => ?_) (fun c_33 => absurd c_33 (by decide))
  refine lv_iconst (v := 0) hx hb dX3_becomeLike_84 (by decide) ?_
  refine va_zast hx hb hK hP hD hS 3 2 rfl rfl (by unfold vp_in; decide) dX3_becomeLike_85 (fun H locs hP hD hS => ?_)
  rw [upd_z0z] at hP hD
  have hP : va_P (dC, dI) vwCl [(m0, .inr (8, [.int hd1, .ref t0, .ref z0, .ref w0])), (t0, .inl (ci, 6, .inl (fun _ => 0))), (z0, .inl (ci, 4, .inl (fun _ => 0))), (w0, .inl (cw, 4, .inl (fun _ => 0))), (t1, .inl (ci, 6, .inl (fun _ => 0))), (z1, .inl (ci, 4, .inl (fun _ => 0))), (m1, .inr (8, [.int hd1, .ref t1, .ref z1, .ref w1])), (w1, .inl (cw, 4, .inl (fun _ => 0)))] H := hP
  have hD : va_D A [(m0, .inr (8, [.int hd1, .ref t0, .ref z0, .ref w0])), (t0, .inl (ci, 6, .inl (fun _ => 0))), (z0, .inl (ci, 4, .inl (fun _ => 0))), (w0, .inl (cw, 4, .inl (fun _ => 0))), (t1, .inl (ci, 6, .inl (fun _ => 0))), (z1, .inl (ci, 4, .inl (fun _ => 0))), (m1, .inr (8, [.int hd1, .ref t1, .ref z1, .ref w1])), (w1, .inl (cw, 4, .inl (fun _ => 0)))] := hD
  refine lv_iinc (v := 4) (lv' := [(2, .int 4), (0, .ref m0), (1, .ref m1)]) hx hb dX3_becomeLike_86 hl (k := 0) rfl (by decide) (by decide) rfl (fun ls hl => ?_)
  refine lv_goto (tgt := 38) hx hb dX3_becomeLike_89 (by decide) ?_
  refine lv_iload_n hx hb dX3_becomeLike_38 rfl (lv_at hl 0 rfl) ?_
  refine lv_aload_n hx hb dX3_becomeLike_39 rfl (lv_at hl 1 rfl) ?_
  refine va_get (D := (dC, dI)) (ci := 8) (v := .ref z0) (C := RX3) (T := TX3) (N := 4) hx hb hts u_c_M_like_X3 hown hK hP 0 rfl rfl 2 (by decide) (hts (.fieldLink RX3 15 "HotelOfBells$Moment" "heights" "[I") (List.mem_of_getElem? (i := 8) rfl)) (fun _ h9 => h9) rfl dX3_becomeLike_40 ?_
  refine va_alen (v := 4) hx hb hK hP 2 0 rfl rfl rfl dX3_becomeLike_43 ?_
  refine lv_icmp_ge (tgt := 92) hx hb dX3_becomeLike_44 (by decide) (fun _ => ?_) (fun c_34 => absurd (by decide) c_34)
  have hP9 := hP.sub (ws' := [(m0, .inr (8, [.int hd1, .ref t0, .ref z0, .ref w0])), (t0, .inl (ci, 6, .inl (fun _ => 0))), (z0, .inl (ci, 4, .inl (fun _ => 0))), (w0, .inl (cw, 4, .inl (fun _ => 0))), (t1, .inl (ci, 6, .inl (fun _ => 0))), (z1, .inl (ci, 4, .inl (fun _ => 0))), (m1, .inr (8, [.int hd1, .ref t1, .ref z1, .ref w1])), (w1, .inl (cw, 4, .inl (fun _ => 0)))]) [0, 1, 2, 3, 4, 5, 6, 7] rfl
  have hD9 := hD.sub (ws' := [(m0, .inr (8, [.int hd1, .ref t0, .ref z0, .ref w0])), (t0, .inl (ci, 6, .inl (fun _ => 0))), (z0, .inl (ci, 4, .inl (fun _ => 0))), (w0, .inl (cw, 4, .inl (fun _ => 0))), (t1, .inl (ci, 6, .inl (fun _ => 0))), (z1, .inl (ci, 4, .inl (fun _ => 0))), (m1, .inr (8, [.int hd1, .ref t1, .ref z1, .ref w1])), (w1, .inl (cw, 4, .inl (fun _ => 0)))]) [0, 1, 2, 3, 4, 5, 6, 7] (by decide) rfl
  have hK9 := hK.sub (tys' := [(ci, .int), (ci, .int), (cw, .boolean), (ci, .int), (ci, .int), (cw, .boolean)]) [0, 0, 2, 0, 0, 2] rfl
  exact W.vret hx hb hr (fun t ht hW => ⟨⟨(), rfl, trivial, by rw [ht]; exact hP9, va_K.moved hW.alike hK9, hD9⟩, hS.F ht⟩) hS.2.2 dX3_becomeLike_92
def v_c_G_like : List Cond := .code yX2_becomeLike cX2_becomeLike 2 none :: ([Cond.fieldLink RX2 15 "HotelOfBells$Guest" "onFloor" "I", Cond.fieldLink RX2 18 "HotelOfBells$Guest" "inRoom" "I", Cond.fieldLink RX2 9 "HotelOfBells$Guest" "inLift" "I", Cond.fieldLink RX2 21 "HotelOfBells$Guest" "wantedFloor" "I", Cond.fieldLink RX2 24 "HotelOfBells$Guest" "wantedRoom" "I", Cond.fieldLink RX2 27 "HotelOfBells$Guest" "waited" "I"] ++ (wsX20 ++ []))
theorem u_c_G_like_X2 : ∀ w ∈ wsX20, w ∈ v_c_G_like := fun _ h => List.mem_cons_of_mem _ (List.mem_append_right _ (List.mem_append_left _ h))
set_option maxHeartbeats 4000000 in
set_option maxRecDepth 100000 in
theorem c_G_like (l : Launch) (hl9 : l.stackTraces = false) (dC : Nat → ClassId) (dI : Nat → Nat → Nat) (tE : Nat) (g0 : Nat) (g1 : Nat) (ga0 : Int32) (gb0 : Int32) (gc0 : Int32) (gd0 : Int32) (ge0 : Int32) (ga1 : Int32) (gb1 : Int32) (gc1 : Int32) (gd1 : Int32) (ge1 : Int32) (wa0 : Int32) (wa1 : Int32) (sz : Nat) : Met l yX2_becomeLike v_c_G_like ({ frames := 0, cells := 0, slots := 0, locals := 0 }) (va_Pc [.ref g0, .ref g1] (Pre0 dC dI tE sz [] [(g0, .inr (7, [.int ga0, .int gb0, .int gc0, .int gd0, .int ge0, .int wa0])), (g1, .inr (7, [.int ga1, .int gb1, .int gc1, .int gd1, .int ge1, .int wa1]))])) (va_Qv (fun (_ : Unit) => True) (fun _ t => Pst dC dI [] (va_A [(g0, .inr (7, [.int ga0, .int gb0, .int gc0, .int gd0, .int ge0, .int wa0])), (g1, .inr (7, [.int ga1, .int gb1, .int gc1, .int gd1, .int ge1, .int wa1]))] sz) [(g0, .inr (7, [.int ga1, .int gb1, .int gc1, .int gd1, .int ge1, .int wa1])), (g1, .inr (7, [.int ga1, .int gb1, .int gc1, .int gd1, .int ge1, .int wa1]))] t) (va_A [(g0, .inr (7, [.int ga0, .int gb0, .int gc0, .int gd0, .int ge0, .int wa0])), (g1, .inr (7, [.int ga1, .int gb1, .int gc1, .int gd1, .int ge1, .int wa1]))] sz)) 0 0 (va_A [(g0, .inr (7, [.int ga0, .int gb0, .int gc0, .int gd0, .int ge0, .int wa0])), (g1, .inr (7, [.int ga1, .int gb1, .int gc1, .int gd1, .int ge1, .int wa1]))] sz) := by
  refine Met.ofW (cc := cX2_becomeLike) (maxL := 2) (ret := none) (by decide) rfl ?_
  intro p e s m args below meth c s₁ B hml hv
  obtain ⟨rfl, hsz, hP, hK, hD0, hT⟩ := hv
  have hx := B.exec
  have hb := B.bytes
  have hr := B.returns
  have hts := atoms_spec (ws := v_c_G_like) B.pre
  have hown : s.vm.findClass RX2 = some m.cls := findClass_of_methodNamed B.named
  have hlocks := B.notSynchronized
  subst hsz
  have hD := hD0.self (sz := s.heap.size)
  generalize hAe : va_A [(g0, .inr (7, [.int ga0, .int gb0, .int gc0, .int gd0, .int ge0, .int wa0])), (g1, .inr (7, [.int ga1, .int gb1, .int gc1, .int gd1, .int ge1, .int wa1]))] s.heap.size = A at hD hT ⊢
  have hA : ∀ q : Nat, s.heap.size ≤ q → A q := fun q h => by rw [← hAe]; exact Or.inr h
  have hS : va_S A s.heap s.heap [] := va_S.rf
  have hl := lv_entry ([.ref g0, .ref g1]) (n := 2) (Nat.le_of_ble_eq_true rfl)
  rw [lg_entry_eq]
  generalize (lg_sl ([.ref g0, .ref g1]) ++ List.replicate (2 - (lg_sl ([.ref g0, .ref g1])).length) Slot.unset).toArray = ls at hl ⊢
  have hl : lv_has ls 2 [(0, .ref g0), (1, .ref g1)] := hl
  refine lv_aload_n hx hb dX2_becomeLike_0 rfl (lv_at hl 0 rfl) ?_
  refine lv_aload_n hx hb dX2_becomeLike_1 rfl (lv_at hl 1 rfl) ?_
  refine va_get (D := (dC, dI)) (ci := 7) (v := .int ga1) (C := RX2) (T := TX2) (N := 6) hx hb hts u_c_G_like_X2 hown hK hP 1 rfl rfl 0 (by decide) (hts (.fieldLink RX2 15 "HotelOfBells$Guest" "onFloor" "I") (List.mem_of_getElem? (i := 1) rfl)) (fun _ h9 => h9) rfl dX2_becomeLike_2 ?_
  refine va_put (D := (dC, dI)) (ci := 7) (v := .int ga1) (ty := .int) (C := RX2) (T := TX2) (N := 6) hx hb hts u_c_G_like_X2 tyX2 tyX2_ok nmX2 hown hK hP hD hS 0 rfl rfl 0 (by decide) (hts (.fieldLink RX2 15 "HotelOfBells$Guest" "onFloor" "I") (List.mem_of_getElem? (i := 1) rfl)) (fun _ h9 => h9) rfl (by decide +kernel) rfl rfl (Nat.le_of_ble_eq_true rfl) dX2_becomeLike_5 (fun H locs hP hD hS => ?_)
  have hP : va_P (dC, dI) vwCl [(g0, .inr (7, [.int ga1, .int gb0, .int gc0, .int gd0, .int ge0, .int wa0])), (g1, .inr (7, [.int ga1, .int gb1, .int gc1, .int gd1, .int ge1, .int wa1]))] H := hP
  have hD : va_D A [(g0, .inr (7, [.int ga1, .int gb0, .int gc0, .int gd0, .int ge0, .int wa0])), (g1, .inr (7, [.int ga1, .int gb1, .int gc1, .int gd1, .int ge1, .int wa1]))] := hD
  refine lv_aload_n hx hb dX2_becomeLike_8 rfl (lv_at hl 0 rfl) ?_
  refine lv_aload_n hx hb dX2_becomeLike_9 rfl (lv_at hl 1 rfl) ?_
  refine va_get (D := (dC, dI)) (ci := 7) (v := .int gb1) (C := RX2) (T := TX2) (N := 6) hx hb hts u_c_G_like_X2 hown hK hP 1 rfl rfl 1 (by decide) (hts (.fieldLink RX2 18 "HotelOfBells$Guest" "inRoom" "I") (List.mem_of_getElem? (i := 2) rfl)) (fun _ h9 => h9) rfl dX2_becomeLike_10 ?_
  refine va_put (D := (dC, dI)) (ci := 7) (v := .int gb1) (ty := .int) (C := RX2) (T := TX2) (N := 6) hx hb hts u_c_G_like_X2 tyX2 tyX2_ok nmX2 hown hK hP hD hS 0 rfl rfl 1 (by decide) (hts (.fieldLink RX2 18 "HotelOfBells$Guest" "inRoom" "I") (List.mem_of_getElem? (i := 2) rfl)) (fun _ h9 => h9) rfl (by decide +kernel) rfl rfl (Nat.le_of_ble_eq_true rfl) dX2_becomeLike_13 (fun H locs hP hD hS => ?_)
  have hP : va_P (dC, dI) vwCl [(g0, .inr (7, [.int ga1, .int gb1, .int gc0, .int gd0, .int ge0, .int wa0])), (g1, .inr (7, [.int ga1, .int gb1, .int gc1, .int gd1, .int ge1, .int wa1]))] H := hP
  have hD : va_D A [(g0, .inr (7, [.int ga1, .int gb1, .int gc0, .int gd0, .int ge0, .int wa0])), (g1, .inr (7, [.int ga1, .int gb1, .int gc1, .int gd1, .int ge1, .int wa1]))] := hD
  refine lv_aload_n hx hb dX2_becomeLike_16 rfl (lv_at hl 0 rfl) ?_
  refine lv_aload_n hx hb dX2_becomeLike_17 rfl (lv_at hl 1 rfl) ?_
  refine va_get (D := (dC, dI)) (ci := 7) (v := .int gc1) (C := RX2) (T := TX2) (N := 6) hx hb hts u_c_G_like_X2 hown hK hP 1 rfl rfl 2 (by decide) (hts (.fieldLink RX2 9 "HotelOfBells$Guest" "inLift" "I") (List.mem_of_getElem? (i := 3) rfl)) (fun _ h9 => h9) rfl dX2_becomeLike_18 ?_
  refine va_put (D := (dC, dI)) (ci := 7) (v := .int gc1) (ty := .int) (C := RX2) (T := TX2) (N := 6) hx hb hts u_c_G_like_X2 tyX2 tyX2_ok nmX2 hown hK hP hD hS 0 rfl rfl 2 (by decide) (hts (.fieldLink RX2 9 "HotelOfBells$Guest" "inLift" "I") (List.mem_of_getElem? (i := 3) rfl)) (fun _ h9 => h9) rfl (by decide +kernel) rfl rfl (Nat.le_of_ble_eq_true rfl) dX2_becomeLike_21 (fun H locs hP hD hS => ?_)
  have hP : va_P (dC, dI) vwCl [(g0, .inr (7, [.int ga1, .int gb1, .int gc1, .int gd0, .int ge0, .int wa0])), (g1, .inr (7, [.int ga1, .int gb1, .int gc1, .int gd1, .int ge1, .int wa1]))] H := hP
  have hD : va_D A [(g0, .inr (7, [.int ga1, .int gb1, .int gc1, .int gd0, .int ge0, .int wa0])), (g1, .inr (7, [.int ga1, .int gb1, .int gc1, .int gd1, .int ge1, .int wa1]))] := hD
  refine lv_aload_n hx hb dX2_becomeLike_24 rfl (lv_at hl 0 rfl) ?_
  refine lv_aload_n hx hb dX2_becomeLike_25 rfl (lv_at hl 1 rfl) ?_
  refine va_get (D := (dC, dI)) (ci := 7) (v := .int gd1) (C := RX2) (T := TX2) (N := 6) hx hb hts u_c_G_like_X2 hown hK hP 1 rfl rfl 3 (by decide) (hts (.fieldLink RX2 21 "HotelOfBells$Guest" "wantedFloor" "I") (List.mem_of_getElem? (i := 4) rfl)) (fun _ h9 => h9) rfl dX2_becomeLike_26 ?_
  refine va_put (D := (dC, dI)) (ci := 7) (v := .int gd1) (ty := .int) (C := RX2) (T := TX2) (N := 6) hx hb hts u_c_G_like_X2 tyX2 tyX2_ok nmX2 hown hK hP hD hS 0 rfl rfl 3 (by decide) (hts (.fieldLink RX2 21 "HotelOfBells$Guest" "wantedFloor" "I") (List.mem_of_getElem? (i := 4) rfl)) (fun _ h9 => h9) rfl (by decide +kernel) rfl rfl (Nat.le_of_ble_eq_true rfl) dX2_becomeLike_29 (fun H locs hP hD hS => ?_)
  have hP : va_P (dC, dI) vwCl [(g0, .inr (7, [.int ga1, .int gb1, .int gc1, .int gd1, .int ge0, .int wa0])), (g1, .inr (7, [.int ga1, .int gb1, .int gc1, .int gd1, .int ge1, .int wa1]))] H := hP
  have hD : va_D A [(g0, .inr (7, [.int ga1, .int gb1, .int gc1, .int gd1, .int ge0, .int wa0])), (g1, .inr (7, [.int ga1, .int gb1, .int gc1, .int gd1, .int ge1, .int wa1]))] := hD
  refine lv_aload_n hx hb dX2_becomeLike_32 rfl (lv_at hl 0 rfl) ?_
  refine lv_aload_n hx hb dX2_becomeLike_33 rfl (lv_at hl 1 rfl) ?_
  refine va_get (D := (dC, dI)) (ci := 7) (v := .int ge1) (C := RX2) (T := TX2) (N := 6) hx hb hts u_c_G_like_X2 hown hK hP 1 rfl rfl 4 (by decide) (hts (.fieldLink RX2 24 "HotelOfBells$Guest" "wantedRoom" "I") (List.mem_of_getElem? (i := 5) rfl)) (fun _ h9 => h9) rfl dX2_becomeLike_34 ?_
  refine va_put (D := (dC, dI)) (ci := 7) (v := .int ge1) (ty := .int) (C := RX2) (T := TX2) (N := 6) hx hb hts u_c_G_like_X2 tyX2 tyX2_ok nmX2 hown hK hP hD hS 0 rfl rfl 4 (by decide) (hts (.fieldLink RX2 24 "HotelOfBells$Guest" "wantedRoom" "I") (List.mem_of_getElem? (i := 5) rfl)) (fun _ h9 => h9) rfl (by decide +kernel) rfl rfl (Nat.le_of_ble_eq_true rfl) dX2_becomeLike_37 (fun H locs hP hD hS => ?_)
  have hP : va_P (dC, dI) vwCl [(g0, .inr (7, [.int ga1, .int gb1, .int gc1, .int gd1, .int ge1, .int wa0])), (g1, .inr (7, [.int ga1, .int gb1, .int gc1, .int gd1, .int ge1, .int wa1]))] H := hP
  have hD : va_D A [(g0, .inr (7, [.int ga1, .int gb1, .int gc1, .int gd1, .int ge1, .int wa0])), (g1, .inr (7, [.int ga1, .int gb1, .int gc1, .int gd1, .int ge1, .int wa1]))] := hD
  refine lv_aload_n hx hb dX2_becomeLike_40 rfl (lv_at hl 0 rfl) ?_
  refine lv_aload_n hx hb dX2_becomeLike_41 rfl (lv_at hl 1 rfl) ?_
  refine va_get (D := (dC, dI)) (ci := 7) (v := .int wa1) (C := RX2) (T := TX2) (N := 6) hx hb hts u_c_G_like_X2 hown hK hP 1 rfl rfl 5 (by decide) (hts (.fieldLink RX2 27 "HotelOfBells$Guest" "waited" "I") (List.mem_of_getElem? (i := 6) rfl)) (fun _ h9 => h9) rfl dX2_becomeLike_42 ?_
  refine va_put (D := (dC, dI)) (ci := 7) (v := .int wa1) (ty := .int) (C := RX2) (T := TX2) (N := 6) hx hb hts u_c_G_like_X2 tyX2 tyX2_ok nmX2 hown hK hP hD hS 0 rfl rfl 5 (by decide) (hts (.fieldLink RX2 27 "HotelOfBells$Guest" "waited" "I") (List.mem_of_getElem? (i := 6) rfl)) (fun _ h9 => h9) rfl (by decide +kernel) rfl rfl (Nat.le_of_ble_eq_true rfl) dX2_becomeLike_45 (fun H locs hP hD hS => ?_)
  have hP : va_P (dC, dI) vwCl [(g0, .inr (7, [.int ga1, .int gb1, .int gc1, .int gd1, .int ge1, .int wa1])), (g1, .inr (7, [.int ga1, .int gb1, .int gc1, .int gd1, .int ge1, .int wa1]))] H := hP
  have hD : va_D A [(g0, .inr (7, [.int ga1, .int gb1, .int gc1, .int gd1, .int ge1, .int wa1])), (g1, .inr (7, [.int ga1, .int gb1, .int gc1, .int gd1, .int ge1, .int wa1]))] := hD
  have hP9 := hP.sub (ws' := [(g0, .inr (7, [.int ga1, .int gb1, .int gc1, .int gd1, .int ge1, .int wa1])), (g1, .inr (7, [.int ga1, .int gb1, .int gc1, .int gd1, .int ge1, .int wa1]))]) [0, 1] rfl
  have hD9 := hD.sub (ws' := [(g0, .inr (7, [.int ga1, .int gb1, .int gc1, .int gd1, .int ge1, .int wa1])), (g1, .inr (7, [.int ga1, .int gb1, .int gc1, .int gd1, .int ge1, .int wa1]))]) [0, 1] (by decide) rfl
  have hK9 := hK.sub (tys' := []) [] rfl
  exact W.vret hx hb hr (fun t ht hW => ⟨⟨(), rfl, trivial, by rw [ht]; exact hP9, va_K.moved hW.alike hK9, hD9⟩, hS.F ht⟩) hS.2.2 dX2_becomeLike_48
def v_c_G_home : List Cond := .code yX2_isHome cX2_isHome 1 (some .boolean) :: ([Cond.fieldLink RX2 15 "HotelOfBells$Guest" "onFloor" "I", Cond.fieldLink RX2 21 "HotelOfBells$Guest" "wantedFloor" "I", Cond.fieldLink RX2 18 "HotelOfBells$Guest" "inRoom" "I", Cond.fieldLink RX2 24 "HotelOfBells$Guest" "wantedRoom" "I"] ++ (wsX20 ++ []))
theorem u_c_G_home_X2 : ∀ w ∈ wsX20, w ∈ v_c_G_home := fun _ h => List.mem_cons_of_mem _ (List.mem_append_right _ (List.mem_append_left _ h))
set_option maxHeartbeats 4000000 in
set_option maxRecDepth 100000 in
theorem c_G_home (l : Launch) (hl9 : l.stackTraces = false) (dC : Nat → ClassId) (dI : Nat → Nat → Nat) (tE : Nat) (g0 : Nat) (wa0 : Int32) (sz : Nat) : Met l yX2_isHome v_c_G_home ({ frames := 0, cells := 0, slots := 0, locals := 0 }) (va_Pc [.ref g0] (Pre0 dC dI tE sz [] [(g0, .inr (7, [.int 0, .int 0, .int (-1), .int 0, .int 1, .int wa0]))])) (va_Qi (fun (r : Int32) (_ : Unit) => r = 0) (fun _ t => Pst dC dI [] (va_A [(g0, .inr (7, [.int 0, .int 0, .int (-1), .int 0, .int 1, .int wa0]))] sz) [(g0, .inr (7, [.int 0, .int 0, .int (-1), .int 0, .int 1, .int wa0]))] t) (va_A [(g0, .inr (7, [.int 0, .int 0, .int (-1), .int 0, .int 1, .int wa0]))] sz)) 0 0 (va_A [(g0, .inr (7, [.int 0, .int 0, .int (-1), .int 0, .int 1, .int wa0]))] sz) := by
  refine Met.ofW (cc := cX2_isHome) (maxL := 1) (ret := (some .boolean)) (by decide) rfl ?_
  intro p e s m args below meth c s₁ B hml hv
  obtain ⟨rfl, hsz, hP, hK, hD0, hT⟩ := hv
  have hx := B.exec
  have hb := B.bytes
  have hr := B.returns
  have hts := atoms_spec (ws := v_c_G_home) B.pre
  have hown : s.vm.findClass RX2 = some m.cls := findClass_of_methodNamed B.named
  have hlocks := B.notSynchronized
  subst hsz
  have hD := hD0.self (sz := s.heap.size)
  generalize hAe : va_A [(g0, .inr (7, [.int 0, .int 0, .int (-1), .int 0, .int 1, .int wa0]))] s.heap.size = A at hD hT ⊢
  have hA : ∀ q : Nat, s.heap.size ≤ q → A q := fun q h => by rw [← hAe]; exact Or.inr h
  have hS : va_S A s.heap s.heap [] := va_S.rf
  have hl := lv_entry ([.ref g0]) (n := 1) (Nat.le_of_ble_eq_true rfl)
  rw [lg_entry_eq]
  generalize (lg_sl ([.ref g0]) ++ List.replicate (1 - (lg_sl ([.ref g0])).length) Slot.unset).toArray = ls at hl ⊢
  have hl : lv_has ls 1 [(0, .ref g0)] := hl
  refine lv_aload_n hx hb dX2_isHome_0 rfl (lv_at hl 0 rfl) ?_
  refine va_get (D := (dC, dI)) (ci := 7) (v := .int 0) (C := RX2) (T := TX2) (N := 6) hx hb hts u_c_G_home_X2 hown hK hP 0 rfl rfl 0 (by decide) (hts (.fieldLink RX2 15 "HotelOfBells$Guest" "onFloor" "I") (List.mem_of_getElem? (i := 1) rfl)) (fun _ h9 => h9) rfl dX2_isHome_1 ?_
  refine lv_aload_n hx hb dX2_isHome_4 rfl (lv_at hl 0 rfl) ?_
  refine va_get (D := (dC, dI)) (ci := 7) (v := .int 0) (C := RX2) (T := TX2) (N := 6) hx hb hts u_c_G_home_X2 hown hK hP 0 rfl rfl 3 (by decide) (hts (.fieldLink RX2 21 "HotelOfBells$Guest" "wantedFloor" "I") (List.mem_of_getElem? (i := 2) rfl)) (fun _ h9 => h9) rfl dX2_isHome_5 ?_
  refine lv_icmp_ne (tgt := 26) hx hb dX2_isHome_8 (by decide) (fun c_1 => absurd (by decide) c_1) (fun _ => ?_)
  refine lv_aload_n hx hb dX2_isHome_11 rfl (lv_at hl 0 rfl) ?_
  refine va_get (D := (dC, dI)) (ci := 7) (v := .int 0) (C := RX2) (T := TX2) (N := 6) hx hb hts u_c_G_home_X2 hown hK hP 0 rfl rfl 1 (by decide) (hts (.fieldLink RX2 18 "HotelOfBells$Guest" "inRoom" "I") (List.mem_of_getElem? (i := 3) rfl)) (fun _ h9 => h9) rfl dX2_isHome_12 ?_
  refine lv_aload_n hx hb dX2_isHome_15 rfl (lv_at hl 0 rfl) ?_
  refine va_get (D := (dC, dI)) (ci := 7) (v := .int 1) (C := RX2) (T := TX2) (N := 6) hx hb hts u_c_G_home_X2 hown hK hP 0 rfl rfl 4 (by decide) (hts (.fieldLink RX2 24 "HotelOfBells$Guest" "wantedRoom" "I") (List.mem_of_getElem? (i := 4) rfl)) (fun _ h9 => h9) rfl dX2_isHome_16 ?_
  refine lv_icmp_ne (tgt := 26) hx hb dX2_isHome_19 (by decide) (fun _ => ?_) (fun c_2 => absurd c_2 (by decide))
  refine lv_iconst (v := 0) hx hb dX2_isHome_26 (by decide) ?_
  have hP9 := hP.sub (ws' := [(g0, .inr (7, [.int 0, .int 0, .int (-1), .int 0, .int 1, .int wa0]))]) [0] rfl
  have hD9 := hD.sub (ws' := [(g0, .inr (7, [.int 0, .int 0, .int (-1), .int 0, .int 1, .int wa0]))]) [0] (by decide) rfl
  have hK9 := hK.sub (tys' := []) [] rfl
  exact W.zret (v := 0) hx hb hr (by decide) (fun t ht hW => ⟨⟨0, (), rfl, rfl, by rw [ht]; exact hP9, va_K.moved hW.alike hK9, hD9⟩, hS.F ht⟩) hS.2.2 dX2_isHome_27
def v_c_isFloor : List Cond := .code yX5_isFloor cX5_isFloor 2 (some .boolean) :: ([Cond.fieldLink RX5 10 "HotelOfBells" "floors" "Ljava/util/ArrayList;", Cond.code yJx4a65c_size_8abf5 cJx4a65c_size_8abf5 1 (some .int), Cond.fieldLink RJx4a65c 48 "java/util/ArrayList" "size" "I", Cond.methodLink RX5 49 yJx4a65c_size_8abf5, Cond.instanceMethod yJx4a65c_size_8abf5, Cond.selects RJx4a65c yJx4a65c_size_8abf5 yJx4a65c_size_8abf5, Cond.initialized RJx4a65c] ++ (wsX50 ++ (wsJx4a65c0 ++ [])))
theorem u_c_isFloor_X5 : ∀ w ∈ wsX50, w ∈ v_c_isFloor := fun _ h => List.mem_cons_of_mem _ (List.mem_append_right _ (List.mem_append_left _ h))
theorem u_c_isFloor_Jx4a65c : ∀ w ∈ wsJx4a65c0, w ∈ v_c_isFloor := fun _ h => List.mem_cons_of_mem _ (List.mem_append_right _ (List.mem_append_right _ (List.mem_append_left _ h)))
theorem gg_c_isFloor_c_AL_size : GoodIn v_c_isFloor v_c_AL_size := goodIn_r _ [2, 3, 17, 18, 19] (by rfl) (by decide +kernel)
set_option maxHeartbeats 4000000 in
set_option maxRecDepth 100000 in
theorem c_isFloor (l : Launch) (hl9 : l.stackTraces = false) (dC : Nat → ClassId) (dI : Nat → Nat → Nat) (tE : Nat) (h0 : Nat) (fq : Nat) (sq : Nat) (gq : Nat) (nq : Nat) (dq : Nat) (pq : Nat) (pl : Int32) (bl : Int32) (tb : Int32) (faq : Nat) (mc_fq : Int32) (sz : Nat) : Met l yX5_isFloor v_c_isFloor ({ frames := 1, cells := 0, slots := 0, locals := 20 }) (va_Pc [.ref h0, .int 0] (Pre0 dC dI tE sz [] [(h0, .inr (10, [.ref fq, .ref sq, .ref gq, .ref nq, .ref dq, .ref pq, .int pl, .int bl, .int tb])), (fq, .inr (4, [.int mc_fq, .ref faq, .int 1]))])) (va_Qi (fun (r : Int32) (_ : Unit) => r = 1) (fun _ t => Pst dC dI [] (va_A [(h0, .inr (10, [.ref fq, .ref sq, .ref gq, .ref nq, .ref dq, .ref pq, .int pl, .int bl, .int tb])), (fq, .inr (4, [.int mc_fq, .ref faq, .int 1]))] sz) [(h0, .inr (10, [.ref fq, .ref sq, .ref gq, .ref nq, .ref dq, .ref pq, .int pl, .int bl, .int tb])), (fq, .inr (4, [.int mc_fq, .ref faq, .int 1]))] t) (va_A [(h0, .inr (10, [.ref fq, .ref sq, .ref gq, .ref nq, .ref dq, .ref pq, .int pl, .int bl, .int tb])), (fq, .inr (4, [.int mc_fq, .ref faq, .int 1]))] sz)) 0 0 (va_A [(h0, .inr (10, [.ref fq, .ref sq, .ref gq, .ref nq, .ref dq, .ref pq, .int pl, .int bl, .int tb])), (fq, .inr (4, [.int mc_fq, .ref faq, .int 1]))] sz) := by
  refine Met.ofW (cc := cX5_isFloor) (maxL := 2) (ret := (some .boolean)) (by decide) rfl ?_
  intro p e s m args below meth c s₁ B hml hv
  obtain ⟨rfl, hsz, hP, hK, hD0, hT⟩ := hv
  have hx := B.exec
  have hb := B.bytes
  have hr := B.returns
  have hts := atoms_spec (ws := v_c_isFloor) B.pre
  have hown : s.vm.findClass RX5 = some m.cls := findClass_of_methodNamed B.named
  have hlocks := B.notSynchronized
  subst hsz
  have hD := hD0.self (sz := s.heap.size)
  generalize hAe : va_A [(h0, .inr (10, [.ref fq, .ref sq, .ref gq, .ref nq, .ref dq, .ref pq, .int pl, .int bl, .int tb])), (fq, .inr (4, [.int mc_fq, .ref faq, .int 1]))] s.heap.size = A at hD hT ⊢
  have hA : ∀ q : Nat, s.heap.size ≤ q → A q := fun q h => by rw [← hAe]; exact Or.inr h
  have hS : va_S A s.heap s.heap [] := va_S.rf
  have hl := lv_entry ([.ref h0, .int 0]) (n := 2) (Nat.le_of_ble_eq_true rfl)
  rw [lg_entry_eq]
  generalize (lg_sl ([.ref h0, .int 0]) ++ List.replicate (2 - (lg_sl ([.ref h0, .int 0])).length) Slot.unset).toArray = ls at hl ⊢
  have hl : lv_has ls 2 [(0, .ref h0), (1, .int 0)] := hl
  refine lv_iload_n hx hb dX5_isFloor_0 rfl (lv_at hl 1 rfl) ?_
  refine lv_if_lt (tgt := 19) hx hb dX5_isFloor_1 (by decide) (fun c_1 => absurd c_1 (by decide)) (fun _ => ?_)
  refine lv_iload_n hx hb dX5_isFloor_4 rfl (lv_at hl 1 rfl) ?_
  refine lv_aload_n hx hb dX5_isFloor_5 rfl (lv_at hl 0 rfl) ?_
  refine va_get (D := (dC, dI)) (ci := 10) (v := .ref fq) (C := RX5) (T := TX5) (N := 9) hx hb hts u_c_isFloor_X5 hown hK hP 0 rfl rfl 0 (by decide) (hts (.fieldLink RX5 10 "HotelOfBells" "floors" "Ljava/util/ArrayList;") (List.mem_of_getElem? (i := 1) rfl)) (fun _ h9 => h9) rfl dX5_isFloor_6 ?_
  have hPc := hP.sub (ws' := [(fq, .inr (4, [.int mc_fq, .ref faq, .int 1]))]) [1] rfl
  have hDc := hD.sub (ws' := [(fq, .inr (4, [.int mc_fq, .ref faq, .int 1]))]) [1] (by decide) rfl
  have hKc := hK.sub (tys' := []) [] rfl
  have hFc := va_free (wc := [(fq, .inr (4, [.int mc_fq, .ref faq, .int 1]))]) hD hS hA [1] rfl
  refine va_calli (va_runV (As := []) (rest := [.int 0]) ⟨hx, hb, hml, hown, hts⟩ (c_AL_size l hl9 dC dI tE fq mc_fq 1 (.ref faq) _ ) (cwV 0 hts (goodIn_app (goodIn_r _ [4, 5, 6, 7] (by rfl) (by decide +kernel)) gg_c_isFloor_c_AL_size) rfl rfl rfl (by decide +kernel) ⟨Nat.le_of_ble_eq_true rfl, Nat.le_of_ble_eq_true rfl⟩) ⟨Pre0.blind, va_recv hKc hPc (ci := 4) (q0 := 0) rfl rfl, Pre0.give hPc hKc hDc hT hS hFc⟩ rfl rfl hl.1 rfl (lv_room (Nat.le_of_ble_eq_true rfl)) dX5_isFloor_9 ⟨Nat.le_of_ble_eq_true rfl, Nat.le_of_ble_eq_true rfl⟩) hS (fun q _ h => hFc q h) hFc (fun r_2 u t H1 locs ht hvm hw hB hz1 hk1 hS => ?_)
  obtain ⟨hP1, hK1, hD1⟩ := hB
  rw [ht] at hP1
  have hK1 := va_K.moved hvm.symm hK1
  obtain ⟨hP, hD⟩ := va_join (wr := [(h0, .inr (10, [.ref fq, .ref sq, .ref gq, .ref nq, .ref dq, .ref pq, .int pl, .int bl, .int tb]))]) (w1 := [(fq, .inr (4, [.int mc_fq, .ref faq, .int 1]))]) hP hD [1] [0] rfl rfl (by decide) (by decide) hk1 hFc hP1 hD1
  generalize H1 = H at hP hS ⊢
  have hP : va_P (dC, dI) vwCl [(h0, .inr (10, [.ref fq, .ref sq, .ref gq, .ref nq, .ref dq, .ref pq, .int pl, .int bl, .int tb])), (fq, .inr (4, [.int mc_fq, .ref faq, .int 1]))] H := hP
  have hD : va_D A [(h0, .inr (10, [.ref fq, .ref sq, .ref gq, .ref nq, .ref dq, .ref pq, .int pl, .int bl, .int tb])), (fq, .inr (4, [.int mc_fq, .ref faq, .int 1]))] := hD
  refine W.widen (k := 0) (n := 0) (by omega) (by omega) ?_
  obtain rfl : r_2 = 1 := hw
  refine lv_icmp_ge (tgt := 19) hx hb dX5_isFloor_12 (by decide) (fun c_3 => absurd c_3 (by decide)) (fun _ => ?_)
  refine lv_iconst (v := 1) hx hb dX5_isFloor_15 (by decide) ?_
  refine lv_goto (tgt := 20) hx hb dX5_isFloor_16 (by decide) ?_
  have hP9 := hP.sub (ws' := [(h0, .inr (10, [.ref fq, .ref sq, .ref gq, .ref nq, .ref dq, .ref pq, .int pl, .int bl, .int tb])), (fq, .inr (4, [.int mc_fq, .ref faq, .int 1]))]) [0, 1] rfl
  have hD9 := hD.sub (ws' := [(h0, .inr (10, [.ref fq, .ref sq, .ref gq, .ref nq, .ref dq, .ref pq, .int pl, .int bl, .int tb])), (fq, .inr (4, [.int mc_fq, .ref faq, .int 1]))]) [0, 1] (by decide) rfl
  have hK9 := hK.sub (tys' := []) [] rfl
  exact W.zret (v := 1) hx hb hr (by decide) (fun t ht hW => ⟨⟨1, (), rfl, rfl, by rw [ht]; exact hP9, va_K.moved hW.alike hK9, hD9⟩, hS.F ht⟩) hS.2.2 dX5_isFloor_20
def v_c_isGuest : List Cond := .code yX5_isGuest cX5_isGuest 2 (some .boolean) :: ([Cond.fieldLink RX5 19 "HotelOfBells" "guests" "Ljava/util/ArrayList;", Cond.code yJx4a65c_size_8abf5 cJx4a65c_size_8abf5 1 (some .int), Cond.fieldLink RJx4a65c 48 "java/util/ArrayList" "size" "I", Cond.methodLink RX5 49 yJx4a65c_size_8abf5, Cond.instanceMethod yJx4a65c_size_8abf5, Cond.selects RJx4a65c yJx4a65c_size_8abf5 yJx4a65c_size_8abf5, Cond.initialized RJx4a65c] ++ (wsX50 ++ (wsJx4a65c0 ++ [])))
theorem u_c_isGuest_X5 : ∀ w ∈ wsX50, w ∈ v_c_isGuest := fun _ h => List.mem_cons_of_mem _ (List.mem_append_right _ (List.mem_append_left _ h))
theorem u_c_isGuest_Jx4a65c : ∀ w ∈ wsJx4a65c0, w ∈ v_c_isGuest := fun _ h => List.mem_cons_of_mem _ (List.mem_append_right _ (List.mem_append_right _ (List.mem_append_left _ h)))
theorem gg_c_isGuest_c_AL_size : GoodIn v_c_isGuest v_c_AL_size := goodIn_r _ [2, 3, 17, 18, 19] (by rfl) (by decide +kernel)
set_option maxHeartbeats 4000000 in
set_option maxRecDepth 100000 in
theorem c_isGuest (l : Launch) (hl9 : l.stackTraces = false) (dC : Nat → ClassId) (dI : Nat → Nat → Nat) (tE : Nat) (h0 : Nat) (fq : Nat) (sq : Nat) (gq : Nat) (nq : Nat) (dq : Nat) (pq : Nat) (pl : Int32) (bl : Int32) (tb : Int32) (gaq : Nat) (mc_gq : Int32) (sz : Nat) : Met l yX5_isGuest v_c_isGuest ({ frames := 1, cells := 0, slots := 0, locals := 20 }) (va_Pc [.ref h0, .int 0] (Pre0 dC dI tE sz [] [(h0, .inr (10, [.ref fq, .ref sq, .ref gq, .ref nq, .ref dq, .ref pq, .int pl, .int bl, .int tb])), (gq, .inr (4, [.int mc_gq, .ref gaq, .int 1]))])) (va_Qi (fun (r : Int32) (_ : Unit) => r = 1) (fun _ t => Pst dC dI [] (va_A [(h0, .inr (10, [.ref fq, .ref sq, .ref gq, .ref nq, .ref dq, .ref pq, .int pl, .int bl, .int tb])), (gq, .inr (4, [.int mc_gq, .ref gaq, .int 1]))] sz) [(h0, .inr (10, [.ref fq, .ref sq, .ref gq, .ref nq, .ref dq, .ref pq, .int pl, .int bl, .int tb])), (gq, .inr (4, [.int mc_gq, .ref gaq, .int 1]))] t) (va_A [(h0, .inr (10, [.ref fq, .ref sq, .ref gq, .ref nq, .ref dq, .ref pq, .int pl, .int bl, .int tb])), (gq, .inr (4, [.int mc_gq, .ref gaq, .int 1]))] sz)) 0 0 (va_A [(h0, .inr (10, [.ref fq, .ref sq, .ref gq, .ref nq, .ref dq, .ref pq, .int pl, .int bl, .int tb])), (gq, .inr (4, [.int mc_gq, .ref gaq, .int 1]))] sz) := by
  refine Met.ofW (cc := cX5_isGuest) (maxL := 2) (ret := (some .boolean)) (by decide) rfl ?_
  intro p e s m args below meth c s₁ B hml hv
  obtain ⟨rfl, hsz, hP, hK, hD0, hT⟩ := hv
  have hx := B.exec
  have hb := B.bytes
  have hr := B.returns
  have hts := atoms_spec (ws := v_c_isGuest) B.pre
  have hown : s.vm.findClass RX5 = some m.cls := findClass_of_methodNamed B.named
  have hlocks := B.notSynchronized
  subst hsz
  have hD := hD0.self (sz := s.heap.size)
  generalize hAe : va_A [(h0, .inr (10, [.ref fq, .ref sq, .ref gq, .ref nq, .ref dq, .ref pq, .int pl, .int bl, .int tb])), (gq, .inr (4, [.int mc_gq, .ref gaq, .int 1]))] s.heap.size = A at hD hT ⊢
  have hA : ∀ q : Nat, s.heap.size ≤ q → A q := fun q h => by rw [← hAe]; exact Or.inr h
  have hS : va_S A s.heap s.heap [] := va_S.rf
  have hl := lv_entry ([.ref h0, .int 0]) (n := 2) (Nat.le_of_ble_eq_true rfl)
  rw [lg_entry_eq]
  generalize (lg_sl ([.ref h0, .int 0]) ++ List.replicate (2 - (lg_sl ([.ref h0, .int 0])).length) Slot.unset).toArray = ls at hl ⊢
  have hl : lv_has ls 2 [(0, .ref h0), (1, .int 0)] := hl
  refine lv_iload_n hx hb dX5_isGuest_0 rfl (lv_at hl 1 rfl) ?_
  refine lv_if_lt (tgt := 19) hx hb dX5_isGuest_1 (by decide) (fun c_1 => absurd c_1 (by decide)) (fun _ => ?_)
  refine lv_iload_n hx hb dX5_isGuest_4 rfl (lv_at hl 1 rfl) ?_
  refine lv_aload_n hx hb dX5_isGuest_5 rfl (lv_at hl 0 rfl) ?_
  refine va_get (D := (dC, dI)) (ci := 10) (v := .ref gq) (C := RX5) (T := TX5) (N := 9) hx hb hts u_c_isGuest_X5 hown hK hP 0 rfl rfl 2 (by decide) (hts (.fieldLink RX5 19 "HotelOfBells" "guests" "Ljava/util/ArrayList;") (List.mem_of_getElem? (i := 1) rfl)) (fun _ h9 => h9) rfl dX5_isGuest_6 ?_
  have hPc := hP.sub (ws' := [(gq, .inr (4, [.int mc_gq, .ref gaq, .int 1]))]) [1] rfl
  have hDc := hD.sub (ws' := [(gq, .inr (4, [.int mc_gq, .ref gaq, .int 1]))]) [1] (by decide) rfl
  have hKc := hK.sub (tys' := []) [] rfl
  have hFc := va_free (wc := [(gq, .inr (4, [.int mc_gq, .ref gaq, .int 1]))]) hD hS hA [1] rfl
  refine va_calli (va_runV (As := []) (rest := [.int 0]) ⟨hx, hb, hml, hown, hts⟩ (c_AL_size l hl9 dC dI tE gq mc_gq 1 (.ref gaq) _ ) (cwV 0 hts (goodIn_app (goodIn_r _ [4, 5, 6, 7] (by rfl) (by decide +kernel)) gg_c_isGuest_c_AL_size) rfl rfl rfl (by decide +kernel) ⟨Nat.le_of_ble_eq_true rfl, Nat.le_of_ble_eq_true rfl⟩) ⟨Pre0.blind, va_recv hKc hPc (ci := 4) (q0 := 0) rfl rfl, Pre0.give hPc hKc hDc hT hS hFc⟩ rfl rfl hl.1 rfl (lv_room (Nat.le_of_ble_eq_true rfl)) dX5_isGuest_9 ⟨Nat.le_of_ble_eq_true rfl, Nat.le_of_ble_eq_true rfl⟩) hS (fun q _ h => hFc q h) hFc (fun r_2 u t H1 locs ht hvm hw hB hz1 hk1 hS => ?_)
  obtain ⟨hP1, hK1, hD1⟩ := hB
  rw [ht] at hP1
  have hK1 := va_K.moved hvm.symm hK1
  obtain ⟨hP, hD⟩ := va_join (wr := [(h0, .inr (10, [.ref fq, .ref sq, .ref gq, .ref nq, .ref dq, .ref pq, .int pl, .int bl, .int tb]))]) (w1 := [(gq, .inr (4, [.int mc_gq, .ref gaq, .int 1]))]) hP hD [1] [0] rfl rfl (by decide) (by decide) hk1 hFc hP1 hD1
  generalize H1 = H at hP hS ⊢
  have hP : va_P (dC, dI) vwCl [(h0, .inr (10, [.ref fq, .ref sq, .ref gq, .ref nq, .ref dq, .ref pq, .int pl, .int bl, .int tb])), (gq, .inr (4, [.int mc_gq, .ref gaq, .int 1]))] H := hP
  have hD : va_D A [(h0, .inr (10, [.ref fq, .ref sq, .ref gq, .ref nq, .ref dq, .ref pq, .int pl, .int bl, .int tb])), (gq, .inr (4, [.int mc_gq, .ref gaq, .int 1]))] := hD
  refine W.widen (k := 0) (n := 0) (by omega) (by omega) ?_
  obtain rfl : r_2 = 1 := hw
  refine lv_icmp_ge (tgt := 19) hx hb dX5_isGuest_12 (by decide) (fun c_3 => absurd c_3 (by decide)) (fun _ => ?_)
  refine lv_iconst (v := 1) hx hb dX5_isGuest_15 (by decide) ?_
  refine lv_goto (tgt := 20) hx hb dX5_isGuest_16 (by decide) ?_
  have hP9 := hP.sub (ws' := [(h0, .inr (10, [.ref fq, .ref sq, .ref gq, .ref nq, .ref dq, .ref pq, .int pl, .int bl, .int tb])), (gq, .inr (4, [.int mc_gq, .ref gaq, .int 1]))]) [0, 1] rfl
  have hD9 := hD.sub (ws' := [(h0, .inr (10, [.ref fq, .ref sq, .ref gq, .ref nq, .ref dq, .ref pq, .int pl, .int bl, .int tb])), (gq, .inr (4, [.int mc_gq, .ref gaq, .int 1]))]) [0, 1] (by decide) rfl
  have hK9 := hK.sub (tys' := []) [] rfl
  exact W.zret (v := 1) hx hb hr (by decide) (fun t ht hW => ⟨⟨1, (), rfl, rfl, by rw [ht]; exact hP9, va_K.moved hW.alike hK9, hD9⟩, hS.F ht⟩) hS.2.2 dX5_isGuest_20
def v_c_isRoom_0 : List Cond := .code yX5_isRoom cX5_isRoom 3 (some .boolean) :: ([Cond.code yX5_isFloor cX5_isFloor 2 (some .boolean), Cond.fieldLink RX5 10 "HotelOfBells" "floors" "Ljava/util/ArrayList;", Cond.code yJx4a65c_size_8abf5 cJx4a65c_size_8abf5 1 (some .int), Cond.fieldLink RJx4a65c 48 "java/util/ArrayList" "size" "I", Cond.methodLink RX5 49 yJx4a65c_size_8abf5, Cond.instanceMethod yJx4a65c_size_8abf5, Cond.selects RJx4a65c yJx4a65c_size_8abf5 yJx4a65c_size_8abf5, Cond.initialized RJx4a65c, Cond.methodLink RX5 67 yX5_isFloor, Cond.instanceMethod yX5_isFloor, Cond.selects RX5 yX5_isFloor yX5_isFloor, Cond.initialized RX5, Cond.code yJx4a65c_get_915e3 cJx4a65c_get_915e3 2 (some (.object "java/lang/Object")), Cond.code yJ15_checkIndex_7cf53 cJ15_checkIndex_7cf53 2 (some .int), Cond.code yJ3_checkIndex_8e157 cJ3_checkIndex_8e157 3 (some .int), Cond.methodLink RJ15 105 yJ3_checkIndex_8e157, Cond.static yJ3_checkIndex_8e157, Cond.initialized RJ3, Cond.methodLink RJx4a65c 118 yJ15_checkIndex_7cf53, Cond.static yJ15_checkIndex_7cf53, Cond.initialized RJ15, Cond.code yJx4a65c_elementData_915e3 cJx4a65c_elementData_915e3 2 (some (.object "java/lang/Object")), Cond.fieldLink RJx4a65c 9 "java/util/ArrayList" "elementData" "[Ljava/lang/Object;", Cond.methodLink RJx4a65c 123 yJx4a65c_elementData_915e3, Cond.instanceMethod yJx4a65c_elementData_915e3, Cond.selects RJx4a65c yJx4a65c_elementData_915e3 yJx4a65c_elementData_915e3, Cond.methodLink RX5 84 yJx4a65c_get_915e3, Cond.instanceMethod yJx4a65c_get_915e3, Cond.selects RJx4a65c yJx4a65c_get_915e3 yJx4a65c_get_915e3, Cond.classLink RX5 58 RX1, Cond.fieldLink RX5 108 "HotelOfBells$Floor" "rooms" "I"] ++ (wsX50 ++ (wsJx4a65c0 ++ (wsX10 ++ []))))
theorem u_c_isRoom_0_X5 : ∀ w ∈ wsX50, w ∈ v_c_isRoom_0 := fun _ h => List.mem_cons_of_mem _ (List.mem_append_right _ (List.mem_append_left _ h))
theorem u_c_isRoom_0_Jx4a65c : ∀ w ∈ wsJx4a65c0, w ∈ v_c_isRoom_0 := fun _ h => List.mem_cons_of_mem _ (List.mem_append_right _ (List.mem_append_right _ (List.mem_append_left _ h)))
theorem u_c_isRoom_0_X1 : ∀ w ∈ wsX10, w ∈ v_c_isRoom_0 := fun _ h => List.mem_cons_of_mem _ (List.mem_append_right _ (List.mem_append_right _ (List.mem_append_right _ (List.mem_append_left _ h))))
theorem gg_c_isRoom_0_c_isFloor : GoodIn v_c_isRoom_0 v_c_isFloor := goodIn_r _ [1, 2, 3, 4, 5, 6, 7, 8, 32, 33, 34, 35, 36, 37, 38, 39, 40, 41, 42, 43] (by rfl) (by decide +kernel)
theorem gg_c_isRoom_0_c_AL_get : GoodIn v_c_isRoom_0 v_c_AL_get := goodIn_r _ [13, 4, 14, 15, 16, 17, 18, 19, 20, 21, 22, 23, 24, 25, 26, 8, 41, 42, 43] (by rfl) (by decide +kernel)
set_option maxHeartbeats 4000000 in
set_option maxRecDepth 100000 in
theorem c_isRoom_0 (l : Launch) (hl9 : l.stackTraces = false) (dC : Nat → ClassId) (dI : Nat → Nat → Nat) (tE : Nat) (h0 : Nat) (fq : Nat) (sq : Nat) (gq : Nat) (nq : Nat) (dq : Nat) (pq : Nat) (pl : Int32) (bl : Int32) (tb : Int32) (faq : Nat) (f1q : Nat) (mc_fq : Int32) (cO : ClassId) (sz : Nat) : Met l yX5_isRoom v_c_isRoom_0 ({ frames := 3, cells := 0, slots := 0, locals := 64 }) (va_Pc [.ref h0, .int 0, .int 0] (Pre0 dC dI tE sz [(cO, .object "java/lang/Object")] [(h0, .inr (10, [.ref fq, .ref sq, .ref gq, .ref nq, .ref dq, .ref pq, .int pl, .int bl, .int tb])), (fq, .inr (4, [.int mc_fq, .ref faq, .int 1])), (faq, .inl (cO, 10, .inr (.inr (.inr (.inr (va_up (fun _ => none) (0 : Int32).toNatClampNeg (some f1q))))))), (f1q, .inr (6, [.int 3, .int 1, .int 10, .int 0]))])) (va_Qi (fun (r : Int32) (_ : Unit) => r = 1) (fun _ t => Pst dC dI [(cO, .object "java/lang/Object")] (va_A [(h0, .inr (10, [.ref fq, .ref sq, .ref gq, .ref nq, .ref dq, .ref pq, .int pl, .int bl, .int tb])), (fq, .inr (4, [.int mc_fq, .ref faq, .int 1])), (faq, .inl (cO, 10, .inr (.inr (.inr (.inr (va_up (fun _ => none) (0 : Int32).toNatClampNeg (some f1q))))))), (f1q, .inr (6, [.int 3, .int 1, .int 10, .int 0]))] sz) [(f1q, .inr (6, [.int 3, .int 1, .int 10, .int 0])), (h0, .inr (10, [.ref fq, .ref sq, .ref gq, .ref nq, .ref dq, .ref pq, .int pl, .int bl, .int tb])), (fq, .inr (4, [.int mc_fq, .ref faq, .int 1])), (faq, .inl (cO, 10, .inr (.inr (.inr (.inr (va_up (fun _ => none) (0 : Int32).toNatClampNeg (some f1q)))))))] t) (va_A [(h0, .inr (10, [.ref fq, .ref sq, .ref gq, .ref nq, .ref dq, .ref pq, .int pl, .int bl, .int tb])), (fq, .inr (4, [.int mc_fq, .ref faq, .int 1])), (faq, .inl (cO, 10, .inr (.inr (.inr (.inr (va_up (fun _ => none) (0 : Int32).toNatClampNeg (some f1q))))))), (f1q, .inr (6, [.int 3, .int 1, .int 10, .int 0]))] sz)) 0 0 (va_A [(h0, .inr (10, [.ref fq, .ref sq, .ref gq, .ref nq, .ref dq, .ref pq, .int pl, .int bl, .int tb])), (fq, .inr (4, [.int mc_fq, .ref faq, .int 1])), (faq, .inl (cO, 10, .inr (.inr (.inr (.inr (va_up (fun _ => none) (0 : Int32).toNatClampNeg (some f1q))))))), (f1q, .inr (6, [.int 3, .int 1, .int 10, .int 0]))] sz) := by
  refine Met.ofW (cc := cX5_isRoom) (maxL := 3) (ret := (some .boolean)) (by decide) rfl ?_
  intro p e s m args below meth c s₁ B hml hv
  obtain ⟨rfl, hsz, hP, hK, hD0, hT⟩ := hv
  have hx := B.exec
  have hb := B.bytes
  have hr := B.returns
  have hts := atoms_spec (ws := v_c_isRoom_0) B.pre
  have hown : s.vm.findClass RX5 = some m.cls := findClass_of_methodNamed B.named
  have hlocks := B.notSynchronized
  subst hsz
  have hD := hD0.self (sz := s.heap.size)
  generalize hAe : va_A [(h0, .inr (10, [.ref fq, .ref sq, .ref gq, .ref nq, .ref dq, .ref pq, .int pl, .int bl, .int tb])), (fq, .inr (4, [.int mc_fq, .ref faq, .int 1])), (faq, .inl (cO, 10, .inr (.inr (.inr (.inr (va_up (fun _ => none) (0 : Int32).toNatClampNeg (some f1q))))))), (f1q, .inr (6, [.int 3, .int 1, .int 10, .int 0]))] s.heap.size = A at hD hT ⊢
  have hA : ∀ q : Nat, s.heap.size ≤ q → A q := fun q h => by rw [← hAe]; exact Or.inr h
  have hS : va_S A s.heap s.heap [] := va_S.rf
  have hl := lv_entry ([.ref h0, .int 0, .int 0]) (n := 3) (Nat.le_of_ble_eq_true rfl)
  rw [lg_entry_eq]
  generalize (lg_sl ([.ref h0, .int 0, .int 0]) ++ List.replicate (3 - (lg_sl ([.ref h0, .int 0, .int 0])).length) Slot.unset).toArray = ls at hl ⊢
  have hl : lv_has ls 3 [(0, .ref h0), (1, .int 0), (2, .int 0)] := hl
  refine lv_aload_n hx hb dX5_isRoom_0 rfl (lv_at hl 0 rfl) ?_
  refine lv_iload_n hx hb dX5_isRoom_1 rfl (lv_at hl 1 rfl) ?_
  have hPc := hP.sub (ws' := [(h0, .inr (10, [.ref fq, .ref sq, .ref gq, .ref nq, .ref dq, .ref pq, .int pl, .int bl, .int tb])), (fq, .inr (4, [.int mc_fq, .ref faq, .int 1]))]) [0, 1] rfl
  have hDc := hD.sub (ws' := [(h0, .inr (10, [.ref fq, .ref sq, .ref gq, .ref nq, .ref dq, .ref pq, .int pl, .int bl, .int tb])), (fq, .inr (4, [.int mc_fq, .ref faq, .int 1]))]) [0, 1] (by decide) rfl
  have hKc := hK.sub (tys' := []) [] rfl
  have hFc := va_free (wc := [(h0, .inr (10, [.ref fq, .ref sq, .ref gq, .ref nq, .ref dq, .ref pq, .int pl, .int bl, .int tb])), (fq, .inr (4, [.int mc_fq, .ref faq, .int 1]))]) hD hS hA [0, 1] rfl
  refine va_calli (va_runV (As := [.int 0]) (rest := []) ⟨hx, hb, hml, hown, hts⟩ (c_isFloor l hl9 dC dI tE h0 fq sq gq nq dq pq pl bl tb faq mc_fq _ ) (cwV 1 hts (goodIn_app (goodIn_r _ [9, 10, 11, 12] (by rfl) (by decide +kernel)) gg_c_isRoom_0_c_isFloor) rfl rfl rfl (by decide +kernel) ⟨Nat.le_of_ble_eq_true rfl, Nat.le_of_ble_eq_true rfl⟩) ⟨Pre0.blind, va_recv hKc hPc (ci := 10) (q0 := 0) rfl rfl, Pre0.give hPc hKc hDc hT hS hFc⟩ rfl rfl hl.1 rfl (lv_room (Nat.le_of_ble_eq_true rfl)) dX5_isRoom_2 ⟨Nat.le_of_ble_eq_true rfl, Nat.le_of_ble_eq_true rfl⟩) hS (fun q _ h => hFc q h) hFc (fun r_1 u t H1 locs ht hvm hw hB hz1 hk1 hS => ?_)
  obtain ⟨hP1, hK1, hD1⟩ := hB
  rw [ht] at hP1
  have hK1 := va_K.moved hvm.symm hK1
  obtain ⟨hP, hD⟩ := va_join (wr := [(faq, .inl (cO, 10, .inr (.inr (.inr (.inr (va_up (fun _ => none) (0 : Int32).toNatClampNeg (some f1q))))))), (f1q, .inr (6, [.int 3, .int 1, .int 10, .int 0]))]) (w1 := [(h0, .inr (10, [.ref fq, .ref sq, .ref gq, .ref nq, .ref dq, .ref pq, .int pl, .int bl, .int tb])), (fq, .inr (4, [.int mc_fq, .ref faq, .int 1]))]) hP hD [0, 1] [2, 3] rfl rfl (by decide) (by decide) hk1 hFc hP1 hD1
  generalize H1 = H at hP hS ⊢
  have hP : va_P (dC, dI) vwCl [(faq, .inl (cO, 10, .inr (.inr (.inr (.inr (va_up (fun _ => none) (0 : Int32).toNatClampNeg (some f1q))))))), (f1q, .inr (6, [.int 3, .int 1, .int 10, .int 0])), (h0, .inr (10, [.ref fq, .ref sq, .ref gq, .ref nq, .ref dq, .ref pq, .int pl, .int bl, .int tb])), (fq, .inr (4, [.int mc_fq, .ref faq, .int 1]))] H := hP
  have hD : va_D A [(faq, .inl (cO, 10, .inr (.inr (.inr (.inr (va_up (fun _ => none) (0 : Int32).toNatClampNeg (some f1q))))))), (f1q, .inr (6, [.int 3, .int 1, .int 10, .int 0])), (h0, .inr (10, [.ref fq, .ref sq, .ref gq, .ref nq, .ref dq, .ref pq, .int pl, .int bl, .int tb])), (fq, .inr (4, [.int mc_fq, .ref faq, .int 1]))] := hD
  refine W.widen (k := 0) (n := 0) (by omega) (by omega) ?_
  obtain rfl : r_1 = 1 := hw
  refine lv_if_eq (tgt := 34) hx hb dX5_isRoom_5 (by decide) (fun c_2 => absurd c_2 (by decide)) (fun _ => ?_)
  refine lv_iload_n hx hb dX5_isRoom_8 rfl (lv_at hl 2 rfl) ?_
  refine lv_if_lt (tgt := 34) hx hb dX5_isRoom_9 (by decide) (fun c_3 => absurd c_3 (by decide)) (fun _ => ?_)
  refine lv_iload_n hx hb dX5_isRoom_12 rfl (lv_at hl 2 rfl) ?_
  refine lv_aload_n hx hb dX5_isRoom_13 rfl (lv_at hl 0 rfl) ?_
  refine va_get (D := (dC, dI)) (ci := 10) (v := .ref fq) (C := RX5) (T := TX5) (N := 9) hx hb hts u_c_isRoom_0_X5 hown hK hP 2 rfl rfl 0 (by decide) (hts (.fieldLink RX5 10 "HotelOfBells" "floors" "Ljava/util/ArrayList;") (List.mem_of_getElem? (i := 2) rfl)) (fun _ h9 => h9) rfl dX5_isRoom_14 ?_
  refine lv_iload_n hx hb dX5_isRoom_17 rfl (lv_at hl 1 rfl) ?_
  have hPc := hP.sub (ws' := [(fq, .inr (4, [.int mc_fq, .ref faq, .int 1])), (faq, .inl (cO, 10, .inr (.inr (.inr (.inr (va_up (fun _ => none) (0 : Int32).toNatClampNeg (some f1q)))))))]) [3, 0] rfl
  have hDc := hD.sub (ws' := [(fq, .inr (4, [.int mc_fq, .ref faq, .int 1])), (faq, .inl (cO, 10, .inr (.inr (.inr (.inr (va_up (fun _ => none) (0 : Int32).toNatClampNeg (some f1q)))))))]) [3, 0] (by decide) rfl
  have hKc := hK.sub (tys' := [(cO, .object "java/lang/Object")]) [0] rfl
  have hFc := va_free (wc := [(fq, .inr (4, [.int mc_fq, .ref faq, .int 1])), (faq, .inl (cO, 10, .inr (.inr (.inr (.inr (va_up (fun _ => none) (0 : Int32).toNatClampNeg (some f1q)))))))]) hD hS hA [3, 0] rfl
  refine va_callr (va_runV (As := [.int 0]) (rest := [.int 0]) ⟨hx, hb, hml, hown, hts⟩ (c_AL_get l hl9 dC dI tE fq faq f1q cO mc_fq _ ) (cwV 1 hts (goodIn_app (goodIn_r _ [27, 28, 29, 8] (by rfl) (by decide +kernel)) gg_c_isRoom_0_c_AL_get) rfl rfl rfl (by decide +kernel) ⟨Nat.le_of_ble_eq_true rfl, Nat.le_of_ble_eq_true rfl⟩) ⟨Pre0.blind, va_recv hKc hPc (ci := 4) (q0 := 0) rfl rfl, Pre0.give hPc hKc hDc hT hS hFc⟩ rfl rfl hl.1 rfl (lv_room (Nat.le_of_ble_eq_true rfl)) dX5_isRoom_18 ⟨Nat.le_of_ble_eq_true rfl, Nat.le_of_ble_eq_true rfl⟩) hS (fun q _ h => hFc q h) hFc (fun u r_4 t H1 locs ht hvm hw hB hz1 hk1 hS => ?_)
  obtain ⟨rfl, hP1, hK1, hD1⟩ := hB
  rw [ht] at hP1
  have hK1 := va_K.moved hvm.symm hK1
  obtain ⟨hP, hD⟩ := va_join (wr := [(f1q, .inr (6, [.int 3, .int 1, .int 10, .int 0])), (h0, .inr (10, [.ref fq, .ref sq, .ref gq, .ref nq, .ref dq, .ref pq, .int pl, .int bl, .int tb]))]) (w1 := [(fq, .inr (4, [.int mc_fq, .ref faq, .int 1])), (faq, .inl (cO, 10, .inr (.inr (.inr (.inr (va_up (fun _ => none) (0 : Int32).toNatClampNeg (some f1q)))))))]) hP hD [3, 0] [1, 2] rfl rfl (by decide) (by decide) hk1 hFc hP1 hD1
  generalize H1 = H at hP hS ⊢
  have hP : va_P (dC, dI) vwCl [(f1q, .inr (6, [.int 3, .int 1, .int 10, .int 0])), (h0, .inr (10, [.ref fq, .ref sq, .ref gq, .ref nq, .ref dq, .ref pq, .int pl, .int bl, .int tb])), (fq, .inr (4, [.int mc_fq, .ref faq, .int 1])), (faq, .inl (cO, 10, .inr (.inr (.inr (.inr (va_up (fun _ => none) (0 : Int32).toNatClampNeg (some f1q)))))))] H := hP
  have hD : va_D A [(f1q, .inr (6, [.int 3, .int 1, .int 10, .int 0])), (h0, .inr (10, [.ref fq, .ref sq, .ref gq, .ref nq, .ref dq, .ref pq, .int pl, .int bl, .int tb])), (fq, .inr (4, [.int mc_fq, .ref faq, .int 1])), (faq, .inl (cO, 10, .inr (.inr (.inr (.inr (va_up (fun _ => none) (0 : Int32).toNatClampNeg (some f1q)))))))] := hD
  refine W.widen (k := 0) (n := 0) (by omega) (by omega) ?_
  refine va_castS hx hb hown (hts (.classLink RX5 58 RX1) (List.mem_of_getElem? (i := 30) rfl)) (hK.1 6 _ rfl).2 (va_recv hK hP (ci := 6) (q0 := 0) rfl rfl) dX5_isRoom_21 ?_
  refine va_get (D := (dC, dI)) (ci := 6) (v := .int 3) (C := RX1) (T := TX1) (N := 4) hx hb hts u_c_isRoom_0_X1 hown hK hP 0 rfl rfl 0 (by decide) (hts (.fieldLink RX5 108 "HotelOfBells$Floor" "rooms" "I") (List.mem_of_getElem? (i := 31) rfl)) (fun _ h9 => h9) rfl dX5_isRoom_24 ?_
  refine lv_icmp_ge (tgt := 34) hx hb dX5_isRoom_27 (by decide) (fun c_5 => absurd c_5 (by decide)) (fun _ => ?_)
  refine lv_iconst (v := 1) hx hb dX5_isRoom_30 (by decide) ?_
  refine lv_goto (tgt := 35) hx hb dX5_isRoom_31 (by decide) ?_
  have hP9 := hP.sub (ws' := [(f1q, .inr (6, [.int 3, .int 1, .int 10, .int 0])), (h0, .inr (10, [.ref fq, .ref sq, .ref gq, .ref nq, .ref dq, .ref pq, .int pl, .int bl, .int tb])), (fq, .inr (4, [.int mc_fq, .ref faq, .int 1])), (faq, .inl (cO, 10, .inr (.inr (.inr (.inr (va_up (fun _ => none) (0 : Int32).toNatClampNeg (some f1q)))))))]) [0, 1, 2, 3] rfl
  have hD9 := hD.sub (ws' := [(f1q, .inr (6, [.int 3, .int 1, .int 10, .int 0])), (h0, .inr (10, [.ref fq, .ref sq, .ref gq, .ref nq, .ref dq, .ref pq, .int pl, .int bl, .int tb])), (fq, .inr (4, [.int mc_fq, .ref faq, .int 1])), (faq, .inl (cO, 10, .inr (.inr (.inr (.inr (va_up (fun _ => none) (0 : Int32).toNatClampNeg (some f1q)))))))]) [0, 1, 2, 3] (by decide) rfl
  have hK9 := hK.sub (tys' := [(cO, .object "java/lang/Object")]) [0] rfl
  exact W.zret (v := 1) hx hb hr (by decide) (fun t ht hW => ⟨⟨1, (), rfl, rfl, by rw [ht]; exact hP9, va_K.moved hW.alike hK9, hD9⟩, hS.F ht⟩) hS.2.2 dX5_isRoom_35
def v_c_isRoom_1 : List Cond := .code yX5_isRoom cX5_isRoom 3 (some .boolean) :: ([Cond.code yX5_isFloor cX5_isFloor 2 (some .boolean), Cond.fieldLink RX5 10 "HotelOfBells" "floors" "Ljava/util/ArrayList;", Cond.code yJx4a65c_size_8abf5 cJx4a65c_size_8abf5 1 (some .int), Cond.fieldLink RJx4a65c 48 "java/util/ArrayList" "size" "I", Cond.methodLink RX5 49 yJx4a65c_size_8abf5, Cond.instanceMethod yJx4a65c_size_8abf5, Cond.selects RJx4a65c yJx4a65c_size_8abf5 yJx4a65c_size_8abf5, Cond.initialized RJx4a65c, Cond.methodLink RX5 67 yX5_isFloor, Cond.instanceMethod yX5_isFloor, Cond.selects RX5 yX5_isFloor yX5_isFloor, Cond.initialized RX5, Cond.code yJx4a65c_get_915e3 cJx4a65c_get_915e3 2 (some (.object "java/lang/Object")), Cond.code yJ15_checkIndex_7cf53 cJ15_checkIndex_7cf53 2 (some .int), Cond.code yJ3_checkIndex_8e157 cJ3_checkIndex_8e157 3 (some .int), Cond.methodLink RJ15 105 yJ3_checkIndex_8e157, Cond.static yJ3_checkIndex_8e157, Cond.initialized RJ3, Cond.methodLink RJx4a65c 118 yJ15_checkIndex_7cf53, Cond.static yJ15_checkIndex_7cf53, Cond.initialized RJ15, Cond.code yJx4a65c_elementData_915e3 cJx4a65c_elementData_915e3 2 (some (.object "java/lang/Object")), Cond.fieldLink RJx4a65c 9 "java/util/ArrayList" "elementData" "[Ljava/lang/Object;", Cond.methodLink RJx4a65c 123 yJx4a65c_elementData_915e3, Cond.instanceMethod yJx4a65c_elementData_915e3, Cond.selects RJx4a65c yJx4a65c_elementData_915e3 yJx4a65c_elementData_915e3, Cond.methodLink RX5 84 yJx4a65c_get_915e3, Cond.instanceMethod yJx4a65c_get_915e3, Cond.selects RJx4a65c yJx4a65c_get_915e3 yJx4a65c_get_915e3, Cond.classLink RX5 58 RX1, Cond.fieldLink RX5 108 "HotelOfBells$Floor" "rooms" "I"] ++ (wsX50 ++ (wsJx4a65c0 ++ (wsX10 ++ []))))
theorem u_c_isRoom_1_X5 : ∀ w ∈ wsX50, w ∈ v_c_isRoom_1 := fun _ h => List.mem_cons_of_mem _ (List.mem_append_right _ (List.mem_append_left _ h))
theorem u_c_isRoom_1_Jx4a65c : ∀ w ∈ wsJx4a65c0, w ∈ v_c_isRoom_1 := fun _ h => List.mem_cons_of_mem _ (List.mem_append_right _ (List.mem_append_right _ (List.mem_append_left _ h)))
theorem u_c_isRoom_1_X1 : ∀ w ∈ wsX10, w ∈ v_c_isRoom_1 := fun _ h => List.mem_cons_of_mem _ (List.mem_append_right _ (List.mem_append_right _ (List.mem_append_right _ (List.mem_append_left _ h))))
theorem gg_c_isRoom_1_c_isFloor : GoodIn v_c_isRoom_1 v_c_isFloor := goodIn_r _ [1, 2, 3, 4, 5, 6, 7, 8, 32, 33, 34, 35, 36, 37, 38, 39, 40, 41, 42, 43] (by rfl) (by decide +kernel)
theorem gg_c_isRoom_1_c_AL_get : GoodIn v_c_isRoom_1 v_c_AL_get := goodIn_r _ [13, 4, 14, 15, 16, 17, 18, 19, 20, 21, 22, 23, 24, 25, 26, 8, 41, 42, 43] (by rfl) (by decide +kernel)
set_option maxHeartbeats 4000000 in
set_option maxRecDepth 100000 in
theorem c_isRoom_1 (l : Launch) (hl9 : l.stackTraces = false) (dC : Nat → ClassId) (dI : Nat → Nat → Nat) (tE : Nat) (h0 : Nat) (fq : Nat) (sq : Nat) (gq : Nat) (nq : Nat) (dq : Nat) (pq : Nat) (pl : Int32) (bl : Int32) (tb : Int32) (faq : Nat) (f1q : Nat) (mc_fq : Int32) (cO : ClassId) (sz : Nat) : Met l yX5_isRoom v_c_isRoom_1 ({ frames := 3, cells := 0, slots := 0, locals := 64 }) (va_Pc [.ref h0, .int 0, .int 1] (Pre0 dC dI tE sz [(cO, .object "java/lang/Object")] [(h0, .inr (10, [.ref fq, .ref sq, .ref gq, .ref nq, .ref dq, .ref pq, .int pl, .int bl, .int tb])), (fq, .inr (4, [.int mc_fq, .ref faq, .int 1])), (faq, .inl (cO, 10, .inr (.inr (.inr (.inr (va_up (fun _ => none) (0 : Int32).toNatClampNeg (some f1q))))))), (f1q, .inr (6, [.int 3, .int 1, .int 10, .int 0]))])) (va_Qi (fun (r : Int32) (_ : Unit) => r = 1) (fun _ t => Pst dC dI [(cO, .object "java/lang/Object")] (va_A [(h0, .inr (10, [.ref fq, .ref sq, .ref gq, .ref nq, .ref dq, .ref pq, .int pl, .int bl, .int tb])), (fq, .inr (4, [.int mc_fq, .ref faq, .int 1])), (faq, .inl (cO, 10, .inr (.inr (.inr (.inr (va_up (fun _ => none) (0 : Int32).toNatClampNeg (some f1q))))))), (f1q, .inr (6, [.int 3, .int 1, .int 10, .int 0]))] sz) [(f1q, .inr (6, [.int 3, .int 1, .int 10, .int 0])), (h0, .inr (10, [.ref fq, .ref sq, .ref gq, .ref nq, .ref dq, .ref pq, .int pl, .int bl, .int tb])), (fq, .inr (4, [.int mc_fq, .ref faq, .int 1])), (faq, .inl (cO, 10, .inr (.inr (.inr (.inr (va_up (fun _ => none) (0 : Int32).toNatClampNeg (some f1q)))))))] t) (va_A [(h0, .inr (10, [.ref fq, .ref sq, .ref gq, .ref nq, .ref dq, .ref pq, .int pl, .int bl, .int tb])), (fq, .inr (4, [.int mc_fq, .ref faq, .int 1])), (faq, .inl (cO, 10, .inr (.inr (.inr (.inr (va_up (fun _ => none) (0 : Int32).toNatClampNeg (some f1q))))))), (f1q, .inr (6, [.int 3, .int 1, .int 10, .int 0]))] sz)) 0 0 (va_A [(h0, .inr (10, [.ref fq, .ref sq, .ref gq, .ref nq, .ref dq, .ref pq, .int pl, .int bl, .int tb])), (fq, .inr (4, [.int mc_fq, .ref faq, .int 1])), (faq, .inl (cO, 10, .inr (.inr (.inr (.inr (va_up (fun _ => none) (0 : Int32).toNatClampNeg (some f1q))))))), (f1q, .inr (6, [.int 3, .int 1, .int 10, .int 0]))] sz) := by
  refine Met.ofW (cc := cX5_isRoom) (maxL := 3) (ret := (some .boolean)) (by decide) rfl ?_
  intro p e s m args below meth c s₁ B hml hv
  obtain ⟨rfl, hsz, hP, hK, hD0, hT⟩ := hv
  have hx := B.exec
  have hb := B.bytes
  have hr := B.returns
  have hts := atoms_spec (ws := v_c_isRoom_1) B.pre
  have hown : s.vm.findClass RX5 = some m.cls := findClass_of_methodNamed B.named
  have hlocks := B.notSynchronized
  subst hsz
  have hD := hD0.self (sz := s.heap.size)
  generalize hAe : va_A [(h0, .inr (10, [.ref fq, .ref sq, .ref gq, .ref nq, .ref dq, .ref pq, .int pl, .int bl, .int tb])), (fq, .inr (4, [.int mc_fq, .ref faq, .int 1])), (faq, .inl (cO, 10, .inr (.inr (.inr (.inr (va_up (fun _ => none) (0 : Int32).toNatClampNeg (some f1q))))))), (f1q, .inr (6, [.int 3, .int 1, .int 10, .int 0]))] s.heap.size = A at hD hT ⊢
  have hA : ∀ q : Nat, s.heap.size ≤ q → A q := fun q h => by rw [← hAe]; exact Or.inr h
  have hS : va_S A s.heap s.heap [] := va_S.rf
  have hl := lv_entry ([.ref h0, .int 0, .int 1]) (n := 3) (Nat.le_of_ble_eq_true rfl)
  rw [lg_entry_eq]
  generalize (lg_sl ([.ref h0, .int 0, .int 1]) ++ List.replicate (3 - (lg_sl ([.ref h0, .int 0, .int 1])).length) Slot.unset).toArray = ls at hl ⊢
  have hl : lv_has ls 3 [(0, .ref h0), (1, .int 0), (2, .int 1)] := hl
  refine lv_aload_n hx hb dX5_isRoom_0 rfl (lv_at hl 0 rfl) ?_
  refine lv_iload_n hx hb dX5_isRoom_1 rfl (lv_at hl 1 rfl) ?_
  have hPc := hP.sub (ws' := [(h0, .inr (10, [.ref fq, .ref sq, .ref gq, .ref nq, .ref dq, .ref pq, .int pl, .int bl, .int tb])), (fq, .inr (4, [.int mc_fq, .ref faq, .int 1]))]) [0, 1] rfl
  have hDc := hD.sub (ws' := [(h0, .inr (10, [.ref fq, .ref sq, .ref gq, .ref nq, .ref dq, .ref pq, .int pl, .int bl, .int tb])), (fq, .inr (4, [.int mc_fq, .ref faq, .int 1]))]) [0, 1] (by decide) rfl
  have hKc := hK.sub (tys' := []) [] rfl
  have hFc := va_free (wc := [(h0, .inr (10, [.ref fq, .ref sq, .ref gq, .ref nq, .ref dq, .ref pq, .int pl, .int bl, .int tb])), (fq, .inr (4, [.int mc_fq, .ref faq, .int 1]))]) hD hS hA [0, 1] rfl
  refine va_calli (va_runV (As := [.int 0]) (rest := []) ⟨hx, hb, hml, hown, hts⟩ (c_isFloor l hl9 dC dI tE h0 fq sq gq nq dq pq pl bl tb faq mc_fq _ ) (cwV 1 hts (goodIn_app (goodIn_r _ [9, 10, 11, 12] (by rfl) (by decide +kernel)) gg_c_isRoom_1_c_isFloor) rfl rfl rfl (by decide +kernel) ⟨Nat.le_of_ble_eq_true rfl, Nat.le_of_ble_eq_true rfl⟩) ⟨Pre0.blind, va_recv hKc hPc (ci := 10) (q0 := 0) rfl rfl, Pre0.give hPc hKc hDc hT hS hFc⟩ rfl rfl hl.1 rfl (lv_room (Nat.le_of_ble_eq_true rfl)) dX5_isRoom_2 ⟨Nat.le_of_ble_eq_true rfl, Nat.le_of_ble_eq_true rfl⟩) hS (fun q _ h => hFc q h) hFc (fun r_1 u t H1 locs ht hvm hw hB hz1 hk1 hS => ?_)
  obtain ⟨hP1, hK1, hD1⟩ := hB
  rw [ht] at hP1
  have hK1 := va_K.moved hvm.symm hK1
  obtain ⟨hP, hD⟩ := va_join (wr := [(faq, .inl (cO, 10, .inr (.inr (.inr (.inr (va_up (fun _ => none) (0 : Int32).toNatClampNeg (some f1q))))))), (f1q, .inr (6, [.int 3, .int 1, .int 10, .int 0]))]) (w1 := [(h0, .inr (10, [.ref fq, .ref sq, .ref gq, .ref nq, .ref dq, .ref pq, .int pl, .int bl, .int tb])), (fq, .inr (4, [.int mc_fq, .ref faq, .int 1]))]) hP hD [0, 1] [2, 3] rfl rfl (by decide) (by decide) hk1 hFc hP1 hD1
  generalize H1 = H at hP hS ⊢
  have hP : va_P (dC, dI) vwCl [(faq, .inl (cO, 10, .inr (.inr (.inr (.inr (va_up (fun _ => none) (0 : Int32).toNatClampNeg (some f1q))))))), (f1q, .inr (6, [.int 3, .int 1, .int 10, .int 0])), (h0, .inr (10, [.ref fq, .ref sq, .ref gq, .ref nq, .ref dq, .ref pq, .int pl, .int bl, .int tb])), (fq, .inr (4, [.int mc_fq, .ref faq, .int 1]))] H := hP
  have hD : va_D A [(faq, .inl (cO, 10, .inr (.inr (.inr (.inr (va_up (fun _ => none) (0 : Int32).toNatClampNeg (some f1q))))))), (f1q, .inr (6, [.int 3, .int 1, .int 10, .int 0])), (h0, .inr (10, [.ref fq, .ref sq, .ref gq, .ref nq, .ref dq, .ref pq, .int pl, .int bl, .int tb])), (fq, .inr (4, [.int mc_fq, .ref faq, .int 1]))] := hD
  refine W.widen (k := 0) (n := 0) (by omega) (by omega) ?_
  obtain rfl : r_1 = 1 := hw
  refine lv_if_eq (tgt := 34) hx hb dX5_isRoom_5 (by decide) (fun c_2 => absurd c_2 (by decide)) (fun _ => ?_)
  refine lv_iload_n hx hb dX5_isRoom_8 rfl (lv_at hl 2 rfl) ?_
  refine lv_if_lt (tgt := 34) hx hb dX5_isRoom_9 (by decide) (fun c_3 => absurd c_3 (by decide)) (fun _ => ?_)
  refine lv_iload_n hx hb dX5_isRoom_12 rfl (lv_at hl 2 rfl) ?_
  refine lv_aload_n hx hb dX5_isRoom_13 rfl (lv_at hl 0 rfl) ?_
  refine va_get (D := (dC, dI)) (ci := 10) (v := .ref fq) (C := RX5) (T := TX5) (N := 9) hx hb hts u_c_isRoom_1_X5 hown hK hP 2 rfl rfl 0 (by decide) (hts (.fieldLink RX5 10 "HotelOfBells" "floors" "Ljava/util/ArrayList;") (List.mem_of_getElem? (i := 2) rfl)) (fun _ h9 => h9) rfl dX5_isRoom_14 ?_
  refine lv_iload_n hx hb dX5_isRoom_17 rfl (lv_at hl 1 rfl) ?_
  have hPc := hP.sub (ws' := [(fq, .inr (4, [.int mc_fq, .ref faq, .int 1])), (faq, .inl (cO, 10, .inr (.inr (.inr (.inr (va_up (fun _ => none) (0 : Int32).toNatClampNeg (some f1q)))))))]) [3, 0] rfl
  have hDc := hD.sub (ws' := [(fq, .inr (4, [.int mc_fq, .ref faq, .int 1])), (faq, .inl (cO, 10, .inr (.inr (.inr (.inr (va_up (fun _ => none) (0 : Int32).toNatClampNeg (some f1q)))))))]) [3, 0] (by decide) rfl
  have hKc := hK.sub (tys' := [(cO, .object "java/lang/Object")]) [0] rfl
  have hFc := va_free (wc := [(fq, .inr (4, [.int mc_fq, .ref faq, .int 1])), (faq, .inl (cO, 10, .inr (.inr (.inr (.inr (va_up (fun _ => none) (0 : Int32).toNatClampNeg (some f1q)))))))]) hD hS hA [3, 0] rfl
  refine va_callr (va_runV (As := [.int 0]) (rest := [.int 1]) ⟨hx, hb, hml, hown, hts⟩ (c_AL_get l hl9 dC dI tE fq faq f1q cO mc_fq _ ) (cwV 1 hts (goodIn_app (goodIn_r _ [27, 28, 29, 8] (by rfl) (by decide +kernel)) gg_c_isRoom_1_c_AL_get) rfl rfl rfl (by decide +kernel) ⟨Nat.le_of_ble_eq_true rfl, Nat.le_of_ble_eq_true rfl⟩) ⟨Pre0.blind, va_recv hKc hPc (ci := 4) (q0 := 0) rfl rfl, Pre0.give hPc hKc hDc hT hS hFc⟩ rfl rfl hl.1 rfl (lv_room (Nat.le_of_ble_eq_true rfl)) dX5_isRoom_18 ⟨Nat.le_of_ble_eq_true rfl, Nat.le_of_ble_eq_true rfl⟩) hS (fun q _ h => hFc q h) hFc (fun u r_4 t H1 locs ht hvm hw hB hz1 hk1 hS => ?_)
  obtain ⟨rfl, hP1, hK1, hD1⟩ := hB
  rw [ht] at hP1
  have hK1 := va_K.moved hvm.symm hK1
  obtain ⟨hP, hD⟩ := va_join (wr := [(f1q, .inr (6, [.int 3, .int 1, .int 10, .int 0])), (h0, .inr (10, [.ref fq, .ref sq, .ref gq, .ref nq, .ref dq, .ref pq, .int pl, .int bl, .int tb]))]) (w1 := [(fq, .inr (4, [.int mc_fq, .ref faq, .int 1])), (faq, .inl (cO, 10, .inr (.inr (.inr (.inr (va_up (fun _ => none) (0 : Int32).toNatClampNeg (some f1q)))))))]) hP hD [3, 0] [1, 2] rfl rfl (by decide) (by decide) hk1 hFc hP1 hD1
  generalize H1 = H at hP hS ⊢
  have hP : va_P (dC, dI) vwCl [(f1q, .inr (6, [.int 3, .int 1, .int 10, .int 0])), (h0, .inr (10, [.ref fq, .ref sq, .ref gq, .ref nq, .ref dq, .ref pq, .int pl, .int bl, .int tb])), (fq, .inr (4, [.int mc_fq, .ref faq, .int 1])), (faq, .inl (cO, 10, .inr (.inr (.inr (.inr (va_up (fun _ => none) (0 : Int32).toNatClampNeg (some f1q)))))))] H := hP
  have hD : va_D A [(f1q, .inr (6, [.int 3, .int 1, .int 10, .int 0])), (h0, .inr (10, [.ref fq, .ref sq, .ref gq, .ref nq, .ref dq, .ref pq, .int pl, .int bl, .int tb])), (fq, .inr (4, [.int mc_fq, .ref faq, .int 1])), (faq, .inl (cO, 10, .inr (.inr (.inr (.inr (va_up (fun _ => none) (0 : Int32).toNatClampNeg (some f1q)))))))] := hD
  refine W.widen (k := 0) (n := 0) (by omega) (by omega) ?_
  refine va_castS hx hb hown (hts (.classLink RX5 58 RX1) (List.mem_of_getElem? (i := 30) rfl)) (hK.1 6 _ rfl).2 (va_recv hK hP (ci := 6) (q0 := 0) rfl rfl) dX5_isRoom_21 ?_
  refine va_get (D := (dC, dI)) (ci := 6) (v := .int 3) (C := RX1) (T := TX1) (N := 4) hx hb hts u_c_isRoom_1_X1 hown hK hP 0 rfl rfl 0 (by decide) (hts (.fieldLink RX5 108 "HotelOfBells$Floor" "rooms" "I") (List.mem_of_getElem? (i := 31) rfl)) (fun _ h9 => h9) rfl dX5_isRoom_24 ?_
  refine lv_icmp_ge (tgt := 34) hx hb dX5_isRoom_27 (by decide) (fun c_5 => absurd c_5 (by decide)) (fun _ => ?_)
  refine lv_iconst (v := 1) hx hb dX5_isRoom_30 (by decide) ?_
  refine lv_goto (tgt := 35) hx hb dX5_isRoom_31 (by decide) ?_
  have hP9 := hP.sub (ws' := [(f1q, .inr (6, [.int 3, .int 1, .int 10, .int 0])), (h0, .inr (10, [.ref fq, .ref sq, .ref gq, .ref nq, .ref dq, .ref pq, .int pl, .int bl, .int tb])), (fq, .inr (4, [.int mc_fq, .ref faq, .int 1])), (faq, .inl (cO, 10, .inr (.inr (.inr (.inr (va_up (fun _ => none) (0 : Int32).toNatClampNeg (some f1q)))))))]) [0, 1, 2, 3] rfl
  have hD9 := hD.sub (ws' := [(f1q, .inr (6, [.int 3, .int 1, .int 10, .int 0])), (h0, .inr (10, [.ref fq, .ref sq, .ref gq, .ref nq, .ref dq, .ref pq, .int pl, .int bl, .int tb])), (fq, .inr (4, [.int mc_fq, .ref faq, .int 1])), (faq, .inl (cO, 10, .inr (.inr (.inr (.inr (va_up (fun _ => none) (0 : Int32).toNatClampNeg (some f1q)))))))]) [0, 1, 2, 3] (by decide) rfl
  have hK9 := hK.sub (tys' := [(cO, .object "java/lang/Object")]) [0] rfl
  exact W.zret (v := 1) hx hb hr (by decide) (fun t ht hW => ⟨⟨1, (), rfl, rfl, by rw [ht]; exact hP9, va_K.moved hW.alike hK9, hD9⟩, hS.F ht⟩) hS.2.2 dX5_isRoom_35
def v_c_placeOf : List Cond := .code yX5_placeOf cX5_placeOf 4 (some .int) :: ([Cond.code yX5_isFloor cX5_isFloor 2 (some .boolean), Cond.fieldLink RX5 10 "HotelOfBells" "floors" "Ljava/util/ArrayList;", Cond.code yJx4a65c_size_8abf5 cJx4a65c_size_8abf5 1 (some .int), Cond.fieldLink RJx4a65c 48 "java/util/ArrayList" "size" "I", Cond.methodLink RX5 49 yJx4a65c_size_8abf5, Cond.instanceMethod yJx4a65c_size_8abf5, Cond.selects RJx4a65c yJx4a65c_size_8abf5 yJx4a65c_size_8abf5, Cond.initialized RJx4a65c, Cond.methodLink RX5 67 yX5_isFloor, Cond.instanceMethod yX5_isFloor, Cond.selects RX5 yX5_isFloor yX5_isFloor, Cond.initialized RX5, Cond.code yX3_turnOf cX3_turnOf 2 (some .int), Cond.fieldLink RX3 9 "HotelOfBells$Moment" "turns" "[I", Cond.methodLink RX5 150 yX3_turnOf, Cond.instanceMethod yX3_turnOf, Cond.selects RX3 yX3_turnOf yX3_turnOf, Cond.initialized RX3, Cond.code yJx4a65c_get_915e3 cJx4a65c_get_915e3 2 (some (.object "java/lang/Object")), Cond.code yJ15_checkIndex_7cf53 cJ15_checkIndex_7cf53 2 (some .int), Cond.code yJ3_checkIndex_8e157 cJ3_checkIndex_8e157 3 (some .int), Cond.methodLink RJ15 105 yJ3_checkIndex_8e157, Cond.static yJ3_checkIndex_8e157, Cond.initialized RJ3, Cond.methodLink RJx4a65c 118 yJ15_checkIndex_7cf53, Cond.static yJ15_checkIndex_7cf53, Cond.initialized RJ15, Cond.code yJx4a65c_elementData_915e3 cJx4a65c_elementData_915e3 2 (some (.object "java/lang/Object")), Cond.fieldLink RJx4a65c 9 "java/util/ArrayList" "elementData" "[Ljava/lang/Object;", Cond.methodLink RJx4a65c 123 yJx4a65c_elementData_915e3, Cond.instanceMethod yJx4a65c_elementData_915e3, Cond.selects RJx4a65c yJx4a65c_elementData_915e3 yJx4a65c_elementData_915e3, Cond.methodLink RX5 84 yJx4a65c_get_915e3, Cond.instanceMethod yJx4a65c_get_915e3, Cond.selects RJx4a65c yJx4a65c_get_915e3 yJx4a65c_get_915e3, Cond.classLink RX5 58 RX1, Cond.fieldLink RX5 108 "HotelOfBells$Floor" "rooms" "I", Cond.code yX5_remainder cX5_remainder 2 (some .int), Cond.methodLink RX5 306 yX5_remainder, Cond.static yX5_remainder] ++ (wsX50 ++ (wsJx4a65c0 ++ (wsX30 ++ (wsX10 ++ [])))))
theorem u_c_placeOf_X5 : ∀ w ∈ wsX50, w ∈ v_c_placeOf := fun _ h => List.mem_cons_of_mem _ (List.mem_append_right _ (List.mem_append_left _ h))
theorem u_c_placeOf_Jx4a65c : ∀ w ∈ wsJx4a65c0, w ∈ v_c_placeOf := fun _ h => List.mem_cons_of_mem _ (List.mem_append_right _ (List.mem_append_right _ (List.mem_append_left _ h)))
theorem u_c_placeOf_X3 : ∀ w ∈ wsX30, w ∈ v_c_placeOf := fun _ h => List.mem_cons_of_mem _ (List.mem_append_right _ (List.mem_append_right _ (List.mem_append_right _ (List.mem_append_left _ h))))
theorem u_c_placeOf_X1 : ∀ w ∈ wsX10, w ∈ v_c_placeOf := fun _ h => List.mem_cons_of_mem _ (List.mem_append_right _ (List.mem_append_right _ (List.mem_append_right _ (List.mem_append_right _ (List.mem_append_left _ h)))))
theorem gg_c_placeOf_c_isFloor : GoodIn v_c_placeOf v_c_isFloor := goodIn_r _ [1, 2, 3, 4, 5, 6, 7, 8, 41, 42, 43, 44, 45, 46, 47, 48, 49, 50, 51, 52] (by rfl) (by decide +kernel)
theorem gg_c_placeOf_c_turnOf_0 : GoodIn v_c_placeOf v_c_turnOf_0 := goodIn_r _ [13, 14, 53, 54, 55, 56] (by rfl) (by decide +kernel)
theorem gg_c_placeOf_c_AL_get : GoodIn v_c_placeOf v_c_AL_get := goodIn_r _ [19, 4, 20, 21, 22, 23, 24, 25, 26, 27, 28, 29, 30, 31, 32, 8, 50, 51, 52] (by rfl) (by decide +kernel)
theorem gg_c_placeOf_c_remainder_0 : GoodIn v_c_placeOf v_c_remainder_0 := goodIn_r _ [38] (by rfl) (by decide +kernel)
set_option maxHeartbeats 4000000 in
set_option maxRecDepth 100000 in
theorem c_placeOf (l : Launch) (hl9 : l.stackTraces = false) (dC : Nat → ClassId) (dI : Nat → Nat → Nat) (tE : Nat) (h0 : Nat) (fq : Nat) (sq : Nat) (gq : Nat) (nq : Nat) (dq : Nat) (pq : Nat) (pl : Int32) (bl : Int32) (tb : Int32) (faq : Nat) (f1q : Nat) (mc_fq : Int32) (cO : ClassId) (m0 : Nat) (t0 : Nat) (z0 : Nat) (w0 : Nat) (hd0 : Int32) (ci : ClassId) (sz : Nat) : Met l yX5_placeOf v_c_placeOf ({ frames := 3, cells := 0, slots := 0, locals := 64 }) (va_Pc [.ref h0, .int 0, .int 0, .ref m0] (Pre0 dC dI tE sz [(cO, .object "java/lang/Object"), (ci, .int)] [(h0, .inr (10, [.ref fq, .ref sq, .ref gq, .ref nq, .ref dq, .ref pq, .int pl, .int bl, .int tb])), (fq, .inr (4, [.int mc_fq, .ref faq, .int 1])), (faq, .inl (cO, 10, .inr (.inr (.inr (.inr (va_up (fun _ => none) (0 : Int32).toNatClampNeg (some f1q))))))), (f1q, .inr (6, [.int 3, .int 1, .int 10, .int 0])), (m0, .inr (8, [.int hd0, .ref t0, .ref z0, .ref w0])), (t0, .inl (ci, 6, .inl (fun _ => 0)))])) (va_Qi (fun (r : Int32) (_ : Unit) => r = 0) (fun _ t => Pst dC dI [(cO, .object "java/lang/Object"), (ci, .int)] (va_A [(h0, .inr (10, [.ref fq, .ref sq, .ref gq, .ref nq, .ref dq, .ref pq, .int pl, .int bl, .int tb])), (fq, .inr (4, [.int mc_fq, .ref faq, .int 1])), (faq, .inl (cO, 10, .inr (.inr (.inr (.inr (va_up (fun _ => none) (0 : Int32).toNatClampNeg (some f1q))))))), (f1q, .inr (6, [.int 3, .int 1, .int 10, .int 0])), (m0, .inr (8, [.int hd0, .ref t0, .ref z0, .ref w0])), (t0, .inl (ci, 6, .inl (fun _ => 0)))] sz) [(f1q, .inr (6, [.int 3, .int 1, .int 10, .int 0])), (h0, .inr (10, [.ref fq, .ref sq, .ref gq, .ref nq, .ref dq, .ref pq, .int pl, .int bl, .int tb])), (m0, .inr (8, [.int hd0, .ref t0, .ref z0, .ref w0])), (t0, .inl (ci, 6, .inl (fun _ => 0))), (fq, .inr (4, [.int mc_fq, .ref faq, .int 1])), (faq, .inl (cO, 10, .inr (.inr (.inr (.inr (va_up (fun _ => none) (0 : Int32).toNatClampNeg (some f1q)))))))] t) (va_A [(h0, .inr (10, [.ref fq, .ref sq, .ref gq, .ref nq, .ref dq, .ref pq, .int pl, .int bl, .int tb])), (fq, .inr (4, [.int mc_fq, .ref faq, .int 1])), (faq, .inl (cO, 10, .inr (.inr (.inr (.inr (va_up (fun _ => none) (0 : Int32).toNatClampNeg (some f1q))))))), (f1q, .inr (6, [.int 3, .int 1, .int 10, .int 0])), (m0, .inr (8, [.int hd0, .ref t0, .ref z0, .ref w0])), (t0, .inl (ci, 6, .inl (fun _ => 0)))] sz)) 0 0 (va_A [(h0, .inr (10, [.ref fq, .ref sq, .ref gq, .ref nq, .ref dq, .ref pq, .int pl, .int bl, .int tb])), (fq, .inr (4, [.int mc_fq, .ref faq, .int 1])), (faq, .inl (cO, 10, .inr (.inr (.inr (.inr (va_up (fun _ => none) (0 : Int32).toNatClampNeg (some f1q))))))), (f1q, .inr (6, [.int 3, .int 1, .int 10, .int 0])), (m0, .inr (8, [.int hd0, .ref t0, .ref z0, .ref w0])), (t0, .inl (ci, 6, .inl (fun _ => 0)))] sz) := by
  refine Met.ofW (cc := cX5_placeOf) (maxL := 4) (ret := (some .int)) (by decide) rfl ?_
  intro p e s m args below meth c s₁ B hml hv
  obtain ⟨rfl, hsz, hP, hK, hD0, hT⟩ := hv
  have hx := B.exec
  have hb := B.bytes
  have hr := B.returns
  have hts := atoms_spec (ws := v_c_placeOf) B.pre
  have hown : s.vm.findClass RX5 = some m.cls := findClass_of_methodNamed B.named
  have hlocks := B.notSynchronized
  subst hsz
  have hD := hD0.self (sz := s.heap.size)
  generalize hAe : va_A [(h0, .inr (10, [.ref fq, .ref sq, .ref gq, .ref nq, .ref dq, .ref pq, .int pl, .int bl, .int tb])), (fq, .inr (4, [.int mc_fq, .ref faq, .int 1])), (faq, .inl (cO, 10, .inr (.inr (.inr (.inr (va_up (fun _ => none) (0 : Int32).toNatClampNeg (some f1q))))))), (f1q, .inr (6, [.int 3, .int 1, .int 10, .int 0])), (m0, .inr (8, [.int hd0, .ref t0, .ref z0, .ref w0])), (t0, .inl (ci, 6, .inl (fun _ => 0)))] s.heap.size = A at hD hT ⊢
  have hA : ∀ q : Nat, s.heap.size ≤ q → A q := fun q h => by rw [← hAe]; exact Or.inr h
  have hS : va_S A s.heap s.heap [] := va_S.rf
  have hl := lv_entry ([.ref h0, .int 0, .int 0, .ref m0]) (n := 4) (Nat.le_of_ble_eq_true rfl)
  rw [lg_entry_eq]
  generalize (lg_sl ([.ref h0, .int 0, .int 0, .ref m0]) ++ List.replicate (4 - (lg_sl ([.ref h0, .int 0, .int 0, .ref m0])).length) Slot.unset).toArray = ls at hl ⊢
  have hl : lv_has ls 4 [(0, .ref h0), (1, .int 0), (2, .int 0), (3, .ref m0)] := hl
  refine lv_aload_n hx hb dX5_placeOf_0 rfl (lv_at hl 0 rfl) ?_
  refine lv_iload_n hx hb dX5_placeOf_1 rfl (lv_at hl 1 rfl) ?_
  have hPc := hP.sub (ws' := [(h0, .inr (10, [.ref fq, .ref sq, .ref gq, .ref nq, .ref dq, .ref pq, .int pl, .int bl, .int tb])), (fq, .inr (4, [.int mc_fq, .ref faq, .int 1]))]) [0, 1] rfl
  have hDc := hD.sub (ws' := [(h0, .inr (10, [.ref fq, .ref sq, .ref gq, .ref nq, .ref dq, .ref pq, .int pl, .int bl, .int tb])), (fq, .inr (4, [.int mc_fq, .ref faq, .int 1]))]) [0, 1] (by decide) rfl
  have hKc := hK.sub (tys' := []) [] rfl
  have hFc := va_free (wc := [(h0, .inr (10, [.ref fq, .ref sq, .ref gq, .ref nq, .ref dq, .ref pq, .int pl, .int bl, .int tb])), (fq, .inr (4, [.int mc_fq, .ref faq, .int 1]))]) hD hS hA [0, 1] rfl
  refine va_calli (va_runV (As := [.int 0]) (rest := []) ⟨hx, hb, hml, hown, hts⟩ (c_isFloor l hl9 dC dI tE h0 fq sq gq nq dq pq pl bl tb faq mc_fq _ ) (cwV 1 hts (goodIn_app (goodIn_r _ [9, 10, 11, 12] (by rfl) (by decide +kernel)) gg_c_placeOf_c_isFloor) rfl rfl rfl (by decide +kernel) ⟨Nat.le_of_ble_eq_true rfl, Nat.le_of_ble_eq_true rfl⟩) ⟨Pre0.blind, va_recv hKc hPc (ci := 10) (q0 := 0) rfl rfl, Pre0.give hPc hKc hDc hT hS hFc⟩ rfl rfl hl.1 rfl (lv_room (Nat.le_of_ble_eq_true rfl)) dX5_placeOf_2 ⟨Nat.le_of_ble_eq_true rfl, Nat.le_of_ble_eq_true rfl⟩) hS (fun q _ h => hFc q h) hFc (fun r_1 u t H1 locs ht hvm hw hB hz1 hk1 hS => ?_)
  obtain ⟨hP1, hK1, hD1⟩ := hB
  rw [ht] at hP1
  have hK1 := va_K.moved hvm.symm hK1
  obtain ⟨hP, hD⟩ := va_join (wr := [(faq, .inl (cO, 10, .inr (.inr (.inr (.inr (va_up (fun _ => none) (0 : Int32).toNatClampNeg (some f1q))))))), (f1q, .inr (6, [.int 3, .int 1, .int 10, .int 0])), (m0, .inr (8, [.int hd0, .ref t0, .ref z0, .ref w0])), (t0, .inl (ci, 6, .inl (fun _ => 0)))]) (w1 := [(h0, .inr (10, [.ref fq, .ref sq, .ref gq, .ref nq, .ref dq, .ref pq, .int pl, .int bl, .int tb])), (fq, .inr (4, [.int mc_fq, .ref faq, .int 1]))]) hP hD [0, 1] [2, 3, 4, 5] rfl rfl (by decide) (by decide) hk1 hFc hP1 hD1
  generalize H1 = H at hP hS ⊢
  have hP : va_P (dC, dI) vwCl [(faq, .inl (cO, 10, .inr (.inr (.inr (.inr (va_up (fun _ => none) (0 : Int32).toNatClampNeg (some f1q))))))), (f1q, .inr (6, [.int 3, .int 1, .int 10, .int 0])), (m0, .inr (8, [.int hd0, .ref t0, .ref z0, .ref w0])), (t0, .inl (ci, 6, .inl (fun _ => 0))), (h0, .inr (10, [.ref fq, .ref sq, .ref gq, .ref nq, .ref dq, .ref pq, .int pl, .int bl, .int tb])), (fq, .inr (4, [.int mc_fq, .ref faq, .int 1]))] H := hP
  have hD : va_D A [(faq, .inl (cO, 10, .inr (.inr (.inr (.inr (va_up (fun _ => none) (0 : Int32).toNatClampNeg (some f1q))))))), (f1q, .inr (6, [.int 3, .int 1, .int 10, .int 0])), (m0, .inr (8, [.int hd0, .ref t0, .ref z0, .ref w0])), (t0, .inl (ci, 6, .inl (fun _ => 0))), (h0, .inr (10, [.ref fq, .ref sq, .ref gq, .ref nq, .ref dq, .ref pq, .int pl, .int bl, .int tb])), (fq, .inr (4, [.int mc_fq, .ref faq, .int 1]))] := hD
  refine W.widen (k := 0) (n := 0) (by omega) (by omega) ?_
  obtain rfl : r_1 = 1 := hw
  refine lv_if_ne (tgt := 10) hx hb dX5_placeOf_5 (by decide) (fun _ => ?_) (fun c_2 => absurd c_2 (by decide))
  refine lv_iload_n hx hb dX5_placeOf_10 rfl (lv_at hl 2 rfl) ?_
  refine lv_aload_n hx hb dX5_placeOf_11 rfl (lv_at hl 3 rfl) ?_
  refine lv_iload_n hx hb dX5_placeOf_12 rfl (lv_at hl 1 rfl) ?_
  have hPc := hP.sub (ws' := [(m0, .inr (8, [.int hd0, .ref t0, .ref z0, .ref w0])), (t0, .inl (ci, 6, .inl (fun _ => 0)))]) [2, 3] rfl
  have hDc := hD.sub (ws' := [(m0, .inr (8, [.int hd0, .ref t0, .ref z0, .ref w0])), (t0, .inl (ci, 6, .inl (fun _ => 0)))]) [2, 3] (by decide) rfl
  have hKc := hK.sub (tys' := [(ci, .int)]) [1] rfl
  have hFc := va_free (wc := [(m0, .inr (8, [.int hd0, .ref t0, .ref z0, .ref w0])), (t0, .inl (ci, 6, .inl (fun _ => 0)))]) hD hS hA [2, 3] rfl
  refine va_calli (va_runV (As := [.int 0]) (rest := [.int 0]) ⟨hx, hb, hml, hown, hts⟩ (c_turnOf_0 l hl9 dC dI tE m0 t0 z0 w0 hd0 ci _ ) (cwV 1 hts (goodIn_app (goodIn_r _ [15, 16, 17, 18] (by rfl) (by decide +kernel)) gg_c_placeOf_c_turnOf_0) rfl rfl rfl (by decide +kernel) ⟨Nat.le_of_ble_eq_true rfl, Nat.le_of_ble_eq_true rfl⟩) ⟨Pre0.blind, va_recv hKc hPc (ci := 8) (q0 := 0) rfl rfl, Pre0.give hPc hKc hDc hT hS hFc⟩ rfl rfl hl.1 rfl (lv_room (Nat.le_of_ble_eq_true rfl)) dX5_placeOf_13 ⟨Nat.le_of_ble_eq_true rfl, Nat.le_of_ble_eq_true rfl⟩) hS (fun q _ h => hFc q h) hFc (fun r_3 u t H1 locs ht hvm hw hB hz1 hk1 hS => ?_)
  obtain ⟨hP1, hK1, hD1⟩ := hB
  rw [ht] at hP1
  have hK1 := va_K.moved hvm.symm hK1
  obtain ⟨hP, hD⟩ := va_join (wr := [(faq, .inl (cO, 10, .inr (.inr (.inr (.inr (va_up (fun _ => none) (0 : Int32).toNatClampNeg (some f1q))))))), (f1q, .inr (6, [.int 3, .int 1, .int 10, .int 0])), (h0, .inr (10, [.ref fq, .ref sq, .ref gq, .ref nq, .ref dq, .ref pq, .int pl, .int bl, .int tb])), (fq, .inr (4, [.int mc_fq, .ref faq, .int 1]))]) (w1 := [(m0, .inr (8, [.int hd0, .ref t0, .ref z0, .ref w0])), (t0, .inl (ci, 6, .inl (fun _ => 0)))]) hP hD [2, 3] [0, 1, 4, 5] rfl rfl (by decide) (by decide) hk1 hFc hP1 hD1
  generalize H1 = H at hP hS ⊢
  have hP : va_P (dC, dI) vwCl [(faq, .inl (cO, 10, .inr (.inr (.inr (.inr (va_up (fun _ => none) (0 : Int32).toNatClampNeg (some f1q))))))), (f1q, .inr (6, [.int 3, .int 1, .int 10, .int 0])), (h0, .inr (10, [.ref fq, .ref sq, .ref gq, .ref nq, .ref dq, .ref pq, .int pl, .int bl, .int tb])), (fq, .inr (4, [.int mc_fq, .ref faq, .int 1])), (m0, .inr (8, [.int hd0, .ref t0, .ref z0, .ref w0])), (t0, .inl (ci, 6, .inl (fun _ => 0)))] H := hP
  have hD : va_D A [(faq, .inl (cO, 10, .inr (.inr (.inr (.inr (va_up (fun _ => none) (0 : Int32).toNatClampNeg (some f1q))))))), (f1q, .inr (6, [.int 3, .int 1, .int 10, .int 0])), (h0, .inr (10, [.ref fq, .ref sq, .ref gq, .ref nq, .ref dq, .ref pq, .int pl, .int bl, .int tb])), (fq, .inr (4, [.int mc_fq, .ref faq, .int 1])), (m0, .inr (8, [.int hd0, .ref t0, .ref z0, .ref w0])), (t0, .inl (ci, 6, .inl (fun _ => 0)))] := hD
  refine W.widen (k := 0) (n := 0) (by omega) (by omega) ?_
  obtain rfl : r_3 = 0 := hw
  refine lv_iadd hx hb dX5_placeOf_16 ?_
  refine lv_topi (fun x_4 e_5 => ?_)
  obtain rfl : x_4 = 0 := e_5.trans (by decide)
  refine lv_aload_n hx hb dX5_placeOf_17 rfl (lv_at hl 0 rfl) ?_
  refine va_get (D := (dC, dI)) (ci := 10) (v := .ref fq) (C := RX5) (T := TX5) (N := 9) hx hb hts u_c_placeOf_X5 hown hK hP 2 rfl rfl 0 (by decide) (hts (.fieldLink RX5 10 "HotelOfBells" "floors" "Ljava/util/ArrayList;") (List.mem_of_getElem? (i := 2) rfl)) (fun _ h9 => h9) rfl dX5_placeOf_18 ?_
  refine lv_iload_n hx hb dX5_placeOf_21 rfl (lv_at hl 1 rfl) ?_
  have hPc := hP.sub (ws' := [(fq, .inr (4, [.int mc_fq, .ref faq, .int 1])), (faq, .inl (cO, 10, .inr (.inr (.inr (.inr (va_up (fun _ => none) (0 : Int32).toNatClampNeg (some f1q)))))))]) [3, 0] rfl
  have hDc := hD.sub (ws' := [(fq, .inr (4, [.int mc_fq, .ref faq, .int 1])), (faq, .inl (cO, 10, .inr (.inr (.inr (.inr (va_up (fun _ => none) (0 : Int32).toNatClampNeg (some f1q)))))))]) [3, 0] (by decide) rfl
  have hKc := hK.sub (tys' := [(cO, .object "java/lang/Object")]) [0] rfl
  have hFc := va_free (wc := [(fq, .inr (4, [.int mc_fq, .ref faq, .int 1])), (faq, .inl (cO, 10, .inr (.inr (.inr (.inr (va_up (fun _ => none) (0 : Int32).toNatClampNeg (some f1q)))))))]) hD hS hA [3, 0] rfl
  refine va_callr (va_runV (As := [.int 0]) (rest := [.int 0]) ⟨hx, hb, hml, hown, hts⟩ (c_AL_get l hl9 dC dI tE fq faq f1q cO mc_fq _ ) (cwV 1 hts (goodIn_app (goodIn_r _ [33, 34, 35, 8] (by rfl) (by decide +kernel)) gg_c_placeOf_c_AL_get) rfl rfl rfl (by decide +kernel) ⟨Nat.le_of_ble_eq_true rfl, Nat.le_of_ble_eq_true rfl⟩) ⟨Pre0.blind, va_recv hKc hPc (ci := 4) (q0 := 0) rfl rfl, Pre0.give hPc hKc hDc hT hS hFc⟩ rfl rfl hl.1 rfl (lv_room (Nat.le_of_ble_eq_true rfl)) dX5_placeOf_22 ⟨Nat.le_of_ble_eq_true rfl, Nat.le_of_ble_eq_true rfl⟩) hS (fun q _ h => hFc q h) hFc (fun u r_6 t H1 locs ht hvm hw hB hz1 hk1 hS => ?_)
  obtain ⟨rfl, hP1, hK1, hD1⟩ := hB
  rw [ht] at hP1
  have hK1 := va_K.moved hvm.symm hK1
  obtain ⟨hP, hD⟩ := va_join (wr := [(f1q, .inr (6, [.int 3, .int 1, .int 10, .int 0])), (h0, .inr (10, [.ref fq, .ref sq, .ref gq, .ref nq, .ref dq, .ref pq, .int pl, .int bl, .int tb])), (m0, .inr (8, [.int hd0, .ref t0, .ref z0, .ref w0])), (t0, .inl (ci, 6, .inl (fun _ => 0)))]) (w1 := [(fq, .inr (4, [.int mc_fq, .ref faq, .int 1])), (faq, .inl (cO, 10, .inr (.inr (.inr (.inr (va_up (fun _ => none) (0 : Int32).toNatClampNeg (some f1q)))))))]) hP hD [3, 0] [1, 2, 4, 5] rfl rfl (by decide) (by decide) hk1 hFc hP1 hD1
  generalize H1 = H at hP hS ⊢
  have hP : va_P (dC, dI) vwCl [(f1q, .inr (6, [.int 3, .int 1, .int 10, .int 0])), (h0, .inr (10, [.ref fq, .ref sq, .ref gq, .ref nq, .ref dq, .ref pq, .int pl, .int bl, .int tb])), (m0, .inr (8, [.int hd0, .ref t0, .ref z0, .ref w0])), (t0, .inl (ci, 6, .inl (fun _ => 0))), (fq, .inr (4, [.int mc_fq, .ref faq, .int 1])), (faq, .inl (cO, 10, .inr (.inr (.inr (.inr (va_up (fun _ => none) (0 : Int32).toNatClampNeg (some f1q)))))))] H := hP
  have hD : va_D A [(f1q, .inr (6, [.int 3, .int 1, .int 10, .int 0])), (h0, .inr (10, [.ref fq, .ref sq, .ref gq, .ref nq, .ref dq, .ref pq, .int pl, .int bl, .int tb])), (m0, .inr (8, [.int hd0, .ref t0, .ref z0, .ref w0])), (t0, .inl (ci, 6, .inl (fun _ => 0))), (fq, .inr (4, [.int mc_fq, .ref faq, .int 1])), (faq, .inl (cO, 10, .inr (.inr (.inr (.inr (va_up (fun _ => none) (0 : Int32).toNatClampNeg (some f1q)))))))] := hD
  refine W.widen (k := 0) (n := 0) (by omega) (by omega) ?_
  refine va_castS hx hb hown (hts (.classLink RX5 58 RX1) (List.mem_of_getElem? (i := 36) rfl)) (hK.1 6 _ rfl).2 (va_recv hK hP (ci := 6) (q0 := 0) rfl rfl) dX5_placeOf_25 ?_
  refine va_get (D := (dC, dI)) (ci := 6) (v := .int 3) (C := RX1) (T := TX1) (N := 4) hx hb hts u_c_placeOf_X1 hown hK hP 0 rfl rfl 0 (by decide) (hts (.fieldLink RX5 108 "HotelOfBells$Floor" "rooms" "I") (List.mem_of_getElem? (i := 37) rfl)) (fun _ h9 => h9) rfl dX5_placeOf_28 ?_
  have hPc := hP.sub (ws' := []) [] rfl
  have hDc := hD.sub (ws' := []) [] (by decide) rfl
  have hKc := hK.sub (tys' := []) [] rfl
  have hFc := va_free (wc := []) hD hS hA [] rfl
  refine va_calli (va_runS (As := [.int 0, .int 3]) (rest := []) ⟨hx, hb, hml, hown, hts⟩ (c_remainder_0 l hl9 dC dI tE  _ ) (va_cwS 2 hts (goodIn_app (goodIn_r _ [39, 40, 12] (by rfl) (by decide +kernel)) gg_c_placeOf_c_remainder_0) rfl rfl rfl (by decide +kernel) ⟨Nat.le_of_ble_eq_true rfl, Nat.le_of_ble_eq_true rfl⟩) ⟨Pre0.blind, Pre0.give hPc hKc hDc hT hS hFc⟩ rfl rfl hl.1 rfl (lv_room (Nat.le_of_ble_eq_true rfl)) dX5_placeOf_31 ⟨Nat.le_of_ble_eq_true rfl, Nat.le_of_ble_eq_true rfl⟩) hS (fun q _ h => hFc q h) hFc (fun r_7 u t H1 locs ht hvm hw hB hz1 hk1 hS => ?_)
  obtain ⟨hP1, hK1, hD1⟩ := hB
  rw [ht] at hP1
  have hK1 := va_K.moved hvm.symm hK1
  obtain ⟨hP, hD⟩ := va_join (wr := [(f1q, .inr (6, [.int 3, .int 1, .int 10, .int 0])), (h0, .inr (10, [.ref fq, .ref sq, .ref gq, .ref nq, .ref dq, .ref pq, .int pl, .int bl, .int tb])), (m0, .inr (8, [.int hd0, .ref t0, .ref z0, .ref w0])), (t0, .inl (ci, 6, .inl (fun _ => 0))), (fq, .inr (4, [.int mc_fq, .ref faq, .int 1])), (faq, .inl (cO, 10, .inr (.inr (.inr (.inr (va_up (fun _ => none) (0 : Int32).toNatClampNeg (some f1q)))))))]) (w1 := []) hP hD [] [0, 1, 2, 3, 4, 5] rfl rfl (by decide) (by decide) hk1 hFc hP1 hD1
  generalize H1 = H at hP hS ⊢
  have hP : va_P (dC, dI) vwCl [(f1q, .inr (6, [.int 3, .int 1, .int 10, .int 0])), (h0, .inr (10, [.ref fq, .ref sq, .ref gq, .ref nq, .ref dq, .ref pq, .int pl, .int bl, .int tb])), (m0, .inr (8, [.int hd0, .ref t0, .ref z0, .ref w0])), (t0, .inl (ci, 6, .inl (fun _ => 0))), (fq, .inr (4, [.int mc_fq, .ref faq, .int 1])), (faq, .inl (cO, 10, .inr (.inr (.inr (.inr (va_up (fun _ => none) (0 : Int32).toNatClampNeg (some f1q)))))))] H := hP
  have hD : va_D A [(f1q, .inr (6, [.int 3, .int 1, .int 10, .int 0])), (h0, .inr (10, [.ref fq, .ref sq, .ref gq, .ref nq, .ref dq, .ref pq, .int pl, .int bl, .int tb])), (m0, .inr (8, [.int hd0, .ref t0, .ref z0, .ref w0])), (t0, .inl (ci, 6, .inl (fun _ => 0))), (fq, .inr (4, [.int mc_fq, .ref faq, .int 1])), (faq, .inl (cO, 10, .inr (.inr (.inr (.inr (va_up (fun _ => none) (0 : Int32).toNatClampNeg (some f1q)))))))] := hD
  refine W.widen (k := 0) (n := 0) (by omega) (by omega) ?_
  obtain rfl : r_7 = 0 := hw
  have hP9 := hP.sub (ws' := [(f1q, .inr (6, [.int 3, .int 1, .int 10, .int 0])), (h0, .inr (10, [.ref fq, .ref sq, .ref gq, .ref nq, .ref dq, .ref pq, .int pl, .int bl, .int tb])), (m0, .inr (8, [.int hd0, .ref t0, .ref z0, .ref w0])), (t0, .inl (ci, 6, .inl (fun _ => 0))), (fq, .inr (4, [.int mc_fq, .ref faq, .int 1])), (faq, .inl (cO, 10, .inr (.inr (.inr (.inr (va_up (fun _ => none) (0 : Int32).toNatClampNeg (some f1q)))))))]) [0, 1, 2, 3, 4, 5] rfl
  have hD9 := hD.sub (ws' := [(f1q, .inr (6, [.int 3, .int 1, .int 10, .int 0])), (h0, .inr (10, [.ref fq, .ref sq, .ref gq, .ref nq, .ref dq, .ref pq, .int pl, .int bl, .int tb])), (m0, .inr (8, [.int hd0, .ref t0, .ref z0, .ref w0])), (t0, .inl (ci, 6, .inl (fun _ => 0))), (fq, .inr (4, [.int mc_fq, .ref faq, .int 1])), (faq, .inl (cO, 10, .inr (.inr (.inr (.inr (va_up (fun _ => none) (0 : Int32).toNatClampNeg (some f1q)))))))]) [0, 1, 2, 3, 4, 5] (by decide) rfl
  have hK9 := hK.sub (tys' := [(cO, .object "java/lang/Object"), (ci, .int)]) [0, 1] rfl
  exact W.iret (v := 0) hx hb hr (fun t ht hW => ⟨⟨0, (), rfl, rfl, by rw [ht]; exact hP9, va_K.moved hW.alike hK9, hD9⟩, hS.F ht⟩) hS.2.2 dX5_placeOf_34
def v_c_liftBefore : List Cond := .code yX5_liftBefore cX5_liftBefore 6 (some .int) :: ([Cond.code yX5_placeOf cX5_placeOf 4 (some .int), Cond.code yX5_isFloor cX5_isFloor 2 (some .boolean), Cond.fieldLink RX5 10 "HotelOfBells" "floors" "Ljava/util/ArrayList;", Cond.code yJx4a65c_size_8abf5 cJx4a65c_size_8abf5 1 (some .int), Cond.fieldLink RJx4a65c 48 "java/util/ArrayList" "size" "I", Cond.methodLink RX5 49 yJx4a65c_size_8abf5, Cond.instanceMethod yJx4a65c_size_8abf5, Cond.selects RJx4a65c yJx4a65c_size_8abf5 yJx4a65c_size_8abf5, Cond.initialized RJx4a65c, Cond.methodLink RX5 67 yX5_isFloor, Cond.instanceMethod yX5_isFloor, Cond.selects RX5 yX5_isFloor yX5_isFloor, Cond.initialized RX5, Cond.code yX3_turnOf cX3_turnOf 2 (some .int), Cond.fieldLink RX3 9 "HotelOfBells$Moment" "turns" "[I", Cond.methodLink RX5 150 yX3_turnOf, Cond.instanceMethod yX3_turnOf, Cond.selects RX3 yX3_turnOf yX3_turnOf, Cond.initialized RX3, Cond.code yJx4a65c_get_915e3 cJx4a65c_get_915e3 2 (some (.object "java/lang/Object")), Cond.code yJ15_checkIndex_7cf53 cJ15_checkIndex_7cf53 2 (some .int), Cond.code yJ3_checkIndex_8e157 cJ3_checkIndex_8e157 3 (some .int), Cond.methodLink RJ15 105 yJ3_checkIndex_8e157, Cond.static yJ3_checkIndex_8e157, Cond.initialized RJ3, Cond.methodLink RJx4a65c 118 yJ15_checkIndex_7cf53, Cond.static yJ15_checkIndex_7cf53, Cond.initialized RJ15, Cond.code yJx4a65c_elementData_915e3 cJx4a65c_elementData_915e3 2 (some (.object "java/lang/Object")), Cond.fieldLink RJx4a65c 9 "java/util/ArrayList" "elementData" "[Ljava/lang/Object;", Cond.methodLink RJx4a65c 123 yJx4a65c_elementData_915e3, Cond.instanceMethod yJx4a65c_elementData_915e3, Cond.selects RJx4a65c yJx4a65c_elementData_915e3 yJx4a65c_elementData_915e3, Cond.methodLink RX5 84 yJx4a65c_get_915e3, Cond.instanceMethod yJx4a65c_get_915e3, Cond.selects RJx4a65c yJx4a65c_get_915e3 yJx4a65c_get_915e3, Cond.classLink RX5 58 RX1, Cond.fieldLink RX5 108 "HotelOfBells$Floor" "rooms" "I", Cond.code yX5_remainder cX5_remainder 2 (some .int), Cond.methodLink RX5 306 yX5_remainder, Cond.static yX5_remainder, Cond.methodLink RX5 164 yX5_placeOf, Cond.instanceMethod yX5_placeOf, Cond.selects RX5 yX5_placeOf yX5_placeOf, Cond.fieldLink RX5 16 "HotelOfBells" "shafts" "Ljava/util/ArrayList;"] ++ (wsX50 ++ (wsJx4a65c0 ++ (wsX30 ++ (wsX10 ++ [])))))
theorem u_c_liftBefore_X5 : ∀ w ∈ wsX50, w ∈ v_c_liftBefore := fun _ h => List.mem_cons_of_mem _ (List.mem_append_right _ (List.mem_append_left _ h))
theorem u_c_liftBefore_Jx4a65c : ∀ w ∈ wsJx4a65c0, w ∈ v_c_liftBefore := fun _ h => List.mem_cons_of_mem _ (List.mem_append_right _ (List.mem_append_right _ (List.mem_append_left _ h)))
theorem u_c_liftBefore_X3 : ∀ w ∈ wsX30, w ∈ v_c_liftBefore := fun _ h => List.mem_cons_of_mem _ (List.mem_append_right _ (List.mem_append_right _ (List.mem_append_right _ (List.mem_append_left _ h))))
theorem u_c_liftBefore_X1 : ∀ w ∈ wsX10, w ∈ v_c_liftBefore := fun _ h => List.mem_cons_of_mem _ (List.mem_append_right _ (List.mem_append_right _ (List.mem_append_right _ (List.mem_append_right _ (List.mem_append_left _ h)))))
theorem gg_c_liftBefore_c_placeOf : GoodIn v_c_liftBefore v_c_placeOf := goodIn_r _ [1, 2, 3, 4, 5, 6, 7, 8, 9, 10, 11, 12, 13, 14, 15, 16, 17, 18, 19, 20, 21, 22, 23, 24, 25, 26, 27, 28, 29, 30, 31, 32, 33, 34, 35, 36, 37, 38, 39, 40, 41, 46, 47, 48, 49, 50, 51, 52, 53, 54, 55, 56, 57, 58, 59, 60, 61, 62, 63, 64, 65] (by rfl) (by decide +kernel)
theorem gg_c_liftBefore_c_AL_size : GoodIn v_c_liftBefore v_c_AL_size := goodIn_r _ [4, 5, 55, 56, 57] (by rfl) (by decide +kernel)
set_option maxHeartbeats 4000000 in
set_option maxRecDepth 100000 in
theorem c_liftBefore (l : Launch) (hl9 : l.stackTraces = false) (dC : Nat → ClassId) (dI : Nat → Nat → Nat) (tE : Nat) (h0 : Nat) (fq : Nat) (sq : Nat) (gq : Nat) (nq : Nat) (dq : Nat) (pq : Nat) (pl : Int32) (bl : Int32) (tb : Int32) (faq : Nat) (f1q : Nat) (mc_fq : Int32) (cO : ClassId) (mc_sq : Int32) (m0 : Nat) (t0 : Nat) (z0 : Nat) (w0 : Nat) (hd0 : Int32) (ci : ClassId) (sz : Nat) : Met l yX5_liftBefore v_c_liftBefore ({ frames := 4, cells := 0, slots := 0, locals := 87 }) (va_Pc [.ref h0, .int 0, .int 0, .ref m0] (Pre0 dC dI tE sz [(cO, .object "java/lang/Object"), (ci, .int)] [(h0, .inr (10, [.ref fq, .ref sq, .ref gq, .ref nq, .ref dq, .ref pq, .int pl, .int bl, .int tb])), (fq, .inr (4, [.int mc_fq, .ref faq, .int 1])), (faq, .inl (cO, 10, .inr (.inr (.inr (.inr (va_up (fun _ => none) (0 : Int32).toNatClampNeg (some f1q))))))), (f1q, .inr (6, [.int 3, .int 1, .int 10, .int 0])), (sq, .inr (4, [.int mc_sq, .ref tE, .int 0])), (m0, .inr (8, [.int hd0, .ref t0, .ref z0, .ref w0])), (t0, .inl (ci, 6, .inl (fun _ => 0)))])) (va_Qi (fun (r : Int32) (_ : Unit) => r = (-1)) (fun _ t => Pst dC dI [(cO, .object "java/lang/Object"), (ci, .int)] (va_A [(h0, .inr (10, [.ref fq, .ref sq, .ref gq, .ref nq, .ref dq, .ref pq, .int pl, .int bl, .int tb])), (fq, .inr (4, [.int mc_fq, .ref faq, .int 1])), (faq, .inl (cO, 10, .inr (.inr (.inr (.inr (va_up (fun _ => none) (0 : Int32).toNatClampNeg (some f1q))))))), (f1q, .inr (6, [.int 3, .int 1, .int 10, .int 0])), (sq, .inr (4, [.int mc_sq, .ref tE, .int 0])), (m0, .inr (8, [.int hd0, .ref t0, .ref z0, .ref w0])), (t0, .inl (ci, 6, .inl (fun _ => 0)))] sz) [(f1q, .inr (6, [.int 3, .int 1, .int 10, .int 0])), (h0, .inr (10, [.ref fq, .ref sq, .ref gq, .ref nq, .ref dq, .ref pq, .int pl, .int bl, .int tb])), (m0, .inr (8, [.int hd0, .ref t0, .ref z0, .ref w0])), (t0, .inl (ci, 6, .inl (fun _ => 0))), (fq, .inr (4, [.int mc_fq, .ref faq, .int 1])), (faq, .inl (cO, 10, .inr (.inr (.inr (.inr (va_up (fun _ => none) (0 : Int32).toNatClampNeg (some f1q))))))), (sq, .inr (4, [.int mc_sq, .ref tE, .int 0]))] t) (va_A [(h0, .inr (10, [.ref fq, .ref sq, .ref gq, .ref nq, .ref dq, .ref pq, .int pl, .int bl, .int tb])), (fq, .inr (4, [.int mc_fq, .ref faq, .int 1])), (faq, .inl (cO, 10, .inr (.inr (.inr (.inr (va_up (fun _ => none) (0 : Int32).toNatClampNeg (some f1q))))))), (f1q, .inr (6, [.int 3, .int 1, .int 10, .int 0])), (sq, .inr (4, [.int mc_sq, .ref tE, .int 0])), (m0, .inr (8, [.int hd0, .ref t0, .ref z0, .ref w0])), (t0, .inl (ci, 6, .inl (fun _ => 0)))] sz)) 0 0 (va_A [(h0, .inr (10, [.ref fq, .ref sq, .ref gq, .ref nq, .ref dq, .ref pq, .int pl, .int bl, .int tb])), (fq, .inr (4, [.int mc_fq, .ref faq, .int 1])), (faq, .inl (cO, 10, .inr (.inr (.inr (.inr (va_up (fun _ => none) (0 : Int32).toNatClampNeg (some f1q))))))), (f1q, .inr (6, [.int 3, .int 1, .int 10, .int 0])), (sq, .inr (4, [.int mc_sq, .ref tE, .int 0])), (m0, .inr (8, [.int hd0, .ref t0, .ref z0, .ref w0])), (t0, .inl (ci, 6, .inl (fun _ => 0)))] sz) := by
  refine Met.ofW (cc := cX5_liftBefore) (maxL := 6) (ret := (some .int)) (by decide) rfl ?_
  intro p e s m args below meth c s₁ B hml hv
  obtain ⟨rfl, hsz, hP, hK, hD0, hT⟩ := hv
  have hx := B.exec
  have hb := B.bytes
  have hr := B.returns
  have hts := atoms_spec (ws := v_c_liftBefore) B.pre
  have hown : s.vm.findClass RX5 = some m.cls := findClass_of_methodNamed B.named
  have hlocks := B.notSynchronized
  subst hsz
  have hD := hD0.self (sz := s.heap.size)
  generalize hAe : va_A [(h0, .inr (10, [.ref fq, .ref sq, .ref gq, .ref nq, .ref dq, .ref pq, .int pl, .int bl, .int tb])), (fq, .inr (4, [.int mc_fq, .ref faq, .int 1])), (faq, .inl (cO, 10, .inr (.inr (.inr (.inr (va_up (fun _ => none) (0 : Int32).toNatClampNeg (some f1q))))))), (f1q, .inr (6, [.int 3, .int 1, .int 10, .int 0])), (sq, .inr (4, [.int mc_sq, .ref tE, .int 0])), (m0, .inr (8, [.int hd0, .ref t0, .ref z0, .ref w0])), (t0, .inl (ci, 6, .inl (fun _ => 0)))] s.heap.size = A at hD hT ⊢
  have hA : ∀ q : Nat, s.heap.size ≤ q → A q := fun q h => by rw [← hAe]; exact Or.inr h
  have hS : va_S A s.heap s.heap [] := va_S.rf
  have hl := lv_entry ([.ref h0, .int 0, .int 0, .ref m0]) (n := 6) (Nat.le_of_ble_eq_true rfl)
  rw [lg_entry_eq]
  generalize (lg_sl ([.ref h0, .int 0, .int 0, .ref m0]) ++ List.replicate (6 - (lg_sl ([.ref h0, .int 0, .int 0, .ref m0])).length) Slot.unset).toArray = ls at hl ⊢
  have hl : lv_has ls 6 [(0, .ref h0), (1, .int 0), (2, .int 0), (3, .ref m0)] := hl
  refine lv_aload_n hx hb dX5_liftBefore_0 rfl (lv_at hl 0 rfl) ?_
  refine lv_iload_n hx hb dX5_liftBefore_1 rfl (lv_at hl 1 rfl) ?_
  refine lv_iload_n hx hb dX5_liftBefore_2 rfl (lv_at hl 2 rfl) ?_
  refine lv_aload_n hx hb dX5_liftBefore_3 rfl (lv_at hl 3 rfl) ?_
  have hPc := hP.sub (ws' := [(h0, .inr (10, [.ref fq, .ref sq, .ref gq, .ref nq, .ref dq, .ref pq, .int pl, .int bl, .int tb])), (fq, .inr (4, [.int mc_fq, .ref faq, .int 1])), (faq, .inl (cO, 10, .inr (.inr (.inr (.inr (va_up (fun _ => none) (0 : Int32).toNatClampNeg (some f1q))))))), (f1q, .inr (6, [.int 3, .int 1, .int 10, .int 0])), (m0, .inr (8, [.int hd0, .ref t0, .ref z0, .ref w0])), (t0, .inl (ci, 6, .inl (fun _ => 0)))]) [0, 1, 2, 3, 5, 6] rfl
  have hDc := hD.sub (ws' := [(h0, .inr (10, [.ref fq, .ref sq, .ref gq, .ref nq, .ref dq, .ref pq, .int pl, .int bl, .int tb])), (fq, .inr (4, [.int mc_fq, .ref faq, .int 1])), (faq, .inl (cO, 10, .inr (.inr (.inr (.inr (va_up (fun _ => none) (0 : Int32).toNatClampNeg (some f1q))))))), (f1q, .inr (6, [.int 3, .int 1, .int 10, .int 0])), (m0, .inr (8, [.int hd0, .ref t0, .ref z0, .ref w0])), (t0, .inl (ci, 6, .inl (fun _ => 0)))]) [0, 1, 2, 3, 5, 6] (by decide) rfl
  have hKc := hK.sub (tys' := [(cO, .object "java/lang/Object"), (ci, .int)]) [0, 1] rfl
  have hFc := va_free (wc := [(h0, .inr (10, [.ref fq, .ref sq, .ref gq, .ref nq, .ref dq, .ref pq, .int pl, .int bl, .int tb])), (fq, .inr (4, [.int mc_fq, .ref faq, .int 1])), (faq, .inl (cO, 10, .inr (.inr (.inr (.inr (va_up (fun _ => none) (0 : Int32).toNatClampNeg (some f1q))))))), (f1q, .inr (6, [.int 3, .int 1, .int 10, .int 0])), (m0, .inr (8, [.int hd0, .ref t0, .ref z0, .ref w0])), (t0, .inl (ci, 6, .inl (fun _ => 0)))]) hD hS hA [0, 1, 2, 3, 5, 6] rfl
  refine va_calli (va_runV (As := [.int 0, .int 0, .ref m0]) (rest := []) ⟨hx, hb, hml, hown, hts⟩ (c_placeOf l hl9 dC dI tE h0 fq sq gq nq dq pq pl bl tb faq f1q mc_fq cO m0 t0 z0 w0 hd0 ci _ ) (cwV 3 hts (goodIn_app (goodIn_r _ [42, 43, 44, 13] (by rfl) (by decide +kernel)) gg_c_liftBefore_c_placeOf) rfl rfl rfl (by decide +kernel) ⟨Nat.le_of_ble_eq_true rfl, Nat.le_of_ble_eq_true rfl⟩) ⟨Pre0.blind, va_recv hKc hPc (ci := 10) (q0 := 0) rfl rfl, Pre0.give hPc hKc hDc hT hS hFc⟩ rfl rfl hl.1 rfl (lv_room (Nat.le_of_ble_eq_true rfl)) dX5_liftBefore_4 ⟨Nat.le_of_ble_eq_true rfl, Nat.le_of_ble_eq_true rfl⟩) hS (fun q _ h => hFc q h) hFc (fun r_1 u t H1 locs ht hvm hw hB hz1 hk1 hS => ?_)
  obtain ⟨hP1, hK1, hD1⟩ := hB
  rw [ht] at hP1
  have hK1 := va_K.moved hvm.symm hK1
  obtain ⟨hP, hD⟩ := va_join (wr := [(sq, .inr (4, [.int mc_sq, .ref tE, .int 0]))]) (w1 := [(f1q, .inr (6, [.int 3, .int 1, .int 10, .int 0])), (h0, .inr (10, [.ref fq, .ref sq, .ref gq, .ref nq, .ref dq, .ref pq, .int pl, .int bl, .int tb])), (m0, .inr (8, [.int hd0, .ref t0, .ref z0, .ref w0])), (t0, .inl (ci, 6, .inl (fun _ => 0))), (fq, .inr (4, [.int mc_fq, .ref faq, .int 1])), (faq, .inl (cO, 10, .inr (.inr (.inr (.inr (va_up (fun _ => none) (0 : Int32).toNatClampNeg (some f1q)))))))]) hP hD [0, 1, 2, 3, 5, 6] [4] rfl rfl (by decide) (by decide) hk1 hFc hP1 hD1
  generalize H1 = H at hP hS ⊢
  have hP : va_P (dC, dI) vwCl [(sq, .inr (4, [.int mc_sq, .ref tE, .int 0])), (f1q, .inr (6, [.int 3, .int 1, .int 10, .int 0])), (h0, .inr (10, [.ref fq, .ref sq, .ref gq, .ref nq, .ref dq, .ref pq, .int pl, .int bl, .int tb])), (m0, .inr (8, [.int hd0, .ref t0, .ref z0, .ref w0])), (t0, .inl (ci, 6, .inl (fun _ => 0))), (fq, .inr (4, [.int mc_fq, .ref faq, .int 1])), (faq, .inl (cO, 10, .inr (.inr (.inr (.inr (va_up (fun _ => none) (0 : Int32).toNatClampNeg (some f1q)))))))] H := hP
  have hD : va_D A [(sq, .inr (4, [.int mc_sq, .ref tE, .int 0])), (f1q, .inr (6, [.int 3, .int 1, .int 10, .int 0])), (h0, .inr (10, [.ref fq, .ref sq, .ref gq, .ref nq, .ref dq, .ref pq, .int pl, .int bl, .int tb])), (m0, .inr (8, [.int hd0, .ref t0, .ref z0, .ref w0])), (t0, .inl (ci, 6, .inl (fun _ => 0))), (fq, .inr (4, [.int mc_fq, .ref faq, .int 1])), (faq, .inl (cO, 10, .inr (.inr (.inr (.inr (va_up (fun _ => none) (0 : Int32).toNatClampNeg (some f1q)))))))] := hD
  refine W.widen (k := 0) (n := 0) (by omega) (by omega) ?_
  obtain rfl : r_1 = 0 := hw
  refine lv_istore (lv' := [(4, .int 0), (0, .ref h0), (1, .int 0), (2, .int 0), (3, .ref m0)]) hx hb dX5_liftBefore_7 hl (by decide) rfl (fun ls hl => ?_)
  refine lv_iload hx hb dX5_liftBefore_9 (lv_at hl 0 rfl) ?_
  refine lv_iconst (v := (-1)) hx hb dX5_liftBefore_11 (by decide) ?_
  refine lv_icmp_ne (tgt := 17) hx hb dX5_liftBefore_12 (by decide) (fun _ => ?_) (fun c_2 => absurd c_2 (by decide))
  refine lv_iconst (v := 0) hx hb dX5_liftBefore_17 (by decide) ?_
  refine lv_istore (lv' := [(5, .int 0), (4, .int 0), (0, .ref h0), (1, .int 0), (2, .int 0), (3, .ref m0)]) hx hb dX5_liftBefore_18 hl (by decide) rfl (fun ls hl => ?_)
  refine lv_iload hx hb dX5_liftBefore_20 (lv_at hl 0 rfl) ?_
  refine lv_aload_n hx hb dX5_liftBefore_22 rfl (lv_at hl 2 rfl) ?_
  refine va_get (D := (dC, dI)) (ci := 10) (v := .ref sq) (C := RX5) (T := TX5) (N := 9) hx hb hts u_c_liftBefore_X5 hown hK hP 2 rfl rfl 1 (by decide) (hts (.fieldLink RX5 16 "HotelOfBells" "shafts" "Ljava/util/ArrayList;") (List.mem_of_getElem? (i := 45) rfl)) (fun _ h9 => h9) rfl dX5_liftBefore_23 ?_
  have hPc := hP.sub (ws' := [(sq, .inr (4, [.int mc_sq, .ref tE, .int 0]))]) [0] rfl
  have hDc := hD.sub (ws' := [(sq, .inr (4, [.int mc_sq, .ref tE, .int 0]))]) [0] (by decide) rfl
  have hKc := hK.sub (tys' := []) [] rfl
  have hFc := va_free (wc := [(sq, .inr (4, [.int mc_sq, .ref tE, .int 0]))]) hD hS hA [0] rfl
  refine va_calli (va_runV (As := []) (rest := [.int 0]) ⟨hx, hb, hml, hown, hts⟩ (c_AL_size l hl9 dC dI tE sq mc_sq 0 (.ref tE) _ ) (cwV 0 hts (goodIn_app (goodIn_r _ [6, 7, 8, 9] (by rfl) (by decide +kernel)) gg_c_liftBefore_c_AL_size) rfl rfl rfl (by decide +kernel) ⟨Nat.le_of_ble_eq_true rfl, Nat.le_of_ble_eq_true rfl⟩) ⟨Pre0.blind, va_recv hKc hPc (ci := 4) (q0 := 0) rfl rfl, Pre0.give hPc hKc hDc hT hS hFc⟩ rfl rfl hl.1 rfl (lv_room (Nat.le_of_ble_eq_true rfl)) dX5_liftBefore_26 ⟨Nat.le_of_ble_eq_true rfl, Nat.le_of_ble_eq_true rfl⟩) hS (fun q _ h => hFc q h) hFc (fun r_3 u t H1 locs ht hvm hw hB hz1 hk1 hS => ?_)
  obtain ⟨hP1, hK1, hD1⟩ := hB
  rw [ht] at hP1
  have hK1 := va_K.moved hvm.symm hK1
  obtain ⟨hP, hD⟩ := va_join (wr := [(f1q, .inr (6, [.int 3, .int 1, .int 10, .int 0])), (h0, .inr (10, [.ref fq, .ref sq, .ref gq, .ref nq, .ref dq, .ref pq, .int pl, .int bl, .int tb])), (m0, .inr (8, [.int hd0, .ref t0, .ref z0, .ref w0])), (t0, .inl (ci, 6, .inl (fun _ => 0))), (fq, .inr (4, [.int mc_fq, .ref faq, .int 1])), (faq, .inl (cO, 10, .inr (.inr (.inr (.inr (va_up (fun _ => none) (0 : Int32).toNatClampNeg (some f1q)))))))]) (w1 := [(sq, .inr (4, [.int mc_sq, .ref tE, .int 0]))]) hP hD [0] [1, 2, 3, 4, 5, 6] rfl rfl (by decide) (by decide) hk1 hFc hP1 hD1
  generalize H1 = H at hP hS ⊢
  have hP : va_P (dC, dI) vwCl [(f1q, .inr (6, [.int 3, .int 1, .int 10, .int 0])), (h0, .inr (10, [.ref fq, .ref sq, .ref gq, .ref nq, .ref dq, .ref pq, .int pl, .int bl, .int tb])), (m0, .inr (8, [.int hd0, .ref t0, .ref z0, .ref w0])), (t0, .inl (ci, 6, .inl (fun _ => 0))), (fq, .inr (4, [.int mc_fq, .ref faq, .int 1])), (faq, .inl (cO, 10, .inr (.inr (.inr (.inr (va_up (fun _ => none) (0 : Int32).toNatClampNeg (some f1q))))))), (sq, .inr (4, [.int mc_sq, .ref tE, .int 0]))] H := hP
  have hD : va_D A [(f1q, .inr (6, [.int 3, .int 1, .int 10, .int 0])), (h0, .inr (10, [.ref fq, .ref sq, .ref gq, .ref nq, .ref dq, .ref pq, .int pl, .int bl, .int tb])), (m0, .inr (8, [.int hd0, .ref t0, .ref z0, .ref w0])), (t0, .inl (ci, 6, .inl (fun _ => 0))), (fq, .inr (4, [.int mc_fq, .ref faq, .int 1])), (faq, .inl (cO, 10, .inr (.inr (.inr (.inr (va_up (fun _ => none) (0 : Int32).toNatClampNeg (some f1q))))))), (sq, .inr (4, [.int mc_sq, .ref tE, .int 0]))] := hD
  refine W.widen (k := 0) (n := 0) (by omega) (by omega) ?_
  obtain rfl : r_3 = 0 := hw
  refine lv_icmp_ge (tgt := 72) hx hb dX5_liftBefore_29 (by decide) (fun _ => ?_) (fun c_4 => absurd (by decide) c_4)
  refine lv_iconst (v := (-1)) hx hb dX5_liftBefore_72 (by decide) ?_
  have hP9 := hP.sub (ws' := [(f1q, .inr (6, [.int 3, .int 1, .int 10, .int 0])), (h0, .inr (10, [.ref fq, .ref sq, .ref gq, .ref nq, .ref dq, .ref pq, .int pl, .int bl, .int tb])), (m0, .inr (8, [.int hd0, .ref t0, .ref z0, .ref w0])), (t0, .inl (ci, 6, .inl (fun _ => 0))), (fq, .inr (4, [.int mc_fq, .ref faq, .int 1])), (faq, .inl (cO, 10, .inr (.inr (.inr (.inr (va_up (fun _ => none) (0 : Int32).toNatClampNeg (some f1q))))))), (sq, .inr (4, [.int mc_sq, .ref tE, .int 0]))]) [0, 1, 2, 3, 4, 5, 6] rfl
  have hD9 := hD.sub (ws' := [(f1q, .inr (6, [.int 3, .int 1, .int 10, .int 0])), (h0, .inr (10, [.ref fq, .ref sq, .ref gq, .ref nq, .ref dq, .ref pq, .int pl, .int bl, .int tb])), (m0, .inr (8, [.int hd0, .ref t0, .ref z0, .ref w0])), (t0, .inl (ci, 6, .inl (fun _ => 0))), (fq, .inr (4, [.int mc_fq, .ref faq, .int 1])), (faq, .inl (cO, 10, .inr (.inr (.inr (.inr (va_up (fun _ => none) (0 : Int32).toNatClampNeg (some f1q))))))), (sq, .inr (4, [.int mc_sq, .ref tE, .int 0]))]) [0, 1, 2, 3, 4, 5, 6] (by decide) rfl
  have hK9 := hK.sub (tys' := [(cO, .object "java/lang/Object"), (ci, .int)]) [0, 1] rfl
  exact W.iret (v := (-1)) hx hb hr (fun t ht hW => ⟨⟨(-1), (), rfl, rfl, by rw [ht]; exact hP9, va_K.moved hW.alike hK9, hD9⟩, hS.F ht⟩) hS.2.2 dX5_liftBefore_73
def v_c_act : List Cond := .code yX5_act cX5_act 4 (some .boolean) :: ([Cond.fieldLink RX5 189 "HotelOfBells$Guest" "inLift" "I", Cond.code yX2_isHome cX2_isHome 1 (some .boolean), Cond.fieldLink RX2 15 "HotelOfBells$Guest" "onFloor" "I", Cond.fieldLink RX2 21 "HotelOfBells$Guest" "wantedFloor" "I", Cond.fieldLink RX2 18 "HotelOfBells$Guest" "inRoom" "I", Cond.fieldLink RX2 24 "HotelOfBells$Guest" "wantedRoom" "I", Cond.methodLink RX5 146 yX2_isHome, Cond.instanceMethod yX2_isHome, Cond.selects RX2 yX2_isHome yX2_isHome, Cond.initialized RX2, Cond.fieldLink RX5 183 "HotelOfBells$Guest" "onFloor" "I", Cond.fieldLink RX5 186 "HotelOfBells$Guest" "inRoom" "I", Cond.code yX5_liftBefore cX5_liftBefore 6 (some .int), Cond.code yX5_placeOf cX5_placeOf 4 (some .int), Cond.code yX5_isFloor cX5_isFloor 2 (some .boolean), Cond.fieldLink RX5 10 "HotelOfBells" "floors" "Ljava/util/ArrayList;", Cond.code yJx4a65c_size_8abf5 cJx4a65c_size_8abf5 1 (some .int), Cond.fieldLink RJx4a65c 48 "java/util/ArrayList" "size" "I", Cond.methodLink RX5 49 yJx4a65c_size_8abf5, Cond.instanceMethod yJx4a65c_size_8abf5, Cond.selects RJx4a65c yJx4a65c_size_8abf5 yJx4a65c_size_8abf5, Cond.initialized RJx4a65c, Cond.methodLink RX5 67 yX5_isFloor, Cond.instanceMethod yX5_isFloor, Cond.selects RX5 yX5_isFloor yX5_isFloor, Cond.initialized RX5, Cond.code yX3_turnOf cX3_turnOf 2 (some .int), Cond.fieldLink RX3 9 "HotelOfBells$Moment" "turns" "[I", Cond.methodLink RX5 150 yX3_turnOf, Cond.instanceMethod yX3_turnOf, Cond.selects RX3 yX3_turnOf yX3_turnOf, Cond.initialized RX3, Cond.code yJx4a65c_get_915e3 cJx4a65c_get_915e3 2 (some (.object "java/lang/Object")), Cond.code yJ15_checkIndex_7cf53 cJ15_checkIndex_7cf53 2 (some .int), Cond.code yJ3_checkIndex_8e157 cJ3_checkIndex_8e157 3 (some .int), Cond.methodLink RJ15 105 yJ3_checkIndex_8e157, Cond.static yJ3_checkIndex_8e157, Cond.initialized RJ3, Cond.methodLink RJx4a65c 118 yJ15_checkIndex_7cf53, Cond.static yJ15_checkIndex_7cf53, Cond.initialized RJ15, Cond.code yJx4a65c_elementData_915e3 cJx4a65c_elementData_915e3 2 (some (.object "java/lang/Object")), Cond.fieldLink RJx4a65c 9 "java/util/ArrayList" "elementData" "[Ljava/lang/Object;", Cond.methodLink RJx4a65c 123 yJx4a65c_elementData_915e3, Cond.instanceMethod yJx4a65c_elementData_915e3, Cond.selects RJx4a65c yJx4a65c_elementData_915e3 yJx4a65c_elementData_915e3, Cond.methodLink RX5 84 yJx4a65c_get_915e3, Cond.instanceMethod yJx4a65c_get_915e3, Cond.selects RJx4a65c yJx4a65c_get_915e3 yJx4a65c_get_915e3, Cond.classLink RX5 58 RX1, Cond.fieldLink RX5 108 "HotelOfBells$Floor" "rooms" "I", Cond.code yX5_remainder cX5_remainder 2 (some .int), Cond.methodLink RX5 306 yX5_remainder, Cond.static yX5_remainder, Cond.methodLink RX5 164 yX5_placeOf, Cond.instanceMethod yX5_placeOf, Cond.selects RX5 yX5_placeOf yX5_placeOf, Cond.fieldLink RX5 16 "HotelOfBells" "shafts" "Ljava/util/ArrayList;", Cond.methodLink RX5 300 yX5_liftBefore, Cond.instanceMethod yX5_liftBefore, Cond.selects RX5 yX5_liftBefore yX5_liftBefore] ++ (wsX20 ++ (wsX50 ++ (wsJx4a65c0 ++ (wsX30 ++ (wsX10 ++ []))))))
theorem u_c_act_X2 : ∀ w ∈ wsX20, w ∈ v_c_act := fun _ h => List.mem_cons_of_mem _ (List.mem_append_right _ (List.mem_append_left _ h))
theorem u_c_act_X5 : ∀ w ∈ wsX50, w ∈ v_c_act := fun _ h => List.mem_cons_of_mem _ (List.mem_append_right _ (List.mem_append_right _ (List.mem_append_left _ h)))
theorem u_c_act_Jx4a65c : ∀ w ∈ wsJx4a65c0, w ∈ v_c_act := fun _ h => List.mem_cons_of_mem _ (List.mem_append_right _ (List.mem_append_right _ (List.mem_append_right _ (List.mem_append_left _ h))))
theorem u_c_act_X3 : ∀ w ∈ wsX30, w ∈ v_c_act := fun _ h => List.mem_cons_of_mem _ (List.mem_append_right _ (List.mem_append_right _ (List.mem_append_right _ (List.mem_append_right _ (List.mem_append_left _ h)))))
theorem u_c_act_X1 : ∀ w ∈ wsX10, w ∈ v_c_act := fun _ h => List.mem_cons_of_mem _ (List.mem_append_right _ (List.mem_append_right _ (List.mem_append_right _ (List.mem_append_right _ (List.mem_append_right _ (List.mem_append_left _ h))))))
theorem gg_c_act_c_G_home : GoodIn v_c_act v_c_G_home := goodIn_r _ [2, 3, 4, 5, 6, 62, 63, 64, 65, 66, 67] (by rfl) (by decide +kernel)
theorem gg_c_act_c_liftBefore : GoodIn v_c_act v_c_liftBefore := goodIn_r _ [13, 14, 15, 16, 17, 18, 19, 20, 21, 22, 23, 24, 25, 26, 27, 28, 29, 30, 31, 32, 33, 34, 35, 36, 37, 38, 39, 40, 41, 42, 43, 44, 45, 46, 47, 48, 49, 50, 51, 52, 53, 54, 55, 56, 57, 58, 68, 69, 70, 71, 72, 73, 74, 75, 76, 77, 78, 79, 80, 81, 82, 83, 84, 85, 86, 87] (by rfl) (by decide +kernel)
set_option maxHeartbeats 4000000 in
set_option maxRecDepth 100000 in
theorem c_act (l : Launch) (hl9 : l.stackTraces = false) (dC : Nat → ClassId) (dI : Nat → Nat → Nat) (tE : Nat) (h0 : Nat) (fq : Nat) (sq : Nat) (gq : Nat) (nq : Nat) (dq : Nat) (pq : Nat) (pl : Int32) (bl : Int32) (tb : Int32) (faq : Nat) (f1q : Nat) (mc_fq : Int32) (cO : ClassId) (mc_sq : Int32) (m0 : Nat) (t0 : Nat) (z0 : Nat) (w0 : Nat) (hd0 : Int32) (ci : ClassId) (g0 : Nat) (wa0 : Int32) (sz : Nat) : Met l yX5_act v_c_act ({ frames := 5, cells := 0, slots := 0, locals := 112 }) (va_Pc [.ref h0, .ref g0, .ref m0] (Pre0 dC dI tE sz [(cO, .object "java/lang/Object"), (ci, .int)] [(h0, .inr (10, [.ref fq, .ref sq, .ref gq, .ref nq, .ref dq, .ref pq, .int pl, .int bl, .int tb])), (fq, .inr (4, [.int mc_fq, .ref faq, .int 1])), (faq, .inl (cO, 10, .inr (.inr (.inr (.inr (va_up (fun _ => none) (0 : Int32).toNatClampNeg (some f1q))))))), (f1q, .inr (6, [.int 3, .int 1, .int 10, .int 0])), (sq, .inr (4, [.int mc_sq, .ref tE, .int 0])), (m0, .inr (8, [.int hd0, .ref t0, .ref z0, .ref w0])), (t0, .inl (ci, 6, .inl (fun _ => 0))), (g0, .inr (7, [.int 0, .int 0, .int (-1), .int 0, .int 1, .int wa0]))])) (va_Qi (fun (r : Int32) (_ : Unit) => r = 0) (fun _ t => Pst dC dI [(cO, .object "java/lang/Object"), (ci, .int)] (va_A [(h0, .inr (10, [.ref fq, .ref sq, .ref gq, .ref nq, .ref dq, .ref pq, .int pl, .int bl, .int tb])), (fq, .inr (4, [.int mc_fq, .ref faq, .int 1])), (faq, .inl (cO, 10, .inr (.inr (.inr (.inr (va_up (fun _ => none) (0 : Int32).toNatClampNeg (some f1q))))))), (f1q, .inr (6, [.int 3, .int 1, .int 10, .int 0])), (sq, .inr (4, [.int mc_sq, .ref tE, .int 0])), (m0, .inr (8, [.int hd0, .ref t0, .ref z0, .ref w0])), (t0, .inl (ci, 6, .inl (fun _ => 0))), (g0, .inr (7, [.int 0, .int 0, .int (-1), .int 0, .int 1, .int wa0]))] sz) [(g0, .inr (7, [.int 0, .int 0, .int (-1), .int 0, .int 1, .int wa0])), (f1q, .inr (6, [.int 3, .int 1, .int 10, .int 0])), (h0, .inr (10, [.ref fq, .ref sq, .ref gq, .ref nq, .ref dq, .ref pq, .int pl, .int bl, .int tb])), (m0, .inr (8, [.int hd0, .ref t0, .ref z0, .ref w0])), (t0, .inl (ci, 6, .inl (fun _ => 0))), (fq, .inr (4, [.int mc_fq, .ref faq, .int 1])), (faq, .inl (cO, 10, .inr (.inr (.inr (.inr (va_up (fun _ => none) (0 : Int32).toNatClampNeg (some f1q))))))), (sq, .inr (4, [.int mc_sq, .ref tE, .int 0]))] t) (va_A [(h0, .inr (10, [.ref fq, .ref sq, .ref gq, .ref nq, .ref dq, .ref pq, .int pl, .int bl, .int tb])), (fq, .inr (4, [.int mc_fq, .ref faq, .int 1])), (faq, .inl (cO, 10, .inr (.inr (.inr (.inr (va_up (fun _ => none) (0 : Int32).toNatClampNeg (some f1q))))))), (f1q, .inr (6, [.int 3, .int 1, .int 10, .int 0])), (sq, .inr (4, [.int mc_sq, .ref tE, .int 0])), (m0, .inr (8, [.int hd0, .ref t0, .ref z0, .ref w0])), (t0, .inl (ci, 6, .inl (fun _ => 0))), (g0, .inr (7, [.int 0, .int 0, .int (-1), .int 0, .int 1, .int wa0]))] sz)) 0 0 (va_A [(h0, .inr (10, [.ref fq, .ref sq, .ref gq, .ref nq, .ref dq, .ref pq, .int pl, .int bl, .int tb])), (fq, .inr (4, [.int mc_fq, .ref faq, .int 1])), (faq, .inl (cO, 10, .inr (.inr (.inr (.inr (va_up (fun _ => none) (0 : Int32).toNatClampNeg (some f1q))))))), (f1q, .inr (6, [.int 3, .int 1, .int 10, .int 0])), (sq, .inr (4, [.int mc_sq, .ref tE, .int 0])), (m0, .inr (8, [.int hd0, .ref t0, .ref z0, .ref w0])), (t0, .inl (ci, 6, .inl (fun _ => 0))), (g0, .inr (7, [.int 0, .int 0, .int (-1), .int 0, .int 1, .int wa0]))] sz) := by
  refine Met.ofW (cc := cX5_act) (maxL := 4) (ret := (some .boolean)) (by decide) rfl ?_
  intro p e s m args below meth c s₁ B hml hv
  obtain ⟨rfl, hsz, hP, hK, hD0, hT⟩ := hv
  have hx := B.exec
  have hb := B.bytes
  have hr := B.returns
  have hts := atoms_spec (ws := v_c_act) B.pre
  have hown : s.vm.findClass RX5 = some m.cls := findClass_of_methodNamed B.named
  have hlocks := B.notSynchronized
  subst hsz
  have hD := hD0.self (sz := s.heap.size)
  generalize hAe : va_A [(h0, .inr (10, [.ref fq, .ref sq, .ref gq, .ref nq, .ref dq, .ref pq, .int pl, .int bl, .int tb])), (fq, .inr (4, [.int mc_fq, .ref faq, .int 1])), (faq, .inl (cO, 10, .inr (.inr (.inr (.inr (va_up (fun _ => none) (0 : Int32).toNatClampNeg (some f1q))))))), (f1q, .inr (6, [.int 3, .int 1, .int 10, .int 0])), (sq, .inr (4, [.int mc_sq, .ref tE, .int 0])), (m0, .inr (8, [.int hd0, .ref t0, .ref z0, .ref w0])), (t0, .inl (ci, 6, .inl (fun _ => 0))), (g0, .inr (7, [.int 0, .int 0, .int (-1), .int 0, .int 1, .int wa0]))] s.heap.size = A at hD hT ⊢
  have hA : ∀ q : Nat, s.heap.size ≤ q → A q := fun q h => by rw [← hAe]; exact Or.inr h
  have hS : va_S A s.heap s.heap [] := va_S.rf
  have hl := lv_entry ([.ref h0, .ref g0, .ref m0]) (n := 4) (Nat.le_of_ble_eq_true rfl)
  rw [lg_entry_eq]
  generalize (lg_sl ([.ref h0, .ref g0, .ref m0]) ++ List.replicate (4 - (lg_sl ([.ref h0, .ref g0, .ref m0])).length) Slot.unset).toArray = ls at hl ⊢
  have hl : lv_has ls 4 [(0, .ref h0), (1, .ref g0), (2, .ref m0)] := hl
  refine lv_aload_n hx hb dX5_act_0 rfl (lv_at hl 1 rfl) ?_
  refine va_get (D := (dC, dI)) (ci := 7) (v := .int (-1)) (C := RX2) (T := TX2) (N := 6) hx hb hts u_c_act_X2 hown hK hP 7 rfl rfl 2 (by decide) (hts (.fieldLink RX5 189 "HotelOfBells$Guest" "inLift" "I") (List.mem_of_getElem? (i := 1) rfl)) (fun _ h9 => h9) rfl dX5_act_1 ?_
  refine lv_iconst (v := (-1)) hx hb dX5_act_4 (by decide) ?_
  refine lv_icmp_eq (tgt := 25) hx hb dX5_act_5 (by decide) (fun _ => ?_) (fun c_1 => absurd (by decide) c_1)
  refine lv_aload_n hx hb dX5_act_25 rfl (lv_at hl 1 rfl) ?_
  have hPc := hP.sub (ws' := [(g0, .inr (7, [.int 0, .int 0, .int (-1), .int 0, .int 1, .int wa0]))]) [7] rfl
  have hDc := hD.sub (ws' := [(g0, .inr (7, [.int 0, .int 0, .int (-1), .int 0, .int 1, .int wa0]))]) [7] (by decide) rfl
  have hKc := hK.sub (tys' := []) [] rfl
  have hFc := va_free (wc := [(g0, .inr (7, [.int 0, .int 0, .int (-1), .int 0, .int 1, .int wa0]))]) hD hS hA [7] rfl
  refine va_calli (va_runV (As := []) (rest := []) ⟨hx, hb, hml, hown, hts⟩ (c_G_home l hl9 dC dI tE g0 wa0 _ ) (cwV 0 hts (goodIn_app (goodIn_r _ [7, 8, 9, 10] (by rfl) (by decide +kernel)) gg_c_act_c_G_home) rfl rfl rfl (by decide +kernel) ⟨Nat.le_of_ble_eq_true rfl, Nat.le_of_ble_eq_true rfl⟩) ⟨Pre0.blind, va_recv hKc hPc (ci := 7) (q0 := 0) rfl rfl, Pre0.give hPc hKc hDc hT hS hFc⟩ rfl rfl hl.1 rfl (lv_room (Nat.le_of_ble_eq_true rfl)) dX5_act_26 ⟨Nat.le_of_ble_eq_true rfl, Nat.le_of_ble_eq_true rfl⟩) hS (fun q _ h => hFc q h) hFc (fun r_2 u t H1 locs ht hvm hw hB hz1 hk1 hS => ?_)
  obtain ⟨hP1, hK1, hD1⟩ := hB
  rw [ht] at hP1
  have hK1 := va_K.moved hvm.symm hK1
  obtain ⟨hP, hD⟩ := va_join (wr := [(h0, .inr (10, [.ref fq, .ref sq, .ref gq, .ref nq, .ref dq, .ref pq, .int pl, .int bl, .int tb])), (fq, .inr (4, [.int mc_fq, .ref faq, .int 1])), (faq, .inl (cO, 10, .inr (.inr (.inr (.inr (va_up (fun _ => none) (0 : Int32).toNatClampNeg (some f1q))))))), (f1q, .inr (6, [.int 3, .int 1, .int 10, .int 0])), (sq, .inr (4, [.int mc_sq, .ref tE, .int 0])), (m0, .inr (8, [.int hd0, .ref t0, .ref z0, .ref w0])), (t0, .inl (ci, 6, .inl (fun _ => 0)))]) (w1 := [(g0, .inr (7, [.int 0, .int 0, .int (-1), .int 0, .int 1, .int wa0]))]) hP hD [7] [0, 1, 2, 3, 4, 5, 6] rfl rfl (by decide) (by decide) hk1 hFc hP1 hD1
  generalize H1 = H at hP hS ⊢
  have hP : va_P (dC, dI) vwCl [(h0, .inr (10, [.ref fq, .ref sq, .ref gq, .ref nq, .ref dq, .ref pq, .int pl, .int bl, .int tb])), (fq, .inr (4, [.int mc_fq, .ref faq, .int 1])), (faq, .inl (cO, 10, .inr (.inr (.inr (.inr (va_up (fun _ => none) (0 : Int32).toNatClampNeg (some f1q))))))), (f1q, .inr (6, [.int 3, .int 1, .int 10, .int 0])), (sq, .inr (4, [.int mc_sq, .ref tE, .int 0])), (m0, .inr (8, [.int hd0, .ref t0, .ref z0, .ref w0])), (t0, .inl (ci, 6, .inl (fun _ => 0))), (g0, .inr (7, [.int 0, .int 0, .int (-1), .int 0, .int 1, .int wa0]))] H := hP
  have hD : va_D A [(h0, .inr (10, [.ref fq, .ref sq, .ref gq, .ref nq, .ref dq, .ref pq, .int pl, .int bl, .int tb])), (fq, .inr (4, [.int mc_fq, .ref faq, .int 1])), (faq, .inl (cO, 10, .inr (.inr (.inr (.inr (va_up (fun _ => none) (0 : Int32).toNatClampNeg (some f1q))))))), (f1q, .inr (6, [.int 3, .int 1, .int 10, .int 0])), (sq, .inr (4, [.int mc_sq, .ref tE, .int 0])), (m0, .inr (8, [.int hd0, .ref t0, .ref z0, .ref w0])), (t0, .inl (ci, 6, .inl (fun _ => 0))), (g0, .inr (7, [.int 0, .int 0, .int (-1), .int 0, .int 1, .int wa0]))] := hD
  refine W.widen (k := 0) (n := 0) (by omega) (by omega) ?_
  obtain rfl : r_2 = 0 := hw
  refine lv_if_ne (tgt := 56) hx hb dX5_act_29 (by decide) (fun c_3 => absurd (by decide) c_3) (fun _ => ?_)
  refine lv_aload_n hx hb dX5_act_32 rfl (lv_at hl 0 rfl) ?_
  refine lv_aload_n hx hb dX5_act_33 rfl (lv_at hl 1 rfl) ?_
  refine va_get (D := (dC, dI)) (ci := 7) (v := .int 0) (C := RX2) (T := TX2) (N := 6) hx hb hts u_c_act_X2 hown hK hP 7 rfl rfl 0 (by decide) (hts (.fieldLink RX5 183 "HotelOfBells$Guest" "onFloor" "I") (List.mem_of_getElem? (i := 11) rfl)) (fun _ h9 => h9) rfl dX5_act_34 ?_
  refine lv_aload_n hx hb dX5_act_37 rfl (lv_at hl 1 rfl) ?_
  refine va_get (D := (dC, dI)) (ci := 7) (v := .int 0) (C := RX2) (T := TX2) (N := 6) hx hb hts u_c_act_X2 hown hK hP 7 rfl rfl 1 (by decide) (hts (.fieldLink RX5 186 "HotelOfBells$Guest" "inRoom" "I") (List.mem_of_getElem? (i := 12) rfl)) (fun _ h9 => h9) rfl dX5_act_38 ?_
  refine lv_aload_n hx hb dX5_act_41 rfl (lv_at hl 2 rfl) ?_
  have hPc := hP.sub (ws' := [(h0, .inr (10, [.ref fq, .ref sq, .ref gq, .ref nq, .ref dq, .ref pq, .int pl, .int bl, .int tb])), (fq, .inr (4, [.int mc_fq, .ref faq, .int 1])), (faq, .inl (cO, 10, .inr (.inr (.inr (.inr (va_up (fun _ => none) (0 : Int32).toNatClampNeg (some f1q))))))), (f1q, .inr (6, [.int 3, .int 1, .int 10, .int 0])), (sq, .inr (4, [.int mc_sq, .ref tE, .int 0])), (m0, .inr (8, [.int hd0, .ref t0, .ref z0, .ref w0])), (t0, .inl (ci, 6, .inl (fun _ => 0)))]) [0, 1, 2, 3, 4, 5, 6] rfl
  have hDc := hD.sub (ws' := [(h0, .inr (10, [.ref fq, .ref sq, .ref gq, .ref nq, .ref dq, .ref pq, .int pl, .int bl, .int tb])), (fq, .inr (4, [.int mc_fq, .ref faq, .int 1])), (faq, .inl (cO, 10, .inr (.inr (.inr (.inr (va_up (fun _ => none) (0 : Int32).toNatClampNeg (some f1q))))))), (f1q, .inr (6, [.int 3, .int 1, .int 10, .int 0])), (sq, .inr (4, [.int mc_sq, .ref tE, .int 0])), (m0, .inr (8, [.int hd0, .ref t0, .ref z0, .ref w0])), (t0, .inl (ci, 6, .inl (fun _ => 0)))]) [0, 1, 2, 3, 4, 5, 6] (by decide) rfl
  have hKc := hK.sub (tys' := [(cO, .object "java/lang/Object"), (ci, .int)]) [0, 1] rfl
  have hFc := va_free (wc := [(h0, .inr (10, [.ref fq, .ref sq, .ref gq, .ref nq, .ref dq, .ref pq, .int pl, .int bl, .int tb])), (fq, .inr (4, [.int mc_fq, .ref faq, .int 1])), (faq, .inl (cO, 10, .inr (.inr (.inr (.inr (va_up (fun _ => none) (0 : Int32).toNatClampNeg (some f1q))))))), (f1q, .inr (6, [.int 3, .int 1, .int 10, .int 0])), (sq, .inr (4, [.int mc_sq, .ref tE, .int 0])), (m0, .inr (8, [.int hd0, .ref t0, .ref z0, .ref w0])), (t0, .inl (ci, 6, .inl (fun _ => 0)))]) hD hS hA [0, 1, 2, 3, 4, 5, 6] rfl
  refine va_calli (va_runV (As := [.int 0, .int 0, .ref m0]) (rest := []) ⟨hx, hb, hml, hown, hts⟩ (c_liftBefore l hl9 dC dI tE h0 fq sq gq nq dq pq pl bl tb faq f1q mc_fq cO mc_sq m0 t0 z0 w0 hd0 ci _ ) (cwV 3 hts (goodIn_app (goodIn_r _ [59, 60, 61, 26] (by rfl) (by decide +kernel)) gg_c_act_c_liftBefore) rfl rfl rfl (by decide +kernel) ⟨Nat.le_of_ble_eq_true rfl, Nat.le_of_ble_eq_true rfl⟩) ⟨Pre0.blind, va_recv hKc hPc (ci := 10) (q0 := 0) rfl rfl, Pre0.give hPc hKc hDc hT hS hFc⟩ rfl rfl hl.1 rfl (lv_room (Nat.le_of_ble_eq_true rfl)) dX5_act_42 ⟨Nat.le_of_ble_eq_true rfl, Nat.le_of_ble_eq_true rfl⟩) hS (fun q _ h => hFc q h) hFc (fun r_4 u t H1 locs ht hvm hw hB hz1 hk1 hS => ?_)
  obtain ⟨hP1, hK1, hD1⟩ := hB
  rw [ht] at hP1
  have hK1 := va_K.moved hvm.symm hK1
  obtain ⟨hP, hD⟩ := va_join (wr := [(g0, .inr (7, [.int 0, .int 0, .int (-1), .int 0, .int 1, .int wa0]))]) (w1 := [(f1q, .inr (6, [.int 3, .int 1, .int 10, .int 0])), (h0, .inr (10, [.ref fq, .ref sq, .ref gq, .ref nq, .ref dq, .ref pq, .int pl, .int bl, .int tb])), (m0, .inr (8, [.int hd0, .ref t0, .ref z0, .ref w0])), (t0, .inl (ci, 6, .inl (fun _ => 0))), (fq, .inr (4, [.int mc_fq, .ref faq, .int 1])), (faq, .inl (cO, 10, .inr (.inr (.inr (.inr (va_up (fun _ => none) (0 : Int32).toNatClampNeg (some f1q))))))), (sq, .inr (4, [.int mc_sq, .ref tE, .int 0]))]) hP hD [0, 1, 2, 3, 4, 5, 6] [7] rfl rfl (by decide) (by decide) hk1 hFc hP1 hD1
  generalize H1 = H at hP hS ⊢
  have hP : va_P (dC, dI) vwCl [(g0, .inr (7, [.int 0, .int 0, .int (-1), .int 0, .int 1, .int wa0])), (f1q, .inr (6, [.int 3, .int 1, .int 10, .int 0])), (h0, .inr (10, [.ref fq, .ref sq, .ref gq, .ref nq, .ref dq, .ref pq, .int pl, .int bl, .int tb])), (m0, .inr (8, [.int hd0, .ref t0, .ref z0, .ref w0])), (t0, .inl (ci, 6, .inl (fun _ => 0))), (fq, .inr (4, [.int mc_fq, .ref faq, .int 1])), (faq, .inl (cO, 10, .inr (.inr (.inr (.inr (va_up (fun _ => none) (0 : Int32).toNatClampNeg (some f1q))))))), (sq, .inr (4, [.int mc_sq, .ref tE, .int 0]))] H := hP
  have hD : va_D A [(g0, .inr (7, [.int 0, .int 0, .int (-1), .int 0, .int 1, .int wa0])), (f1q, .inr (6, [.int 3, .int 1, .int 10, .int 0])), (h0, .inr (10, [.ref fq, .ref sq, .ref gq, .ref nq, .ref dq, .ref pq, .int pl, .int bl, .int tb])), (m0, .inr (8, [.int hd0, .ref t0, .ref z0, .ref w0])), (t0, .inl (ci, 6, .inl (fun _ => 0))), (fq, .inr (4, [.int mc_fq, .ref faq, .int 1])), (faq, .inl (cO, 10, .inr (.inr (.inr (.inr (va_up (fun _ => none) (0 : Int32).toNatClampNeg (some f1q))))))), (sq, .inr (4, [.int mc_sq, .ref tE, .int 0]))] := hD
  refine W.widen (k := 0) (n := 0) (by omega) (by omega) ?_
  obtain rfl : r_4 = (-1) := hw
  refine lv_istore_n (lv' := [(3, .int (-1)), (0, .ref h0), (1, .ref g0), (2, .ref m0)]) hx hb dX5_act_45 rfl hl (by decide) rfl (fun ls hl => ?_)
  refine lv_iload_n hx hb dX5_act_46 rfl (lv_at hl 0 rfl) ?_
  refine lv_iconst (v := (-1)) hx hb dX5_act_47 (by decide) ?_
  refine lv_icmp_eq (tgt := 56) hx hb dX5_act_48 (by decide) (fun _ => ?_) (fun c_5 => absurd (by decide) c_5)
  refine lv_iconst (v := 0) hx hb dX5_act_56 (by decide) ?_
  have hP9 := hP.sub (ws' := [(g0, .inr (7, [.int 0, .int 0, .int (-1), .int 0, .int 1, .int wa0])), (f1q, .inr (6, [.int 3, .int 1, .int 10, .int 0])), (h0, .inr (10, [.ref fq, .ref sq, .ref gq, .ref nq, .ref dq, .ref pq, .int pl, .int bl, .int tb])), (m0, .inr (8, [.int hd0, .ref t0, .ref z0, .ref w0])), (t0, .inl (ci, 6, .inl (fun _ => 0))), (fq, .inr (4, [.int mc_fq, .ref faq, .int 1])), (faq, .inl (cO, 10, .inr (.inr (.inr (.inr (va_up (fun _ => none) (0 : Int32).toNatClampNeg (some f1q))))))), (sq, .inr (4, [.int mc_sq, .ref tE, .int 0]))]) [0, 1, 2, 3, 4, 5, 6, 7] rfl
  have hD9 := hD.sub (ws' := [(g0, .inr (7, [.int 0, .int 0, .int (-1), .int 0, .int 1, .int wa0])), (f1q, .inr (6, [.int 3, .int 1, .int 10, .int 0])), (h0, .inr (10, [.ref fq, .ref sq, .ref gq, .ref nq, .ref dq, .ref pq, .int pl, .int bl, .int tb])), (m0, .inr (8, [.int hd0, .ref t0, .ref z0, .ref w0])), (t0, .inl (ci, 6, .inl (fun _ => 0))), (fq, .inr (4, [.int mc_fq, .ref faq, .int 1])), (faq, .inl (cO, 10, .inr (.inr (.inr (.inr (va_up (fun _ => none) (0 : Int32).toNatClampNeg (some f1q))))))), (sq, .inr (4, [.int mc_sq, .ref tE, .int 0]))]) [0, 1, 2, 3, 4, 5, 6, 7] (by decide) rfl
  have hK9 := hK.sub (tys' := [(cO, .object "java/lang/Object"), (ci, .int)]) [0, 1] rfl
  exact W.zret (v := 0) hx hb hr (by decide) (fun t ht hW => ⟨⟨0, (), rfl, rfl, by rw [ht]; exact hP9, va_K.moved hW.alike hK9, hD9⟩, hS.F ht⟩) hS.2.2 dX5_act_57
def v_c_strike : List Cond := .code yX5_strike cX5_strike 6 (some .int) :: ([Cond.fieldLink RX5 156 "HotelOfBells$Moment" "heard" "I", Cond.code yX5_heardWith cX5_heardWith 2 (some .int), Cond.constant RX5 247 (100000), Cond.methodLink RX5 252 yX5_heardWith, Cond.static yX5_heardWith, Cond.initialized RX5, Cond.fieldLink RX5 10 "HotelOfBells" "floors" "Ljava/util/ArrayList;", Cond.code yJx4a65c_size_8abf5 cJx4a65c_size_8abf5 1 (some .int), Cond.fieldLink RJx4a65c 48 "java/util/ArrayList" "size" "I", Cond.methodLink RX5 49 yJx4a65c_size_8abf5, Cond.instanceMethod yJx4a65c_size_8abf5, Cond.selects RJx4a65c yJx4a65c_size_8abf5 yJx4a65c_size_8abf5, Cond.initialized RJx4a65c, Cond.code yJx4a65c_get_915e3 cJx4a65c_get_915e3 2 (some (.object "java/lang/Object")), Cond.code yJ15_checkIndex_7cf53 cJ15_checkIndex_7cf53 2 (some .int), Cond.code yJ3_checkIndex_8e157 cJ3_checkIndex_8e157 3 (some .int), Cond.methodLink RJ15 105 yJ3_checkIndex_8e157, Cond.static yJ3_checkIndex_8e157, Cond.initialized RJ3, Cond.methodLink RJx4a65c 118 yJ15_checkIndex_7cf53, Cond.static yJ15_checkIndex_7cf53, Cond.initialized RJ15, Cond.code yJx4a65c_elementData_915e3 cJx4a65c_elementData_915e3 2 (some (.object "java/lang/Object")), Cond.fieldLink RJx4a65c 9 "java/util/ArrayList" "elementData" "[Ljava/lang/Object;", Cond.methodLink RJx4a65c 123 yJx4a65c_elementData_915e3, Cond.instanceMethod yJx4a65c_elementData_915e3, Cond.selects RJx4a65c yJx4a65c_elementData_915e3 yJx4a65c_elementData_915e3, Cond.methodLink RX5 84 yJx4a65c_get_915e3, Cond.instanceMethod yJx4a65c_get_915e3, Cond.selects RJx4a65c yJx4a65c_get_915e3 yJx4a65c_get_915e3, Cond.classLink RX5 58 RX1, Cond.code yX1_hearsItsTune cX1_hearsItsTune 2 (some .boolean), Cond.fieldLink RX1 13 "HotelOfBells$Floor" "span" "I", Cond.code yX5_remainder cX5_remainder 2 (some .int), Cond.static yX5_remainder, Cond.fieldLink RX1 7 "HotelOfBells$Floor" "tune" "I", Cond.methodLink RX5 255 yX1_hearsItsTune, Cond.instanceMethod yX1_hearsItsTune, Cond.selects RX1 yX1_hearsItsTune yX1_hearsItsTune, Cond.initialized RX1, Cond.fieldLink RX5 16 "HotelOfBells" "shafts" "Ljava/util/ArrayList;", Cond.code yX3_turnOf cX3_turnOf 2 (some .int), Cond.fieldLink RX3 9 "HotelOfBells$Moment" "turns" "[I", Cond.methodLink RX5 150 yX3_turnOf, Cond.instanceMethod yX3_turnOf, Cond.selects RX3 yX3_turnOf yX3_turnOf, Cond.initialized RX3, Cond.code yX1_nextTurn cX1_nextTurn 2 (some .int), Cond.fieldLink RX1 25 "HotelOfBells$Floor" "step" "I", Cond.fieldLink RX1 16 "HotelOfBells$Floor" "rooms" "I", Cond.methodLink RX5 285 yX1_nextTurn, Cond.instanceMethod yX1_nextTurn, Cond.selects RX1 yX1_nextTurn yX1_nextTurn, Cond.code yX3_setTurn cX3_setTurn 3 none, Cond.methodLink RX5 288 yX3_setTurn, Cond.instanceMethod yX3_setTurn, Cond.selects RX3 yX3_setTurn yX3_setTurn] ++ (wsX30 ++ (wsX50 ++ (wsJx4a65c0 ++ (wsX10 ++ [])))))
theorem u_c_strike_X3 : ∀ w ∈ wsX30, w ∈ v_c_strike := fun _ h => List.mem_cons_of_mem _ (List.mem_append_right _ (List.mem_append_left _ h))
theorem u_c_strike_X5 : ∀ w ∈ wsX50, w ∈ v_c_strike := fun _ h => List.mem_cons_of_mem _ (List.mem_append_right _ (List.mem_append_right _ (List.mem_append_left _ h)))
theorem u_c_strike_Jx4a65c : ∀ w ∈ wsJx4a65c0, w ∈ v_c_strike := fun _ h => List.mem_cons_of_mem _ (List.mem_append_right _ (List.mem_append_right _ (List.mem_append_right _ (List.mem_append_left _ h))))
theorem u_c_strike_X1 : ∀ w ∈ wsX10, w ∈ v_c_strike := fun _ h => List.mem_cons_of_mem _ (List.mem_append_right _ (List.mem_append_right _ (List.mem_append_right _ (List.mem_append_right _ (List.mem_append_left _ h)))))
theorem gg_c_strike_c_heardWith : GoodIn v_c_strike v_c_heardWith := goodIn_r _ [2, 3] (by rfl) (by decide +kernel)
theorem gg_c_strike_c_AL_size : GoodIn v_c_strike v_c_AL_size := goodIn_r _ [8, 9, 71, 72, 73] (by rfl) (by decide +kernel)
theorem gg_c_strike_c_AL_get : GoodIn v_c_strike v_c_AL_get := goodIn_r _ [14, 9, 15, 16, 17, 18, 19, 20, 21, 22, 23, 24, 25, 26, 27, 13, 71, 72, 73] (by rfl) (by decide +kernel)
theorem gg_c_strike_c_hears : GoodIn v_c_strike v_c_hears := goodIn_r _ [32, 33, 34, 6, 35, 36, 74, 75, 76, 77] (by rfl) (by decide +kernel)
theorem gg_c_strike_c_turnOf_0 : GoodIn v_c_strike v_c_turnOf_0 := goodIn_r _ [42, 43, 58, 59, 60, 61] (by rfl) (by decide +kernel)
theorem gg_c_strike_c_nextTurn : GoodIn v_c_strike v_c_nextTurn := goodIn_r _ [48, 49, 50, 34, 6, 35, 74, 75, 76, 77] (by rfl) (by decide +kernel)
theorem gg_c_strike_c_setTurn : GoodIn v_c_strike v_c_setTurn := goodIn_r _ [54, 43, 58, 59, 60, 61] (by rfl) (by decide +kernel)
set_option maxHeartbeats 4000000 in
set_option maxRecDepth 100000 in
theorem c_strike (l : Launch) (hl9 : l.stackTraces = false) (dC : Nat → ClassId) (dI : Nat → Nat → Nat) (tE : Nat) (h0 : Nat) (fq : Nat) (sq : Nat) (gq : Nat) (nq : Nat) (dq : Nat) (pq : Nat) (pl : Int32) (bl : Int32) (tb : Int32) (faq : Nat) (f1q : Nat) (mc_fq : Int32) (cO : ClassId) (mc_sq : Int32) (m0 : Nat) (t0 : Nat) (z0 : Nat) (w0 : Nat) (hd0 : Int32) (ci : ClassId) (p1 : Int32) (sz : Nat) : Met l yX5_strike v_c_strike ({ frames := 3, cells := 0, slots := 0, locals := 64 }) (va_Pc [.ref h0, .ref m0, .int p1] (Pre0 dC dI tE sz [(cO, .object "java/lang/Object"), (ci, .int)] [(h0, .inr (10, [.ref fq, .ref sq, .ref gq, .ref nq, .ref dq, .ref pq, .int pl, .int bl, .int tb])), (fq, .inr (4, [.int mc_fq, .ref faq, .int 1])), (faq, .inl (cO, 10, .inr (.inr (.inr (.inr (va_up (fun _ => none) (0 : Int32).toNatClampNeg (some f1q))))))), (f1q, .inr (6, [.int 3, .int 1, .int 10, .int 0])), (sq, .inr (4, [.int mc_sq, .ref tE, .int 0])), (m0, .inr (8, [.int hd0, .ref t0, .ref z0, .ref w0])), (t0, .inl (ci, 6, .inl (fun _ => 0)))])) (va_Qi (fun (r : Int32) (_ : Unit) => True) (fun _ t => ∃ (vx0 : Int32), Pst dC dI [(cO, .object "java/lang/Object"), (ci, .int)] (va_A [(h0, .inr (10, [.ref fq, .ref sq, .ref gq, .ref nq, .ref dq, .ref pq, .int pl, .int bl, .int tb])), (fq, .inr (4, [.int mc_fq, .ref faq, .int 1])), (faq, .inl (cO, 10, .inr (.inr (.inr (.inr (va_up (fun _ => none) (0 : Int32).toNatClampNeg (some f1q))))))), (f1q, .inr (6, [.int 3, .int 1, .int 10, .int 0])), (sq, .inr (4, [.int mc_sq, .ref tE, .int 0])), (m0, .inr (8, [.int hd0, .ref t0, .ref z0, .ref w0])), (t0, .inl (ci, 6, .inl (fun _ => 0)))] sz) [(h0, .inr (10, [.ref fq, .ref sq, .ref gq, .ref nq, .ref dq, .ref pq, .int pl, .int bl, .int tb])), (m0, .inr (8, [.int vx0, .ref t0, .ref z0, .ref w0])), (t0, .inl (ci, 6, .inl (fun _ => 0))), (faq, .inl (cO, 10, .inr (.inr (.inr (.inr (va_up (fun _ => none) (0 : Int32).toNatClampNeg (some f1q))))))), (f1q, .inr (6, [.int 3, .int 1, .int 10, .int 0])), (fq, .inr (4, [.int mc_fq, .ref faq, .int 1])), (sq, .inr (4, [.int mc_sq, .ref tE, .int 0]))] t) (va_A [(h0, .inr (10, [.ref fq, .ref sq, .ref gq, .ref nq, .ref dq, .ref pq, .int pl, .int bl, .int tb])), (fq, .inr (4, [.int mc_fq, .ref faq, .int 1])), (faq, .inl (cO, 10, .inr (.inr (.inr (.inr (va_up (fun _ => none) (0 : Int32).toNatClampNeg (some f1q))))))), (f1q, .inr (6, [.int 3, .int 1, .int 10, .int 0])), (sq, .inr (4, [.int mc_sq, .ref tE, .int 0])), (m0, .inr (8, [.int hd0, .ref t0, .ref z0, .ref w0])), (t0, .inl (ci, 6, .inl (fun _ => 0)))] sz)) 0 0 (va_A [(h0, .inr (10, [.ref fq, .ref sq, .ref gq, .ref nq, .ref dq, .ref pq, .int pl, .int bl, .int tb])), (fq, .inr (4, [.int mc_fq, .ref faq, .int 1])), (faq, .inl (cO, 10, .inr (.inr (.inr (.inr (va_up (fun _ => none) (0 : Int32).toNatClampNeg (some f1q))))))), (f1q, .inr (6, [.int 3, .int 1, .int 10, .int 0])), (sq, .inr (4, [.int mc_sq, .ref tE, .int 0])), (m0, .inr (8, [.int hd0, .ref t0, .ref z0, .ref w0])), (t0, .inl (ci, 6, .inl (fun _ => 0)))] sz) := by
  refine Met.ofW (cc := cX5_strike) (maxL := 6) (ret := (some .int)) (by decide) rfl ?_
  intro p e s m args below meth c s₁ B hml hv
  obtain ⟨rfl, hsz, hP, hK, hD0, hT⟩ := hv
  have hx := B.exec
  have hb := B.bytes
  have hr := B.returns
  have hts := atoms_spec (ws := v_c_strike) B.pre
  have hown : s.vm.findClass RX5 = some m.cls := findClass_of_methodNamed B.named
  have hlocks := B.notSynchronized
  subst hsz
  have hD := hD0.self (sz := s.heap.size)
  generalize hAe : va_A [(h0, .inr (10, [.ref fq, .ref sq, .ref gq, .ref nq, .ref dq, .ref pq, .int pl, .int bl, .int tb])), (fq, .inr (4, [.int mc_fq, .ref faq, .int 1])), (faq, .inl (cO, 10, .inr (.inr (.inr (.inr (va_up (fun _ => none) (0 : Int32).toNatClampNeg (some f1q))))))), (f1q, .inr (6, [.int 3, .int 1, .int 10, .int 0])), (sq, .inr (4, [.int mc_sq, .ref tE, .int 0])), (m0, .inr (8, [.int hd0, .ref t0, .ref z0, .ref w0])), (t0, .inl (ci, 6, .inl (fun _ => 0)))] s.heap.size = A at hD hT ⊢
  have hA : ∀ q : Nat, s.heap.size ≤ q → A q := fun q h => by rw [← hAe]; exact Or.inr h
  have hS : va_S A s.heap s.heap [] := va_S.rf
  have hl := lv_entry ([.ref h0, .ref m0, .int p1]) (n := 6) (Nat.le_of_ble_eq_true rfl)
  rw [lg_entry_eq]
  generalize (lg_sl ([.ref h0, .ref m0, .int p1]) ++ List.replicate (6 - (lg_sl ([.ref h0, .ref m0, .int p1])).length) Slot.unset).toArray = ls at hl ⊢
  have hl : lv_has ls 6 [(0, .ref h0), (1, .ref m0), (2, .int p1)] := hl
  refine lv_aload_n hx hb dX5_strike_0 rfl (lv_at hl 1 rfl) ?_
  refine lv_aload_n hx hb dX5_strike_1 rfl (lv_at hl 1 rfl) ?_
  refine va_get (D := (dC, dI)) (ci := 8) (v := .int hd0) (C := RX3) (T := TX3) (N := 4) hx hb hts u_c_strike_X3 hown hK hP 5 rfl rfl 0 (by decide) (hts (.fieldLink RX5 156 "HotelOfBells$Moment" "heard" "I") (List.mem_of_getElem? (i := 1) rfl)) (fun _ h9 => h9) rfl dX5_strike_2 ?_
  refine lv_iload_n hx hb dX5_strike_5 rfl (lv_at hl 2 rfl) ?_
  have hPc := hP.sub (ws' := []) [] rfl
  have hDc := hD.sub (ws' := []) [] (by decide) rfl
  have hKc := hK.sub (tys' := []) [] rfl
  have hFc := va_free (wc := []) hD hS hA [] rfl
  refine va_calli (va_runS (As := [.int hd0, .int p1]) (rest := [.ref m0]) ⟨hx, hb, hml, hown, hts⟩ (c_heardWith l hl9 dC dI tE hd0 p1 _ ) (va_cwS 2 hts (goodIn_app (goodIn_r _ [4, 5, 6] (by rfl) (by decide +kernel)) gg_c_strike_c_heardWith) rfl rfl rfl (by decide +kernel) ⟨Nat.le_of_ble_eq_true rfl, Nat.le_of_ble_eq_true rfl⟩) ⟨Pre0.blind, Pre0.give hPc hKc hDc hT hS hFc⟩ rfl rfl hl.1 rfl (lv_room (Nat.le_of_ble_eq_true rfl)) dX5_strike_6 ⟨Nat.le_of_ble_eq_true rfl, Nat.le_of_ble_eq_true rfl⟩) hS (fun q _ h => hFc q h) hFc (fun r_1 u t H1 locs ht hvm hw hB hz1 hk1 hS => ?_)
  obtain ⟨hP1, hK1, hD1⟩ := hB
  rw [ht] at hP1
  have hK1 := va_K.moved hvm.symm hK1
  obtain ⟨hP, hD⟩ := va_join (wr := [(h0, .inr (10, [.ref fq, .ref sq, .ref gq, .ref nq, .ref dq, .ref pq, .int pl, .int bl, .int tb])), (fq, .inr (4, [.int mc_fq, .ref faq, .int 1])), (faq, .inl (cO, 10, .inr (.inr (.inr (.inr (va_up (fun _ => none) (0 : Int32).toNatClampNeg (some f1q))))))), (f1q, .inr (6, [.int 3, .int 1, .int 10, .int 0])), (sq, .inr (4, [.int mc_sq, .ref tE, .int 0])), (m0, .inr (8, [.int hd0, .ref t0, .ref z0, .ref w0])), (t0, .inl (ci, 6, .inl (fun _ => 0)))]) (w1 := []) hP hD [] [0, 1, 2, 3, 4, 5, 6] rfl rfl (by decide) (by decide) hk1 hFc hP1 hD1
  generalize H1 = H at hP hS ⊢
  have hP : va_P (dC, dI) vwCl [(h0, .inr (10, [.ref fq, .ref sq, .ref gq, .ref nq, .ref dq, .ref pq, .int pl, .int bl, .int tb])), (fq, .inr (4, [.int mc_fq, .ref faq, .int 1])), (faq, .inl (cO, 10, .inr (.inr (.inr (.inr (va_up (fun _ => none) (0 : Int32).toNatClampNeg (some f1q))))))), (f1q, .inr (6, [.int 3, .int 1, .int 10, .int 0])), (sq, .inr (4, [.int mc_sq, .ref tE, .int 0])), (m0, .inr (8, [.int hd0, .ref t0, .ref z0, .ref w0])), (t0, .inl (ci, 6, .inl (fun _ => 0)))] H := hP
  have hD : va_D A [(h0, .inr (10, [.ref fq, .ref sq, .ref gq, .ref nq, .ref dq, .ref pq, .int pl, .int bl, .int tb])), (fq, .inr (4, [.int mc_fq, .ref faq, .int 1])), (faq, .inl (cO, 10, .inr (.inr (.inr (.inr (va_up (fun _ => none) (0 : Int32).toNatClampNeg (some f1q))))))), (f1q, .inr (6, [.int 3, .int 1, .int 10, .int 0])), (sq, .inr (4, [.int mc_sq, .ref tE, .int 0])), (m0, .inr (8, [.int hd0, .ref t0, .ref z0, .ref w0])), (t0, .inl (ci, 6, .inl (fun _ => 0)))] := hD
  refine W.widen (k := 0) (n := 0) (by omega) (by omega) ?_
  refine va_put (D := (dC, dI)) (ci := 8) (v := .int r_1) (ty := .int) (C := RX3) (T := TX3) (N := 4) hx hb hts u_c_strike_X3 tyX3 tyX3_ok nmX3 hown hK hP hD hS 5 rfl rfl 0 (by decide) (hts (.fieldLink RX5 156 "HotelOfBells$Moment" "heard" "I") (List.mem_of_getElem? (i := 1) rfl)) (fun _ h9 => h9) rfl (by decide +kernel) rfl rfl (Nat.le_of_ble_eq_true rfl) dX5_strike_9 (fun H locs hP hD hS => ?_)
  have hP : va_P (dC, dI) vwCl [(h0, .inr (10, [.ref fq, .ref sq, .ref gq, .ref nq, .ref dq, .ref pq, .int pl, .int bl, .int tb])), (fq, .inr (4, [.int mc_fq, .ref faq, .int 1])), (faq, .inl (cO, 10, .inr (.inr (.inr (.inr (va_up (fun _ => none) (0 : Int32).toNatClampNeg (some f1q))))))), (f1q, .inr (6, [.int 3, .int 1, .int 10, .int 0])), (sq, .inr (4, [.int mc_sq, .ref tE, .int 0])), (m0, .inr (8, [.int r_1, .ref t0, .ref z0, .ref w0])), (t0, .inl (ci, 6, .inl (fun _ => 0)))] H := hP
  have hD : va_D A [(h0, .inr (10, [.ref fq, .ref sq, .ref gq, .ref nq, .ref dq, .ref pq, .int pl, .int bl, .int tb])), (fq, .inr (4, [.int mc_fq, .ref faq, .int 1])), (faq, .inl (cO, 10, .inr (.inr (.inr (.inr (va_up (fun _ => none) (0 : Int32).toNatClampNeg (some f1q))))))), (f1q, .inr (6, [.int 3, .int 1, .int 10, .int 0])), (sq, .inr (4, [.int mc_sq, .ref tE, .int 0])), (m0, .inr (8, [.int r_1, .ref t0, .ref z0, .ref w0])), (t0, .inl (ci, 6, .inl (fun _ => 0)))] := hD
  refine lv_iconst (v := 0) hx hb dX5_strike_12 (by decide) ?_
  refine lv_istore_n (lv' := [(3, .int 0), (0, .ref h0), (1, .ref m0), (2, .int p1)]) hx hb dX5_strike_13 rfl hl (by decide) rfl (fun ls hl => ?_)
  refine lv_iconst (v := 0) hx hb dX5_strike_14 (by decide) ?_
  refine lv_istore (lv' := [(4, .int 0), (3, .int 0), (0, .ref h0), (1, .ref m0), (2, .int p1)]) hx hb dX5_strike_15 hl (by decide) rfl (fun ls hl => ?_)
  refine lv_iload hx hb dX5_strike_17 (lv_at hl 0 rfl) ?_
  refine lv_aload_n hx hb dX5_strike_19 rfl (lv_at hl 2 rfl) ?_
  refine va_get (D := (dC, dI)) (ci := 10) (v := .ref fq) (C := RX5) (T := TX5) (N := 9) hx hb hts u_c_strike_X5 hown hK hP 0 rfl rfl 0 (by decide) (hts (.fieldLink RX5 10 "HotelOfBells" "floors" "Ljava/util/ArrayList;") (List.mem_of_getElem? (i := 7) rfl)) (fun _ h9 => h9) rfl dX5_strike_20 ?_
  have hPc := hP.sub (ws' := [(fq, .inr (4, [.int mc_fq, .ref faq, .int 1]))]) [1] rfl
  have hDc := hD.sub (ws' := [(fq, .inr (4, [.int mc_fq, .ref faq, .int 1]))]) [1] (by decide) rfl
  have hKc := hK.sub (tys' := []) [] rfl
  have hFc := va_free (wc := [(fq, .inr (4, [.int mc_fq, .ref faq, .int 1]))]) hD hS hA [1] rfl
  refine va_calli (va_runV (As := []) (rest := [.int 0]) ⟨hx, hb, hml, hown, hts⟩ (c_AL_size l hl9 dC dI tE fq mc_fq 1 (.ref faq) _ ) (cwV 0 hts (goodIn_app (goodIn_r _ [10, 11, 12, 13] (by rfl) (by decide +kernel)) gg_c_strike_c_AL_size) rfl rfl rfl (by decide +kernel) ⟨Nat.le_of_ble_eq_true rfl, Nat.le_of_ble_eq_true rfl⟩) ⟨Pre0.blind, va_recv hKc hPc (ci := 4) (q0 := 0) rfl rfl, Pre0.give hPc hKc hDc hT hS hFc⟩ rfl rfl hl.1 rfl (lv_room (Nat.le_of_ble_eq_true rfl)) dX5_strike_23 ⟨Nat.le_of_ble_eq_true rfl, Nat.le_of_ble_eq_true rfl⟩) hS (fun q _ h => hFc q h) hFc (fun r_2 u t H1 locs ht hvm hw hB hz1 hk1 hS => ?_)
  obtain ⟨hP1, hK1, hD1⟩ := hB
  rw [ht] at hP1
  have hK1 := va_K.moved hvm.symm hK1
  obtain ⟨hP, hD⟩ := va_join (wr := [(h0, .inr (10, [.ref fq, .ref sq, .ref gq, .ref nq, .ref dq, .ref pq, .int pl, .int bl, .int tb])), (faq, .inl (cO, 10, .inr (.inr (.inr (.inr (va_up (fun _ => none) (0 : Int32).toNatClampNeg (some f1q))))))), (f1q, .inr (6, [.int 3, .int 1, .int 10, .int 0])), (sq, .inr (4, [.int mc_sq, .ref tE, .int 0])), (m0, .inr (8, [.int r_1, .ref t0, .ref z0, .ref w0])), (t0, .inl (ci, 6, .inl (fun _ => 0)))]) (w1 := [(fq, .inr (4, [.int mc_fq, .ref faq, .int 1]))]) hP hD [1] [0, 2, 3, 4, 5, 6] rfl rfl (by decide) (by decide) hk1 hFc hP1 hD1
  generalize H1 = H at hP hS ⊢
  have hP : va_P (dC, dI) vwCl [(h0, .inr (10, [.ref fq, .ref sq, .ref gq, .ref nq, .ref dq, .ref pq, .int pl, .int bl, .int tb])), (faq, .inl (cO, 10, .inr (.inr (.inr (.inr (va_up (fun _ => none) (0 : Int32).toNatClampNeg (some f1q))))))), (f1q, .inr (6, [.int 3, .int 1, .int 10, .int 0])), (sq, .inr (4, [.int mc_sq, .ref tE, .int 0])), (m0, .inr (8, [.int r_1, .ref t0, .ref z0, .ref w0])), (t0, .inl (ci, 6, .inl (fun _ => 0))), (fq, .inr (4, [.int mc_fq, .ref faq, .int 1]))] H := hP
  have hD : va_D A [(h0, .inr (10, [.ref fq, .ref sq, .ref gq, .ref nq, .ref dq, .ref pq, .int pl, .int bl, .int tb])), (faq, .inl (cO, 10, .inr (.inr (.inr (.inr (va_up (fun _ => none) (0 : Int32).toNatClampNeg (some f1q))))))), (f1q, .inr (6, [.int 3, .int 1, .int 10, .int 0])), (sq, .inr (4, [.int mc_sq, .ref tE, .int 0])), (m0, .inr (8, [.int r_1, .ref t0, .ref z0, .ref w0])), (t0, .inl (ci, 6, .inl (fun _ => 0))), (fq, .inr (4, [.int mc_fq, .ref faq, .int 1]))] := hD
  refine W.widen (k := 0) (n := 0) (by omega) (by omega) ?_
  obtain rfl : r_2 = 1 := hw
  refine lv_icmp_ge (tgt := 81) hx hb dX5_strike_26 (by decide) (fun c_3 => absurd c_3 (by decide)) (fun _ => ?_)
  refine lv_aload_n hx hb dX5_strike_29 rfl (lv_at hl 2 rfl) ?_
  refine va_get (D := (dC, dI)) (ci := 10) (v := .ref fq) (C := RX5) (T := TX5) (N := 9) hx hb hts u_c_strike_X5 hown hK hP 0 rfl rfl 0 (by decide) (hts (.fieldLink RX5 10 "HotelOfBells" "floors" "Ljava/util/ArrayList;") (List.mem_of_getElem? (i := 7) rfl)) (fun _ h9 => h9) rfl dX5_strike_30 ?_
  refine lv_iload hx hb dX5_strike_33 (lv_at hl 0 rfl) ?_
  have hPc := hP.sub (ws' := [(fq, .inr (4, [.int mc_fq, .ref faq, .int 1])), (faq, .inl (cO, 10, .inr (.inr (.inr (.inr (va_up (fun _ => none) (0 : Int32).toNatClampNeg (some f1q)))))))]) [6, 1] rfl
  have hDc := hD.sub (ws' := [(fq, .inr (4, [.int mc_fq, .ref faq, .int 1])), (faq, .inl (cO, 10, .inr (.inr (.inr (.inr (va_up (fun _ => none) (0 : Int32).toNatClampNeg (some f1q)))))))]) [6, 1] (by decide) rfl
  have hKc := hK.sub (tys' := [(cO, .object "java/lang/Object")]) [0] rfl
  have hFc := va_free (wc := [(fq, .inr (4, [.int mc_fq, .ref faq, .int 1])), (faq, .inl (cO, 10, .inr (.inr (.inr (.inr (va_up (fun _ => none) (0 : Int32).toNatClampNeg (some f1q)))))))]) hD hS hA [6, 1] rfl
  refine va_callr (va_runV (As := [.int 0]) (rest := []) ⟨hx, hb, hml, hown, hts⟩ (c_AL_get l hl9 dC dI tE fq faq f1q cO mc_fq _ ) (cwV 1 hts (goodIn_app (goodIn_r _ [28, 29, 30, 13] (by rfl) (by decide +kernel)) gg_c_strike_c_AL_get) rfl rfl rfl (by decide +kernel) ⟨Nat.le_of_ble_eq_true rfl, Nat.le_of_ble_eq_true rfl⟩) ⟨Pre0.blind, va_recv hKc hPc (ci := 4) (q0 := 0) rfl rfl, Pre0.give hPc hKc hDc hT hS hFc⟩ rfl rfl hl.1 rfl (lv_room (Nat.le_of_ble_eq_true rfl)) dX5_strike_35 ⟨Nat.le_of_ble_eq_true rfl, Nat.le_of_ble_eq_true rfl⟩) hS (fun q _ h => hFc q h) hFc (fun u r_4 t H1 locs ht hvm hw hB hz1 hk1 hS => ?_)
  obtain ⟨rfl, hP1, hK1, hD1⟩ := hB
  rw [ht] at hP1
  have hK1 := va_K.moved hvm.symm hK1
  obtain ⟨hP, hD⟩ := va_join (wr := [(h0, .inr (10, [.ref fq, .ref sq, .ref gq, .ref nq, .ref dq, .ref pq, .int pl, .int bl, .int tb])), (f1q, .inr (6, [.int 3, .int 1, .int 10, .int 0])), (sq, .inr (4, [.int mc_sq, .ref tE, .int 0])), (m0, .inr (8, [.int r_1, .ref t0, .ref z0, .ref w0])), (t0, .inl (ci, 6, .inl (fun _ => 0)))]) (w1 := [(fq, .inr (4, [.int mc_fq, .ref faq, .int 1])), (faq, .inl (cO, 10, .inr (.inr (.inr (.inr (va_up (fun _ => none) (0 : Int32).toNatClampNeg (some f1q)))))))]) hP hD [6, 1] [0, 2, 3, 4, 5] rfl rfl (by decide) (by decide) hk1 hFc hP1 hD1
  generalize H1 = H at hP hS ⊢
  have hP : va_P (dC, dI) vwCl [(h0, .inr (10, [.ref fq, .ref sq, .ref gq, .ref nq, .ref dq, .ref pq, .int pl, .int bl, .int tb])), (f1q, .inr (6, [.int 3, .int 1, .int 10, .int 0])), (sq, .inr (4, [.int mc_sq, .ref tE, .int 0])), (m0, .inr (8, [.int r_1, .ref t0, .ref z0, .ref w0])), (t0, .inl (ci, 6, .inl (fun _ => 0))), (fq, .inr (4, [.int mc_fq, .ref faq, .int 1])), (faq, .inl (cO, 10, .inr (.inr (.inr (.inr (va_up (fun _ => none) (0 : Int32).toNatClampNeg (some f1q)))))))] H := hP
  have hD : va_D A [(h0, .inr (10, [.ref fq, .ref sq, .ref gq, .ref nq, .ref dq, .ref pq, .int pl, .int bl, .int tb])), (f1q, .inr (6, [.int 3, .int 1, .int 10, .int 0])), (sq, .inr (4, [.int mc_sq, .ref tE, .int 0])), (m0, .inr (8, [.int r_1, .ref t0, .ref z0, .ref w0])), (t0, .inl (ci, 6, .inl (fun _ => 0))), (fq, .inr (4, [.int mc_fq, .ref faq, .int 1])), (faq, .inl (cO, 10, .inr (.inr (.inr (.inr (va_up (fun _ => none) (0 : Int32).toNatClampNeg (some f1q)))))))] := hD
  refine W.widen (k := 0) (n := 0) (by omega) (by omega) ?_
  refine va_castS hx hb hown (hts (.classLink RX5 58 RX1) (List.mem_of_getElem? (i := 31) rfl)) (hK.1 6 _ rfl).2 (va_recv hK hP (ci := 6) (q0 := 1) rfl rfl) dX5_strike_38 ?_
  refine lv_astore (lv' := [(5, .ref f1q), (4, .int 0), (3, .int 0), (0, .ref h0), (1, .ref m0), (2, .int p1)]) hx hb dX5_strike_41 hl (by decide) rfl (fun ls hl => ?_)
  refine lv_aload hx hb dX5_strike_43 (lv_at hl 0 rfl) ?_
  refine lv_aload_n hx hb dX5_strike_45 rfl (lv_at hl 4 rfl) ?_
  refine va_get (D := (dC, dI)) (ci := 8) (v := .int r_1) (C := RX3) (T := TX3) (N := 4) hx hb hts u_c_strike_X3 hown hK hP 3 rfl rfl 0 (by decide) (hts (.fieldLink RX5 156 "HotelOfBells$Moment" "heard" "I") (List.mem_of_getElem? (i := 1) rfl)) (fun _ h9 => h9) rfl dX5_strike_46 ?_
  have hPc := hP.sub (ws' := [(f1q, .inr (6, [.int 3, .int 1, .int 10, .int 0]))]) [1] rfl
  have hDc := hD.sub (ws' := [(f1q, .inr (6, [.int 3, .int 1, .int 10, .int 0]))]) [1] (by decide) rfl
  have hKc := hK.sub (tys' := []) [] rfl
  have hFc := va_free (wc := [(f1q, .inr (6, [.int 3, .int 1, .int 10, .int 0]))]) hD hS hA [1] rfl
  refine va_calli (va_runV (As := [.int r_1]) (rest := []) ⟨hx, hb, hml, hown, hts⟩ (c_hears l hl9 dC dI tE f1q r_1 _ ) (cwV 1 hts (goodIn_app (goodIn_r _ [37, 38, 39, 40] (by rfl) (by decide +kernel)) gg_c_strike_c_hears) rfl rfl rfl (by decide +kernel) ⟨Nat.le_of_ble_eq_true rfl, Nat.le_of_ble_eq_true rfl⟩) ⟨Pre0.blind, va_recv hKc hPc (ci := 6) (q0 := 0) rfl rfl, Pre0.give hPc hKc hDc hT hS hFc⟩ rfl rfl hl.1 rfl (lv_room (Nat.le_of_ble_eq_true rfl)) dX5_strike_49 ⟨Nat.le_of_ble_eq_true rfl, Nat.le_of_ble_eq_true rfl⟩) hS (fun q _ h => hFc q h) hFc (fun r_5 u t H1 locs ht hvm hw hB hz1 hk1 hS => ?_)
  obtain ⟨hP1, hK1, hD1⟩ := hB
  rw [ht] at hP1
  have hK1 := va_K.moved hvm.symm hK1
  obtain ⟨hP, hD⟩ := va_join (wr := [(h0, .inr (10, [.ref fq, .ref sq, .ref gq, .ref nq, .ref dq, .ref pq, .int pl, .int bl, .int tb])), (sq, .inr (4, [.int mc_sq, .ref tE, .int 0])), (m0, .inr (8, [.int r_1, .ref t0, .ref z0, .ref w0])), (t0, .inl (ci, 6, .inl (fun _ => 0))), (fq, .inr (4, [.int mc_fq, .ref faq, .int 1])), (faq, .inl (cO, 10, .inr (.inr (.inr (.inr (va_up (fun _ => none) (0 : Int32).toNatClampNeg (some f1q)))))))]) (w1 := [(f1q, .inr (6, [.int 3, .int 1, .int 10, .int 0]))]) hP hD [1] [0, 2, 3, 4, 5, 6] rfl rfl (by decide) (by decide) hk1 hFc hP1 hD1
  generalize H1 = H at hP hS ⊢
  have hP : va_P (dC, dI) vwCl [(h0, .inr (10, [.ref fq, .ref sq, .ref gq, .ref nq, .ref dq, .ref pq, .int pl, .int bl, .int tb])), (sq, .inr (4, [.int mc_sq, .ref tE, .int 0])), (m0, .inr (8, [.int r_1, .ref t0, .ref z0, .ref w0])), (t0, .inl (ci, 6, .inl (fun _ => 0))), (fq, .inr (4, [.int mc_fq, .ref faq, .int 1])), (faq, .inl (cO, 10, .inr (.inr (.inr (.inr (va_up (fun _ => none) (0 : Int32).toNatClampNeg (some f1q))))))), (f1q, .inr (6, [.int 3, .int 1, .int 10, .int 0]))] H := hP
  have hD : va_D A [(h0, .inr (10, [.ref fq, .ref sq, .ref gq, .ref nq, .ref dq, .ref pq, .int pl, .int bl, .int tb])), (sq, .inr (4, [.int mc_sq, .ref tE, .int 0])), (m0, .inr (8, [.int r_1, .ref t0, .ref z0, .ref w0])), (t0, .inl (ci, 6, .inl (fun _ => 0))), (fq, .inr (4, [.int mc_fq, .ref faq, .int 1])), (faq, .inl (cO, 10, .inr (.inr (.inr (.inr (va_up (fun _ => none) (0 : Int32).toNatClampNeg (some f1q))))))), (f1q, .inr (6, [.int 3, .int 1, .int 10, .int 0]))] := hD
  refine W.widen (k := 0) (n := 0) (by omega) (by omega) ?_
  refine lv_if_eq (tgt := 75) hx hb dX5_strike_52 (by decide) (fun c_6 => ?_) (fun c_6 => ?_)
  · refine lv_iinc (v := 1) (lv' := [(4, .int 1), (5, .ref f1q), (3, .int 0), (0, .ref h0), (1, .ref m0), (2, .int p1)]) hx hb dX5_strike_75 hl (k := 1) rfl (by decide) (by decide) rfl (fun ls hl => ?_)
    refine lv_goto (tgt := 17) hx hb dX5_strike_78 (by decide) ?_
    refine lv_iload hx hb dX5_strike_17 (lv_at hl 0 rfl) ?_
    refine lv_aload_n hx hb dX5_strike_19 rfl (lv_at hl 3 rfl) ?_
    refine va_get (D := (dC, dI)) (ci := 10) (v := .ref fq) (C := RX5) (T := TX5) (N := 9) hx hb hts u_c_strike_X5 hown hK hP 0 rfl rfl 0 (by decide) (hts (.fieldLink RX5 10 "HotelOfBells" "floors" "Ljava/util/ArrayList;") (List.mem_of_getElem? (i := 7) rfl)) (fun _ h9 => h9) rfl dX5_strike_20 ?_
    have hPc := hP.sub (ws' := [(fq, .inr (4, [.int mc_fq, .ref faq, .int 1]))]) [4] rfl
    have hDc := hD.sub (ws' := [(fq, .inr (4, [.int mc_fq, .ref faq, .int 1]))]) [4] (by decide) rfl
    have hKc := hK.sub (tys' := []) [] rfl
    have hFc := va_free (wc := [(fq, .inr (4, [.int mc_fq, .ref faq, .int 1]))]) hD hS hA [4] rfl
    refine va_calli (va_runV (As := []) (rest := [.int 1]) ⟨hx, hb, hml, hown, hts⟩ (c_AL_size l hl9 dC dI tE fq mc_fq 1 (.ref faq) _ ) (cwV 0 hts (goodIn_app (goodIn_r _ [10, 11, 12, 13] (by rfl) (by decide +kernel)) gg_c_strike_c_AL_size) rfl rfl rfl (by decide +kernel) ⟨Nat.le_of_ble_eq_true rfl, Nat.le_of_ble_eq_true rfl⟩) ⟨Pre0.blind, va_recv hKc hPc (ci := 4) (q0 := 0) rfl rfl, Pre0.give hPc hKc hDc hT hS hFc⟩ rfl rfl hl.1 rfl (lv_room (Nat.le_of_ble_eq_true rfl)) dX5_strike_23 ⟨Nat.le_of_ble_eq_true rfl, Nat.le_of_ble_eq_true rfl⟩) hS (fun q _ h => hFc q h) hFc (fun r_7 u t H1 locs ht hvm hw hB hz1 hk1 hS => ?_)
    obtain ⟨hP1, hK1, hD1⟩ := hB
    rw [ht] at hP1
    have hK1 := va_K.moved hvm.symm hK1
    obtain ⟨hP, hD⟩ := va_join (wr := [(h0, .inr (10, [.ref fq, .ref sq, .ref gq, .ref nq, .ref dq, .ref pq, .int pl, .int bl, .int tb])), (sq, .inr (4, [.int mc_sq, .ref tE, .int 0])), (m0, .inr (8, [.int r_1, .ref t0, .ref z0, .ref w0])), (t0, .inl (ci, 6, .inl (fun _ => 0))), (faq, .inl (cO, 10, .inr (.inr (.inr (.inr (va_up (fun _ => none) (0 : Int32).toNatClampNeg (some f1q))))))), (f1q, .inr (6, [.int 3, .int 1, .int 10, .int 0]))]) (w1 := [(fq, .inr (4, [.int mc_fq, .ref faq, .int 1]))]) hP hD [4] [0, 1, 2, 3, 5, 6] rfl rfl (by decide) (by decide) hk1 hFc hP1 hD1
    generalize H1 = H at hP hS ⊢
    have hP : va_P (dC, dI) vwCl [(h0, .inr (10, [.ref fq, .ref sq, .ref gq, .ref nq, .ref dq, .ref pq, .int pl, .int bl, .int tb])), (sq, .inr (4, [.int mc_sq, .ref tE, .int 0])), (m0, .inr (8, [.int r_1, .ref t0, .ref z0, .ref w0])), (t0, .inl (ci, 6, .inl (fun _ => 0))), (faq, .inl (cO, 10, .inr (.inr (.inr (.inr (va_up (fun _ => none) (0 : Int32).toNatClampNeg (some f1q))))))), (f1q, .inr (6, [.int 3, .int 1, .int 10, .int 0])), (fq, .inr (4, [.int mc_fq, .ref faq, .int 1]))] H := hP
    have hD : va_D A [(h0, .inr (10, [.ref fq, .ref sq, .ref gq, .ref nq, .ref dq, .ref pq, .int pl, .int bl, .int tb])), (sq, .inr (4, [.int mc_sq, .ref tE, .int 0])), (m0, .inr (8, [.int r_1, .ref t0, .ref z0, .ref w0])), (t0, .inl (ci, 6, .inl (fun _ => 0))), (faq, .inl (cO, 10, .inr (.inr (.inr (.inr (va_up (fun _ => none) (0 : Int32).toNatClampNeg (some f1q))))))), (f1q, .inr (6, [.int 3, .int 1, .int 10, .int 0])), (fq, .inr (4, [.int mc_fq, .ref faq, .int 1]))] := hD
    refine W.widen (k := 0) (n := 0) (by omega) (by omega) ?_
    obtain rfl : r_7 = 1 := hw
    refine lv_icmp_ge (tgt := 81) hx hb dX5_strike_26 (by decide) (fun _ => ?_) (fun c_8 => absurd (by decide) c_8)
    refine lv_iconst (v := 0) hx hb dX5_strike_81 (by decide) ?_
    refine lv_istore (lv' := [(4, .int 0), (5, .ref f1q), (3, .int 0), (0, .ref h0), (1, .ref m0), (2, .int p1)]) hx hb dX5_strike_82 hl (by decide) rfl (fun ls hl => ?_)
    refine lv_iload hx hb dX5_strike_84 (lv_at hl 0 rfl) ?_
    refine lv_aload_n hx hb dX5_strike_86 rfl (lv_at hl 3 rfl) ?_
    refine va_get (D := (dC, dI)) (ci := 10) (v := .ref sq) (C := RX5) (T := TX5) (N := 9) hx hb hts u_c_strike_X5 hown hK hP 0 rfl rfl 1 (by decide) (hts (.fieldLink RX5 16 "HotelOfBells" "shafts" "Ljava/util/ArrayList;") (List.mem_of_getElem? (i := 41) rfl)) (fun _ h9 => h9) rfl dX5_strike_87 ?_
    have hPc := hP.sub (ws' := [(sq, .inr (4, [.int mc_sq, .ref tE, .int 0]))]) [1] rfl
    have hDc := hD.sub (ws' := [(sq, .inr (4, [.int mc_sq, .ref tE, .int 0]))]) [1] (by decide) rfl
    have hKc := hK.sub (tys' := []) [] rfl
    have hFc := va_free (wc := [(sq, .inr (4, [.int mc_sq, .ref tE, .int 0]))]) hD hS hA [1] rfl
    refine va_calli (va_runV (As := []) (rest := [.int 0]) ⟨hx, hb, hml, hown, hts⟩ (c_AL_size l hl9 dC dI tE sq mc_sq 0 (.ref tE) _ ) (cwV 0 hts (goodIn_app (goodIn_r _ [10, 11, 12, 13] (by rfl) (by decide +kernel)) gg_c_strike_c_AL_size) rfl rfl rfl (by decide +kernel) ⟨Nat.le_of_ble_eq_true rfl, Nat.le_of_ble_eq_true rfl⟩) ⟨Pre0.blind, va_recv hKc hPc (ci := 4) (q0 := 0) rfl rfl, Pre0.give hPc hKc hDc hT hS hFc⟩ rfl rfl hl.1 rfl (lv_room (Nat.le_of_ble_eq_true rfl)) dX5_strike_90 ⟨Nat.le_of_ble_eq_true rfl, Nat.le_of_ble_eq_true rfl⟩) hS (fun q _ h => hFc q h) hFc (fun r_9 u t H1 locs ht hvm hw hB hz1 hk1 hS => ?_)
    obtain ⟨hP1, hK1, hD1⟩ := hB
    rw [ht] at hP1
    have hK1 := va_K.moved hvm.symm hK1
    obtain ⟨hP, hD⟩ := va_join (wr := [(h0, .inr (10, [.ref fq, .ref sq, .ref gq, .ref nq, .ref dq, .ref pq, .int pl, .int bl, .int tb])), (m0, .inr (8, [.int r_1, .ref t0, .ref z0, .ref w0])), (t0, .inl (ci, 6, .inl (fun _ => 0))), (faq, .inl (cO, 10, .inr (.inr (.inr (.inr (va_up (fun _ => none) (0 : Int32).toNatClampNeg (some f1q))))))), (f1q, .inr (6, [.int 3, .int 1, .int 10, .int 0])), (fq, .inr (4, [.int mc_fq, .ref faq, .int 1]))]) (w1 := [(sq, .inr (4, [.int mc_sq, .ref tE, .int 0]))]) hP hD [1] [0, 2, 3, 4, 5, 6] rfl rfl (by decide) (by decide) hk1 hFc hP1 hD1
    generalize H1 = H at hP hS ⊢
    have hP : va_P (dC, dI) vwCl [(h0, .inr (10, [.ref fq, .ref sq, .ref gq, .ref nq, .ref dq, .ref pq, .int pl, .int bl, .int tb])), (m0, .inr (8, [.int r_1, .ref t0, .ref z0, .ref w0])), (t0, .inl (ci, 6, .inl (fun _ => 0))), (faq, .inl (cO, 10, .inr (.inr (.inr (.inr (va_up (fun _ => none) (0 : Int32).toNatClampNeg (some f1q))))))), (f1q, .inr (6, [.int 3, .int 1, .int 10, .int 0])), (fq, .inr (4, [.int mc_fq, .ref faq, .int 1])), (sq, .inr (4, [.int mc_sq, .ref tE, .int 0]))] H := hP
    have hD : va_D A [(h0, .inr (10, [.ref fq, .ref sq, .ref gq, .ref nq, .ref dq, .ref pq, .int pl, .int bl, .int tb])), (m0, .inr (8, [.int r_1, .ref t0, .ref z0, .ref w0])), (t0, .inl (ci, 6, .inl (fun _ => 0))), (faq, .inl (cO, 10, .inr (.inr (.inr (.inr (va_up (fun _ => none) (0 : Int32).toNatClampNeg (some f1q))))))), (f1q, .inr (6, [.int 3, .int 1, .int 10, .int 0])), (fq, .inr (4, [.int mc_fq, .ref faq, .int 1])), (sq, .inr (4, [.int mc_sq, .ref tE, .int 0]))] := hD
    refine W.widen (k := 0) (n := 0) (by omega) (by omega) ?_
    obtain rfl : r_9 = 0 := hw
    refine lv_icmp_ge (tgt := 115) hx hb dX5_strike_93 (by decide) (fun _ => ?_) (fun c_10 => absurd (by decide) c_10)
    refine lv_iload_n hx hb dX5_strike_115 rfl (lv_at hl 2 rfl) ?_
    have hP9 := hP.sub (ws' := [(h0, .inr (10, [.ref fq, .ref sq, .ref gq, .ref nq, .ref dq, .ref pq, .int pl, .int bl, .int tb])), (m0, .inr (8, [.int r_1, .ref t0, .ref z0, .ref w0])), (t0, .inl (ci, 6, .inl (fun _ => 0))), (faq, .inl (cO, 10, .inr (.inr (.inr (.inr (va_up (fun _ => none) (0 : Int32).toNatClampNeg (some f1q))))))), (f1q, .inr (6, [.int 3, .int 1, .int 10, .int 0])), (fq, .inr (4, [.int mc_fq, .ref faq, .int 1])), (sq, .inr (4, [.int mc_sq, .ref tE, .int 0]))]) [0, 1, 2, 3, 4, 5, 6] rfl
    have hD9 := hD.sub (ws' := [(h0, .inr (10, [.ref fq, .ref sq, .ref gq, .ref nq, .ref dq, .ref pq, .int pl, .int bl, .int tb])), (m0, .inr (8, [.int r_1, .ref t0, .ref z0, .ref w0])), (t0, .inl (ci, 6, .inl (fun _ => 0))), (faq, .inl (cO, 10, .inr (.inr (.inr (.inr (va_up (fun _ => none) (0 : Int32).toNatClampNeg (some f1q))))))), (f1q, .inr (6, [.int 3, .int 1, .int 10, .int 0])), (fq, .inr (4, [.int mc_fq, .ref faq, .int 1])), (sq, .inr (4, [.int mc_sq, .ref tE, .int 0]))]) [0, 1, 2, 3, 4, 5, 6] (by decide) rfl
    have hK9 := hK.sub (tys' := [(cO, .object "java/lang/Object"), (ci, .int)]) [0, 1] rfl
    exact W.iret (v := 0) hx hb hr (fun t ht hW => ⟨⟨0, (), rfl, trivial, r_1, by rw [ht]; exact hP9, va_K.moved hW.alike hK9, hD9⟩, hS.F ht⟩) hS.2.2 dX5_strike_116
  · refine lv_aload_n hx hb dX5_strike_55 rfl (lv_at hl 4 rfl) ?_
    refine lv_iload hx hb dX5_strike_56 (lv_at hl 1 rfl) ?_
    refine lv_aload hx hb dX5_strike_58 (lv_at hl 0 rfl) ?_
    refine lv_aload_n hx hb dX5_strike_60 rfl (lv_at hl 4 rfl) ?_
    refine lv_iload hx hb dX5_strike_61 (lv_at hl 1 rfl) ?_
    have hPc := hP.sub (ws' := [(m0, .inr (8, [.int r_1, .ref t0, .ref z0, .ref w0])), (t0, .inl (ci, 6, .inl (fun _ => 0)))]) [2, 3] rfl
    have hDc := hD.sub (ws' := [(m0, .inr (8, [.int r_1, .ref t0, .ref z0, .ref w0])), (t0, .inl (ci, 6, .inl (fun _ => 0)))]) [2, 3] (by decide) rfl
    have hKc := hK.sub (tys' := [(ci, .int)]) [1] rfl
    have hFc := va_free (wc := [(m0, .inr (8, [.int r_1, .ref t0, .ref z0, .ref w0])), (t0, .inl (ci, 6, .inl (fun _ => 0)))]) hD hS hA [2, 3] rfl
    refine va_calli (va_runV (As := [.int 0]) (rest := [.ref f1q, .int 0, .ref m0]) ⟨hx, hb, hml, hown, hts⟩ (c_turnOf_0 l hl9 dC dI tE m0 t0 z0 w0 r_1 ci _ ) (cwV 1 hts (goodIn_app (goodIn_r _ [44, 45, 46, 47] (by rfl) (by decide +kernel)) gg_c_strike_c_turnOf_0) rfl rfl rfl (by decide +kernel) ⟨Nat.le_of_ble_eq_true rfl, Nat.le_of_ble_eq_true rfl⟩) ⟨Pre0.blind, va_recv hKc hPc (ci := 8) (q0 := 0) rfl rfl, Pre0.give hPc hKc hDc hT hS hFc⟩ rfl rfl hl.1 rfl (lv_room (Nat.le_of_ble_eq_true rfl)) dX5_strike_63 ⟨Nat.le_of_ble_eq_true rfl, Nat.le_of_ble_eq_true rfl⟩) hS (fun q _ h => hFc q h) hFc (fun r_11 u t H1 locs ht hvm hw hB hz1 hk1 hS => ?_)
    obtain ⟨hP1, hK1, hD1⟩ := hB
    rw [ht] at hP1
    have hK1 := va_K.moved hvm.symm hK1
    obtain ⟨hP, hD⟩ := va_join (wr := [(h0, .inr (10, [.ref fq, .ref sq, .ref gq, .ref nq, .ref dq, .ref pq, .int pl, .int bl, .int tb])), (sq, .inr (4, [.int mc_sq, .ref tE, .int 0])), (fq, .inr (4, [.int mc_fq, .ref faq, .int 1])), (faq, .inl (cO, 10, .inr (.inr (.inr (.inr (va_up (fun _ => none) (0 : Int32).toNatClampNeg (some f1q))))))), (f1q, .inr (6, [.int 3, .int 1, .int 10, .int 0]))]) (w1 := [(m0, .inr (8, [.int r_1, .ref t0, .ref z0, .ref w0])), (t0, .inl (ci, 6, .inl (fun _ => 0)))]) hP hD [2, 3] [0, 1, 4, 5, 6] rfl rfl (by decide) (by decide) hk1 hFc hP1 hD1
    generalize H1 = H at hP hS ⊢
    have hP : va_P (dC, dI) vwCl [(h0, .inr (10, [.ref fq, .ref sq, .ref gq, .ref nq, .ref dq, .ref pq, .int pl, .int bl, .int tb])), (sq, .inr (4, [.int mc_sq, .ref tE, .int 0])), (fq, .inr (4, [.int mc_fq, .ref faq, .int 1])), (faq, .inl (cO, 10, .inr (.inr (.inr (.inr (va_up (fun _ => none) (0 : Int32).toNatClampNeg (some f1q))))))), (f1q, .inr (6, [.int 3, .int 1, .int 10, .int 0])), (m0, .inr (8, [.int r_1, .ref t0, .ref z0, .ref w0])), (t0, .inl (ci, 6, .inl (fun _ => 0)))] H := hP
    have hD : va_D A [(h0, .inr (10, [.ref fq, .ref sq, .ref gq, .ref nq, .ref dq, .ref pq, .int pl, .int bl, .int tb])), (sq, .inr (4, [.int mc_sq, .ref tE, .int 0])), (fq, .inr (4, [.int mc_fq, .ref faq, .int 1])), (faq, .inl (cO, 10, .inr (.inr (.inr (.inr (va_up (fun _ => none) (0 : Int32).toNatClampNeg (some f1q))))))), (f1q, .inr (6, [.int 3, .int 1, .int 10, .int 0])), (m0, .inr (8, [.int r_1, .ref t0, .ref z0, .ref w0])), (t0, .inl (ci, 6, .inl (fun _ => 0)))] := hD
    refine W.widen (k := 0) (n := 0) (by omega) (by omega) ?_
    obtain rfl : r_11 = 0 := hw
    have hPc := hP.sub (ws' := [(f1q, .inr (6, [.int 3, .int 1, .int 10, .int 0]))]) [4] rfl
    have hDc := hD.sub (ws' := [(f1q, .inr (6, [.int 3, .int 1, .int 10, .int 0]))]) [4] (by decide) rfl
    have hKc := hK.sub (tys' := []) [] rfl
    have hFc := va_free (wc := [(f1q, .inr (6, [.int 3, .int 1, .int 10, .int 0]))]) hD hS hA [4] rfl
    refine va_calli (va_runV (As := [.int 0]) (rest := [.int 0, .ref m0]) ⟨hx, hb, hml, hown, hts⟩ (c_nextTurn l hl9 dC dI tE f1q _ ) (cwV 1 hts (goodIn_app (goodIn_r _ [51, 52, 53, 40] (by rfl) (by decide +kernel)) gg_c_strike_c_nextTurn) rfl rfl rfl (by decide +kernel) ⟨Nat.le_of_ble_eq_true rfl, Nat.le_of_ble_eq_true rfl⟩) ⟨Pre0.blind, va_recv hKc hPc (ci := 6) (q0 := 0) rfl rfl, Pre0.give hPc hKc hDc hT hS hFc⟩ rfl rfl hl.1 rfl (lv_room (Nat.le_of_ble_eq_true rfl)) dX5_strike_66 ⟨Nat.le_of_ble_eq_true rfl, Nat.le_of_ble_eq_true rfl⟩) hS (fun q _ h => hFc q h) hFc (fun r_12 u t H1 locs ht hvm hw hB hz1 hk1 hS => ?_)
    obtain ⟨hP1, hK1, hD1⟩ := hB
    rw [ht] at hP1
    have hK1 := va_K.moved hvm.symm hK1
    obtain ⟨hP, hD⟩ := va_join (wr := [(h0, .inr (10, [.ref fq, .ref sq, .ref gq, .ref nq, .ref dq, .ref pq, .int pl, .int bl, .int tb])), (sq, .inr (4, [.int mc_sq, .ref tE, .int 0])), (fq, .inr (4, [.int mc_fq, .ref faq, .int 1])), (faq, .inl (cO, 10, .inr (.inr (.inr (.inr (va_up (fun _ => none) (0 : Int32).toNatClampNeg (some f1q))))))), (m0, .inr (8, [.int r_1, .ref t0, .ref z0, .ref w0])), (t0, .inl (ci, 6, .inl (fun _ => 0)))]) (w1 := [(f1q, .inr (6, [.int 3, .int 1, .int 10, .int 0]))]) hP hD [4] [0, 1, 2, 3, 5, 6] rfl rfl (by decide) (by decide) hk1 hFc hP1 hD1
    generalize H1 = H at hP hS ⊢
    have hP : va_P (dC, dI) vwCl [(h0, .inr (10, [.ref fq, .ref sq, .ref gq, .ref nq, .ref dq, .ref pq, .int pl, .int bl, .int tb])), (sq, .inr (4, [.int mc_sq, .ref tE, .int 0])), (fq, .inr (4, [.int mc_fq, .ref faq, .int 1])), (faq, .inl (cO, 10, .inr (.inr (.inr (.inr (va_up (fun _ => none) (0 : Int32).toNatClampNeg (some f1q))))))), (m0, .inr (8, [.int r_1, .ref t0, .ref z0, .ref w0])), (t0, .inl (ci, 6, .inl (fun _ => 0))), (f1q, .inr (6, [.int 3, .int 1, .int 10, .int 0]))] H := hP
    have hD : va_D A [(h0, .inr (10, [.ref fq, .ref sq, .ref gq, .ref nq, .ref dq, .ref pq, .int pl, .int bl, .int tb])), (sq, .inr (4, [.int mc_sq, .ref tE, .int 0])), (fq, .inr (4, [.int mc_fq, .ref faq, .int 1])), (faq, .inl (cO, 10, .inr (.inr (.inr (.inr (va_up (fun _ => none) (0 : Int32).toNatClampNeg (some f1q))))))), (m0, .inr (8, [.int r_1, .ref t0, .ref z0, .ref w0])), (t0, .inl (ci, 6, .inl (fun _ => 0))), (f1q, .inr (6, [.int 3, .int 1, .int 10, .int 0]))] := hD
    refine W.widen (k := 0) (n := 0) (by omega) (by omega) ?_
    obtain rfl : r_12 = 0 := hw
    have hPc := hP.sub (ws' := [(m0, .inr (8, [.int r_1, .ref t0, .ref z0, .ref w0])), (t0, .inl (ci, 6, .inl (fun _ => 0)))]) [4, 5] rfl
    have hDc := hD.sub (ws' := [(m0, .inr (8, [.int r_1, .ref t0, .ref z0, .ref w0])), (t0, .inl (ci, 6, .inl (fun _ => 0)))]) [4, 5] (by decide) rfl
    have hKc := hK.sub (tys' := [(ci, .int)]) [1] rfl
    have hFc := va_free (wc := [(m0, .inr (8, [.int r_1, .ref t0, .ref z0, .ref w0])), (t0, .inl (ci, 6, .inl (fun _ => 0)))]) hD hS hA [4, 5] rfl
    refine va_callv (va_runV (As := [.int 0, .int 0]) (rest := []) ⟨hx, hb, hml, hown, hts⟩ (c_setTurn l hl9 dC dI tE m0 t0 z0 w0 r_1 ci _ ) (cwV 2 hts (goodIn_app (goodIn_r _ [55, 56, 57, 47] (by rfl) (by decide +kernel)) gg_c_strike_c_setTurn) rfl rfl rfl (by decide +kernel) ⟨Nat.le_of_ble_eq_true rfl, Nat.le_of_ble_eq_true rfl⟩) ⟨Pre0.blind, va_recv hKc hPc (ci := 8) (q0 := 0) rfl rfl, Pre0.give hPc hKc hDc hT hS hFc⟩ rfl rfl hl.1 rfl (lv_room (Nat.le_of_ble_eq_true rfl)) dX5_strike_69 ⟨Nat.le_of_ble_eq_true rfl, Nat.le_of_ble_eq_true rfl⟩) hS (fun q _ h => hFc q h) hFc (fun u t H1 locs ht hvm hw hB hz1 hk1 hS => ?_)
    obtain ⟨hP1, hK1, hD1⟩ := hB
    rw [ht] at hP1
    have hK1 := va_K.moved hvm.symm hK1
    obtain ⟨hP, hD⟩ := va_join (wr := [(h0, .inr (10, [.ref fq, .ref sq, .ref gq, .ref nq, .ref dq, .ref pq, .int pl, .int bl, .int tb])), (sq, .inr (4, [.int mc_sq, .ref tE, .int 0])), (fq, .inr (4, [.int mc_fq, .ref faq, .int 1])), (faq, .inl (cO, 10, .inr (.inr (.inr (.inr (va_up (fun _ => none) (0 : Int32).toNatClampNeg (some f1q))))))), (f1q, .inr (6, [.int 3, .int 1, .int 10, .int 0]))]) (w1 := [(m0, .inr (8, [.int r_1, .ref t0, .ref z0, .ref w0])), (t0, .inl (ci, 6, .inl (fun _ => 0)))]) hP hD [4, 5] [0, 1, 2, 3, 6] rfl rfl (by decide) (by decide) hk1 hFc hP1 hD1
    generalize H1 = H at hP hS ⊢
    have hP : va_P (dC, dI) vwCl [(h0, .inr (10, [.ref fq, .ref sq, .ref gq, .ref nq, .ref dq, .ref pq, .int pl, .int bl, .int tb])), (sq, .inr (4, [.int mc_sq, .ref tE, .int 0])), (fq, .inr (4, [.int mc_fq, .ref faq, .int 1])), (faq, .inl (cO, 10, .inr (.inr (.inr (.inr (va_up (fun _ => none) (0 : Int32).toNatClampNeg (some f1q))))))), (f1q, .inr (6, [.int 3, .int 1, .int 10, .int 0])), (m0, .inr (8, [.int r_1, .ref t0, .ref z0, .ref w0])), (t0, .inl (ci, 6, .inl (fun _ => 0)))] H := hP
    have hD : va_D A [(h0, .inr (10, [.ref fq, .ref sq, .ref gq, .ref nq, .ref dq, .ref pq, .int pl, .int bl, .int tb])), (sq, .inr (4, [.int mc_sq, .ref tE, .int 0])), (fq, .inr (4, [.int mc_fq, .ref faq, .int 1])), (faq, .inl (cO, 10, .inr (.inr (.inr (.inr (va_up (fun _ => none) (0 : Int32).toNatClampNeg (some f1q))))))), (f1q, .inr (6, [.int 3, .int 1, .int 10, .int 0])), (m0, .inr (8, [.int r_1, .ref t0, .ref z0, .ref w0])), (t0, .inl (ci, 6, .inl (fun _ => 0)))] := hD
    refine W.widen (k := 0) (n := 0) (by omega) (by omega) ?_
    refine lv_iinc (v := 1) (lv' := [(3, .int 1), (5, .ref f1q), (4, .int 0), (0, .ref h0), (1, .ref m0), (2, .int p1)]) hx hb dX5_strike_72 hl (k := 2) rfl (by decide) (by decide) rfl (fun ls hl => ?_)
    refine lv_iinc (v := 1) (lv' := [(4, .int 1), (3, .int 1), (5, .ref f1q), (0, .ref h0), (1, .ref m0), (2, .int p1)]) hx hb dX5_strike_75 hl (k := 2) rfl (by decide) (by decide) rfl (fun ls hl => ?_)
    refine lv_goto (tgt := 17) hx hb dX5_strike_78 (by decide) ?_
    refine lv_iload hx hb dX5_strike_17 (lv_at hl 0 rfl) ?_
    refine lv_aload_n hx hb dX5_strike_19 rfl (lv_at hl 3 rfl) ?_
    refine va_get (D := (dC, dI)) (ci := 10) (v := .ref fq) (C := RX5) (T := TX5) (N := 9) hx hb hts u_c_strike_X5 hown hK hP 0 rfl rfl 0 (by decide) (hts (.fieldLink RX5 10 "HotelOfBells" "floors" "Ljava/util/ArrayList;") (List.mem_of_getElem? (i := 7) rfl)) (fun _ h9 => h9) rfl dX5_strike_20 ?_
    have hPc := hP.sub (ws' := [(fq, .inr (4, [.int mc_fq, .ref faq, .int 1]))]) [2] rfl
    have hDc := hD.sub (ws' := [(fq, .inr (4, [.int mc_fq, .ref faq, .int 1]))]) [2] (by decide) rfl
    have hKc := hK.sub (tys' := []) [] rfl
    have hFc := va_free (wc := [(fq, .inr (4, [.int mc_fq, .ref faq, .int 1]))]) hD hS hA [2] rfl
    refine va_calli (va_runV (As := []) (rest := [.int 1]) ⟨hx, hb, hml, hown, hts⟩ (c_AL_size l hl9 dC dI tE fq mc_fq 1 (.ref faq) _ ) (cwV 0 hts (goodIn_app (goodIn_r _ [10, 11, 12, 13] (by rfl) (by decide +kernel)) gg_c_strike_c_AL_size) rfl rfl rfl (by decide +kernel) ⟨Nat.le_of_ble_eq_true rfl, Nat.le_of_ble_eq_true rfl⟩) ⟨Pre0.blind, va_recv hKc hPc (ci := 4) (q0 := 0) rfl rfl, Pre0.give hPc hKc hDc hT hS hFc⟩ rfl rfl hl.1 rfl (lv_room (Nat.le_of_ble_eq_true rfl)) dX5_strike_23 ⟨Nat.le_of_ble_eq_true rfl, Nat.le_of_ble_eq_true rfl⟩) hS (fun q _ h => hFc q h) hFc (fun r_14 u t H1 locs ht hvm hw hB hz1 hk1 hS => ?_)
    obtain ⟨hP1, hK1, hD1⟩ := hB
    rw [ht] at hP1
    have hK1 := va_K.moved hvm.symm hK1
    obtain ⟨hP, hD⟩ := va_join (wr := [(h0, .inr (10, [.ref fq, .ref sq, .ref gq, .ref nq, .ref dq, .ref pq, .int pl, .int bl, .int tb])), (sq, .inr (4, [.int mc_sq, .ref tE, .int 0])), (faq, .inl (cO, 10, .inr (.inr (.inr (.inr (va_up (fun _ => none) (0 : Int32).toNatClampNeg (some f1q))))))), (f1q, .inr (6, [.int 3, .int 1, .int 10, .int 0])), (m0, .inr (8, [.int r_1, .ref t0, .ref z0, .ref w0])), (t0, .inl (ci, 6, .inl (fun _ => 0)))]) (w1 := [(fq, .inr (4, [.int mc_fq, .ref faq, .int 1]))]) hP hD [2] [0, 1, 3, 4, 5, 6] rfl rfl (by decide) (by decide) hk1 hFc hP1 hD1
    generalize H1 = H at hP hS ⊢
    have hP : va_P (dC, dI) vwCl [(h0, .inr (10, [.ref fq, .ref sq, .ref gq, .ref nq, .ref dq, .ref pq, .int pl, .int bl, .int tb])), (sq, .inr (4, [.int mc_sq, .ref tE, .int 0])), (faq, .inl (cO, 10, .inr (.inr (.inr (.inr (va_up (fun _ => none) (0 : Int32).toNatClampNeg (some f1q))))))), (f1q, .inr (6, [.int 3, .int 1, .int 10, .int 0])), (m0, .inr (8, [.int r_1, .ref t0, .ref z0, .ref w0])), (t0, .inl (ci, 6, .inl (fun _ => 0))), (fq, .inr (4, [.int mc_fq, .ref faq, .int 1]))] H := hP
    have hD : va_D A [(h0, .inr (10, [.ref fq, .ref sq, .ref gq, .ref nq, .ref dq, .ref pq, .int pl, .int bl, .int tb])), (sq, .inr (4, [.int mc_sq, .ref tE, .int 0])), (faq, .inl (cO, 10, .inr (.inr (.inr (.inr (va_up (fun _ => none) (0 : Int32).toNatClampNeg (some f1q))))))), (f1q, .inr (6, [.int 3, .int 1, .int 10, .int 0])), (m0, .inr (8, [.int r_1, .ref t0, .ref z0, .ref w0])), (t0, .inl (ci, 6, .inl (fun _ => 0))), (fq, .inr (4, [.int mc_fq, .ref faq, .int 1]))] := hD
    refine W.widen (k := 0) (n := 0) (by omega) (by omega) ?_
    obtain rfl : r_14 = 1 := hw
    refine lv_icmp_ge (tgt := 81) hx hb dX5_strike_26 (by decide) (fun _ => ?_) (fun c_15 => absurd (by decide) c_15)
    refine lv_iconst (v := 0) hx hb dX5_strike_81 (by decide) ?_
    refine lv_istore (lv' := [(4, .int 0), (3, .int 1), (5, .ref f1q), (0, .ref h0), (1, .ref m0), (2, .int p1)]) hx hb dX5_strike_82 hl (by decide) rfl (fun ls hl => ?_)
    refine lv_iload hx hb dX5_strike_84 (lv_at hl 0 rfl) ?_
    refine lv_aload_n hx hb dX5_strike_86 rfl (lv_at hl 3 rfl) ?_
    refine va_get (D := (dC, dI)) (ci := 10) (v := .ref sq) (C := RX5) (T := TX5) (N := 9) hx hb hts u_c_strike_X5 hown hK hP 0 rfl rfl 1 (by decide) (hts (.fieldLink RX5 16 "HotelOfBells" "shafts" "Ljava/util/ArrayList;") (List.mem_of_getElem? (i := 41) rfl)) (fun _ h9 => h9) rfl dX5_strike_87 ?_
    have hPc := hP.sub (ws' := [(sq, .inr (4, [.int mc_sq, .ref tE, .int 0]))]) [1] rfl
    have hDc := hD.sub (ws' := [(sq, .inr (4, [.int mc_sq, .ref tE, .int 0]))]) [1] (by decide) rfl
    have hKc := hK.sub (tys' := []) [] rfl
    have hFc := va_free (wc := [(sq, .inr (4, [.int mc_sq, .ref tE, .int 0]))]) hD hS hA [1] rfl
    refine va_calli (va_runV (As := []) (rest := [.int 0]) ⟨hx, hb, hml, hown, hts⟩ (c_AL_size l hl9 dC dI tE sq mc_sq 0 (.ref tE) _ ) (cwV 0 hts (goodIn_app (goodIn_r _ [10, 11, 12, 13] (by rfl) (by decide +kernel)) gg_c_strike_c_AL_size) rfl rfl rfl (by decide +kernel) ⟨Nat.le_of_ble_eq_true rfl, Nat.le_of_ble_eq_true rfl⟩) ⟨Pre0.blind, va_recv hKc hPc (ci := 4) (q0 := 0) rfl rfl, Pre0.give hPc hKc hDc hT hS hFc⟩ rfl rfl hl.1 rfl (lv_room (Nat.le_of_ble_eq_true rfl)) dX5_strike_90 ⟨Nat.le_of_ble_eq_true rfl, Nat.le_of_ble_eq_true rfl⟩) hS (fun q _ h => hFc q h) hFc (fun r_16 u t H1 locs ht hvm hw hB hz1 hk1 hS => ?_)
    obtain ⟨hP1, hK1, hD1⟩ := hB
    rw [ht] at hP1
    have hK1 := va_K.moved hvm.symm hK1
    obtain ⟨hP, hD⟩ := va_join (wr := [(h0, .inr (10, [.ref fq, .ref sq, .ref gq, .ref nq, .ref dq, .ref pq, .int pl, .int bl, .int tb])), (faq, .inl (cO, 10, .inr (.inr (.inr (.inr (va_up (fun _ => none) (0 : Int32).toNatClampNeg (some f1q))))))), (f1q, .inr (6, [.int 3, .int 1, .int 10, .int 0])), (m0, .inr (8, [.int r_1, .ref t0, .ref z0, .ref w0])), (t0, .inl (ci, 6, .inl (fun _ => 0))), (fq, .inr (4, [.int mc_fq, .ref faq, .int 1]))]) (w1 := [(sq, .inr (4, [.int mc_sq, .ref tE, .int 0]))]) hP hD [1] [0, 2, 3, 4, 5, 6] rfl rfl (by decide) (by decide) hk1 hFc hP1 hD1
    generalize H1 = H at hP hS ⊢
    have hP : va_P (dC, dI) vwCl [(h0, .inr (10, [.ref fq, .ref sq, .ref gq, .ref nq, .ref dq, .ref pq, .int pl, .int bl, .int tb])), (faq, .inl (cO, 10, .inr (.inr (.inr (.inr (va_up (fun _ => none) (0 : Int32).toNatClampNeg (some f1q))))))), (f1q, .inr (6, [.int 3, .int 1, .int 10, .int 0])), (m0, .inr (8, [.int r_1, .ref t0, .ref z0, .ref w0])), (t0, .inl (ci, 6, .inl (fun _ => 0))), (fq, .inr (4, [.int mc_fq, .ref faq, .int 1])), (sq, .inr (4, [.int mc_sq, .ref tE, .int 0]))] H := hP
    have hD : va_D A [(h0, .inr (10, [.ref fq, .ref sq, .ref gq, .ref nq, .ref dq, .ref pq, .int pl, .int bl, .int tb])), (faq, .inl (cO, 10, .inr (.inr (.inr (.inr (va_up (fun _ => none) (0 : Int32).toNatClampNeg (some f1q))))))), (f1q, .inr (6, [.int 3, .int 1, .int 10, .int 0])), (m0, .inr (8, [.int r_1, .ref t0, .ref z0, .ref w0])), (t0, .inl (ci, 6, .inl (fun _ => 0))), (fq, .inr (4, [.int mc_fq, .ref faq, .int 1])), (sq, .inr (4, [.int mc_sq, .ref tE, .int 0]))] := hD
    refine W.widen (k := 0) (n := 0) (by omega) (by omega) ?_
    obtain rfl : r_16 = 0 := hw
    refine lv_icmp_ge (tgt := 115) hx hb dX5_strike_93 (by decide) (fun _ => ?_) (fun c_17 => absurd (by decide) c_17)
    refine lv_iload_n hx hb dX5_strike_115 rfl (lv_at hl 1 rfl) ?_
    have hP9 := hP.sub (ws' := [(h0, .inr (10, [.ref fq, .ref sq, .ref gq, .ref nq, .ref dq, .ref pq, .int pl, .int bl, .int tb])), (m0, .inr (8, [.int r_1, .ref t0, .ref z0, .ref w0])), (t0, .inl (ci, 6, .inl (fun _ => 0))), (faq, .inl (cO, 10, .inr (.inr (.inr (.inr (va_up (fun _ => none) (0 : Int32).toNatClampNeg (some f1q))))))), (f1q, .inr (6, [.int 3, .int 1, .int 10, .int 0])), (fq, .inr (4, [.int mc_fq, .ref faq, .int 1])), (sq, .inr (4, [.int mc_sq, .ref tE, .int 0]))]) [0, 3, 4, 1, 2, 5, 6] rfl
    have hD9 := hD.sub (ws' := [(h0, .inr (10, [.ref fq, .ref sq, .ref gq, .ref nq, .ref dq, .ref pq, .int pl, .int bl, .int tb])), (m0, .inr (8, [.int r_1, .ref t0, .ref z0, .ref w0])), (t0, .inl (ci, 6, .inl (fun _ => 0))), (faq, .inl (cO, 10, .inr (.inr (.inr (.inr (va_up (fun _ => none) (0 : Int32).toNatClampNeg (some f1q))))))), (f1q, .inr (6, [.int 3, .int 1, .int 10, .int 0])), (fq, .inr (4, [.int mc_fq, .ref faq, .int 1])), (sq, .inr (4, [.int mc_sq, .ref tE, .int 0]))]) [0, 3, 4, 1, 2, 5, 6] (by decide) rfl
    have hK9 := hK.sub (tys' := [(cO, .object "java/lang/Object"), (ci, .int)]) [0, 1] rfl
    exact W.iret (v := 1) hx hb hr (fun t ht hW => ⟨⟨1, (), rfl, trivial, r_1, by rw [ht]; exact hP9, va_K.moved hW.alike hK9, hD9⟩, hS.F ht⟩) hS.2.2 dX5_strike_116
