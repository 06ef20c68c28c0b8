theorem dL_addFloor_0 : decode cL_addFloor 0 = .ok (.aload_n 2, 1) := by decide +kernel
theorem dL_addFloor_1 : decode cL_addFloor 1 = .ok (.iconst 0, 1) := by decide +kernel
theorem dL_addFloor_12 : decode cL_addFloor 12 = .ok (.astore_n 3, 1) := by decide +kernel
theorem dL_addFloor_13 : decode cL_addFloor 13 = .ok (.iconst 1, 1) := by decide +kernel
theorem dL_addFloor_14 : decode cL_addFloor 14 = .ok (.ireturn, 1) := by decide +kernel
theorem dL_addFloor_18 : decode cL_addFloor 18 = .ok (.iconst 0, 1) := by decide +kernel
theorem dL_addFloor_19 : decode cL_addFloor 19 = .ok (.ireturn, 1) := by decide +kernel
theorem dL_addFloor_2 : decode cL_addFloor 2 = .ok (.aload_n 0, 1) := by decide +kernel
theorem dL_addFloor_3 : decode cL_addFloor 3 = .ok (.iload_n 1, 1) := by decide +kernel
theorem dL_addFloor_4 : decode cL_addFloor 4 = .ok (.invokevirtual 7, 3) := by decide +kernel
theorem dL_addFloor_7 : decode cL_addFloor 7 = .ok (.i2l, 1) := by decide +kernel
theorem dL_addFloor_8 : decode cL_addFloor 8 = .ok (.lastore, 1) := by decide +kernel
theorem dL_addFloor_9 : decode cL_addFloor 9 = .ok (.goto 9, 3) := by decide +kernel
theorem dL_addGuest_0 : decode cL_addGuest 0 = .ok (.aload_n 3, 1) := by decide +kernel
theorem dL_addGuest_1 : decode cL_addGuest 1 = .ok (.iconst 0, 1) := by decide +kernel
theorem dL_addGuest_13 : decode cL_addGuest 13 = .ok (.astore 4, 2) := by decide +kernel
theorem dL_addGuest_15 : decode cL_addGuest 15 = .ok (.iconst 1, 1) := by decide +kernel
theorem dL_addGuest_16 : decode cL_addGuest 16 = .ok (.ireturn, 1) := by decide +kernel
theorem dL_addGuest_2 : decode cL_addGuest 2 = .ok (.aload_n 0, 1) := by decide +kernel
theorem dL_addGuest_3 : decode cL_addGuest 3 = .ok (.iload_n 1, 1) := by decide +kernel
theorem dL_addGuest_4 : decode cL_addGuest 4 = .ok (.iload_n 2, 1) := by decide +kernel
theorem dL_addGuest_5 : decode cL_addGuest 5 = .ok (.invokevirtual 30, 3) := by decide +kernel
theorem dL_addLift_0 : decode cL_addLift 0 = .ok (.aload_n 1, 1) := by decide +kernel
theorem dL_addLift_1 : decode cL_addLift 1 = .ok (.iconst 0, 1) := by decide +kernel
theorem dL_addLift_14 : decode cL_addLift 14 = .ok (.iconst 0, 1) := by decide +kernel
theorem dL_addLift_15 : decode cL_addLift 15 = .ok (.ireturn, 1) := by decide +kernel
theorem dL_addLift_2 : decode cL_addLift 2 = .ok (.aload_n 0, 1) := by decide +kernel
theorem dL_addLift_3 : decode cL_addLift 3 = .ok (.invokevirtual 23, 3) := by decide +kernel
theorem dL_addLift_6 : decode cL_addLift 6 = .ok (.i2l, 1) := by decide +kernel
theorem dL_addLift_7 : decode cL_addLift 7 = .ok (.lastore, 1) := by decide +kernel
theorem dL_addLift_8 : decode cL_addLift 8 = .ok (.goto 6, 3) := by decide +kernel
theorem dL_advise_0 : decode cL_advise 0 = .ok (.aload_n 3, 1) := by decide +kernel
theorem dL_advise_1 : decode cL_advise 1 = .ok (.iconst 0, 1) := by decide +kernel
theorem dL_advise_13 : decode cL_advise 13 = .ok (.astore 4, 2) := by decide +kernel
theorem dL_advise_15 : decode cL_advise 15 = .ok (.iconst 1, 1) := by decide +kernel
theorem dL_advise_16 : decode cL_advise 16 = .ok (.ireturn, 1) := by decide +kernel
theorem dL_advise_2 : decode cL_advise 2 = .ok (.aload_n 0, 1) := by decide +kernel
theorem dL_advise_3 : decode cL_advise 3 = .ok (.iload_n 1, 1) := by decide +kernel
theorem dL_advise_4 : decode cL_advise 4 = .ok (.iload_n 2, 1) := by decide +kernel
theorem dL_advise_5 : decode cL_advise 5 = .ok (.invokevirtual 62, 3) := by decide +kernel
theorem dL_byteAt_0 : decode cL_byteAt 0 = .ok (.aload_n 2, 1) := by decide +kernel
theorem dL_byteAt_1 : decode cL_byteAt 1 = .ok (.iconst 0, 1) := by decide +kernel
theorem dL_byteAt_12 : decode cL_byteAt 12 = .ok (.astore_n 3, 1) := by decide +kernel
theorem dL_byteAt_13 : decode cL_byteAt 13 = .ok (.iconst 1, 1) := by decide +kernel
theorem dL_byteAt_14 : decode cL_byteAt 14 = .ok (.ireturn, 1) := by decide +kernel
theorem dL_byteAt_2 : decode cL_byteAt 2 = .ok (.aload_n 0, 1) := by decide +kernel
theorem dL_byteAt_3 : decode cL_byteAt 3 = .ok (.iload_n 1, 1) := by decide +kernel
theorem dL_byteAt_4 : decode cL_byteAt 4 = .ok (.invokevirtual 68, 3) := by decide +kernel
theorem dL_count_0 : decode cL_count 0 = .ok (.aload_n 2, 1) := by decide +kernel
theorem dL_count_1 : decode cL_count 1 = .ok (.iconst 0, 1) := by decide +kernel
theorem dL_count_12 : decode cL_count 12 = .ok (.astore_n 3, 1) := by decide +kernel
theorem dL_count_13 : decode cL_count 13 = .ok (.iconst 1, 1) := by decide +kernel
theorem dL_count_14 : decode cL_count 14 = .ok (.ireturn, 1) := by decide +kernel
theorem dL_count_15 : decode cL_count 15 = .ok (.iconst 0, 1) := by decide +kernel
theorem dL_count_16 : decode cL_count 16 = .ok (.ireturn, 1) := by decide +kernel
theorem dL_count_2 : decode cL_count 2 = .ok (.aload_n 0, 1) := by decide +kernel
theorem dL_count_3 : decode cL_count 3 = .ok (.iload_n 1, 1) := by decide +kernel
theorem dL_count_4 : decode cL_count 4 = .ok (.invokevirtual 50, 3) := by decide +kernel
theorem dL_count_7 : decode cL_count 7 = .ok (.i2l, 1) := by decide +kernel
theorem dL_count_8 : decode cL_count 8 = .ok (.lastore, 1) := by decide +kernel
theorem dL_count_9 : decode cL_count 9 = .ok (.goto 6, 3) := by decide +kernel
theorem dL_floor_0 : decode cL_floor 0 = .ok (.aload_n 3, 1) := by decide +kernel
theorem dL_floor_1 : decode cL_floor 1 = .ok (.iconst 0, 1) := by decide +kernel
theorem dL_floor_13 : decode cL_floor 13 = .ok (.astore 4, 2) := by decide +kernel
theorem dL_floor_15 : decode cL_floor 15 = .ok (.iconst 1, 1) := by decide +kernel
theorem dL_floor_16 : decode cL_floor 16 = .ok (.ireturn, 1) := by decide +kernel
theorem dL_floor_2 : decode cL_floor 2 = .ok (.aload_n 0, 1) := by decide +kernel
theorem dL_floor_3 : decode cL_floor 3 = .ok (.iload_n 1, 1) := by decide +kernel
theorem dL_floor_4 : decode cL_floor 4 = .ok (.iload_n 2, 1) := by decide +kernel
theorem dL_floor_5 : decode cL_floor 5 = .ok (.invokevirtual 38, 3) := by decide +kernel
theorem dL_foresee_0 : decode cL_foresee 0 = .ok (.aload_n 3, 1) := by decide +kernel
theorem dL_foresee_1 : decode cL_foresee 1 = .ok (.iconst 0, 1) := by decide +kernel
theorem dL_foresee_13 : decode cL_foresee 13 = .ok (.astore 4, 2) := by decide +kernel
theorem dL_foresee_15 : decode cL_foresee 15 = .ok (.iconst 1, 1) := by decide +kernel
theorem dL_foresee_16 : decode cL_foresee 16 = .ok (.ireturn, 1) := by decide +kernel
theorem dL_foresee_2 : decode cL_foresee 2 = .ok (.aload_n 0, 1) := by decide +kernel
theorem dL_foresee_3 : decode cL_foresee 3 = .ok (.iload_n 1, 1) := by decide +kernel
theorem dL_foresee_4 : decode cL_foresee 4 = .ok (.iload_n 2, 1) := by decide +kernel
theorem dL_foresee_5 : decode cL_foresee 5 = .ok (.invokevirtual 59, 3) := by decide +kernel
theorem dL_guest_0 : decode cL_guest 0 = .ok (.aload_n 3, 1) := by decide +kernel
theorem dL_guest_1 : decode cL_guest 1 = .ok (.iconst 0, 1) := by decide +kernel
theorem dL_guest_13 : decode cL_guest 13 = .ok (.astore 4, 2) := by decide +kernel
theorem dL_guest_15 : decode cL_guest 15 = .ok (.iconst 1, 1) := by decide +kernel
theorem dL_guest_16 : decode cL_guest 16 = .ok (.ireturn, 1) := by decide +kernel
theorem dL_guest_2 : decode cL_guest 2 = .ok (.aload_n 0, 1) := by decide +kernel
theorem dL_guest_3 : decode cL_guest 3 = .ok (.iload_n 1, 1) := by decide +kernel
theorem dL_guest_4 : decode cL_guest 4 = .ok (.iload_n 2, 1) := by decide +kernel
theorem dL_guest_5 : decode cL_guest 5 = .ok (.invokevirtual 47, 3) := by decide +kernel
theorem dL_lift_0 : decode cL_lift 0 = .ok (.aload_n 3, 1) := by decide +kernel
theorem dL_lift_1 : decode cL_lift 1 = .ok (.iconst 0, 1) := by decide +kernel
theorem dL_lift_13 : decode cL_lift 13 = .ok (.astore 4, 2) := by decide +kernel
theorem dL_lift_15 : decode cL_lift 15 = .ok (.iconst 1, 1) := by decide +kernel
theorem dL_lift_16 : decode cL_lift 16 = .ok (.ireturn, 1) := by decide +kernel
theorem dL_lift_2 : decode cL_lift 2 = .ok (.aload_n 0, 1) := by decide +kernel
theorem dL_lift_3 : decode cL_lift 3 = .ok (.iload_n 1, 1) := by decide +kernel
theorem dL_lift_4 : decode cL_lift 4 = .ok (.iload_n 2, 1) := by decide +kernel
theorem dL_lift_5 : decode cL_lift 5 = .ok (.invokevirtual 44, 3) := by decide +kernel
theorem dL_place_0 : decode cL_place 0 = .ok (.aload_n 3, 1) := by decide +kernel
theorem dL_place_1 : decode cL_place 1 = .ok (.iconst 0, 1) := by decide +kernel
theorem dL_place_13 : decode cL_place 13 = .ok (.astore 4, 2) := by decide +kernel
theorem dL_place_15 : decode cL_place 15 = .ok (.iconst 1, 1) := by decide +kernel
theorem dL_place_16 : decode cL_place 16 = .ok (.ireturn, 1) := by decide +kernel
theorem dL_place_2 : decode cL_place 2 = .ok (.aload_n 0, 1) := by decide +kernel
theorem dL_place_3 : decode cL_place 3 = .ok (.iload_n 1, 1) := by decide +kernel
theorem dL_place_4 : decode cL_place 4 = .ok (.iload_n 2, 1) := by decide +kernel
theorem dL_place_5 : decode cL_place 5 = .ok (.invokevirtual 41, 3) := by decide +kernel
theorem dL_play_0 : decode cL_play 0 = .ok (.aload_n 2, 1) := by decide +kernel
theorem dL_play_1 : decode cL_play 1 = .ok (.iconst 0, 1) := by decide +kernel
theorem dL_play_12 : decode cL_play 12 = .ok (.astore_n 3, 1) := by decide +kernel
theorem dL_play_13 : decode cL_play 13 = .ok (.iconst 1, 1) := by decide +kernel
theorem dL_play_14 : decode cL_play 14 = .ok (.ireturn, 1) := by decide +kernel
theorem dL_play_15 : decode cL_play 15 = .ok (.iconst 0, 1) := by decide +kernel
theorem dL_play_16 : decode cL_play 16 = .ok (.ireturn, 1) := by decide +kernel
theorem dL_play_2 : decode cL_play 2 = .ok (.aload_n 0, 1) := by decide +kernel
theorem dL_play_3 : decode cL_play 3 = .ok (.iload_n 1, 1) := by decide +kernel
theorem dL_play_4 : decode cL_play 4 = .ok (.invokevirtual 56, 3) := by decide +kernel
theorem dL_play_7 : decode cL_play 7 = .ok (.i2l, 1) := by decide +kernel
theorem dL_play_8 : decode cL_play 8 = .ok (.lastore, 1) := by decide +kernel
theorem dL_play_9 : decode cL_play 9 = .ok (.goto 6, 3) := by decide +kernel
theorem dL_ring_0 : decode cL_ring 0 = .ok (.aload_n 2, 1) := by decide +kernel
theorem dL_ring_1 : decode cL_ring 1 = .ok (.iconst 0, 1) := by decide +kernel
theorem dL_ring_12 : decode cL_ring 12 = .ok (.astore_n 3, 1) := by decide +kernel
theorem dL_ring_13 : decode cL_ring 13 = .ok (.iconst 1, 1) := by decide +kernel
theorem dL_ring_14 : decode cL_ring 14 = .ok (.ireturn, 1) := by decide +kernel
theorem dL_ring_15 : decode cL_ring 15 = .ok (.iconst 0, 1) := by decide +kernel
theorem dL_ring_16 : decode cL_ring 16 = .ok (.ireturn, 1) := by decide +kernel
theorem dL_ring_2 : decode cL_ring 2 = .ok (.aload_n 0, 1) := by decide +kernel
theorem dL_ring_3 : decode cL_ring 3 = .ok (.iload_n 1, 1) := by decide +kernel
theorem dL_ring_4 : decode cL_ring 4 = .ok (.invokevirtual 53, 3) := by decide +kernel
theorem dL_ring_7 : decode cL_ring 7 = .ok (.i2l, 1) := by decide +kernel
theorem dL_ring_8 : decode cL_ring 8 = .ok (.lastore, 1) := by decide +kernel
theorem dL_ring_9 : decode cL_ring 9 = .ok (.goto 6, 3) := by decide +kernel
theorem dL_setDoor_0 : decode cL_setDoor 0 = .ok (.aload 4, 2) := by decide +kernel
theorem dL_setDoor_15 : decode cL_setDoor 15 = .ok (.astore 5, 2) := by decide +kernel
theorem dL_setDoor_17 : decode cL_setDoor 17 = .ok (.iconst 1, 1) := by decide +kernel
theorem dL_setDoor_18 : decode cL_setDoor 18 = .ok (.ireturn, 1) := by decide +kernel
theorem dL_setDoor_2 : decode cL_setDoor 2 = .ok (.iconst 0, 1) := by decide +kernel
theorem dL_setDoor_3 : decode cL_setDoor 3 = .ok (.aload_n 0, 1) := by decide +kernel
theorem dL_setDoor_4 : decode cL_setDoor 4 = .ok (.iload_n 1, 1) := by decide +kernel
theorem dL_setDoor_5 : decode cL_setDoor 5 = .ok (.iload_n 2, 1) := by decide +kernel
theorem dL_setDoor_6 : decode cL_setDoor 6 = .ok (.iload_n 3, 1) := by decide +kernel
theorem dL_setDoor_7 : decode cL_setDoor 7 = .ok (.invokevirtual 27, 3) := by decide +kernel
theorem dL_setTune_0 : decode cL_setTune 0 = .ok (.aload 4, 2) := by decide +kernel
theorem dL_setTune_15 : decode cL_setTune 15 = .ok (.astore 5, 2) := by decide +kernel
theorem dL_setTune_17 : decode cL_setTune 17 = .ok (.iconst 1, 1) := by decide +kernel
theorem dL_setTune_18 : decode cL_setTune 18 = .ok (.ireturn, 1) := by decide +kernel
theorem dL_setTune_2 : decode cL_setTune 2 = .ok (.iconst 0, 1) := by decide +kernel
theorem dL_setTune_3 : decode cL_setTune 3 = .ok (.aload_n 0, 1) := by decide +kernel
theorem dL_setTune_4 : decode cL_setTune 4 = .ok (.iload_n 1, 1) := by decide +kernel
theorem dL_setTune_5 : decode cL_setTune 5 = .ok (.iload_n 2, 1) := by decide +kernel
theorem dL_setTune_6 : decode cL_setTune 6 = .ok (.iload_n 3, 1) := by decide +kernel
theorem dL_setTune_7 : decode cL_setTune 7 = .ok (.invokevirtual 17, 3) := by decide +kernel
theorem dL_want_0 : decode cL_want 0 = .ok (.aload 4, 2) := by decide +kernel
theorem dL_want_2 : decode cL_want 2 = .ok (.iconst 0, 1) := by decide +kernel
theorem dL_want_22 : decode cL_want 22 = .ok (.astore 5, 2) := by decide +kernel
theorem dL_want_24 : decode cL_want 24 = .ok (.iconst 1, 1) := by decide +kernel
theorem dL_want_25 : decode cL_want 25 = .ok (.ireturn, 1) := by decide +kernel
theorem dL_want_3 : decode cL_want 3 = .ok (.aload_n 0, 1) := by decide +kernel
theorem dL_want_4 : decode cL_want 4 = .ok (.iload_n 1, 1) := by decide +kernel
theorem dL_want_5 : decode cL_want 5 = .ok (.iload_n 2, 1) := by decide +kernel
theorem dL_want_6 : decode cL_want 6 = .ok (.iload_n 3, 1) := by decide +kernel
theorem dL_want_7 : decode cL_want 7 = .ok (.invokevirtual 34, 3) := by decide +kernel
theorem dL_wouldTurn_0 : decode cL_wouldTurn 0 = .ok (.aload_n 2, 1) := by decide +kernel
theorem dL_wouldTurn_1 : decode cL_wouldTurn 1 = .ok (.iconst 0, 1) := by decide +kernel
theorem dL_wouldTurn_12 : decode cL_wouldTurn 12 = .ok (.astore_n 3, 1) := by decide +kernel
theorem dL_wouldTurn_13 : decode cL_wouldTurn 13 = .ok (.iconst 1, 1) := by decide +kernel
theorem dL_wouldTurn_14 : decode cL_wouldTurn 14 = .ok (.ireturn, 1) := by decide +kernel
theorem dL_wouldTurn_15 : decode cL_wouldTurn 15 = .ok (.iconst 0, 1) := by decide +kernel
theorem dL_wouldTurn_16 : decode cL_wouldTurn 16 = .ok (.ireturn, 1) := by decide +kernel
theorem dL_wouldTurn_2 : decode cL_wouldTurn 2 = .ok (.aload_n 0, 1) := by decide +kernel
theorem dL_wouldTurn_3 : decode cL_wouldTurn 3 = .ok (.iload_n 1, 1) := by decide +kernel
theorem dL_wouldTurn_4 : decode cL_wouldTurn 4 = .ok (.invokevirtual 65, 3) := by decide +kernel
theorem dL_wouldTurn_7 : decode cL_wouldTurn 7 = .ok (.i2l, 1) := by decide +kernel
theorem dL_wouldTurn_8 : decode cL_wouldTurn 8 = .ok (.lastore, 1) := by decide +kernel
theorem dL_wouldTurn_9 : decode cL_wouldTurn 9 = .ok (.goto 6, 3) := by decide +kernel
def v_w_addFloor_t : List Cond := .codeWith yL_addFloor cL_addFloor 4 (some .int) [(0, 9, 12, 13), (0, 9, 15, 15)] :: ([Cond.code yX5_addFloor cX5_addFloor 2 (some .int), Cond.fieldLink RX5 10 "HotelOfBells" "floors" "Ljava/util/ArrayList;", Cond.code yJx4a65c_size_8abf5 cJx4a65c_size_8abf5 1 (some .int), Cond.fieldLink RJx4a65c 48 "java/util/ArrayList" "size" "I", Cond.methodLink RX5 49 yJx4a65c_size_8abf5, Cond.instanceMethod yJx4a65c_size_8abf5, Cond.selects RJx4a65c yJx4a65c_size_8abf5 yJx4a65c_size_8abf5, Cond.initialized RJx4a65c, Cond.classLink RX5 58 RX1, Cond.instantiable RX1 4, Cond.initialized RX1, Cond.code yX1_init cX1_init 2 none, Cond.methodLink RX1 1 objectInit, Cond.instanceMethod objectInit, Cond.code objectInit ⟨#[0xb1]⟩ 1 none, Cond.fieldLink RX1 7 "HotelOfBells$Floor" "tune" "I", Cond.fieldLink RX1 13 "HotelOfBells$Floor" "span" "I", Cond.fieldLink RX1 16 "HotelOfBells$Floor" "rooms" "I", Cond.methodLink RX5 60 yX1_init, Cond.instanceMethod yX1_init, Cond.code yJx4a65c_add_9ea2d cJx4a65c_add_9ea2d 2 (some .boolean), Cond.fieldLink RJx4a65c 63 "java/util/ArrayList" "modCount" "I", Cond.sameField "java/util/ArrayList" "java/util/AbstractList" "modCount" "I", Cond.fieldLink RJx4a65c 9 "java/util/ArrayList" "elementData" "[Ljava/lang/Object;", Cond.code yJx4a65c_add_72be8 cJx4a65c_add_72be8 4 none, Cond.code yJx4a65c_grow_d5877 cJx4a65c_grow_d5877 1 (some (.array (.object "java/lang/Object"))), Cond.code yJx4a65c_grow_92f84 cJx4a65c_grow_92f84 4 (some (.array (.object "java/lang/Object"))), Cond.fieldLink RJx4a65c 39 "java/util/ArrayList" "DEFAULTCAPACITY_EMPTY_ELEMENTDATA" "[Ljava/lang/Object;", Cond.methodLink RJx4a65c 79 Lib.Math.max.name, Cond.static Lib.Math.max.name, Cond.initialized "java/lang/Math", Cond.code Lib.Math.max.name Lib.Math.max.code 2 (some .int), Cond.classLink RJx4a65c 7 "java/lang/Object", Cond.methodLink RJx4a65c 69 yJx4a65c_grow_92f84, Cond.instanceMethod yJx4a65c_grow_92f84, Cond.selects RJx4a65c yJx4a65c_grow_92f84 yJx4a65c_grow_92f84, Cond.methodLink RJx4a65c 129 yJx4a65c_grow_d5877, Cond.instanceMethod yJx4a65c_grow_d5877, Cond.selects RJx4a65c yJx4a65c_grow_d5877 yJx4a65c_grow_d5877, Cond.methodLink RJx4a65c 131 yJx4a65c_add_72be8, Cond.instanceMethod yJx4a65c_add_72be8, Cond.selects RJx4a65c yJx4a65c_add_72be8 yJx4a65c_add_72be8, Cond.methodLink RX5 63 yJx4a65c_add_9ea2d, Cond.instanceMethod yJx4a65c_add_9ea2d, Cond.selects RJx4a65c yJx4a65c_add_9ea2d yJx4a65c_add_9ea2d, Cond.methodLink RL 7 yX5_addFloor, Cond.instanceMethod yX5_addFloor, Cond.selects RX5 yX5_addFloor yX5_addFloor, Cond.initialized RX5] ++ (wsX50 ++ (wsJx4a65c0 ++ (wsX10 ++ []))))
theorem u_w_addFloor_t_X5 : ∀ w ∈ wsX50, w ∈ v_w_addFloor_t := fun _ h => List.mem_cons_of_mem _ (List.mem_append_right _ (List.mem_append_left _ h))
theorem u_w_addFloor_t_Jx4a65c : ∀ w ∈ wsJx4a65c0, w ∈ v_w_addFloor_t := fun _ h => List.mem_cons_of_mem _ (List.mem_append_right _ (List.mem_append_right _ (List.mem_append_left _ h)))
theorem u_w_addFloor_t_X1 : ∀ w ∈ wsX10, w ∈ v_w_addFloor_t := fun _ h => List.mem_cons_of_mem _ (List.mem_append_right _ (List.mem_append_right _ (List.mem_append_right _ (List.mem_append_left _ h))))
theorem gg_w_addFloor_t_c_addFloor_t : GoodIn v_w_addFloor_t v_c_addFloor_t := goodIn_r _ [1, 2, 3, 4, 5, 6, 7, 8, 9, 10, 11, 12, 13, 14, 15, 16, 17, 18, 19, 20, 21, 22, 23, 24, 25, 26, 27, 28, 29, 30, 31, 32, 33, 34, 35, 36, 37, 38, 39, 40, 41, 42, 43, 44, 45, 50, 51, 52, 53, 54, 55, 56, 57, 58, 59, 60, 61, 62, 63, 64, 65] (by rfl) (by decide +kernel)
set_option maxHeartbeats 4000000 in
set_option maxRecDepth 100000 in
theorem w_addFloor_t (l : Launch) (hl9 : l.stackTraces = false) (dC : Nat → ClassId) (dI : Nat → Nat → Nat) (tE : Nat) (h0 : Nat) (fq : Nat) (sq : Nat) (gq : Nat) (nq : Nat) (dq : Nat) (pq : Nat) (pl : Int32) (bl : Int32) (tb : Int32) (mc_fq : Int32) (p0 : Int32) (oq : Nat) (co : ClassId) (fo : Nat → Int64) (sz : Nat) (h1 : ¬ p0 < 3) (h2 : ¬ 12 < p0) : Met l yL_addFloor v_w_addFloor_t ({ frames := 6, cells := 2, slots := 14, locals := 122 }) (va_Pc [.ref h0, .int p0, .ref oq] (Pre0 dC dI tE sz [(co, .long)] [(h0, .inr (10, [.ref fq, .ref sq, .ref gq, .ref nq, .ref dq, .ref pq, .int pl, .int bl, .int tb])), (fq, .inr (4, [.int mc_fq, .ref tE, .int 0])), (oq, .inl (co, 1, .inr (.inl fo)))])) (va_Qi (fun (r : Int32) (_ : Unit) => r = 0) (fun _ t => ∃ (vx0 : Int32), ∃ (qd1 : Nat), Pst dC dI [(co, .long)] (va_A [(h0, .inr (10, [.ref fq, .ref sq, .ref gq, .ref nq, .ref dq, .ref pq, .int pl, .int bl, .int tb])), (fq, .inr (4, [.int mc_fq, .ref tE, .int 0])), (oq, .inl (co, 1, .inr (.inl fo)))] sz) [(oq, .inl (co, 1, .inr (.inl (vp_updL fo (0 : Int32).toNatClampNeg 0)))), (h0, .inr (10, [.ref fq, .ref sq, .ref gq, .ref nq, .ref dq, .ref pq, .int pl, .int bl, .int tb])), (fq, .inr (4, [.int vx0, .ref qd1, .int 1]))] t) (va_A [(h0, .inr (10, [.ref fq, .ref sq, .ref gq, .ref nq, .ref dq, .ref pq, .int pl, .int bl, .int tb])), (fq, .inr (4, [.int mc_fq, .ref tE, .int 0])), (oq, .inl (co, 1, .inr (.inl fo)))] sz)) 2 14 (va_A [(h0, .inr (10, [.ref fq, .ref sq, .ref gq, .ref nq, .ref dq, .ref pq, .int pl, .int bl, .int tb])), (fq, .inr (4, [.int mc_fq, .ref tE, .int 0])), (oq, .inl (co, 1, .inr (.inl fo)))] sz) := by
  refine va_MetW (cc := cL_addFloor) (maxL := 4) (ret := (some .int)) (by decide) rfl ?_
  intro p e s m args below meth c s₁ B hml hv
  obtain ⟨rfl, hsz, hP, hK, hD0, hT⟩ := hv
  have hx := B.exec
  have hb := B.bytes
  have hr := B.returns
  have hts := atoms_spec (ws := v_w_addFloor_t) B.pre
  have hown : s.vm.findClass RL = some m.cls := findClass_of_methodNamed B.named
  have hlocks := B.notSynchronized
  have hTab : c.exceptionTable.toList = tableOf [(0, 9, 12, 13), (0, 9, 15, 15)] := vx_table (x := yL_addFloor) B (hts (.codeWith yL_addFloor cL_addFloor 4 (some .int) [(0, 9, 12, 13), (0, 9, 15, 15)]) (List.mem_of_getElem? (i := 0) rfl))
  subst hsz
  have hD := hD0.self (sz := s.heap.size)
  generalize hAe : va_A [(h0, .inr (10, [.ref fq, .ref sq, .ref gq, .ref nq, .ref dq, .ref pq, .int pl, .int bl, .int tb])), (fq, .inr (4, [.int mc_fq, .ref tE, .int 0])), (oq, .inl (co, 1, .inr (.inl fo)))] s.heap.size = A at hD hT ⊢
  have hA : ∀ q : Nat, s.heap.size ≤ q → A q := fun q h => by rw [← hAe]; exact Or.inr h
  have hS : va_S A s.heap s.heap [] := va_S.rf
  have hl := lv_entry ([.ref h0, .int p0, .ref oq]) (n := 4) (Nat.le_of_ble_eq_true rfl)
  rw [lg_entry_eq]
  generalize (lg_sl ([.ref h0, .int p0, .ref oq]) ++ List.replicate (4 - (lg_sl ([.ref h0, .int p0, .ref oq])).length) Slot.unset).toArray = ls at hl ⊢
  have hl : lv_has ls 4 [(0, .ref h0), (1, .int p0), (2, .ref oq)] := hl
  refine lv_aload_n hx hb dL_addFloor_0 rfl (lv_at hl 2 rfl) ?_
  refine lv_iconst (v := 0) hx hb dL_addFloor_1 (by decide) ?_
  refine lv_aload_n hx hb dL_addFloor_2 rfl (lv_at hl 0 rfl) ?_
  refine lv_iload_n hx hb dL_addFloor_3 rfl (lv_at hl 1 rfl) ?_
  have hPc := hP.sub (ws' := [(h0, .inr (10, [.ref fq, .ref sq, .ref gq, .ref nq, .ref dq, .ref pq, .int pl, .int bl, .int tb])), (fq, .inr (4, [.int mc_fq, .ref tE, .int 0]))]) [0, 1] rfl
  have hDc := hD.sub (ws' := [(h0, .inr (10, [.ref fq, .ref sq, .ref gq, .ref nq, .ref dq, .ref pq, .int pl, .int bl, .int tb])), (fq, .inr (4, [.int mc_fq, .ref tE, .int 0]))]) [0, 1] (by decide) rfl
  have hKc := hK.sub (tys' := []) [] rfl
  have hFc := va_free (wc := [(h0, .inr (10, [.ref fq, .ref sq, .ref gq, .ref nq, .ref dq, .ref pq, .int pl, .int bl, .int tb])), (fq, .inr (4, [.int mc_fq, .ref tE, .int 0]))]) hD hS hA [0, 1] rfl
  refine va_calli (va_runV (As := [.int p0]) (rest := [.int 0, .ref oq]) ⟨hx, hb, hml, hown, hts⟩ (c_addFloor_t l hl9 dC dI tE h0 fq sq gq nq dq pq pl bl tb mc_fq p0 _ h1 h2) (cwV 1 hts (goodIn_app (goodIn_r _ [46, 47, 48, 49] (by rfl) (by decide +kernel)) gg_w_addFloor_t_c_addFloor_t) rfl rfl rfl (by decide +kernel) ⟨Nat.le_of_ble_eq_true rfl, Nat.le_of_ble_eq_true rfl⟩) ⟨Pre0.blind, va_recv hKc hPc (ci := 10) (q0 := 0) rfl rfl, Pre0.give hPc hKc hDc hT hS hFc⟩ rfl rfl hl.1 rfl (lv_room (Nat.le_of_ble_eq_true rfl)) dL_addFloor_4 ⟨Nat.le_of_ble_eq_true rfl, Nat.le_of_ble_eq_true rfl⟩) hS (fun q _ h => hFc q h) hFc (fun r_1 u t H1 locs ht hvm hw hB hz1 hk1 hS => ?_)
  obtain ⟨vx_2, qd_3, hP1, hK1, hD1⟩ := hB
  rw [ht] at hP1
  have hK1 := va_K.moved hvm.symm hK1
  obtain ⟨hP, hD⟩ := va_join (wr := [(oq, .inl (co, 1, .inr (.inl fo)))]) (w1 := [(h0, .inr (10, [.ref fq, .ref sq, .ref gq, .ref nq, .ref dq, .ref pq, .int pl, .int bl, .int tb])), (fq, .inr (4, [.int vx_2, .ref qd_3, .int 1]))]) hP hD [0, 1] [2] rfl rfl (by decide) (by decide) hk1 hFc hP1 hD1
  generalize H1 = H at hP hS ⊢
  have hP : va_P (dC, dI) vwCl [(oq, .inl (co, 1, .inr (.inl fo))), (h0, .inr (10, [.ref fq, .ref sq, .ref gq, .ref nq, .ref dq, .ref pq, .int pl, .int bl, .int tb])), (fq, .inr (4, [.int vx_2, .ref qd_3, .int 1]))] H := hP
  have hD : va_D A [(oq, .inl (co, 1, .inr (.inl fo))), (h0, .inr (10, [.ref fq, .ref sq, .ref gq, .ref nq, .ref dq, .ref pq, .int pl, .int bl, .int tb])), (fq, .inr (4, [.int vx_2, .ref qd_3, .int 1]))] := hD
  refine W.widen (k := 2) (n := 14) (by omega) (by omega) ?_
  obtain rfl : r_1 = 0 := hw
  refine lv_i2l (v := 0) hx hb dL_addFloor_7 (by decide) ?_
  refine va_last hx hb hK hP hD hS 0 0 rfl rfl (by unfold vp_in; decide) dL_addFloor_8 (fun H locs hP hD hS => ?_)
  have hP : va_P (dC, dI) vwCl [(oq, .inl (co, 1, .inr (.inl (vp_updL fo (0 : Int32).toNatClampNeg 0)))), (h0, .inr (10, [.ref fq, .ref sq, .ref gq, .ref nq, .ref dq, .ref pq, .int pl, .int bl, .int tb])), (fq, .inr (4, [.int vx_2, .ref qd_3, .int 1]))] H := hP
  have hD : va_D A [(oq, .inl (co, 1, .inr (.inl (vp_updL fo (0 : Int32).toNatClampNeg 0)))), (h0, .inr (10, [.ref fq, .ref sq, .ref gq, .ref nq, .ref dq, .ref pq, .int pl, .int bl, .int tb])), (fq, .inr (4, [.int vx_2, .ref qd_3, .int 1]))] := hD
  refine lv_goto (tgt := 18) hx hb dL_addFloor_9 (by decide) ?_
  refine lv_iconst (v := 0) hx hb dL_addFloor_18 (by decide) ?_
  have hP9 := hP.sub (ws' := [(oq, .inl (co, 1, .inr (.inl (vp_updL fo (0 : Int32).toNatClampNeg 0)))), (h0, .inr (10, [.ref fq, .ref sq, .ref gq, .ref nq, .ref dq, .ref pq, .int pl, .int bl, .int tb])), (fq, .inr (4, [.int vx_2, .ref qd_3, .int 1]))]) [0, 1, 2] rfl
  have hD9 := hD.sub (ws' := [(oq, .inl (co, 1, .inr (.inl (vp_updL fo (0 : Int32).toNatClampNeg 0)))), (h0, .inr (10, [.ref fq, .ref sq, .ref gq, .ref nq, .ref dq, .ref pq, .int pl, .int bl, .int tb])), (fq, .inr (4, [.int vx_2, .ref qd_3, .int 1]))]) [0, 1, 2] (by decide) rfl
  have hK9 := hK.sub (tys' := [(co, .long)]) [0] rfl
  exact W.iret (v := 0) hx hb hr (fun t ht hW => ⟨⟨0, (), rfl, rfl, vx_2, qd_3, by rw [ht]; exact hP9, va_K.moved hW.alike hK9, hD9⟩, hS.F ht⟩) hS.2.2 dL_addFloor_19
def vh_w_addFloor_f : List Cond := .codeWith yL_addFloor cL_addFloor 4 (some .int) [(0, 9, 12, 13), (0, 9, 15, 15)] :: ([Cond.code yX5_addFloor cX5_addFloor 2 (some .int), Cond.classLink RX5 42 "java/lang/IllegalArgumentException", Cond.initialized "java/lang/IllegalArgumentException", Cond.methodLink RL 7 yX5_addFloor, Cond.instanceMethod yX5_addFloor, Cond.selects RX5 yX5_addFloor yX5_addFloor, Cond.initialized RX5, Cond.classLink RL 13 "java/lang/IllegalArgumentException"] ++ [])
def v_w_addFloor_f : List Cond := vh_w_addFloor_f ++ (thrI)
theorem gg_w_addFloor_f_c_addFloor_f : GoodIn v_w_addFloor_f vh_c_addFloor_f := goodIn_r _ [1, 2, 3] (by rfl) (by decide +kernel)
theorem gt_w_addFloor_f_c_addFloor_f : GoodIn v_w_addFloor_f v_c_addFloor_f := goodIn_app gg_w_addFloor_f_c_addFloor_f (goodIn_sub (fun _ h => List.mem_append_right _ h) (by decide +kernel))
set_option maxHeartbeats 4000000 in
set_option maxRecDepth 100000 in
theorem w_addFloor_f (l : Launch) (hl9 : l.stackTraces = false) (dC : Nat → ClassId) (dI : Nat → Nat → Nat) (tE : Nat) (h0 : Nat) (fq : Nat) (sq : Nat) (gq : Nat) (nq : Nat) (dq : Nat) (pq : Nat) (pl : Int32) (bl : Int32) (tb : Int32) (mc_fq : Int32) (p0 : Int32) (oq : Nat) (sz : Nat) (h : p0 < 3 ∨ 12 < p0) : Met l yL_addFloor v_w_addFloor_f ({ frames := 7, cells := 1, slots := 6, locals := 111 }) (va_Pc [.ref h0, .int p0, .ref oq] (Pre0 dC dI tE sz [] [(h0, .inr (10, [.ref fq, .ref sq, .ref gq, .ref nq, .ref dq, .ref pq, .int pl, .int bl, .int tb])), (fq, .inr (4, [.int mc_fq, .ref tE, .int 0]))])) (va_Qi (fun (r : Int32) (_ : Unit) => r = 1) (fun _ t => Pst dC dI [] (va_A [(h0, .inr (10, [.ref fq, .ref sq, .ref gq, .ref nq, .ref dq, .ref pq, .int pl, .int bl, .int tb])), (fq, .inr (4, [.int mc_fq, .ref tE, .int 0]))] sz) [(h0, .inr (10, [.ref fq, .ref sq, .ref gq, .ref nq, .ref dq, .ref pq, .int pl, .int bl, .int tb])), (fq, .inr (4, [.int mc_fq, .ref tE, .int 0]))] t) (va_A [(h0, .inr (10, [.ref fq, .ref sq, .ref gq, .ref nq, .ref dq, .ref pq, .int pl, .int bl, .int tb])), (fq, .inr (4, [.int mc_fq, .ref tE, .int 0]))] sz)) 1 6 (va_A [(h0, .inr (10, [.ref fq, .ref sq, .ref gq, .ref nq, .ref dq, .ref pq, .int pl, .int bl, .int tb])), (fq, .inr (4, [.int mc_fq, .ref tE, .int 0]))] sz) := by
  refine va_MetW (cc := cL_addFloor) (maxL := 4) (ret := (some .int)) (by decide) rfl ?_
  intro p e s m args below meth c s₁ B hml hv
  obtain ⟨rfl, hsz, hP, hK, hD0, hT⟩ := hv
  have hx := B.exec
  have hb := B.bytes
  have hr := B.returns
  have hts := atoms_spec (ws := v_w_addFloor_f) B.pre
  have hown : s.vm.findClass RL = some m.cls := findClass_of_methodNamed B.named
  have hlocks := B.notSynchronized
  have hTab : c.exceptionTable.toList = tableOf [(0, 9, 12, 13), (0, 9, 15, 15)] := vx_table (x := yL_addFloor) B (hts (.codeWith yL_addFloor cL_addFloor 4 (some .int) [(0, 9, 12, 13), (0, 9, 15, 15)]) (List.mem_of_getElem? (i := 0) rfl))
  subst hsz
  have hD := hD0.self (sz := s.heap.size)
  generalize hAe : va_A [(h0, .inr (10, [.ref fq, .ref sq, .ref gq, .ref nq, .ref dq, .ref pq, .int pl, .int bl, .int tb])), (fq, .inr (4, [.int mc_fq, .ref tE, .int 0]))] s.heap.size = A at hD hT ⊢
  have hA : ∀ q : Nat, s.heap.size ≤ q → A q := fun q h => by rw [← hAe]; exact Or.inr h
  have hS : va_S A s.heap s.heap [] := va_S.rf
  have hl := lv_entry ([.ref h0, .int p0, .ref oq]) (n := 4) (Nat.le_of_ble_eq_true rfl)
  rw [lg_entry_eq]
  generalize (lg_sl ([.ref h0, .int p0, .ref oq]) ++ List.replicate (4 - (lg_sl ([.ref h0, .int p0, .ref oq])).length) Slot.unset).toArray = ls at hl ⊢
  have hl : lv_has ls 4 [(0, .ref h0), (1, .int p0), (2, .ref oq)] := hl
  refine lv_aload_n hx hb dL_addFloor_0 rfl (lv_at hl 2 rfl) ?_
  refine lv_iconst (v := 0) hx hb dL_addFloor_1 (by decide) ?_
  refine lv_aload_n hx hb dL_addFloor_2 rfl (lv_at hl 0 rfl) ?_
  refine lv_iload_n hx hb dL_addFloor_3 rfl (lv_at hl 1 rfl) ?_
  have hPc := hP.sub (ws' := [(h0, .inr (10, [.ref fq, .ref sq, .ref gq, .ref nq, .ref dq, .ref pq, .int pl, .int bl, .int tb])), (fq, .inr (4, [.int mc_fq, .ref tE, .int 0]))]) [0, 1] rfl
  have hDc := hD.sub (ws' := [(h0, .inr (10, [.ref fq, .ref sq, .ref gq, .ref nq, .ref dq, .ref pq, .int pl, .int bl, .int tb])), (fq, .inr (4, [.int mc_fq, .ref tE, .int 0]))]) [0, 1] (by decide) rfl
  have hKc := hK.sub (tys' := []) [] rfl
  have hFc := va_free (wc := [(h0, .inr (10, [.ref fq, .ref sq, .ref gq, .ref nq, .ref dq, .ref pq, .int pl, .int bl, .int tb])), (fq, .inr (4, [.int mc_fq, .ref tE, .int 0]))]) hD hS hA [0, 1] rfl
  refine vx_calli (vx_runV (As := [.int p0]) (rest := [.int 0, .ref oq]) ⟨hx, hb, hml, hown, hts⟩ (c_addFloor_f l hl9 dC dI tE h0 fq sq gq nq dq pq pl bl tb mc_fq p0 _ h) (cwV 1 hts (goodIn_app (goodIn_r _ [4, 5, 6, 7] (by rfl) (by decide +kernel)) gt_w_addFloor_f_c_addFloor_f) rfl rfl rfl (by decide +kernel) ⟨Nat.le_of_ble_eq_true rfl, Nat.le_of_ble_eq_true rfl⟩) ⟨Pre0.blind, va_recv hKc hPc (ci := 10) (q0 := 0) rfl rfl, Pre0.give hPc hKc hDc hT hS hFc⟩ rfl rfl hl.1 rfl (lv_room (Nat.le_of_ble_eq_true rfl)) dL_addFloor_4 ⟨Nat.le_of_ble_eq_true rfl, Nat.le_of_ble_eq_true rfl⟩) hS (fun q _ h => hFc q h) hFc (fun q _ h => hFc q h) (fun E ce q9 u t H1 locs ht hvm hpx hB hz1 hk1 hS hce hcv hcl => ?_) (fun r u t H1 locs ht hvm hw hB hz1 hk1 hS => hw.elim)
  obtain ⟨rfl, hP1, hK1, hD1⟩ := hB
  rw [ht] at hP1
  have hK1 := va_K.moved hvm.symm hK1
  obtain ⟨hP, hD⟩ := va_join (wr := []) (w1 := [(h0, .inr (10, [.ref fq, .ref sq, .ref gq, .ref nq, .ref dq, .ref pq, .int pl, .int bl, .int tb])), (fq, .inr (4, [.int mc_fq, .ref tE, .int 0]))]) hP hD [0, 1] [] rfl rfl (by decide) (by decide) hk1 hFc hP1 hD1
  generalize H1 = H at hP hS hce ⊢
  have hP : va_P (dC, dI) vwCl [(h0, .inr (10, [.ref fq, .ref sq, .ref gq, .ref nq, .ref dq, .ref pq, .int pl, .int bl, .int tb])), (fq, .inr (4, [.int mc_fq, .ref tE, .int 0]))] H := hP
  have hD : va_D A [(h0, .inr (10, [.ref fq, .ref sq, .ref gq, .ref nq, .ref dq, .ref pq, .int pl, .int bl, .int tb])), (fq, .inr (4, [.int mc_fq, .ref tE, .int 0]))] := hD
  refine vx_widen (k := 1) (n := 6) (by omega) (by omega) ?_
  refine vx_catch (own := RL) (name := "java/lang/IllegalArgumentException") (E := "java/lang/IllegalArgumentException") hown [] ⟨0, 9, 12, 13⟩ [⟨0, 9, 15, 15⟩] (by rw [hTab]; rfl) (fun z hz => nomatch hz) (by decide) (by decide) (hts (.classLink RL 13 "java/lang/IllegalArgumentException") (List.mem_of_getElem? (i := 8) rfl)) (va_Nw.use rfl hT.eI) hce hcv hcl ?_
  refine lv_astore_n (lv' := [(3, .ref q9), (0, .ref h0), (1, .int p0), (2, .ref oq)]) hx hb dL_addFloor_12 rfl hl (by decide) rfl (fun ls hl => ?_)
  refine lv_iconst (v := 1) hx hb dL_addFloor_13 (by decide) ?_
  have hP9 := hP.sub (ws' := [(h0, .inr (10, [.ref fq, .ref sq, .ref gq, .ref nq, .ref dq, .ref pq, .int pl, .int bl, .int tb])), (fq, .inr (4, [.int mc_fq, .ref tE, .int 0]))]) [0, 1] rfl
  have hD9 := hD.sub (ws' := [(h0, .inr (10, [.ref fq, .ref sq, .ref gq, .ref nq, .ref dq, .ref pq, .int pl, .int bl, .int tb])), (fq, .inr (4, [.int mc_fq, .ref tE, .int 0]))]) [0, 1] (by decide) rfl
  have hK9 := hK.sub (tys' := []) [] rfl
  exact W.iret (v := 1) hx hb hr (fun t ht hW => ⟨⟨1, (), rfl, rfl, by rw [ht]; exact hP9, va_K.moved hW.alike hK9, hD9⟩, hS.F ht⟩) hS.2.2 dL_addFloor_14
def v_w_addLift : List Cond := .codeWith yL_addLift cL_addLift 3 (some .int) [(0, 8, 11, 15)] :: ([Cond.code yX5_addLift cX5_addLift 1 (some .int), Cond.fieldLink RX5 16 "HotelOfBells" "shafts" "Ljava/util/ArrayList;", Cond.code yJx4a65c_size_8abf5 cJx4a65c_size_8abf5 1 (some .int), Cond.fieldLink RJx4a65c 48 "java/util/ArrayList" "size" "I", Cond.methodLink RX5 49 yJx4a65c_size_8abf5, Cond.instanceMethod yJx4a65c_size_8abf5, Cond.selects RJx4a65c yJx4a65c_size_8abf5 yJx4a65c_size_8abf5, Cond.initialized RJx4a65c, Cond.classLink RX5 100 RX4, Cond.instantiable RX4 1, Cond.initialized RX4, Cond.code yX4_init cX4_init 2 none, Cond.methodLink RX4 3 objectInit, Cond.instanceMethod objectInit, Cond.code objectInit ⟨#[0xb1]⟩ 1 none, Cond.arrayClass .int, Cond.fieldLink RX4 9 "HotelOfBells$Shaft" "doors" "[I", Cond.methodLink RX5 102 yX4_init, Cond.instanceMethod yX4_init, Cond.code yJx4a65c_add_9ea2d cJx4a65c_add_9ea2d 2 (some .boolean), Cond.fieldLink RJx4a65c 63 "java/util/ArrayList" "modCount" "I", Cond.sameField "java/util/ArrayList" "java/util/AbstractList" "modCount" "I", Cond.fieldLink RJx4a65c 9 "java/util/ArrayList" "elementData" "[Ljava/lang/Object;", Cond.code yJx4a65c_add_72be8 cJx4a65c_add_72be8 4 none, Cond.code yJx4a65c_grow_d5877 cJx4a65c_grow_d5877 1 (some (.array (.object "java/lang/Object"))), Cond.code yJx4a65c_grow_92f84 cJx4a65c_grow_92f84 4 (some (.array (.object "java/lang/Object"))), Cond.fieldLink RJx4a65c 39 "java/util/ArrayList" "DEFAULTCAPACITY_EMPTY_ELEMENTDATA" "[Ljava/lang/Object;", Cond.methodLink RJx4a65c 79 Lib.Math.max.name, Cond.static Lib.Math.max.name, Cond.initialized "java/lang/Math", Cond.code Lib.Math.max.name Lib.Math.max.code 2 (some .int), Cond.classLink RJx4a65c 7 "java/lang/Object", Cond.methodLink RJx4a65c 69 yJx4a65c_grow_92f84, Cond.instanceMethod yJx4a65c_grow_92f84, Cond.selects RJx4a65c yJx4a65c_grow_92f84 yJx4a65c_grow_92f84, Cond.methodLink RJx4a65c 129 yJx4a65c_grow_d5877, Cond.instanceMethod yJx4a65c_grow_d5877, Cond.selects RJx4a65c yJx4a65c_grow_d5877 yJx4a65c_grow_d5877, Cond.methodLink RJx4a65c 131 yJx4a65c_add_72be8, Cond.instanceMethod yJx4a65c_add_72be8, Cond.selects RJx4a65c yJx4a65c_add_72be8 yJx4a65c_add_72be8, Cond.methodLink RX5 63 yJx4a65c_add_9ea2d, Cond.instanceMethod yJx4a65c_add_9ea2d, Cond.selects RJx4a65c yJx4a65c_add_9ea2d yJx4a65c_add_9ea2d, Cond.methodLink RL 23 yX5_addLift, Cond.instanceMethod yX5_addLift, Cond.selects RX5 yX5_addLift yX5_addLift, Cond.initialized RX5] ++ (wsX50 ++ (wsJx4a65c0 ++ (wsX40 ++ []))))
theorem u_w_addLift_X5 : ∀ w ∈ wsX50, w ∈ v_w_addLift := fun _ h => List.mem_cons_of_mem _ (List.mem_append_right _ (List.mem_append_left _ h))
theorem u_w_addLift_Jx4a65c : ∀ w ∈ wsJx4a65c0, w ∈ v_w_addLift := fun _ h => List.mem_cons_of_mem _ (List.mem_append_right _ (List.mem_append_right _ (List.mem_append_left _ h)))
theorem u_w_addLift_X4 : ∀ w ∈ wsX40, w ∈ v_w_addLift := fun _ h => List.mem_cons_of_mem _ (List.mem_append_right _ (List.mem_append_right _ (List.mem_append_right _ (List.mem_append_left _ h))))
theorem gg_w_addLift_c_addLift : GoodIn v_w_addLift v_c_addLift := goodIn_r _ [1, 2, 3, 4, 5, 6, 7, 8, 9, 10, 11, 12, 13, 14, 15, 16, 17, 18, 19, 20, 21, 22, 23, 24, 25, 26, 27, 28, 29, 30, 31, 32, 33, 34, 35, 36, 37, 38, 39, 40, 41, 42, 43, 44, 49, 50, 51, 52, 53, 54, 55, 56, 57, 58, 59, 60, 61] (by rfl) (by decide +kernel)
set_option maxHeartbeats 4000000 in
set_option maxRecDepth 100000 in
theorem w_addLift (l : Launch) (hl9 : l.stackTraces = false) (dC : Nat → ClassId) (dI : Nat → Nat → Nat) (tE : Nat) (h0 : Nat) (fq : Nat) (sq : Nat) (gq : Nat) (nq : Nat) (dq : Nat) (pq : Nat) (pl : Int32) (bl : Int32) (tb : Int32) (mc_sq : Int32) (oq : Nat) (co : ClassId) (fo : Nat → Int64) (sz : Nat) : Met l yL_addLift v_w_addLift ({ frames := 6, cells := 3, slots := 17, locals := 121 }) (va_Pc [.ref h0, .ref oq] (Pre0 dC dI tE sz [(co, .long)] [(h0, .inr (10, [.ref fq, .ref sq, .ref gq, .ref nq, .ref dq, .ref pq, .int pl, .int bl, .int tb])), (sq, .inr (4, [.int mc_sq, .ref tE, .int 0])), (oq, .inl (co, 1, .inr (.inl fo)))])) (va_Qi (fun (r : Int32) (_ : Unit) => r = 0) (fun _ t => ∃ (vx0 : Int32), ∃ (qd1 : Nat), Pst dC dI [(co, .long)] (va_A [(h0, .inr (10, [.ref fq, .ref sq, .ref gq, .ref nq, .ref dq, .ref pq, .int pl, .int bl, .int tb])), (sq, .inr (4, [.int mc_sq, .ref tE, .int 0])), (oq, .inl (co, 1, .inr (.inl fo)))] sz) [(oq, .inl (co, 1, .inr (.inl (vp_updL fo (0 : Int32).toNatClampNeg 0)))), (h0, .inr (10, [.ref fq, .ref sq, .ref gq, .ref nq, .ref dq, .ref pq, .int pl, .int bl, .int tb])), (sq, .inr (4, [.int vx0, .ref qd1, .int 1]))] t) (va_A [(h0, .inr (10, [.ref fq, .ref sq, .ref gq, .ref nq, .ref dq, .ref pq, .int pl, .int bl, .int tb])), (sq, .inr (4, [.int mc_sq, .ref tE, .int 0])), (oq, .inl (co, 1, .inr (.inl fo)))] sz)) 3 17 (va_A [(h0, .inr (10, [.ref fq, .ref sq, .ref gq, .ref nq, .ref dq, .ref pq, .int pl, .int bl, .int tb])), (sq, .inr (4, [.int mc_sq, .ref tE, .int 0])), (oq, .inl (co, 1, .inr (.inl fo)))] sz) := by
  refine va_MetW (cc := cL_addLift) (maxL := 3) (ret := (some .int)) (by decide) rfl ?_
  intro p e s m args below meth c s₁ B hml hv
  obtain ⟨rfl, hsz, hP, hK, hD0, hT⟩ := hv
  have hx := B.exec
  have hb := B.bytes
  have hr := B.returns
  have hts := atoms_spec (ws := v_w_addLift) B.pre
  have hown : s.vm.findClass RL = some m.cls := findClass_of_methodNamed B.named
  have hlocks := B.notSynchronized
  have hTab : c.exceptionTable.toList = tableOf [(0, 8, 11, 15)] := vx_table (x := yL_addLift) B (hts (.codeWith yL_addLift cL_addLift 3 (some .int) [(0, 8, 11, 15)]) (List.mem_of_getElem? (i := 0) rfl))
  subst hsz
  have hD := hD0.self (sz := s.heap.size)
  generalize hAe : va_A [(h0, .inr (10, [.ref fq, .ref sq, .ref gq, .ref nq, .ref dq, .ref pq, .int pl, .int bl, .int tb])), (sq, .inr (4, [.int mc_sq, .ref tE, .int 0])), (oq, .inl (co, 1, .inr (.inl fo)))] s.heap.size = A at hD hT ⊢
  have hA : ∀ q : Nat, s.heap.size ≤ q → A q := fun q h => by rw [← hAe]; exact Or.inr h
  have hS : va_S A s.heap s.heap [] := va_S.rf
  have hl := lv_entry ([.ref h0, .ref oq]) (n := 3) (Nat.le_of_ble_eq_true rfl)
  rw [lg_entry_eq]
  generalize (lg_sl ([.ref h0, .ref oq]) ++ List.replicate (3 - (lg_sl ([.ref h0, .ref oq])).length) Slot.unset).toArray = ls at hl ⊢
  have hl : lv_has ls 3 [(0, .ref h0), (1, .ref oq)] := hl
  refine lv_aload_n hx hb dL_addLift_0 rfl (lv_at hl 1 rfl) ?_
  refine lv_iconst (v := 0) hx hb dL_addLift_1 (by decide) ?_
  refine lv_aload_n hx hb dL_addLift_2 rfl (lv_at hl 0 rfl) ?_
  have hPc := hP.sub (ws' := [(h0, .inr (10, [.ref fq, .ref sq, .ref gq, .ref nq, .ref dq, .ref pq, .int pl, .int bl, .int tb])), (sq, .inr (4, [.int mc_sq, .ref tE, .int 0]))]) [0, 1] rfl
  have hDc := hD.sub (ws' := [(h0, .inr (10, [.ref fq, .ref sq, .ref gq, .ref nq, .ref dq, .ref pq, .int pl, .int bl, .int tb])), (sq, .inr (4, [.int mc_sq, .ref tE, .int 0]))]) [0, 1] (by decide) rfl
  have hKc := hK.sub (tys' := []) [] rfl
  have hFc := va_free (wc := [(h0, .inr (10, [.ref fq, .ref sq, .ref gq, .ref nq, .ref dq, .ref pq, .int pl, .int bl, .int tb])), (sq, .inr (4, [.int mc_sq, .ref tE, .int 0]))]) hD hS hA [0, 1] rfl
  refine va_calli (va_runV (As := []) (rest := [.int 0, .ref oq]) ⟨hx, hb, hml, hown, hts⟩ (c_addLift l hl9 dC dI tE h0 fq sq gq nq dq pq pl bl tb mc_sq _ ) (cwV 0 hts (goodIn_app (goodIn_r _ [45, 46, 47, 48] (by rfl) (by decide +kernel)) gg_w_addLift_c_addLift) rfl rfl rfl (by decide +kernel) ⟨Nat.le_of_ble_eq_true rfl, Nat.le_of_ble_eq_true rfl⟩) ⟨Pre0.blind, va_recv hKc hPc (ci := 10) (q0 := 0) rfl rfl, Pre0.give hPc hKc hDc hT hS hFc⟩ rfl rfl hl.1 rfl (lv_room (Nat.le_of_ble_eq_true rfl)) dL_addLift_3 ⟨Nat.le_of_ble_eq_true rfl, Nat.le_of_ble_eq_true rfl⟩) hS (fun q _ h => hFc q h) hFc (fun r_1 u t H1 locs ht hvm hw hB hz1 hk1 hS => ?_)
  obtain ⟨vx_2, qd_3, hP1, hK1, hD1⟩ := hB
  rw [ht] at hP1
  have hK1 := va_K.moved hvm.symm hK1
  obtain ⟨hP, hD⟩ := va_join (wr := [(oq, .inl (co, 1, .inr (.inl fo)))]) (w1 := [(h0, .inr (10, [.ref fq, .ref sq, .ref gq, .ref nq, .ref dq, .ref pq, .int pl, .int bl, .int tb])), (sq, .inr (4, [.int vx_2, .ref qd_3, .int 1]))]) hP hD [0, 1] [2] rfl rfl (by decide) (by decide) hk1 hFc hP1 hD1
  generalize H1 = H at hP hS ⊢
  have hP : va_P (dC, dI) vwCl [(oq, .inl (co, 1, .inr (.inl fo))), (h0, .inr (10, [.ref fq, .ref sq, .ref gq, .ref nq, .ref dq, .ref pq, .int pl, .int bl, .int tb])), (sq, .inr (4, [.int vx_2, .ref qd_3, .int 1]))] H := hP
  have hD : va_D A [(oq, .inl (co, 1, .inr (.inl fo))), (h0, .inr (10, [.ref fq, .ref sq, .ref gq, .ref nq, .ref dq, .ref pq, .int pl, .int bl, .int tb])), (sq, .inr (4, [.int vx_2, .ref qd_3, .int 1]))] := hD
  refine W.widen (k := 3) (n := 17) (by omega) (by omega) ?_
  obtain rfl : r_1 = 0 := hw
  refine lv_i2l (v := 0) hx hb dL_addLift_6 (by decide) ?_
  refine va_last hx hb hK hP hD hS 0 0 rfl rfl (by unfold vp_in; decide) dL_addLift_7 (fun H locs hP hD hS => ?_)
  have hP : va_P (dC, dI) vwCl [(oq, .inl (co, 1, .inr (.inl (vp_updL fo (0 : Int32).toNatClampNeg 0)))), (h0, .inr (10, [.ref fq, .ref sq, .ref gq, .ref nq, .ref dq, .ref pq, .int pl, .int bl, .int tb])), (sq, .inr (4, [.int vx_2, .ref qd_3, .int 1]))] H := hP
  have hD : va_D A [(oq, .inl (co, 1, .inr (.inl (vp_updL fo (0 : Int32).toNatClampNeg 0)))), (h0, .inr (10, [.ref fq, .ref sq, .ref gq, .ref nq, .ref dq, .ref pq, .int pl, .int bl, .int tb])), (sq, .inr (4, [.int vx_2, .ref qd_3, .int 1]))] := hD
  refine lv_goto (tgt := 14) hx hb dL_addLift_8 (by decide) ?_
  refine lv_iconst (v := 0) hx hb dL_addLift_14 (by decide) ?_
  have hP9 := hP.sub (ws' := [(oq, .inl (co, 1, .inr (.inl (vp_updL fo (0 : Int32).toNatClampNeg 0)))), (h0, .inr (10, [.ref fq, .ref sq, .ref gq, .ref nq, .ref dq, .ref pq, .int pl, .int bl, .int tb])), (sq, .inr (4, [.int vx_2, .ref qd_3, .int 1]))]) [0, 1, 2] rfl
  have hD9 := hD.sub (ws' := [(oq, .inl (co, 1, .inr (.inl (vp_updL fo (0 : Int32).toNatClampNeg 0)))), (h0, .inr (10, [.ref fq, .ref sq, .ref gq, .ref nq, .ref dq, .ref pq, .int pl, .int bl, .int tb])), (sq, .inr (4, [.int vx_2, .ref qd_3, .int 1]))]) [0, 1, 2] (by decide) rfl
  have hK9 := hK.sub (tys' := [(co, .long)]) [0] rfl
  exact W.iret (v := 0) hx hb hr (fun t ht hW => ⟨⟨0, (), rfl, rfl, vx_2, qd_3, by rw [ht]; exact hP9, va_K.moved hW.alike hK9, hD9⟩, hS.F ht⟩) hS.2.2 dL_addLift_15
def vh_w_setTune : List Cond := .codeWith yL_setTune cL_setTune 6 (some .int) [(0, 12, 15, 21), (0, 12, 19, 13)] :: ([Cond.code yX5_setTune cX5_setTune 7 (some .int), Cond.code yX5_isFloor cX5_isFloor 2 (some .boolean), Cond.fieldLink RX5 10 "HotelOfBells" "floors" "Ljava/util/ArrayList;", Cond.code yJx4a65c_size_8abf5 cJx4a65c_size_8abf5 1 (some .int), Cond.fieldLink RJx4a65c 48 "java/util/ArrayList" "size" "I", Cond.methodLink RX5 49 yJx4a65c_size_8abf5, Cond.instanceMethod yJx4a65c_size_8abf5, Cond.selects RJx4a65c yJx4a65c_size_8abf5 yJx4a65c_size_8abf5, Cond.initialized RJx4a65c, Cond.methodLink RX5 67 yX5_isFloor, Cond.instanceMethod yX5_isFloor, Cond.selects RX5 yX5_isFloor yX5_isFloor, Cond.initialized RX5, Cond.classLink RX5 71 "java/lang/IndexOutOfBoundsException", Cond.initialized "java/lang/IndexOutOfBoundsException", Cond.methodLink RL 17 yX5_setTune, Cond.instanceMethod yX5_setTune, Cond.selects RX5 yX5_setTune yX5_setTune, Cond.classLink RL 21 "java/lang/IndexOutOfBoundsException"] ++ (wsX50 ++ (wsJx4a65c0 ++ [])))
def v_w_setTune : List Cond := vh_w_setTune ++ (thrX)
theorem u_w_setTune_X5 : ∀ w ∈ wsX50, w ∈ v_w_setTune := fun _ h => List.mem_append_left _ (List.mem_cons_of_mem _ (List.mem_append_right _ (List.mem_append_left _ h)))
theorem u_w_setTune_Jx4a65c : ∀ w ∈ wsJx4a65c0, w ∈ v_w_setTune := fun _ h => List.mem_append_left _ (List.mem_cons_of_mem _ (List.mem_append_right _ (List.mem_append_right _ (List.mem_append_left _ h))))
theorem gg_w_setTune_c_setTune : GoodIn v_w_setTune vh_c_setTune := goodIn_r _ [1, 2, 3, 4, 5, 6, 7, 8, 9, 10, 11, 12, 13, 14, 15, 20, 21, 22, 23, 24, 25, 26, 27, 28, 29, 30, 31] (by rfl) (by decide +kernel)
theorem gt_w_setTune_c_setTune : GoodIn v_w_setTune v_c_setTune := goodIn_app gg_w_setTune_c_setTune (goodIn_sub (fun _ h => List.mem_append_right _ h) (by decide +kernel))
set_option maxHeartbeats 4000000 in
set_option maxRecDepth 100000 in
theorem w_setTune (l : Launch) (hl9 : l.stackTraces = false) (dC : Nat → ClassId) (dI : Nat → Nat → Nat) (tE : Nat) (h0 : Nat) (fq : Nat) (sq : Nat) (gq : Nat) (nq : Nat) (dq : Nat) (pq : Nat) (pl : Int32) (bl : Int32) (tb : Int32) (mc_fq : Int32) (p0 : Int32) (p1 : Int32) (p2 : Int32) (oq : Nat) (sz : Nat) : Met l yL_setTune v_w_setTune ({ frames := 7, cells := 1, slots := 6, locals := 116 }) (va_Pc [.ref h0, .int p0, .int p1, .int p2, .ref oq] (Pre0 dC dI tE sz [] [(h0, .inr (10, [.ref fq, .ref sq, .ref gq, .ref nq, .ref dq, .ref pq, .int pl, .int bl, .int tb])), (fq, .inr (4, [.int mc_fq, .ref tE, .int 0]))])) (va_Qi (fun (r : Int32) (_ : Unit) => r = 1) (fun _ t => Pst dC dI [] (va_A [(h0, .inr (10, [.ref fq, .ref sq, .ref gq, .ref nq, .ref dq, .ref pq, .int pl, .int bl, .int tb])), (fq, .inr (4, [.int mc_fq, .ref tE, .int 0]))] sz) [(h0, .inr (10, [.ref fq, .ref sq, .ref gq, .ref nq, .ref dq, .ref pq, .int pl, .int bl, .int tb])), (fq, .inr (4, [.int mc_fq, .ref tE, .int 0]))] t) (va_A [(h0, .inr (10, [.ref fq, .ref sq, .ref gq, .ref nq, .ref dq, .ref pq, .int pl, .int bl, .int tb])), (fq, .inr (4, [.int mc_fq, .ref tE, .int 0]))] sz)) 1 6 (va_A [(h0, .inr (10, [.ref fq, .ref sq, .ref gq, .ref nq, .ref dq, .ref pq, .int pl, .int bl, .int tb])), (fq, .inr (4, [.int mc_fq, .ref tE, .int 0]))] sz) := by
  refine va_MetW (cc := cL_setTune) (maxL := 6) (ret := (some .int)) (by decide) rfl ?_
  intro p e s m args below meth c s₁ B hml hv
  obtain ⟨rfl, hsz, hP, hK, hD0, hT⟩ := hv
  have hx := B.exec
  have hb := B.bytes
  have hr := B.returns
  have hts := atoms_spec (ws := v_w_setTune) B.pre
  have hown : s.vm.findClass RL = some m.cls := findClass_of_methodNamed B.named
  have hlocks := B.notSynchronized
  have hTab : c.exceptionTable.toList = tableOf [(0, 12, 15, 21), (0, 12, 19, 13)] := vx_table (x := yL_setTune) B (hts (.codeWith yL_setTune cL_setTune 6 (some .int) [(0, 12, 15, 21), (0, 12, 19, 13)]) (List.mem_of_getElem? (i := 0) rfl))
  subst hsz
  have hD := hD0.self (sz := s.heap.size)
  generalize hAe : va_A [(h0, .inr (10, [.ref fq, .ref sq, .ref gq, .ref nq, .ref dq, .ref pq, .int pl, .int bl, .int tb])), (fq, .inr (4, [.int mc_fq, .ref tE, .int 0]))] s.heap.size = A at hD hT ⊢
  have hA : ∀ q : Nat, s.heap.size ≤ q → A q := fun q h => by rw [← hAe]; exact Or.inr h
  have hS : va_S A s.heap s.heap [] := va_S.rf
  have hl := lv_entry ([.ref h0, .int p0, .int p1, .int p2, .ref oq]) (n := 6) (Nat.le_of_ble_eq_true rfl)
  rw [lg_entry_eq]
  generalize (lg_sl ([.ref h0, .int p0, .int p1, .int p2, .ref oq]) ++ List.replicate (6 - (lg_sl ([.ref h0, .int p0, .int p1, .int p2, .ref oq])).length) Slot.unset).toArray = ls at hl ⊢
  have hl : lv_has ls 6 [(0, .ref h0), (1, .int p0), (2, .int p1), (3, .int p2), (4, .ref oq)] := hl
  refine lv_aload hx hb dL_setTune_0 (lv_at hl 4 rfl) ?_
  refine lv_iconst (v := 0) hx hb dL_setTune_2 (by decide) ?_
  refine lv_aload_n hx hb dL_setTune_3 rfl (lv_at hl 0 rfl) ?_
  refine lv_iload_n hx hb dL_setTune_4 rfl (lv_at hl 1 rfl) ?_
  refine lv_iload_n hx hb dL_setTune_5 rfl (lv_at hl 2 rfl) ?_
  refine lv_iload_n hx hb dL_setTune_6 rfl (lv_at hl 3 rfl) ?_
  have hPc := hP.sub (ws' := [(h0, .inr (10, [.ref fq, .ref sq, .ref gq, .ref nq, .ref dq, .ref pq, .int pl, .int bl, .int tb])), (fq, .inr (4, [.int mc_fq, .ref tE, .int 0]))]) [0, 1] rfl
  have hDc := hD.sub (ws' := [(h0, .inr (10, [.ref fq, .ref sq, .ref gq, .ref nq, .ref dq, .ref pq, .int pl, .int bl, .int tb])), (fq, .inr (4, [.int mc_fq, .ref tE, .int 0]))]) [0, 1] (by decide) rfl
  have hKc := hK.sub (tys' := []) [] rfl
  have hFc := va_free (wc := [(h0, .inr (10, [.ref fq, .ref sq, .ref gq, .ref nq, .ref dq, .ref pq, .int pl, .int bl, .int tb])), (fq, .inr (4, [.int mc_fq, .ref tE, .int 0]))]) hD hS hA [0, 1] rfl
  refine vx_calli (vx_runV (As := [.int p0, .int p1, .int p2]) (rest := [.int 0, .ref oq]) ⟨hx, hb, hml, hown, hts⟩ (c_setTune l hl9 dC dI tE h0 fq sq gq nq dq pq pl bl tb mc_fq p0 p1 p2 _ ) (cwV 3 hts (goodIn_app (goodIn_r _ [16, 17, 18, 13] (by rfl) (by decide +kernel)) gt_w_setTune_c_setTune) rfl rfl rfl (by decide +kernel) ⟨Nat.le_of_ble_eq_true rfl, Nat.le_of_ble_eq_true rfl⟩) ⟨Pre0.blind, va_recv hKc hPc (ci := 10) (q0 := 0) rfl rfl, Pre0.give hPc hKc hDc hT hS hFc⟩ rfl rfl hl.1 rfl (lv_room (Nat.le_of_ble_eq_true rfl)) dL_setTune_7 ⟨Nat.le_of_ble_eq_true rfl, Nat.le_of_ble_eq_true rfl⟩) hS (fun q _ h => hFc q h) hFc (fun q _ h => hFc q h) (fun E ce q9 u t H1 locs ht hvm hpx hB hz1 hk1 hS hce hcv hcl => ?_) (fun r u t H1 locs ht hvm hw hB hz1 hk1 hS => hw.elim)
  obtain ⟨rfl, hP1, hK1, hD1⟩ := hB
  rw [ht] at hP1
  have hK1 := va_K.moved hvm.symm hK1
  obtain ⟨hP, hD⟩ := va_join (wr := []) (w1 := [(h0, .inr (10, [.ref fq, .ref sq, .ref gq, .ref nq, .ref dq, .ref pq, .int pl, .int bl, .int tb])), (fq, .inr (4, [.int mc_fq, .ref tE, .int 0]))]) hP hD [0, 1] [] rfl rfl (by decide) (by decide) hk1 hFc hP1 hD1
  generalize H1 = H at hP hS hce ⊢
  have hP : va_P (dC, dI) vwCl [(h0, .inr (10, [.ref fq, .ref sq, .ref gq, .ref nq, .ref dq, .ref pq, .int pl, .int bl, .int tb])), (fq, .inr (4, [.int mc_fq, .ref tE, .int 0]))] H := hP
  have hD : va_D A [(h0, .inr (10, [.ref fq, .ref sq, .ref gq, .ref nq, .ref dq, .ref pq, .int pl, .int bl, .int tb])), (fq, .inr (4, [.int mc_fq, .ref tE, .int 0]))] := hD
  refine vx_widen (k := 1) (n := 6) (by omega) (by omega) ?_
  refine vx_catch (own := RL) (name := "java/lang/IndexOutOfBoundsException") (E := "java/lang/IndexOutOfBoundsException") hown [] ⟨0, 12, 15, 21⟩ [⟨0, 12, 19, 13⟩] (by rw [hTab]; rfl) (fun z hz => nomatch hz) (by decide) (by decide) (hts (.classLink RL 21 "java/lang/IndexOutOfBoundsException") (List.mem_of_getElem? (i := 19) rfl)) (va_Nw.use rfl hT.eX) hce hcv hcl ?_
  refine lv_astore (lv' := [(5, .ref q9), (0, .ref h0), (1, .int p0), (2, .int p1), (3, .int p2), (4, .ref oq)]) hx hb dL_setTune_15 hl (by decide) rfl (fun ls hl => ?_)
  refine lv_iconst (v := 1) hx hb dL_setTune_17 (by decide) ?_
  have hP9 := hP.sub (ws' := [(h0, .inr (10, [.ref fq, .ref sq, .ref gq, .ref nq, .ref dq, .ref pq, .int pl, .int bl, .int tb])), (fq, .inr (4, [.int mc_fq, .ref tE, .int 0]))]) [0, 1] rfl
  have hD9 := hD.sub (ws' := [(h0, .inr (10, [.ref fq, .ref sq, .ref gq, .ref nq, .ref dq, .ref pq, .int pl, .int bl, .int tb])), (fq, .inr (4, [.int mc_fq, .ref tE, .int 0]))]) [0, 1] (by decide) rfl
  have hK9 := hK.sub (tys' := []) [] rfl
  exact W.iret (v := 1) hx hb hr (fun t ht hW => ⟨⟨1, (), rfl, rfl, by rw [ht]; exact hP9, va_K.moved hW.alike hK9, hD9⟩, hS.F ht⟩) hS.2.2 dL_setTune_18
def vh_w_setDoor : List Cond := .codeWith yL_setDoor cL_setDoor 6 (some .int) [(0, 12, 15, 21), (0, 12, 19, 13)] :: ([Cond.code yX5_setDoor cX5_setDoor 6 (some .int), Cond.code yX5_isLift cX5_isLift 2 (some .boolean), Cond.fieldLink RX5 16 "HotelOfBells" "shafts" "Ljava/util/ArrayList;", Cond.code yJx4a65c_size_8abf5 cJx4a65c_size_8abf5 1 (some .int), Cond.fieldLink RJx4a65c 48 "java/util/ArrayList" "size" "I", Cond.methodLink RX5 49 yJx4a65c_size_8abf5, Cond.instanceMethod yJx4a65c_size_8abf5, Cond.selects RJx4a65c yJx4a65c_size_8abf5 yJx4a65c_size_8abf5, Cond.initialized RJx4a65c, Cond.methodLink RX5 103 yX5_isLift, Cond.instanceMethod yX5_isLift, Cond.selects RX5 yX5_isLift yX5_isLift, Cond.initialized RX5, Cond.classLink RX5 71 "java/lang/IndexOutOfBoundsException", Cond.initialized "java/lang/IndexOutOfBoundsException", Cond.methodLink RL 27 yX5_setDoor, Cond.instanceMethod yX5_setDoor, Cond.selects RX5 yX5_setDoor yX5_setDoor, Cond.classLink RL 21 "java/lang/IndexOutOfBoundsException"] ++ (wsX50 ++ (wsJx4a65c0 ++ [])))
def v_w_setDoor : List Cond := vh_w_setDoor ++ (thrX)
theorem u_w_setDoor_X5 : ∀ w ∈ wsX50, w ∈ v_w_setDoor := fun _ h => List.mem_append_left _ (List.mem_cons_of_mem _ (List.mem_append_right _ (List.mem_append_left _ h)))
theorem u_w_setDoor_Jx4a65c : ∀ w ∈ wsJx4a65c0, w ∈ v_w_setDoor := fun _ h => List.mem_append_left _ (List.mem_cons_of_mem _ (List.mem_append_right _ (List.mem_append_right _ (List.mem_append_left _ h))))
theorem gg_w_setDoor_c_setDoor : GoodIn v_w_setDoor vh_c_setDoor := goodIn_r _ [1, 2, 3, 4, 5, 6, 7, 8, 9, 10, 11, 12, 13, 14, 15, 20, 21, 22, 23, 24, 25, 26, 27, 28, 29, 30, 31] (by rfl) (by decide +kernel)
theorem gt_w_setDoor_c_setDoor : GoodIn v_w_setDoor v_c_setDoor := goodIn_app gg_w_setDoor_c_setDoor (goodIn_sub (fun _ h => List.mem_append_right _ h) (by decide +kernel))
set_option maxHeartbeats 4000000 in
set_option maxRecDepth 100000 in
theorem w_setDoor (l : Launch) (hl9 : l.stackTraces = false) (dC : Nat → ClassId) (dI : Nat → Nat → Nat) (tE : Nat) (h0 : Nat) (fq : Nat) (sq : Nat) (gq : Nat) (nq : Nat) (dq : Nat) (pq : Nat) (pl : Int32) (bl : Int32) (tb : Int32) (mc_sq : Int32) (p0 : Int32) (p1 : Int32) (p2 : Int32) (oq : Nat) (sz : Nat) : Met l yL_setDoor v_w_setDoor ({ frames := 7, cells := 1, slots := 6, locals := 115 }) (va_Pc [.ref h0, .int p0, .int p1, .int p2, .ref oq] (Pre0 dC dI tE sz [] [(h0, .inr (10, [.ref fq, .ref sq, .ref gq, .ref nq, .ref dq, .ref pq, .int pl, .int bl, .int tb])), (sq, .inr (4, [.int mc_sq, .ref tE, .int 0]))])) (va_Qi (fun (r : Int32) (_ : Unit) => r = 1) (fun _ t => Pst dC dI [] (va_A [(h0, .inr (10, [.ref fq, .ref sq, .ref gq, .ref nq, .ref dq, .ref pq, .int pl, .int bl, .int tb])), (sq, .inr (4, [.int mc_sq, .ref tE, .int 0]))] sz) [(h0, .inr (10, [.ref fq, .ref sq, .ref gq, .ref nq, .ref dq, .ref pq, .int pl, .int bl, .int tb])), (sq, .inr (4, [.int mc_sq, .ref tE, .int 0]))] t) (va_A [(h0, .inr (10, [.ref fq, .ref sq, .ref gq, .ref nq, .ref dq, .ref pq, .int pl, .int bl, .int tb])), (sq, .inr (4, [.int mc_sq, .ref tE, .int 0]))] sz)) 1 6 (va_A [(h0, .inr (10, [.ref fq, .ref sq, .ref gq, .ref nq, .ref dq, .ref pq, .int pl, .int bl, .int tb])), (sq, .inr (4, [.int mc_sq, .ref tE, .int 0]))] sz) := by
  refine va_MetW (cc := cL_setDoor) (maxL := 6) (ret := (some .int)) (by decide) rfl ?_
  intro p e s m args below meth c s₁ B hml hv
  obtain ⟨rfl, hsz, hP, hK, hD0, hT⟩ := hv
  have hx := B.exec
  have hb := B.bytes
  have hr := B.returns
  have hts := atoms_spec (ws := v_w_setDoor) B.pre
  have hown : s.vm.findClass RL = some m.cls := findClass_of_methodNamed B.named
  have hlocks := B.notSynchronized
  have hTab : c.exceptionTable.toList = tableOf [(0, 12, 15, 21), (0, 12, 19, 13)] := vx_table (x := yL_setDoor) B (hts (.codeWith yL_setDoor cL_setDoor 6 (some .int) [(0, 12, 15, 21), (0, 12, 19, 13)]) (List.mem_of_getElem? (i := 0) rfl))
  subst hsz
  have hD := hD0.self (sz := s.heap.size)
  generalize hAe : va_A [(h0, .inr (10, [.ref fq, .ref sq, .ref gq, .ref nq, .ref dq, .ref pq, .int pl, .int bl, .int tb])), (sq, .inr (4, [.int mc_sq, .ref tE, .int 0]))] s.heap.size = A at hD hT ⊢
  have hA : ∀ q : Nat, s.heap.size ≤ q → A q := fun q h => by rw [← hAe]; exact Or.inr h
  have hS : va_S A s.heap s.heap [] := va_S.rf
  have hl := lv_entry ([.ref h0, .int p0, .int p1, .int p2, .ref oq]) (n := 6) (Nat.le_of_ble_eq_true rfl)
  rw [lg_entry_eq]
  generalize (lg_sl ([.ref h0, .int p0, .int p1, .int p2, .ref oq]) ++ List.replicate (6 - (lg_sl ([.ref h0, .int p0, .int p1, .int p2, .ref oq])).length) Slot.unset).toArray = ls at hl ⊢
  have hl : lv_has ls 6 [(0, .ref h0), (1, .int p0), (2, .int p1), (3, .int p2), (4, .ref oq)] := hl
  refine lv_aload hx hb dL_setDoor_0 (lv_at hl 4 rfl) ?_
  refine lv_iconst (v := 0) hx hb dL_setDoor_2 (by decide) ?_
  refine lv_aload_n hx hb dL_setDoor_3 rfl (lv_at hl 0 rfl) ?_
  refine lv_iload_n hx hb dL_setDoor_4 rfl (lv_at hl 1 rfl) ?_
  refine lv_iload_n hx hb dL_setDoor_5 rfl (lv_at hl 2 rfl) ?_
  refine lv_iload_n hx hb dL_setDoor_6 rfl (lv_at hl 3 rfl) ?_
  have hPc := hP.sub (ws' := [(h0, .inr (10, [.ref fq, .ref sq, .ref gq, .ref nq, .ref dq, .ref pq, .int pl, .int bl, .int tb])), (sq, .inr (4, [.int mc_sq, .ref tE, .int 0]))]) [0, 1] rfl
  have hDc := hD.sub (ws' := [(h0, .inr (10, [.ref fq, .ref sq, .ref gq, .ref nq, .ref dq, .ref pq, .int pl, .int bl, .int tb])), (sq, .inr (4, [.int mc_sq, .ref tE, .int 0]))]) [0, 1] (by decide) rfl
  have hKc := hK.sub (tys' := []) [] rfl
  have hFc := va_free (wc := [(h0, .inr (10, [.ref fq, .ref sq, .ref gq, .ref nq, .ref dq, .ref pq, .int pl, .int bl, .int tb])), (sq, .inr (4, [.int mc_sq, .ref tE, .int 0]))]) hD hS hA [0, 1] rfl
  refine vx_calli (vx_runV (As := [.int p0, .int p1, .int p2]) (rest := [.int 0, .ref oq]) ⟨hx, hb, hml, hown, hts⟩ (c_setDoor l hl9 dC dI tE h0 fq sq gq nq dq pq pl bl tb mc_sq p0 p1 p2 _ ) (cwV 3 hts (goodIn_app (goodIn_r _ [16, 17, 18, 13] (by rfl) (by decide +kernel)) gt_w_setDoor_c_setDoor) rfl rfl rfl (by decide +kernel) ⟨Nat.le_of_ble_eq_true rfl, Nat.le_of_ble_eq_true rfl⟩) ⟨Pre0.blind, va_recv hKc hPc (ci := 10) (q0 := 0) rfl rfl, Pre0.give hPc hKc hDc hT hS hFc⟩ rfl rfl hl.1 rfl (lv_room (Nat.le_of_ble_eq_true rfl)) dL_setDoor_7 ⟨Nat.le_of_ble_eq_true rfl, Nat.le_of_ble_eq_true rfl⟩) hS (fun q _ h => hFc q h) hFc (fun q _ h => hFc q h) (fun E ce q9 u t H1 locs ht hvm hpx hB hz1 hk1 hS hce hcv hcl => ?_) (fun r u t H1 locs ht hvm hw hB hz1 hk1 hS => hw.elim)
  obtain ⟨rfl, hP1, hK1, hD1⟩ := hB
  rw [ht] at hP1
  have hK1 := va_K.moved hvm.symm hK1
  obtain ⟨hP, hD⟩ := va_join (wr := []) (w1 := [(h0, .inr (10, [.ref fq, .ref sq, .ref gq, .ref nq, .ref dq, .ref pq, .int pl, .int bl, .int tb])), (sq, .inr (4, [.int mc_sq, .ref tE, .int 0]))]) hP hD [0, 1] [] rfl rfl (by decide) (by decide) hk1 hFc hP1 hD1
  generalize H1 = H at hP hS hce ⊢
  have hP : va_P (dC, dI) vwCl [(h0, .inr (10, [.ref fq, .ref sq, .ref gq, .ref nq, .ref dq, .ref pq, .int pl, .int bl, .int tb])), (sq, .inr (4, [.int mc_sq, .ref tE, .int 0]))] H := hP
  have hD : va_D A [(h0, .inr (10, [.ref fq, .ref sq, .ref gq, .ref nq, .ref dq, .ref pq, .int pl, .int bl, .int tb])), (sq, .inr (4, [.int mc_sq, .ref tE, .int 0]))] := hD
  refine vx_widen (k := 1) (n := 6) (by omega) (by omega) ?_
  refine vx_catch (own := RL) (name := "java/lang/IndexOutOfBoundsException") (E := "java/lang/IndexOutOfBoundsException") hown [] ⟨0, 12, 15, 21⟩ [⟨0, 12, 19, 13⟩] (by rw [hTab]; rfl) (fun z hz => nomatch hz) (by decide) (by decide) (hts (.classLink RL 21 "java/lang/IndexOutOfBoundsException") (List.mem_of_getElem? (i := 19) rfl)) (va_Nw.use rfl hT.eX) hce hcv hcl ?_
  refine lv_astore (lv' := [(5, .ref q9), (0, .ref h0), (1, .int p0), (2, .int p1), (3, .int p2), (4, .ref oq)]) hx hb dL_setDoor_15 hl (by decide) rfl (fun ls hl => ?_)
  refine lv_iconst (v := 1) hx hb dL_setDoor_17 (by decide) ?_
  have hP9 := hP.sub (ws' := [(h0, .inr (10, [.ref fq, .ref sq, .ref gq, .ref nq, .ref dq, .ref pq, .int pl, .int bl, .int tb])), (sq, .inr (4, [.int mc_sq, .ref tE, .int 0]))]) [0, 1] rfl
  have hD9 := hD.sub (ws' := [(h0, .inr (10, [.ref fq, .ref sq, .ref gq, .ref nq, .ref dq, .ref pq, .int pl, .int bl, .int tb])), (sq, .inr (4, [.int mc_sq, .ref tE, .int 0]))]) [0, 1] (by decide) rfl
  have hK9 := hK.sub (tys' := []) [] rfl
  exact W.iret (v := 1) hx hb hr (fun t ht hW => ⟨⟨1, (), rfl, rfl, by rw [ht]; exact hP9, va_K.moved hW.alike hK9, hD9⟩, hS.F ht⟩) hS.2.2 dL_setDoor_18
def vh_w_addGuest : List Cond := .codeWith yL_addGuest cL_addGuest 5 (some .int) [(0, 10, 13, 21), (0, 10, 17, 15)] :: ([Cond.code yX5_addGuest cX5_addGuest 3 (some .int), Cond.code yX5_isRoom cX5_isRoom 3 (some .boolean), Cond.code yX5_isFloor cX5_isFloor 2 (some .boolean), Cond.fieldLink RX5 10 "HotelOfBells" "floors" "Ljava/util/ArrayList;", Cond.code yJx4a65c_size_8abf5 cJx4a65c_size_8abf5 1 (some .int), Cond.fieldLink RJx4a65c 48 "java/util/ArrayList" "size" "I", Cond.methodLink RX5 49 yJx4a65c_size_8abf5, Cond.instanceMethod yJx4a65c_size_8abf5, Cond.selects RJx4a65c yJx4a65c_size_8abf5 yJx4a65c_size_8abf5, Cond.initialized RJx4a65c, Cond.methodLink RX5 67 yX5_isFloor, Cond.instanceMethod yX5_isFloor, Cond.selects RX5 yX5_isFloor yX5_isFloor, Cond.initialized RX5, Cond.methodLink RX5 120 yX5_isRoom, Cond.instanceMethod yX5_isRoom, Cond.selects RX5 yX5_isRoom yX5_isRoom, Cond.classLink RX5 71 "java/lang/IndexOutOfBoundsException", Cond.initialized "java/lang/IndexOutOfBoundsException", Cond.methodLink RL 30 yX5_addGuest, Cond.instanceMethod yX5_addGuest, Cond.selects RX5 yX5_addGuest yX5_addGuest, Cond.classLink RL 21 "java/lang/IndexOutOfBoundsException"] ++ (wsX50 ++ (wsJx4a65c0 ++ [])))
def v_w_addGuest : List Cond := vh_w_addGuest ++ (thrX)
theorem u_w_addGuest_X5 : ∀ w ∈ wsX50, w ∈ v_w_addGuest := fun _ h => List.mem_append_left _ (List.mem_cons_of_mem _ (List.mem_append_right _ (List.mem_append_left _ h)))
theorem u_w_addGuest_Jx4a65c : ∀ w ∈ wsJx4a65c0, w ∈ v_w_addGuest := fun _ h => List.mem_append_left _ (List.mem_cons_of_mem _ (List.mem_append_right _ (List.mem_append_right _ (List.mem_append_left _ h))))
theorem gg_w_addGuest_c_addGuest : GoodIn v_w_addGuest vh_c_addGuest := goodIn_r _ [1, 2, 3, 4, 5, 6, 7, 8, 9, 10, 11, 12, 13, 14, 15, 16, 17, 18, 19, 24, 25, 26, 27, 28, 29, 30, 31, 32, 33, 34, 35] (by rfl) (by decide +kernel)
theorem gt_w_addGuest_c_addGuest : GoodIn v_w_addGuest v_c_addGuest := goodIn_app gg_w_addGuest_c_addGuest (goodIn_sub (fun _ h => List.mem_append_right _ h) (by decide +kernel))
set_option maxHeartbeats 4000000 in
set_option maxRecDepth 100000 in
theorem w_addGuest (l : Launch) (hl9 : l.stackTraces = false) (dC : Nat → ClassId) (dI : Nat → Nat → Nat) (tE : Nat) (h0 : Nat) (fq : Nat) (sq : Nat) (gq : Nat) (nq : Nat) (dq : Nat) (pq : Nat) (pl : Int32) (bl : Int32) (tb : Int32) (mc_fq : Int32) (p0 : Int32) (p1 : Int32) (oq : Nat) (sz : Nat) : Met l yL_addGuest v_w_addGuest ({ frames := 7, cells := 1, slots := 6, locals := 112 }) (va_Pc [.ref h0, .int p0, .int p1, .ref oq] (Pre0 dC dI tE sz [] [(h0, .inr (10, [.ref fq, .ref sq, .ref gq, .ref nq, .ref dq, .ref pq, .int pl, .int bl, .int tb])), (fq, .inr (4, [.int mc_fq, .ref tE, .int 0]))])) (va_Qi (fun (r : Int32) (_ : Unit) => r = 1) (fun _ t => Pst dC dI [] (va_A [(h0, .inr (10, [.ref fq, .ref sq, .ref gq, .ref nq, .ref dq, .ref pq, .int pl, .int bl, .int tb])), (fq, .inr (4, [.int mc_fq, .ref tE, .int 0]))] sz) [(h0, .inr (10, [.ref fq, .ref sq, .ref gq, .ref nq, .ref dq, .ref pq, .int pl, .int bl, .int tb])), (fq, .inr (4, [.int mc_fq, .ref tE, .int 0]))] t) (va_A [(h0, .inr (10, [.ref fq, .ref sq, .ref gq, .ref nq, .ref dq, .ref pq, .int pl, .int bl, .int tb])), (fq, .inr (4, [.int mc_fq, .ref tE, .int 0]))] sz)) 1 6 (va_A [(h0, .inr (10, [.ref fq, .ref sq, .ref gq, .ref nq, .ref dq, .ref pq, .int pl, .int bl, .int tb])), (fq, .inr (4, [.int mc_fq, .ref tE, .int 0]))] sz) := by
  refine va_MetW (cc := cL_addGuest) (maxL := 5) (ret := (some .int)) (by decide) rfl ?_
  intro p e s m args below meth c s₁ B hml hv
  obtain ⟨rfl, hsz, hP, hK, hD0, hT⟩ := hv
  have hx := B.exec
  have hb := B.bytes
  have hr := B.returns
  have hts := atoms_spec (ws := v_w_addGuest) B.pre
  have hown : s.vm.findClass RL = some m.cls := findClass_of_methodNamed B.named
  have hlocks := B.notSynchronized
  have hTab : c.exceptionTable.toList = tableOf [(0, 10, 13, 21), (0, 10, 17, 15)] := vx_table (x := yL_addGuest) B (hts (.codeWith yL_addGuest cL_addGuest 5 (some .int) [(0, 10, 13, 21), (0, 10, 17, 15)]) (List.mem_of_getElem? (i := 0) rfl))
  subst hsz
  have hD := hD0.self (sz := s.heap.size)
  generalize hAe : va_A [(h0, .inr (10, [.ref fq, .ref sq, .ref gq, .ref nq, .ref dq, .ref pq, .int pl, .int bl, .int tb])), (fq, .inr (4, [.int mc_fq, .ref tE, .int 0]))] s.heap.size = A at hD hT ⊢
  have hA : ∀ q : Nat, s.heap.size ≤ q → A q := fun q h => by rw [← hAe]; exact Or.inr h
  have hS : va_S A s.heap s.heap [] := va_S.rf
  have hl := lv_entry ([.ref h0, .int p0, .int p1, .ref oq]) (n := 5) (Nat.le_of_ble_eq_true rfl)
  rw [lg_entry_eq]
  generalize (lg_sl ([.ref h0, .int p0, .int p1, .ref oq]) ++ List.replicate (5 - (lg_sl ([.ref h0, .int p0, .int p1, .ref oq])).length) Slot.unset).toArray = ls at hl ⊢
  have hl : lv_has ls 5 [(0, .ref h0), (1, .int p0), (2, .int p1), (3, .ref oq)] := hl
  refine lv_aload_n hx hb dL_addGuest_0 rfl (lv_at hl 3 rfl) ?_
  refine lv_iconst (v := 0) hx hb dL_addGuest_1 (by decide) ?_
  refine lv_aload_n hx hb dL_addGuest_2 rfl (lv_at hl 0 rfl) ?_
  refine lv_iload_n hx hb dL_addGuest_3 rfl (lv_at hl 1 rfl) ?_
  refine lv_iload_n hx hb dL_addGuest_4 rfl (lv_at hl 2 rfl) ?_
  have hPc := hP.sub (ws' := [(h0, .inr (10, [.ref fq, .ref sq, .ref gq, .ref nq, .ref dq, .ref pq, .int pl, .int bl, .int tb])), (fq, .inr (4, [.int mc_fq, .ref tE, .int 0]))]) [0, 1] rfl
  have hDc := hD.sub (ws' := [(h0, .inr (10, [.ref fq, .ref sq, .ref gq, .ref nq, .ref dq, .ref pq, .int pl, .int bl, .int tb])), (fq, .inr (4, [.int mc_fq, .ref tE, .int 0]))]) [0, 1] (by decide) rfl
  have hKc := hK.sub (tys' := []) [] rfl
  have hFc := va_free (wc := [(h0, .inr (10, [.ref fq, .ref sq, .ref gq, .ref nq, .ref dq, .ref pq, .int pl, .int bl, .int tb])), (fq, .inr (4, [.int mc_fq, .ref tE, .int 0]))]) hD hS hA [0, 1] rfl
  refine vx_calli (vx_runV (As := [.int p0, .int p1]) (rest := [.int 0, .ref oq]) ⟨hx, hb, hml, hown, hts⟩ (c_addGuest l hl9 dC dI tE h0 fq sq gq nq dq pq pl bl tb mc_fq p0 p1 _ ) (cwV 2 hts (goodIn_app (goodIn_r _ [20, 21, 22, 14] (by rfl) (by decide +kernel)) gt_w_addGuest_c_addGuest) rfl rfl rfl (by decide +kernel) ⟨Nat.le_of_ble_eq_true rfl, Nat.le_of_ble_eq_true rfl⟩) ⟨Pre0.blind, va_recv hKc hPc (ci := 10) (q0 := 0) rfl rfl, Pre0.give hPc hKc hDc hT hS hFc⟩ rfl rfl hl.1 rfl (lv_room (Nat.le_of_ble_eq_true rfl)) dL_addGuest_5 ⟨Nat.le_of_ble_eq_true rfl, Nat.le_of_ble_eq_true rfl⟩) hS (fun q _ h => hFc q h) hFc (fun q _ h => hFc q h) (fun E ce q9 u t H1 locs ht hvm hpx hB hz1 hk1 hS hce hcv hcl => ?_) (fun r u t H1 locs ht hvm hw hB hz1 hk1 hS => hw.elim)
  obtain ⟨rfl, hP1, hK1, hD1⟩ := hB
  rw [ht] at hP1
  have hK1 := va_K.moved hvm.symm hK1
  obtain ⟨hP, hD⟩ := va_join (wr := []) (w1 := [(h0, .inr (10, [.ref fq, .ref sq, .ref gq, .ref nq, .ref dq, .ref pq, .int pl, .int bl, .int tb])), (fq, .inr (4, [.int mc_fq, .ref tE, .int 0]))]) hP hD [0, 1] [] rfl rfl (by decide) (by decide) hk1 hFc hP1 hD1
  generalize H1 = H at hP hS hce ⊢
  have hP : va_P (dC, dI) vwCl [(h0, .inr (10, [.ref fq, .ref sq, .ref gq, .ref nq, .ref dq, .ref pq, .int pl, .int bl, .int tb])), (fq, .inr (4, [.int mc_fq, .ref tE, .int 0]))] H := hP
  have hD : va_D A [(h0, .inr (10, [.ref fq, .ref sq, .ref gq, .ref nq, .ref dq, .ref pq, .int pl, .int bl, .int tb])), (fq, .inr (4, [.int mc_fq, .ref tE, .int 0]))] := hD
  refine vx_widen (k := 1) (n := 6) (by omega) (by omega) ?_
  refine vx_catch (own := RL) (name := "java/lang/IndexOutOfBoundsException") (E := "java/lang/IndexOutOfBoundsException") hown [] ⟨0, 10, 13, 21⟩ [⟨0, 10, 17, 15⟩] (by rw [hTab]; rfl) (fun z hz => nomatch hz) (by decide) (by decide) (hts (.classLink RL 21 "java/lang/IndexOutOfBoundsException") (List.mem_of_getElem? (i := 23) rfl)) (va_Nw.use rfl hT.eX) hce hcv hcl ?_
  refine lv_astore (lv' := [(4, .ref q9), (0, .ref h0), (1, .int p0), (2, .int p1), (3, .ref oq)]) hx hb dL_addGuest_13 hl (by decide) rfl (fun ls hl => ?_)
  refine lv_iconst (v := 1) hx hb dL_addGuest_15 (by decide) ?_
  have hP9 := hP.sub (ws' := [(h0, .inr (10, [.ref fq, .ref sq, .ref gq, .ref nq, .ref dq, .ref pq, .int pl, .int bl, .int tb])), (fq, .inr (4, [.int mc_fq, .ref tE, .int 0]))]) [0, 1] rfl
  have hD9 := hD.sub (ws' := [(h0, .inr (10, [.ref fq, .ref sq, .ref gq, .ref nq, .ref dq, .ref pq, .int pl, .int bl, .int tb])), (fq, .inr (4, [.int mc_fq, .ref tE, .int 0]))]) [0, 1] (by decide) rfl
  have hK9 := hK.sub (tys' := []) [] rfl
  exact W.iret (v := 1) hx hb hr (fun t ht hW => ⟨⟨1, (), rfl, rfl, by rw [ht]; exact hP9, va_K.moved hW.alike hK9, hD9⟩, hS.F ht⟩) hS.2.2 dL_addGuest_16
def vh_w_want : List Cond := .codeWith yL_want cL_want 6 (some .int) [(0, 19, 22, 21)] :: ([Cond.code yX5_want cX5_want 5 (some .boolean), Cond.code yX5_isGuest cX5_isGuest 2 (some .boolean), Cond.fieldLink RX5 19 "HotelOfBells" "guests" "Ljava/util/ArrayList;", Cond.code yJx4a65c_size_8abf5 cJx4a65c_size_8abf5 1 (some .int), Cond.fieldLink RJx4a65c 48 "java/util/ArrayList" "size" "I", Cond.methodLink RX5 49 yJx4a65c_size_8abf5, Cond.instanceMethod yJx4a65c_size_8abf5, Cond.selects RJx4a65c yJx4a65c_size_8abf5 yJx4a65c_size_8abf5, Cond.initialized RJx4a65c, Cond.methodLink RX5 132 yX5_isGuest, Cond.instanceMethod yX5_isGuest, Cond.selects RX5 yX5_isGuest yX5_isGuest, Cond.initialized RX5, Cond.classLink RX5 71 "java/lang/IndexOutOfBoundsException", Cond.initialized "java/lang/IndexOutOfBoundsException", Cond.methodLink RL 34 yX5_want, Cond.instanceMethod yX5_want, Cond.selects RX5 yX5_want yX5_want, Cond.classLink RL 21 "java/lang/IndexOutOfBoundsException"] ++ (wsX50 ++ (wsJx4a65c0 ++ [])))
def v_w_want : List Cond := vh_w_want ++ (thrX)
theorem u_w_want_X5 : ∀ w ∈ wsX50, w ∈ v_w_want := fun _ h => List.mem_append_left _ (List.mem_cons_of_mem _ (List.mem_append_right _ (List.mem_append_left _ h)))
theorem u_w_want_Jx4a65c : ∀ w ∈ wsJx4a65c0, w ∈ v_w_want := fun _ h => List.mem_append_left _ (List.mem_cons_of_mem _ (List.mem_append_right _ (List.mem_append_right _ (List.mem_append_left _ h))))
theorem gg_w_want_c_want : GoodIn v_w_want vh_c_want := goodIn_r _ [1, 2, 3, 4, 5, 6, 7, 8, 9, 10, 11, 12, 13, 14, 15, 20, 21, 22, 23, 24, 25, 26, 27, 28, 29, 30, 31] (by rfl) (by decide +kernel)
theorem gt_w_want_c_want : GoodIn v_w_want v_c_want := goodIn_app gg_w_want_c_want (goodIn_sub (fun _ h => List.mem_append_right _ h) (by decide +kernel))
set_option maxHeartbeats 4000000 in
set_option maxRecDepth 100000 in
theorem w_want (l : Launch) (hl9 : l.stackTraces = false) (dC : Nat → ClassId) (dI : Nat → Nat → Nat) (tE : Nat) (h0 : Nat) (fq : Nat) (sq : Nat) (gq : Nat) (nq : Nat) (dq : Nat) (pq : Nat) (pl : Int32) (bl : Int32) (tb : Int32) (mc_gq : Int32) (p0 : Int32) (p1 : Int32) (p2 : Int32) (oq : Nat) (sz : Nat) : Met l yL_want v_w_want ({ frames := 7, cells := 1, slots := 6, locals := 114 }) (va_Pc [.ref h0, .int p0, .int p1, .int p2, .ref oq] (Pre0 dC dI tE sz [] [(h0, .inr (10, [.ref fq, .ref sq, .ref gq, .ref nq, .ref dq, .ref pq, .int pl, .int bl, .int tb])), (gq, .inr (4, [.int mc_gq, .ref tE, .int 0]))])) (va_Qi (fun (r : Int32) (_ : Unit) => r = 1) (fun _ t => Pst dC dI [] (va_A [(h0, .inr (10, [.ref fq, .ref sq, .ref gq, .ref nq, .ref dq, .ref pq, .int pl, .int bl, .int tb])), (gq, .inr (4, [.int mc_gq, .ref tE, .int 0]))] sz) [(h0, .inr (10, [.ref fq, .ref sq, .ref gq, .ref nq, .ref dq, .ref pq, .int pl, .int bl, .int tb])), (gq, .inr (4, [.int mc_gq, .ref tE, .int 0]))] t) (va_A [(h0, .inr (10, [.ref fq, .ref sq, .ref gq, .ref nq, .ref dq, .ref pq, .int pl, .int bl, .int tb])), (gq, .inr (4, [.int mc_gq, .ref tE, .int 0]))] sz)) 1 6 (va_A [(h0, .inr (10, [.ref fq, .ref sq, .ref gq, .ref nq, .ref dq, .ref pq, .int pl, .int bl, .int tb])), (gq, .inr (4, [.int mc_gq, .ref tE, .int 0]))] sz) := by
  refine va_MetW (cc := cL_want) (maxL := 6) (ret := (some .int)) (by decide) rfl ?_
  intro p e s m args below meth c s₁ B hml hv
  obtain ⟨rfl, hsz, hP, hK, hD0, hT⟩ := hv
  have hx := B.exec
  have hb := B.bytes
  have hr := B.returns
  have hts := atoms_spec (ws := v_w_want) B.pre
  have hown : s.vm.findClass RL = some m.cls := findClass_of_methodNamed B.named
  have hlocks := B.notSynchronized
  have hTab : c.exceptionTable.toList = tableOf [(0, 19, 22, 21)] := vx_table (x := yL_want) B (hts (.codeWith yL_want cL_want 6 (some .int) [(0, 19, 22, 21)]) (List.mem_of_getElem? (i := 0) rfl))
  subst hsz
  have hD := hD0.self (sz := s.heap.size)
  generalize hAe : va_A [(h0, .inr (10, [.ref fq, .ref sq, .ref gq, .ref nq, .ref dq, .ref pq, .int pl, .int bl, .int tb])), (gq, .inr (4, [.int mc_gq, .ref tE, .int 0]))] s.heap.size = A at hD hT ⊢
  have hA : ∀ q : Nat, s.heap.size ≤ q → A q := fun q h => by rw [← hAe]; exact Or.inr h
  have hS : va_S A s.heap s.heap [] := va_S.rf
  have hl := lv_entry ([.ref h0, .int p0, .int p1, .int p2, .ref oq]) (n := 6) (Nat.le_of_ble_eq_true rfl)
  rw [lg_entry_eq]
  generalize (lg_sl ([.ref h0, .int p0, .int p1, .int p2, .ref oq]) ++ List.replicate (6 - (lg_sl ([.ref h0, .int p0, .int p1, .int p2, .ref oq])).length) Slot.unset).toArray = ls at hl ⊢
  have hl : lv_has ls 6 [(0, .ref h0), (1, .int p0), (2, .int p1), (3, .int p2), (4, .ref oq)] := hl
  refine lv_aload hx hb dL_want_0 (lv_at hl 4 rfl) ?_
  refine lv_iconst (v := 0) hx hb dL_want_2 (by decide) ?_
  refine lv_aload_n hx hb dL_want_3 rfl (lv_at hl 0 rfl) ?_
  refine lv_iload_n hx hb dL_want_4 rfl (lv_at hl 1 rfl) ?_
  refine lv_iload_n hx hb dL_want_5 rfl (lv_at hl 2 rfl) ?_
  refine lv_iload_n hx hb dL_want_6 rfl (lv_at hl 3 rfl) ?_
  have hPc := hP.sub (ws' := [(h0, .inr (10, [.ref fq, .ref sq, .ref gq, .ref nq, .ref dq, .ref pq, .int pl, .int bl, .int tb])), (gq, .inr (4, [.int mc_gq, .ref tE, .int 0]))]) [0, 1] rfl
  have hDc := hD.sub (ws' := [(h0, .inr (10, [.ref fq, .ref sq, .ref gq, .ref nq, .ref dq, .ref pq, .int pl, .int bl, .int tb])), (gq, .inr (4, [.int mc_gq, .ref tE, .int 0]))]) [0, 1] (by decide) rfl
  have hKc := hK.sub (tys' := []) [] rfl
  have hFc := va_free (wc := [(h0, .inr (10, [.ref fq, .ref sq, .ref gq, .ref nq, .ref dq, .ref pq, .int pl, .int bl, .int tb])), (gq, .inr (4, [.int mc_gq, .ref tE, .int 0]))]) hD hS hA [0, 1] rfl
  refine vx_calli (vx_runV (As := [.int p0, .int p1, .int p2]) (rest := [.int 0, .ref oq]) ⟨hx, hb, hml, hown, hts⟩ (c_want l hl9 dC dI tE h0 fq sq gq nq dq pq pl bl tb mc_gq p0 p1 p2 _ ) (cwV 3 hts (goodIn_app (goodIn_r _ [16, 17, 18, 13] (by rfl) (by decide +kernel)) gt_w_want_c_want) rfl rfl rfl (by decide +kernel) ⟨Nat.le_of_ble_eq_true rfl, Nat.le_of_ble_eq_true rfl⟩) ⟨Pre0.blind, va_recv hKc hPc (ci := 10) (q0 := 0) rfl rfl, Pre0.give hPc hKc hDc hT hS hFc⟩ rfl rfl hl.1 rfl (lv_room (Nat.le_of_ble_eq_true rfl)) dL_want_7 ⟨Nat.le_of_ble_eq_true rfl, Nat.le_of_ble_eq_true rfl⟩) hS (fun q _ h => hFc q h) hFc (fun q _ h => hFc q h) (fun E ce q9 u t H1 locs ht hvm hpx hB hz1 hk1 hS hce hcv hcl => ?_) (fun r u t H1 locs ht hvm hw hB hz1 hk1 hS => hw.elim)
  obtain ⟨rfl, hP1, hK1, hD1⟩ := hB
  rw [ht] at hP1
  have hK1 := va_K.moved hvm.symm hK1
  obtain ⟨hP, hD⟩ := va_join (wr := []) (w1 := [(h0, .inr (10, [.ref fq, .ref sq, .ref gq, .ref nq, .ref dq, .ref pq, .int pl, .int bl, .int tb])), (gq, .inr (4, [.int mc_gq, .ref tE, .int 0]))]) hP hD [0, 1] [] rfl rfl (by decide) (by decide) hk1 hFc hP1 hD1
  generalize H1 = H at hP hS hce ⊢
  have hP : va_P (dC, dI) vwCl [(h0, .inr (10, [.ref fq, .ref sq, .ref gq, .ref nq, .ref dq, .ref pq, .int pl, .int bl, .int tb])), (gq, .inr (4, [.int mc_gq, .ref tE, .int 0]))] H := hP
  have hD : va_D A [(h0, .inr (10, [.ref fq, .ref sq, .ref gq, .ref nq, .ref dq, .ref pq, .int pl, .int bl, .int tb])), (gq, .inr (4, [.int mc_gq, .ref tE, .int 0]))] := hD
  refine vx_widen (k := 1) (n := 6) (by omega) (by omega) ?_
  refine vx_catch (own := RL) (name := "java/lang/IndexOutOfBoundsException") (E := "java/lang/IndexOutOfBoundsException") hown [] ⟨0, 19, 22, 21⟩ [] (by rw [hTab]; rfl) (fun z hz => nomatch hz) (by decide) (by decide) (hts (.classLink RL 21 "java/lang/IndexOutOfBoundsException") (List.mem_of_getElem? (i := 19) rfl)) (va_Nw.use rfl hT.eX) hce hcv hcl ?_
  refine lv_astore (lv' := [(5, .ref q9), (0, .ref h0), (1, .int p0), (2, .int p1), (3, .int p2), (4, .ref oq)]) hx hb dL_want_22 hl (by decide) rfl (fun ls hl => ?_)
  refine lv_iconst (v := 1) hx hb dL_want_24 (by decide) ?_
  have hP9 := hP.sub (ws' := [(h0, .inr (10, [.ref fq, .ref sq, .ref gq, .ref nq, .ref dq, .ref pq, .int pl, .int bl, .int tb])), (gq, .inr (4, [.int mc_gq, .ref tE, .int 0]))]) [0, 1] rfl
  have hD9 := hD.sub (ws' := [(h0, .inr (10, [.ref fq, .ref sq, .ref gq, .ref nq, .ref dq, .ref pq, .int pl, .int bl, .int tb])), (gq, .inr (4, [.int mc_gq, .ref tE, .int 0]))]) [0, 1] (by decide) rfl
  have hK9 := hK.sub (tys' := []) [] rfl
  exact W.iret (v := 1) hx hb hr (fun t ht hW => ⟨⟨1, (), rfl, rfl, by rw [ht]; exact hP9, va_K.moved hW.alike hK9, hD9⟩, hS.F ht⟩) hS.2.2 dL_want_25
def vh_w_floor : List Cond := .codeWith yL_floor cL_floor 5 (some .int) [(0, 10, 13, 21)] :: ([Cond.code yX5_floor cX5_floor 4 (some .int), Cond.code yX5_isFloor cX5_isFloor 2 (some .boolean), Cond.fieldLink RX5 10 "HotelOfBells" "floors" "Ljava/util/ArrayList;", Cond.code yJx4a65c_size_8abf5 cJx4a65c_size_8abf5 1 (some .int), Cond.fieldLink RJx4a65c 48 "java/util/ArrayList" "size" "I", Cond.methodLink RX5 49 yJx4a65c_size_8abf5, Cond.instanceMethod yJx4a65c_size_8abf5, Cond.selects RJx4a65c yJx4a65c_size_8abf5 yJx4a65c_size_8abf5, Cond.initialized RJx4a65c, Cond.methodLink RX5 67 yX5_isFloor, Cond.instanceMethod yX5_isFloor, Cond.selects RX5 yX5_isFloor yX5_isFloor, Cond.initialized RX5, Cond.classLink RX5 71 "java/lang/IndexOutOfBoundsException", Cond.initialized "java/lang/IndexOutOfBoundsException", Cond.methodLink RL 38 yX5_floor, Cond.instanceMethod yX5_floor, Cond.selects RX5 yX5_floor yX5_floor, Cond.classLink RL 21 "java/lang/IndexOutOfBoundsException"] ++ (wsX50 ++ (wsJx4a65c0 ++ [])))
def v_w_floor : List Cond := vh_w_floor ++ (thrX)
theorem u_w_floor_X5 : ∀ w ∈ wsX50, w ∈ v_w_floor := fun _ h => List.mem_append_left _ (List.mem_cons_of_mem _ (List.mem_append_right _ (List.mem_append_left _ h)))
theorem u_w_floor_Jx4a65c : ∀ w ∈ wsJx4a65c0, w ∈ v_w_floor := fun _ h => List.mem_append_left _ (List.mem_cons_of_mem _ (List.mem_append_right _ (List.mem_append_right _ (List.mem_append_left _ h))))
theorem gg_w_floor_c_floor : GoodIn v_w_floor vh_c_floor := goodIn_r _ [1, 2, 3, 4, 5, 6, 7, 8, 9, 10, 11, 12, 13, 14, 15, 20, 21, 22, 23, 24, 25, 26, 27, 28, 29, 30, 31] (by rfl) (by decide +kernel)
theorem gt_w_floor_c_floor : GoodIn v_w_floor v_c_floor := goodIn_app gg_w_floor_c_floor (goodIn_sub (fun _ h => List.mem_append_right _ h) (by decide +kernel))
set_option maxHeartbeats 4000000 in
set_option maxRecDepth 100000 in
theorem w_floor (l : Launch) (hl9 : l.stackTraces = false) (dC : Nat → ClassId) (dI : Nat → Nat → Nat) (tE : Nat) (h0 : Nat) (fq : Nat) (sq : Nat) (gq : Nat) (nq : Nat) (dq : Nat) (pq : Nat) (pl : Int32) (bl : Int32) (tb : Int32) (mc_fq : Int32) (p0 : Int32) (p1 : Int32) (oq : Nat) (sz : Nat) : Met l yL_floor v_w_floor ({ frames := 7, cells := 1, slots := 6, locals := 113 }) (va_Pc [.ref h0, .int p0, .int p1, .ref oq] (Pre0 dC dI tE sz [] [(h0, .inr (10, [.ref fq, .ref sq, .ref gq, .ref nq, .ref dq, .ref pq, .int pl, .int bl, .int tb])), (fq, .inr (4, [.int mc_fq, .ref tE, .int 0]))])) (va_Qi (fun (r : Int32) (_ : Unit) => r = 1) (fun _ t => Pst dC dI [] (va_A [(h0, .inr (10, [.ref fq, .ref sq, .ref gq, .ref nq, .ref dq, .ref pq, .int pl, .int bl, .int tb])), (fq, .inr (4, [.int mc_fq, .ref tE, .int 0]))] sz) [(h0, .inr (10, [.ref fq, .ref sq, .ref gq, .ref nq, .ref dq, .ref pq, .int pl, .int bl, .int tb])), (fq, .inr (4, [.int mc_fq, .ref tE, .int 0]))] t) (va_A [(h0, .inr (10, [.ref fq, .ref sq, .ref gq, .ref nq, .ref dq, .ref pq, .int pl, .int bl, .int tb])), (fq, .inr (4, [.int mc_fq, .ref tE, .int 0]))] sz)) 1 6 (va_A [(h0, .inr (10, [.ref fq, .ref sq, .ref gq, .ref nq, .ref dq, .ref pq, .int pl, .int bl, .int tb])), (fq, .inr (4, [.int mc_fq, .ref tE, .int 0]))] sz) := by
  refine va_MetW (cc := cL_floor) (maxL := 5) (ret := (some .int)) (by decide) rfl ?_
  intro p e s m args below meth c s₁ B hml hv
  obtain ⟨rfl, hsz, hP, hK, hD0, hT⟩ := hv
  have hx := B.exec
  have hb := B.bytes
  have hr := B.returns
  have hts := atoms_spec (ws := v_w_floor) B.pre
  have hown : s.vm.findClass RL = some m.cls := findClass_of_methodNamed B.named
  have hlocks := B.notSynchronized
  have hTab : c.exceptionTable.toList = tableOf [(0, 10, 13, 21)] := vx_table (x := yL_floor) B (hts (.codeWith yL_floor cL_floor 5 (some .int) [(0, 10, 13, 21)]) (List.mem_of_getElem? (i := 0) rfl))
  subst hsz
  have hD := hD0.self (sz := s.heap.size)
  generalize hAe : va_A [(h0, .inr (10, [.ref fq, .ref sq, .ref gq, .ref nq, .ref dq, .ref pq, .int pl, .int bl, .int tb])), (fq, .inr (4, [.int mc_fq, .ref tE, .int 0]))] s.heap.size = A at hD hT ⊢
  have hA : ∀ q : Nat, s.heap.size ≤ q → A q := fun q h => by rw [← hAe]; exact Or.inr h
  have hS : va_S A s.heap s.heap [] := va_S.rf
  have hl := lv_entry ([.ref h0, .int p0, .int p1, .ref oq]) (n := 5) (Nat.le_of_ble_eq_true rfl)
  rw [lg_entry_eq]
  generalize (lg_sl ([.ref h0, .int p0, .int p1, .ref oq]) ++ List.replicate (5 - (lg_sl ([.ref h0, .int p0, .int p1, .ref oq])).length) Slot.unset).toArray = ls at hl ⊢
  have hl : lv_has ls 5 [(0, .ref h0), (1, .int p0), (2, .int p1), (3, .ref oq)] := hl
  refine lv_aload_n hx hb dL_floor_0 rfl (lv_at hl 3 rfl) ?_
  refine lv_iconst (v := 0) hx hb dL_floor_1 (by decide) ?_
  refine lv_aload_n hx hb dL_floor_2 rfl (lv_at hl 0 rfl) ?_
  refine lv_iload_n hx hb dL_floor_3 rfl (lv_at hl 1 rfl) ?_
  refine lv_iload_n hx hb dL_floor_4 rfl (lv_at hl 2 rfl) ?_
  have hPc := hP.sub (ws' := [(h0, .inr (10, [.ref fq, .ref sq, .ref gq, .ref nq, .ref dq, .ref pq, .int pl, .int bl, .int tb])), (fq, .inr (4, [.int mc_fq, .ref tE, .int 0]))]) [0, 1] rfl
  have hDc := hD.sub (ws' := [(h0, .inr (10, [.ref fq, .ref sq, .ref gq, .ref nq, .ref dq, .ref pq, .int pl, .int bl, .int tb])), (fq, .inr (4, [.int mc_fq, .ref tE, .int 0]))]) [0, 1] (by decide) rfl
  have hKc := hK.sub (tys' := []) [] rfl
  have hFc := va_free (wc := [(h0, .inr (10, [.ref fq, .ref sq, .ref gq, .ref nq, .ref dq, .ref pq, .int pl, .int bl, .int tb])), (fq, .inr (4, [.int mc_fq, .ref tE, .int 0]))]) hD hS hA [0, 1] rfl
  refine vx_calli (vx_runV (As := [.int p0, .int p1]) (rest := [.int 0, .ref oq]) ⟨hx, hb, hml, hown, hts⟩ (c_floor l hl9 dC dI tE h0 fq sq gq nq dq pq pl bl tb mc_fq p0 p1 _ ) (cwV 2 hts (goodIn_app (goodIn_r _ [16, 17, 18, 13] (by rfl) (by decide +kernel)) gt_w_floor_c_floor) rfl rfl rfl (by decide +kernel) ⟨Nat.le_of_ble_eq_true rfl, Nat.le_of_ble_eq_true rfl⟩) ⟨Pre0.blind, va_recv hKc hPc (ci := 10) (q0 := 0) rfl rfl, Pre0.give hPc hKc hDc hT hS hFc⟩ rfl rfl hl.1 rfl (lv_room (Nat.le_of_ble_eq_true rfl)) dL_floor_5 ⟨Nat.le_of_ble_eq_true rfl, Nat.le_of_ble_eq_true rfl⟩) hS (fun q _ h => hFc q h) hFc (fun q _ h => hFc q h) (fun E ce q9 u t H1 locs ht hvm hpx hB hz1 hk1 hS hce hcv hcl => ?_) (fun r u t H1 locs ht hvm hw hB hz1 hk1 hS => hw.elim)
  obtain ⟨rfl, hP1, hK1, hD1⟩ := hB
  rw [ht] at hP1
  have hK1 := va_K.moved hvm.symm hK1
  obtain ⟨hP, hD⟩ := va_join (wr := []) (w1 := [(h0, .inr (10, [.ref fq, .ref sq, .ref gq, .ref nq, .ref dq, .ref pq, .int pl, .int bl, .int tb])), (fq, .inr (4, [.int mc_fq, .ref tE, .int 0]))]) hP hD [0, 1] [] rfl rfl (by decide) (by decide) hk1 hFc hP1 hD1
  generalize H1 = H at hP hS hce ⊢
  have hP : va_P (dC, dI) vwCl [(h0, .inr (10, [.ref fq, .ref sq, .ref gq, .ref nq, .ref dq, .ref pq, .int pl, .int bl, .int tb])), (fq, .inr (4, [.int mc_fq, .ref tE, .int 0]))] H := hP
  have hD : va_D A [(h0, .inr (10, [.ref fq, .ref sq, .ref gq, .ref nq, .ref dq, .ref pq, .int pl, .int bl, .int tb])), (fq, .inr (4, [.int mc_fq, .ref tE, .int 0]))] := hD
  refine vx_widen (k := 1) (n := 6) (by omega) (by omega) ?_
  refine vx_catch (own := RL) (name := "java/lang/IndexOutOfBoundsException") (E := "java/lang/IndexOutOfBoundsException") hown [] ⟨0, 10, 13, 21⟩ [] (by rw [hTab]; rfl) (fun z hz => nomatch hz) (by decide) (by decide) (hts (.classLink RL 21 "java/lang/IndexOutOfBoundsException") (List.mem_of_getElem? (i := 19) rfl)) (va_Nw.use rfl hT.eX) hce hcv hcl ?_
  refine lv_astore (lv' := [(4, .ref q9), (0, .ref h0), (1, .int p0), (2, .int p1), (3, .ref oq)]) hx hb dL_floor_13 hl (by decide) rfl (fun ls hl => ?_)
  refine lv_iconst (v := 1) hx hb dL_floor_15 (by decide) ?_
  have hP9 := hP.sub (ws' := [(h0, .inr (10, [.ref fq, .ref sq, .ref gq, .ref nq, .ref dq, .ref pq, .int pl, .int bl, .int tb])), (fq, .inr (4, [.int mc_fq, .ref tE, .int 0]))]) [0, 1] rfl
  have hD9 := hD.sub (ws' := [(h0, .inr (10, [.ref fq, .ref sq, .ref gq, .ref nq, .ref dq, .ref pq, .int pl, .int bl, .int tb])), (fq, .inr (4, [.int mc_fq, .ref tE, .int 0]))]) [0, 1] (by decide) rfl
  have hK9 := hK.sub (tys' := []) [] rfl
  exact W.iret (v := 1) hx hb hr (fun t ht hW => ⟨⟨1, (), rfl, rfl, by rw [ht]; exact hP9, va_K.moved hW.alike hK9, hD9⟩, hS.F ht⟩) hS.2.2 dL_floor_16
def vh_w_place : List Cond := .codeWith yL_place cL_place 5 (some .int) [(0, 10, 13, 21)] :: ([Cond.code yX5_place cX5_place 3 (some .int), Cond.code yX5_isRoom cX5_isRoom 3 (some .boolean), Cond.code yX5_isFloor cX5_isFloor 2 (some .boolean), Cond.fieldLink RX5 10 "HotelOfBells" "floors" "Ljava/util/ArrayList;", Cond.code yJx4a65c_size_8abf5 cJx4a65c_size_8abf5 1 (some .int), Cond.fieldLink RJx4a65c 48 "java/util/ArrayList" "size" "I", Cond.methodLink RX5 49 yJx4a65c_size_8abf5, Cond.instanceMethod yJx4a65c_size_8abf5, Cond.selects RJx4a65c yJx4a65c_size_8abf5 yJx4a65c_size_8abf5, Cond.initialized RJx4a65c, Cond.methodLink RX5 67 yX5_isFloor, Cond.instanceMethod yX5_isFloor, Cond.selects RX5 yX5_isFloor yX5_isFloor, Cond.initialized RX5, Cond.methodLink RX5 120 yX5_isRoom, Cond.instanceMethod yX5_isRoom, Cond.selects RX5 yX5_isRoom yX5_isRoom, Cond.classLink RX5 71 "java/lang/IndexOutOfBoundsException", Cond.initialized "java/lang/IndexOutOfBoundsException", Cond.methodLink RL 41 yX5_place, Cond.instanceMethod yX5_place, Cond.selects RX5 yX5_place yX5_place, Cond.classLink RL 21 "java/lang/IndexOutOfBoundsException"] ++ (wsX50 ++ (wsJx4a65c0 ++ [])))
def v_w_place : List Cond := vh_w_place ++ (thrX)
theorem u_w_place_X5 : ∀ w ∈ wsX50, w ∈ v_w_place := fun _ h => List.mem_append_left _ (List.mem_cons_of_mem _ (List.mem_append_right _ (List.mem_append_left _ h)))
theorem u_w_place_Jx4a65c : ∀ w ∈ wsJx4a65c0, w ∈ v_w_place := fun _ h => List.mem_append_left _ (List.mem_cons_of_mem _ (List.mem_append_right _ (List.mem_append_right _ (List.mem_append_left _ h))))
theorem gg_w_place_c_place : GoodIn v_w_place vh_c_place := goodIn_r _ [1, 2, 3, 4, 5, 6, 7, 8, 9, 10, 11, 12, 13, 14, 15, 16, 17, 18, 19, 24, 25, 26, 27, 28, 29, 30, 31, 32, 33, 34, 35] (by rfl) (by decide +kernel)
theorem gt_w_place_c_place : GoodIn v_w_place v_c_place := goodIn_app gg_w_place_c_place (goodIn_sub (fun _ h => List.mem_append_right _ h) (by decide +kernel))
set_option maxHeartbeats 4000000 in
set_option maxRecDepth 100000 in
theorem w_place (l : Launch) (hl9 : l.stackTraces = false) (dC : Nat → ClassId) (dI : Nat → Nat → Nat) (tE : Nat) (h0 : Nat) (fq : Nat) (sq : Nat) (gq : Nat) (nq : Nat) (dq : Nat) (pq : Nat) (pl : Int32) (bl : Int32) (tb : Int32) (mc_fq : Int32) (p0 : Int32) (p1 : Int32) (oq : Nat) (sz : Nat) : Met l yL_place v_w_place ({ frames := 7, cells := 1, slots := 6, locals := 112 }) (va_Pc [.ref h0, .int p0, .int p1, .ref oq] (Pre0 dC dI tE sz [] [(h0, .inr (10, [.ref fq, .ref sq, .ref gq, .ref nq, .ref dq, .ref pq, .int pl, .int bl, .int tb])), (fq, .inr (4, [.int mc_fq, .ref tE, .int 0]))])) (va_Qi (fun (r : Int32) (_ : Unit) => r = 1) (fun _ t => Pst dC dI [] (va_A [(h0, .inr (10, [.ref fq, .ref sq, .ref gq, .ref nq, .ref dq, .ref pq, .int pl, .int bl, .int tb])), (fq, .inr (4, [.int mc_fq, .ref tE, .int 0]))] sz) [(h0, .inr (10, [.ref fq, .ref sq, .ref gq, .ref nq, .ref dq, .ref pq, .int pl, .int bl, .int tb])), (fq, .inr (4, [.int mc_fq, .ref tE, .int 0]))] t) (va_A [(h0, .inr (10, [.ref fq, .ref sq, .ref gq, .ref nq, .ref dq, .ref pq, .int pl, .int bl, .int tb])), (fq, .inr (4, [.int mc_fq, .ref tE, .int 0]))] sz)) 1 6 (va_A [(h0, .inr (10, [.ref fq, .ref sq, .ref gq, .ref nq, .ref dq, .ref pq, .int pl, .int bl, .int tb])), (fq, .inr (4, [.int mc_fq, .ref tE, .int 0]))] sz) := by
  refine va_MetW (cc := cL_place) (maxL := 5) (ret := (some .int)) (by decide) rfl ?_
  intro p e s m args below meth c s₁ B hml hv
  obtain ⟨rfl, hsz, hP, hK, hD0, hT⟩ := hv
  have hx := B.exec
  have hb := B.bytes
  have hr := B.returns
  have hts := atoms_spec (ws := v_w_place) B.pre
  have hown : s.vm.findClass RL = some m.cls := findClass_of_methodNamed B.named
  have hlocks := B.notSynchronized
  have hTab : c.exceptionTable.toList = tableOf [(0, 10, 13, 21)] := vx_table (x := yL_place) B (hts (.codeWith yL_place cL_place 5 (some .int) [(0, 10, 13, 21)]) (List.mem_of_getElem? (i := 0) rfl))
  subst hsz
  have hD := hD0.self (sz := s.heap.size)
  generalize hAe : va_A [(h0, .inr (10, [.ref fq, .ref sq, .ref gq, .ref nq, .ref dq, .ref pq, .int pl, .int bl, .int tb])), (fq, .inr (4, [.int mc_fq, .ref tE, .int 0]))] s.heap.size = A at hD hT ⊢
  have hA : ∀ q : Nat, s.heap.size ≤ q → A q := fun q h => by rw [← hAe]; exact Or.inr h
  have hS : va_S A s.heap s.heap [] := va_S.rf
  have hl := lv_entry ([.ref h0, .int p0, .int p1, .ref oq]) (n := 5) (Nat.le_of_ble_eq_true rfl)
  rw [lg_entry_eq]
  generalize (lg_sl ([.ref h0, .int p0, .int p1, .ref oq]) ++ List.replicate (5 - (lg_sl ([.ref h0, .int p0, .int p1, .ref oq])).length) Slot.unset).toArray = ls at hl ⊢
  have hl : lv_has ls 5 [(0, .ref h0), (1, .int p0), (2, .int p1), (3, .ref oq)] := hl
  refine lv_aload_n hx hb dL_place_0 rfl (lv_at hl 3 rfl) ?_
  refine lv_iconst (v := 0) hx hb dL_place_1 (by decide) ?_
  refine lv_aload_n hx hb dL_place_2 rfl (lv_at hl 0 rfl) ?_
  refine lv_iload_n hx hb dL_place_3 rfl (lv_at hl 1 rfl) ?_
  refine lv_iload_n hx hb dL_place_4 rfl (lv_at hl 2 rfl) ?_
  have hPc := hP.sub (ws' := [(h0, .inr (10, [.ref fq, .ref sq, .ref gq, .ref nq, .ref dq, .ref pq, .int pl, .int bl, .int tb])), (fq, .inr (4, [.int mc_fq, .ref tE, .int 0]))]) [0, 1] rfl
  have hDc := hD.sub (ws' := [(h0, .inr (10, [.ref fq, .ref sq, .ref gq, .ref nq, .ref dq, .ref pq, .int pl, .int bl, .int tb])), (fq, .inr (4, [.int mc_fq, .ref tE, .int 0]))]) [0, 1] (by decide) rfl
  have hKc := hK.sub (tys' := []) [] rfl
  have hFc := va_free (wc := [(h0, .inr (10, [.ref fq, .ref sq, .ref gq, .ref nq, .ref dq, .ref pq, .int pl, .int bl, .int tb])), (fq, .inr (4, [.int mc_fq, .ref tE, .int 0]))]) hD hS hA [0, 1] rfl
  refine vx_calli (vx_runV (As := [.int p0, .int p1]) (rest := [.int 0, .ref oq]) ⟨hx, hb, hml, hown, hts⟩ (c_place l hl9 dC dI tE h0 fq sq gq nq dq pq pl bl tb mc_fq p0 p1 _ ) (cwV 2 hts (goodIn_app (goodIn_r _ [20, 21, 22, 14] (by rfl) (by decide +kernel)) gt_w_place_c_place) rfl rfl rfl (by decide +kernel) ⟨Nat.le_of_ble_eq_true rfl, Nat.le_of_ble_eq_true rfl⟩) ⟨Pre0.blind, va_recv hKc hPc (ci := 10) (q0 := 0) rfl rfl, Pre0.give hPc hKc hDc hT hS hFc⟩ rfl rfl hl.1 rfl (lv_room (Nat.le_of_ble_eq_true rfl)) dL_place_5 ⟨Nat.le_of_ble_eq_true rfl, Nat.le_of_ble_eq_true rfl⟩) hS (fun q _ h => hFc q h) hFc (fun q _ h => hFc q h) (fun E ce q9 u t H1 locs ht hvm hpx hB hz1 hk1 hS hce hcv hcl => ?_) (fun r u t H1 locs ht hvm hw hB hz1 hk1 hS => hw.elim)
  obtain ⟨rfl, hP1, hK1, hD1⟩ := hB
  rw [ht] at hP1
  have hK1 := va_K.moved hvm.symm hK1
  obtain ⟨hP, hD⟩ := va_join (wr := []) (w1 := [(h0, .inr (10, [.ref fq, .ref sq, .ref gq, .ref nq, .ref dq, .ref pq, .int pl, .int bl, .int tb])), (fq, .inr (4, [.int mc_fq, .ref tE, .int 0]))]) hP hD [0, 1] [] rfl rfl (by decide) (by decide) hk1 hFc hP1 hD1
  generalize H1 = H at hP hS hce ⊢
  have hP : va_P (dC, dI) vwCl [(h0, .inr (10, [.ref fq, .ref sq, .ref gq, .ref nq, .ref dq, .ref pq, .int pl, .int bl, .int tb])), (fq, .inr (4, [.int mc_fq, .ref tE, .int 0]))] H := hP
  have hD : va_D A [(h0, .inr (10, [.ref fq, .ref sq, .ref gq, .ref nq, .ref dq, .ref pq, .int pl, .int bl, .int tb])), (fq, .inr (4, [.int mc_fq, .ref tE, .int 0]))] := hD
  refine vx_widen (k := 1) (n := 6) (by omega) (by omega) ?_
  refine vx_catch (own := RL) (name := "java/lang/IndexOutOfBoundsException") (E := "java/lang/IndexOutOfBoundsException") hown [] ⟨0, 10, 13, 21⟩ [] (by rw [hTab]; rfl) (fun z hz => nomatch hz) (by decide) (by decide) (hts (.classLink RL 21 "java/lang/IndexOutOfBoundsException") (List.mem_of_getElem? (i := 23) rfl)) (va_Nw.use rfl hT.eX) hce hcv hcl ?_
  refine lv_astore (lv' := [(4, .ref q9), (0, .ref h0), (1, .int p0), (2, .int p1), (3, .ref oq)]) hx hb dL_place_13 hl (by decide) rfl (fun ls hl => ?_)
  refine lv_iconst (v := 1) hx hb dL_place_15 (by decide) ?_
  have hP9 := hP.sub (ws' := [(h0, .inr (10, [.ref fq, .ref sq, .ref gq, .ref nq, .ref dq, .ref pq, .int pl, .int bl, .int tb])), (fq, .inr (4, [.int mc_fq, .ref tE, .int 0]))]) [0, 1] rfl
  have hD9 := hD.sub (ws' := [(h0, .inr (10, [.ref fq, .ref sq, .ref gq, .ref nq, .ref dq, .ref pq, .int pl, .int bl, .int tb])), (fq, .inr (4, [.int mc_fq, .ref tE, .int 0]))]) [0, 1] (by decide) rfl
  have hK9 := hK.sub (tys' := []) [] rfl
  exact W.iret (v := 1) hx hb hr (fun t ht hW => ⟨⟨1, (), rfl, rfl, by rw [ht]; exact hP9, va_K.moved hW.alike hK9, hD9⟩, hS.F ht⟩) hS.2.2 dL_place_16
def vh_w_lift : List Cond := .codeWith yL_lift cL_lift 5 (some .int) [(0, 10, 13, 21)] :: ([Cond.code yX5_lift cX5_lift 3 (some .int), Cond.code yX5_isLift cX5_isLift 2 (some .boolean), Cond.fieldLink RX5 16 "HotelOfBells" "shafts" "Ljava/util/ArrayList;", Cond.code yJx4a65c_size_8abf5 cJx4a65c_size_8abf5 1 (some .int), Cond.fieldLink RJx4a65c 48 "java/util/ArrayList" "size" "I", Cond.methodLink RX5 49 yJx4a65c_size_8abf5, Cond.instanceMethod yJx4a65c_size_8abf5, Cond.selects RJx4a65c yJx4a65c_size_8abf5 yJx4a65c_size_8abf5, Cond.initialized RJx4a65c, Cond.methodLink RX5 103 yX5_isLift, Cond.instanceMethod yX5_isLift, Cond.selects RX5 yX5_isLift yX5_isLift, Cond.initialized RX5, Cond.classLink RX5 71 "java/lang/IndexOutOfBoundsException", Cond.initialized "java/lang/IndexOutOfBoundsException", Cond.methodLink RL 44 yX5_lift, Cond.instanceMethod yX5_lift, Cond.selects RX5 yX5_lift yX5_lift, Cond.classLink RL 21 "java/lang/IndexOutOfBoundsException"] ++ (wsX50 ++ (wsJx4a65c0 ++ [])))
def v_w_lift : List Cond := vh_w_lift ++ (thrX)
theorem u_w_lift_X5 : ∀ w ∈ wsX50, w ∈ v_w_lift := fun _ h => List.mem_append_left _ (List.mem_cons_of_mem _ (List.mem_append_right _ (List.mem_append_left _ h)))
theorem u_w_lift_Jx4a65c : ∀ w ∈ wsJx4a65c0, w ∈ v_w_lift := fun _ h => List.mem_append_left _ (List.mem_cons_of_mem _ (List.mem_append_right _ (List.mem_append_right _ (List.mem_append_left _ h))))
theorem gg_w_lift_c_lift : GoodIn v_w_lift vh_c_lift := goodIn_r _ [1, 2, 3, 4, 5, 6, 7, 8, 9, 10, 11, 12, 13, 14, 15, 20, 21, 22, 23, 24, 25, 26, 27, 28, 29, 30, 31] (by rfl) (by decide +kernel)
theorem gt_w_lift_c_lift : GoodIn v_w_lift v_c_lift := goodIn_app gg_w_lift_c_lift (goodIn_sub (fun _ h => List.mem_append_right _ h) (by decide +kernel))
set_option maxHeartbeats 4000000 in
set_option maxRecDepth 100000 in
theorem w_lift (l : Launch) (hl9 : l.stackTraces = false) (dC : Nat → ClassId) (dI : Nat → Nat → Nat) (tE : Nat) (h0 : Nat) (fq : Nat) (sq : Nat) (gq : Nat) (nq : Nat) (dq : Nat) (pq : Nat) (pl : Int32) (bl : Int32) (tb : Int32) (mc_sq : Int32) (p0 : Int32) (p1 : Int32) (oq : Nat) (sz : Nat) : Met l yL_lift v_w_lift ({ frames := 7, cells := 1, slots := 6, locals := 112 }) (va_Pc [.ref h0, .int p0, .int p1, .ref oq] (Pre0 dC dI tE sz [] [(h0, .inr (10, [.ref fq, .ref sq, .ref gq, .ref nq, .ref dq, .ref pq, .int pl, .int bl, .int tb])), (sq, .inr (4, [.int mc_sq, .ref tE, .int 0]))])) (va_Qi (fun (r : Int32) (_ : Unit) => r = 1) (fun _ t => Pst dC dI [] (va_A [(h0, .inr (10, [.ref fq, .ref sq, .ref gq, .ref nq, .ref dq, .ref pq, .int pl, .int bl, .int tb])), (sq, .inr (4, [.int mc_sq, .ref tE, .int 0]))] sz) [(h0, .inr (10, [.ref fq, .ref sq, .ref gq, .ref nq, .ref dq, .ref pq, .int pl, .int bl, .int tb])), (sq, .inr (4, [.int mc_sq, .ref tE, .int 0]))] t) (va_A [(h0, .inr (10, [.ref fq, .ref sq, .ref gq, .ref nq, .ref dq, .ref pq, .int pl, .int bl, .int tb])), (sq, .inr (4, [.int mc_sq, .ref tE, .int 0]))] sz)) 1 6 (va_A [(h0, .inr (10, [.ref fq, .ref sq, .ref gq, .ref nq, .ref dq, .ref pq, .int pl, .int bl, .int tb])), (sq, .inr (4, [.int mc_sq, .ref tE, .int 0]))] sz) := by
  refine va_MetW (cc := cL_lift) (maxL := 5) (ret := (some .int)) (by decide) rfl ?_
  intro p e s m args below meth c s₁ B hml hv
  obtain ⟨rfl, hsz, hP, hK, hD0, hT⟩ := hv
  have hx := B.exec
  have hb := B.bytes
  have hr := B.returns
  have hts := atoms_spec (ws := v_w_lift) B.pre
  have hown : s.vm.findClass RL = some m.cls := findClass_of_methodNamed B.named
  have hlocks := B.notSynchronized
  have hTab : c.exceptionTable.toList = tableOf [(0, 10, 13, 21)] := vx_table (x := yL_lift) B (hts (.codeWith yL_lift cL_lift 5 (some .int) [(0, 10, 13, 21)]) (List.mem_of_getElem? (i := 0) rfl))
  subst hsz
  have hD := hD0.self (sz := s.heap.size)
  generalize hAe : va_A [(h0, .inr (10, [.ref fq, .ref sq, .ref gq, .ref nq, .ref dq, .ref pq, .int pl, .int bl, .int tb])), (sq, .inr (4, [.int mc_sq, .ref tE, .int 0]))] s.heap.size = A at hD hT ⊢
  have hA : ∀ q : Nat, s.heap.size ≤ q → A q := fun q h => by rw [← hAe]; exact Or.inr h
  have hS : va_S A s.heap s.heap [] := va_S.rf
  have hl := lv_entry ([.ref h0, .int p0, .int p1, .ref oq]) (n := 5) (Nat.le_of_ble_eq_true rfl)
  rw [lg_entry_eq]
  generalize (lg_sl ([.ref h0, .int p0, .int p1, .ref oq]) ++ List.replicate (5 - (lg_sl ([.ref h0, .int p0, .int p1, .ref oq])).length) Slot.unset).toArray = ls at hl ⊢
  have hl : lv_has ls 5 [(0, .ref h0), (1, .int p0), (2, .int p1), (3, .ref oq)] := hl
  refine lv_aload_n hx hb dL_lift_0 rfl (lv_at hl 3 rfl) ?_
  refine lv_iconst (v := 0) hx hb dL_lift_1 (by decide) ?_
  refine lv_aload_n hx hb dL_lift_2 rfl (lv_at hl 0 rfl) ?_
  refine lv_iload_n hx hb dL_lift_3 rfl (lv_at hl 1 rfl) ?_
  refine lv_iload_n hx hb dL_lift_4 rfl (lv_at hl 2 rfl) ?_
  have hPc := hP.sub (ws' := [(h0, .inr (10, [.ref fq, .ref sq, .ref gq, .ref nq, .ref dq, .ref pq, .int pl, .int bl, .int tb])), (sq, .inr (4, [.int mc_sq, .ref tE, .int 0]))]) [0, 1] rfl
  have hDc := hD.sub (ws' := [(h0, .inr (10, [.ref fq, .ref sq, .ref gq, .ref nq, .ref dq, .ref pq, .int pl, .int bl, .int tb])), (sq, .inr (4, [.int mc_sq, .ref tE, .int 0]))]) [0, 1] (by decide) rfl
  have hKc := hK.sub (tys' := []) [] rfl
  have hFc := va_free (wc := [(h0, .inr (10, [.ref fq, .ref sq, .ref gq, .ref nq, .ref dq, .ref pq, .int pl, .int bl, .int tb])), (sq, .inr (4, [.int mc_sq, .ref tE, .int 0]))]) hD hS hA [0, 1] rfl
  refine vx_calli (vx_runV (As := [.int p0, .int p1]) (rest := [.int 0, .ref oq]) ⟨hx, hb, hml, hown, hts⟩ (c_lift l hl9 dC dI tE h0 fq sq gq nq dq pq pl bl tb mc_sq p0 p1 _ ) (cwV 2 hts (goodIn_app (goodIn_r _ [16, 17, 18, 13] (by rfl) (by decide +kernel)) gt_w_lift_c_lift) rfl rfl rfl (by decide +kernel) ⟨Nat.le_of_ble_eq_true rfl, Nat.le_of_ble_eq_true rfl⟩) ⟨Pre0.blind, va_recv hKc hPc (ci := 10) (q0 := 0) rfl rfl, Pre0.give hPc hKc hDc hT hS hFc⟩ rfl rfl hl.1 rfl (lv_room (Nat.le_of_ble_eq_true rfl)) dL_lift_5 ⟨Nat.le_of_ble_eq_true rfl, Nat.le_of_ble_eq_true rfl⟩) hS (fun q _ h => hFc q h) hFc (fun q _ h => hFc q h) (fun E ce q9 u t H1 locs ht hvm hpx hB hz1 hk1 hS hce hcv hcl => ?_) (fun r u t H1 locs ht hvm hw hB hz1 hk1 hS => hw.elim)
  obtain ⟨rfl, hP1, hK1, hD1⟩ := hB
  rw [ht] at hP1
  have hK1 := va_K.moved hvm.symm hK1
  obtain ⟨hP, hD⟩ := va_join (wr := []) (w1 := [(h0, .inr (10, [.ref fq, .ref sq, .ref gq, .ref nq, .ref dq, .ref pq, .int pl, .int bl, .int tb])), (sq, .inr (4, [.int mc_sq, .ref tE, .int 0]))]) hP hD [0, 1] [] rfl rfl (by decide) (by decide) hk1 hFc hP1 hD1
  generalize H1 = H at hP hS hce ⊢
  have hP : va_P (dC, dI) vwCl [(h0, .inr (10, [.ref fq, .ref sq, .ref gq, .ref nq, .ref dq, .ref pq, .int pl, .int bl, .int tb])), (sq, .inr (4, [.int mc_sq, .ref tE, .int 0]))] H := hP
  have hD : va_D A [(h0, .inr (10, [.ref fq, .ref sq, .ref gq, .ref nq, .ref dq, .ref pq, .int pl, .int bl, .int tb])), (sq, .inr (4, [.int mc_sq, .ref tE, .int 0]))] := hD
  refine vx_widen (k := 1) (n := 6) (by omega) (by omega) ?_
  refine vx_catch (own := RL) (name := "java/lang/IndexOutOfBoundsException") (E := "java/lang/IndexOutOfBoundsException") hown [] ⟨0, 10, 13, 21⟩ [] (by rw [hTab]; rfl) (fun z hz => nomatch hz) (by decide) (by decide) (hts (.classLink RL 21 "java/lang/IndexOutOfBoundsException") (List.mem_of_getElem? (i := 19) rfl)) (va_Nw.use rfl hT.eX) hce hcv hcl ?_
  refine lv_astore (lv' := [(4, .ref q9), (0, .ref h0), (1, .int p0), (2, .int p1), (3, .ref oq)]) hx hb dL_lift_13 hl (by decide) rfl (fun ls hl => ?_)
  refine lv_iconst (v := 1) hx hb dL_lift_15 (by decide) ?_
  have hP9 := hP.sub (ws' := [(h0, .inr (10, [.ref fq, .ref sq, .ref gq, .ref nq, .ref dq, .ref pq, .int pl, .int bl, .int tb])), (sq, .inr (4, [.int mc_sq, .ref tE, .int 0]))]) [0, 1] rfl
  have hD9 := hD.sub (ws' := [(h0, .inr (10, [.ref fq, .ref sq, .ref gq, .ref nq, .ref dq, .ref pq, .int pl, .int bl, .int tb])), (sq, .inr (4, [.int mc_sq, .ref tE, .int 0]))]) [0, 1] (by decide) rfl
  have hK9 := hK.sub (tys' := []) [] rfl
  exact W.iret (v := 1) hx hb hr (fun t ht hW => ⟨⟨1, (), rfl, rfl, by rw [ht]; exact hP9, va_K.moved hW.alike hK9, hD9⟩, hS.F ht⟩) hS.2.2 dL_lift_16
def vh_w_guest : List Cond := .codeWith yL_guest cL_guest 5 (some .int) [(0, 10, 13, 21)] :: ([Cond.code yX5_guest cX5_guest 4 (some .int), Cond.code yX5_isGuest cX5_isGuest 2 (some .boolean), Cond.fieldLink RX5 19 "HotelOfBells" "guests" "Ljava/util/ArrayList;", Cond.code yJx4a65c_size_8abf5 cJx4a65c_size_8abf5 1 (some .int), Cond.fieldLink RJx4a65c 48 "java/util/ArrayList" "size" "I", Cond.methodLink RX5 49 yJx4a65c_size_8abf5, Cond.instanceMethod yJx4a65c_size_8abf5, Cond.selects RJx4a65c yJx4a65c_size_8abf5 yJx4a65c_size_8abf5, Cond.initialized RJx4a65c, Cond.methodLink RX5 132 yX5_isGuest, Cond.instanceMethod yX5_isGuest, Cond.selects RX5 yX5_isGuest yX5_isGuest, Cond.initialized RX5, Cond.classLink RX5 71 "java/lang/IndexOutOfBoundsException", Cond.initialized "java/lang/IndexOutOfBoundsException", Cond.methodLink RL 47 yX5_guest, Cond.instanceMethod yX5_guest, Cond.selects RX5 yX5_guest yX5_guest, Cond.classLink RL 21 "java/lang/IndexOutOfBoundsException"] ++ (wsX50 ++ (wsJx4a65c0 ++ [])))
def v_w_guest : List Cond := vh_w_guest ++ (thrX)
theorem u_w_guest_X5 : ∀ w ∈ wsX50, w ∈ v_w_guest := fun _ h => List.mem_append_left _ (List.mem_cons_of_mem _ (List.mem_append_right _ (List.mem_append_left _ h)))
theorem u_w_guest_Jx4a65c : ∀ w ∈ wsJx4a65c0, w ∈ v_w_guest := fun _ h => List.mem_append_left _ (List.mem_cons_of_mem _ (List.mem_append_right _ (List.mem_append_right _ (List.mem_append_left _ h))))
theorem gg_w_guest_c_guest : GoodIn v_w_guest vh_c_guest := goodIn_r _ [1, 2, 3, 4, 5, 6, 7, 8, 9, 10, 11, 12, 13, 14, 15, 20, 21, 22, 23, 24, 25, 26, 27, 28, 29, 30, 31] (by rfl) (by decide +kernel)
theorem gt_w_guest_c_guest : GoodIn v_w_guest v_c_guest := goodIn_app gg_w_guest_c_guest (goodIn_sub (fun _ h => List.mem_append_right _ h) (by decide +kernel))
set_option maxHeartbeats 4000000 in
set_option maxRecDepth 100000 in
theorem w_guest (l : Launch) (hl9 : l.stackTraces = false) (dC : Nat → ClassId) (dI : Nat → Nat → Nat) (tE : Nat) (h0 : Nat) (fq : Nat) (sq : Nat) (gq : Nat) (nq : Nat) (dq : Nat) (pq : Nat) (pl : Int32) (bl : Int32) (tb : Int32) (mc_gq : Int32) (p0 : Int32) (p1 : Int32) (oq : Nat) (sz : Nat) : Met l yL_guest v_w_guest ({ frames := 7, cells := 1, slots := 6, locals := 113 }) (va_Pc [.ref h0, .int p0, .int p1, .ref oq] (Pre0 dC dI tE sz [] [(h0, .inr (10, [.ref fq, .ref sq, .ref gq, .ref nq, .ref dq, .ref pq, .int pl, .int bl, .int tb])), (gq, .inr (4, [.int mc_gq, .ref tE, .int 0]))])) (va_Qi (fun (r : Int32) (_ : Unit) => r = 1) (fun _ t => Pst dC dI [] (va_A [(h0, .inr (10, [.ref fq, .ref sq, .ref gq, .ref nq, .ref dq, .ref pq, .int pl, .int bl, .int tb])), (gq, .inr (4, [.int mc_gq, .ref tE, .int 0]))] sz) [(h0, .inr (10, [.ref fq, .ref sq, .ref gq, .ref nq, .ref dq, .ref pq, .int pl, .int bl, .int tb])), (gq, .inr (4, [.int mc_gq, .ref tE, .int 0]))] t) (va_A [(h0, .inr (10, [.ref fq, .ref sq, .ref gq, .ref nq, .ref dq, .ref pq, .int pl, .int bl, .int tb])), (gq, .inr (4, [.int mc_gq, .ref tE, .int 0]))] sz)) 1 6 (va_A [(h0, .inr (10, [.ref fq, .ref sq, .ref gq, .ref nq, .ref dq, .ref pq, .int pl, .int bl, .int tb])), (gq, .inr (4, [.int mc_gq, .ref tE, .int 0]))] sz) := by
  refine va_MetW (cc := cL_guest) (maxL := 5) (ret := (some .int)) (by decide) rfl ?_
  intro p e s m args below meth c s₁ B hml hv
  obtain ⟨rfl, hsz, hP, hK, hD0, hT⟩ := hv
  have hx := B.exec
  have hb := B.bytes
  have hr := B.returns
  have hts := atoms_spec (ws := v_w_guest) B.pre
  have hown : s.vm.findClass RL = some m.cls := findClass_of_methodNamed B.named
  have hlocks := B.notSynchronized
  have hTab : c.exceptionTable.toList = tableOf [(0, 10, 13, 21)] := vx_table (x := yL_guest) B (hts (.codeWith yL_guest cL_guest 5 (some .int) [(0, 10, 13, 21)]) (List.mem_of_getElem? (i := 0) rfl))
  subst hsz
  have hD := hD0.self (sz := s.heap.size)
  generalize hAe : va_A [(h0, .inr (10, [.ref fq, .ref sq, .ref gq, .ref nq, .ref dq, .ref pq, .int pl, .int bl, .int tb])), (gq, .inr (4, [.int mc_gq, .ref tE, .int 0]))] s.heap.size = A at hD hT ⊢
  have hA : ∀ q : Nat, s.heap.size ≤ q → A q := fun q h => by rw [← hAe]; exact Or.inr h
  have hS : va_S A s.heap s.heap [] := va_S.rf
  have hl := lv_entry ([.ref h0, .int p0, .int p1, .ref oq]) (n := 5) (Nat.le_of_ble_eq_true rfl)
  rw [lg_entry_eq]
  generalize (lg_sl ([.ref h0, .int p0, .int p1, .ref oq]) ++ List.replicate (5 - (lg_sl ([.ref h0, .int p0, .int p1, .ref oq])).length) Slot.unset).toArray = ls at hl ⊢
  have hl : lv_has ls 5 [(0, .ref h0), (1, .int p0), (2, .int p1), (3, .ref oq)] := hl
  refine lv_aload_n hx hb dL_guest_0 rfl (lv_at hl 3 rfl) ?_
  refine lv_iconst (v := 0) hx hb dL_guest_1 (by decide) ?_
  refine lv_aload_n hx hb dL_guest_2 rfl (lv_at hl 0 rfl) ?_
  refine lv_iload_n hx hb dL_guest_3 rfl (lv_at hl 1 rfl) ?_
  refine lv_iload_n hx hb dL_guest_4 rfl (lv_at hl 2 rfl) ?_
  have hPc := hP.sub (ws' := [(h0, .inr (10, [.ref fq, .ref sq, .ref gq, .ref nq, .ref dq, .ref pq, .int pl, .int bl, .int tb])), (gq, .inr (4, [.int mc_gq, .ref tE, .int 0]))]) [0, 1] rfl
  have hDc := hD.sub (ws' := [(h0, .inr (10, [.ref fq, .ref sq, .ref gq, .ref nq, .ref dq, .ref pq, .int pl, .int bl, .int tb])), (gq, .inr (4, [.int mc_gq, .ref tE, .int 0]))]) [0, 1] (by decide) rfl
  have hKc := hK.sub (tys' := []) [] rfl
  have hFc := va_free (wc := [(h0, .inr (10, [.ref fq, .ref sq, .ref gq, .ref nq, .ref dq, .ref pq, .int pl, .int bl, .int tb])), (gq, .inr (4, [.int mc_gq, .ref tE, .int 0]))]) hD hS hA [0, 1] rfl
  refine vx_calli (vx_runV (As := [.int p0, .int p1]) (rest := [.int 0, .ref oq]) ⟨hx, hb, hml, hown, hts⟩ (c_guest l hl9 dC dI tE h0 fq sq gq nq dq pq pl bl tb mc_gq p0 p1 _ ) (cwV 2 hts (goodIn_app (goodIn_r _ [16, 17, 18, 13] (by rfl) (by decide +kernel)) gt_w_guest_c_guest) rfl rfl rfl (by decide +kernel) ⟨Nat.le_of_ble_eq_true rfl, Nat.le_of_ble_eq_true rfl⟩) ⟨Pre0.blind, va_recv hKc hPc (ci := 10) (q0 := 0) rfl rfl, Pre0.give hPc hKc hDc hT hS hFc⟩ rfl rfl hl.1 rfl (lv_room (Nat.le_of_ble_eq_true rfl)) dL_guest_5 ⟨Nat.le_of_ble_eq_true rfl, Nat.le_of_ble_eq_true rfl⟩) hS (fun q _ h => hFc q h) hFc (fun q _ h => hFc q h) (fun E ce q9 u t H1 locs ht hvm hpx hB hz1 hk1 hS hce hcv hcl => ?_) (fun r u t H1 locs ht hvm hw hB hz1 hk1 hS => hw.elim)
  obtain ⟨rfl, hP1, hK1, hD1⟩ := hB
  rw [ht] at hP1
  have hK1 := va_K.moved hvm.symm hK1
  obtain ⟨hP, hD⟩ := va_join (wr := []) (w1 := [(h0, .inr (10, [.ref fq, .ref sq, .ref gq, .ref nq, .ref dq, .ref pq, .int pl, .int bl, .int tb])), (gq, .inr (4, [.int mc_gq, .ref tE, .int 0]))]) hP hD [0, 1] [] rfl rfl (by decide) (by decide) hk1 hFc hP1 hD1
  generalize H1 = H at hP hS hce ⊢
  have hP : va_P (dC, dI) vwCl [(h0, .inr (10, [.ref fq, .ref sq, .ref gq, .ref nq, .ref dq, .ref pq, .int pl, .int bl, .int tb])), (gq, .inr (4, [.int mc_gq, .ref tE, .int 0]))] H := hP
  have hD : va_D A [(h0, .inr (10, [.ref fq, .ref sq, .ref gq, .ref nq, .ref dq, .ref pq, .int pl, .int bl, .int tb])), (gq, .inr (4, [.int mc_gq, .ref tE, .int 0]))] := hD
  refine vx_widen (k := 1) (n := 6) (by omega) (by omega) ?_
  refine vx_catch (own := RL) (name := "java/lang/IndexOutOfBoundsException") (E := "java/lang/IndexOutOfBoundsException") hown [] ⟨0, 10, 13, 21⟩ [] (by rw [hTab]; rfl) (fun z hz => nomatch hz) (by decide) (by decide) (hts (.classLink RL 21 "java/lang/IndexOutOfBoundsException") (List.mem_of_getElem? (i := 19) rfl)) (va_Nw.use rfl hT.eX) hce hcv hcl ?_
  refine lv_astore (lv' := [(4, .ref q9), (0, .ref h0), (1, .int p0), (2, .int p1), (3, .ref oq)]) hx hb dL_guest_13 hl (by decide) rfl (fun ls hl => ?_)
  refine lv_iconst (v := 1) hx hb dL_guest_15 (by decide) ?_
  have hP9 := hP.sub (ws' := [(h0, .inr (10, [.ref fq, .ref sq, .ref gq, .ref nq, .ref dq, .ref pq, .int pl, .int bl, .int tb])), (gq, .inr (4, [.int mc_gq, .ref tE, .int 0]))]) [0, 1] rfl
  have hD9 := hD.sub (ws' := [(h0, .inr (10, [.ref fq, .ref sq, .ref gq, .ref nq, .ref dq, .ref pq, .int pl, .int bl, .int tb])), (gq, .inr (4, [.int mc_gq, .ref tE, .int 0]))]) [0, 1] (by decide) rfl
  have hK9 := hK.sub (tys' := []) [] rfl
  exact W.iret (v := 1) hx hb hr (fun t ht hW => ⟨⟨1, (), rfl, rfl, by rw [ht]; exact hP9, va_K.moved hW.alike hK9, hD9⟩, hS.F ht⟩) hS.2.2 dL_guest_16
def vh_w_foresee : List Cond := .codeWith yL_foresee cL_foresee 5 (some .int) [(0, 10, 13, 21), (0, 10, 17, 13)] :: ([Cond.code yX5_foresee cX5_foresee 7 (some .int), Cond.code yX5_isGuest cX5_isGuest 2 (some .boolean), Cond.fieldLink RX5 19 "HotelOfBells" "guests" "Ljava/util/ArrayList;", Cond.code yJx4a65c_size_8abf5 cJx4a65c_size_8abf5 1 (some .int), Cond.fieldLink RJx4a65c 48 "java/util/ArrayList" "size" "I", Cond.methodLink RX5 49 yJx4a65c_size_8abf5, Cond.instanceMethod yJx4a65c_size_8abf5, Cond.selects RJx4a65c yJx4a65c_size_8abf5 yJx4a65c_size_8abf5, Cond.initialized RJx4a65c, Cond.methodLink RX5 132 yX5_isGuest, Cond.instanceMethod yX5_isGuest, Cond.selects RX5 yX5_isGuest yX5_isGuest, Cond.initialized RX5, Cond.classLink RX5 71 "java/lang/IndexOutOfBoundsException", Cond.initialized "java/lang/IndexOutOfBoundsException", Cond.methodLink RL 59 yX5_foresee, Cond.instanceMethod yX5_foresee, Cond.selects RX5 yX5_foresee yX5_foresee, Cond.classLink RL 21 "java/lang/IndexOutOfBoundsException"] ++ (wsX50 ++ (wsJx4a65c0 ++ [])))
def v_w_foresee : List Cond := vh_w_foresee ++ (thrX)
theorem u_w_foresee_X5 : ∀ w ∈ wsX50, w ∈ v_w_foresee := fun _ h => List.mem_append_left _ (List.mem_cons_of_mem _ (List.mem_append_right _ (List.mem_append_left _ h)))
theorem u_w_foresee_Jx4a65c : ∀ w ∈ wsJx4a65c0, w ∈ v_w_foresee := fun _ h => List.mem_append_left _ (List.mem_cons_of_mem _ (List.mem_append_right _ (List.mem_append_right _ (List.mem_append_left _ h))))
theorem gg_w_foresee_c_foresee : GoodIn v_w_foresee vh_c_foresee := goodIn_r _ [1, 2, 3, 4, 5, 6, 7, 8, 9, 10, 11, 12, 13, 14, 15, 20, 21, 22, 23, 24, 25, 26, 27, 28, 29, 30, 31] (by rfl) (by decide +kernel)
theorem gt_w_foresee_c_foresee : GoodIn v_w_foresee v_c_foresee := goodIn_app gg_w_foresee_c_foresee (goodIn_sub (fun _ h => List.mem_append_right _ h) (by decide +kernel))
set_option maxHeartbeats 4000000 in
set_option maxRecDepth 100000 in
theorem w_foresee (l : Launch) (hl9 : l.stackTraces = false) (dC : Nat → ClassId) (dI : Nat → Nat → Nat) (tE : Nat) (h0 : Nat) (fq : Nat) (sq : Nat) (gq : Nat) (nq : Nat) (dq : Nat) (pq : Nat) (pl : Int32) (bl : Int32) (tb : Int32) (mc_gq : Int32) (p0 : Int32) (p1 : Int32) (oq : Nat) (sz : Nat) : Met l yL_foresee v_w_foresee ({ frames := 7, cells := 1, slots := 6, locals := 116 }) (va_Pc [.ref h0, .int p0, .int p1, .ref oq] (Pre0 dC dI tE sz [] [(h0, .inr (10, [.ref fq, .ref sq, .ref gq, .ref nq, .ref dq, .ref pq, .int pl, .int bl, .int tb])), (gq, .inr (4, [.int mc_gq, .ref tE, .int 0]))])) (va_Qi (fun (r : Int32) (_ : Unit) => r = 1) (fun _ t => Pst dC dI [] (va_A [(h0, .inr (10, [.ref fq, .ref sq, .ref gq, .ref nq, .ref dq, .ref pq, .int pl, .int bl, .int tb])), (gq, .inr (4, [.int mc_gq, .ref tE, .int 0]))] sz) [(h0, .inr (10, [.ref fq, .ref sq, .ref gq, .ref nq, .ref dq, .ref pq, .int pl, .int bl, .int tb])), (gq, .inr (4, [.int mc_gq, .ref tE, .int 0]))] t) (va_A [(h0, .inr (10, [.ref fq, .ref sq, .ref gq, .ref nq, .ref dq, .ref pq, .int pl, .int bl, .int tb])), (gq, .inr (4, [.int mc_gq, .ref tE, .int 0]))] sz)) 1 6 (va_A [(h0, .inr (10, [.ref fq, .ref sq, .ref gq, .ref nq, .ref dq, .ref pq, .int pl, .int bl, .int tb])), (gq, .inr (4, [.int mc_gq, .ref tE, .int 0]))] sz) := by
  refine va_MetW (cc := cL_foresee) (maxL := 5) (ret := (some .int)) (by decide) rfl ?_
  intro p e s m args below meth c s₁ B hml hv
  obtain ⟨rfl, hsz, hP, hK, hD0, hT⟩ := hv
  have hx := B.exec
  have hb := B.bytes
  have hr := B.returns
  have hts := atoms_spec (ws := v_w_foresee) B.pre
  have hown : s.vm.findClass RL = some m.cls := findClass_of_methodNamed B.named
  have hlocks := B.notSynchronized
  have hTab : c.exceptionTable.toList = tableOf [(0, 10, 13, 21), (0, 10, 17, 13)] := vx_table (x := yL_foresee) B (hts (.codeWith yL_foresee cL_foresee 5 (some .int) [(0, 10, 13, 21), (0, 10, 17, 13)]) (List.mem_of_getElem? (i := 0) rfl))
  subst hsz
  have hD := hD0.self (sz := s.heap.size)
  generalize hAe : va_A [(h0, .inr (10, [.ref fq, .ref sq, .ref gq, .ref nq, .ref dq, .ref pq, .int pl, .int bl, .int tb])), (gq, .inr (4, [.int mc_gq, .ref tE, .int 0]))] s.heap.size = A at hD hT ⊢
  have hA : ∀ q : Nat, s.heap.size ≤ q → A q := fun q h => by rw [← hAe]; exact Or.inr h
  have hS : va_S A s.heap s.heap [] := va_S.rf
  have hl := lv_entry ([.ref h0, .int p0, .int p1, .ref oq]) (n := 5) (Nat.le_of_ble_eq_true rfl)
  rw [lg_entry_eq]
  generalize (lg_sl ([.ref h0, .int p0, .int p1, .ref oq]) ++ List.replicate (5 - (lg_sl ([.ref h0, .int p0, .int p1, .ref oq])).length) Slot.unset).toArray = ls at hl ⊢
  have hl : lv_has ls 5 [(0, .ref h0), (1, .int p0), (2, .int p1), (3, .ref oq)] := hl
  refine lv_aload_n hx hb dL_foresee_0 rfl (lv_at hl 3 rfl) ?_
  refine lv_iconst (v := 0) hx hb dL_foresee_1 (by decide) ?_
  refine lv_aload_n hx hb dL_foresee_2 rfl (lv_at hl 0 rfl) ?_
  refine lv_iload_n hx hb dL_foresee_3 rfl (lv_at hl 1 rfl) ?_
  refine lv_iload_n hx hb dL_foresee_4 rfl (lv_at hl 2 rfl) ?_
  have hPc := hP.sub (ws' := [(h0, .inr (10, [.ref fq, .ref sq, .ref gq, .ref nq, .ref dq, .ref pq, .int pl, .int bl, .int tb])), (gq, .inr (4, [.int mc_gq, .ref tE, .int 0]))]) [0, 1] rfl
  have hDc := hD.sub (ws' := [(h0, .inr (10, [.ref fq, .ref sq, .ref gq, .ref nq, .ref dq, .ref pq, .int pl, .int bl, .int tb])), (gq, .inr (4, [.int mc_gq, .ref tE, .int 0]))]) [0, 1] (by decide) rfl
  have hKc := hK.sub (tys' := []) [] rfl
  have hFc := va_free (wc := [(h0, .inr (10, [.ref fq, .ref sq, .ref gq, .ref nq, .ref dq, .ref pq, .int pl, .int bl, .int tb])), (gq, .inr (4, [.int mc_gq, .ref tE, .int 0]))]) hD hS hA [0, 1] rfl
  refine vx_calli (vx_runV (As := [.int p0, .int p1]) (rest := [.int 0, .ref oq]) ⟨hx, hb, hml, hown, hts⟩ (c_foresee l hl9 dC dI tE h0 fq sq gq nq dq pq pl bl tb mc_gq p0 p1 _ ) (cwV 2 hts (goodIn_app (goodIn_r _ [16, 17, 18, 13] (by rfl) (by decide +kernel)) gt_w_foresee_c_foresee) rfl rfl rfl (by decide +kernel) ⟨Nat.le_of_ble_eq_true rfl, Nat.le_of_ble_eq_true rfl⟩) ⟨Pre0.blind, va_recv hKc hPc (ci := 10) (q0 := 0) rfl rfl, Pre0.give hPc hKc hDc hT hS hFc⟩ rfl rfl hl.1 rfl (lv_room (Nat.le_of_ble_eq_true rfl)) dL_foresee_5 ⟨Nat.le_of_ble_eq_true rfl, Nat.le_of_ble_eq_true rfl⟩) hS (fun q _ h => hFc q h) hFc (fun q _ h => hFc q h) (fun E ce q9 u t H1 locs ht hvm hpx hB hz1 hk1 hS hce hcv hcl => ?_) (fun r u t H1 locs ht hvm hw hB hz1 hk1 hS => hw.elim)
  obtain ⟨rfl, hP1, hK1, hD1⟩ := hB
  rw [ht] at hP1
  have hK1 := va_K.moved hvm.symm hK1
  obtain ⟨hP, hD⟩ := va_join (wr := []) (w1 := [(h0, .inr (10, [.ref fq, .ref sq, .ref gq, .ref nq, .ref dq, .ref pq, .int pl, .int bl, .int tb])), (gq, .inr (4, [.int mc_gq, .ref tE, .int 0]))]) hP hD [0, 1] [] rfl rfl (by decide) (by decide) hk1 hFc hP1 hD1
  generalize H1 = H at hP hS hce ⊢
  have hP : va_P (dC, dI) vwCl [(h0, .inr (10, [.ref fq, .ref sq, .ref gq, .ref nq, .ref dq, .ref pq, .int pl, .int bl, .int tb])), (gq, .inr (4, [.int mc_gq, .ref tE, .int 0]))] H := hP
  have hD : va_D A [(h0, .inr (10, [.ref fq, .ref sq, .ref gq, .ref nq, .ref dq, .ref pq, .int pl, .int bl, .int tb])), (gq, .inr (4, [.int mc_gq, .ref tE, .int 0]))] := hD
  refine vx_widen (k := 1) (n := 6) (by omega) (by omega) ?_
  refine vx_catch (own := RL) (name := "java/lang/IndexOutOfBoundsException") (E := "java/lang/IndexOutOfBoundsException") hown [] ⟨0, 10, 13, 21⟩ [⟨0, 10, 17, 13⟩] (by rw [hTab]; rfl) (fun z hz => nomatch hz) (by decide) (by decide) (hts (.classLink RL 21 "java/lang/IndexOutOfBoundsException") (List.mem_of_getElem? (i := 19) rfl)) (va_Nw.use rfl hT.eX) hce hcv hcl ?_
  refine lv_astore (lv' := [(4, .ref q9), (0, .ref h0), (1, .int p0), (2, .int p1), (3, .ref oq)]) hx hb dL_foresee_13 hl (by decide) rfl (fun ls hl => ?_)
  refine lv_iconst (v := 1) hx hb dL_foresee_15 (by decide) ?_
  have hP9 := hP.sub (ws' := [(h0, .inr (10, [.ref fq, .ref sq, .ref gq, .ref nq, .ref dq, .ref pq, .int pl, .int bl, .int tb])), (gq, .inr (4, [.int mc_gq, .ref tE, .int 0]))]) [0, 1] rfl
  have hD9 := hD.sub (ws' := [(h0, .inr (10, [.ref fq, .ref sq, .ref gq, .ref nq, .ref dq, .ref pq, .int pl, .int bl, .int tb])), (gq, .inr (4, [.int mc_gq, .ref tE, .int 0]))]) [0, 1] (by decide) rfl
  have hK9 := hK.sub (tys' := []) [] rfl
  exact W.iret (v := 1) hx hb hr (fun t ht hW => ⟨⟨1, (), rfl, rfl, by rw [ht]; exact hP9, va_K.moved hW.alike hK9, hD9⟩, hS.F ht⟩) hS.2.2 dL_foresee_16
def vh_w_advise : List Cond := .codeWith yL_advise cL_advise 5 (some .int) [(0, 10, 13, 21), (0, 10, 17, 13)] :: ([Cond.code yX5_advise cX5_advise 5 (some .int), Cond.code yX5_isGuest cX5_isGuest 2 (some .boolean), Cond.fieldLink RX5 19 "HotelOfBells" "guests" "Ljava/util/ArrayList;", Cond.code yJx4a65c_size_8abf5 cJx4a65c_size_8abf5 1 (some .int), Cond.fieldLink RJx4a65c 48 "java/util/ArrayList" "size" "I", Cond.methodLink RX5 49 yJx4a65c_size_8abf5, Cond.instanceMethod yJx4a65c_size_8abf5, Cond.selects RJx4a65c yJx4a65c_size_8abf5 yJx4a65c_size_8abf5, Cond.initialized RJx4a65c, Cond.methodLink RX5 132 yX5_isGuest, Cond.instanceMethod yX5_isGuest, Cond.selects RX5 yX5_isGuest yX5_isGuest, Cond.initialized RX5, Cond.classLink RX5 71 "java/lang/IndexOutOfBoundsException", Cond.initialized "java/lang/IndexOutOfBoundsException", Cond.methodLink RL 62 yX5_advise, Cond.instanceMethod yX5_advise, Cond.selects RX5 yX5_advise yX5_advise, Cond.classLink RL 21 "java/lang/IndexOutOfBoundsException"] ++ (wsX50 ++ (wsJx4a65c0 ++ [])))
def v_w_advise : List Cond := vh_w_advise ++ (thrX)
theorem u_w_advise_X5 : ∀ w ∈ wsX50, w ∈ v_w_advise := fun _ h => List.mem_append_left _ (List.mem_cons_of_mem _ (List.mem_append_right _ (List.mem_append_left _ h)))
theorem u_w_advise_Jx4a65c : ∀ w ∈ wsJx4a65c0, w ∈ v_w_advise := fun _ h => List.mem_append_left _ (List.mem_cons_of_mem _ (List.mem_append_right _ (List.mem_append_right _ (List.mem_append_left _ h))))
theorem gg_w_advise_c_advise : GoodIn v_w_advise vh_c_advise := goodIn_r _ [1, 2, 3, 4, 5, 6, 7, 8, 9, 10, 11, 12, 13, 14, 15, 20, 21, 22, 23, 24, 25, 26, 27, 28, 29, 30, 31] (by rfl) (by decide +kernel)
theorem gt_w_advise_c_advise : GoodIn v_w_advise v_c_advise := goodIn_app gg_w_advise_c_advise (goodIn_sub (fun _ h => List.mem_append_right _ h) (by decide +kernel))
set_option maxHeartbeats 4000000 in
set_option maxRecDepth 100000 in
theorem w_advise (l : Launch) (hl9 : l.stackTraces = false) (dC : Nat → ClassId) (dI : Nat → Nat → Nat) (tE : Nat) (h0 : Nat) (fq : Nat) (sq : Nat) (gq : Nat) (nq : Nat) (dq : Nat) (pq : Nat) (pl : Int32) (bl : Int32) (tb : Int32) (mc_gq : Int32) (p0 : Int32) (p1 : Int32) (oq : Nat) (sz : Nat) : Met l yL_advise v_w_advise ({ frames := 7, cells := 1, slots := 6, locals := 114 }) (va_Pc [.ref h0, .int p0, .int p1, .ref oq] (Pre0 dC dI tE sz [] [(h0, .inr (10, [.ref fq, .ref sq, .ref gq, .ref nq, .ref dq, .ref pq, .int pl, .int bl, .int tb])), (gq, .inr (4, [.int mc_gq, .ref tE, .int 0]))])) (va_Qi (fun (r : Int32) (_ : Unit) => r = 1) (fun _ t => Pst dC dI [] (va_A [(h0, .inr (10, [.ref fq, .ref sq, .ref gq, .ref nq, .ref dq, .ref pq, .int pl, .int bl, .int tb])), (gq, .inr (4, [.int mc_gq, .ref tE, .int 0]))] sz) [(h0, .inr (10, [.ref fq, .ref sq, .ref gq, .ref nq, .ref dq, .ref pq, .int pl, .int bl, .int tb])), (gq, .inr (4, [.int mc_gq, .ref tE, .int 0]))] t) (va_A [(h0, .inr (10, [.ref fq, .ref sq, .ref gq, .ref nq, .ref dq, .ref pq, .int pl, .int bl, .int tb])), (gq, .inr (4, [.int mc_gq, .ref tE, .int 0]))] sz)) 1 6 (va_A [(h0, .inr (10, [.ref fq, .ref sq, .ref gq, .ref nq, .ref dq, .ref pq, .int pl, .int bl, .int tb])), (gq, .inr (4, [.int mc_gq, .ref tE, .int 0]))] sz) := by
  refine va_MetW (cc := cL_advise) (maxL := 5) (ret := (some .int)) (by decide) rfl ?_
  intro p e s m args below meth c s₁ B hml hv
  obtain ⟨rfl, hsz, hP, hK, hD0, hT⟩ := hv
  have hx := B.exec
  have hb := B.bytes
  have hr := B.returns
  have hts := atoms_spec (ws := v_w_advise) B.pre
  have hown : s.vm.findClass RL = some m.cls := findClass_of_methodNamed B.named
  have hlocks := B.notSynchronized
  have hTab : c.exceptionTable.toList = tableOf [(0, 10, 13, 21), (0, 10, 17, 13)] := vx_table (x := yL_advise) B (hts (.codeWith yL_advise cL_advise 5 (some .int) [(0, 10, 13, 21), (0, 10, 17, 13)]) (List.mem_of_getElem? (i := 0) rfl))
  subst hsz
  have hD := hD0.self (sz := s.heap.size)
  generalize hAe : va_A [(h0, .inr (10, [.ref fq, .ref sq, .ref gq, .ref nq, .ref dq, .ref pq, .int pl, .int bl, .int tb])), (gq, .inr (4, [.int mc_gq, .ref tE, .int 0]))] s.heap.size = A at hD hT ⊢
  have hA : ∀ q : Nat, s.heap.size ≤ q → A q := fun q h => by rw [← hAe]; exact Or.inr h
  have hS : va_S A s.heap s.heap [] := va_S.rf
  have hl := lv_entry ([.ref h0, .int p0, .int p1, .ref oq]) (n := 5) (Nat.le_of_ble_eq_true rfl)
  rw [lg_entry_eq]
  generalize (lg_sl ([.ref h0, .int p0, .int p1, .ref oq]) ++ List.replicate (5 - (lg_sl ([.ref h0, .int p0, .int p1, .ref oq])).length) Slot.unset).toArray = ls at hl ⊢
  have hl : lv_has ls 5 [(0, .ref h0), (1, .int p0), (2, .int p1), (3, .ref oq)] := hl
  refine lv_aload_n hx hb dL_advise_0 rfl (lv_at hl 3 rfl) ?_
  refine lv_iconst (v := 0) hx hb dL_advise_1 (by decide) ?_
  refine lv_aload_n hx hb dL_advise_2 rfl (lv_at hl 0 rfl) ?_
  refine lv_iload_n hx hb dL_advise_3 rfl (lv_at hl 1 rfl) ?_
  refine lv_iload_n hx hb dL_advise_4 rfl (lv_at hl 2 rfl) ?_
  have hPc := hP.sub (ws' := [(h0, .inr (10, [.ref fq, .ref sq, .ref gq, .ref nq, .ref dq, .ref pq, .int pl, .int bl, .int tb])), (gq, .inr (4, [.int mc_gq, .ref tE, .int 0]))]) [0, 1] rfl
  have hDc := hD.sub (ws' := [(h0, .inr (10, [.ref fq, .ref sq, .ref gq, .ref nq, .ref dq, .ref pq, .int pl, .int bl, .int tb])), (gq, .inr (4, [.int mc_gq, .ref tE, .int 0]))]) [0, 1] (by decide) rfl
  have hKc := hK.sub (tys' := []) [] rfl
  have hFc := va_free (wc := [(h0, .inr (10, [.ref fq, .ref sq, .ref gq, .ref nq, .ref dq, .ref pq, .int pl, .int bl, .int tb])), (gq, .inr (4, [.int mc_gq, .ref tE, .int 0]))]) hD hS hA [0, 1] rfl
  refine vx_calli (vx_runV (As := [.int p0, .int p1]) (rest := [.int 0, .ref oq]) ⟨hx, hb, hml, hown, hts⟩ (c_advise l hl9 dC dI tE h0 fq sq gq nq dq pq pl bl tb mc_gq p0 p1 _ ) (cwV 2 hts (goodIn_app (goodIn_r _ [16, 17, 18, 13] (by rfl) (by decide +kernel)) gt_w_advise_c_advise) rfl rfl rfl (by decide +kernel) ⟨Nat.le_of_ble_eq_true rfl, Nat.le_of_ble_eq_true rfl⟩) ⟨Pre0.blind, va_recv hKc hPc (ci := 10) (q0 := 0) rfl rfl, Pre0.give hPc hKc hDc hT hS hFc⟩ rfl rfl hl.1 rfl (lv_room (Nat.le_of_ble_eq_true rfl)) dL_advise_5 ⟨Nat.le_of_ble_eq_true rfl, Nat.le_of_ble_eq_true rfl⟩) hS (fun q _ h => hFc q h) hFc (fun q _ h => hFc q h) (fun E ce q9 u t H1 locs ht hvm hpx hB hz1 hk1 hS hce hcv hcl => ?_) (fun r u t H1 locs ht hvm hw hB hz1 hk1 hS => hw.elim)
  obtain ⟨rfl, hP1, hK1, hD1⟩ := hB
  rw [ht] at hP1
  have hK1 := va_K.moved hvm.symm hK1
  obtain ⟨hP, hD⟩ := va_join (wr := []) (w1 := [(h0, .inr (10, [.ref fq, .ref sq, .ref gq, .ref nq, .ref dq, .ref pq, .int pl, .int bl, .int tb])), (gq, .inr (4, [.int mc_gq, .ref tE, .int 0]))]) hP hD [0, 1] [] rfl rfl (by decide) (by decide) hk1 hFc hP1 hD1
  generalize H1 = H at hP hS hce ⊢
  have hP : va_P (dC, dI) vwCl [(h0, .inr (10, [.ref fq, .ref sq, .ref gq, .ref nq, .ref dq, .ref pq, .int pl, .int bl, .int tb])), (gq, .inr (4, [.int mc_gq, .ref tE, .int 0]))] H := hP
  have hD : va_D A [(h0, .inr (10, [.ref fq, .ref sq, .ref gq, .ref nq, .ref dq, .ref pq, .int pl, .int bl, .int tb])), (gq, .inr (4, [.int mc_gq, .ref tE, .int 0]))] := hD
  refine vx_widen (k := 1) (n := 6) (by omega) (by omega) ?_
  refine vx_catch (own := RL) (name := "java/lang/IndexOutOfBoundsException") (E := "java/lang/IndexOutOfBoundsException") hown [] ⟨0, 10, 13, 21⟩ [⟨0, 10, 17, 13⟩] (by rw [hTab]; rfl) (fun z hz => nomatch hz) (by decide) (by decide) (hts (.classLink RL 21 "java/lang/IndexOutOfBoundsException") (List.mem_of_getElem? (i := 19) rfl)) (va_Nw.use rfl hT.eX) hce hcv hcl ?_
  refine lv_astore (lv' := [(4, .ref q9), (0, .ref h0), (1, .int p0), (2, .int p1), (3, .ref oq)]) hx hb dL_advise_13 hl (by decide) rfl (fun ls hl => ?_)
  refine lv_iconst (v := 1) hx hb dL_advise_15 (by decide) ?_
  have hP9 := hP.sub (ws' := [(h0, .inr (10, [.ref fq, .ref sq, .ref gq, .ref nq, .ref dq, .ref pq, .int pl, .int bl, .int tb])), (gq, .inr (4, [.int mc_gq, .ref tE, .int 0]))]) [0, 1] rfl
  have hD9 := hD.sub (ws' := [(h0, .inr (10, [.ref fq, .ref sq, .ref gq, .ref nq, .ref dq, .ref pq, .int pl, .int bl, .int tb])), (gq, .inr (4, [.int mc_gq, .ref tE, .int 0]))]) [0, 1] (by decide) rfl
  have hK9 := hK.sub (tys' := []) [] rfl
  exact W.iret (v := 1) hx hb hr (fun t ht hW => ⟨⟨1, (), rfl, rfl, by rw [ht]; exact hP9, va_K.moved hW.alike hK9, hD9⟩, hS.F ht⟩) hS.2.2 dL_advise_16
def vh_w_byteAt : List Cond := .codeWith yL_byteAt cL_byteAt 4 (some .int) [(0, 9, 12, 21)] :: ([Cond.code yX5_byteAt cX5_byteAt 2 (some .int), Cond.classLink RX5 71 "java/lang/IndexOutOfBoundsException", Cond.initialized "java/lang/IndexOutOfBoundsException", Cond.fieldLink RX5 206 "HotelOfBells" "paperLength" "I", Cond.methodLink RL 68 yX5_byteAt, Cond.instanceMethod yX5_byteAt, Cond.selects RX5 yX5_byteAt yX5_byteAt, Cond.initialized RX5, Cond.classLink RL 21 "java/lang/IndexOutOfBoundsException"] ++ (wsX50 ++ []))
def v_w_byteAt : List Cond := vh_w_byteAt ++ (thrX)
theorem u_w_byteAt_X5 : ∀ w ∈ wsX50, w ∈ v_w_byteAt := fun _ h => List.mem_append_left _ (List.mem_cons_of_mem _ (List.mem_append_right _ (List.mem_append_left _ h)))
theorem gg_w_byteAt_c_byteAt : GoodIn v_w_byteAt vh_c_byteAt := goodIn_r _ [1, 2, 3, 4, 10, 11, 12, 13, 14, 15, 16, 17, 18] (by rfl) (by decide +kernel)
theorem gt_w_byteAt_c_byteAt : GoodIn v_w_byteAt v_c_byteAt := goodIn_app gg_w_byteAt_c_byteAt (goodIn_sub (fun _ h => List.mem_append_right _ h) (by decide +kernel))
set_option maxHeartbeats 4000000 in
set_option maxRecDepth 100000 in
theorem w_byteAt (l : Launch) (hl9 : l.stackTraces = false) (dC : Nat → ClassId) (dI : Nat → Nat → Nat) (tE : Nat) (h0 : Nat) (fq : Nat) (sq : Nat) (gq : Nat) (nq : Nat) (dq : Nat) (pq : Nat) (p0 : Int32) (oq : Nat) (sz : Nat) : Met l yL_byteAt v_w_byteAt ({ frames := 7, cells := 1, slots := 6, locals := 111 }) (va_Pc [.ref h0, .int p0, .ref oq] (Pre0 dC dI tE sz [] [(h0, .inr (10, [.ref fq, .ref sq, .ref gq, .ref nq, .ref dq, .ref pq, .int 0, .int 0, .int 0]))])) (va_Qi (fun (r : Int32) (_ : Unit) => r = 1) (fun _ t => Pst dC dI [] (va_A [(h0, .inr (10, [.ref fq, .ref sq, .ref gq, .ref nq, .ref dq, .ref pq, .int 0, .int 0, .int 0]))] sz) [(h0, .inr (10, [.ref fq, .ref sq, .ref gq, .ref nq, .ref dq, .ref pq, .int 0, .int 0, .int 0]))] t) (va_A [(h0, .inr (10, [.ref fq, .ref sq, .ref gq, .ref nq, .ref dq, .ref pq, .int 0, .int 0, .int 0]))] sz)) 1 6 (va_A [(h0, .inr (10, [.ref fq, .ref sq, .ref gq, .ref nq, .ref dq, .ref pq, .int 0, .int 0, .int 0]))] sz) := by
  refine va_MetW (cc := cL_byteAt) (maxL := 4) (ret := (some .int)) (by decide) rfl ?_
  intro p e s m args below meth c s₁ B hml hv
  obtain ⟨rfl, hsz, hP, hK, hD0, hT⟩ := hv
  have hx := B.exec
  have hb := B.bytes
  have hr := B.returns
  have hts := atoms_spec (ws := v_w_byteAt) B.pre
  have hown : s.vm.findClass RL = some m.cls := findClass_of_methodNamed B.named
  have hlocks := B.notSynchronized
  have hTab : c.exceptionTable.toList = tableOf [(0, 9, 12, 21)] := vx_table (x := yL_byteAt) B (hts (.codeWith yL_byteAt cL_byteAt 4 (some .int) [(0, 9, 12, 21)]) (List.mem_of_getElem? (i := 0) rfl))
  subst hsz
  have hD := hD0.self (sz := s.heap.size)
  generalize hAe : va_A [(h0, .inr (10, [.ref fq, .ref sq, .ref gq, .ref nq, .ref dq, .ref pq, .int 0, .int 0, .int 0]))] s.heap.size = A at hD hT ⊢
  have hA : ∀ q : Nat, s.heap.size ≤ q → A q := fun q h => by rw [← hAe]; exact Or.inr h
  have hS : va_S A s.heap s.heap [] := va_S.rf
  have hl := lv_entry ([.ref h0, .int p0, .ref oq]) (n := 4) (Nat.le_of_ble_eq_true rfl)
  rw [lg_entry_eq]
  generalize (lg_sl ([.ref h0, .int p0, .ref oq]) ++ List.replicate (4 - (lg_sl ([.ref h0, .int p0, .ref oq])).length) Slot.unset).toArray = ls at hl ⊢
  have hl : lv_has ls 4 [(0, .ref h0), (1, .int p0), (2, .ref oq)] := hl
  refine lv_aload_n hx hb dL_byteAt_0 rfl (lv_at hl 2 rfl) ?_
  refine lv_iconst (v := 0) hx hb dL_byteAt_1 (by decide) ?_
  refine lv_aload_n hx hb dL_byteAt_2 rfl (lv_at hl 0 rfl) ?_
  refine lv_iload_n hx hb dL_byteAt_3 rfl (lv_at hl 1 rfl) ?_
  have hPc := hP.sub (ws' := [(h0, .inr (10, [.ref fq, .ref sq, .ref gq, .ref nq, .ref dq, .ref pq, .int 0, .int 0, .int 0]))]) [0] rfl
  have hDc := hD.sub (ws' := [(h0, .inr (10, [.ref fq, .ref sq, .ref gq, .ref nq, .ref dq, .ref pq, .int 0, .int 0, .int 0]))]) [0] (by decide) rfl
  have hKc := hK.sub (tys' := []) [] rfl
  have hFc := va_free (wc := [(h0, .inr (10, [.ref fq, .ref sq, .ref gq, .ref nq, .ref dq, .ref pq, .int 0, .int 0, .int 0]))]) hD hS hA [0] rfl
  refine vx_calli (vx_runV (As := [.int p0]) (rest := [.int 0, .ref oq]) ⟨hx, hb, hml, hown, hts⟩ (c_byteAt l hl9 dC dI tE h0 fq sq gq nq dq pq p0 _ ) (cwV 1 hts (goodIn_app (goodIn_r _ [5, 6, 7, 8] (by rfl) (by decide +kernel)) gt_w_byteAt_c_byteAt) rfl rfl rfl (by decide +kernel) ⟨Nat.le_of_ble_eq_true rfl, Nat.le_of_ble_eq_true rfl⟩) ⟨Pre0.blind, va_recv hKc hPc (ci := 10) (q0 := 0) rfl rfl, Pre0.give hPc hKc hDc hT hS hFc⟩ rfl rfl hl.1 rfl (lv_room (Nat.le_of_ble_eq_true rfl)) dL_byteAt_4 ⟨Nat.le_of_ble_eq_true rfl, Nat.le_of_ble_eq_true rfl⟩) hS (fun q _ h => hFc q h) hFc (fun q _ h => hFc q h) (fun E ce q9 u t H1 locs ht hvm hpx hB hz1 hk1 hS hce hcv hcl => ?_) (fun r u t H1 locs ht hvm hw hB hz1 hk1 hS => hw.elim)
  obtain ⟨rfl, hP1, hK1, hD1⟩ := hB
  rw [ht] at hP1
  have hK1 := va_K.moved hvm.symm hK1
  obtain ⟨hP, hD⟩ := va_join (wr := []) (w1 := [(h0, .inr (10, [.ref fq, .ref sq, .ref gq, .ref nq, .ref dq, .ref pq, .int 0, .int 0, .int 0]))]) hP hD [0] [] rfl rfl (by decide) (by decide) hk1 hFc hP1 hD1
  generalize H1 = H at hP hS hce ⊢
  have hP : va_P (dC, dI) vwCl [(h0, .inr (10, [.ref fq, .ref sq, .ref gq, .ref nq, .ref dq, .ref pq, .int 0, .int 0, .int 0]))] H := hP
  have hD : va_D A [(h0, .inr (10, [.ref fq, .ref sq, .ref gq, .ref nq, .ref dq, .ref pq, .int 0, .int 0, .int 0]))] := hD
  refine vx_widen (k := 1) (n := 6) (by omega) (by omega) ?_
  refine vx_catch (own := RL) (name := "java/lang/IndexOutOfBoundsException") (E := "java/lang/IndexOutOfBoundsException") hown [] ⟨0, 9, 12, 21⟩ [] (by rw [hTab]; rfl) (fun z hz => nomatch hz) (by decide) (by decide) (hts (.classLink RL 21 "java/lang/IndexOutOfBoundsException") (List.mem_of_getElem? (i := 9) rfl)) (va_Nw.use rfl hT.eX) hce hcv hcl ?_
  refine lv_astore_n (lv' := [(3, .ref q9), (0, .ref h0), (1, .int p0), (2, .ref oq)]) hx hb dL_byteAt_12 rfl hl (by decide) rfl (fun ls hl => ?_)
  refine lv_iconst (v := 1) hx hb dL_byteAt_13 (by decide) ?_
  have hP9 := hP.sub (ws' := [(h0, .inr (10, [.ref fq, .ref sq, .ref gq, .ref nq, .ref dq, .ref pq, .int 0, .int 0, .int 0]))]) [0] rfl
  have hD9 := hD.sub (ws' := [(h0, .inr (10, [.ref fq, .ref sq, .ref gq, .ref nq, .ref dq, .ref pq, .int 0, .int 0, .int 0]))]) [0] (by decide) rfl
  have hK9 := hK.sub (tys' := []) [] rfl
  exact W.iret (v := 1) hx hb hr (fun t ht hW => ⟨⟨1, (), rfl, rfl, by rw [ht]; exact hP9, va_K.moved hW.alike hK9, hD9⟩, hS.F ht⟩) hS.2.2 dL_byteAt_14
def v_w_count_0 : List Cond := .codeWith yL_count cL_count 4 (some .int) [(0, 9, 12, 21)] :: ([Cond.code yX5_count cX5_count 2 (some .int), Cond.fieldLink RX5 10 "HotelOfBells" "floors" "Ljava/util/ArrayList;", Cond.code yJx4a65c_size_8abf5 cJx4a65c_size_8abf5 1 (some .int), Cond.fieldLink RJx4a65c 48 "java/util/ArrayList" "size" "I", Cond.methodLink RX5 49 yJx4a65c_size_8abf5, Cond.instanceMethod yJx4a65c_size_8abf5, Cond.selects RJx4a65c yJx4a65c_size_8abf5 yJx4a65c_size_8abf5, Cond.initialized RJx4a65c, Cond.methodLink RL 50 yX5_count, Cond.instanceMethod yX5_count, Cond.selects RX5 yX5_count yX5_count, Cond.initialized RX5] ++ (wsX50 ++ (wsJx4a65c0 ++ [])))
theorem u_w_count_0_X5 : ∀ w ∈ wsX50, w ∈ v_w_count_0 := fun _ h => List.mem_cons_of_mem _ (List.mem_append_right _ (List.mem_append_left _ h))
theorem u_w_count_0_Jx4a65c : ∀ w ∈ wsJx4a65c0, w ∈ v_w_count_0 := fun _ h => List.mem_cons_of_mem _ (List.mem_append_right _ (List.mem_append_right _ (List.mem_append_left _ h)))
theorem gg_w_count_0_c_count_0 : GoodIn v_w_count_0 v_c_count_0 := goodIn_r _ [1, 2, 3, 4, 5, 6, 7, 8, 13, 14, 15, 16, 17, 18, 19, 20, 21, 22, 23, 24] (by rfl) (by decide +kernel)
set_option maxHeartbeats 4000000 in
set_option maxRecDepth 100000 in
theorem w_count_0 (l : Launch) (hl9 : l.stackTraces = false) (dC : Nat → ClassId) (dI : Nat → Nat → Nat) (tE : Nat) (h0 : Nat) (fq : Nat) (sq : Nat) (gq : Nat) (nq : Nat) (dq : Nat) (pq : Nat) (mc_fq : Int32) (oq : Nat) (co : ClassId) (fo : Nat → Int64) (sz : Nat) : Met l yL_count v_w_count_0 ({ frames := 2, cells := 0, slots := 0, locals := 41 }) (va_Pc [.ref h0, .int 0, .ref oq] (Pre0 dC dI tE sz [(co, .long)] [(h0, .inr (10, [.ref fq, .ref sq, .ref gq, .ref nq, .ref dq, .ref pq, .int 0, .int 0, .int 0])), (fq, .inr (4, [.int mc_fq, .ref tE, .int 0])), (oq, .inl (co, 1, .inr (.inl fo)))])) (va_Qi (fun (r : Int32) (_ : Unit) => r = 0) (fun _ t => Pst dC dI [(co, .long)] (va_A [(h0, .inr (10, [.ref fq, .ref sq, .ref gq, .ref nq, .ref dq, .ref pq, .int 0, .int 0, .int 0])), (fq, .inr (4, [.int mc_fq, .ref tE, .int 0])), (oq, .inl (co, 1, .inr (.inl fo)))] sz) [(oq, .inl (co, 1, .inr (.inl (vp_updL fo (0 : Int32).toNatClampNeg 0)))), (h0, .inr (10, [.ref fq, .ref sq, .ref gq, .ref nq, .ref dq, .ref pq, .int 0, .int 0, .int 0])), (fq, .inr (4, [.int mc_fq, .ref tE, .int 0]))] t) (va_A [(h0, .inr (10, [.ref fq, .ref sq, .ref gq, .ref nq, .ref dq, .ref pq, .int 0, .int 0, .int 0])), (fq, .inr (4, [.int mc_fq, .ref tE, .int 0])), (oq, .inl (co, 1, .inr (.inl fo)))] sz)) 0 0 (va_A [(h0, .inr (10, [.ref fq, .ref sq, .ref gq, .ref nq, .ref dq, .ref pq, .int 0, .int 0, .int 0])), (fq, .inr (4, [.int mc_fq, .ref tE, .int 0])), (oq, .inl (co, 1, .inr (.inl fo)))] sz) := by
  refine va_MetW (cc := cL_count) (maxL := 4) (ret := (some .int)) (by decide) rfl ?_
  intro p e s m args below meth c s₁ B hml hv
  obtain ⟨rfl, hsz, hP, hK, hD0, hT⟩ := hv
  have hx := B.exec
  have hb := B.bytes
  have hr := B.returns
  have hts := atoms_spec (ws := v_w_count_0) B.pre
  have hown : s.vm.findClass RL = some m.cls := findClass_of_methodNamed B.named
  have hlocks := B.notSynchronized
  have hTab : c.exceptionTable.toList = tableOf [(0, 9, 12, 21)] := vx_table (x := yL_count) B (hts (.codeWith yL_count cL_count 4 (some .int) [(0, 9, 12, 21)]) (List.mem_of_getElem? (i := 0) rfl))
  subst hsz
  have hD := hD0.self (sz := s.heap.size)
  generalize hAe : va_A [(h0, .inr (10, [.ref fq, .ref sq, .ref gq, .ref nq, .ref dq, .ref pq, .int 0, .int 0, .int 0])), (fq, .inr (4, [.int mc_fq, .ref tE, .int 0])), (oq, .inl (co, 1, .inr (.inl fo)))] s.heap.size = A at hD hT ⊢
  have hA : ∀ q : Nat, s.heap.size ≤ q → A q := fun q h => by rw [← hAe]; exact Or.inr h
  have hS : va_S A s.heap s.heap [] := va_S.rf
  have hl := lv_entry ([.ref h0, .int 0, .ref oq]) (n := 4) (Nat.le_of_ble_eq_true rfl)
  rw [lg_entry_eq]
  generalize (lg_sl ([.ref h0, .int 0, .ref oq]) ++ List.replicate (4 - (lg_sl ([.ref h0, .int 0, .ref oq])).length) Slot.unset).toArray = ls at hl ⊢
  have hl : lv_has ls 4 [(0, .ref h0), (1, .int 0), (2, .ref oq)] := hl
  refine lv_aload_n hx hb dL_count_0 rfl (lv_at hl 2 rfl) ?_
  refine lv_iconst (v := 0) hx hb dL_count_1 (by decide) ?_
  refine lv_aload_n hx hb dL_count_2 rfl (lv_at hl 0 rfl) ?_
  refine lv_iload_n hx hb dL_count_3 rfl (lv_at hl 1 rfl) ?_
  have hPc := hP.sub (ws' := [(h0, .inr (10, [.ref fq, .ref sq, .ref gq, .ref nq, .ref dq, .ref pq, .int 0, .int 0, .int 0])), (fq, .inr (4, [.int mc_fq, .ref tE, .int 0]))]) [0, 1] rfl
  have hDc := hD.sub (ws' := [(h0, .inr (10, [.ref fq, .ref sq, .ref gq, .ref nq, .ref dq, .ref pq, .int 0, .int 0, .int 0])), (fq, .inr (4, [.int mc_fq, .ref tE, .int 0]))]) [0, 1] (by decide) rfl
  have hKc := hK.sub (tys' := []) [] rfl
  have hFc := va_free (wc := [(h0, .inr (10, [.ref fq, .ref sq, .ref gq, .ref nq, .ref dq, .ref pq, .int 0, .int 0, .int 0])), (fq, .inr (4, [.int mc_fq, .ref tE, .int 0]))]) hD hS hA [0, 1] rfl
  refine va_calli (va_runV (As := [.int 0]) (rest := [.int 0, .ref oq]) ⟨hx, hb, hml, hown, hts⟩ (c_count_0 l hl9 dC dI tE h0 fq sq gq nq dq pq mc_fq _ ) (cwV 1 hts (goodIn_app (goodIn_r _ [9, 10, 11, 12] (by rfl) (by decide +kernel)) gg_w_count_0_c_count_0) rfl rfl rfl (by decide +kernel) ⟨Nat.le_of_ble_eq_true rfl, Nat.le_of_ble_eq_true rfl⟩) ⟨Pre0.blind, va_recv hKc hPc (ci := 10) (q0 := 0) rfl rfl, Pre0.give hPc hKc hDc hT hS hFc⟩ rfl rfl hl.1 rfl (lv_room (Nat.le_of_ble_eq_true rfl)) dL_count_4 ⟨Nat.le_of_ble_eq_true rfl, Nat.le_of_ble_eq_true rfl⟩) hS (fun q _ h => hFc q h) hFc (fun r_1 u t H1 locs ht hvm hw hB hz1 hk1 hS => ?_)
  obtain ⟨hP1, hK1, hD1⟩ := hB
  rw [ht] at hP1
  have hK1 := va_K.moved hvm.symm hK1
  obtain ⟨hP, hD⟩ := va_join (wr := [(oq, .inl (co, 1, .inr (.inl fo)))]) (w1 := [(h0, .inr (10, [.ref fq, .ref sq, .ref gq, .ref nq, .ref dq, .ref pq, .int 0, .int 0, .int 0])), (fq, .inr (4, [.int mc_fq, .ref tE, .int 0]))]) hP hD [0, 1] [2] rfl rfl (by decide) (by decide) hk1 hFc hP1 hD1
  generalize H1 = H at hP hS ⊢
  have hP : va_P (dC, dI) vwCl [(oq, .inl (co, 1, .inr (.inl fo))), (h0, .inr (10, [.ref fq, .ref sq, .ref gq, .ref nq, .ref dq, .ref pq, .int 0, .int 0, .int 0])), (fq, .inr (4, [.int mc_fq, .ref tE, .int 0]))] H := hP
  have hD : va_D A [(oq, .inl (co, 1, .inr (.inl fo))), (h0, .inr (10, [.ref fq, .ref sq, .ref gq, .ref nq, .ref dq, .ref pq, .int 0, .int 0, .int 0])), (fq, .inr (4, [.int mc_fq, .ref tE, .int 0]))] := hD
  refine W.widen (k := 0) (n := 0) (by omega) (by omega) ?_
  obtain rfl : r_1 = 0 := hw
  refine lv_i2l (v := 0) hx hb dL_count_7 (by decide) ?_
  refine va_last hx hb hK hP hD hS 0 0 rfl rfl (by unfold vp_in; decide) dL_count_8 (fun H locs hP hD hS => ?_)
  have hP : va_P (dC, dI) vwCl [(oq, .inl (co, 1, .inr (.inl (vp_updL fo (0 : Int32).toNatClampNeg 0)))), (h0, .inr (10, [.ref fq, .ref sq, .ref gq, .ref nq, .ref dq, .ref pq, .int 0, .int 0, .int 0])), (fq, .inr (4, [.int mc_fq, .ref tE, .int 0]))] H := hP
  have hD : va_D A [(oq, .inl (co, 1, .inr (.inl (vp_updL fo (0 : Int32).toNatClampNeg 0)))), (h0, .inr (10, [.ref fq, .ref sq, .ref gq, .ref nq, .ref dq, .ref pq, .int 0, .int 0, .int 0])), (fq, .inr (4, [.int mc_fq, .ref tE, .int 0]))] := hD
  refine lv_goto (tgt := 15) hx hb dL_count_9 (by decide) ?_
  refine lv_iconst (v := 0) hx hb dL_count_15 (by decide) ?_
  have hP9 := hP.sub (ws' := [(oq, .inl (co, 1, .inr (.inl (vp_updL fo (0 : Int32).toNatClampNeg 0)))), (h0, .inr (10, [.ref fq, .ref sq, .ref gq, .ref nq, .ref dq, .ref pq, .int 0, .int 0, .int 0])), (fq, .inr (4, [.int mc_fq, .ref tE, .int 0]))]) [0, 1, 2] rfl
  have hD9 := hD.sub (ws' := [(oq, .inl (co, 1, .inr (.inl (vp_updL fo (0 : Int32).toNatClampNeg 0)))), (h0, .inr (10, [.ref fq, .ref sq, .ref gq, .ref nq, .ref dq, .ref pq, .int 0, .int 0, .int 0])), (fq, .inr (4, [.int mc_fq, .ref tE, .int 0]))]) [0, 1, 2] (by decide) rfl
  have hK9 := hK.sub (tys' := [(co, .long)]) [0] rfl
  exact W.iret (v := 0) hx hb hr (fun t ht hW => ⟨⟨0, (), rfl, rfl, by rw [ht]; exact hP9, va_K.moved hW.alike hK9, hD9⟩, hS.F ht⟩) hS.2.2 dL_count_16
def v_w_count_1 : List Cond := .codeWith yL_count cL_count 4 (some .int) [(0, 9, 12, 21)] :: ([Cond.code yX5_count cX5_count 2 (some .int), Cond.fieldLink RX5 16 "HotelOfBells" "shafts" "Ljava/util/ArrayList;", Cond.code yJx4a65c_size_8abf5 cJx4a65c_size_8abf5 1 (some .int), Cond.fieldLink RJx4a65c 48 "java/util/ArrayList" "size" "I", Cond.methodLink RX5 49 yJx4a65c_size_8abf5, Cond.instanceMethod yJx4a65c_size_8abf5, Cond.selects RJx4a65c yJx4a65c_size_8abf5 yJx4a65c_size_8abf5, Cond.initialized RJx4a65c, Cond.methodLink RL 50 yX5_count, Cond.instanceMethod yX5_count, Cond.selects RX5 yX5_count yX5_count, Cond.initialized RX5] ++ (wsX50 ++ (wsJx4a65c0 ++ [])))
theorem u_w_count_1_X5 : ∀ w ∈ wsX50, w ∈ v_w_count_1 := fun _ h => List.mem_cons_of_mem _ (List.mem_append_right _ (List.mem_append_left _ h))
theorem u_w_count_1_Jx4a65c : ∀ w ∈ wsJx4a65c0, w ∈ v_w_count_1 := fun _ h => List.mem_cons_of_mem _ (List.mem_append_right _ (List.mem_append_right _ (List.mem_append_left _ h)))
theorem gg_w_count_1_c_count_1 : GoodIn v_w_count_1 v_c_count_1 := goodIn_r _ [1, 2, 3, 4, 5, 6, 7, 8, 13, 14, 15, 16, 17, 18, 19, 20, 21, 22, 23, 24] (by rfl) (by decide +kernel)
set_option maxHeartbeats 4000000 in
set_option maxRecDepth 100000 in
theorem w_count_1 (l : Launch) (hl9 : l.stackTraces = false) (dC : Nat → ClassId) (dI : Nat → Nat → Nat) (tE : Nat) (h0 : Nat) (fq : Nat) (sq : Nat) (gq : Nat) (nq : Nat) (dq : Nat) (pq : Nat) (mc_sq : Int32) (oq : Nat) (co : ClassId) (fo : Nat → Int64) (sz : Nat) : Met l yL_count v_w_count_1 ({ frames := 2, cells := 0, slots := 0, locals := 41 }) (va_Pc [.ref h0, .int 1, .ref oq] (Pre0 dC dI tE sz [(co, .long)] [(h0, .inr (10, [.ref fq, .ref sq, .ref gq, .ref nq, .ref dq, .ref pq, .int 0, .int 0, .int 0])), (sq, .inr (4, [.int mc_sq, .ref tE, .int 0])), (oq, .inl (co, 1, .inr (.inl fo)))])) (va_Qi (fun (r : Int32) (_ : Unit) => r = 0) (fun _ t => Pst dC dI [(co, .long)] (va_A [(h0, .inr (10, [.ref fq, .ref sq, .ref gq, .ref nq, .ref dq, .ref pq, .int 0, .int 0, .int 0])), (sq, .inr (4, [.int mc_sq, .ref tE, .int 0])), (oq, .inl (co, 1, .inr (.inl fo)))] sz) [(oq, .inl (co, 1, .inr (.inl (vp_updL fo (0 : Int32).toNatClampNeg 0)))), (h0, .inr (10, [.ref fq, .ref sq, .ref gq, .ref nq, .ref dq, .ref pq, .int 0, .int 0, .int 0])), (sq, .inr (4, [.int mc_sq, .ref tE, .int 0]))] t) (va_A [(h0, .inr (10, [.ref fq, .ref sq, .ref gq, .ref nq, .ref dq, .ref pq, .int 0, .int 0, .int 0])), (sq, .inr (4, [.int mc_sq, .ref tE, .int 0])), (oq, .inl (co, 1, .inr (.inl fo)))] sz)) 0 0 (va_A [(h0, .inr (10, [.ref fq, .ref sq, .ref gq, .ref nq, .ref dq, .ref pq, .int 0, .int 0, .int 0])), (sq, .inr (4, [.int mc_sq, .ref tE, .int 0])), (oq, .inl (co, 1, .inr (.inl fo)))] sz) := by
  refine va_MetW (cc := cL_count) (maxL := 4) (ret := (some .int)) (by decide) rfl ?_
  intro p e s m args below meth c s₁ B hml hv
  obtain ⟨rfl, hsz, hP, hK, hD0, hT⟩ := hv
  have hx := B.exec
  have hb := B.bytes
  have hr := B.returns
  have hts := atoms_spec (ws := v_w_count_1) B.pre
  have hown : s.vm.findClass RL = some m.cls := findClass_of_methodNamed B.named
  have hlocks := B.notSynchronized
  have hTab : c.exceptionTable.toList = tableOf [(0, 9, 12, 21)] := vx_table (x := yL_count) B (hts (.codeWith yL_count cL_count 4 (some .int) [(0, 9, 12, 21)]) (List.mem_of_getElem? (i := 0) rfl))
  subst hsz
  have hD := hD0.self (sz := s.heap.size)
  generalize hAe : va_A [(h0, .inr (10, [.ref fq, .ref sq, .ref gq, .ref nq, .ref dq, .ref pq, .int 0, .int 0, .int 0])), (sq, .inr (4, [.int mc_sq, .ref tE, .int 0])), (oq, .inl (co, 1, .inr (.inl fo)))] s.heap.size = A at hD hT ⊢
  have hA : ∀ q : Nat, s.heap.size ≤ q → A q := fun q h => by rw [← hAe]; exact Or.inr h
  have hS : va_S A s.heap s.heap [] := va_S.rf
  have hl := lv_entry ([.ref h0, .int 1, .ref oq]) (n := 4) (Nat.le_of_ble_eq_true rfl)
  rw [lg_entry_eq]
  generalize (lg_sl ([.ref h0, .int 1, .ref oq]) ++ List.replicate (4 - (lg_sl ([.ref h0, .int 1, .ref oq])).length) Slot.unset).toArray = ls at hl ⊢
  have hl : lv_has ls 4 [(0, .ref h0), (1, .int 1), (2, .ref oq)] := hl
  refine lv_aload_n hx hb dL_count_0 rfl (lv_at hl 2 rfl) ?_
  refine lv_iconst (v := 0) hx hb dL_count_1 (by decide) ?_
  refine lv_aload_n hx hb dL_count_2 rfl (lv_at hl 0 rfl) ?_
  refine lv_iload_n hx hb dL_count_3 rfl (lv_at hl 1 rfl) ?_
  have hPc := hP.sub (ws' := [(h0, .inr (10, [.ref fq, .ref sq, .ref gq, .ref nq, .ref dq, .ref pq, .int 0, .int 0, .int 0])), (sq, .inr (4, [.int mc_sq, .ref tE, .int 0]))]) [0, 1] rfl
  have hDc := hD.sub (ws' := [(h0, .inr (10, [.ref fq, .ref sq, .ref gq, .ref nq, .ref dq, .ref pq, .int 0, .int 0, .int 0])), (sq, .inr (4, [.int mc_sq, .ref tE, .int 0]))]) [0, 1] (by decide) rfl
  have hKc := hK.sub (tys' := []) [] rfl
  have hFc := va_free (wc := [(h0, .inr (10, [.ref fq, .ref sq, .ref gq, .ref nq, .ref dq, .ref pq, .int 0, .int 0, .int 0])), (sq, .inr (4, [.int mc_sq, .ref tE, .int 0]))]) hD hS hA [0, 1] rfl
  refine va_calli (va_runV (As := [.int 1]) (rest := [.int 0, .ref oq]) ⟨hx, hb, hml, hown, hts⟩ (c_count_1 l hl9 dC dI tE h0 fq sq gq nq dq pq mc_sq _ ) (cwV 1 hts (goodIn_app (goodIn_r _ [9, 10, 11, 12] (by rfl) (by decide +kernel)) gg_w_count_1_c_count_1) rfl rfl rfl (by decide +kernel) ⟨Nat.le_of_ble_eq_true rfl, Nat.le_of_ble_eq_true rfl⟩) ⟨Pre0.blind, va_recv hKc hPc (ci := 10) (q0 := 0) rfl rfl, Pre0.give hPc hKc hDc hT hS hFc⟩ rfl rfl hl.1 rfl (lv_room (Nat.le_of_ble_eq_true rfl)) dL_count_4 ⟨Nat.le_of_ble_eq_true rfl, Nat.le_of_ble_eq_true rfl⟩) hS (fun q _ h => hFc q h) hFc (fun r_1 u t H1 locs ht hvm hw hB hz1 hk1 hS => ?_)
  obtain ⟨hP1, hK1, hD1⟩ := hB
  rw [ht] at hP1
  have hK1 := va_K.moved hvm.symm hK1
  obtain ⟨hP, hD⟩ := va_join (wr := [(oq, .inl (co, 1, .inr (.inl fo)))]) (w1 := [(h0, .inr (10, [.ref fq, .ref sq, .ref gq, .ref nq, .ref dq, .ref pq, .int 0, .int 0, .int 0])), (sq, .inr (4, [.int mc_sq, .ref tE, .int 0]))]) hP hD [0, 1] [2] rfl rfl (by decide) (by decide) hk1 hFc hP1 hD1
  generalize H1 = H at hP hS ⊢
  have hP : va_P (dC, dI) vwCl [(oq, .inl (co, 1, .inr (.inl fo))), (h0, .inr (10, [.ref fq, .ref sq, .ref gq, .ref nq, .ref dq, .ref pq, .int 0, .int 0, .int 0])), (sq, .inr (4, [.int mc_sq, .ref tE, .int 0]))] H := hP
  have hD : va_D A [(oq, .inl (co, 1, .inr (.inl fo))), (h0, .inr (10, [.ref fq, .ref sq, .ref gq, .ref nq, .ref dq, .ref pq, .int 0, .int 0, .int 0])), (sq, .inr (4, [.int mc_sq, .ref tE, .int 0]))] := hD
  refine W.widen (k := 0) (n := 0) (by omega) (by omega) ?_
  obtain rfl : r_1 = 0 := hw
  refine lv_i2l (v := 0) hx hb dL_count_7 (by decide) ?_
  refine va_last hx hb hK hP hD hS 0 0 rfl rfl (by unfold vp_in; decide) dL_count_8 (fun H locs hP hD hS => ?_)
  have hP : va_P (dC, dI) vwCl [(oq, .inl (co, 1, .inr (.inl (vp_updL fo (0 : Int32).toNatClampNeg 0)))), (h0, .inr (10, [.ref fq, .ref sq, .ref gq, .ref nq, .ref dq, .ref pq, .int 0, .int 0, .int 0])), (sq, .inr (4, [.int mc_sq, .ref tE, .int 0]))] H := hP
  have hD : va_D A [(oq, .inl (co, 1, .inr (.inl (vp_updL fo (0 : Int32).toNatClampNeg 0)))), (h0, .inr (10, [.ref fq, .ref sq, .ref gq, .ref nq, .ref dq, .ref pq, .int 0, .int 0, .int 0])), (sq, .inr (4, [.int mc_sq, .ref tE, .int 0]))] := hD
  refine lv_goto (tgt := 15) hx hb dL_count_9 (by decide) ?_
  refine lv_iconst (v := 0) hx hb dL_count_15 (by decide) ?_
  have hP9 := hP.sub (ws' := [(oq, .inl (co, 1, .inr (.inl (vp_updL fo (0 : Int32).toNatClampNeg 0)))), (h0, .inr (10, [.ref fq, .ref sq, .ref gq, .ref nq, .ref dq, .ref pq, .int 0, .int 0, .int 0])), (sq, .inr (4, [.int mc_sq, .ref tE, .int 0]))]) [0, 1, 2] rfl
  have hD9 := hD.sub (ws' := [(oq, .inl (co, 1, .inr (.inl (vp_updL fo (0 : Int32).toNatClampNeg 0)))), (h0, .inr (10, [.ref fq, .ref sq, .ref gq, .ref nq, .ref dq, .ref pq, .int 0, .int 0, .int 0])), (sq, .inr (4, [.int mc_sq, .ref tE, .int 0]))]) [0, 1, 2] (by decide) rfl
  have hK9 := hK.sub (tys' := [(co, .long)]) [0] rfl
  exact W.iret (v := 0) hx hb hr (fun t ht hW => ⟨⟨0, (), rfl, rfl, by rw [ht]; exact hP9, va_K.moved hW.alike hK9, hD9⟩, hS.F ht⟩) hS.2.2 dL_count_16
def v_w_count_2 : List Cond := .codeWith yL_count cL_count 4 (some .int) [(0, 9, 12, 21)] :: ([Cond.code yX5_count cX5_count 2 (some .int), Cond.fieldLink RX5 19 "HotelOfBells" "guests" "Ljava/util/ArrayList;", Cond.code yJx4a65c_size_8abf5 cJx4a65c_size_8abf5 1 (some .int), Cond.fieldLink RJx4a65c 48 "java/util/ArrayList" "size" "I", Cond.methodLink RX5 49 yJx4a65c_size_8abf5, Cond.instanceMethod yJx4a65c_size_8abf5, Cond.selects RJx4a65c yJx4a65c_size_8abf5 yJx4a65c_size_8abf5, Cond.initialized RJx4a65c, Cond.methodLink RL 50 yX5_count, Cond.instanceMethod yX5_count, Cond.selects RX5 yX5_count yX5_count, Cond.initialized RX5] ++ (wsX50 ++ (wsJx4a65c0 ++ [])))
theorem u_w_count_2_X5 : ∀ w ∈ wsX50, w ∈ v_w_count_2 := fun _ h => List.mem_cons_of_mem _ (List.mem_append_right _ (List.mem_append_left _ h))
theorem u_w_count_2_Jx4a65c : ∀ w ∈ wsJx4a65c0, w ∈ v_w_count_2 := fun _ h => List.mem_cons_of_mem _ (List.mem_append_right _ (List.mem_append_right _ (List.mem_append_left _ h)))
theorem gg_w_count_2_c_count_2 : GoodIn v_w_count_2 v_c_count_2 := goodIn_r _ [1, 2, 3, 4, 5, 6, 7, 8, 13, 14, 15, 16, 17, 18, 19, 20, 21, 22, 23, 24] (by rfl) (by decide +kernel)
set_option maxHeartbeats 4000000 in
set_option maxRecDepth 100000 in
theorem w_count_2 (l : Launch) (hl9 : l.stackTraces = false) (dC : Nat → ClassId) (dI : Nat → Nat → Nat) (tE : Nat) (h0 : Nat) (fq : Nat) (sq : Nat) (gq : Nat) (nq : Nat) (dq : Nat) (pq : Nat) (mc_gq : Int32) (oq : Nat) (co : ClassId) (fo : Nat → Int64) (sz : Nat) : Met l yL_count v_w_count_2 ({ frames := 2, cells := 0, slots := 0, locals := 41 }) (va_Pc [.ref h0, .int 2, .ref oq] (Pre0 dC dI tE sz [(co, .long)] [(h0, .inr (10, [.ref fq, .ref sq, .ref gq, .ref nq, .ref dq, .ref pq, .int 0, .int 0, .int 0])), (gq, .inr (4, [.int mc_gq, .ref tE, .int 0])), (oq, .inl (co, 1, .inr (.inl fo)))])) (va_Qi (fun (r : Int32) (_ : Unit) => r = 0) (fun _ t => Pst dC dI [(co, .long)] (va_A [(h0, .inr (10, [.ref fq, .ref sq, .ref gq, .ref nq, .ref dq, .ref pq, .int 0, .int 0, .int 0])), (gq, .inr (4, [.int mc_gq, .ref tE, .int 0])), (oq, .inl (co, 1, .inr (.inl fo)))] sz) [(oq, .inl (co, 1, .inr (.inl (vp_updL fo (0 : Int32).toNatClampNeg 0)))), (h0, .inr (10, [.ref fq, .ref sq, .ref gq, .ref nq, .ref dq, .ref pq, .int 0, .int 0, .int 0])), (gq, .inr (4, [.int mc_gq, .ref tE, .int 0]))] t) (va_A [(h0, .inr (10, [.ref fq, .ref sq, .ref gq, .ref nq, .ref dq, .ref pq, .int 0, .int 0, .int 0])), (gq, .inr (4, [.int mc_gq, .ref tE, .int 0])), (oq, .inl (co, 1, .inr (.inl fo)))] sz)) 0 0 (va_A [(h0, .inr (10, [.ref fq, .ref sq, .ref gq, .ref nq, .ref dq, .ref pq, .int 0, .int 0, .int 0])), (gq, .inr (4, [.int mc_gq, .ref tE, .int 0])), (oq, .inl (co, 1, .inr (.inl fo)))] sz) := by
  refine va_MetW (cc := cL_count) (maxL := 4) (ret := (some .int)) (by decide) rfl ?_
  intro p e s m args below meth c s₁ B hml hv
  obtain ⟨rfl, hsz, hP, hK, hD0, hT⟩ := hv
  have hx := B.exec
  have hb := B.bytes
  have hr := B.returns
  have hts := atoms_spec (ws := v_w_count_2) B.pre
  have hown : s.vm.findClass RL = some m.cls := findClass_of_methodNamed B.named
  have hlocks := B.notSynchronized
  have hTab : c.exceptionTable.toList = tableOf [(0, 9, 12, 21)] := vx_table (x := yL_count) B (hts (.codeWith yL_count cL_count 4 (some .int) [(0, 9, 12, 21)]) (List.mem_of_getElem? (i := 0) rfl))
  subst hsz
  have hD := hD0.self (sz := s.heap.size)
  generalize hAe : va_A [(h0, .inr (10, [.ref fq, .ref sq, .ref gq, .ref nq, .ref dq, .ref pq, .int 0, .int 0, .int 0])), (gq, .inr (4, [.int mc_gq, .ref tE, .int 0])), (oq, .inl (co, 1, .inr (.inl fo)))] s.heap.size = A at hD hT ⊢
  have hA : ∀ q : Nat, s.heap.size ≤ q → A q := fun q h => by rw [← hAe]; exact Or.inr h
  have hS : va_S A s.heap s.heap [] := va_S.rf
  have hl := lv_entry ([.ref h0, .int 2, .ref oq]) (n := 4) (Nat.le_of_ble_eq_true rfl)
  rw [lg_entry_eq]
  generalize (lg_sl ([.ref h0, .int 2, .ref oq]) ++ List.replicate (4 - (lg_sl ([.ref h0, .int 2, .ref oq])).length) Slot.unset).toArray = ls at hl ⊢
  have hl : lv_has ls 4 [(0, .ref h0), (1, .int 2), (2, .ref oq)] := hl
  refine lv_aload_n hx hb dL_count_0 rfl (lv_at hl 2 rfl) ?_
  refine lv_iconst (v := 0) hx hb dL_count_1 (by decide) ?_
  refine lv_aload_n hx hb dL_count_2 rfl (lv_at hl 0 rfl) ?_
  refine lv_iload_n hx hb dL_count_3 rfl (lv_at hl 1 rfl) ?_
  have hPc := hP.sub (ws' := [(h0, .inr (10, [.ref fq, .ref sq, .ref gq, .ref nq, .ref dq, .ref pq, .int 0, .int 0, .int 0])), (gq, .inr (4, [.int mc_gq, .ref tE, .int 0]))]) [0, 1] rfl
  have hDc := hD.sub (ws' := [(h0, .inr (10, [.ref fq, .ref sq, .ref gq, .ref nq, .ref dq, .ref pq, .int 0, .int 0, .int 0])), (gq, .inr (4, [.int mc_gq, .ref tE, .int 0]))]) [0, 1] (by decide) rfl
  have hKc := hK.sub (tys' := []) [] rfl
  have hFc := va_free (wc := [(h0, .inr (10, [.ref fq, .ref sq, .ref gq, .ref nq, .ref dq, .ref pq, .int 0, .int 0, .int 0])), (gq, .inr (4, [.int mc_gq, .ref tE, .int 0]))]) hD hS hA [0, 1] rfl
  refine va_calli (va_runV (As := [.int 2]) (rest := [.int 0, .ref oq]) ⟨hx, hb, hml, hown, hts⟩ (c_count_2 l hl9 dC dI tE h0 fq sq gq nq dq pq mc_gq _ ) (cwV 1 hts (goodIn_app (goodIn_r _ [9, 10, 11, 12] (by rfl) (by decide +kernel)) gg_w_count_2_c_count_2) rfl rfl rfl (by decide +kernel) ⟨Nat.le_of_ble_eq_true rfl, Nat.le_of_ble_eq_true rfl⟩) ⟨Pre0.blind, va_recv hKc hPc (ci := 10) (q0 := 0) rfl rfl, Pre0.give hPc hKc hDc hT hS hFc⟩ rfl rfl hl.1 rfl (lv_room (Nat.le_of_ble_eq_true rfl)) dL_count_4 ⟨Nat.le_of_ble_eq_true rfl, Nat.le_of_ble_eq_true rfl⟩) hS (fun q _ h => hFc q h) hFc (fun r_1 u t H1 locs ht hvm hw hB hz1 hk1 hS => ?_)
  obtain ⟨hP1, hK1, hD1⟩ := hB
  rw [ht] at hP1
  have hK1 := va_K.moved hvm.symm hK1
  obtain ⟨hP, hD⟩ := va_join (wr := [(oq, .inl (co, 1, .inr (.inl fo)))]) (w1 := [(h0, .inr (10, [.ref fq, .ref sq, .ref gq, .ref nq, .ref dq, .ref pq, .int 0, .int 0, .int 0])), (gq, .inr (4, [.int mc_gq, .ref tE, .int 0]))]) hP hD [0, 1] [2] rfl rfl (by decide) (by decide) hk1 hFc hP1 hD1
  generalize H1 = H at hP hS ⊢
  have hP : va_P (dC, dI) vwCl [(oq, .inl (co, 1, .inr (.inl fo))), (h0, .inr (10, [.ref fq, .ref sq, .ref gq, .ref nq, .ref dq, .ref pq, .int 0, .int 0, .int 0])), (gq, .inr (4, [.int mc_gq, .ref tE, .int 0]))] H := hP
  have hD : va_D A [(oq, .inl (co, 1, .inr (.inl fo))), (h0, .inr (10, [.ref fq, .ref sq, .ref gq, .ref nq, .ref dq, .ref pq, .int 0, .int 0, .int 0])), (gq, .inr (4, [.int mc_gq, .ref tE, .int 0]))] := hD
  refine W.widen (k := 0) (n := 0) (by omega) (by omega) ?_
  obtain rfl : r_1 = 0 := hw
  refine lv_i2l (v := 0) hx hb dL_count_7 (by decide) ?_
  refine va_last hx hb hK hP hD hS 0 0 rfl rfl (by unfold vp_in; decide) dL_count_8 (fun H locs hP hD hS => ?_)
  have hP : va_P (dC, dI) vwCl [(oq, .inl (co, 1, .inr (.inl (vp_updL fo (0 : Int32).toNatClampNeg 0)))), (h0, .inr (10, [.ref fq, .ref sq, .ref gq, .ref nq, .ref dq, .ref pq, .int 0, .int 0, .int 0])), (gq, .inr (4, [.int mc_gq, .ref tE, .int 0]))] H := hP
  have hD : va_D A [(oq, .inl (co, 1, .inr (.inl (vp_updL fo (0 : Int32).toNatClampNeg 0)))), (h0, .inr (10, [.ref fq, .ref sq, .ref gq, .ref nq, .ref dq, .ref pq, .int 0, .int 0, .int 0])), (gq, .inr (4, [.int mc_gq, .ref tE, .int 0]))] := hD
  refine lv_goto (tgt := 15) hx hb dL_count_9 (by decide) ?_
  refine lv_iconst (v := 0) hx hb dL_count_15 (by decide) ?_
  have hP9 := hP.sub (ws' := [(oq, .inl (co, 1, .inr (.inl (vp_updL fo (0 : Int32).toNatClampNeg 0)))), (h0, .inr (10, [.ref fq, .ref sq, .ref gq, .ref nq, .ref dq, .ref pq, .int 0, .int 0, .int 0])), (gq, .inr (4, [.int mc_gq, .ref tE, .int 0]))]) [0, 1, 2] rfl
  have hD9 := hD.sub (ws' := [(oq, .inl (co, 1, .inr (.inl (vp_updL fo (0 : Int32).toNatClampNeg 0)))), (h0, .inr (10, [.ref fq, .ref sq, .ref gq, .ref nq, .ref dq, .ref pq, .int 0, .int 0, .int 0])), (gq, .inr (4, [.int mc_gq, .ref tE, .int 0]))]) [0, 1, 2] (by decide) rfl
  have hK9 := hK.sub (tys' := [(co, .long)]) [0] rfl
  exact W.iret (v := 0) hx hb hr (fun t ht hW => ⟨⟨0, (), rfl, rfl, by rw [ht]; exact hP9, va_K.moved hW.alike hK9, hD9⟩, hS.F ht⟩) hS.2.2 dL_count_16
def v_w_count_3 : List Cond := .codeWith yL_count cL_count 4 (some .int) [(0, 9, 12, 21)] :: ([Cond.code yX5_count cX5_count 2 (some .int), Cond.code yX5_guestsAtHome cX5_guestsAtHome 3 (some .int), Cond.fieldLink RX5 19 "HotelOfBells" "guests" "Ljava/util/ArrayList;", Cond.code yJx4a65c_size_8abf5 cJx4a65c_size_8abf5 1 (some .int), Cond.fieldLink RJx4a65c 48 "java/util/ArrayList" "size" "I", Cond.methodLink RX5 49 yJx4a65c_size_8abf5, Cond.instanceMethod yJx4a65c_size_8abf5, Cond.selects RJx4a65c yJx4a65c_size_8abf5 yJx4a65c_size_8abf5, Cond.initialized RJx4a65c, Cond.methodLink RX5 194 yX5_guestsAtHome, Cond.instanceMethod yX5_guestsAtHome, Cond.selects RX5 yX5_guestsAtHome yX5_guestsAtHome, Cond.initialized RX5, Cond.methodLink RL 50 yX5_count, Cond.instanceMethod yX5_count, Cond.selects RX5 yX5_count yX5_count] ++ (wsX50 ++ (wsJx4a65c0 ++ [])))
theorem u_w_count_3_X5 : ∀ w ∈ wsX50, w ∈ v_w_count_3 := fun _ h => List.mem_cons_of_mem _ (List.mem_append_right _ (List.mem_append_left _ h))
theorem u_w_count_3_Jx4a65c : ∀ w ∈ wsJx4a65c0, w ∈ v_w_count_3 := fun _ h => List.mem_cons_of_mem _ (List.mem_append_right _ (List.mem_append_right _ (List.mem_append_left _ h)))
theorem gg_w_count_3_c_count_3 : GoodIn v_w_count_3 v_c_count_3 := goodIn_r _ [1, 2, 3, 4, 5, 6, 7, 8, 9, 10, 11, 12, 13, 17, 18, 19, 20, 21, 22, 23, 24, 25, 26, 27, 28] (by rfl) (by decide +kernel)
set_option maxHeartbeats 4000000 in
set_option maxRecDepth 100000 in
theorem w_count_3 (l : Launch) (hl9 : l.stackTraces = false) (dC : Nat → ClassId) (dI : Nat → Nat → Nat) (tE : Nat) (h0 : Nat) (fq : Nat) (sq : Nat) (gq : Nat) (nq : Nat) (dq : Nat) (pq : Nat) (mc_gq : Int32) (oq : Nat) (co : ClassId) (fo : Nat → Int64) (sz : Nat) : Met l yL_count v_w_count_3 ({ frames := 3, cells := 0, slots := 0, locals := 63 }) (va_Pc [.ref h0, .int 3, .ref oq] (Pre0 dC dI tE sz [(co, .long)] [(h0, .inr (10, [.ref fq, .ref sq, .ref gq, .ref nq, .ref dq, .ref pq, .int 0, .int 0, .int 0])), (gq, .inr (4, [.int mc_gq, .ref tE, .int 0])), (oq, .inl (co, 1, .inr (.inl fo)))])) (va_Qi (fun (r : Int32) (_ : Unit) => r = 0) (fun _ t => Pst dC dI [(co, .long)] (va_A [(h0, .inr (10, [.ref fq, .ref sq, .ref gq, .ref nq, .ref dq, .ref pq, .int 0, .int 0, .int 0])), (gq, .inr (4, [.int mc_gq, .ref tE, .int 0])), (oq, .inl (co, 1, .inr (.inl fo)))] sz) [(oq, .inl (co, 1, .inr (.inl (vp_updL fo (0 : Int32).toNatClampNeg 0)))), (h0, .inr (10, [.ref fq, .ref sq, .ref gq, .ref nq, .ref dq, .ref pq, .int 0, .int 0, .int 0])), (gq, .inr (4, [.int mc_gq, .ref tE, .int 0]))] t) (va_A [(h0, .inr (10, [.ref fq, .ref sq, .ref gq, .ref nq, .ref dq, .ref pq, .int 0, .int 0, .int 0])), (gq, .inr (4, [.int mc_gq, .ref tE, .int 0])), (oq, .inl (co, 1, .inr (.inl fo)))] sz)) 0 0 (va_A [(h0, .inr (10, [.ref fq, .ref sq, .ref gq, .ref nq, .ref dq, .ref pq, .int 0, .int 0, .int 0])), (gq, .inr (4, [.int mc_gq, .ref tE, .int 0])), (oq, .inl (co, 1, .inr (.inl fo)))] sz) := by
  refine va_MetW (cc := cL_count) (maxL := 4) (ret := (some .int)) (by decide) rfl ?_
  intro p e s m args below meth c s₁ B hml hv
  obtain ⟨rfl, hsz, hP, hK, hD0, hT⟩ := hv
  have hx := B.exec
  have hb := B.bytes
  have hr := B.returns
  have hts := atoms_spec (ws := v_w_count_3) B.pre
  have hown : s.vm.findClass RL = some m.cls := findClass_of_methodNamed B.named
  have hlocks := B.notSynchronized
  have hTab : c.exceptionTable.toList = tableOf [(0, 9, 12, 21)] := vx_table (x := yL_count) B (hts (.codeWith yL_count cL_count 4 (some .int) [(0, 9, 12, 21)]) (List.mem_of_getElem? (i := 0) rfl))
  subst hsz
  have hD := hD0.self (sz := s.heap.size)
  generalize hAe : va_A [(h0, .inr (10, [.ref fq, .ref sq, .ref gq, .ref nq, .ref dq, .ref pq, .int 0, .int 0, .int 0])), (gq, .inr (4, [.int mc_gq, .ref tE, .int 0])), (oq, .inl (co, 1, .inr (.inl fo)))] s.heap.size = A at hD hT ⊢
  have hA : ∀ q : Nat, s.heap.size ≤ q → A q := fun q h => by rw [← hAe]; exact Or.inr h
  have hS : va_S A s.heap s.heap [] := va_S.rf
  have hl := lv_entry ([.ref h0, .int 3, .ref oq]) (n := 4) (Nat.le_of_ble_eq_true rfl)
  rw [lg_entry_eq]
  generalize (lg_sl ([.ref h0, .int 3, .ref oq]) ++ List.replicate (4 - (lg_sl ([.ref h0, .int 3, .ref oq])).length) Slot.unset).toArray = ls at hl ⊢
  have hl : lv_has ls 4 [(0, .ref h0), (1, .int 3), (2, .ref oq)] := hl
  refine lv_aload_n hx hb dL_count_0 rfl (lv_at hl 2 rfl) ?_
  refine lv_iconst (v := 0) hx hb dL_count_1 (by decide) ?_
  refine lv_aload_n hx hb dL_count_2 rfl (lv_at hl 0 rfl) ?_
  refine lv_iload_n hx hb dL_count_3 rfl (lv_at hl 1 rfl) ?_
  have hPc := hP.sub (ws' := [(h0, .inr (10, [.ref fq, .ref sq, .ref gq, .ref nq, .ref dq, .ref pq, .int 0, .int 0, .int 0])), (gq, .inr (4, [.int mc_gq, .ref tE, .int 0]))]) [0, 1] rfl
  have hDc := hD.sub (ws' := [(h0, .inr (10, [.ref fq, .ref sq, .ref gq, .ref nq, .ref dq, .ref pq, .int 0, .int 0, .int 0])), (gq, .inr (4, [.int mc_gq, .ref tE, .int 0]))]) [0, 1] (by decide) rfl
  have hKc := hK.sub (tys' := []) [] rfl
  have hFc := va_free (wc := [(h0, .inr (10, [.ref fq, .ref sq, .ref gq, .ref nq, .ref dq, .ref pq, .int 0, .int 0, .int 0])), (gq, .inr (4, [.int mc_gq, .ref tE, .int 0]))]) hD hS hA [0, 1] rfl
  refine va_calli (va_runV (As := [.int 3]) (rest := [.int 0, .ref oq]) ⟨hx, hb, hml, hown, hts⟩ (c_count_3 l hl9 dC dI tE h0 fq sq gq nq dq pq mc_gq _ ) (cwV 1 hts (goodIn_app (goodIn_r _ [14, 15, 16, 13] (by rfl) (by decide +kernel)) gg_w_count_3_c_count_3) rfl rfl rfl (by decide +kernel) ⟨Nat.le_of_ble_eq_true rfl, Nat.le_of_ble_eq_true rfl⟩) ⟨Pre0.blind, va_recv hKc hPc (ci := 10) (q0 := 0) rfl rfl, Pre0.give hPc hKc hDc hT hS hFc⟩ rfl rfl hl.1 rfl (lv_room (Nat.le_of_ble_eq_true rfl)) dL_count_4 ⟨Nat.le_of_ble_eq_true rfl, Nat.le_of_ble_eq_true rfl⟩) hS (fun q _ h => hFc q h) hFc (fun r_1 u t H1 locs ht hvm hw hB hz1 hk1 hS => ?_)
  obtain ⟨hP1, hK1, hD1⟩ := hB
  rw [ht] at hP1
  have hK1 := va_K.moved hvm.symm hK1
  obtain ⟨hP, hD⟩ := va_join (wr := [(oq, .inl (co, 1, .inr (.inl fo)))]) (w1 := [(h0, .inr (10, [.ref fq, .ref sq, .ref gq, .ref nq, .ref dq, .ref pq, .int 0, .int 0, .int 0])), (gq, .inr (4, [.int mc_gq, .ref tE, .int 0]))]) hP hD [0, 1] [2] rfl rfl (by decide) (by decide) hk1 hFc hP1 hD1
  generalize H1 = H at hP hS ⊢
  have hP : va_P (dC, dI) vwCl [(oq, .inl (co, 1, .inr (.inl fo))), (h0, .inr (10, [.ref fq, .ref sq, .ref gq, .ref nq, .ref dq, .ref pq, .int 0, .int 0, .int 0])), (gq, .inr (4, [.int mc_gq, .ref tE, .int 0]))] H := hP
  have hD : va_D A [(oq, .inl (co, 1, .inr (.inl fo))), (h0, .inr (10, [.ref fq, .ref sq, .ref gq, .ref nq, .ref dq, .ref pq, .int 0, .int 0, .int 0])), (gq, .inr (4, [.int mc_gq, .ref tE, .int 0]))] := hD
  refine W.widen (k := 0) (n := 0) (by omega) (by omega) ?_
  obtain rfl : r_1 = 0 := hw
  refine lv_i2l (v := 0) hx hb dL_count_7 (by decide) ?_
  refine va_last hx hb hK hP hD hS 0 0 rfl rfl (by unfold vp_in; decide) dL_count_8 (fun H locs hP hD hS => ?_)
  have hP : va_P (dC, dI) vwCl [(oq, .inl (co, 1, .inr (.inl (vp_updL fo (0 : Int32).toNatClampNeg 0)))), (h0, .inr (10, [.ref fq, .ref sq, .ref gq, .ref nq, .ref dq, .ref pq, .int 0, .int 0, .int 0])), (gq, .inr (4, [.int mc_gq, .ref tE, .int 0]))] H := hP
  have hD : va_D A [(oq, .inl (co, 1, .inr (.inl (vp_updL fo (0 : Int32).toNatClampNeg 0)))), (h0, .inr (10, [.ref fq, .ref sq, .ref gq, .ref nq, .ref dq, .ref pq, .int 0, .int 0, .int 0])), (gq, .inr (4, [.int mc_gq, .ref tE, .int 0]))] := hD
  refine lv_goto (tgt := 15) hx hb dL_count_9 (by decide) ?_
  refine lv_iconst (v := 0) hx hb dL_count_15 (by decide) ?_
  have hP9 := hP.sub (ws' := [(oq, .inl (co, 1, .inr (.inl (vp_updL fo (0 : Int32).toNatClampNeg 0)))), (h0, .inr (10, [.ref fq, .ref sq, .ref gq, .ref nq, .ref dq, .ref pq, .int 0, .int 0, .int 0])), (gq, .inr (4, [.int mc_gq, .ref tE, .int 0]))]) [0, 1, 2] rfl
  have hD9 := hD.sub (ws' := [(oq, .inl (co, 1, .inr (.inl (vp_updL fo (0 : Int32).toNatClampNeg 0)))), (h0, .inr (10, [.ref fq, .ref sq, .ref gq, .ref nq, .ref dq, .ref pq, .int 0, .int 0, .int 0])), (gq, .inr (4, [.int mc_gq, .ref tE, .int 0]))]) [0, 1, 2] (by decide) rfl
  have hK9 := hK.sub (tys' := [(co, .long)]) [0] rfl
  exact W.iret (v := 0) hx hb hr (fun t ht hW => ⟨⟨0, (), rfl, rfl, by rw [ht]; exact hP9, va_K.moved hW.alike hK9, hD9⟩, hS.F ht⟩) hS.2.2 dL_count_16
def v_w_count_4 : List Cond := .codeWith yL_count cL_count 4 (some .int) [(0, 9, 12, 21)] :: ([Cond.code yX5_count cX5_count 2 (some .int), Cond.code yX5_guestsRiding cX5_guestsRiding 1 (some .int), Cond.fieldLink RX5 19 "HotelOfBells" "guests" "Ljava/util/ArrayList;", Cond.code yJx4a65c_size_8abf5 cJx4a65c_size_8abf5 1 (some .int), Cond.fieldLink RJx4a65c 48 "java/util/ArrayList" "size" "I", Cond.methodLink RX5 49 yJx4a65c_size_8abf5, Cond.instanceMethod yJx4a65c_size_8abf5, Cond.selects RJx4a65c yJx4a65c_size_8abf5 yJx4a65c_size_8abf5, Cond.initialized RJx4a65c, Cond.code yX5_guestsIn cX5_guestsIn 4 (some .int), Cond.methodLink RX5 176 yX5_guestsIn, Cond.instanceMethod yX5_guestsIn, Cond.selects RX5 yX5_guestsIn yX5_guestsIn, Cond.initialized RX5, Cond.methodLink RX5 197 yX5_guestsRiding, Cond.instanceMethod yX5_guestsRiding, Cond.selects RX5 yX5_guestsRiding yX5_guestsRiding, Cond.methodLink RL 50 yX5_count, Cond.instanceMethod yX5_count, Cond.selects RX5 yX5_count yX5_count] ++ (wsX50 ++ (wsJx4a65c0 ++ [])))
theorem u_w_count_4_X5 : ∀ w ∈ wsX50, w ∈ v_w_count_4 := fun _ h => List.mem_cons_of_mem _ (List.mem_append_right _ (List.mem_append_left _ h))
theorem u_w_count_4_Jx4a65c : ∀ w ∈ wsJx4a65c0, w ∈ v_w_count_4 := fun _ h => List.mem_cons_of_mem _ (List.mem_append_right _ (List.mem_append_right _ (List.mem_append_left _ h)))
theorem gg_w_count_4_c_count_4 : GoodIn v_w_count_4 v_c_count_4 := goodIn_r _ [1, 2, 3, 4, 5, 6, 7, 8, 9, 10, 11, 12, 13, 14, 15, 16, 17, 21, 22, 23, 24, 25, 26, 27, 28, 29, 30, 31, 32] (by rfl) (by decide +kernel)
set_option maxHeartbeats 4000000 in
set_option maxRecDepth 100000 in
theorem w_count_4 (l : Launch) (hl9 : l.stackTraces = false) (dC : Nat → ClassId) (dI : Nat → Nat → Nat) (tE : Nat) (h0 : Nat) (fq : Nat) (sq : Nat) (gq : Nat) (nq : Nat) (dq : Nat) (pq : Nat) (mc_gq : Int32) (oq : Nat) (co : ClassId) (fo : Nat → Int64) (sz : Nat) : Met l yL_count v_w_count_4 ({ frames := 4, cells := 0, slots := 0, locals := 84 }) (va_Pc [.ref h0, .int 4, .ref oq] (Pre0 dC dI tE sz [(co, .long)] [(h0, .inr (10, [.ref fq, .ref sq, .ref gq, .ref nq, .ref dq, .ref pq, .int 0, .int 0, .int 0])), (gq, .inr (4, [.int mc_gq, .ref tE, .int 0])), (oq, .inl (co, 1, .inr (.inl fo)))])) (va_Qi (fun (r : Int32) (_ : Unit) => r = 0) (fun _ t => Pst dC dI [(co, .long)] (va_A [(h0, .inr (10, [.ref fq, .ref sq, .ref gq, .ref nq, .ref dq, .ref pq, .int 0, .int 0, .int 0])), (gq, .inr (4, [.int mc_gq, .ref tE, .int 0])), (oq, .inl (co, 1, .inr (.inl fo)))] sz) [(oq, .inl (co, 1, .inr (.inl (vp_updL fo (0 : Int32).toNatClampNeg 0)))), (h0, .inr (10, [.ref fq, .ref sq, .ref gq, .ref nq, .ref dq, .ref pq, .int 0, .int 0, .int 0])), (gq, .inr (4, [.int mc_gq, .ref tE, .int 0]))] t) (va_A [(h0, .inr (10, [.ref fq, .ref sq, .ref gq, .ref nq, .ref dq, .ref pq, .int 0, .int 0, .int 0])), (gq, .inr (4, [.int mc_gq, .ref tE, .int 0])), (oq, .inl (co, 1, .inr (.inl fo)))] sz)) 0 0 (va_A [(h0, .inr (10, [.ref fq, .ref sq, .ref gq, .ref nq, .ref dq, .ref pq, .int 0, .int 0, .int 0])), (gq, .inr (4, [.int mc_gq, .ref tE, .int 0])), (oq, .inl (co, 1, .inr (.inl fo)))] sz) := by
  refine va_MetW (cc := cL_count) (maxL := 4) (ret := (some .int)) (by decide) rfl ?_
  intro p e s m args below meth c s₁ B hml hv
  obtain ⟨rfl, hsz, hP, hK, hD0, hT⟩ := hv
  have hx := B.exec
  have hb := B.bytes
  have hr := B.returns
  have hts := atoms_spec (ws := v_w_count_4) B.pre
  have hown : s.vm.findClass RL = some m.cls := findClass_of_methodNamed B.named
  have hlocks := B.notSynchronized
  have hTab : c.exceptionTable.toList = tableOf [(0, 9, 12, 21)] := vx_table (x := yL_count) B (hts (.codeWith yL_count cL_count 4 (some .int) [(0, 9, 12, 21)]) (List.mem_of_getElem? (i := 0) rfl))
  subst hsz
  have hD := hD0.self (sz := s.heap.size)
  generalize hAe : va_A [(h0, .inr (10, [.ref fq, .ref sq, .ref gq, .ref nq, .ref dq, .ref pq, .int 0, .int 0, .int 0])), (gq, .inr (4, [.int mc_gq, .ref tE, .int 0])), (oq, .inl (co, 1, .inr (.inl fo)))] s.heap.size = A at hD hT ⊢
  have hA : ∀ q : Nat, s.heap.size ≤ q → A q := fun q h => by rw [← hAe]; exact Or.inr h
  have hS : va_S A s.heap s.heap [] := va_S.rf
  have hl := lv_entry ([.ref h0, .int 4, .ref oq]) (n := 4) (Nat.le_of_ble_eq_true rfl)
  rw [lg_entry_eq]
  generalize (lg_sl ([.ref h0, .int 4, .ref oq]) ++ List.replicate (4 - (lg_sl ([.ref h0, .int 4, .ref oq])).length) Slot.unset).toArray = ls at hl ⊢
  have hl : lv_has ls 4 [(0, .ref h0), (1, .int 4), (2, .ref oq)] := hl
  refine lv_aload_n hx hb dL_count_0 rfl (lv_at hl 2 rfl) ?_
  refine lv_iconst (v := 0) hx hb dL_count_1 (by decide) ?_
  refine lv_aload_n hx hb dL_count_2 rfl (lv_at hl 0 rfl) ?_
  refine lv_iload_n hx hb dL_count_3 rfl (lv_at hl 1 rfl) ?_
  have hPc := hP.sub (ws' := [(h0, .inr (10, [.ref fq, .ref sq, .ref gq, .ref nq, .ref dq, .ref pq, .int 0, .int 0, .int 0])), (gq, .inr (4, [.int mc_gq, .ref tE, .int 0]))]) [0, 1] rfl
  have hDc := hD.sub (ws' := [(h0, .inr (10, [.ref fq, .ref sq, .ref gq, .ref nq, .ref dq, .ref pq, .int 0, .int 0, .int 0])), (gq, .inr (4, [.int mc_gq, .ref tE, .int 0]))]) [0, 1] (by decide) rfl
  have hKc := hK.sub (tys' := []) [] rfl
  have hFc := va_free (wc := [(h0, .inr (10, [.ref fq, .ref sq, .ref gq, .ref nq, .ref dq, .ref pq, .int 0, .int 0, .int 0])), (gq, .inr (4, [.int mc_gq, .ref tE, .int 0]))]) hD hS hA [0, 1] rfl
  refine va_calli (va_runV (As := [.int 4]) (rest := [.int 0, .ref oq]) ⟨hx, hb, hml, hown, hts⟩ (c_count_4 l hl9 dC dI tE h0 fq sq gq nq dq pq mc_gq _ ) (cwV 1 hts (goodIn_app (goodIn_r _ [18, 19, 20, 14] (by rfl) (by decide +kernel)) gg_w_count_4_c_count_4) rfl rfl rfl (by decide +kernel) ⟨Nat.le_of_ble_eq_true rfl, Nat.le_of_ble_eq_true rfl⟩) ⟨Pre0.blind, va_recv hKc hPc (ci := 10) (q0 := 0) rfl rfl, Pre0.give hPc hKc hDc hT hS hFc⟩ rfl rfl hl.1 rfl (lv_room (Nat.le_of_ble_eq_true rfl)) dL_count_4 ⟨Nat.le_of_ble_eq_true rfl, Nat.le_of_ble_eq_true rfl⟩) hS (fun q _ h => hFc q h) hFc (fun r_1 u t H1 locs ht hvm hw hB hz1 hk1 hS => ?_)
  obtain ⟨hP1, hK1, hD1⟩ := hB
  rw [ht] at hP1
  have hK1 := va_K.moved hvm.symm hK1
  obtain ⟨hP, hD⟩ := va_join (wr := [(oq, .inl (co, 1, .inr (.inl fo)))]) (w1 := [(h0, .inr (10, [.ref fq, .ref sq, .ref gq, .ref nq, .ref dq, .ref pq, .int 0, .int 0, .int 0])), (gq, .inr (4, [.int mc_gq, .ref tE, .int 0]))]) hP hD [0, 1] [2] rfl rfl (by decide) (by decide) hk1 hFc hP1 hD1
  generalize H1 = H at hP hS ⊢
  have hP : va_P (dC, dI) vwCl [(oq, .inl (co, 1, .inr (.inl fo))), (h0, .inr (10, [.ref fq, .ref sq, .ref gq, .ref nq, .ref dq, .ref pq, .int 0, .int 0, .int 0])), (gq, .inr (4, [.int mc_gq, .ref tE, .int 0]))] H := hP
  have hD : va_D A [(oq, .inl (co, 1, .inr (.inl fo))), (h0, .inr (10, [.ref fq, .ref sq, .ref gq, .ref nq, .ref dq, .ref pq, .int 0, .int 0, .int 0])), (gq, .inr (4, [.int mc_gq, .ref tE, .int 0]))] := hD
  refine W.widen (k := 0) (n := 0) (by omega) (by omega) ?_
  obtain rfl : r_1 = 0 := hw
  refine lv_i2l (v := 0) hx hb dL_count_7 (by decide) ?_
  refine va_last hx hb hK hP hD hS 0 0 rfl rfl (by unfold vp_in; decide) dL_count_8 (fun H locs hP hD hS => ?_)
  have hP : va_P (dC, dI) vwCl [(oq, .inl (co, 1, .inr (.inl (vp_updL fo (0 : Int32).toNatClampNeg 0)))), (h0, .inr (10, [.ref fq, .ref sq, .ref gq, .ref nq, .ref dq, .ref pq, .int 0, .int 0, .int 0])), (gq, .inr (4, [.int mc_gq, .ref tE, .int 0]))] H := hP
  have hD : va_D A [(oq, .inl (co, 1, .inr (.inl (vp_updL fo (0 : Int32).toNatClampNeg 0)))), (h0, .inr (10, [.ref fq, .ref sq, .ref gq, .ref nq, .ref dq, .ref pq, .int 0, .int 0, .int 0])), (gq, .inr (4, [.int mc_gq, .ref tE, .int 0]))] := hD
  refine lv_goto (tgt := 15) hx hb dL_count_9 (by decide) ?_
  refine lv_iconst (v := 0) hx hb dL_count_15 (by decide) ?_
  have hP9 := hP.sub (ws' := [(oq, .inl (co, 1, .inr (.inl (vp_updL fo (0 : Int32).toNatClampNeg 0)))), (h0, .inr (10, [.ref fq, .ref sq, .ref gq, .ref nq, .ref dq, .ref pq, .int 0, .int 0, .int 0])), (gq, .inr (4, [.int mc_gq, .ref tE, .int 0]))]) [0, 1, 2] rfl
  have hD9 := hD.sub (ws' := [(oq, .inl (co, 1, .inr (.inl (vp_updL fo (0 : Int32).toNatClampNeg 0)))), (h0, .inr (10, [.ref fq, .ref sq, .ref gq, .ref nq, .ref dq, .ref pq, .int 0, .int 0, .int 0])), (gq, .inr (4, [.int mc_gq, .ref tE, .int 0]))]) [0, 1, 2] (by decide) rfl
  have hK9 := hK.sub (tys' := [(co, .long)]) [0] rfl
  exact W.iret (v := 0) hx hb hr (fun t ht hW => ⟨⟨0, (), rfl, rfl, by rw [ht]; exact hP9, va_K.moved hW.alike hK9, hD9⟩, hS.F ht⟩) hS.2.2 dL_count_16
def v_w_count_5 : List Cond := .codeWith yL_count cL_count 4 (some .int) [(0, 9, 12, 21)] :: ([Cond.code yX5_count cX5_count 2 (some .int), Cond.fieldLink RX5 200 "HotelOfBells" "bells" "I", Cond.methodLink RL 50 yX5_count, Cond.instanceMethod yX5_count, Cond.selects RX5 yX5_count yX5_count, Cond.initialized RX5] ++ (wsX50 ++ []))
theorem u_w_count_5_X5 : ∀ w ∈ wsX50, w ∈ v_w_count_5 := fun _ h => List.mem_cons_of_mem _ (List.mem_append_right _ (List.mem_append_left _ h))
theorem gg_w_count_5_c_count_5 : GoodIn v_w_count_5 v_c_count_5 := goodIn_r _ [1, 2, 7, 8, 9, 10, 11, 12, 13, 14, 15] (by rfl) (by decide +kernel)
set_option maxHeartbeats 4000000 in
set_option maxRecDepth 100000 in
theorem w_count_5 (l : Launch) (hl9 : l.stackTraces = false) (dC : Nat → ClassId) (dI : Nat → Nat → Nat) (tE : Nat) (h0 : Nat) (fq : Nat) (sq : Nat) (gq : Nat) (nq : Nat) (dq : Nat) (pq : Nat) (oq : Nat) (co : ClassId) (fo : Nat → Int64) (sz : Nat) : Met l yL_count v_w_count_5 ({ frames := 1, cells := 0, slots := 0, locals := 21 }) (va_Pc [.ref h0, .int 5, .ref oq] (Pre0 dC dI tE sz [(co, .long)] [(h0, .inr (10, [.ref fq, .ref sq, .ref gq, .ref nq, .ref dq, .ref pq, .int 0, .int 0, .int 0])), (oq, .inl (co, 1, .inr (.inl fo)))])) (va_Qi (fun (r : Int32) (_ : Unit) => r = 0) (fun _ t => Pst dC dI [(co, .long)] (va_A [(h0, .inr (10, [.ref fq, .ref sq, .ref gq, .ref nq, .ref dq, .ref pq, .int 0, .int 0, .int 0])), (oq, .inl (co, 1, .inr (.inl fo)))] sz) [(oq, .inl (co, 1, .inr (.inl (vp_updL fo (0 : Int32).toNatClampNeg 0)))), (h0, .inr (10, [.ref fq, .ref sq, .ref gq, .ref nq, .ref dq, .ref pq, .int 0, .int 0, .int 0]))] t) (va_A [(h0, .inr (10, [.ref fq, .ref sq, .ref gq, .ref nq, .ref dq, .ref pq, .int 0, .int 0, .int 0])), (oq, .inl (co, 1, .inr (.inl fo)))] sz)) 0 0 (va_A [(h0, .inr (10, [.ref fq, .ref sq, .ref gq, .ref nq, .ref dq, .ref pq, .int 0, .int 0, .int 0])), (oq, .inl (co, 1, .inr (.inl fo)))] sz) := by
  refine va_MetW (cc := cL_count) (maxL := 4) (ret := (some .int)) (by decide) rfl ?_
  intro p e s m args below meth c s₁ B hml hv
  obtain ⟨rfl, hsz, hP, hK, hD0, hT⟩ := hv
  have hx := B.exec
  have hb := B.bytes
  have hr := B.returns
  have hts := atoms_spec (ws := v_w_count_5) B.pre
  have hown : s.vm.findClass RL = some m.cls := findClass_of_methodNamed B.named
  have hlocks := B.notSynchronized
  have hTab : c.exceptionTable.toList = tableOf [(0, 9, 12, 21)] := vx_table (x := yL_count) B (hts (.codeWith yL_count cL_count 4 (some .int) [(0, 9, 12, 21)]) (List.mem_of_getElem? (i := 0) rfl))
  subst hsz
  have hD := hD0.self (sz := s.heap.size)
  generalize hAe : va_A [(h0, .inr (10, [.ref fq, .ref sq, .ref gq, .ref nq, .ref dq, .ref pq, .int 0, .int 0, .int 0])), (oq, .inl (co, 1, .inr (.inl fo)))] s.heap.size = A at hD hT ⊢
  have hA : ∀ q : Nat, s.heap.size ≤ q → A q := fun q h => by rw [← hAe]; exact Or.inr h
  have hS : va_S A s.heap s.heap [] := va_S.rf
  have hl := lv_entry ([.ref h0, .int 5, .ref oq]) (n := 4) (Nat.le_of_ble_eq_true rfl)
  rw [lg_entry_eq]
  generalize (lg_sl ([.ref h0, .int 5, .ref oq]) ++ List.replicate (4 - (lg_sl ([.ref h0, .int 5, .ref oq])).length) Slot.unset).toArray = ls at hl ⊢
  have hl : lv_has ls 4 [(0, .ref h0), (1, .int 5), (2, .ref oq)] := hl
  refine lv_aload_n hx hb dL_count_0 rfl (lv_at hl 2 rfl) ?_
  refine lv_iconst (v := 0) hx hb dL_count_1 (by decide) ?_
  refine lv_aload_n hx hb dL_count_2 rfl (lv_at hl 0 rfl) ?_
  refine lv_iload_n hx hb dL_count_3 rfl (lv_at hl 1 rfl) ?_
  have hPc := hP.sub (ws' := [(h0, .inr (10, [.ref fq, .ref sq, .ref gq, .ref nq, .ref dq, .ref pq, .int 0, .int 0, .int 0]))]) [0] rfl
  have hDc := hD.sub (ws' := [(h0, .inr (10, [.ref fq, .ref sq, .ref gq, .ref nq, .ref dq, .ref pq, .int 0, .int 0, .int 0]))]) [0] (by decide) rfl
  have hKc := hK.sub (tys' := []) [] rfl
  have hFc := va_free (wc := [(h0, .inr (10, [.ref fq, .ref sq, .ref gq, .ref nq, .ref dq, .ref pq, .int 0, .int 0, .int 0]))]) hD hS hA [0] rfl
  refine va_calli (va_runV (As := [.int 5]) (rest := [.int 0, .ref oq]) ⟨hx, hb, hml, hown, hts⟩ (c_count_5 l hl9 dC dI tE h0 fq sq gq nq dq pq _ ) (cwV 1 hts (goodIn_app (goodIn_r _ [3, 4, 5, 6] (by rfl) (by decide +kernel)) gg_w_count_5_c_count_5) rfl rfl rfl (by decide +kernel) ⟨Nat.le_of_ble_eq_true rfl, Nat.le_of_ble_eq_true rfl⟩) ⟨Pre0.blind, va_recv hKc hPc (ci := 10) (q0 := 0) rfl rfl, Pre0.give hPc hKc hDc hT hS hFc⟩ rfl rfl hl.1 rfl (lv_room (Nat.le_of_ble_eq_true rfl)) dL_count_4 ⟨Nat.le_of_ble_eq_true rfl, Nat.le_of_ble_eq_true rfl⟩) hS (fun q _ h => hFc q h) hFc (fun r_1 u t H1 locs ht hvm hw hB hz1 hk1 hS => ?_)
  obtain ⟨hP1, hK1, hD1⟩ := hB
  rw [ht] at hP1
  have hK1 := va_K.moved hvm.symm hK1
  obtain ⟨hP, hD⟩ := va_join (wr := [(oq, .inl (co, 1, .inr (.inl fo)))]) (w1 := [(h0, .inr (10, [.ref fq, .ref sq, .ref gq, .ref nq, .ref dq, .ref pq, .int 0, .int 0, .int 0]))]) hP hD [0] [1] rfl rfl (by decide) (by decide) hk1 hFc hP1 hD1
  generalize H1 = H at hP hS ⊢
  have hP : va_P (dC, dI) vwCl [(oq, .inl (co, 1, .inr (.inl fo))), (h0, .inr (10, [.ref fq, .ref sq, .ref gq, .ref nq, .ref dq, .ref pq, .int 0, .int 0, .int 0]))] H := hP
  have hD : va_D A [(oq, .inl (co, 1, .inr (.inl fo))), (h0, .inr (10, [.ref fq, .ref sq, .ref gq, .ref nq, .ref dq, .ref pq, .int 0, .int 0, .int 0]))] := hD
  refine W.widen (k := 0) (n := 0) (by omega) (by omega) ?_
  obtain rfl : r_1 = 0 := hw
  refine lv_i2l (v := 0) hx hb dL_count_7 (by decide) ?_
  refine va_last hx hb hK hP hD hS 0 0 rfl rfl (by unfold vp_in; decide) dL_count_8 (fun H locs hP hD hS => ?_)
  have hP : va_P (dC, dI) vwCl [(oq, .inl (co, 1, .inr (.inl (vp_updL fo (0 : Int32).toNatClampNeg 0)))), (h0, .inr (10, [.ref fq, .ref sq, .ref gq, .ref nq, .ref dq, .ref pq, .int 0, .int 0, .int 0]))] H := hP
  have hD : va_D A [(oq, .inl (co, 1, .inr (.inl (vp_updL fo (0 : Int32).toNatClampNeg 0)))), (h0, .inr (10, [.ref fq, .ref sq, .ref gq, .ref nq, .ref dq, .ref pq, .int 0, .int 0, .int 0]))] := hD
  refine lv_goto (tgt := 15) hx hb dL_count_9 (by decide) ?_
  refine lv_iconst (v := 0) hx hb dL_count_15 (by decide) ?_
  have hP9 := hP.sub (ws' := [(oq, .inl (co, 1, .inr (.inl (vp_updL fo (0 : Int32).toNatClampNeg 0)))), (h0, .inr (10, [.ref fq, .ref sq, .ref gq, .ref nq, .ref dq, .ref pq, .int 0, .int 0, .int 0]))]) [0, 1] rfl
  have hD9 := hD.sub (ws' := [(oq, .inl (co, 1, .inr (.inl (vp_updL fo (0 : Int32).toNatClampNeg 0)))), (h0, .inr (10, [.ref fq, .ref sq, .ref gq, .ref nq, .ref dq, .ref pq, .int 0, .int 0, .int 0]))]) [0, 1] (by decide) rfl
  have hK9 := hK.sub (tys' := [(co, .long)]) [0] rfl
  exact W.iret (v := 0) hx hb hr (fun t ht hW => ⟨⟨0, (), rfl, rfl, by rw [ht]; exact hP9, va_K.moved hW.alike hK9, hD9⟩, hS.F ht⟩) hS.2.2 dL_count_16
def v_w_count_6 : List Cond := .codeWith yL_count cL_count 4 (some .int) [(0, 9, 12, 21)] :: ([Cond.code yX5_count cX5_count 2 (some .int), Cond.fieldLink RX5 203 "HotelOfBells" "turnsByBells" "I", Cond.methodLink RL 50 yX5_count, Cond.instanceMethod yX5_count, Cond.selects RX5 yX5_count yX5_count, Cond.initialized RX5] ++ (wsX50 ++ []))
theorem u_w_count_6_X5 : ∀ w ∈ wsX50, w ∈ v_w_count_6 := fun _ h => List.mem_cons_of_mem _ (List.mem_append_right _ (List.mem_append_left _ h))
theorem gg_w_count_6_c_count_6 : GoodIn v_w_count_6 v_c_count_6 := goodIn_r _ [1, 2, 7, 8, 9, 10, 11, 12, 13, 14, 15] (by rfl) (by decide +kernel)
set_option maxHeartbeats 4000000 in
set_option maxRecDepth 100000 in
theorem w_count_6 (l : Launch) (hl9 : l.stackTraces = false) (dC : Nat → ClassId) (dI : Nat → Nat → Nat) (tE : Nat) (h0 : Nat) (fq : Nat) (sq : Nat) (gq : Nat) (nq : Nat) (dq : Nat) (pq : Nat) (oq : Nat) (co : ClassId) (fo : Nat → Int64) (sz : Nat) : Met l yL_count v_w_count_6 ({ frames := 1, cells := 0, slots := 0, locals := 21 }) (va_Pc [.ref h0, .int 6, .ref oq] (Pre0 dC dI tE sz [(co, .long)] [(h0, .inr (10, [.ref fq, .ref sq, .ref gq, .ref nq, .ref dq, .ref pq, .int 0, .int 0, .int 0])), (oq, .inl (co, 1, .inr (.inl fo)))])) (va_Qi (fun (r : Int32) (_ : Unit) => r = 0) (fun _ t => Pst dC dI [(co, .long)] (va_A [(h0, .inr (10, [.ref fq, .ref sq, .ref gq, .ref nq, .ref dq, .ref pq, .int 0, .int 0, .int 0])), (oq, .inl (co, 1, .inr (.inl fo)))] sz) [(oq, .inl (co, 1, .inr (.inl (vp_updL fo (0 : Int32).toNatClampNeg 0)))), (h0, .inr (10, [.ref fq, .ref sq, .ref gq, .ref nq, .ref dq, .ref pq, .int 0, .int 0, .int 0]))] t) (va_A [(h0, .inr (10, [.ref fq, .ref sq, .ref gq, .ref nq, .ref dq, .ref pq, .int 0, .int 0, .int 0])), (oq, .inl (co, 1, .inr (.inl fo)))] sz)) 0 0 (va_A [(h0, .inr (10, [.ref fq, .ref sq, .ref gq, .ref nq, .ref dq, .ref pq, .int 0, .int 0, .int 0])), (oq, .inl (co, 1, .inr (.inl fo)))] sz) := by
  refine va_MetW (cc := cL_count) (maxL := 4) (ret := (some .int)) (by decide) rfl ?_
  intro p e s m args below meth c s₁ B hml hv
  obtain ⟨rfl, hsz, hP, hK, hD0, hT⟩ := hv
  have hx := B.exec
  have hb := B.bytes
  have hr := B.returns
  have hts := atoms_spec (ws := v_w_count_6) B.pre
  have hown : s.vm.findClass RL = some m.cls := findClass_of_methodNamed B.named
  have hlocks := B.notSynchronized
  have hTab : c.exceptionTable.toList = tableOf [(0, 9, 12, 21)] := vx_table (x := yL_count) B (hts (.codeWith yL_count cL_count 4 (some .int) [(0, 9, 12, 21)]) (List.mem_of_getElem? (i := 0) rfl))
  subst hsz
  have hD := hD0.self (sz := s.heap.size)
  generalize hAe : va_A [(h0, .inr (10, [.ref fq, .ref sq, .ref gq, .ref nq, .ref dq, .ref pq, .int 0, .int 0, .int 0])), (oq, .inl (co, 1, .inr (.inl fo)))] s.heap.size = A at hD hT ⊢
  have hA : ∀ q : Nat, s.heap.size ≤ q → A q := fun q h => by rw [← hAe]; exact Or.inr h
  have hS : va_S A s.heap s.heap [] := va_S.rf
  have hl := lv_entry ([.ref h0, .int 6, .ref oq]) (n := 4) (Nat.le_of_ble_eq_true rfl)
  rw [lg_entry_eq]
  generalize (lg_sl ([.ref h0, .int 6, .ref oq]) ++ List.replicate (4 - (lg_sl ([.ref h0, .int 6, .ref oq])).length) Slot.unset).toArray = ls at hl ⊢
  have hl : lv_has ls 4 [(0, .ref h0), (1, .int 6), (2, .ref oq)] := hl
  refine lv_aload_n hx hb dL_count_0 rfl (lv_at hl 2 rfl) ?_
  refine lv_iconst (v := 0) hx hb dL_count_1 (by decide) ?_
  refine lv_aload_n hx hb dL_count_2 rfl (lv_at hl 0 rfl) ?_
  refine lv_iload_n hx hb dL_count_3 rfl (lv_at hl 1 rfl) ?_
  have hPc := hP.sub (ws' := [(h0, .inr (10, [.ref fq, .ref sq, .ref gq, .ref nq, .ref dq, .ref pq, .int 0, .int 0, .int 0]))]) [0] rfl
  have hDc := hD.sub (ws' := [(h0, .inr (10, [.ref fq, .ref sq, .ref gq, .ref nq, .ref dq, .ref pq, .int 0, .int 0, .int 0]))]) [0] (by decide) rfl
  have hKc := hK.sub (tys' := []) [] rfl
  have hFc := va_free (wc := [(h0, .inr (10, [.ref fq, .ref sq, .ref gq, .ref nq, .ref dq, .ref pq, .int 0, .int 0, .int 0]))]) hD hS hA [0] rfl
  refine va_calli (va_runV (As := [.int 6]) (rest := [.int 0, .ref oq]) ⟨hx, hb, hml, hown, hts⟩ (c_count_6 l hl9 dC dI tE h0 fq sq gq nq dq pq _ ) (cwV 1 hts (goodIn_app (goodIn_r _ [3, 4, 5, 6] (by rfl) (by decide +kernel)) gg_w_count_6_c_count_6) rfl rfl rfl (by decide +kernel) ⟨Nat.le_of_ble_eq_true rfl, Nat.le_of_ble_eq_true rfl⟩) ⟨Pre0.blind, va_recv hKc hPc (ci := 10) (q0 := 0) rfl rfl, Pre0.give hPc hKc hDc hT hS hFc⟩ rfl rfl hl.1 rfl (lv_room (Nat.le_of_ble_eq_true rfl)) dL_count_4 ⟨Nat.le_of_ble_eq_true rfl, Nat.le_of_ble_eq_true rfl⟩) hS (fun q _ h => hFc q h) hFc (fun r_1 u t H1 locs ht hvm hw hB hz1 hk1 hS => ?_)
  obtain ⟨hP1, hK1, hD1⟩ := hB
  rw [ht] at hP1
  have hK1 := va_K.moved hvm.symm hK1
  obtain ⟨hP, hD⟩ := va_join (wr := [(oq, .inl (co, 1, .inr (.inl fo)))]) (w1 := [(h0, .inr (10, [.ref fq, .ref sq, .ref gq, .ref nq, .ref dq, .ref pq, .int 0, .int 0, .int 0]))]) hP hD [0] [1] rfl rfl (by decide) (by decide) hk1 hFc hP1 hD1
  generalize H1 = H at hP hS ⊢
  have hP : va_P (dC, dI) vwCl [(oq, .inl (co, 1, .inr (.inl fo))), (h0, .inr (10, [.ref fq, .ref sq, .ref gq, .ref nq, .ref dq, .ref pq, .int 0, .int 0, .int 0]))] H := hP
  have hD : va_D A [(oq, .inl (co, 1, .inr (.inl fo))), (h0, .inr (10, [.ref fq, .ref sq, .ref gq, .ref nq, .ref dq, .ref pq, .int 0, .int 0, .int 0]))] := hD
  refine W.widen (k := 0) (n := 0) (by omega) (by omega) ?_
  obtain rfl : r_1 = 0 := hw
  refine lv_i2l (v := 0) hx hb dL_count_7 (by decide) ?_
  refine va_last hx hb hK hP hD hS 0 0 rfl rfl (by unfold vp_in; decide) dL_count_8 (fun H locs hP hD hS => ?_)
  have hP : va_P (dC, dI) vwCl [(oq, .inl (co, 1, .inr (.inl (vp_updL fo (0 : Int32).toNatClampNeg 0)))), (h0, .inr (10, [.ref fq, .ref sq, .ref gq, .ref nq, .ref dq, .ref pq, .int 0, .int 0, .int 0]))] H := hP
  have hD : va_D A [(oq, .inl (co, 1, .inr (.inl (vp_updL fo (0 : Int32).toNatClampNeg 0)))), (h0, .inr (10, [.ref fq, .ref sq, .ref gq, .ref nq, .ref dq, .ref pq, .int 0, .int 0, .int 0]))] := hD
  refine lv_goto (tgt := 15) hx hb dL_count_9 (by decide) ?_
  refine lv_iconst (v := 0) hx hb dL_count_15 (by decide) ?_
  have hP9 := hP.sub (ws' := [(oq, .inl (co, 1, .inr (.inl (vp_updL fo (0 : Int32).toNatClampNeg 0)))), (h0, .inr (10, [.ref fq, .ref sq, .ref gq, .ref nq, .ref dq, .ref pq, .int 0, .int 0, .int 0]))]) [0, 1] rfl
  have hD9 := hD.sub (ws' := [(oq, .inl (co, 1, .inr (.inl (vp_updL fo (0 : Int32).toNatClampNeg 0)))), (h0, .inr (10, [.ref fq, .ref sq, .ref gq, .ref nq, .ref dq, .ref pq, .int 0, .int 0, .int 0]))]) [0, 1] (by decide) rfl
  have hK9 := hK.sub (tys' := [(co, .long)]) [0] rfl
  exact W.iret (v := 0) hx hb hr (fun t ht hW => ⟨⟨0, (), rfl, rfl, by rw [ht]; exact hP9, va_K.moved hW.alike hK9, hD9⟩, hS.F ht⟩) hS.2.2 dL_count_16
def v_w_count_7 : List Cond := .codeWith yL_count cL_count 4 (some .int) [(0, 9, 12, 21)] :: ([Cond.code yX5_count cX5_count 2 (some .int), Cond.fieldLink RX5 206 "HotelOfBells" "paperLength" "I", Cond.methodLink RL 50 yX5_count, Cond.instanceMethod yX5_count, Cond.selects RX5 yX5_count yX5_count, Cond.initialized RX5] ++ (wsX50 ++ []))
theorem u_w_count_7_X5 : ∀ w ∈ wsX50, w ∈ v_w_count_7 := fun _ h => List.mem_cons_of_mem _ (List.mem_append_right _ (List.mem_append_left _ h))
theorem gg_w_count_7_c_count_7 : GoodIn v_w_count_7 v_c_count_7 := goodIn_r _ [1, 2, 7, 8, 9, 10, 11, 12, 13, 14, 15] (by rfl) (by decide +kernel)
set_option maxHeartbeats 4000000 in
set_option maxRecDepth 100000 in
theorem w_count_7 (l : Launch) (hl9 : l.stackTraces = false) (dC : Nat → ClassId) (dI : Nat → Nat → Nat) (tE : Nat) (h0 : Nat) (fq : Nat) (sq : Nat) (gq : Nat) (nq : Nat) (dq : Nat) (pq : Nat) (oq : Nat) (co : ClassId) (fo : Nat → Int64) (sz : Nat) : Met l yL_count v_w_count_7 ({ frames := 1, cells := 0, slots := 0, locals := 21 }) (va_Pc [.ref h0, .int 7, .ref oq] (Pre0 dC dI tE sz [(co, .long)] [(h0, .inr (10, [.ref fq, .ref sq, .ref gq, .ref nq, .ref dq, .ref pq, .int 0, .int 0, .int 0])), (oq, .inl (co, 1, .inr (.inl fo)))])) (va_Qi (fun (r : Int32) (_ : Unit) => r = 0) (fun _ t => Pst dC dI [(co, .long)] (va_A [(h0, .inr (10, [.ref fq, .ref sq, .ref gq, .ref nq, .ref dq, .ref pq, .int 0, .int 0, .int 0])), (oq, .inl (co, 1, .inr (.inl fo)))] sz) [(oq, .inl (co, 1, .inr (.inl (vp_updL fo (0 : Int32).toNatClampNeg 0)))), (h0, .inr (10, [.ref fq, .ref sq, .ref gq, .ref nq, .ref dq, .ref pq, .int 0, .int 0, .int 0]))] t) (va_A [(h0, .inr (10, [.ref fq, .ref sq, .ref gq, .ref nq, .ref dq, .ref pq, .int 0, .int 0, .int 0])), (oq, .inl (co, 1, .inr (.inl fo)))] sz)) 0 0 (va_A [(h0, .inr (10, [.ref fq, .ref sq, .ref gq, .ref nq, .ref dq, .ref pq, .int 0, .int 0, .int 0])), (oq, .inl (co, 1, .inr (.inl fo)))] sz) := by
  refine va_MetW (cc := cL_count) (maxL := 4) (ret := (some .int)) (by decide) rfl ?_
  intro p e s m args below meth c s₁ B hml hv
  obtain ⟨rfl, hsz, hP, hK, hD0, hT⟩ := hv
  have hx := B.exec
  have hb := B.bytes
  have hr := B.returns
  have hts := atoms_spec (ws := v_w_count_7) B.pre
  have hown : s.vm.findClass RL = some m.cls := findClass_of_methodNamed B.named
  have hlocks := B.notSynchronized
  have hTab : c.exceptionTable.toList = tableOf [(0, 9, 12, 21)] := vx_table (x := yL_count) B (hts (.codeWith yL_count cL_count 4 (some .int) [(0, 9, 12, 21)]) (List.mem_of_getElem? (i := 0) rfl))
  subst hsz
  have hD := hD0.self (sz := s.heap.size)
  generalize hAe : va_A [(h0, .inr (10, [.ref fq, .ref sq, .ref gq, .ref nq, .ref dq, .ref pq, .int 0, .int 0, .int 0])), (oq, .inl (co, 1, .inr (.inl fo)))] s.heap.size = A at hD hT ⊢
  have hA : ∀ q : Nat, s.heap.size ≤ q → A q := fun q h => by rw [← hAe]; exact Or.inr h
  have hS : va_S A s.heap s.heap [] := va_S.rf
  have hl := lv_entry ([.ref h0, .int 7, .ref oq]) (n := 4) (Nat.le_of_ble_eq_true rfl)
  rw [lg_entry_eq]
  generalize (lg_sl ([.ref h0, .int 7, .ref oq]) ++ List.replicate (4 - (lg_sl ([.ref h0, .int 7, .ref oq])).length) Slot.unset).toArray = ls at hl ⊢
  have hl : lv_has ls 4 [(0, .ref h0), (1, .int 7), (2, .ref oq)] := hl
  refine lv_aload_n hx hb dL_count_0 rfl (lv_at hl 2 rfl) ?_
  refine lv_iconst (v := 0) hx hb dL_count_1 (by decide) ?_
  refine lv_aload_n hx hb dL_count_2 rfl (lv_at hl 0 rfl) ?_
  refine lv_iload_n hx hb dL_count_3 rfl (lv_at hl 1 rfl) ?_
  have hPc := hP.sub (ws' := [(h0, .inr (10, [.ref fq, .ref sq, .ref gq, .ref nq, .ref dq, .ref pq, .int 0, .int 0, .int 0]))]) [0] rfl
  have hDc := hD.sub (ws' := [(h0, .inr (10, [.ref fq, .ref sq, .ref gq, .ref nq, .ref dq, .ref pq, .int 0, .int 0, .int 0]))]) [0] (by decide) rfl
  have hKc := hK.sub (tys' := []) [] rfl
  have hFc := va_free (wc := [(h0, .inr (10, [.ref fq, .ref sq, .ref gq, .ref nq, .ref dq, .ref pq, .int 0, .int 0, .int 0]))]) hD hS hA [0] rfl
  refine va_calli (va_runV (As := [.int 7]) (rest := [.int 0, .ref oq]) ⟨hx, hb, hml, hown, hts⟩ (c_count_7 l hl9 dC dI tE h0 fq sq gq nq dq pq _ ) (cwV 1 hts (goodIn_app (goodIn_r _ [3, 4, 5, 6] (by rfl) (by decide +kernel)) gg_w_count_7_c_count_7) rfl rfl rfl (by decide +kernel) ⟨Nat.le_of_ble_eq_true rfl, Nat.le_of_ble_eq_true rfl⟩) ⟨Pre0.blind, va_recv hKc hPc (ci := 10) (q0 := 0) rfl rfl, Pre0.give hPc hKc hDc hT hS hFc⟩ rfl rfl hl.1 rfl (lv_room (Nat.le_of_ble_eq_true rfl)) dL_count_4 ⟨Nat.le_of_ble_eq_true rfl, Nat.le_of_ble_eq_true rfl⟩) hS (fun q _ h => hFc q h) hFc (fun r_1 u t H1 locs ht hvm hw hB hz1 hk1 hS => ?_)
  obtain ⟨hP1, hK1, hD1⟩ := hB
  rw [ht] at hP1
  have hK1 := va_K.moved hvm.symm hK1
  obtain ⟨hP, hD⟩ := va_join (wr := [(oq, .inl (co, 1, .inr (.inl fo)))]) (w1 := [(h0, .inr (10, [.ref fq, .ref sq, .ref gq, .ref nq, .ref dq, .ref pq, .int 0, .int 0, .int 0]))]) hP hD [0] [1] rfl rfl (by decide) (by decide) hk1 hFc hP1 hD1
  generalize H1 = H at hP hS ⊢
  have hP : va_P (dC, dI) vwCl [(oq, .inl (co, 1, .inr (.inl fo))), (h0, .inr (10, [.ref fq, .ref sq, .ref gq, .ref nq, .ref dq, .ref pq, .int 0, .int 0, .int 0]))] H := hP
  have hD : va_D A [(oq, .inl (co, 1, .inr (.inl fo))), (h0, .inr (10, [.ref fq, .ref sq, .ref gq, .ref nq, .ref dq, .ref pq, .int 0, .int 0, .int 0]))] := hD
  refine W.widen (k := 0) (n := 0) (by omega) (by omega) ?_
  obtain rfl : r_1 = 0 := hw
  refine lv_i2l (v := 0) hx hb dL_count_7 (by decide) ?_
  refine va_last hx hb hK hP hD hS 0 0 rfl rfl (by unfold vp_in; decide) dL_count_8 (fun H locs hP hD hS => ?_)
  have hP : va_P (dC, dI) vwCl [(oq, .inl (co, 1, .inr (.inl (vp_updL fo (0 : Int32).toNatClampNeg 0)))), (h0, .inr (10, [.ref fq, .ref sq, .ref gq, .ref nq, .ref dq, .ref pq, .int 0, .int 0, .int 0]))] H := hP
  have hD : va_D A [(oq, .inl (co, 1, .inr (.inl (vp_updL fo (0 : Int32).toNatClampNeg 0)))), (h0, .inr (10, [.ref fq, .ref sq, .ref gq, .ref nq, .ref dq, .ref pq, .int 0, .int 0, .int 0]))] := hD
  refine lv_goto (tgt := 15) hx hb dL_count_9 (by decide) ?_
  refine lv_iconst (v := 0) hx hb dL_count_15 (by decide) ?_
  have hP9 := hP.sub (ws' := [(oq, .inl (co, 1, .inr (.inl (vp_updL fo (0 : Int32).toNatClampNeg 0)))), (h0, .inr (10, [.ref fq, .ref sq, .ref gq, .ref nq, .ref dq, .ref pq, .int 0, .int 0, .int 0]))]) [0, 1] rfl
  have hD9 := hD.sub (ws' := [(oq, .inl (co, 1, .inr (.inl (vp_updL fo (0 : Int32).toNatClampNeg 0)))), (h0, .inr (10, [.ref fq, .ref sq, .ref gq, .ref nq, .ref dq, .ref pq, .int 0, .int 0, .int 0]))]) [0, 1] (by decide) rfl
  have hK9 := hK.sub (tys' := [(co, .long)]) [0] rfl
  exact W.iret (v := 0) hx hb hr (fun t ht hW => ⟨⟨0, (), rfl, rfl, by rw [ht]; exact hP9, va_K.moved hW.alike hK9, hD9⟩, hS.F ht⟩) hS.2.2 dL_count_16
def vh_w_count_f : List Cond := .codeWith yL_count cL_count 4 (some .int) [(0, 9, 12, 21)] :: ([Cond.code yX5_count cX5_count 2 (some .int), Cond.classLink RX5 71 "java/lang/IndexOutOfBoundsException", Cond.initialized "java/lang/IndexOutOfBoundsException", Cond.methodLink RL 50 yX5_count, Cond.instanceMethod yX5_count, Cond.selects RX5 yX5_count yX5_count, Cond.initialized RX5, Cond.classLink RL 21 "java/lang/IndexOutOfBoundsException"] ++ [])
def v_w_count_f : List Cond := vh_w_count_f ++ (thrX)
theorem gg_w_count_f_c_count_f : GoodIn v_w_count_f vh_c_count_f := goodIn_r _ [1, 2, 3] (by rfl) (by decide +kernel)
theorem gt_w_count_f_c_count_f : GoodIn v_w_count_f v_c_count_f := goodIn_app gg_w_count_f_c_count_f (goodIn_sub (fun _ h => List.mem_append_right _ h) (by decide +kernel))
set_option maxHeartbeats 4000000 in
set_option maxRecDepth 100000 in
theorem w_count_f (l : Launch) (hl9 : l.stackTraces = false) (dC : Nat → ClassId) (dI : Nat → Nat → Nat) (tE : Nat) (h0 : Nat) (fq : Nat) (sq : Nat) (gq : Nat) (nq : Nat) (dq : Nat) (pq : Nat) (pl : Int32) (bl : Int32) (tb : Int32) (p0 : Int32) (oq : Nat) (sz : Nat) (h : p0 < 0 ∨ 7 < p0) : Met l yL_count v_w_count_f ({ frames := 7, cells := 1, slots := 6, locals := 111 }) (va_Pc [.ref h0, .int p0, .ref oq] (Pre0 dC dI tE sz [] [(h0, .inr (10, [.ref fq, .ref sq, .ref gq, .ref nq, .ref dq, .ref pq, .int pl, .int bl, .int tb]))])) (va_Qi (fun (r : Int32) (_ : Unit) => r = 1) (fun _ t => Pst dC dI [] (va_A [(h0, .inr (10, [.ref fq, .ref sq, .ref gq, .ref nq, .ref dq, .ref pq, .int pl, .int bl, .int tb]))] sz) [(h0, .inr (10, [.ref fq, .ref sq, .ref gq, .ref nq, .ref dq, .ref pq, .int pl, .int bl, .int tb]))] t) (va_A [(h0, .inr (10, [.ref fq, .ref sq, .ref gq, .ref nq, .ref dq, .ref pq, .int pl, .int bl, .int tb]))] sz)) 1 6 (va_A [(h0, .inr (10, [.ref fq, .ref sq, .ref gq, .ref nq, .ref dq, .ref pq, .int pl, .int bl, .int tb]))] sz) := by
  refine va_MetW (cc := cL_count) (maxL := 4) (ret := (some .int)) (by decide) rfl ?_
  intro p e s m args below meth c s₁ B hml hv
  obtain ⟨rfl, hsz, hP, hK, hD0, hT⟩ := hv
  have hx := B.exec
  have hb := B.bytes
  have hr := B.returns
  have hts := atoms_spec (ws := v_w_count_f) B.pre
  have hown : s.vm.findClass RL = some m.cls := findClass_of_methodNamed B.named
  have hlocks := B.notSynchronized
  have hTab : c.exceptionTable.toList = tableOf [(0, 9, 12, 21)] := vx_table (x := yL_count) B (hts (.codeWith yL_count cL_count 4 (some .int) [(0, 9, 12, 21)]) (List.mem_of_getElem? (i := 0) rfl))
  subst hsz
  have hD := hD0.self (sz := s.heap.size)
  generalize hAe : va_A [(h0, .inr (10, [.ref fq, .ref sq, .ref gq, .ref nq, .ref dq, .ref pq, .int pl, .int bl, .int tb]))] s.heap.size = A at hD hT ⊢
  have hA : ∀ q : Nat, s.heap.size ≤ q → A q := fun q h => by rw [← hAe]; exact Or.inr h
  have hS : va_S A s.heap s.heap [] := va_S.rf
  have hl := lv_entry ([.ref h0, .int p0, .ref oq]) (n := 4) (Nat.le_of_ble_eq_true rfl)
  rw [lg_entry_eq]
  generalize (lg_sl ([.ref h0, .int p0, .ref oq]) ++ List.replicate (4 - (lg_sl ([.ref h0, .int p0, .ref oq])).length) Slot.unset).toArray = ls at hl ⊢
  have hl : lv_has ls 4 [(0, .ref h0), (1, .int p0), (2, .ref oq)] := hl
  refine lv_aload_n hx hb dL_count_0 rfl (lv_at hl 2 rfl) ?_
  refine lv_iconst (v := 0) hx hb dL_count_1 (by decide) ?_
  refine lv_aload_n hx hb dL_count_2 rfl (lv_at hl 0 rfl) ?_
  refine lv_iload_n hx hb dL_count_3 rfl (lv_at hl 1 rfl) ?_
  have hPc := hP.sub (ws' := [(h0, .inr (10, [.ref fq, .ref sq, .ref gq, .ref nq, .ref dq, .ref pq, .int pl, .int bl, .int tb]))]) [0] rfl
  have hDc := hD.sub (ws' := [(h0, .inr (10, [.ref fq, .ref sq, .ref gq, .ref nq, .ref dq, .ref pq, .int pl, .int bl, .int tb]))]) [0] (by decide) rfl
  have hKc := hK.sub (tys' := []) [] rfl
  have hFc := va_free (wc := [(h0, .inr (10, [.ref fq, .ref sq, .ref gq, .ref nq, .ref dq, .ref pq, .int pl, .int bl, .int tb]))]) hD hS hA [0] rfl
  refine vx_calli (vx_runV (As := [.int p0]) (rest := [.int 0, .ref oq]) ⟨hx, hb, hml, hown, hts⟩ (c_count_f l hl9 dC dI tE h0 fq sq gq nq dq pq pl bl tb p0 _ h) (cwV 1 hts (goodIn_app (goodIn_r _ [4, 5, 6, 7] (by rfl) (by decide +kernel)) gt_w_count_f_c_count_f) rfl rfl rfl (by decide +kernel) ⟨Nat.le_of_ble_eq_true rfl, Nat.le_of_ble_eq_true rfl⟩) ⟨Pre0.blind, va_recv hKc hPc (ci := 10) (q0 := 0) rfl rfl, Pre0.give hPc hKc hDc hT hS hFc⟩ rfl rfl hl.1 rfl (lv_room (Nat.le_of_ble_eq_true rfl)) dL_count_4 ⟨Nat.le_of_ble_eq_true rfl, Nat.le_of_ble_eq_true rfl⟩) hS (fun q _ h => hFc q h) hFc (fun q _ h => hFc q h) (fun E ce q9 u t H1 locs ht hvm hpx hB hz1 hk1 hS hce hcv hcl => ?_) (fun r u t H1 locs ht hvm hw hB hz1 hk1 hS => hw.elim)
  obtain ⟨rfl, hP1, hK1, hD1⟩ := hB
  rw [ht] at hP1
  have hK1 := va_K.moved hvm.symm hK1
  obtain ⟨hP, hD⟩ := va_join (wr := []) (w1 := [(h0, .inr (10, [.ref fq, .ref sq, .ref gq, .ref nq, .ref dq, .ref pq, .int pl, .int bl, .int tb]))]) hP hD [0] [] rfl rfl (by decide) (by decide) hk1 hFc hP1 hD1
  generalize H1 = H at hP hS hce ⊢
  have hP : va_P (dC, dI) vwCl [(h0, .inr (10, [.ref fq, .ref sq, .ref gq, .ref nq, .ref dq, .ref pq, .int pl, .int bl, .int tb]))] H := hP
  have hD : va_D A [(h0, .inr (10, [.ref fq, .ref sq, .ref gq, .ref nq, .ref dq, .ref pq, .int pl, .int bl, .int tb]))] := hD
  refine vx_widen (k := 1) (n := 6) (by omega) (by omega) ?_
  refine vx_catch (own := RL) (name := "java/lang/IndexOutOfBoundsException") (E := "java/lang/IndexOutOfBoundsException") hown [] ⟨0, 9, 12, 21⟩ [] (by rw [hTab]; rfl) (fun z hz => nomatch hz) (by decide) (by decide) (hts (.classLink RL 21 "java/lang/IndexOutOfBoundsException") (List.mem_of_getElem? (i := 8) rfl)) (va_Nw.use rfl hT.eX) hce hcv hcl ?_
  refine lv_astore_n (lv' := [(3, .ref q9), (0, .ref h0), (1, .int p0), (2, .ref oq)]) hx hb dL_count_12 rfl hl (by decide) rfl (fun ls hl => ?_)
  refine lv_iconst (v := 1) hx hb dL_count_13 (by decide) ?_
  have hP9 := hP.sub (ws' := [(h0, .inr (10, [.ref fq, .ref sq, .ref gq, .ref nq, .ref dq, .ref pq, .int pl, .int bl, .int tb]))]) [0] rfl
  have hD9 := hD.sub (ws' := [(h0, .inr (10, [.ref fq, .ref sq, .ref gq, .ref nq, .ref dq, .ref pq, .int pl, .int bl, .int tb]))]) [0] (by decide) rfl
  have hK9 := hK.sub (tys' := []) [] rfl
  exact W.iret (v := 1) hx hb hr (fun t ht hW => ⟨⟨1, (), rfl, rfl, by rw [ht]; exact hP9, va_K.moved hW.alike hK9, hD9⟩, hS.F ht⟩) hS.2.2 dL_count_14
def v_w_ring_t : List Cond := .codeWith yL_ring cL_ring 4 (some .int) [(0, 9, 12, 13)] :: ([Cond.code yX5_ring cX5_ring 2 (some .int), Cond.code yX5_isTone cX5_isTone 1 (some .boolean), Cond.methodLink RX5 211 yX5_isTone, Cond.static yX5_isTone, Cond.initialized RX5, Cond.code yX5_toll cX5_toll 4 (some .int), Cond.fieldLink RX5 19 "HotelOfBells" "guests" "Ljava/util/ArrayList;", Cond.code yJx4a65c_size_8abf5 cJx4a65c_size_8abf5 1 (some .int), Cond.fieldLink RJx4a65c 48 "java/util/ArrayList" "size" "I", Cond.methodLink RX5 49 yJx4a65c_size_8abf5, Cond.instanceMethod yJx4a65c_size_8abf5, Cond.selects RJx4a65c yJx4a65c_size_8abf5 yJx4a65c_size_8abf5, Cond.initialized RJx4a65c, Cond.fieldLink RX5 200 "HotelOfBells" "bells" "I", Cond.fieldLink RX5 203 "HotelOfBells" "turnsByBells" "I", Cond.fieldLink RX5 25 "HotelOfBells" "now" "LHotelOfBells$Moment;", Cond.code yX5_strike cX5_strike 6 (some .int), Cond.fieldLink RX5 156 "HotelOfBells$Moment" "heard" "I", Cond.code yX5_heardWith cX5_heardWith 2 (some .int), Cond.constant RX5 247 (100000), Cond.methodLink RX5 252 yX5_heardWith, Cond.static yX5_heardWith, Cond.fieldLink RX5 10 "HotelOfBells" "floors" "Ljava/util/ArrayList;", Cond.fieldLink RX5 16 "HotelOfBells" "shafts" "Ljava/util/ArrayList;", Cond.methodLink RX5 237 yX5_strike, Cond.instanceMethod yX5_strike, Cond.selects RX5 yX5_strike yX5_strike, Cond.methodLink RX5 216 yX5_toll, Cond.instanceMethod yX5_toll, Cond.selects RX5 yX5_toll yX5_toll, Cond.methodLink RL 53 yX5_ring, Cond.instanceMethod yX5_ring, Cond.selects RX5 yX5_ring yX5_ring] ++ (wsX50 ++ (wsJx4a65c0 ++ (wsX30 ++ []))))
theorem u_w_ring_t_X5 : ∀ w ∈ wsX50, w ∈ v_w_ring_t := fun _ h => List.mem_cons_of_mem _ (List.mem_append_right _ (List.mem_append_left _ h))
theorem u_w_ring_t_Jx4a65c : ∀ w ∈ wsJx4a65c0, w ∈ v_w_ring_t := fun _ h => List.mem_cons_of_mem _ (List.mem_append_right _ (List.mem_append_right _ (List.mem_append_left _ h)))
theorem u_w_ring_t_X3 : ∀ w ∈ wsX30, w ∈ v_w_ring_t := fun _ h => List.mem_cons_of_mem _ (List.mem_append_right _ (List.mem_append_right _ (List.mem_append_right _ (List.mem_append_left _ h))))
theorem gg_w_ring_t_c_ring_t : GoodIn v_w_ring_t v_c_ring_t := goodIn_r _ [1, 2, 3, 4, 5, 6, 7, 8, 9, 10, 11, 12, 13, 14, 15, 16, 17, 18, 19, 20, 21, 22, 23, 24, 25, 26, 27, 28, 29, 30, 34, 35, 36, 37, 38, 39, 40, 41, 42, 43, 44, 45, 46, 47, 48, 49] (by rfl) (by decide +kernel)
set_option maxHeartbeats 4000000 in
set_option maxRecDepth 100000 in
theorem w_ring_t (l : Launch) (hl9 : l.stackTraces = false) (dC : Nat → ClassId) (dI : Nat → Nat → Nat) (tE : Nat) (h0 : Nat) (fq : Nat) (sq : Nat) (gq : Nat) (nq : Nat) (dq : Nat) (pq : Nat) (pl : Int32) (bl : Int32) (tb : Int32) (mc_fq : Int32) (mc_sq : Int32) (mc_gq : Int32) (tq : Nat) (zq : Nat) (wq : Nat) (hd : Int32) (p0 : Int32) (oq : Nat) (co : ClassId) (fo : Nat → Int64) (sz : Nat) (h1 : ¬ p0 < 0) (h2 : ¬ 3 < p0) : Met l yL_ring v_w_ring_t ({ frames := 4, cells := 0, slots := 0, locals := 90 }) (va_Pc [.ref h0, .int p0, .ref oq] (Pre0 dC dI tE sz [(co, .long)] [(h0, .inr (10, [.ref fq, .ref sq, .ref gq, .ref nq, .ref dq, .ref pq, .int pl, .int bl, .int tb])), (fq, .inr (4, [.int mc_fq, .ref tE, .int 0])), (sq, .inr (4, [.int mc_sq, .ref tE, .int 0])), (gq, .inr (4, [.int mc_gq, .ref tE, .int 0])), (nq, .inr (8, [.int hd, .ref tq, .ref zq, .ref wq])), (oq, .inl (co, 1, .inr (.inl fo)))])) (va_Qi (fun (r : Int32) (_ : Unit) => r = 0) (fun _ t => ∃ (vx0 : Int32), ∃ (vx1 : Int32), ∃ (vx2 : Int32), Pst dC dI [(co, .long)] (va_A [(h0, .inr (10, [.ref fq, .ref sq, .ref gq, .ref nq, .ref dq, .ref pq, .int pl, .int bl, .int tb])), (fq, .inr (4, [.int mc_fq, .ref tE, .int 0])), (sq, .inr (4, [.int mc_sq, .ref tE, .int 0])), (gq, .inr (4, [.int mc_gq, .ref tE, .int 0])), (nq, .inr (8, [.int hd, .ref tq, .ref zq, .ref wq])), (oq, .inl (co, 1, .inr (.inl fo)))] sz) [(oq, .inl (co, 1, .inr (.inl (vp_updL fo (0 : Int32).toNatClampNeg 0)))), (h0, .inr (10, [.ref fq, .ref sq, .ref gq, .ref nq, .ref dq, .ref pq, .int pl, .int vx0, .int vx1])), (nq, .inr (8, [.int vx2, .ref tq, .ref zq, .ref wq])), (fq, .inr (4, [.int mc_fq, .ref tE, .int 0])), (sq, .inr (4, [.int mc_sq, .ref tE, .int 0])), (gq, .inr (4, [.int mc_gq, .ref tE, .int 0]))] t) (va_A [(h0, .inr (10, [.ref fq, .ref sq, .ref gq, .ref nq, .ref dq, .ref pq, .int pl, .int bl, .int tb])), (fq, .inr (4, [.int mc_fq, .ref tE, .int 0])), (sq, .inr (4, [.int mc_sq, .ref tE, .int 0])), (gq, .inr (4, [.int mc_gq, .ref tE, .int 0])), (nq, .inr (8, [.int hd, .ref tq, .ref zq, .ref wq])), (oq, .inl (co, 1, .inr (.inl fo)))] sz)) 0 0 (va_A [(h0, .inr (10, [.ref fq, .ref sq, .ref gq, .ref nq, .ref dq, .ref pq, .int pl, .int bl, .int tb])), (fq, .inr (4, [.int mc_fq, .ref tE, .int 0])), (sq, .inr (4, [.int mc_sq, .ref tE, .int 0])), (gq, .inr (4, [.int mc_gq, .ref tE, .int 0])), (nq, .inr (8, [.int hd, .ref tq, .ref zq, .ref wq])), (oq, .inl (co, 1, .inr (.inl fo)))] sz) := by
  refine va_MetW (cc := cL_ring) (maxL := 4) (ret := (some .int)) (by decide) rfl ?_
  intro p e s m args below meth c s₁ B hml hv
  obtain ⟨rfl, hsz, hP, hK, hD0, hT⟩ := hv
  have hx := B.exec
  have hb := B.bytes
  have hr := B.returns
  have hts := atoms_spec (ws := v_w_ring_t) B.pre
  have hown : s.vm.findClass RL = some m.cls := findClass_of_methodNamed B.named
  have hlocks := B.notSynchronized
  have hTab : c.exceptionTable.toList = tableOf [(0, 9, 12, 13)] := vx_table (x := yL_ring) B (hts (.codeWith yL_ring cL_ring 4 (some .int) [(0, 9, 12, 13)]) (List.mem_of_getElem? (i := 0) rfl))
  subst hsz
  have hD := hD0.self (sz := s.heap.size)
  generalize hAe : va_A [(h0, .inr (10, [.ref fq, .ref sq, .ref gq, .ref nq, .ref dq, .ref pq, .int pl, .int bl, .int tb])), (fq, .inr (4, [.int mc_fq, .ref tE, .int 0])), (sq, .inr (4, [.int mc_sq, .ref tE, .int 0])), (gq, .inr (4, [.int mc_gq, .ref tE, .int 0])), (nq, .inr (8, [.int hd, .ref tq, .ref zq, .ref wq])), (oq, .inl (co, 1, .inr (.inl fo)))] s.heap.size = A at hD hT ⊢
  have hA : ∀ q : Nat, s.heap.size ≤ q → A q := fun q h => by rw [← hAe]; exact Or.inr h
  have hS : va_S A s.heap s.heap [] := va_S.rf
  have hl := lv_entry ([.ref h0, .int p0, .ref oq]) (n := 4) (Nat.le_of_ble_eq_true rfl)
  rw [lg_entry_eq]
  generalize (lg_sl ([.ref h0, .int p0, .ref oq]) ++ List.replicate (4 - (lg_sl ([.ref h0, .int p0, .ref oq])).length) Slot.unset).toArray = ls at hl ⊢
  have hl : lv_has ls 4 [(0, .ref h0), (1, .int p0), (2, .ref oq)] := hl
  refine lv_aload_n hx hb dL_ring_0 rfl (lv_at hl 2 rfl) ?_
  refine lv_iconst (v := 0) hx hb dL_ring_1 (by decide) ?_
  refine lv_aload_n hx hb dL_ring_2 rfl (lv_at hl 0 rfl) ?_
  refine lv_iload_n hx hb dL_ring_3 rfl (lv_at hl 1 rfl) ?_
  have hPc := hP.sub (ws' := [(h0, .inr (10, [.ref fq, .ref sq, .ref gq, .ref nq, .ref dq, .ref pq, .int pl, .int bl, .int tb])), (fq, .inr (4, [.int mc_fq, .ref tE, .int 0])), (sq, .inr (4, [.int mc_sq, .ref tE, .int 0])), (gq, .inr (4, [.int mc_gq, .ref tE, .int 0])), (nq, .inr (8, [.int hd, .ref tq, .ref zq, .ref wq]))]) [0, 1, 2, 3, 4] rfl
  have hDc := hD.sub (ws' := [(h0, .inr (10, [.ref fq, .ref sq, .ref gq, .ref nq, .ref dq, .ref pq, .int pl, .int bl, .int tb])), (fq, .inr (4, [.int mc_fq, .ref tE, .int 0])), (sq, .inr (4, [.int mc_sq, .ref tE, .int 0])), (gq, .inr (4, [.int mc_gq, .ref tE, .int 0])), (nq, .inr (8, [.int hd, .ref tq, .ref zq, .ref wq]))]) [0, 1, 2, 3, 4] (by decide) rfl
  have hKc := hK.sub (tys' := []) [] rfl
  have hFc := va_free (wc := [(h0, .inr (10, [.ref fq, .ref sq, .ref gq, .ref nq, .ref dq, .ref pq, .int pl, .int bl, .int tb])), (fq, .inr (4, [.int mc_fq, .ref tE, .int 0])), (sq, .inr (4, [.int mc_sq, .ref tE, .int 0])), (gq, .inr (4, [.int mc_gq, .ref tE, .int 0])), (nq, .inr (8, [.int hd, .ref tq, .ref zq, .ref wq]))]) hD hS hA [0, 1, 2, 3, 4] rfl
  refine va_calli (va_runV (As := [.int p0]) (rest := [.int 0, .ref oq]) ⟨hx, hb, hml, hown, hts⟩ (c_ring_t l hl9 dC dI tE h0 fq sq gq nq dq pq pl bl tb mc_fq mc_sq mc_gq tq zq wq hd p0 _ h1 h2) (cwV 1 hts (goodIn_app (goodIn_r _ [31, 32, 33, 5] (by rfl) (by decide +kernel)) gg_w_ring_t_c_ring_t) rfl rfl rfl (by decide +kernel) ⟨Nat.le_of_ble_eq_true rfl, Nat.le_of_ble_eq_true rfl⟩) ⟨Pre0.blind, va_recv hKc hPc (ci := 10) (q0 := 0) rfl rfl, Pre0.give hPc hKc hDc hT hS hFc⟩ rfl rfl hl.1 rfl (lv_room (Nat.le_of_ble_eq_true rfl)) dL_ring_4 ⟨Nat.le_of_ble_eq_true rfl, Nat.le_of_ble_eq_true rfl⟩) hS (fun q _ h => hFc q h) hFc (fun r_1 u t H1 locs ht hvm hw hB hz1 hk1 hS => ?_)
  obtain ⟨vx_2, vx_3, vx_4, hP1, hK1, hD1⟩ := hB
  rw [ht] at hP1
  have hK1 := va_K.moved hvm.symm hK1
  obtain ⟨hP, hD⟩ := va_join (wr := [(oq, .inl (co, 1, .inr (.inl fo)))]) (w1 := [(h0, .inr (10, [.ref fq, .ref sq, .ref gq, .ref nq, .ref dq, .ref pq, .int pl, .int vx_2, .int vx_3])), (nq, .inr (8, [.int vx_4, .ref tq, .ref zq, .ref wq])), (fq, .inr (4, [.int mc_fq, .ref tE, .int 0])), (sq, .inr (4, [.int mc_sq, .ref tE, .int 0])), (gq, .inr (4, [.int mc_gq, .ref tE, .int 0]))]) hP hD [0, 1, 2, 3, 4] [5] rfl rfl (by decide) (by decide) hk1 hFc hP1 hD1
  generalize H1 = H at hP hS ⊢
  have hP : va_P (dC, dI) vwCl [(oq, .inl (co, 1, .inr (.inl fo))), (h0, .inr (10, [.ref fq, .ref sq, .ref gq, .ref nq, .ref dq, .ref pq, .int pl, .int vx_2, .int vx_3])), (nq, .inr (8, [.int vx_4, .ref tq, .ref zq, .ref wq])), (fq, .inr (4, [.int mc_fq, .ref tE, .int 0])), (sq, .inr (4, [.int mc_sq, .ref tE, .int 0])), (gq, .inr (4, [.int mc_gq, .ref tE, .int 0]))] H := hP
  have hD : va_D A [(oq, .inl (co, 1, .inr (.inl fo))), (h0, .inr (10, [.ref fq, .ref sq, .ref gq, .ref nq, .ref dq, .ref pq, .int pl, .int vx_2, .int vx_3])), (nq, .inr (8, [.int vx_4, .ref tq, .ref zq, .ref wq])), (fq, .inr (4, [.int mc_fq, .ref tE, .int 0])), (sq, .inr (4, [.int mc_sq, .ref tE, .int 0])), (gq, .inr (4, [.int mc_gq, .ref tE, .int 0]))] := hD
  refine W.widen (k := 0) (n := 0) (by omega) (by omega) ?_
  obtain rfl : r_1 = 0 := hw
  refine lv_i2l (v := 0) hx hb dL_ring_7 (by decide) ?_
  refine va_last hx hb hK hP hD hS 0 0 rfl rfl (by unfold vp_in; decide) dL_ring_8 (fun H locs hP hD hS => ?_)
  have hP : va_P (dC, dI) vwCl [(oq, .inl (co, 1, .inr (.inl (vp_updL fo (0 : Int32).toNatClampNeg 0)))), (h0, .inr (10, [.ref fq, .ref sq, .ref gq, .ref nq, .ref dq, .ref pq, .int pl, .int vx_2, .int vx_3])), (nq, .inr (8, [.int vx_4, .ref tq, .ref zq, .ref wq])), (fq, .inr (4, [.int mc_fq, .ref tE, .int 0])), (sq, .inr (4, [.int mc_sq, .ref tE, .int 0])), (gq, .inr (4, [.int mc_gq, .ref tE, .int 0]))] H := hP
  have hD : va_D A [(oq, .inl (co, 1, .inr (.inl (vp_updL fo (0 : Int32).toNatClampNeg 0)))), (h0, .inr (10, [.ref fq, .ref sq, .ref gq, .ref nq, .ref dq, .ref pq, .int pl, .int vx_2, .int vx_3])), (nq, .inr (8, [.int vx_4, .ref tq, .ref zq, .ref wq])), (fq, .inr (4, [.int mc_fq, .ref tE, .int 0])), (sq, .inr (4, [.int mc_sq, .ref tE, .int 0])), (gq, .inr (4, [.int mc_gq, .ref tE, .int 0]))] := hD
  refine lv_goto (tgt := 15) hx hb dL_ring_9 (by decide) ?_
  refine lv_iconst (v := 0) hx hb dL_ring_15 (by decide) ?_
  have hP9 := hP.sub (ws' := [(oq, .inl (co, 1, .inr (.inl (vp_updL fo (0 : Int32).toNatClampNeg 0)))), (h0, .inr (10, [.ref fq, .ref sq, .ref gq, .ref nq, .ref dq, .ref pq, .int pl, .int vx_2, .int vx_3])), (nq, .inr (8, [.int vx_4, .ref tq, .ref zq, .ref wq])), (fq, .inr (4, [.int mc_fq, .ref tE, .int 0])), (sq, .inr (4, [.int mc_sq, .ref tE, .int 0])), (gq, .inr (4, [.int mc_gq, .ref tE, .int 0]))]) [0, 1, 2, 3, 4, 5] rfl
  have hD9 := hD.sub (ws' := [(oq, .inl (co, 1, .inr (.inl (vp_updL fo (0 : Int32).toNatClampNeg 0)))), (h0, .inr (10, [.ref fq, .ref sq, .ref gq, .ref nq, .ref dq, .ref pq, .int pl, .int vx_2, .int vx_3])), (nq, .inr (8, [.int vx_4, .ref tq, .ref zq, .ref wq])), (fq, .inr (4, [.int mc_fq, .ref tE, .int 0])), (sq, .inr (4, [.int mc_sq, .ref tE, .int 0])), (gq, .inr (4, [.int mc_gq, .ref tE, .int 0]))]) [0, 1, 2, 3, 4, 5] (by decide) rfl
  have hK9 := hK.sub (tys' := [(co, .long)]) [0] rfl
  exact W.iret (v := 0) hx hb hr (fun t ht hW => ⟨⟨0, (), rfl, rfl, vx_2, vx_3, vx_4, by rw [ht]; exact hP9, va_K.moved hW.alike hK9, hD9⟩, hS.F ht⟩) hS.2.2 dL_ring_16
def vh_w_ring_f : List Cond := .codeWith yL_ring cL_ring 4 (some .int) [(0, 9, 12, 13)] :: ([Cond.code yX5_ring cX5_ring 2 (some .int), Cond.code yX5_isTone cX5_isTone 1 (some .boolean), Cond.methodLink RX5 211 yX5_isTone, Cond.static yX5_isTone, Cond.initialized RX5, Cond.classLink RX5 42 "java/lang/IllegalArgumentException", Cond.initialized "java/lang/IllegalArgumentException", Cond.methodLink RL 53 yX5_ring, Cond.instanceMethod yX5_ring, Cond.selects RX5 yX5_ring yX5_ring, Cond.classLink RL 13 "java/lang/IllegalArgumentException"] ++ [])
def v_w_ring_f : List Cond := vh_w_ring_f ++ (thrI)
theorem gg_w_ring_f_c_ring_f : GoodIn v_w_ring_f vh_c_ring_f := goodIn_r _ [1, 2, 3, 4, 5, 6, 7] (by rfl) (by decide +kernel)
theorem gt_w_ring_f_c_ring_f : GoodIn v_w_ring_f v_c_ring_f := goodIn_app gg_w_ring_f_c_ring_f (goodIn_sub (fun _ h => List.mem_append_right _ h) (by decide +kernel))
set_option maxHeartbeats 4000000 in
set_option maxRecDepth 100000 in
theorem w_ring_f (l : Launch) (hl9 : l.stackTraces = false) (dC : Nat → ClassId) (dI : Nat → Nat → Nat) (tE : Nat) (h0 : Nat) (fq : Nat) (sq : Nat) (gq : Nat) (nq : Nat) (dq : Nat) (pq : Nat) (pl : Int32) (bl : Int32) (tb : Int32) (p0 : Int32) (oq : Nat) (sz : Nat) (h : p0 < 0 ∨ 3 < p0) : Met l yL_ring v_w_ring_f ({ frames := 7, cells := 1, slots := 6, locals := 111 }) (va_Pc [.ref h0, .int p0, .ref oq] (Pre0 dC dI tE sz [] [(h0, .inr (10, [.ref fq, .ref sq, .ref gq, .ref nq, .ref dq, .ref pq, .int pl, .int bl, .int tb]))])) (va_Qi (fun (r : Int32) (_ : Unit) => r = 1) (fun _ t => Pst dC dI [] (va_A [(h0, .inr (10, [.ref fq, .ref sq, .ref gq, .ref nq, .ref dq, .ref pq, .int pl, .int bl, .int tb]))] sz) [(h0, .inr (10, [.ref fq, .ref sq, .ref gq, .ref nq, .ref dq, .ref pq, .int pl, .int bl, .int tb]))] t) (va_A [(h0, .inr (10, [.ref fq, .ref sq, .ref gq, .ref nq, .ref dq, .ref pq, .int pl, .int bl, .int tb]))] sz)) 1 6 (va_A [(h0, .inr (10, [.ref fq, .ref sq, .ref gq, .ref nq, .ref dq, .ref pq, .int pl, .int bl, .int tb]))] sz) := by
  refine va_MetW (cc := cL_ring) (maxL := 4) (ret := (some .int)) (by decide) rfl ?_
  intro p e s m args below meth c s₁ B hml hv
  obtain ⟨rfl, hsz, hP, hK, hD0, hT⟩ := hv
  have hx := B.exec
  have hb := B.bytes
  have hr := B.returns
  have hts := atoms_spec (ws := v_w_ring_f) B.pre
  have hown : s.vm.findClass RL = some m.cls := findClass_of_methodNamed B.named
  have hlocks := B.notSynchronized
  have hTab : c.exceptionTable.toList = tableOf [(0, 9, 12, 13)] := vx_table (x := yL_ring) B (hts (.codeWith yL_ring cL_ring 4 (some .int) [(0, 9, 12, 13)]) (List.mem_of_getElem? (i := 0) rfl))
  subst hsz
  have hD := hD0.self (sz := s.heap.size)
  generalize hAe : va_A [(h0, .inr (10, [.ref fq, .ref sq, .ref gq, .ref nq, .ref dq, .ref pq, .int pl, .int bl, .int tb]))] s.heap.size = A at hD hT ⊢
  have hA : ∀ q : Nat, s.heap.size ≤ q → A q := fun q h => by rw [← hAe]; exact Or.inr h
  have hS : va_S A s.heap s.heap [] := va_S.rf
  have hl := lv_entry ([.ref h0, .int p0, .ref oq]) (n := 4) (Nat.le_of_ble_eq_true rfl)
  rw [lg_entry_eq]
  generalize (lg_sl ([.ref h0, .int p0, .ref oq]) ++ List.replicate (4 - (lg_sl ([.ref h0, .int p0, .ref oq])).length) Slot.unset).toArray = ls at hl ⊢
  have hl : lv_has ls 4 [(0, .ref h0), (1, .int p0), (2, .ref oq)] := hl
  refine lv_aload_n hx hb dL_ring_0 rfl (lv_at hl 2 rfl) ?_
  refine lv_iconst (v := 0) hx hb dL_ring_1 (by decide) ?_
  refine lv_aload_n hx hb dL_ring_2 rfl (lv_at hl 0 rfl) ?_
  refine lv_iload_n hx hb dL_ring_3 rfl (lv_at hl 1 rfl) ?_
  have hPc := hP.sub (ws' := [(h0, .inr (10, [.ref fq, .ref sq, .ref gq, .ref nq, .ref dq, .ref pq, .int pl, .int bl, .int tb]))]) [0] rfl
  have hDc := hD.sub (ws' := [(h0, .inr (10, [.ref fq, .ref sq, .ref gq, .ref nq, .ref dq, .ref pq, .int pl, .int bl, .int tb]))]) [0] (by decide) rfl
  have hKc := hK.sub (tys' := []) [] rfl
  have hFc := va_free (wc := [(h0, .inr (10, [.ref fq, .ref sq, .ref gq, .ref nq, .ref dq, .ref pq, .int pl, .int bl, .int tb]))]) hD hS hA [0] rfl
  refine vx_calli (vx_runV (As := [.int p0]) (rest := [.int 0, .ref oq]) ⟨hx, hb, hml, hown, hts⟩ (c_ring_f l hl9 dC dI tE h0 fq sq gq nq dq pq pl bl tb p0 _ h) (cwV 1 hts (goodIn_app (goodIn_r _ [8, 9, 10, 5] (by rfl) (by decide +kernel)) gt_w_ring_f_c_ring_f) rfl rfl rfl (by decide +kernel) ⟨Nat.le_of_ble_eq_true rfl, Nat.le_of_ble_eq_true rfl⟩) ⟨Pre0.blind, va_recv hKc hPc (ci := 10) (q0 := 0) rfl rfl, Pre0.give hPc hKc hDc hT hS hFc⟩ rfl rfl hl.1 rfl (lv_room (Nat.le_of_ble_eq_true rfl)) dL_ring_4 ⟨Nat.le_of_ble_eq_true rfl, Nat.le_of_ble_eq_true rfl⟩) hS (fun q _ h => hFc q h) hFc (fun q _ h => hFc q h) (fun E ce q9 u t H1 locs ht hvm hpx hB hz1 hk1 hS hce hcv hcl => ?_) (fun r u t H1 locs ht hvm hw hB hz1 hk1 hS => hw.elim)
  obtain ⟨rfl, hP1, hK1, hD1⟩ := hB
  rw [ht] at hP1
  have hK1 := va_K.moved hvm.symm hK1
  obtain ⟨hP, hD⟩ := va_join (wr := []) (w1 := [(h0, .inr (10, [.ref fq, .ref sq, .ref gq, .ref nq, .ref dq, .ref pq, .int pl, .int bl, .int tb]))]) hP hD [0] [] rfl rfl (by decide) (by decide) hk1 hFc hP1 hD1
  generalize H1 = H at hP hS hce ⊢
  have hP : va_P (dC, dI) vwCl [(h0, .inr (10, [.ref fq, .ref sq, .ref gq, .ref nq, .ref dq, .ref pq, .int pl, .int bl, .int tb]))] H := hP
  have hD : va_D A [(h0, .inr (10, [.ref fq, .ref sq, .ref gq, .ref nq, .ref dq, .ref pq, .int pl, .int bl, .int tb]))] := hD
  refine vx_widen (k := 1) (n := 6) (by omega) (by omega) ?_
  refine vx_catch (own := RL) (name := "java/lang/IllegalArgumentException") (E := "java/lang/IllegalArgumentException") hown [] ⟨0, 9, 12, 13⟩ [] (by rw [hTab]; rfl) (fun z hz => nomatch hz) (by decide) (by decide) (hts (.classLink RL 13 "java/lang/IllegalArgumentException") (List.mem_of_getElem? (i := 11) rfl)) (va_Nw.use rfl hT.eI) hce hcv hcl ?_
  refine lv_astore_n (lv' := [(3, .ref q9), (0, .ref h0), (1, .int p0), (2, .ref oq)]) hx hb dL_ring_12 rfl hl (by decide) rfl (fun ls hl => ?_)
  refine lv_iconst (v := 1) hx hb dL_ring_13 (by decide) ?_
  have hP9 := hP.sub (ws' := [(h0, .inr (10, [.ref fq, .ref sq, .ref gq, .ref nq, .ref dq, .ref pq, .int pl, .int bl, .int tb]))]) [0] rfl
  have hD9 := hD.sub (ws' := [(h0, .inr (10, [.ref fq, .ref sq, .ref gq, .ref nq, .ref dq, .ref pq, .int pl, .int bl, .int tb]))]) [0] (by decide) rfl
  have hK9 := hK.sub (tys' := []) [] rfl
  exact W.iret (v := 1) hx hb hr (fun t ht hW => ⟨⟨1, (), rfl, rfl, by rw [ht]; exact hP9, va_K.moved hW.alike hK9, hD9⟩, hS.F ht⟩) hS.2.2 dL_ring_14
def v_w_wouldTurn_t : List Cond := .codeWith yL_wouldTurn cL_wouldTurn 4 (some .int) [(0, 9, 12, 13)] :: ([Cond.code yX5_wouldTurn cX5_wouldTurn 5 (some .int), Cond.code yX5_isTone cX5_isTone 1 (some .boolean), Cond.methodLink RX5 211 yX5_isTone, Cond.static yX5_isTone, Cond.initialized RX5, Cond.fieldLink RX5 25 "HotelOfBells" "now" "LHotelOfBells$Moment;", Cond.fieldLink RX5 156 "HotelOfBells$Moment" "heard" "I", Cond.code yX5_heardWith cX5_heardWith 2 (some .int), Cond.constant RX5 247 (100000), Cond.methodLink RX5 252 yX5_heardWith, Cond.static yX5_heardWith, Cond.fieldLink RX5 10 "HotelOfBells" "floors" "Ljava/util/ArrayList;", Cond.code yJx4a65c_size_8abf5 cJx4a65c_size_8abf5 1 (some .int), Cond.fieldLink RJx4a65c 48 "java/util/ArrayList" "size" "I", Cond.methodLink RX5 49 yJx4a65c_size_8abf5, Cond.instanceMethod yJx4a65c_size_8abf5, Cond.selects RJx4a65c yJx4a65c_size_8abf5 yJx4a65c_size_8abf5, Cond.initialized RJx4a65c, Cond.methodLink RL 65 yX5_wouldTurn, Cond.instanceMethod yX5_wouldTurn, Cond.selects RX5 yX5_wouldTurn yX5_wouldTurn] ++ (wsX50 ++ (wsX30 ++ (wsJx4a65c0 ++ []))))
theorem u_w_wouldTurn_t_X5 : ∀ w ∈ wsX50, w ∈ v_w_wouldTurn_t := fun _ h => List.mem_cons_of_mem _ (List.mem_append_right _ (List.mem_append_left _ h))
theorem u_w_wouldTurn_t_X3 : ∀ w ∈ wsX30, w ∈ v_w_wouldTurn_t := fun _ h => List.mem_cons_of_mem _ (List.mem_append_right _ (List.mem_append_right _ (List.mem_append_left _ h)))
theorem u_w_wouldTurn_t_Jx4a65c : ∀ w ∈ wsJx4a65c0, w ∈ v_w_wouldTurn_t := fun _ h => List.mem_cons_of_mem _ (List.mem_append_right _ (List.mem_append_right _ (List.mem_append_right _ (List.mem_append_left _ h))))
theorem gg_w_wouldTurn_t_c_wouldTurn_t : GoodIn v_w_wouldTurn_t v_c_wouldTurn_t := goodIn_r _ [1, 2, 3, 4, 5, 6, 7, 8, 9, 10, 11, 12, 13, 14, 15, 16, 17, 18, 22, 23, 24, 25, 26, 27, 28, 29, 30, 31, 32, 33, 34, 35, 36, 37] (by rfl) (by decide +kernel)
set_option maxHeartbeats 4000000 in
set_option maxRecDepth 100000 in
theorem w_wouldTurn_t (l : Launch) (hl9 : l.stackTraces = false) (dC : Nat → ClassId) (dI : Nat → Nat → Nat) (tE : Nat) (h0 : Nat) (fq : Nat) (sq : Nat) (gq : Nat) (nq : Nat) (dq : Nat) (pq : Nat) (pl : Int32) (bl : Int32) (tb : Int32) (mc_fq : Int32) (tq : Nat) (zq : Nat) (wq : Nat) (hd : Int32) (p0 : Int32) (oq : Nat) (co : ClassId) (fo : Nat → Int64) (sz : Nat) (h1 : ¬ p0 < 0) (h2 : ¬ 3 < p0) : Met l yL_wouldTurn v_w_wouldTurn_t ({ frames := 2, cells := 0, slots := 0, locals := 45 }) (va_Pc [.ref h0, .int p0, .ref oq] (Pre0 dC dI tE sz [(co, .long)] [(h0, .inr (10, [.ref fq, .ref sq, .ref gq, .ref nq, .ref dq, .ref pq, .int pl, .int bl, .int tb])), (fq, .inr (4, [.int mc_fq, .ref tE, .int 0])), (nq, .inr (8, [.int hd, .ref tq, .ref zq, .ref wq])), (oq, .inl (co, 1, .inr (.inl fo)))])) (va_Qi (fun (r : Int32) (_ : Unit) => r = 0) (fun _ t => Pst dC dI [(co, .long)] (va_A [(h0, .inr (10, [.ref fq, .ref sq, .ref gq, .ref nq, .ref dq, .ref pq, .int pl, .int bl, .int tb])), (fq, .inr (4, [.int mc_fq, .ref tE, .int 0])), (nq, .inr (8, [.int hd, .ref tq, .ref zq, .ref wq])), (oq, .inl (co, 1, .inr (.inl fo)))] sz) [(oq, .inl (co, 1, .inr (.inl (vp_updL fo (0 : Int32).toNatClampNeg 0)))), (h0, .inr (10, [.ref fq, .ref sq, .ref gq, .ref nq, .ref dq, .ref pq, .int pl, .int bl, .int tb])), (nq, .inr (8, [.int hd, .ref tq, .ref zq, .ref wq])), (fq, .inr (4, [.int mc_fq, .ref tE, .int 0]))] t) (va_A [(h0, .inr (10, [.ref fq, .ref sq, .ref gq, .ref nq, .ref dq, .ref pq, .int pl, .int bl, .int tb])), (fq, .inr (4, [.int mc_fq, .ref tE, .int 0])), (nq, .inr (8, [.int hd, .ref tq, .ref zq, .ref wq])), (oq, .inl (co, 1, .inr (.inl fo)))] sz)) 0 0 (va_A [(h0, .inr (10, [.ref fq, .ref sq, .ref gq, .ref nq, .ref dq, .ref pq, .int pl, .int bl, .int tb])), (fq, .inr (4, [.int mc_fq, .ref tE, .int 0])), (nq, .inr (8, [.int hd, .ref tq, .ref zq, .ref wq])), (oq, .inl (co, 1, .inr (.inl fo)))] sz) := by
  refine va_MetW (cc := cL_wouldTurn) (maxL := 4) (ret := (some .int)) (by decide) rfl ?_
  intro p e s m args below meth c s₁ B hml hv
  obtain ⟨rfl, hsz, hP, hK, hD0, hT⟩ := hv
  have hx := B.exec
  have hb := B.bytes
  have hr := B.returns
  have hts := atoms_spec (ws := v_w_wouldTurn_t) B.pre
  have hown : s.vm.findClass RL = some m.cls := findClass_of_methodNamed B.named
  have hlocks := B.notSynchronized
  have hTab : c.exceptionTable.toList = tableOf [(0, 9, 12, 13)] := vx_table (x := yL_wouldTurn) B (hts (.codeWith yL_wouldTurn cL_wouldTurn 4 (some .int) [(0, 9, 12, 13)]) (List.mem_of_getElem? (i := 0) rfl))
  subst hsz
  have hD := hD0.self (sz := s.heap.size)
  generalize hAe : va_A [(h0, .inr (10, [.ref fq, .ref sq, .ref gq, .ref nq, .ref dq, .ref pq, .int pl, .int bl, .int tb])), (fq, .inr (4, [.int mc_fq, .ref tE, .int 0])), (nq, .inr (8, [.int hd, .ref tq, .ref zq, .ref wq])), (oq, .inl (co, 1, .inr (.inl fo)))] s.heap.size = A at hD hT ⊢
  have hA : ∀ q : Nat, s.heap.size ≤ q → A q := fun q h => by rw [← hAe]; exact Or.inr h
  have hS : va_S A s.heap s.heap [] := va_S.rf
  have hl := lv_entry ([.ref h0, .int p0, .ref oq]) (n := 4) (Nat.le_of_ble_eq_true rfl)
  rw [lg_entry_eq]
  generalize (lg_sl ([.ref h0, .int p0, .ref oq]) ++ List.replicate (4 - (lg_sl ([.ref h0, .int p0, .ref oq])).length) Slot.unset).toArray = ls at hl ⊢
  have hl : lv_has ls 4 [(0, .ref h0), (1, .int p0), (2, .ref oq)] := hl
  refine lv_aload_n hx hb dL_wouldTurn_0 rfl (lv_at hl 2 rfl) ?_
  refine lv_iconst (v := 0) hx hb dL_wouldTurn_1 (by decide) ?_
  refine lv_aload_n hx hb dL_wouldTurn_2 rfl (lv_at hl 0 rfl) ?_
  refine lv_iload_n hx hb dL_wouldTurn_3 rfl (lv_at hl 1 rfl) ?_
  have hPc := hP.sub (ws' := [(h0, .inr (10, [.ref fq, .ref sq, .ref gq, .ref nq, .ref dq, .ref pq, .int pl, .int bl, .int tb])), (fq, .inr (4, [.int mc_fq, .ref tE, .int 0])), (nq, .inr (8, [.int hd, .ref tq, .ref zq, .ref wq]))]) [0, 1, 2] rfl
  have hDc := hD.sub (ws' := [(h0, .inr (10, [.ref fq, .ref sq, .ref gq, .ref nq, .ref dq, .ref pq, .int pl, .int bl, .int tb])), (fq, .inr (4, [.int mc_fq, .ref tE, .int 0])), (nq, .inr (8, [.int hd, .ref tq, .ref zq, .ref wq]))]) [0, 1, 2] (by decide) rfl
  have hKc := hK.sub (tys' := []) [] rfl
  have hFc := va_free (wc := [(h0, .inr (10, [.ref fq, .ref sq, .ref gq, .ref nq, .ref dq, .ref pq, .int pl, .int bl, .int tb])), (fq, .inr (4, [.int mc_fq, .ref tE, .int 0])), (nq, .inr (8, [.int hd, .ref tq, .ref zq, .ref wq]))]) hD hS hA [0, 1, 2] rfl
  refine va_calli (va_runV (As := [.int p0]) (rest := [.int 0, .ref oq]) ⟨hx, hb, hml, hown, hts⟩ (c_wouldTurn_t l hl9 dC dI tE h0 fq sq gq nq dq pq pl bl tb mc_fq tq zq wq hd p0 _ h1 h2) (cwV 1 hts (goodIn_app (goodIn_r _ [19, 20, 21, 5] (by rfl) (by decide +kernel)) gg_w_wouldTurn_t_c_wouldTurn_t) rfl rfl rfl (by decide +kernel) ⟨Nat.le_of_ble_eq_true rfl, Nat.le_of_ble_eq_true rfl⟩) ⟨Pre0.blind, va_recv hKc hPc (ci := 10) (q0 := 0) rfl rfl, Pre0.give hPc hKc hDc hT hS hFc⟩ rfl rfl hl.1 rfl (lv_room (Nat.le_of_ble_eq_true rfl)) dL_wouldTurn_4 ⟨Nat.le_of_ble_eq_true rfl, Nat.le_of_ble_eq_true rfl⟩) hS (fun q _ h => hFc q h) hFc (fun r_1 u t H1 locs ht hvm hw hB hz1 hk1 hS => ?_)
  obtain ⟨hP1, hK1, hD1⟩ := hB
  rw [ht] at hP1
  have hK1 := va_K.moved hvm.symm hK1
  obtain ⟨hP, hD⟩ := va_join (wr := [(oq, .inl (co, 1, .inr (.inl fo)))]) (w1 := [(h0, .inr (10, [.ref fq, .ref sq, .ref gq, .ref nq, .ref dq, .ref pq, .int pl, .int bl, .int tb])), (nq, .inr (8, [.int hd, .ref tq, .ref zq, .ref wq])), (fq, .inr (4, [.int mc_fq, .ref tE, .int 0]))]) hP hD [0, 1, 2] [3] rfl rfl (by decide) (by decide) hk1 hFc hP1 hD1
  generalize H1 = H at hP hS ⊢
  have hP : va_P (dC, dI) vwCl [(oq, .inl (co, 1, .inr (.inl fo))), (h0, .inr (10, [.ref fq, .ref sq, .ref gq, .ref nq, .ref dq, .ref pq, .int pl, .int bl, .int tb])), (nq, .inr (8, [.int hd, .ref tq, .ref zq, .ref wq])), (fq, .inr (4, [.int mc_fq, .ref tE, .int 0]))] H := hP
  have hD : va_D A [(oq, .inl (co, 1, .inr (.inl fo))), (h0, .inr (10, [.ref fq, .ref sq, .ref gq, .ref nq, .ref dq, .ref pq, .int pl, .int bl, .int tb])), (nq, .inr (8, [.int hd, .ref tq, .ref zq, .ref wq])), (fq, .inr (4, [.int mc_fq, .ref tE, .int 0]))] := hD
  refine W.widen (k := 0) (n := 0) (by omega) (by omega) ?_
  obtain rfl : r_1 = 0 := hw
  refine lv_i2l (v := 0) hx hb dL_wouldTurn_7 (by decide) ?_
  refine va_last hx hb hK hP hD hS 0 0 rfl rfl (by unfold vp_in; decide) dL_wouldTurn_8 (fun H locs hP hD hS => ?_)
  have hP : va_P (dC, dI) vwCl [(oq, .inl (co, 1, .inr (.inl (vp_updL fo (0 : Int32).toNatClampNeg 0)))), (h0, .inr (10, [.ref fq, .ref sq, .ref gq, .ref nq, .ref dq, .ref pq, .int pl, .int bl, .int tb])), (nq, .inr (8, [.int hd, .ref tq, .ref zq, .ref wq])), (fq, .inr (4, [.int mc_fq, .ref tE, .int 0]))] H := hP
  have hD : va_D A [(oq, .inl (co, 1, .inr (.inl (vp_updL fo (0 : Int32).toNatClampNeg 0)))), (h0, .inr (10, [.ref fq, .ref sq, .ref gq, .ref nq, .ref dq, .ref pq, .int pl, .int bl, .int tb])), (nq, .inr (8, [.int hd, .ref tq, .ref zq, .ref wq])), (fq, .inr (4, [.int mc_fq, .ref tE, .int 0]))] := hD
  refine lv_goto (tgt := 15) hx hb dL_wouldTurn_9 (by decide) ?_
  refine lv_iconst (v := 0) hx hb dL_wouldTurn_15 (by decide) ?_
  have hP9 := hP.sub (ws' := [(oq, .inl (co, 1, .inr (.inl (vp_updL fo (0 : Int32).toNatClampNeg 0)))), (h0, .inr (10, [.ref fq, .ref sq, .ref gq, .ref nq, .ref dq, .ref pq, .int pl, .int bl, .int tb])), (nq, .inr (8, [.int hd, .ref tq, .ref zq, .ref wq])), (fq, .inr (4, [.int mc_fq, .ref tE, .int 0]))]) [0, 1, 2, 3] rfl
  have hD9 := hD.sub (ws' := [(oq, .inl (co, 1, .inr (.inl (vp_updL fo (0 : Int32).toNatClampNeg 0)))), (h0, .inr (10, [.ref fq, .ref sq, .ref gq, .ref nq, .ref dq, .ref pq, .int pl, .int bl, .int tb])), (nq, .inr (8, [.int hd, .ref tq, .ref zq, .ref wq])), (fq, .inr (4, [.int mc_fq, .ref tE, .int 0]))]) [0, 1, 2, 3] (by decide) rfl
  have hK9 := hK.sub (tys' := [(co, .long)]) [0] rfl
  exact W.iret (v := 0) hx hb hr (fun t ht hW => ⟨⟨0, (), rfl, rfl, by rw [ht]; exact hP9, va_K.moved hW.alike hK9, hD9⟩, hS.F ht⟩) hS.2.2 dL_wouldTurn_16
def vh_w_wouldTurn_f : List Cond := .codeWith yL_wouldTurn cL_wouldTurn 4 (some .int) [(0, 9, 12, 13)] :: ([Cond.code yX5_wouldTurn cX5_wouldTurn 5 (some .int), Cond.code yX5_isTone cX5_isTone 1 (some .boolean), Cond.methodLink RX5 211 yX5_isTone, Cond.static yX5_isTone, Cond.initialized RX5, Cond.classLink RX5 42 "java/lang/IllegalArgumentException", Cond.initialized "java/lang/IllegalArgumentException", Cond.methodLink RL 65 yX5_wouldTurn, Cond.instanceMethod yX5_wouldTurn, Cond.selects RX5 yX5_wouldTurn yX5_wouldTurn, Cond.classLink RL 13 "java/lang/IllegalArgumentException"] ++ [])
def v_w_wouldTurn_f : List Cond := vh_w_wouldTurn_f ++ (thrI)
theorem gg_w_wouldTurn_f_c_wouldTurn_f : GoodIn v_w_wouldTurn_f vh_c_wouldTurn_f := goodIn_r _ [1, 2, 3, 4, 5, 6, 7] (by rfl) (by decide +kernel)
theorem gt_w_wouldTurn_f_c_wouldTurn_f : GoodIn v_w_wouldTurn_f v_c_wouldTurn_f := goodIn_app gg_w_wouldTurn_f_c_wouldTurn_f (goodIn_sub (fun _ h => List.mem_append_right _ h) (by decide +kernel))
set_option maxHeartbeats 4000000 in
set_option maxRecDepth 100000 in
theorem w_wouldTurn_f (l : Launch) (hl9 : l.stackTraces = false) (dC : Nat → ClassId) (dI : Nat → Nat → Nat) (tE : Nat) (h0 : Nat) (fq : Nat) (sq : Nat) (gq : Nat) (nq : Nat) (dq : Nat) (pq : Nat) (pl : Int32) (bl : Int32) (tb : Int32) (p0 : Int32) (oq : Nat) (sz : Nat) (h : p0 < 0 ∨ 3 < p0) : Met l yL_wouldTurn v_w_wouldTurn_f ({ frames := 7, cells := 1, slots := 6, locals := 114 }) (va_Pc [.ref h0, .int p0, .ref oq] (Pre0 dC dI tE sz [] [(h0, .inr (10, [.ref fq, .ref sq, .ref gq, .ref nq, .ref dq, .ref pq, .int pl, .int bl, .int tb]))])) (va_Qi (fun (r : Int32) (_ : Unit) => r = 1) (fun _ t => Pst dC dI [] (va_A [(h0, .inr (10, [.ref fq, .ref sq, .ref gq, .ref nq, .ref dq, .ref pq, .int pl, .int bl, .int tb]))] sz) [(h0, .inr (10, [.ref fq, .ref sq, .ref gq, .ref nq, .ref dq, .ref pq, .int pl, .int bl, .int tb]))] t) (va_A [(h0, .inr (10, [.ref fq, .ref sq, .ref gq, .ref nq, .ref dq, .ref pq, .int pl, .int bl, .int tb]))] sz)) 1 6 (va_A [(h0, .inr (10, [.ref fq, .ref sq, .ref gq, .ref nq, .ref dq, .ref pq, .int pl, .int bl, .int tb]))] sz) := by
  refine va_MetW (cc := cL_wouldTurn) (maxL := 4) (ret := (some .int)) (by decide) rfl ?_
  intro p e s m args below meth c s₁ B hml hv
  obtain ⟨rfl, hsz, hP, hK, hD0, hT⟩ := hv
  have hx := B.exec
  have hb := B.bytes
  have hr := B.returns
  have hts := atoms_spec (ws := v_w_wouldTurn_f) B.pre
  have hown : s.vm.findClass RL = some m.cls := findClass_of_methodNamed B.named
  have hlocks := B.notSynchronized
  have hTab : c.exceptionTable.toList = tableOf [(0, 9, 12, 13)] := vx_table (x := yL_wouldTurn) B (hts (.codeWith yL_wouldTurn cL_wouldTurn 4 (some .int) [(0, 9, 12, 13)]) (List.mem_of_getElem? (i := 0) rfl))
  subst hsz
  have hD := hD0.self (sz := s.heap.size)
  generalize hAe : va_A [(h0, .inr (10, [.ref fq, .ref sq, .ref gq, .ref nq, .ref dq, .ref pq, .int pl, .int bl, .int tb]))] s.heap.size = A at hD hT ⊢
  have hA : ∀ q : Nat, s.heap.size ≤ q → A q := fun q h => by rw [← hAe]; exact Or.inr h
  have hS : va_S A s.heap s.heap [] := va_S.rf
  have hl := lv_entry ([.ref h0, .int p0, .ref oq]) (n := 4) (Nat.le_of_ble_eq_true rfl)
  rw [lg_entry_eq]
  generalize (lg_sl ([.ref h0, .int p0, .ref oq]) ++ List.replicate (4 - (lg_sl ([.ref h0, .int p0, .ref oq])).length) Slot.unset).toArray = ls at hl ⊢
  have hl : lv_has ls 4 [(0, .ref h0), (1, .int p0), (2, .ref oq)] := hl
  refine lv_aload_n hx hb dL_wouldTurn_0 rfl (lv_at hl 2 rfl) ?_
  refine lv_iconst (v := 0) hx hb dL_wouldTurn_1 (by decide) ?_
  refine lv_aload_n hx hb dL_wouldTurn_2 rfl (lv_at hl 0 rfl) ?_
  refine lv_iload_n hx hb dL_wouldTurn_3 rfl (lv_at hl 1 rfl) ?_
  have hPc := hP.sub (ws' := [(h0, .inr (10, [.ref fq, .ref sq, .ref gq, .ref nq, .ref dq, .ref pq, .int pl, .int bl, .int tb]))]) [0] rfl
  have hDc := hD.sub (ws' := [(h0, .inr (10, [.ref fq, .ref sq, .ref gq, .ref nq, .ref dq, .ref pq, .int pl, .int bl, .int tb]))]) [0] (by decide) rfl
  have hKc := hK.sub (tys' := []) [] rfl
  have hFc := va_free (wc := [(h0, .inr (10, [.ref fq, .ref sq, .ref gq, .ref nq, .ref dq, .ref pq, .int pl, .int bl, .int tb]))]) hD hS hA [0] rfl
  refine vx_calli (vx_runV (As := [.int p0]) (rest := [.int 0, .ref oq]) ⟨hx, hb, hml, hown, hts⟩ (c_wouldTurn_f l hl9 dC dI tE h0 fq sq gq nq dq pq pl bl tb p0 _ h) (cwV 1 hts (goodIn_app (goodIn_r _ [8, 9, 10, 5] (by rfl) (by decide +kernel)) gt_w_wouldTurn_f_c_wouldTurn_f) rfl rfl rfl (by decide +kernel) ⟨Nat.le_of_ble_eq_true rfl, Nat.le_of_ble_eq_true rfl⟩) ⟨Pre0.blind, va_recv hKc hPc (ci := 10) (q0 := 0) rfl rfl, Pre0.give hPc hKc hDc hT hS hFc⟩ rfl rfl hl.1 rfl (lv_room (Nat.le_of_ble_eq_true rfl)) dL_wouldTurn_4 ⟨Nat.le_of_ble_eq_true rfl, Nat.le_of_ble_eq_true rfl⟩) hS (fun q _ h => hFc q h) hFc (fun q _ h => hFc q h) (fun E ce q9 u t H1 locs ht hvm hpx hB hz1 hk1 hS hce hcv hcl => ?_) (fun r u t H1 locs ht hvm hw hB hz1 hk1 hS => hw.elim)
  obtain ⟨rfl, hP1, hK1, hD1⟩ := hB
  rw [ht] at hP1
  have hK1 := va_K.moved hvm.symm hK1
  obtain ⟨hP, hD⟩ := va_join (wr := []) (w1 := [(h0, .inr (10, [.ref fq, .ref sq, .ref gq, .ref nq, .ref dq, .ref pq, .int pl, .int bl, .int tb]))]) hP hD [0] [] rfl rfl (by decide) (by decide) hk1 hFc hP1 hD1
  generalize H1 = H at hP hS hce ⊢
  have hP : va_P (dC, dI) vwCl [(h0, .inr (10, [.ref fq, .ref sq, .ref gq, .ref nq, .ref dq, .ref pq, .int pl, .int bl, .int tb]))] H := hP
  have hD : va_D A [(h0, .inr (10, [.ref fq, .ref sq, .ref gq, .ref nq, .ref dq, .ref pq, .int pl, .int bl, .int tb]))] := hD
  refine vx_widen (k := 1) (n := 6) (by omega) (by omega) ?_
  refine vx_catch (own := RL) (name := "java/lang/IllegalArgumentException") (E := "java/lang/IllegalArgumentException") hown [] ⟨0, 9, 12, 13⟩ [] (by rw [hTab]; rfl) (fun z hz => nomatch hz) (by decide) (by decide) (hts (.classLink RL 13 "java/lang/IllegalArgumentException") (List.mem_of_getElem? (i := 11) rfl)) (va_Nw.use rfl hT.eI) hce hcv hcl ?_
  refine lv_astore_n (lv' := [(3, .ref q9), (0, .ref h0), (1, .int p0), (2, .ref oq)]) hx hb dL_wouldTurn_12 rfl hl (by decide) rfl (fun ls hl => ?_)
  refine lv_iconst (v := 1) hx hb dL_wouldTurn_13 (by decide) ?_
  have hP9 := hP.sub (ws' := [(h0, .inr (10, [.ref fq, .ref sq, .ref gq, .ref nq, .ref dq, .ref pq, .int pl, .int bl, .int tb]))]) [0] rfl
  have hD9 := hD.sub (ws' := [(h0, .inr (10, [.ref fq, .ref sq, .ref gq, .ref nq, .ref dq, .ref pq, .int pl, .int bl, .int tb]))]) [0] (by decide) rfl
  have hK9 := hK.sub (tys' := []) [] rfl
  exact W.iret (v := 1) hx hb hr (fun t ht hW => ⟨⟨1, (), rfl, rfl, by rw [ht]; exact hP9, va_K.moved hW.alike hK9, hD9⟩, hS.F ht⟩) hS.2.2 dL_wouldTurn_14
def v_w_play_1 : List Cond := .codeWith yL_play cL_play 4 (some .int) [(0, 9, 12, 13)] :: ([Cond.code yX5_play cX5_play 5 (some .int), Cond.code yX5_spanOf cX5_spanOf 4 (some .int), Cond.constant RX5 284 (444444), Cond.methodLink RX5 76 yX5_spanOf, Cond.static yX5_spanOf, Cond.initialized RX5, Cond.code yX5_toneAt cX5_toneAt 2 (some .int), Cond.methodLink RX5 219 yX5_toneAt, Cond.static yX5_toneAt, Cond.code yX5_toll cX5_toll 4 (some .int), Cond.fieldLink RX5 19 "HotelOfBells" "guests" "Ljava/util/ArrayList;", Cond.code yJx4a65c_size_8abf5 cJx4a65c_size_8abf5 1 (some .int), Cond.fieldLink RJx4a65c 48 "java/util/ArrayList" "size" "I", Cond.methodLink RX5 49 yJx4a65c_size_8abf5, Cond.instanceMethod yJx4a65c_size_8abf5, Cond.selects RJx4a65c yJx4a65c_size_8abf5 yJx4a65c_size_8abf5, Cond.initialized RJx4a65c, Cond.fieldLink RX5 200 "HotelOfBells" "bells" "I", Cond.fieldLink RX5 203 "HotelOfBells" "turnsByBells" "I", Cond.fieldLink RX5 25 "HotelOfBells" "now" "LHotelOfBells$Moment;", Cond.code yX5_strike cX5_strike 6 (some .int), Cond.fieldLink RX5 156 "HotelOfBells$Moment" "heard" "I", Cond.code yX5_heardWith cX5_heardWith 2 (some .int), Cond.constant RX5 247 (100000), Cond.methodLink RX5 252 yX5_heardWith, Cond.static yX5_heardWith, Cond.fieldLink RX5 10 "HotelOfBells" "floors" "Ljava/util/ArrayList;", Cond.fieldLink RX5 16 "HotelOfBells" "shafts" "Ljava/util/ArrayList;", Cond.methodLink RX5 237 yX5_strike, Cond.instanceMethod yX5_strike, Cond.selects RX5 yX5_strike yX5_strike, Cond.methodLink RX5 216 yX5_toll, Cond.instanceMethod yX5_toll, Cond.selects RX5 yX5_toll yX5_toll, Cond.methodLink RL 56 yX5_play, Cond.instanceMethod yX5_play, Cond.selects RX5 yX5_play yX5_play] ++ (wsX50 ++ (wsJx4a65c0 ++ (wsX30 ++ []))))
theorem u_w_play_1_X5 : ∀ w ∈ wsX50, w ∈ v_w_play_1 := fun _ h => List.mem_cons_of_mem _ (List.mem_append_right _ (List.mem_append_left _ h))
theorem u_w_play_1_Jx4a65c : ∀ w ∈ wsJx4a65c0, w ∈ v_w_play_1 := fun _ h => List.mem_cons_of_mem _ (List.mem_append_right _ (List.mem_append_right _ (List.mem_append_left _ h)))
theorem u_w_play_1_X3 : ∀ w ∈ wsX30, w ∈ v_w_play_1 := fun _ h => List.mem_cons_of_mem _ (List.mem_append_right _ (List.mem_append_right _ (List.mem_append_right _ (List.mem_append_left _ h))))
theorem gg_w_play_1_c_play_1 : GoodIn v_w_play_1 v_c_play_1 := goodIn_r _ [1, 2, 3, 4, 5, 6, 7, 8, 9, 10, 11, 12, 13, 14, 15, 16, 17, 18, 19, 20, 21, 22, 23, 24, 25, 26, 27, 28, 29, 30, 31, 32, 33, 34, 38, 39, 40, 41, 42, 43, 44, 45, 46, 47, 48, 49, 50, 51, 52, 53] (by rfl) (by decide +kernel)
set_option maxHeartbeats 4000000 in
set_option maxRecDepth 100000 in
theorem w_play_1 (l : Launch) (hl9 : l.stackTraces = false) (dC : Nat → ClassId) (dI : Nat → Nat → Nat) (tE : Nat) (h0 : Nat) (fq : Nat) (sq : Nat) (gq : Nat) (nq : Nat) (dq : Nat) (pq : Nat) (pl : Int32) (bl : Int32) (tb : Int32) (mc_fq : Int32) (mc_sq : Int32) (mc_gq : Int32) (tq : Nat) (zq : Nat) (wq : Nat) (hd : Int32) (p0 : Int32) (oq : Nat) (co : ClassId) (fo : Nat → Int64) (sz : Nat) (hd0 : dgt p0 = 1) : Met l yL_play v_w_play_1 ({ frames := 4, cells := 0, slots := 0, locals := 93 }) (va_Pc [.ref h0, .int p0, .ref oq] (Pre0 dC dI tE sz [(co, .long)] [(h0, .inr (10, [.ref fq, .ref sq, .ref gq, .ref nq, .ref dq, .ref pq, .int pl, .int bl, .int tb])), (fq, .inr (4, [.int mc_fq, .ref tE, .int 0])), (sq, .inr (4, [.int mc_sq, .ref tE, .int 0])), (gq, .inr (4, [.int mc_gq, .ref tE, .int 0])), (nq, .inr (8, [.int hd, .ref tq, .ref zq, .ref wq])), (oq, .inl (co, 1, .inr (.inl fo)))])) (va_Qi (fun (r : Int32) (_ : Unit) => r = 0) (fun _ t => ∃ (vx0 : Int32), ∃ (vx1 : Int32), ∃ (vx2 : Int32), Pst dC dI [(co, .long)] (va_A [(h0, .inr (10, [.ref fq, .ref sq, .ref gq, .ref nq, .ref dq, .ref pq, .int pl, .int bl, .int tb])), (fq, .inr (4, [.int mc_fq, .ref tE, .int 0])), (sq, .inr (4, [.int mc_sq, .ref tE, .int 0])), (gq, .inr (4, [.int mc_gq, .ref tE, .int 0])), (nq, .inr (8, [.int hd, .ref tq, .ref zq, .ref wq])), (oq, .inl (co, 1, .inr (.inl fo)))] sz) [(oq, .inl (co, 1, .inr (.inl (vp_updL fo (0 : Int32).toNatClampNeg 0)))), (h0, .inr (10, [.ref fq, .ref sq, .ref gq, .ref nq, .ref dq, .ref pq, .int pl, .int vx0, .int vx1])), (nq, .inr (8, [.int vx2, .ref tq, .ref zq, .ref wq])), (fq, .inr (4, [.int mc_fq, .ref tE, .int 0])), (sq, .inr (4, [.int mc_sq, .ref tE, .int 0])), (gq, .inr (4, [.int mc_gq, .ref tE, .int 0]))] t) (va_A [(h0, .inr (10, [.ref fq, .ref sq, .ref gq, .ref nq, .ref dq, .ref pq, .int pl, .int bl, .int tb])), (fq, .inr (4, [.int mc_fq, .ref tE, .int 0])), (sq, .inr (4, [.int mc_sq, .ref tE, .int 0])), (gq, .inr (4, [.int mc_gq, .ref tE, .int 0])), (nq, .inr (8, [.int hd, .ref tq, .ref zq, .ref wq])), (oq, .inl (co, 1, .inr (.inl fo)))] sz)) 0 0 (va_A [(h0, .inr (10, [.ref fq, .ref sq, .ref gq, .ref nq, .ref dq, .ref pq, .int pl, .int bl, .int tb])), (fq, .inr (4, [.int mc_fq, .ref tE, .int 0])), (sq, .inr (4, [.int mc_sq, .ref tE, .int 0])), (gq, .inr (4, [.int mc_gq, .ref tE, .int 0])), (nq, .inr (8, [.int hd, .ref tq, .ref zq, .ref wq])), (oq, .inl (co, 1, .inr (.inl fo)))] sz) := by
  refine va_MetW (cc := cL_play) (maxL := 4) (ret := (some .int)) (by decide) rfl ?_
  intro p e s m args below meth c s₁ B hml hv
  obtain ⟨rfl, hsz, hP, hK, hD0, hT⟩ := hv
  have hx := B.exec
  have hb := B.bytes
  have hr := B.returns
  have hts := atoms_spec (ws := v_w_play_1) B.pre
  have hown : s.vm.findClass RL = some m.cls := findClass_of_methodNamed B.named
  have hlocks := B.notSynchronized
  have hTab : c.exceptionTable.toList = tableOf [(0, 9, 12, 13)] := vx_table (x := yL_play) B (hts (.codeWith yL_play cL_play 4 (some .int) [(0, 9, 12, 13)]) (List.mem_of_getElem? (i := 0) rfl))
  subst hsz
  have hD := hD0.self (sz := s.heap.size)
  generalize hAe : va_A [(h0, .inr (10, [.ref fq, .ref sq, .ref gq, .ref nq, .ref dq, .ref pq, .int pl, .int bl, .int tb])), (fq, .inr (4, [.int mc_fq, .ref tE, .int 0])), (sq, .inr (4, [.int mc_sq, .ref tE, .int 0])), (gq, .inr (4, [.int mc_gq, .ref tE, .int 0])), (nq, .inr (8, [.int hd, .ref tq, .ref zq, .ref wq])), (oq, .inl (co, 1, .inr (.inl fo)))] s.heap.size = A at hD hT ⊢
  have hA : ∀ q : Nat, s.heap.size ≤ q → A q := fun q h => by rw [← hAe]; exact Or.inr h
  have hS : va_S A s.heap s.heap [] := va_S.rf
  have hl := lv_entry ([.ref h0, .int p0, .ref oq]) (n := 4) (Nat.le_of_ble_eq_true rfl)
  rw [lg_entry_eq]
  generalize (lg_sl ([.ref h0, .int p0, .ref oq]) ++ List.replicate (4 - (lg_sl ([.ref h0, .int p0, .ref oq])).length) Slot.unset).toArray = ls at hl ⊢
  have hl : lv_has ls 4 [(0, .ref h0), (1, .int p0), (2, .ref oq)] := hl
  refine lv_aload_n hx hb dL_play_0 rfl (lv_at hl 2 rfl) ?_
  refine lv_iconst (v := 0) hx hb dL_play_1 (by decide) ?_
  refine lv_aload_n hx hb dL_play_2 rfl (lv_at hl 0 rfl) ?_
  refine lv_iload_n hx hb dL_play_3 rfl (lv_at hl 1 rfl) ?_
  have hPc := hP.sub (ws' := [(h0, .inr (10, [.ref fq, .ref sq, .ref gq, .ref nq, .ref dq, .ref pq, .int pl, .int bl, .int tb])), (fq, .inr (4, [.int mc_fq, .ref tE, .int 0])), (sq, .inr (4, [.int mc_sq, .ref tE, .int 0])), (gq, .inr (4, [.int mc_gq, .ref tE, .int 0])), (nq, .inr (8, [.int hd, .ref tq, .ref zq, .ref wq]))]) [0, 1, 2, 3, 4] rfl
  have hDc := hD.sub (ws' := [(h0, .inr (10, [.ref fq, .ref sq, .ref gq, .ref nq, .ref dq, .ref pq, .int pl, .int bl, .int tb])), (fq, .inr (4, [.int mc_fq, .ref tE, .int 0])), (sq, .inr (4, [.int mc_sq, .ref tE, .int 0])), (gq, .inr (4, [.int mc_gq, .ref tE, .int 0])), (nq, .inr (8, [.int hd, .ref tq, .ref zq, .ref wq]))]) [0, 1, 2, 3, 4] (by decide) rfl
  have hKc := hK.sub (tys' := []) [] rfl
  have hFc := va_free (wc := [(h0, .inr (10, [.ref fq, .ref sq, .ref gq, .ref nq, .ref dq, .ref pq, .int pl, .int bl, .int tb])), (fq, .inr (4, [.int mc_fq, .ref tE, .int 0])), (sq, .inr (4, [.int mc_sq, .ref tE, .int 0])), (gq, .inr (4, [.int mc_gq, .ref tE, .int 0])), (nq, .inr (8, [.int hd, .ref tq, .ref zq, .ref wq]))]) hD hS hA [0, 1, 2, 3, 4] rfl
  refine va_calli (va_runV (As := [.int p0]) (rest := [.int 0, .ref oq]) ⟨hx, hb, hml, hown, hts⟩ (c_play_1 l hl9 dC dI tE h0 fq sq gq nq dq pq pl bl tb mc_fq mc_sq mc_gq tq zq wq hd p0 _ hd0) (cwV 1 hts (goodIn_app (goodIn_r _ [35, 36, 37, 6] (by rfl) (by decide +kernel)) gg_w_play_1_c_play_1) rfl rfl rfl (by decide +kernel) ⟨Nat.le_of_ble_eq_true rfl, Nat.le_of_ble_eq_true rfl⟩) ⟨Pre0.blind, va_recv hKc hPc (ci := 10) (q0 := 0) rfl rfl, Pre0.give hPc hKc hDc hT hS hFc⟩ rfl rfl hl.1 rfl (lv_room (Nat.le_of_ble_eq_true rfl)) dL_play_4 ⟨Nat.le_of_ble_eq_true rfl, Nat.le_of_ble_eq_true rfl⟩) hS (fun q _ h => hFc q h) hFc (fun r_1 u t H1 locs ht hvm hw hB hz1 hk1 hS => ?_)
  obtain ⟨vx_2, vx_3, vx_4, hP1, hK1, hD1⟩ := hB
  rw [ht] at hP1
  have hK1 := va_K.moved hvm.symm hK1
  obtain ⟨hP, hD⟩ := va_join (wr := [(oq, .inl (co, 1, .inr (.inl fo)))]) (w1 := [(h0, .inr (10, [.ref fq, .ref sq, .ref gq, .ref nq, .ref dq, .ref pq, .int pl, .int vx_2, .int vx_3])), (nq, .inr (8, [.int vx_4, .ref tq, .ref zq, .ref wq])), (fq, .inr (4, [.int mc_fq, .ref tE, .int 0])), (sq, .inr (4, [.int mc_sq, .ref tE, .int 0])), (gq, .inr (4, [.int mc_gq, .ref tE, .int 0]))]) hP hD [0, 1, 2, 3, 4] [5] rfl rfl (by decide) (by decide) hk1 hFc hP1 hD1
  generalize H1 = H at hP hS ⊢
  have hP : va_P (dC, dI) vwCl [(oq, .inl (co, 1, .inr (.inl fo))), (h0, .inr (10, [.ref fq, .ref sq, .ref gq, .ref nq, .ref dq, .ref pq, .int pl, .int vx_2, .int vx_3])), (nq, .inr (8, [.int vx_4, .ref tq, .ref zq, .ref wq])), (fq, .inr (4, [.int mc_fq, .ref tE, .int 0])), (sq, .inr (4, [.int mc_sq, .ref tE, .int 0])), (gq, .inr (4, [.int mc_gq, .ref tE, .int 0]))] H := hP
  have hD : va_D A [(oq, .inl (co, 1, .inr (.inl fo))), (h0, .inr (10, [.ref fq, .ref sq, .ref gq, .ref nq, .ref dq, .ref pq, .int pl, .int vx_2, .int vx_3])), (nq, .inr (8, [.int vx_4, .ref tq, .ref zq, .ref wq])), (fq, .inr (4, [.int mc_fq, .ref tE, .int 0])), (sq, .inr (4, [.int mc_sq, .ref tE, .int 0])), (gq, .inr (4, [.int mc_gq, .ref tE, .int 0]))] := hD
  refine W.widen (k := 0) (n := 0) (by omega) (by omega) ?_
  obtain rfl : r_1 = 0 := hw
  refine lv_i2l (v := 0) hx hb dL_play_7 (by decide) ?_
  refine va_last hx hb hK hP hD hS 0 0 rfl rfl (by unfold vp_in; decide) dL_play_8 (fun H locs hP hD hS => ?_)
  have hP : va_P (dC, dI) vwCl [(oq, .inl (co, 1, .inr (.inl (vp_updL fo (0 : Int32).toNatClampNeg 0)))), (h0, .inr (10, [.ref fq, .ref sq, .ref gq, .ref nq, .ref dq, .ref pq, .int pl, .int vx_2, .int vx_3])), (nq, .inr (8, [.int vx_4, .ref tq, .ref zq, .ref wq])), (fq, .inr (4, [.int mc_fq, .ref tE, .int 0])), (sq, .inr (4, [.int mc_sq, .ref tE, .int 0])), (gq, .inr (4, [.int mc_gq, .ref tE, .int 0]))] H := hP
  have hD : va_D A [(oq, .inl (co, 1, .inr (.inl (vp_updL fo (0 : Int32).toNatClampNeg 0)))), (h0, .inr (10, [.ref fq, .ref sq, .ref gq, .ref nq, .ref dq, .ref pq, .int pl, .int vx_2, .int vx_3])), (nq, .inr (8, [.int vx_4, .ref tq, .ref zq, .ref wq])), (fq, .inr (4, [.int mc_fq, .ref tE, .int 0])), (sq, .inr (4, [.int mc_sq, .ref tE, .int 0])), (gq, .inr (4, [.int mc_gq, .ref tE, .int 0]))] := hD
  refine lv_goto (tgt := 15) hx hb dL_play_9 (by decide) ?_
  refine lv_iconst (v := 0) hx hb dL_play_15 (by decide) ?_
  have hP9 := hP.sub (ws' := [(oq, .inl (co, 1, .inr (.inl (vp_updL fo (0 : Int32).toNatClampNeg 0)))), (h0, .inr (10, [.ref fq, .ref sq, .ref gq, .ref nq, .ref dq, .ref pq, .int pl, .int vx_2, .int vx_3])), (nq, .inr (8, [.int vx_4, .ref tq, .ref zq, .ref wq])), (fq, .inr (4, [.int mc_fq, .ref tE, .int 0])), (sq, .inr (4, [.int mc_sq, .ref tE, .int 0])), (gq, .inr (4, [.int mc_gq, .ref tE, .int 0]))]) [0, 1, 2, 3, 4, 5] rfl
  have hD9 := hD.sub (ws' := [(oq, .inl (co, 1, .inr (.inl (vp_updL fo (0 : Int32).toNatClampNeg 0)))), (h0, .inr (10, [.ref fq, .ref sq, .ref gq, .ref nq, .ref dq, .ref pq, .int pl, .int vx_2, .int vx_3])), (nq, .inr (8, [.int vx_4, .ref tq, .ref zq, .ref wq])), (fq, .inr (4, [.int mc_fq, .ref tE, .int 0])), (sq, .inr (4, [.int mc_sq, .ref tE, .int 0])), (gq, .inr (4, [.int mc_gq, .ref tE, .int 0]))]) [0, 1, 2, 3, 4, 5] (by decide) rfl
  have hK9 := hK.sub (tys' := [(co, .long)]) [0] rfl
  exact W.iret (v := 0) hx hb hr (fun t ht hW => ⟨⟨0, (), rfl, rfl, vx_2, vx_3, vx_4, by rw [ht]; exact hP9, va_K.moved hW.alike hK9, hD9⟩, hS.F ht⟩) hS.2.2 dL_play_16
def v_w_play_2 : List Cond := .codeWith yL_play cL_play 4 (some .int) [(0, 9, 12, 13)] :: ([Cond.code yX5_play cX5_play 5 (some .int), Cond.code yX5_spanOf cX5_spanOf 4 (some .int), Cond.constant RX5 284 (444444), Cond.methodLink RX5 76 yX5_spanOf, Cond.static yX5_spanOf, Cond.initialized RX5, Cond.code yX5_toneAt cX5_toneAt 2 (some .int), Cond.methodLink RX5 219 yX5_toneAt, Cond.static yX5_toneAt, Cond.code yX5_toll cX5_toll 4 (some .int), Cond.fieldLink RX5 19 "HotelOfBells" "guests" "Ljava/util/ArrayList;", Cond.code yJx4a65c_size_8abf5 cJx4a65c_size_8abf5 1 (some .int), Cond.fieldLink RJx4a65c 48 "java/util/ArrayList" "size" "I", Cond.methodLink RX5 49 yJx4a65c_size_8abf5, Cond.instanceMethod yJx4a65c_size_8abf5, Cond.selects RJx4a65c yJx4a65c_size_8abf5 yJx4a65c_size_8abf5, Cond.initialized RJx4a65c, Cond.fieldLink RX5 200 "HotelOfBells" "bells" "I", Cond.fieldLink RX5 203 "HotelOfBells" "turnsByBells" "I", Cond.fieldLink RX5 25 "HotelOfBells" "now" "LHotelOfBells$Moment;", Cond.code yX5_strike cX5_strike 6 (some .int), Cond.fieldLink RX5 156 "HotelOfBells$Moment" "heard" "I", Cond.code yX5_heardWith cX5_heardWith 2 (some .int), Cond.constant RX5 247 (100000), Cond.methodLink RX5 252 yX5_heardWith, Cond.static yX5_heardWith, Cond.fieldLink RX5 10 "HotelOfBells" "floors" "Ljava/util/ArrayList;", Cond.fieldLink RX5 16 "HotelOfBells" "shafts" "Ljava/util/ArrayList;", Cond.methodLink RX5 237 yX5_strike, Cond.instanceMethod yX5_strike, Cond.selects RX5 yX5_strike yX5_strike, Cond.methodLink RX5 216 yX5_toll, Cond.instanceMethod yX5_toll, Cond.selects RX5 yX5_toll yX5_toll, Cond.methodLink RL 56 yX5_play, Cond.instanceMethod yX5_play, Cond.selects RX5 yX5_play yX5_play] ++ (wsX50 ++ (wsJx4a65c0 ++ (wsX30 ++ []))))
theorem u_w_play_2_X5 : ∀ w ∈ wsX50, w ∈ v_w_play_2 := fun _ h => List.mem_cons_of_mem _ (List.mem_append_right _ (List.mem_append_left _ h))
theorem u_w_play_2_Jx4a65c : ∀ w ∈ wsJx4a65c0, w ∈ v_w_play_2 := fun _ h => List.mem_cons_of_mem _ (List.mem_append_right _ (List.mem_append_right _ (List.mem_append_left _ h)))
theorem u_w_play_2_X3 : ∀ w ∈ wsX30, w ∈ v_w_play_2 := fun _ h => List.mem_cons_of_mem _ (List.mem_append_right _ (List.mem_append_right _ (List.mem_append_right _ (List.mem_append_left _ h))))
theorem gg_w_play_2_c_play_2 : GoodIn v_w_play_2 v_c_play_2 := goodIn_r _ [1, 2, 3, 4, 5, 6, 7, 8, 9, 10, 11, 12, 13, 14, 15, 16, 17, 18, 19, 20, 21, 22, 23, 24, 25, 26, 27, 28, 29, 30, 31, 32, 33, 34, 38, 39, 40, 41, 42, 43, 44, 45, 46, 47, 48, 49, 50, 51, 52, 53] (by rfl) (by decide +kernel)
set_option maxHeartbeats 4000000 in
set_option maxRecDepth 100000 in
theorem w_play_2 (l : Launch) (hl9 : l.stackTraces = false) (dC : Nat → ClassId) (dI : Nat → Nat → Nat) (tE : Nat) (h0 : Nat) (fq : Nat) (sq : Nat) (gq : Nat) (nq : Nat) (dq : Nat) (pq : Nat) (pl : Int32) (bl : Int32) (tb : Int32) (mc_fq : Int32) (mc_sq : Int32) (mc_gq : Int32) (tq : Nat) (zq : Nat) (wq : Nat) (hd : Int32) (p0 : Int32) (oq : Nat) (co : ClassId) (fo : Nat → Int64) (sz : Nat) (hd0 : dgt p0 = 2) : Met l yL_play v_w_play_2 ({ frames := 4, cells := 0, slots := 0, locals := 93 }) (va_Pc [.ref h0, .int p0, .ref oq] (Pre0 dC dI tE sz [(co, .long)] [(h0, .inr (10, [.ref fq, .ref sq, .ref gq, .ref nq, .ref dq, .ref pq, .int pl, .int bl, .int tb])), (fq, .inr (4, [.int mc_fq, .ref tE, .int 0])), (sq, .inr (4, [.int mc_sq, .ref tE, .int 0])), (gq, .inr (4, [.int mc_gq, .ref tE, .int 0])), (nq, .inr (8, [.int hd, .ref tq, .ref zq, .ref wq])), (oq, .inl (co, 1, .inr (.inl fo)))])) (va_Qi (fun (r : Int32) (_ : Unit) => r = 0) (fun _ t => ∃ (vx0 : Int32), ∃ (vx1 : Int32), ∃ (vx2 : Int32), Pst dC dI [(co, .long)] (va_A [(h0, .inr (10, [.ref fq, .ref sq, .ref gq, .ref nq, .ref dq, .ref pq, .int pl, .int bl, .int tb])), (fq, .inr (4, [.int mc_fq, .ref tE, .int 0])), (sq, .inr (4, [.int mc_sq, .ref tE, .int 0])), (gq, .inr (4, [.int mc_gq, .ref tE, .int 0])), (nq, .inr (8, [.int hd, .ref tq, .ref zq, .ref wq])), (oq, .inl (co, 1, .inr (.inl fo)))] sz) [(oq, .inl (co, 1, .inr (.inl (vp_updL fo (0 : Int32).toNatClampNeg 0)))), (h0, .inr (10, [.ref fq, .ref sq, .ref gq, .ref nq, .ref dq, .ref pq, .int pl, .int vx0, .int vx1])), (nq, .inr (8, [.int vx2, .ref tq, .ref zq, .ref wq])), (fq, .inr (4, [.int mc_fq, .ref tE, .int 0])), (sq, .inr (4, [.int mc_sq, .ref tE, .int 0])), (gq, .inr (4, [.int mc_gq, .ref tE, .int 0]))] t) (va_A [(h0, .inr (10, [.ref fq, .ref sq, .ref gq, .ref nq, .ref dq, .ref pq, .int pl, .int bl, .int tb])), (fq, .inr (4, [.int mc_fq, .ref tE, .int 0])), (sq, .inr (4, [.int mc_sq, .ref tE, .int 0])), (gq, .inr (4, [.int mc_gq, .ref tE, .int 0])), (nq, .inr (8, [.int hd, .ref tq, .ref zq, .ref wq])), (oq, .inl (co, 1, .inr (.inl fo)))] sz)) 0 0 (va_A [(h0, .inr (10, [.ref fq, .ref sq, .ref gq, .ref nq, .ref dq, .ref pq, .int pl, .int bl, .int tb])), (fq, .inr (4, [.int mc_fq, .ref tE, .int 0])), (sq, .inr (4, [.int mc_sq, .ref tE, .int 0])), (gq, .inr (4, [.int mc_gq, .ref tE, .int 0])), (nq, .inr (8, [.int hd, .ref tq, .ref zq, .ref wq])), (oq, .inl (co, 1, .inr (.inl fo)))] sz) := by
  refine va_MetW (cc := cL_play) (maxL := 4) (ret := (some .int)) (by decide) rfl ?_
  intro p e s m args below meth c s₁ B hml hv
  obtain ⟨rfl, hsz, hP, hK, hD0, hT⟩ := hv
  have hx := B.exec
  have hb := B.bytes
  have hr := B.returns
  have hts := atoms_spec (ws := v_w_play_2) B.pre
  have hown : s.vm.findClass RL = some m.cls := findClass_of_methodNamed B.named
  have hlocks := B.notSynchronized
  have hTab : c.exceptionTable.toList = tableOf [(0, 9, 12, 13)] := vx_table (x := yL_play) B (hts (.codeWith yL_play cL_play 4 (some .int) [(0, 9, 12, 13)]) (List.mem_of_getElem? (i := 0) rfl))
  subst hsz
  have hD := hD0.self (sz := s.heap.size)
  generalize hAe : va_A [(h0, .inr (10, [.ref fq, .ref sq, .ref gq, .ref nq, .ref dq, .ref pq, .int pl, .int bl, .int tb])), (fq, .inr (4, [.int mc_fq, .ref tE, .int 0])), (sq, .inr (4, [.int mc_sq, .ref tE, .int 0])), (gq, .inr (4, [.int mc_gq, .ref tE, .int 0])), (nq, .inr (8, [.int hd, .ref tq, .ref zq, .ref wq])), (oq, .inl (co, 1, .inr (.inl fo)))] s.heap.size = A at hD hT ⊢
  have hA : ∀ q : Nat, s.heap.size ≤ q → A q := fun q h => by rw [← hAe]; exact Or.inr h
  have hS : va_S A s.heap s.heap [] := va_S.rf
  have hl := lv_entry ([.ref h0, .int p0, .ref oq]) (n := 4) (Nat.le_of_ble_eq_true rfl)
  rw [lg_entry_eq]
  generalize (lg_sl ([.ref h0, .int p0, .ref oq]) ++ List.replicate (4 - (lg_sl ([.ref h0, .int p0, .ref oq])).length) Slot.unset).toArray = ls at hl ⊢
  have hl : lv_has ls 4 [(0, .ref h0), (1, .int p0), (2, .ref oq)] := hl
  refine lv_aload_n hx hb dL_play_0 rfl (lv_at hl 2 rfl) ?_
  refine lv_iconst (v := 0) hx hb dL_play_1 (by decide) ?_
  refine lv_aload_n hx hb dL_play_2 rfl (lv_at hl 0 rfl) ?_
  refine lv_iload_n hx hb dL_play_3 rfl (lv_at hl 1 rfl) ?_
  have hPc := hP.sub (ws' := [(h0, .inr (10, [.ref fq, .ref sq, .ref gq, .ref nq, .ref dq, .ref pq, .int pl, .int bl, .int tb])), (fq, .inr (4, [.int mc_fq, .ref tE, .int 0])), (sq, .inr (4, [.int mc_sq, .ref tE, .int 0])), (gq, .inr (4, [.int mc_gq, .ref tE, .int 0])), (nq, .inr (8, [.int hd, .ref tq, .ref zq, .ref wq]))]) [0, 1, 2, 3, 4] rfl
  have hDc := hD.sub (ws' := [(h0, .inr (10, [.ref fq, .ref sq, .ref gq, .ref nq, .ref dq, .ref pq, .int pl, .int bl, .int tb])), (fq, .inr (4, [.int mc_fq, .ref tE, .int 0])), (sq, .inr (4, [.int mc_sq, .ref tE, .int 0])), (gq, .inr (4, [.int mc_gq, .ref tE, .int 0])), (nq, .inr (8, [.int hd, .ref tq, .ref zq, .ref wq]))]) [0, 1, 2, 3, 4] (by decide) rfl
  have hKc := hK.sub (tys' := []) [] rfl
  have hFc := va_free (wc := [(h0, .inr (10, [.ref fq, .ref sq, .ref gq, .ref nq, .ref dq, .ref pq, .int pl, .int bl, .int tb])), (fq, .inr (4, [.int mc_fq, .ref tE, .int 0])), (sq, .inr (4, [.int mc_sq, .ref tE, .int 0])), (gq, .inr (4, [.int mc_gq, .ref tE, .int 0])), (nq, .inr (8, [.int hd, .ref tq, .ref zq, .ref wq]))]) hD hS hA [0, 1, 2, 3, 4] rfl
  refine va_calli (va_runV (As := [.int p0]) (rest := [.int 0, .ref oq]) ⟨hx, hb, hml, hown, hts⟩ (c_play_2 l hl9 dC dI tE h0 fq sq gq nq dq pq pl bl tb mc_fq mc_sq mc_gq tq zq wq hd p0 _ hd0) (cwV 1 hts (goodIn_app (goodIn_r _ [35, 36, 37, 6] (by rfl) (by decide +kernel)) gg_w_play_2_c_play_2) rfl rfl rfl (by decide +kernel) ⟨Nat.le_of_ble_eq_true rfl, Nat.le_of_ble_eq_true rfl⟩) ⟨Pre0.blind, va_recv hKc hPc (ci := 10) (q0 := 0) rfl rfl, Pre0.give hPc hKc hDc hT hS hFc⟩ rfl rfl hl.1 rfl (lv_room (Nat.le_of_ble_eq_true rfl)) dL_play_4 ⟨Nat.le_of_ble_eq_true rfl, Nat.le_of_ble_eq_true rfl⟩) hS (fun q _ h => hFc q h) hFc (fun r_1 u t H1 locs ht hvm hw hB hz1 hk1 hS => ?_)
  obtain ⟨vx_2, vx_3, vx_4, hP1, hK1, hD1⟩ := hB
  rw [ht] at hP1
  have hK1 := va_K.moved hvm.symm hK1
  obtain ⟨hP, hD⟩ := va_join (wr := [(oq, .inl (co, 1, .inr (.inl fo)))]) (w1 := [(h0, .inr (10, [.ref fq, .ref sq, .ref gq, .ref nq, .ref dq, .ref pq, .int pl, .int vx_2, .int vx_3])), (nq, .inr (8, [.int vx_4, .ref tq, .ref zq, .ref wq])), (fq, .inr (4, [.int mc_fq, .ref tE, .int 0])), (sq, .inr (4, [.int mc_sq, .ref tE, .int 0])), (gq, .inr (4, [.int mc_gq, .ref tE, .int 0]))]) hP hD [0, 1, 2, 3, 4] [5] rfl rfl (by decide) (by decide) hk1 hFc hP1 hD1
  generalize H1 = H at hP hS ⊢
  have hP : va_P (dC, dI) vwCl [(oq, .inl (co, 1, .inr (.inl fo))), (h0, .inr (10, [.ref fq, .ref sq, .ref gq, .ref nq, .ref dq, .ref pq, .int pl, .int vx_2, .int vx_3])), (nq, .inr (8, [.int vx_4, .ref tq, .ref zq, .ref wq])), (fq, .inr (4, [.int mc_fq, .ref tE, .int 0])), (sq, .inr (4, [.int mc_sq, .ref tE, .int 0])), (gq, .inr (4, [.int mc_gq, .ref tE, .int 0]))] H := hP
  have hD : va_D A [(oq, .inl (co, 1, .inr (.inl fo))), (h0, .inr (10, [.ref fq, .ref sq, .ref gq, .ref nq, .ref dq, .ref pq, .int pl, .int vx_2, .int vx_3])), (nq, .inr (8, [.int vx_4, .ref tq, .ref zq, .ref wq])), (fq, .inr (4, [.int mc_fq, .ref tE, .int 0])), (sq, .inr (4, [.int mc_sq, .ref tE, .int 0])), (gq, .inr (4, [.int mc_gq, .ref tE, .int 0]))] := hD
  refine W.widen (k := 0) (n := 0) (by omega) (by omega) ?_
  obtain rfl : r_1 = 0 := hw
  refine lv_i2l (v := 0) hx hb dL_play_7 (by decide) ?_
  refine va_last hx hb hK hP hD hS 0 0 rfl rfl (by unfold vp_in; decide) dL_play_8 (fun H locs hP hD hS => ?_)
  have hP : va_P (dC, dI) vwCl [(oq, .inl (co, 1, .inr (.inl (vp_updL fo (0 : Int32).toNatClampNeg 0)))), (h0, .inr (10, [.ref fq, .ref sq, .ref gq, .ref nq, .ref dq, .ref pq, .int pl, .int vx_2, .int vx_3])), (nq, .inr (8, [.int vx_4, .ref tq, .ref zq, .ref wq])), (fq, .inr (4, [.int mc_fq, .ref tE, .int 0])), (sq, .inr (4, [.int mc_sq, .ref tE, .int 0])), (gq, .inr (4, [.int mc_gq, .ref tE, .int 0]))] H := hP
  have hD : va_D A [(oq, .inl (co, 1, .inr (.inl (vp_updL fo (0 : Int32).toNatClampNeg 0)))), (h0, .inr (10, [.ref fq, .ref sq, .ref gq, .ref nq, .ref dq, .ref pq, .int pl, .int vx_2, .int vx_3])), (nq, .inr (8, [.int vx_4, .ref tq, .ref zq, .ref wq])), (fq, .inr (4, [.int mc_fq, .ref tE, .int 0])), (sq, .inr (4, [.int mc_sq, .ref tE, .int 0])), (gq, .inr (4, [.int mc_gq, .ref tE, .int 0]))] := hD
  refine lv_goto (tgt := 15) hx hb dL_play_9 (by decide) ?_
  refine lv_iconst (v := 0) hx hb dL_play_15 (by decide) ?_
  have hP9 := hP.sub (ws' := [(oq, .inl (co, 1, .inr (.inl (vp_updL fo (0 : Int32).toNatClampNeg 0)))), (h0, .inr (10, [.ref fq, .ref sq, .ref gq, .ref nq, .ref dq, .ref pq, .int pl, .int vx_2, .int vx_3])), (nq, .inr (8, [.int vx_4, .ref tq, .ref zq, .ref wq])), (fq, .inr (4, [.int mc_fq, .ref tE, .int 0])), (sq, .inr (4, [.int mc_sq, .ref tE, .int 0])), (gq, .inr (4, [.int mc_gq, .ref tE, .int 0]))]) [0, 1, 2, 3, 4, 5] rfl
  have hD9 := hD.sub (ws' := [(oq, .inl (co, 1, .inr (.inl (vp_updL fo (0 : Int32).toNatClampNeg 0)))), (h0, .inr (10, [.ref fq, .ref sq, .ref gq, .ref nq, .ref dq, .ref pq, .int pl, .int vx_2, .int vx_3])), (nq, .inr (8, [.int vx_4, .ref tq, .ref zq, .ref wq])), (fq, .inr (4, [.int mc_fq, .ref tE, .int 0])), (sq, .inr (4, [.int mc_sq, .ref tE, .int 0])), (gq, .inr (4, [.int mc_gq, .ref tE, .int 0]))]) [0, 1, 2, 3, 4, 5] (by decide) rfl
  have hK9 := hK.sub (tys' := [(co, .long)]) [0] rfl
  exact W.iret (v := 0) hx hb hr (fun t ht hW => ⟨⟨0, (), rfl, rfl, vx_2, vx_3, vx_4, by rw [ht]; exact hP9, va_K.moved hW.alike hK9, hD9⟩, hS.F ht⟩) hS.2.2 dL_play_16
def v_w_play_3 : List Cond := .codeWith yL_play cL_play 4 (some .int) [(0, 9, 12, 13)] :: ([Cond.code yX5_play cX5_play 5 (some .int), Cond.code yX5_spanOf cX5_spanOf 4 (some .int), Cond.constant RX5 284 (444444), Cond.methodLink RX5 76 yX5_spanOf, Cond.static yX5_spanOf, Cond.initialized RX5, Cond.code yX5_toneAt cX5_toneAt 2 (some .int), Cond.methodLink RX5 219 yX5_toneAt, Cond.static yX5_toneAt, Cond.code yX5_toll cX5_toll 4 (some .int), Cond.fieldLink RX5 19 "HotelOfBells" "guests" "Ljava/util/ArrayList;", Cond.code yJx4a65c_size_8abf5 cJx4a65c_size_8abf5 1 (some .int), Cond.fieldLink RJx4a65c 48 "java/util/ArrayList" "size" "I", Cond.methodLink RX5 49 yJx4a65c_size_8abf5, Cond.instanceMethod yJx4a65c_size_8abf5, Cond.selects RJx4a65c yJx4a65c_size_8abf5 yJx4a65c_size_8abf5, Cond.initialized RJx4a65c, Cond.fieldLink RX5 200 "HotelOfBells" "bells" "I", Cond.fieldLink RX5 203 "HotelOfBells" "turnsByBells" "I", Cond.fieldLink RX5 25 "HotelOfBells" "now" "LHotelOfBells$Moment;", Cond.code yX5_strike cX5_strike 6 (some .int), Cond.fieldLink RX5 156 "HotelOfBells$Moment" "heard" "I", Cond.code yX5_heardWith cX5_heardWith 2 (some .int), Cond.constant RX5 247 (100000), Cond.methodLink RX5 252 yX5_heardWith, Cond.static yX5_heardWith, Cond.fieldLink RX5 10 "HotelOfBells" "floors" "Ljava/util/ArrayList;", Cond.fieldLink RX5 16 "HotelOfBells" "shafts" "Ljava/util/ArrayList;", Cond.methodLink RX5 237 yX5_strike, Cond.instanceMethod yX5_strike, Cond.selects RX5 yX5_strike yX5_strike, Cond.methodLink RX5 216 yX5_toll, Cond.instanceMethod yX5_toll, Cond.selects RX5 yX5_toll yX5_toll, Cond.methodLink RL 56 yX5_play, Cond.instanceMethod yX5_play, Cond.selects RX5 yX5_play yX5_play] ++ (wsX50 ++ (wsJx4a65c0 ++ (wsX30 ++ []))))
theorem u_w_play_3_X5 : ∀ w ∈ wsX50, w ∈ v_w_play_3 := fun _ h => List.mem_cons_of_mem _ (List.mem_append_right _ (List.mem_append_left _ h))
theorem u_w_play_3_Jx4a65c : ∀ w ∈ wsJx4a65c0, w ∈ v_w_play_3 := fun _ h => List.mem_cons_of_mem _ (List.mem_append_right _ (List.mem_append_right _ (List.mem_append_left _ h)))
theorem u_w_play_3_X3 : ∀ w ∈ wsX30, w ∈ v_w_play_3 := fun _ h => List.mem_cons_of_mem _ (List.mem_append_right _ (List.mem_append_right _ (List.mem_append_right _ (List.mem_append_left _ h))))
theorem gg_w_play_3_c_play_3 : GoodIn v_w_play_3 v_c_play_3 := goodIn_r _ [1, 2, 3, 4, 5, 6, 7, 8, 9, 10, 11, 12, 13, 14, 15, 16, 17, 18, 19, 20, 21, 22, 23, 24, 25, 26, 27, 28, 29, 30, 31, 32, 33, 34, 38, 39, 40, 41, 42, 43, 44, 45, 46, 47, 48, 49, 50, 51, 52, 53] (by rfl) (by decide +kernel)
set_option maxHeartbeats 4000000 in
set_option maxRecDepth 100000 in
theorem w_play_3 (l : Launch) (hl9 : l.stackTraces = false) (dC : Nat → ClassId) (dI : Nat → Nat → Nat) (tE : Nat) (h0 : Nat) (fq : Nat) (sq : Nat) (gq : Nat) (nq : Nat) (dq : Nat) (pq : Nat) (pl : Int32) (bl : Int32) (tb : Int32) (mc_fq : Int32) (mc_sq : Int32) (mc_gq : Int32) (tq : Nat) (zq : Nat) (wq : Nat) (hd : Int32) (p0 : Int32) (oq : Nat) (co : ClassId) (fo : Nat → Int64) (sz : Nat) (hd0 : dgt p0 = 3) : Met l yL_play v_w_play_3 ({ frames := 4, cells := 0, slots := 0, locals := 93 }) (va_Pc [.ref h0, .int p0, .ref oq] (Pre0 dC dI tE sz [(co, .long)] [(h0, .inr (10, [.ref fq, .ref sq, .ref gq, .ref nq, .ref dq, .ref pq, .int pl, .int bl, .int tb])), (fq, .inr (4, [.int mc_fq, .ref tE, .int 0])), (sq, .inr (4, [.int mc_sq, .ref tE, .int 0])), (gq, .inr (4, [.int mc_gq, .ref tE, .int 0])), (nq, .inr (8, [.int hd, .ref tq, .ref zq, .ref wq])), (oq, .inl (co, 1, .inr (.inl fo)))])) (va_Qi (fun (r : Int32) (_ : Unit) => r = 0) (fun _ t => ∃ (vx0 : Int32), ∃ (vx1 : Int32), ∃ (vx2 : Int32), Pst dC dI [(co, .long)] (va_A [(h0, .inr (10, [.ref fq, .ref sq, .ref gq, .ref nq, .ref dq, .ref pq, .int pl, .int bl, .int tb])), (fq, .inr (4, [.int mc_fq, .ref tE, .int 0])), (sq, .inr (4, [.int mc_sq, .ref tE, .int 0])), (gq, .inr (4, [.int mc_gq, .ref tE, .int 0])), (nq, .inr (8, [.int hd, .ref tq, .ref zq, .ref wq])), (oq, .inl (co, 1, .inr (.inl fo)))] sz) [(oq, .inl (co, 1, .inr (.inl (vp_updL fo (0 : Int32).toNatClampNeg 0)))), (h0, .inr (10, [.ref fq, .ref sq, .ref gq, .ref nq, .ref dq, .ref pq, .int pl, .int vx0, .int vx1])), (nq, .inr (8, [.int vx2, .ref tq, .ref zq, .ref wq])), (fq, .inr (4, [.int mc_fq, .ref tE, .int 0])), (sq, .inr (4, [.int mc_sq, .ref tE, .int 0])), (gq, .inr (4, [.int mc_gq, .ref tE, .int 0]))] t) (va_A [(h0, .inr (10, [.ref fq, .ref sq, .ref gq, .ref nq, .ref dq, .ref pq, .int pl, .int bl, .int tb])), (fq, .inr (4, [.int mc_fq, .ref tE, .int 0])), (sq, .inr (4, [.int mc_sq, .ref tE, .int 0])), (gq, .inr (4, [.int mc_gq, .ref tE, .int 0])), (nq, .inr (8, [.int hd, .ref tq, .ref zq, .ref wq])), (oq, .inl (co, 1, .inr (.inl fo)))] sz)) 0 0 (va_A [(h0, .inr (10, [.ref fq, .ref sq, .ref gq, .ref nq, .ref dq, .ref pq, .int pl, .int bl, .int tb])), (fq, .inr (4, [.int mc_fq, .ref tE, .int 0])), (sq, .inr (4, [.int mc_sq, .ref tE, .int 0])), (gq, .inr (4, [.int mc_gq, .ref tE, .int 0])), (nq, .inr (8, [.int hd, .ref tq, .ref zq, .ref wq])), (oq, .inl (co, 1, .inr (.inl fo)))] sz) := by
  refine va_MetW (cc := cL_play) (maxL := 4) (ret := (some .int)) (by decide) rfl ?_
  intro p e s m args below meth c s₁ B hml hv
  obtain ⟨rfl, hsz, hP, hK, hD0, hT⟩ := hv
  have hx := B.exec
  have hb := B.bytes
  have hr := B.returns
  have hts := atoms_spec (ws := v_w_play_3) B.pre
  have hown : s.vm.findClass RL = some m.cls := findClass_of_methodNamed B.named
  have hlocks := B.notSynchronized
  have hTab : c.exceptionTable.toList = tableOf [(0, 9, 12, 13)] := vx_table (x := yL_play) B (hts (.codeWith yL_play cL_play 4 (some .int) [(0, 9, 12, 13)]) (List.mem_of_getElem? (i := 0) rfl))
  subst hsz
  have hD := hD0.self (sz := s.heap.size)
  generalize hAe : va_A [(h0, .inr (10, [.ref fq, .ref sq, .ref gq, .ref nq, .ref dq, .ref pq, .int pl, .int bl, .int tb])), (fq, .inr (4, [.int mc_fq, .ref tE, .int 0])), (sq, .inr (4, [.int mc_sq, .ref tE, .int 0])), (gq, .inr (4, [.int mc_gq, .ref tE, .int 0])), (nq, .inr (8, [.int hd, .ref tq, .ref zq, .ref wq])), (oq, .inl (co, 1, .inr (.inl fo)))] s.heap.size = A at hD hT ⊢
  have hA : ∀ q : Nat, s.heap.size ≤ q → A q := fun q h => by rw [← hAe]; exact Or.inr h
  have hS : va_S A s.heap s.heap [] := va_S.rf
  have hl := lv_entry ([.ref h0, .int p0, .ref oq]) (n := 4) (Nat.le_of_ble_eq_true rfl)
  rw [lg_entry_eq]
  generalize (lg_sl ([.ref h0, .int p0, .ref oq]) ++ List.replicate (4 - (lg_sl ([.ref h0, .int p0, .ref oq])).length) Slot.unset).toArray = ls at hl ⊢
  have hl : lv_has ls 4 [(0, .ref h0), (1, .int p0), (2, .ref oq)] := hl
  refine lv_aload_n hx hb dL_play_0 rfl (lv_at hl 2 rfl) ?_
  refine lv_iconst (v := 0) hx hb dL_play_1 (by decide) ?_
  refine lv_aload_n hx hb dL_play_2 rfl (lv_at hl 0 rfl) ?_
  refine lv_iload_n hx hb dL_play_3 rfl (lv_at hl 1 rfl) ?_
  have hPc := hP.sub (ws' := [(h0, .inr (10, [.ref fq, .ref sq, .ref gq, .ref nq, .ref dq, .ref pq, .int pl, .int bl, .int tb])), (fq, .inr (4, [.int mc_fq, .ref tE, .int 0])), (sq, .inr (4, [.int mc_sq, .ref tE, .int 0])), (gq, .inr (4, [.int mc_gq, .ref tE, .int 0])), (nq, .inr (8, [.int hd, .ref tq, .ref zq, .ref wq]))]) [0, 1, 2, 3, 4] rfl
  have hDc := hD.sub (ws' := [(h0, .inr (10, [.ref fq, .ref sq, .ref gq, .ref nq, .ref dq, .ref pq, .int pl, .int bl, .int tb])), (fq, .inr (4, [.int mc_fq, .ref tE, .int 0])), (sq, .inr (4, [.int mc_sq, .ref tE, .int 0])), (gq, .inr (4, [.int mc_gq, .ref tE, .int 0])), (nq, .inr (8, [.int hd, .ref tq, .ref zq, .ref wq]))]) [0, 1, 2, 3, 4] (by decide) rfl
  have hKc := hK.sub (tys' := []) [] rfl
  have hFc := va_free (wc := [(h0, .inr (10, [.ref fq, .ref sq, .ref gq, .ref nq, .ref dq, .ref pq, .int pl, .int bl, .int tb])), (fq, .inr (4, [.int mc_fq, .ref tE, .int 0])), (sq, .inr (4, [.int mc_sq, .ref tE, .int 0])), (gq, .inr (4, [.int mc_gq, .ref tE, .int 0])), (nq, .inr (8, [.int hd, .ref tq, .ref zq, .ref wq]))]) hD hS hA [0, 1, 2, 3, 4] rfl
  refine va_calli (va_runV (As := [.int p0]) (rest := [.int 0, .ref oq]) ⟨hx, hb, hml, hown, hts⟩ (c_play_3 l hl9 dC dI tE h0 fq sq gq nq dq pq pl bl tb mc_fq mc_sq mc_gq tq zq wq hd p0 _ hd0) (cwV 1 hts (goodIn_app (goodIn_r _ [35, 36, 37, 6] (by rfl) (by decide +kernel)) gg_w_play_3_c_play_3) rfl rfl rfl (by decide +kernel) ⟨Nat.le_of_ble_eq_true rfl, Nat.le_of_ble_eq_true rfl⟩) ⟨Pre0.blind, va_recv hKc hPc (ci := 10) (q0 := 0) rfl rfl, Pre0.give hPc hKc hDc hT hS hFc⟩ rfl rfl hl.1 rfl (lv_room (Nat.le_of_ble_eq_true rfl)) dL_play_4 ⟨Nat.le_of_ble_eq_true rfl, Nat.le_of_ble_eq_true rfl⟩) hS (fun q _ h => hFc q h) hFc (fun r_1 u t H1 locs ht hvm hw hB hz1 hk1 hS => ?_)
  obtain ⟨vx_2, vx_3, vx_4, hP1, hK1, hD1⟩ := hB
  rw [ht] at hP1
  have hK1 := va_K.moved hvm.symm hK1
  obtain ⟨hP, hD⟩ := va_join (wr := [(oq, .inl (co, 1, .inr (.inl fo)))]) (w1 := [(h0, .inr (10, [.ref fq, .ref sq, .ref gq, .ref nq, .ref dq, .ref pq, .int pl, .int vx_2, .int vx_3])), (nq, .inr (8, [.int vx_4, .ref tq, .ref zq, .ref wq])), (fq, .inr (4, [.int mc_fq, .ref tE, .int 0])), (sq, .inr (4, [.int mc_sq, .ref tE, .int 0])), (gq, .inr (4, [.int mc_gq, .ref tE, .int 0]))]) hP hD [0, 1, 2, 3, 4] [5] rfl rfl (by decide) (by decide) hk1 hFc hP1 hD1
  generalize H1 = H at hP hS ⊢
  have hP : va_P (dC, dI) vwCl [(oq, .inl (co, 1, .inr (.inl fo))), (h0, .inr (10, [.ref fq, .ref sq, .ref gq, .ref nq, .ref dq, .ref pq, .int pl, .int vx_2, .int vx_3])), (nq, .inr (8, [.int vx_4, .ref tq, .ref zq, .ref wq])), (fq, .inr (4, [.int mc_fq, .ref tE, .int 0])), (sq, .inr (4, [.int mc_sq, .ref tE, .int 0])), (gq, .inr (4, [.int mc_gq, .ref tE, .int 0]))] H := hP
  have hD : va_D A [(oq, .inl (co, 1, .inr (.inl fo))), (h0, .inr (10, [.ref fq, .ref sq, .ref gq, .ref nq, .ref dq, .ref pq, .int pl, .int vx_2, .int vx_3])), (nq, .inr (8, [.int vx_4, .ref tq, .ref zq, .ref wq])), (fq, .inr (4, [.int mc_fq, .ref tE, .int 0])), (sq, .inr (4, [.int mc_sq, .ref tE, .int 0])), (gq, .inr (4, [.int mc_gq, .ref tE, .int 0]))] := hD
  refine W.widen (k := 0) (n := 0) (by omega) (by omega) ?_
  obtain rfl : r_1 = 0 := hw
  refine lv_i2l (v := 0) hx hb dL_play_7 (by decide) ?_
  refine va_last hx hb hK hP hD hS 0 0 rfl rfl (by unfold vp_in; decide) dL_play_8 (fun H locs hP hD hS => ?_)
  have hP : va_P (dC, dI) vwCl [(oq, .inl (co, 1, .inr (.inl (vp_updL fo (0 : Int32).toNatClampNeg 0)))), (h0, .inr (10, [.ref fq, .ref sq, .ref gq, .ref nq, .ref dq, .ref pq, .int pl, .int vx_2, .int vx_3])), (nq, .inr (8, [.int vx_4, .ref tq, .ref zq, .ref wq])), (fq, .inr (4, [.int mc_fq, .ref tE, .int 0])), (sq, .inr (4, [.int mc_sq, .ref tE, .int 0])), (gq, .inr (4, [.int mc_gq, .ref tE, .int 0]))] H := hP
  have hD : va_D A [(oq, .inl (co, 1, .inr (.inl (vp_updL fo (0 : Int32).toNatClampNeg 0)))), (h0, .inr (10, [.ref fq, .ref sq, .ref gq, .ref nq, .ref dq, .ref pq, .int pl, .int vx_2, .int vx_3])), (nq, .inr (8, [.int vx_4, .ref tq, .ref zq, .ref wq])), (fq, .inr (4, [.int mc_fq, .ref tE, .int 0])), (sq, .inr (4, [.int mc_sq, .ref tE, .int 0])), (gq, .inr (4, [.int mc_gq, .ref tE, .int 0]))] := hD
  refine lv_goto (tgt := 15) hx hb dL_play_9 (by decide) ?_
  refine lv_iconst (v := 0) hx hb dL_play_15 (by decide) ?_
  have hP9 := hP.sub (ws' := [(oq, .inl (co, 1, .inr (.inl (vp_updL fo (0 : Int32).toNatClampNeg 0)))), (h0, .inr (10, [.ref fq, .ref sq, .ref gq, .ref nq, .ref dq, .ref pq, .int pl, .int vx_2, .int vx_3])), (nq, .inr (8, [.int vx_4, .ref tq, .ref zq, .ref wq])), (fq, .inr (4, [.int mc_fq, .ref tE, .int 0])), (sq, .inr (4, [.int mc_sq, .ref tE, .int 0])), (gq, .inr (4, [.int mc_gq, .ref tE, .int 0]))]) [0, 1, 2, 3, 4, 5] rfl
  have hD9 := hD.sub (ws' := [(oq, .inl (co, 1, .inr (.inl (vp_updL fo (0 : Int32).toNatClampNeg 0)))), (h0, .inr (10, [.ref fq, .ref sq, .ref gq, .ref nq, .ref dq, .ref pq, .int pl, .int vx_2, .int vx_3])), (nq, .inr (8, [.int vx_4, .ref tq, .ref zq, .ref wq])), (fq, .inr (4, [.int mc_fq, .ref tE, .int 0])), (sq, .inr (4, [.int mc_sq, .ref tE, .int 0])), (gq, .inr (4, [.int mc_gq, .ref tE, .int 0]))]) [0, 1, 2, 3, 4, 5] (by decide) rfl
  have hK9 := hK.sub (tys' := [(co, .long)]) [0] rfl
  exact W.iret (v := 0) hx hb hr (fun t ht hW => ⟨⟨0, (), rfl, rfl, vx_2, vx_3, vx_4, by rw [ht]; exact hP9, va_K.moved hW.alike hK9, hD9⟩, hS.F ht⟩) hS.2.2 dL_play_16
def v_w_play_4 : List Cond := .codeWith yL_play cL_play 4 (some .int) [(0, 9, 12, 13)] :: ([Cond.code yX5_play cX5_play 5 (some .int), Cond.code yX5_spanOf cX5_spanOf 4 (some .int), Cond.constant RX5 284 (444444), Cond.methodLink RX5 76 yX5_spanOf, Cond.static yX5_spanOf, Cond.initialized RX5, Cond.code yX5_toneAt cX5_toneAt 2 (some .int), Cond.methodLink RX5 219 yX5_toneAt, Cond.static yX5_toneAt, Cond.code yX5_toll cX5_toll 4 (some .int), Cond.fieldLink RX5 19 "HotelOfBells" "guests" "Ljava/util/ArrayList;", Cond.code yJx4a65c_size_8abf5 cJx4a65c_size_8abf5 1 (some .int), Cond.fieldLink RJx4a65c 48 "java/util/ArrayList" "size" "I", Cond.methodLink RX5 49 yJx4a65c_size_8abf5, Cond.instanceMethod yJx4a65c_size_8abf5, Cond.selects RJx4a65c yJx4a65c_size_8abf5 yJx4a65c_size_8abf5, Cond.initialized RJx4a65c, Cond.fieldLink RX5 200 "HotelOfBells" "bells" "I", Cond.fieldLink RX5 203 "HotelOfBells" "turnsByBells" "I", Cond.fieldLink RX5 25 "HotelOfBells" "now" "LHotelOfBells$Moment;", Cond.code yX5_strike cX5_strike 6 (some .int), Cond.fieldLink RX5 156 "HotelOfBells$Moment" "heard" "I", Cond.code yX5_heardWith cX5_heardWith 2 (some .int), Cond.constant RX5 247 (100000), Cond.methodLink RX5 252 yX5_heardWith, Cond.static yX5_heardWith, Cond.fieldLink RX5 10 "HotelOfBells" "floors" "Ljava/util/ArrayList;", Cond.fieldLink RX5 16 "HotelOfBells" "shafts" "Ljava/util/ArrayList;", Cond.methodLink RX5 237 yX5_strike, Cond.instanceMethod yX5_strike, Cond.selects RX5 yX5_strike yX5_strike, Cond.methodLink RX5 216 yX5_toll, Cond.instanceMethod yX5_toll, Cond.selects RX5 yX5_toll yX5_toll, Cond.methodLink RL 56 yX5_play, Cond.instanceMethod yX5_play, Cond.selects RX5 yX5_play yX5_play] ++ (wsX50 ++ (wsJx4a65c0 ++ (wsX30 ++ []))))
theorem u_w_play_4_X5 : ∀ w ∈ wsX50, w ∈ v_w_play_4 := fun _ h => List.mem_cons_of_mem _ (List.mem_append_right _ (List.mem_append_left _ h))
theorem u_w_play_4_Jx4a65c : ∀ w ∈ wsJx4a65c0, w ∈ v_w_play_4 := fun _ h => List.mem_cons_of_mem _ (List.mem_append_right _ (List.mem_append_right _ (List.mem_append_left _ h)))
theorem u_w_play_4_X3 : ∀ w ∈ wsX30, w ∈ v_w_play_4 := fun _ h => List.mem_cons_of_mem _ (List.mem_append_right _ (List.mem_append_right _ (List.mem_append_right _ (List.mem_append_left _ h))))
theorem gg_w_play_4_c_play_4 : GoodIn v_w_play_4 v_c_play_4 := goodIn_r _ [1, 2, 3, 4, 5, 6, 7, 8, 9, 10, 11, 12, 13, 14, 15, 16, 17, 18, 19, 20, 21, 22, 23, 24, 25, 26, 27, 28, 29, 30, 31, 32, 33, 34, 38, 39, 40, 41, 42, 43, 44, 45, 46, 47, 48, 49, 50, 51, 52, 53] (by rfl) (by decide +kernel)
set_option maxHeartbeats 4000000 in
set_option maxRecDepth 100000 in
theorem w_play_4 (l : Launch) (hl9 : l.stackTraces = false) (dC : Nat → ClassId) (dI : Nat → Nat → Nat) (tE : Nat) (h0 : Nat) (fq : Nat) (sq : Nat) (gq : Nat) (nq : Nat) (dq : Nat) (pq : Nat) (pl : Int32) (bl : Int32) (tb : Int32) (mc_fq : Int32) (mc_sq : Int32) (mc_gq : Int32) (tq : Nat) (zq : Nat) (wq : Nat) (hd : Int32) (p0 : Int32) (oq : Nat) (co : ClassId) (fo : Nat → Int64) (sz : Nat) (hd0 : dgt p0 = 4) : Met l yL_play v_w_play_4 ({ frames := 4, cells := 0, slots := 0, locals := 93 }) (va_Pc [.ref h0, .int p0, .ref oq] (Pre0 dC dI tE sz [(co, .long)] [(h0, .inr (10, [.ref fq, .ref sq, .ref gq, .ref nq, .ref dq, .ref pq, .int pl, .int bl, .int tb])), (fq, .inr (4, [.int mc_fq, .ref tE, .int 0])), (sq, .inr (4, [.int mc_sq, .ref tE, .int 0])), (gq, .inr (4, [.int mc_gq, .ref tE, .int 0])), (nq, .inr (8, [.int hd, .ref tq, .ref zq, .ref wq])), (oq, .inl (co, 1, .inr (.inl fo)))])) (va_Qi (fun (r : Int32) (_ : Unit) => r = 0) (fun _ t => ∃ (vx0 : Int32), ∃ (vx1 : Int32), ∃ (vx2 : Int32), Pst dC dI [(co, .long)] (va_A [(h0, .inr (10, [.ref fq, .ref sq, .ref gq, .ref nq, .ref dq, .ref pq, .int pl, .int bl, .int tb])), (fq, .inr (4, [.int mc_fq, .ref tE, .int 0])), (sq, .inr (4, [.int mc_sq, .ref tE, .int 0])), (gq, .inr (4, [.int mc_gq, .ref tE, .int 0])), (nq, .inr (8, [.int hd, .ref tq, .ref zq, .ref wq])), (oq, .inl (co, 1, .inr (.inl fo)))] sz) [(oq, .inl (co, 1, .inr (.inl (vp_updL fo (0 : Int32).toNatClampNeg 0)))), (h0, .inr (10, [.ref fq, .ref sq, .ref gq, .ref nq, .ref dq, .ref pq, .int pl, .int vx0, .int vx1])), (nq, .inr (8, [.int vx2, .ref tq, .ref zq, .ref wq])), (fq, .inr (4, [.int mc_fq, .ref tE, .int 0])), (sq, .inr (4, [.int mc_sq, .ref tE, .int 0])), (gq, .inr (4, [.int mc_gq, .ref tE, .int 0]))] t) (va_A [(h0, .inr (10, [.ref fq, .ref sq, .ref gq, .ref nq, .ref dq, .ref pq, .int pl, .int bl, .int tb])), (fq, .inr (4, [.int mc_fq, .ref tE, .int 0])), (sq, .inr (4, [.int mc_sq, .ref tE, .int 0])), (gq, .inr (4, [.int mc_gq, .ref tE, .int 0])), (nq, .inr (8, [.int hd, .ref tq, .ref zq, .ref wq])), (oq, .inl (co, 1, .inr (.inl fo)))] sz)) 0 0 (va_A [(h0, .inr (10, [.ref fq, .ref sq, .ref gq, .ref nq, .ref dq, .ref pq, .int pl, .int bl, .int tb])), (fq, .inr (4, [.int mc_fq, .ref tE, .int 0])), (sq, .inr (4, [.int mc_sq, .ref tE, .int 0])), (gq, .inr (4, [.int mc_gq, .ref tE, .int 0])), (nq, .inr (8, [.int hd, .ref tq, .ref zq, .ref wq])), (oq, .inl (co, 1, .inr (.inl fo)))] sz) := by
  refine va_MetW (cc := cL_play) (maxL := 4) (ret := (some .int)) (by decide) rfl ?_
  intro p e s m args below meth c s₁ B hml hv
  obtain ⟨rfl, hsz, hP, hK, hD0, hT⟩ := hv
  have hx := B.exec
  have hb := B.bytes
  have hr := B.returns
  have hts := atoms_spec (ws := v_w_play_4) B.pre
  have hown : s.vm.findClass RL = some m.cls := findClass_of_methodNamed B.named
  have hlocks := B.notSynchronized
  have hTab : c.exceptionTable.toList = tableOf [(0, 9, 12, 13)] := vx_table (x := yL_play) B (hts (.codeWith yL_play cL_play 4 (some .int) [(0, 9, 12, 13)]) (List.mem_of_getElem? (i := 0) rfl))
  subst hsz
  have hD := hD0.self (sz := s.heap.size)
  generalize hAe : va_A [(h0, .inr (10, [.ref fq, .ref sq, .ref gq, .ref nq, .ref dq, .ref pq, .int pl, .int bl, .int tb])), (fq, .inr (4, [.int mc_fq, .ref tE, .int 0])), (sq, .inr (4, [.int mc_sq, .ref tE, .int 0])), (gq, .inr (4, [.int mc_gq, .ref tE, .int 0])), (nq, .inr (8, [.int hd, .ref tq, .ref zq, .ref wq])), (oq, .inl (co, 1, .inr (.inl fo)))] s.heap.size = A at hD hT ⊢
  have hA : ∀ q : Nat, s.heap.size ≤ q → A q := fun q h => by rw [← hAe]; exact Or.inr h
  have hS : va_S A s.heap s.heap [] := va_S.rf
  have hl := lv_entry ([.ref h0, .int p0, .ref oq]) (n := 4) (Nat.le_of_ble_eq_true rfl)
  rw [lg_entry_eq]
  generalize (lg_sl ([.ref h0, .int p0, .ref oq]) ++ List.replicate (4 - (lg_sl ([.ref h0, .int p0, .ref oq])).length) Slot.unset).toArray = ls at hl ⊢
  have hl : lv_has ls 4 [(0, .ref h0), (1, .int p0), (2, .ref oq)] := hl
  refine lv_aload_n hx hb dL_play_0 rfl (lv_at hl 2 rfl) ?_
  refine lv_iconst (v := 0) hx hb dL_play_1 (by decide) ?_
  refine lv_aload_n hx hb dL_play_2 rfl (lv_at hl 0 rfl) ?_
  refine lv_iload_n hx hb dL_play_3 rfl (lv_at hl 1 rfl) ?_
  have hPc := hP.sub (ws' := [(h0, .inr (10, [.ref fq, .ref sq, .ref gq, .ref nq, .ref dq, .ref pq, .int pl, .int bl, .int tb])), (fq, .inr (4, [.int mc_fq, .ref tE, .int 0])), (sq, .inr (4, [.int mc_sq, .ref tE, .int 0])), (gq, .inr (4, [.int mc_gq, .ref tE, .int 0])), (nq, .inr (8, [.int hd, .ref tq, .ref zq, .ref wq]))]) [0, 1, 2, 3, 4] rfl
  have hDc := hD.sub (ws' := [(h0, .inr (10, [.ref fq, .ref sq, .ref gq, .ref nq, .ref dq, .ref pq, .int pl, .int bl, .int tb])), (fq, .inr (4, [.int mc_fq, .ref tE, .int 0])), (sq, .inr (4, [.int mc_sq, .ref tE, .int 0])), (gq, .inr (4, [.int mc_gq, .ref tE, .int 0])), (nq, .inr (8, [.int hd, .ref tq, .ref zq, .ref wq]))]) [0, 1, 2, 3, 4] (by decide) rfl
  have hKc := hK.sub (tys' := []) [] rfl
  have hFc := va_free (wc := [(h0, .inr (10, [.ref fq, .ref sq, .ref gq, .ref nq, .ref dq, .ref pq, .int pl, .int bl, .int tb])), (fq, .inr (4, [.int mc_fq, .ref tE, .int 0])), (sq, .inr (4, [.int mc_sq, .ref tE, .int 0])), (gq, .inr (4, [.int mc_gq, .ref tE, .int 0])), (nq, .inr (8, [.int hd, .ref tq, .ref zq, .ref wq]))]) hD hS hA [0, 1, 2, 3, 4] rfl
  refine va_calli (va_runV (As := [.int p0]) (rest := [.int 0, .ref oq]) ⟨hx, hb, hml, hown, hts⟩ (c_play_4 l hl9 dC dI tE h0 fq sq gq nq dq pq pl bl tb mc_fq mc_sq mc_gq tq zq wq hd p0 _ hd0) (cwV 1 hts (goodIn_app (goodIn_r _ [35, 36, 37, 6] (by rfl) (by decide +kernel)) gg_w_play_4_c_play_4) rfl rfl rfl (by decide +kernel) ⟨Nat.le_of_ble_eq_true rfl, Nat.le_of_ble_eq_true rfl⟩) ⟨Pre0.blind, va_recv hKc hPc (ci := 10) (q0 := 0) rfl rfl, Pre0.give hPc hKc hDc hT hS hFc⟩ rfl rfl hl.1 rfl (lv_room (Nat.le_of_ble_eq_true rfl)) dL_play_4 ⟨Nat.le_of_ble_eq_true rfl, Nat.le_of_ble_eq_true rfl⟩) hS (fun q _ h => hFc q h) hFc (fun r_1 u t H1 locs ht hvm hw hB hz1 hk1 hS => ?_)
  obtain ⟨vx_2, vx_3, vx_4, hP1, hK1, hD1⟩ := hB
  rw [ht] at hP1
  have hK1 := va_K.moved hvm.symm hK1
  obtain ⟨hP, hD⟩ := va_join (wr := [(oq, .inl (co, 1, .inr (.inl fo)))]) (w1 := [(h0, .inr (10, [.ref fq, .ref sq, .ref gq, .ref nq, .ref dq, .ref pq, .int pl, .int vx_2, .int vx_3])), (nq, .inr (8, [.int vx_4, .ref tq, .ref zq, .ref wq])), (fq, .inr (4, [.int mc_fq, .ref tE, .int 0])), (sq, .inr (4, [.int mc_sq, .ref tE, .int 0])), (gq, .inr (4, [.int mc_gq, .ref tE, .int 0]))]) hP hD [0, 1, 2, 3, 4] [5] rfl rfl (by decide) (by decide) hk1 hFc hP1 hD1
  generalize H1 = H at hP hS ⊢
  have hP : va_P (dC, dI) vwCl [(oq, .inl (co, 1, .inr (.inl fo))), (h0, .inr (10, [.ref fq, .ref sq, .ref gq, .ref nq, .ref dq, .ref pq, .int pl, .int vx_2, .int vx_3])), (nq, .inr (8, [.int vx_4, .ref tq, .ref zq, .ref wq])), (fq, .inr (4, [.int mc_fq, .ref tE, .int 0])), (sq, .inr (4, [.int mc_sq, .ref tE, .int 0])), (gq, .inr (4, [.int mc_gq, .ref tE, .int 0]))] H := hP
  have hD : va_D A [(oq, .inl (co, 1, .inr (.inl fo))), (h0, .inr (10, [.ref fq, .ref sq, .ref gq, .ref nq, .ref dq, .ref pq, .int pl, .int vx_2, .int vx_3])), (nq, .inr (8, [.int vx_4, .ref tq, .ref zq, .ref wq])), (fq, .inr (4, [.int mc_fq, .ref tE, .int 0])), (sq, .inr (4, [.int mc_sq, .ref tE, .int 0])), (gq, .inr (4, [.int mc_gq, .ref tE, .int 0]))] := hD
  refine W.widen (k := 0) (n := 0) (by omega) (by omega) ?_
  obtain rfl : r_1 = 0 := hw
  refine lv_i2l (v := 0) hx hb dL_play_7 (by decide) ?_
  refine va_last hx hb hK hP hD hS 0 0 rfl rfl (by unfold vp_in; decide) dL_play_8 (fun H locs hP hD hS => ?_)
  have hP : va_P (dC, dI) vwCl [(oq, .inl (co, 1, .inr (.inl (vp_updL fo (0 : Int32).toNatClampNeg 0)))), (h0, .inr (10, [.ref fq, .ref sq, .ref gq, .ref nq, .ref dq, .ref pq, .int pl, .int vx_2, .int vx_3])), (nq, .inr (8, [.int vx_4, .ref tq, .ref zq, .ref wq])), (fq, .inr (4, [.int mc_fq, .ref tE, .int 0])), (sq, .inr (4, [.int mc_sq, .ref tE, .int 0])), (gq, .inr (4, [.int mc_gq, .ref tE, .int 0]))] H := hP
  have hD : va_D A [(oq, .inl (co, 1, .inr (.inl (vp_updL fo (0 : Int32).toNatClampNeg 0)))), (h0, .inr (10, [.ref fq, .ref sq, .ref gq, .ref nq, .ref dq, .ref pq, .int pl, .int vx_2, .int vx_3])), (nq, .inr (8, [.int vx_4, .ref tq, .ref zq, .ref wq])), (fq, .inr (4, [.int mc_fq, .ref tE, .int 0])), (sq, .inr (4, [.int mc_sq, .ref tE, .int 0])), (gq, .inr (4, [.int mc_gq, .ref tE, .int 0]))] := hD
  refine lv_goto (tgt := 15) hx hb dL_play_9 (by decide) ?_
  refine lv_iconst (v := 0) hx hb dL_play_15 (by decide) ?_
  have hP9 := hP.sub (ws' := [(oq, .inl (co, 1, .inr (.inl (vp_updL fo (0 : Int32).toNatClampNeg 0)))), (h0, .inr (10, [.ref fq, .ref sq, .ref gq, .ref nq, .ref dq, .ref pq, .int pl, .int vx_2, .int vx_3])), (nq, .inr (8, [.int vx_4, .ref tq, .ref zq, .ref wq])), (fq, .inr (4, [.int mc_fq, .ref tE, .int 0])), (sq, .inr (4, [.int mc_sq, .ref tE, .int 0])), (gq, .inr (4, [.int mc_gq, .ref tE, .int 0]))]) [0, 1, 2, 3, 4, 5] rfl
  have hD9 := hD.sub (ws' := [(oq, .inl (co, 1, .inr (.inl (vp_updL fo (0 : Int32).toNatClampNeg 0)))), (h0, .inr (10, [.ref fq, .ref sq, .ref gq, .ref nq, .ref dq, .ref pq, .int pl, .int vx_2, .int vx_3])), (nq, .inr (8, [.int vx_4, .ref tq, .ref zq, .ref wq])), (fq, .inr (4, [.int mc_fq, .ref tE, .int 0])), (sq, .inr (4, [.int mc_sq, .ref tE, .int 0])), (gq, .inr (4, [.int mc_gq, .ref tE, .int 0]))]) [0, 1, 2, 3, 4, 5] (by decide) rfl
  have hK9 := hK.sub (tys' := [(co, .long)]) [0] rfl
  exact W.iret (v := 0) hx hb hr (fun t ht hW => ⟨⟨0, (), rfl, rfl, vx_2, vx_3, vx_4, by rw [ht]; exact hP9, va_K.moved hW.alike hK9, hD9⟩, hS.F ht⟩) hS.2.2 dL_play_16
def v_w_play_5 : List Cond := .codeWith yL_play cL_play 4 (some .int) [(0, 9, 12, 13)] :: ([Cond.code yX5_play cX5_play 5 (some .int), Cond.code yX5_spanOf cX5_spanOf 4 (some .int), Cond.constant RX5 284 (444444), Cond.methodLink RX5 76 yX5_spanOf, Cond.static yX5_spanOf, Cond.initialized RX5, Cond.code yX5_toneAt cX5_toneAt 2 (some .int), Cond.methodLink RX5 219 yX5_toneAt, Cond.static yX5_toneAt, Cond.code yX5_toll cX5_toll 4 (some .int), Cond.fieldLink RX5 19 "HotelOfBells" "guests" "Ljava/util/ArrayList;", Cond.code yJx4a65c_size_8abf5 cJx4a65c_size_8abf5 1 (some .int), Cond.fieldLink RJx4a65c 48 "java/util/ArrayList" "size" "I", Cond.methodLink RX5 49 yJx4a65c_size_8abf5, Cond.instanceMethod yJx4a65c_size_8abf5, Cond.selects RJx4a65c yJx4a65c_size_8abf5 yJx4a65c_size_8abf5, Cond.initialized RJx4a65c, Cond.fieldLink RX5 200 "HotelOfBells" "bells" "I", Cond.fieldLink RX5 203 "HotelOfBells" "turnsByBells" "I", Cond.fieldLink RX5 25 "HotelOfBells" "now" "LHotelOfBells$Moment;", Cond.code yX5_strike cX5_strike 6 (some .int), Cond.fieldLink RX5 156 "HotelOfBells$Moment" "heard" "I", Cond.code yX5_heardWith cX5_heardWith 2 (some .int), Cond.constant RX5 247 (100000), Cond.methodLink RX5 252 yX5_heardWith, Cond.static yX5_heardWith, Cond.fieldLink RX5 10 "HotelOfBells" "floors" "Ljava/util/ArrayList;", Cond.fieldLink RX5 16 "HotelOfBells" "shafts" "Ljava/util/ArrayList;", Cond.methodLink RX5 237 yX5_strike, Cond.instanceMethod yX5_strike, Cond.selects RX5 yX5_strike yX5_strike, Cond.methodLink RX5 216 yX5_toll, Cond.instanceMethod yX5_toll, Cond.selects RX5 yX5_toll yX5_toll, Cond.methodLink RL 56 yX5_play, Cond.instanceMethod yX5_play, Cond.selects RX5 yX5_play yX5_play] ++ (wsX50 ++ (wsJx4a65c0 ++ (wsX30 ++ []))))
theorem u_w_play_5_X5 : ∀ w ∈ wsX50, w ∈ v_w_play_5 := fun _ h => List.mem_cons_of_mem _ (List.mem_append_right _ (List.mem_append_left _ h))
theorem u_w_play_5_Jx4a65c : ∀ w ∈ wsJx4a65c0, w ∈ v_w_play_5 := fun _ h => List.mem_cons_of_mem _ (List.mem_append_right _ (List.mem_append_right _ (List.mem_append_left _ h)))
theorem u_w_play_5_X3 : ∀ w ∈ wsX30, w ∈ v_w_play_5 := fun _ h => List.mem_cons_of_mem _ (List.mem_append_right _ (List.mem_append_right _ (List.mem_append_right _ (List.mem_append_left _ h))))
theorem gg_w_play_5_c_play_5 : GoodIn v_w_play_5 v_c_play_5 := goodIn_r _ [1, 2, 3, 4, 5, 6, 7, 8, 9, 10, 11, 12, 13, 14, 15, 16, 17, 18, 19, 20, 21, 22, 23, 24, 25, 26, 27, 28, 29, 30, 31, 32, 33, 34, 38, 39, 40, 41, 42, 43, 44, 45, 46, 47, 48, 49, 50, 51, 52, 53] (by rfl) (by decide +kernel)
set_option maxHeartbeats 4000000 in
set_option maxRecDepth 100000 in
theorem w_play_5 (l : Launch) (hl9 : l.stackTraces = false) (dC : Nat → ClassId) (dI : Nat → Nat → Nat) (tE : Nat) (h0 : Nat) (fq : Nat) (sq : Nat) (gq : Nat) (nq : Nat) (dq : Nat) (pq : Nat) (pl : Int32) (bl : Int32) (tb : Int32) (mc_fq : Int32) (mc_sq : Int32) (mc_gq : Int32) (tq : Nat) (zq : Nat) (wq : Nat) (hd : Int32) (p0 : Int32) (oq : Nat) (co : ClassId) (fo : Nat → Int64) (sz : Nat) (hd0 : dgt p0 = 5) : Met l yL_play v_w_play_5 ({ frames := 4, cells := 0, slots := 0, locals := 93 }) (va_Pc [.ref h0, .int p0, .ref oq] (Pre0 dC dI tE sz [(co, .long)] [(h0, .inr (10, [.ref fq, .ref sq, .ref gq, .ref nq, .ref dq, .ref pq, .int pl, .int bl, .int tb])), (fq, .inr (4, [.int mc_fq, .ref tE, .int 0])), (sq, .inr (4, [.int mc_sq, .ref tE, .int 0])), (gq, .inr (4, [.int mc_gq, .ref tE, .int 0])), (nq, .inr (8, [.int hd, .ref tq, .ref zq, .ref wq])), (oq, .inl (co, 1, .inr (.inl fo)))])) (va_Qi (fun (r : Int32) (_ : Unit) => r = 0) (fun _ t => ∃ (vx0 : Int32), ∃ (vx1 : Int32), ∃ (vx2 : Int32), Pst dC dI [(co, .long)] (va_A [(h0, .inr (10, [.ref fq, .ref sq, .ref gq, .ref nq, .ref dq, .ref pq, .int pl, .int bl, .int tb])), (fq, .inr (4, [.int mc_fq, .ref tE, .int 0])), (sq, .inr (4, [.int mc_sq, .ref tE, .int 0])), (gq, .inr (4, [.int mc_gq, .ref tE, .int 0])), (nq, .inr (8, [.int hd, .ref tq, .ref zq, .ref wq])), (oq, .inl (co, 1, .inr (.inl fo)))] sz) [(oq, .inl (co, 1, .inr (.inl (vp_updL fo (0 : Int32).toNatClampNeg 0)))), (h0, .inr (10, [.ref fq, .ref sq, .ref gq, .ref nq, .ref dq, .ref pq, .int pl, .int vx0, .int vx1])), (nq, .inr (8, [.int vx2, .ref tq, .ref zq, .ref wq])), (fq, .inr (4, [.int mc_fq, .ref tE, .int 0])), (sq, .inr (4, [.int mc_sq, .ref tE, .int 0])), (gq, .inr (4, [.int mc_gq, .ref tE, .int 0]))] t) (va_A [(h0, .inr (10, [.ref fq, .ref sq, .ref gq, .ref nq, .ref dq, .ref pq, .int pl, .int bl, .int tb])), (fq, .inr (4, [.int mc_fq, .ref tE, .int 0])), (sq, .inr (4, [.int mc_sq, .ref tE, .int 0])), (gq, .inr (4, [.int mc_gq, .ref tE, .int 0])), (nq, .inr (8, [.int hd, .ref tq, .ref zq, .ref wq])), (oq, .inl (co, 1, .inr (.inl fo)))] sz)) 0 0 (va_A [(h0, .inr (10, [.ref fq, .ref sq, .ref gq, .ref nq, .ref dq, .ref pq, .int pl, .int bl, .int tb])), (fq, .inr (4, [.int mc_fq, .ref tE, .int 0])), (sq, .inr (4, [.int mc_sq, .ref tE, .int 0])), (gq, .inr (4, [.int mc_gq, .ref tE, .int 0])), (nq, .inr (8, [.int hd, .ref tq, .ref zq, .ref wq])), (oq, .inl (co, 1, .inr (.inl fo)))] sz) := by
  refine va_MetW (cc := cL_play) (maxL := 4) (ret := (some .int)) (by decide) rfl ?_
  intro p e s m args below meth c s₁ B hml hv
  obtain ⟨rfl, hsz, hP, hK, hD0, hT⟩ := hv
  have hx := B.exec
  have hb := B.bytes
  have hr := B.returns
  have hts := atoms_spec (ws := v_w_play_5) B.pre
  have hown : s.vm.findClass RL = some m.cls := findClass_of_methodNamed B.named
  have hlocks := B.notSynchronized
  have hTab : c.exceptionTable.toList = tableOf [(0, 9, 12, 13)] := vx_table (x := yL_play) B (hts (.codeWith yL_play cL_play 4 (some .int) [(0, 9, 12, 13)]) (List.mem_of_getElem? (i := 0) rfl))
  subst hsz
  have hD := hD0.self (sz := s.heap.size)
  generalize hAe : va_A [(h0, .inr (10, [.ref fq, .ref sq, .ref gq, .ref nq, .ref dq, .ref pq, .int pl, .int bl, .int tb])), (fq, .inr (4, [.int mc_fq, .ref tE, .int 0])), (sq, .inr (4, [.int mc_sq, .ref tE, .int 0])), (gq, .inr (4, [.int mc_gq, .ref tE, .int 0])), (nq, .inr (8, [.int hd, .ref tq, .ref zq, .ref wq])), (oq, .inl (co, 1, .inr (.inl fo)))] s.heap.size = A at hD hT ⊢
  have hA : ∀ q : Nat, s.heap.size ≤ q → A q := fun q h => by rw [← hAe]; exact Or.inr h
  have hS : va_S A s.heap s.heap [] := va_S.rf
  have hl := lv_entry ([.ref h0, .int p0, .ref oq]) (n := 4) (Nat.le_of_ble_eq_true rfl)
  rw [lg_entry_eq]
  generalize (lg_sl ([.ref h0, .int p0, .ref oq]) ++ List.replicate (4 - (lg_sl ([.ref h0, .int p0, .ref oq])).length) Slot.unset).toArray = ls at hl ⊢
  have hl : lv_has ls 4 [(0, .ref h0), (1, .int p0), (2, .ref oq)] := hl
  refine lv_aload_n hx hb dL_play_0 rfl (lv_at hl 2 rfl) ?_
  refine lv_iconst (v := 0) hx hb dL_play_1 (by decide) ?_
  refine lv_aload_n hx hb dL_play_2 rfl (lv_at hl 0 rfl) ?_
  refine lv_iload_n hx hb dL_play_3 rfl (lv_at hl 1 rfl) ?_
  have hPc := hP.sub (ws' := [(h0, .inr (10, [.ref fq, .ref sq, .ref gq, .ref nq, .ref dq, .ref pq, .int pl, .int bl, .int tb])), (fq, .inr (4, [.int mc_fq, .ref tE, .int 0])), (sq, .inr (4, [.int mc_sq, .ref tE, .int 0])), (gq, .inr (4, [.int mc_gq, .ref tE, .int 0])), (nq, .inr (8, [.int hd, .ref tq, .ref zq, .ref wq]))]) [0, 1, 2, 3, 4] rfl
  have hDc := hD.sub (ws' := [(h0, .inr (10, [.ref fq, .ref sq, .ref gq, .ref nq, .ref dq, .ref pq, .int pl, .int bl, .int tb])), (fq, .inr (4, [.int mc_fq, .ref tE, .int 0])), (sq, .inr (4, [.int mc_sq, .ref tE, .int 0])), (gq, .inr (4, [.int mc_gq, .ref tE, .int 0])), (nq, .inr (8, [.int hd, .ref tq, .ref zq, .ref wq]))]) [0, 1, 2, 3, 4] (by decide) rfl
  have hKc := hK.sub (tys' := []) [] rfl
  have hFc := va_free (wc := [(h0, .inr (10, [.ref fq, .ref sq, .ref gq, .ref nq, .ref dq, .ref pq, .int pl, .int bl, .int tb])), (fq, .inr (4, [.int mc_fq, .ref tE, .int 0])), (sq, .inr (4, [.int mc_sq, .ref tE, .int 0])), (gq, .inr (4, [.int mc_gq, .ref tE, .int 0])), (nq, .inr (8, [.int hd, .ref tq, .ref zq, .ref wq]))]) hD hS hA [0, 1, 2, 3, 4] rfl
  refine va_calli (va_runV (As := [.int p0]) (rest := [.int 0, .ref oq]) ⟨hx, hb, hml, hown, hts⟩ (c_play_5 l hl9 dC dI tE h0 fq sq gq nq dq pq pl bl tb mc_fq mc_sq mc_gq tq zq wq hd p0 _ hd0) (cwV 1 hts (goodIn_app (goodIn_r _ [35, 36, 37, 6] (by rfl) (by decide +kernel)) gg_w_play_5_c_play_5) rfl rfl rfl (by decide +kernel) ⟨Nat.le_of_ble_eq_true rfl, Nat.le_of_ble_eq_true rfl⟩) ⟨Pre0.blind, va_recv hKc hPc (ci := 10) (q0 := 0) rfl rfl, Pre0.give hPc hKc hDc hT hS hFc⟩ rfl rfl hl.1 rfl (lv_room (Nat.le_of_ble_eq_true rfl)) dL_play_4 ⟨Nat.le_of_ble_eq_true rfl, Nat.le_of_ble_eq_true rfl⟩) hS (fun q _ h => hFc q h) hFc (fun r_1 u t H1 locs ht hvm hw hB hz1 hk1 hS => ?_)
  obtain ⟨vx_2, vx_3, vx_4, hP1, hK1, hD1⟩ := hB
  rw [ht] at hP1
  have hK1 := va_K.moved hvm.symm hK1
  obtain ⟨hP, hD⟩ := va_join (wr := [(oq, .inl (co, 1, .inr (.inl fo)))]) (w1 := [(h0, .inr (10, [.ref fq, .ref sq, .ref gq, .ref nq, .ref dq, .ref pq, .int pl, .int vx_2, .int vx_3])), (nq, .inr (8, [.int vx_4, .ref tq, .ref zq, .ref wq])), (fq, .inr (4, [.int mc_fq, .ref tE, .int 0])), (sq, .inr (4, [.int mc_sq, .ref tE, .int 0])), (gq, .inr (4, [.int mc_gq, .ref tE, .int 0]))]) hP hD [0, 1, 2, 3, 4] [5] rfl rfl (by decide) (by decide) hk1 hFc hP1 hD1
  generalize H1 = H at hP hS ⊢
  have hP : va_P (dC, dI) vwCl [(oq, .inl (co, 1, .inr (.inl fo))), (h0, .inr (10, [.ref fq, .ref sq, .ref gq, .ref nq, .ref dq, .ref pq, .int pl, .int vx_2, .int vx_3])), (nq, .inr (8, [.int vx_4, .ref tq, .ref zq, .ref wq])), (fq, .inr (4, [.int mc_fq, .ref tE, .int 0])), (sq, .inr (4, [.int mc_sq, .ref tE, .int 0])), (gq, .inr (4, [.int mc_gq, .ref tE, .int 0]))] H := hP
  have hD : va_D A [(oq, .inl (co, 1, .inr (.inl fo))), (h0, .inr (10, [.ref fq, .ref sq, .ref gq, .ref nq, .ref dq, .ref pq, .int pl, .int vx_2, .int vx_3])), (nq, .inr (8, [.int vx_4, .ref tq, .ref zq, .ref wq])), (fq, .inr (4, [.int mc_fq, .ref tE, .int 0])), (sq, .inr (4, [.int mc_sq, .ref tE, .int 0])), (gq, .inr (4, [.int mc_gq, .ref tE, .int 0]))] := hD
  refine W.widen (k := 0) (n := 0) (by omega) (by omega) ?_
  obtain rfl : r_1 = 0 := hw
  refine lv_i2l (v := 0) hx hb dL_play_7 (by decide) ?_
  refine va_last hx hb hK hP hD hS 0 0 rfl rfl (by unfold vp_in; decide) dL_play_8 (fun H locs hP hD hS => ?_)
  have hP : va_P (dC, dI) vwCl [(oq, .inl (co, 1, .inr (.inl (vp_updL fo (0 : Int32).toNatClampNeg 0)))), (h0, .inr (10, [.ref fq, .ref sq, .ref gq, .ref nq, .ref dq, .ref pq, .int pl, .int vx_2, .int vx_3])), (nq, .inr (8, [.int vx_4, .ref tq, .ref zq, .ref wq])), (fq, .inr (4, [.int mc_fq, .ref tE, .int 0])), (sq, .inr (4, [.int mc_sq, .ref tE, .int 0])), (gq, .inr (4, [.int mc_gq, .ref tE, .int 0]))] H := hP
  have hD : va_D A [(oq, .inl (co, 1, .inr (.inl (vp_updL fo (0 : Int32).toNatClampNeg 0)))), (h0, .inr (10, [.ref fq, .ref sq, .ref gq, .ref nq, .ref dq, .ref pq, .int pl, .int vx_2, .int vx_3])), (nq, .inr (8, [.int vx_4, .ref tq, .ref zq, .ref wq])), (fq, .inr (4, [.int mc_fq, .ref tE, .int 0])), (sq, .inr (4, [.int mc_sq, .ref tE, .int 0])), (gq, .inr (4, [.int mc_gq, .ref tE, .int 0]))] := hD
  refine lv_goto (tgt := 15) hx hb dL_play_9 (by decide) ?_
  refine lv_iconst (v := 0) hx hb dL_play_15 (by decide) ?_
  have hP9 := hP.sub (ws' := [(oq, .inl (co, 1, .inr (.inl (vp_updL fo (0 : Int32).toNatClampNeg 0)))), (h0, .inr (10, [.ref fq, .ref sq, .ref gq, .ref nq, .ref dq, .ref pq, .int pl, .int vx_2, .int vx_3])), (nq, .inr (8, [.int vx_4, .ref tq, .ref zq, .ref wq])), (fq, .inr (4, [.int mc_fq, .ref tE, .int 0])), (sq, .inr (4, [.int mc_sq, .ref tE, .int 0])), (gq, .inr (4, [.int mc_gq, .ref tE, .int 0]))]) [0, 1, 2, 3, 4, 5] rfl
  have hD9 := hD.sub (ws' := [(oq, .inl (co, 1, .inr (.inl (vp_updL fo (0 : Int32).toNatClampNeg 0)))), (h0, .inr (10, [.ref fq, .ref sq, .ref gq, .ref nq, .ref dq, .ref pq, .int pl, .int vx_2, .int vx_3])), (nq, .inr (8, [.int vx_4, .ref tq, .ref zq, .ref wq])), (fq, .inr (4, [.int mc_fq, .ref tE, .int 0])), (sq, .inr (4, [.int mc_sq, .ref tE, .int 0])), (gq, .inr (4, [.int mc_gq, .ref tE, .int 0]))]) [0, 1, 2, 3, 4, 5] (by decide) rfl
  have hK9 := hK.sub (tys' := [(co, .long)]) [0] rfl
  exact W.iret (v := 0) hx hb hr (fun t ht hW => ⟨⟨0, (), rfl, rfl, vx_2, vx_3, vx_4, by rw [ht]; exact hP9, va_K.moved hW.alike hK9, hD9⟩, hS.F ht⟩) hS.2.2 dL_play_16
def v_w_play_6 : List Cond := .codeWith yL_play cL_play 4 (some .int) [(0, 9, 12, 13)] :: ([Cond.code yX5_play cX5_play 5 (some .int), Cond.code yX5_spanOf cX5_spanOf 4 (some .int), Cond.constant RX5 284 (444444), Cond.methodLink RX5 76 yX5_spanOf, Cond.static yX5_spanOf, Cond.initialized RX5, Cond.code yX5_toneAt cX5_toneAt 2 (some .int), Cond.methodLink RX5 219 yX5_toneAt, Cond.static yX5_toneAt, Cond.code yX5_toll cX5_toll 4 (some .int), Cond.fieldLink RX5 19 "HotelOfBells" "guests" "Ljava/util/ArrayList;", Cond.code yJx4a65c_size_8abf5 cJx4a65c_size_8abf5 1 (some .int), Cond.fieldLink RJx4a65c 48 "java/util/ArrayList" "size" "I", Cond.methodLink RX5 49 yJx4a65c_size_8abf5, Cond.instanceMethod yJx4a65c_size_8abf5, Cond.selects RJx4a65c yJx4a65c_size_8abf5 yJx4a65c_size_8abf5, Cond.initialized RJx4a65c, Cond.fieldLink RX5 200 "HotelOfBells" "bells" "I", Cond.fieldLink RX5 203 "HotelOfBells" "turnsByBells" "I", Cond.fieldLink RX5 25 "HotelOfBells" "now" "LHotelOfBells$Moment;", Cond.code yX5_strike cX5_strike 6 (some .int), Cond.fieldLink RX5 156 "HotelOfBells$Moment" "heard" "I", Cond.code yX5_heardWith cX5_heardWith 2 (some .int), Cond.constant RX5 247 (100000), Cond.methodLink RX5 252 yX5_heardWith, Cond.static yX5_heardWith, Cond.fieldLink RX5 10 "HotelOfBells" "floors" "Ljava/util/ArrayList;", Cond.fieldLink RX5 16 "HotelOfBells" "shafts" "Ljava/util/ArrayList;", Cond.methodLink RX5 237 yX5_strike, Cond.instanceMethod yX5_strike, Cond.selects RX5 yX5_strike yX5_strike, Cond.methodLink RX5 216 yX5_toll, Cond.instanceMethod yX5_toll, Cond.selects RX5 yX5_toll yX5_toll, Cond.methodLink RL 56 yX5_play, Cond.instanceMethod yX5_play, Cond.selects RX5 yX5_play yX5_play] ++ (wsX50 ++ (wsJx4a65c0 ++ (wsX30 ++ []))))
theorem u_w_play_6_X5 : ∀ w ∈ wsX50, w ∈ v_w_play_6 := fun _ h => List.mem_cons_of_mem _ (List.mem_append_right _ (List.mem_append_left _ h))
theorem u_w_play_6_Jx4a65c : ∀ w ∈ wsJx4a65c0, w ∈ v_w_play_6 := fun _ h => List.mem_cons_of_mem _ (List.mem_append_right _ (List.mem_append_right _ (List.mem_append_left _ h)))
theorem u_w_play_6_X3 : ∀ w ∈ wsX30, w ∈ v_w_play_6 := fun _ h => List.mem_cons_of_mem _ (List.mem_append_right _ (List.mem_append_right _ (List.mem_append_right _ (List.mem_append_left _ h))))
theorem gg_w_play_6_c_play_6 : GoodIn v_w_play_6 v_c_play_6 := goodIn_r _ [1, 2, 3, 4, 5, 6, 7, 8, 9, 10, 11, 12, 13, 14, 15, 16, 17, 18, 19, 20, 21, 22, 23, 24, 25, 26, 27, 28, 29, 30, 31, 32, 33, 34, 38, 39, 40, 41, 42, 43, 44, 45, 46, 47, 48, 49, 50, 51, 52, 53] (by rfl) (by decide +kernel)
set_option maxHeartbeats 4000000 in
set_option maxRecDepth 100000 in
theorem w_play_6 (l : Launch) (hl9 : l.stackTraces = false) (dC : Nat → ClassId) (dI : Nat → Nat → Nat) (tE : Nat) (h0 : Nat) (fq : Nat) (sq : Nat) (gq : Nat) (nq : Nat) (dq : Nat) (pq : Nat) (pl : Int32) (bl : Int32) (tb : Int32) (mc_fq : Int32) (mc_sq : Int32) (mc_gq : Int32) (tq : Nat) (zq : Nat) (wq : Nat) (hd : Int32) (p0 : Int32) (oq : Nat) (co : ClassId) (fo : Nat → Int64) (sz : Nat) (hd0 : dgt p0 = 6) : Met l yL_play v_w_play_6 ({ frames := 4, cells := 0, slots := 0, locals := 93 }) (va_Pc [.ref h0, .int p0, .ref oq] (Pre0 dC dI tE sz [(co, .long)] [(h0, .inr (10, [.ref fq, .ref sq, .ref gq, .ref nq, .ref dq, .ref pq, .int pl, .int bl, .int tb])), (fq, .inr (4, [.int mc_fq, .ref tE, .int 0])), (sq, .inr (4, [.int mc_sq, .ref tE, .int 0])), (gq, .inr (4, [.int mc_gq, .ref tE, .int 0])), (nq, .inr (8, [.int hd, .ref tq, .ref zq, .ref wq])), (oq, .inl (co, 1, .inr (.inl fo)))])) (va_Qi (fun (r : Int32) (_ : Unit) => r = 0) (fun _ t => ∃ (vx0 : Int32), ∃ (vx1 : Int32), ∃ (vx2 : Int32), Pst dC dI [(co, .long)] (va_A [(h0, .inr (10, [.ref fq, .ref sq, .ref gq, .ref nq, .ref dq, .ref pq, .int pl, .int bl, .int tb])), (fq, .inr (4, [.int mc_fq, .ref tE, .int 0])), (sq, .inr (4, [.int mc_sq, .ref tE, .int 0])), (gq, .inr (4, [.int mc_gq, .ref tE, .int 0])), (nq, .inr (8, [.int hd, .ref tq, .ref zq, .ref wq])), (oq, .inl (co, 1, .inr (.inl fo)))] sz) [(oq, .inl (co, 1, .inr (.inl (vp_updL fo (0 : Int32).toNatClampNeg 0)))), (h0, .inr (10, [.ref fq, .ref sq, .ref gq, .ref nq, .ref dq, .ref pq, .int pl, .int vx0, .int vx1])), (nq, .inr (8, [.int vx2, .ref tq, .ref zq, .ref wq])), (fq, .inr (4, [.int mc_fq, .ref tE, .int 0])), (sq, .inr (4, [.int mc_sq, .ref tE, .int 0])), (gq, .inr (4, [.int mc_gq, .ref tE, .int 0]))] t) (va_A [(h0, .inr (10, [.ref fq, .ref sq, .ref gq, .ref nq, .ref dq, .ref pq, .int pl, .int bl, .int tb])), (fq, .inr (4, [.int mc_fq, .ref tE, .int 0])), (sq, .inr (4, [.int mc_sq, .ref tE, .int 0])), (gq, .inr (4, [.int mc_gq, .ref tE, .int 0])), (nq, .inr (8, [.int hd, .ref tq, .ref zq, .ref wq])), (oq, .inl (co, 1, .inr (.inl fo)))] sz)) 0 0 (va_A [(h0, .inr (10, [.ref fq, .ref sq, .ref gq, .ref nq, .ref dq, .ref pq, .int pl, .int bl, .int tb])), (fq, .inr (4, [.int mc_fq, .ref tE, .int 0])), (sq, .inr (4, [.int mc_sq, .ref tE, .int 0])), (gq, .inr (4, [.int mc_gq, .ref tE, .int 0])), (nq, .inr (8, [.int hd, .ref tq, .ref zq, .ref wq])), (oq, .inl (co, 1, .inr (.inl fo)))] sz) := by
  refine va_MetW (cc := cL_play) (maxL := 4) (ret := (some .int)) (by decide) rfl ?_
  intro p e s m args below meth c s₁ B hml hv
  obtain ⟨rfl, hsz, hP, hK, hD0, hT⟩ := hv
  have hx := B.exec
  have hb := B.bytes
  have hr := B.returns
  have hts := atoms_spec (ws := v_w_play_6) B.pre
  have hown : s.vm.findClass RL = some m.cls := findClass_of_methodNamed B.named
  have hlocks := B.notSynchronized
  have hTab : c.exceptionTable.toList = tableOf [(0, 9, 12, 13)] := vx_table (x := yL_play) B (hts (.codeWith yL_play cL_play 4 (some .int) [(0, 9, 12, 13)]) (List.mem_of_getElem? (i := 0) rfl))
  subst hsz
  have hD := hD0.self (sz := s.heap.size)
  generalize hAe : va_A [(h0, .inr (10, [.ref fq, .ref sq, .ref gq, .ref nq, .ref dq, .ref pq, .int pl, .int bl, .int tb])), (fq, .inr (4, [.int mc_fq, .ref tE, .int 0])), (sq, .inr (4, [.int mc_sq, .ref tE, .int 0])), (gq, .inr (4, [.int mc_gq, .ref tE, .int 0])), (nq, .inr (8, [.int hd, .ref tq, .ref zq, .ref wq])), (oq, .inl (co, 1, .inr (.inl fo)))] s.heap.size = A at hD hT ⊢
  have hA : ∀ q : Nat, s.heap.size ≤ q → A q := fun q h => by rw [← hAe]; exact Or.inr h
  have hS : va_S A s.heap s.heap [] := va_S.rf
  have hl := lv_entry ([.ref h0, .int p0, .ref oq]) (n := 4) (Nat.le_of_ble_eq_true rfl)
  rw [lg_entry_eq]
  generalize (lg_sl ([.ref h0, .int p0, .ref oq]) ++ List.replicate (4 - (lg_sl ([.ref h0, .int p0, .ref oq])).length) Slot.unset).toArray = ls at hl ⊢
  have hl : lv_has ls 4 [(0, .ref h0), (1, .int p0), (2, .ref oq)] := hl
  refine lv_aload_n hx hb dL_play_0 rfl (lv_at hl 2 rfl) ?_
  refine lv_iconst (v := 0) hx hb dL_play_1 (by decide) ?_
  refine lv_aload_n hx hb dL_play_2 rfl (lv_at hl 0 rfl) ?_
  refine lv_iload_n hx hb dL_play_3 rfl (lv_at hl 1 rfl) ?_
  have hPc := hP.sub (ws' := [(h0, .inr (10, [.ref fq, .ref sq, .ref gq, .ref nq, .ref dq, .ref pq, .int pl, .int bl, .int tb])), (fq, .inr (4, [.int mc_fq, .ref tE, .int 0])), (sq, .inr (4, [.int mc_sq, .ref tE, .int 0])), (gq, .inr (4, [.int mc_gq, .ref tE, .int 0])), (nq, .inr (8, [.int hd, .ref tq, .ref zq, .ref wq]))]) [0, 1, 2, 3, 4] rfl
  have hDc := hD.sub (ws' := [(h0, .inr (10, [.ref fq, .ref sq, .ref gq, .ref nq, .ref dq, .ref pq, .int pl, .int bl, .int tb])), (fq, .inr (4, [.int mc_fq, .ref tE, .int 0])), (sq, .inr (4, [.int mc_sq, .ref tE, .int 0])), (gq, .inr (4, [.int mc_gq, .ref tE, .int 0])), (nq, .inr (8, [.int hd, .ref tq, .ref zq, .ref wq]))]) [0, 1, 2, 3, 4] (by decide) rfl
  have hKc := hK.sub (tys' := []) [] rfl
  have hFc := va_free (wc := [(h0, .inr (10, [.ref fq, .ref sq, .ref gq, .ref nq, .ref dq, .ref pq, .int pl, .int bl, .int tb])), (fq, .inr (4, [.int mc_fq, .ref tE, .int 0])), (sq, .inr (4, [.int mc_sq, .ref tE, .int 0])), (gq, .inr (4, [.int mc_gq, .ref tE, .int 0])), (nq, .inr (8, [.int hd, .ref tq, .ref zq, .ref wq]))]) hD hS hA [0, 1, 2, 3, 4] rfl
  refine va_calli (va_runV (As := [.int p0]) (rest := [.int 0, .ref oq]) ⟨hx, hb, hml, hown, hts⟩ (c_play_6 l hl9 dC dI tE h0 fq sq gq nq dq pq pl bl tb mc_fq mc_sq mc_gq tq zq wq hd p0 _ hd0) (cwV 1 hts (goodIn_app (goodIn_r _ [35, 36, 37, 6] (by rfl) (by decide +kernel)) gg_w_play_6_c_play_6) rfl rfl rfl (by decide +kernel) ⟨Nat.le_of_ble_eq_true rfl, Nat.le_of_ble_eq_true rfl⟩) ⟨Pre0.blind, va_recv hKc hPc (ci := 10) (q0 := 0) rfl rfl, Pre0.give hPc hKc hDc hT hS hFc⟩ rfl rfl hl.1 rfl (lv_room (Nat.le_of_ble_eq_true rfl)) dL_play_4 ⟨Nat.le_of_ble_eq_true rfl, Nat.le_of_ble_eq_true rfl⟩) hS (fun q _ h => hFc q h) hFc (fun r_1 u t H1 locs ht hvm hw hB hz1 hk1 hS => ?_)
  obtain ⟨vx_2, vx_3, vx_4, hP1, hK1, hD1⟩ := hB
  rw [ht] at hP1
  have hK1 := va_K.moved hvm.symm hK1
  obtain ⟨hP, hD⟩ := va_join (wr := [(oq, .inl (co, 1, .inr (.inl fo)))]) (w1 := [(h0, .inr (10, [.ref fq, .ref sq, .ref gq, .ref nq, .ref dq, .ref pq, .int pl, .int vx_2, .int vx_3])), (nq, .inr (8, [.int vx_4, .ref tq, .ref zq, .ref wq])), (fq, .inr (4, [.int mc_fq, .ref tE, .int 0])), (sq, .inr (4, [.int mc_sq, .ref tE, .int 0])), (gq, .inr (4, [.int mc_gq, .ref tE, .int 0]))]) hP hD [0, 1, 2, 3, 4] [5] rfl rfl (by decide) (by decide) hk1 hFc hP1 hD1
  generalize H1 = H at hP hS ⊢
  have hP : va_P (dC, dI) vwCl [(oq, .inl (co, 1, .inr (.inl fo))), (h0, .inr (10, [.ref fq, .ref sq, .ref gq, .ref nq, .ref dq, .ref pq, .int pl, .int vx_2, .int vx_3])), (nq, .inr (8, [.int vx_4, .ref tq, .ref zq, .ref wq])), (fq, .inr (4, [.int mc_fq, .ref tE, .int 0])), (sq, .inr (4, [.int mc_sq, .ref tE, .int 0])), (gq, .inr (4, [.int mc_gq, .ref tE, .int 0]))] H := hP
  have hD : va_D A [(oq, .inl (co, 1, .inr (.inl fo))), (h0, .inr (10, [.ref fq, .ref sq, .ref gq, .ref nq, .ref dq, .ref pq, .int pl, .int vx_2, .int vx_3])), (nq, .inr (8, [.int vx_4, .ref tq, .ref zq, .ref wq])), (fq, .inr (4, [.int mc_fq, .ref tE, .int 0])), (sq, .inr (4, [.int mc_sq, .ref tE, .int 0])), (gq, .inr (4, [.int mc_gq, .ref tE, .int 0]))] := hD
  refine W.widen (k := 0) (n := 0) (by omega) (by omega) ?_
  obtain rfl : r_1 = 0 := hw
  refine lv_i2l (v := 0) hx hb dL_play_7 (by decide) ?_
  refine va_last hx hb hK hP hD hS 0 0 rfl rfl (by unfold vp_in; decide) dL_play_8 (fun H locs hP hD hS => ?_)
  have hP : va_P (dC, dI) vwCl [(oq, .inl (co, 1, .inr (.inl (vp_updL fo (0 : Int32).toNatClampNeg 0)))), (h0, .inr (10, [.ref fq, .ref sq, .ref gq, .ref nq, .ref dq, .ref pq, .int pl, .int vx_2, .int vx_3])), (nq, .inr (8, [.int vx_4, .ref tq, .ref zq, .ref wq])), (fq, .inr (4, [.int mc_fq, .ref tE, .int 0])), (sq, .inr (4, [.int mc_sq, .ref tE, .int 0])), (gq, .inr (4, [.int mc_gq, .ref tE, .int 0]))] H := hP
  have hD : va_D A [(oq, .inl (co, 1, .inr (.inl (vp_updL fo (0 : Int32).toNatClampNeg 0)))), (h0, .inr (10, [.ref fq, .ref sq, .ref gq, .ref nq, .ref dq, .ref pq, .int pl, .int vx_2, .int vx_3])), (nq, .inr (8, [.int vx_4, .ref tq, .ref zq, .ref wq])), (fq, .inr (4, [.int mc_fq, .ref tE, .int 0])), (sq, .inr (4, [.int mc_sq, .ref tE, .int 0])), (gq, .inr (4, [.int mc_gq, .ref tE, .int 0]))] := hD
  refine lv_goto (tgt := 15) hx hb dL_play_9 (by decide) ?_
  refine lv_iconst (v := 0) hx hb dL_play_15 (by decide) ?_
  have hP9 := hP.sub (ws' := [(oq, .inl (co, 1, .inr (.inl (vp_updL fo (0 : Int32).toNatClampNeg 0)))), (h0, .inr (10, [.ref fq, .ref sq, .ref gq, .ref nq, .ref dq, .ref pq, .int pl, .int vx_2, .int vx_3])), (nq, .inr (8, [.int vx_4, .ref tq, .ref zq, .ref wq])), (fq, .inr (4, [.int mc_fq, .ref tE, .int 0])), (sq, .inr (4, [.int mc_sq, .ref tE, .int 0])), (gq, .inr (4, [.int mc_gq, .ref tE, .int 0]))]) [0, 1, 2, 3, 4, 5] rfl
  have hD9 := hD.sub (ws' := [(oq, .inl (co, 1, .inr (.inl (vp_updL fo (0 : Int32).toNatClampNeg 0)))), (h0, .inr (10, [.ref fq, .ref sq, .ref gq, .ref nq, .ref dq, .ref pq, .int pl, .int vx_2, .int vx_3])), (nq, .inr (8, [.int vx_4, .ref tq, .ref zq, .ref wq])), (fq, .inr (4, [.int mc_fq, .ref tE, .int 0])), (sq, .inr (4, [.int mc_sq, .ref tE, .int 0])), (gq, .inr (4, [.int mc_gq, .ref tE, .int 0]))]) [0, 1, 2, 3, 4, 5] (by decide) rfl
  have hK9 := hK.sub (tys' := [(co, .long)]) [0] rfl
  exact W.iret (v := 0) hx hb hr (fun t ht hW => ⟨⟨0, (), rfl, rfl, vx_2, vx_3, vx_4, by rw [ht]; exact hP9, va_K.moved hW.alike hK9, hD9⟩, hS.F ht⟩) hS.2.2 dL_play_16
def vh_w_play_0 : List Cond := .codeWith yL_play cL_play 4 (some .int) [(0, 9, 12, 13)] :: ([Cond.code yX5_play cX5_play 5 (some .int), Cond.code yX5_spanOf cX5_spanOf 4 (some .int), Cond.constant RX5 284 (444444), Cond.methodLink RX5 76 yX5_spanOf, Cond.static yX5_spanOf, Cond.initialized RX5, Cond.classLink RX5 42 "java/lang/IllegalArgumentException", Cond.initialized "java/lang/IllegalArgumentException", Cond.methodLink RL 56 yX5_play, Cond.instanceMethod yX5_play, Cond.selects RX5 yX5_play yX5_play, Cond.classLink RL 13 "java/lang/IllegalArgumentException"] ++ [])
def v_w_play_0 : List Cond := vh_w_play_0 ++ (thrI)
theorem gg_w_play_0_c_play_0 : GoodIn v_w_play_0 vh_c_play_0 := goodIn_r _ [1, 2, 3, 4, 5, 6, 7, 8] (by rfl) (by decide +kernel)
theorem gt_w_play_0_c_play_0 : GoodIn v_w_play_0 v_c_play_0 := goodIn_app gg_w_play_0_c_play_0 (goodIn_sub (fun _ h => List.mem_append_right _ h) (by decide +kernel))
set_option maxHeartbeats 4000000 in
set_option maxRecDepth 100000 in
theorem w_play_0 (l : Launch) (hl9 : l.stackTraces = false) (dC : Nat → ClassId) (dI : Nat → Nat → Nat) (tE : Nat) (h0 : Nat) (fq : Nat) (sq : Nat) (gq : Nat) (nq : Nat) (dq : Nat) (pq : Nat) (pl : Int32) (bl : Int32) (tb : Int32) (p0 : Int32) (oq : Nat) (sz : Nat) (hd0 : dgt p0 = 0) : Met l yL_play v_w_play_0 ({ frames := 7, cells := 1, slots := 6, locals := 114 }) (va_Pc [.ref h0, .int p0, .ref oq] (Pre0 dC dI tE sz [] [(h0, .inr (10, [.ref fq, .ref sq, .ref gq, .ref nq, .ref dq, .ref pq, .int pl, .int bl, .int tb]))])) (va_Qi (fun (r : Int32) (_ : Unit) => r = 1) (fun _ t => Pst dC dI [] (va_A [(h0, .inr (10, [.ref fq, .ref sq, .ref gq, .ref nq, .ref dq, .ref pq, .int pl, .int bl, .int tb]))] sz) [(h0, .inr (10, [.ref fq, .ref sq, .ref gq, .ref nq, .ref dq, .ref pq, .int pl, .int bl, .int tb]))] t) (va_A [(h0, .inr (10, [.ref fq, .ref sq, .ref gq, .ref nq, .ref dq, .ref pq, .int pl, .int bl, .int tb]))] sz)) 1 6 (va_A [(h0, .inr (10, [.ref fq, .ref sq, .ref gq, .ref nq, .ref dq, .ref pq, .int pl, .int bl, .int tb]))] sz) := by
  refine va_MetW (cc := cL_play) (maxL := 4) (ret := (some .int)) (by decide) rfl ?_
  intro p e s m args below meth c s₁ B hml hv
  obtain ⟨rfl, hsz, hP, hK, hD0, hT⟩ := hv
  have hx := B.exec
  have hb := B.bytes
  have hr := B.returns
  have hts := atoms_spec (ws := v_w_play_0) B.pre
  have hown : s.vm.findClass RL = some m.cls := findClass_of_methodNamed B.named
  have hlocks := B.notSynchronized
  have hTab : c.exceptionTable.toList = tableOf [(0, 9, 12, 13)] := vx_table (x := yL_play) B (hts (.codeWith yL_play cL_play 4 (some .int) [(0, 9, 12, 13)]) (List.mem_of_getElem? (i := 0) rfl))
  subst hsz
  have hD := hD0.self (sz := s.heap.size)
  generalize hAe : va_A [(h0, .inr (10, [.ref fq, .ref sq, .ref gq, .ref nq, .ref dq, .ref pq, .int pl, .int bl, .int tb]))] s.heap.size = A at hD hT ⊢
  have hA : ∀ q : Nat, s.heap.size ≤ q → A q := fun q h => by rw [← hAe]; exact Or.inr h
  have hS : va_S A s.heap s.heap [] := va_S.rf
  have hl := lv_entry ([.ref h0, .int p0, .ref oq]) (n := 4) (Nat.le_of_ble_eq_true rfl)
  rw [lg_entry_eq]
  generalize (lg_sl ([.ref h0, .int p0, .ref oq]) ++ List.replicate (4 - (lg_sl ([.ref h0, .int p0, .ref oq])).length) Slot.unset).toArray = ls at hl ⊢
  have hl : lv_has ls 4 [(0, .ref h0), (1, .int p0), (2, .ref oq)] := hl
  refine lv_aload_n hx hb dL_play_0 rfl (lv_at hl 2 rfl) ?_
  refine lv_iconst (v := 0) hx hb dL_play_1 (by decide) ?_
  refine lv_aload_n hx hb dL_play_2 rfl (lv_at hl 0 rfl) ?_
  refine lv_iload_n hx hb dL_play_3 rfl (lv_at hl 1 rfl) ?_
  have hPc := hP.sub (ws' := [(h0, .inr (10, [.ref fq, .ref sq, .ref gq, .ref nq, .ref dq, .ref pq, .int pl, .int bl, .int tb]))]) [0] rfl
  have hDc := hD.sub (ws' := [(h0, .inr (10, [.ref fq, .ref sq, .ref gq, .ref nq, .ref dq, .ref pq, .int pl, .int bl, .int tb]))]) [0] (by decide) rfl
  have hKc := hK.sub (tys' := []) [] rfl
  have hFc := va_free (wc := [(h0, .inr (10, [.ref fq, .ref sq, .ref gq, .ref nq, .ref dq, .ref pq, .int pl, .int bl, .int tb]))]) hD hS hA [0] rfl
  refine vx_calli (vx_runV (As := [.int p0]) (rest := [.int 0, .ref oq]) ⟨hx, hb, hml, hown, hts⟩ (c_play_0 l hl9 dC dI tE h0 fq sq gq nq dq pq pl bl tb p0 _ hd0) (cwV 1 hts (goodIn_app (goodIn_r _ [9, 10, 11, 6] (by rfl) (by decide +kernel)) gt_w_play_0_c_play_0) rfl rfl rfl (by decide +kernel) ⟨Nat.le_of_ble_eq_true rfl, Nat.le_of_ble_eq_true rfl⟩) ⟨Pre0.blind, va_recv hKc hPc (ci := 10) (q0 := 0) rfl rfl, Pre0.give hPc hKc hDc hT hS hFc⟩ rfl rfl hl.1 rfl (lv_room (Nat.le_of_ble_eq_true rfl)) dL_play_4 ⟨Nat.le_of_ble_eq_true rfl, Nat.le_of_ble_eq_true rfl⟩) hS (fun q _ h => hFc q h) hFc (fun q _ h => hFc q h) (fun E ce q9 u t H1 locs ht hvm hpx hB hz1 hk1 hS hce hcv hcl => ?_) (fun r u t H1 locs ht hvm hw hB hz1 hk1 hS => hw.elim)
  obtain ⟨rfl, hP1, hK1, hD1⟩ := hB
  rw [ht] at hP1
  have hK1 := va_K.moved hvm.symm hK1
  obtain ⟨hP, hD⟩ := va_join (wr := []) (w1 := [(h0, .inr (10, [.ref fq, .ref sq, .ref gq, .ref nq, .ref dq, .ref pq, .int pl, .int bl, .int tb]))]) hP hD [0] [] rfl rfl (by decide) (by decide) hk1 hFc hP1 hD1
  generalize H1 = H at hP hS hce ⊢
  have hP : va_P (dC, dI) vwCl [(h0, .inr (10, [.ref fq, .ref sq, .ref gq, .ref nq, .ref dq, .ref pq, .int pl, .int bl, .int tb]))] H := hP
  have hD : va_D A [(h0, .inr (10, [.ref fq, .ref sq, .ref gq, .ref nq, .ref dq, .ref pq, .int pl, .int bl, .int tb]))] := hD
  refine vx_widen (k := 1) (n := 6) (by omega) (by omega) ?_
  refine vx_catch (own := RL) (name := "java/lang/IllegalArgumentException") (E := "java/lang/IllegalArgumentException") hown [] ⟨0, 9, 12, 13⟩ [] (by rw [hTab]; rfl) (fun z hz => nomatch hz) (by decide) (by decide) (hts (.classLink RL 13 "java/lang/IllegalArgumentException") (List.mem_of_getElem? (i := 12) rfl)) (va_Nw.use rfl hT.eI) hce hcv hcl ?_
  refine lv_astore_n (lv' := [(3, .ref q9), (0, .ref h0), (1, .int p0), (2, .ref oq)]) hx hb dL_play_12 rfl hl (by decide) rfl (fun ls hl => ?_)
  refine lv_iconst (v := 1) hx hb dL_play_13 (by decide) ?_
  have hP9 := hP.sub (ws' := [(h0, .inr (10, [.ref fq, .ref sq, .ref gq, .ref nq, .ref dq, .ref pq, .int pl, .int bl, .int tb]))]) [0] rfl
  have hD9 := hD.sub (ws' := [(h0, .inr (10, [.ref fq, .ref sq, .ref gq, .ref nq, .ref dq, .ref pq, .int pl, .int bl, .int tb]))]) [0] (by decide) rfl
  have hK9 := hK.sub (tys' := []) [] rfl
  exact W.iret (v := 1) hx hb hr (fun t ht hW => ⟨⟨1, (), rfl, rfl, by rw [ht]; exact hP9, va_K.moved hW.alike hK9, hD9⟩, hS.F ht⟩) hS.2.2 dL_play_14
