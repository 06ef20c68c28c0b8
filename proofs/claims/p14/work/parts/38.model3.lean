theorem dX6_addFloor_0 : decode cX6_addFloor 0 = .ok (.aload_n 0, 1) := by decide +kernel
theorem dX6_addFloor_1 : decode cX6_addFloor 1 = .ok (.iconst 0, 1) := by decide +kernel
theorem dX6_addFloor_12 : decode cX6_addFloor 12 = .ok (.ifCond .ne 9, 3) := by decide +kernel
theorem dX6_addFloor_2 : decode cX6_addFloor 2 = .ok (.putfield 20, 3) := by decide +kernel
theorem dX6_addFloor_21 : decode cX6_addFloor 21 = .ok (.aload_n 0, 1) := by decide +kernel
theorem dX6_addFloor_22 : decode cX6_addFloor 22 = .ok (.getfield 24, 3) := by decide +kernel
theorem dX6_addFloor_25 : decode cX6_addFloor 25 = .ok (.bipush 6, 2) := by decide +kernel
theorem dX6_addFloor_27 : decode cX6_addFloor 27 = .ok (.if_icmp .ne 9, 3) := by decide +kernel
theorem dX6_addFloor_36 : decode cX6_addFloor 36 = .ok (.aload_n 0, 1) := by decide +kernel
theorem dX6_addFloor_37 : decode cX6_addFloor 37 = .ok (.aload_n 0, 1) := by decide +kernel
theorem dX6_addFloor_38 : decode cX6_addFloor 38 = .ok (.getfield 24, 3) := by decide +kernel
theorem dX6_addFloor_41 : decode cX6_addFloor 41 = .ok (.iconst 0, 1) := by decide +kernel
theorem dX6_addFloor_42 : decode cX6_addFloor 42 = .ok (.iload_n 1, 1) := by decide +kernel
theorem dX6_addFloor_43 : decode cX6_addFloor 43 = .ok (.invokevirtual 49, 3) := by decide +kernel
theorem dX6_addFloor_46 : decode cX6_addFloor 46 = .ok (.aload_n 0, 1) := by decide +kernel
theorem dX6_addFloor_47 : decode cX6_addFloor 47 = .ok (.aload_n 0, 1) := by decide +kernel
theorem dX6_addFloor_48 : decode cX6_addFloor 48 = .ok (.getfield 24, 3) := by decide +kernel
theorem dX6_addFloor_5 : decode cX6_addFloor 5 = .ok (.iload_n 1, 1) := by decide +kernel
theorem dX6_addFloor_51 : decode cX6_addFloor 51 = .ok (.iconst 2, 1) := by decide +kernel
theorem dX6_addFloor_52 : decode cX6_addFloor 52 = .ok (.iconst 1, 1) := by decide +kernel
theorem dX6_addFloor_53 : decode cX6_addFloor 53 = .ok (.invokevirtual 49, 3) := by decide +kernel
theorem dX6_addFloor_56 : decode cX6_addFloor 56 = .ok (.aload_n 0, 1) := by decide +kernel
theorem dX6_addFloor_57 : decode cX6_addFloor 57 = .ok (.dup, 1) := by decide +kernel
theorem dX6_addFloor_58 : decode cX6_addFloor 58 = .ok (.getfield 24, 3) := by decide +kernel
theorem dX6_addFloor_6 : decode cX6_addFloor 6 = .ok (.iconst 3, 1) := by decide +kernel
theorem dX6_addFloor_61 : decode cX6_addFloor 61 = .ok (.iconst 1, 1) := by decide +kernel
theorem dX6_addFloor_62 : decode cX6_addFloor 62 = .ok (.iadd, 1) := by decide +kernel
theorem dX6_addFloor_63 : decode cX6_addFloor 63 = .ok (.putfield 24, 3) := by decide +kernel
theorem dX6_addFloor_66 : decode cX6_addFloor 66 = .ok (.aload_n 0, 1) := by decide +kernel
theorem dX6_addFloor_67 : decode cX6_addFloor 67 = .ok (.getfield 24, 3) := by decide +kernel
theorem dX6_addFloor_7 : decode cX6_addFloor 7 = .ok (.bipush 12, 2) := by decide +kernel
theorem dX6_addFloor_70 : decode cX6_addFloor 70 = .ok (.iconst 1, 1) := by decide +kernel
theorem dX6_addFloor_71 : decode cX6_addFloor 71 = .ok (.isub, 1) := by decide +kernel
theorem dX6_addFloor_72 : decode cX6_addFloor 72 = .ok (.ireturn, 1) := by decide +kernel
theorem dX6_addFloor_9 : decode cX6_addFloor 9 = .ok (.invokestatic 27, 3) := by decide +kernel
theorem dX6_addGuest_0 : decode cX6_addGuest 0 = .ok (.aload_n 0, 1) := by decide +kernel
theorem dX6_addGuest_1 : decode cX6_addGuest 1 = .ok (.iconst 0, 1) := by decide +kernel
theorem dX6_addGuest_100 : decode cX6_addGuest 100 = .ok (.isub, 1) := by decide +kernel
theorem dX6_addGuest_101 : decode cX6_addGuest 101 = .ok (.ireturn, 1) := by decide +kernel
theorem dX6_addGuest_11 : decode cX6_addGuest 11 = .ok (.ifCond .ne 9, 3) := by decide +kernel
theorem dX6_addGuest_2 : decode cX6_addGuest 2 = .ok (.putfield 20, 3) := by decide +kernel
theorem dX6_addGuest_20 : decode cX6_addGuest 20 = .ok (.aload_n 0, 1) := by decide +kernel
theorem dX6_addGuest_21 : decode cX6_addGuest 21 = .ok (.getfield 34, 3) := by decide +kernel
theorem dX6_addGuest_24 : decode cX6_addGuest 24 = .ok (.bipush 10, 2) := by decide +kernel
theorem dX6_addGuest_26 : decode cX6_addGuest 26 = .ok (.if_icmp .ne 9, 3) := by decide +kernel
theorem dX6_addGuest_35 : decode cX6_addGuest 35 = .ok (.bipush 6, 2) := by decide +kernel
theorem dX6_addGuest_37 : decode cX6_addGuest 37 = .ok (.newarray .int, 2) := by decide +kernel
theorem dX6_addGuest_39 : decode cX6_addGuest 39 = .ok (.dup, 1) := by decide +kernel
theorem dX6_addGuest_40 : decode cX6_addGuest 40 = .ok (.iconst 0, 1) := by decide +kernel
theorem dX6_addGuest_41 : decode cX6_addGuest 41 = .ok (.iload_n 1, 1) := by decide +kernel
theorem dX6_addGuest_42 : decode cX6_addGuest 42 = .ok (.iastore, 1) := by decide +kernel
theorem dX6_addGuest_43 : decode cX6_addGuest 43 = .ok (.dup, 1) := by decide +kernel
theorem dX6_addGuest_44 : decode cX6_addGuest 44 = .ok (.iconst 1, 1) := by decide +kernel
theorem dX6_addGuest_45 : decode cX6_addGuest 45 = .ok (.iload_n 2, 1) := by decide +kernel
theorem dX6_addGuest_46 : decode cX6_addGuest 46 = .ok (.iastore, 1) := by decide +kernel
theorem dX6_addGuest_47 : decode cX6_addGuest 47 = .ok (.dup, 1) := by decide +kernel
theorem dX6_addGuest_48 : decode cX6_addGuest 48 = .ok (.iconst 2, 1) := by decide +kernel
theorem dX6_addGuest_49 : decode cX6_addGuest 49 = .ok (.iconst (-1), 1) := by decide +kernel
theorem dX6_addGuest_5 : decode cX6_addGuest 5 = .ok (.aload_n 0, 1) := by decide +kernel
theorem dX6_addGuest_50 : decode cX6_addGuest 50 = .ok (.iastore, 1) := by decide +kernel
theorem dX6_addGuest_51 : decode cX6_addGuest 51 = .ok (.dup, 1) := by decide +kernel
theorem dX6_addGuest_52 : decode cX6_addGuest 52 = .ok (.iconst 3, 1) := by decide +kernel
theorem dX6_addGuest_53 : decode cX6_addGuest 53 = .ok (.iload_n 1, 1) := by decide +kernel
theorem dX6_addGuest_54 : decode cX6_addGuest 54 = .ok (.iastore, 1) := by decide +kernel
theorem dX6_addGuest_55 : decode cX6_addGuest 55 = .ok (.dup, 1) := by decide +kernel
theorem dX6_addGuest_56 : decode cX6_addGuest 56 = .ok (.iconst 4, 1) := by decide +kernel
theorem dX6_addGuest_57 : decode cX6_addGuest 57 = .ok (.iload_n 2, 1) := by decide +kernel
theorem dX6_addGuest_58 : decode cX6_addGuest 58 = .ok (.iastore, 1) := by decide +kernel
theorem dX6_addGuest_59 : decode cX6_addGuest 59 = .ok (.dup, 1) := by decide +kernel
theorem dX6_addGuest_6 : decode cX6_addGuest 6 = .ok (.iload_n 1, 1) := by decide +kernel
theorem dX6_addGuest_60 : decode cX6_addGuest 60 = .ok (.iconst 5, 1) := by decide +kernel
theorem dX6_addGuest_61 : decode cX6_addGuest 61 = .ok (.iconst 0, 1) := by decide +kernel
theorem dX6_addGuest_62 : decode cX6_addGuest 62 = .ok (.iastore, 1) := by decide +kernel
theorem dX6_addGuest_63 : decode cX6_addGuest 63 = .ok (.astore_n 3, 1) := by decide +kernel
theorem dX6_addGuest_64 : decode cX6_addGuest 64 = .ok (.aload_n 3, 1) := by decide +kernel
theorem dX6_addGuest_65 : decode cX6_addGuest 65 = .ok (.iconst 0, 1) := by decide +kernel
theorem dX6_addGuest_66 : decode cX6_addGuest 66 = .ok (.aload_n 0, 1) := by decide +kernel
theorem dX6_addGuest_67 : decode cX6_addGuest 67 = .ok (.getfield 9, 3) := by decide +kernel
theorem dX6_addGuest_7 : decode cX6_addGuest 7 = .ok (.iload_n 2, 1) := by decide +kernel
theorem dX6_addGuest_70 : decode cX6_addGuest 70 = .ok (.bipush 56, 2) := by decide +kernel
theorem dX6_addGuest_72 : decode cX6_addGuest 72 = .ok (.bipush 6, 2) := by decide +kernel
theorem dX6_addGuest_74 : decode cX6_addGuest 74 = .ok (.aload_n 0, 1) := by decide +kernel
theorem dX6_addGuest_75 : decode cX6_addGuest 75 = .ok (.getfield 34, 3) := by decide +kernel
theorem dX6_addGuest_78 : decode cX6_addGuest 78 = .ok (.imul, 1) := by decide +kernel
theorem dX6_addGuest_79 : decode cX6_addGuest 79 = .ok (.iadd, 1) := by decide +kernel
theorem dX6_addGuest_8 : decode cX6_addGuest 8 = .ok (.invokevirtual 68, 3) := by decide +kernel
theorem dX6_addGuest_80 : decode cX6_addGuest 80 = .ok (.bipush 6, 2) := by decide +kernel
theorem dX6_addGuest_82 : decode cX6_addGuest 82 = .ok (.invokestatic 72, 3) := by decide +kernel
theorem dX6_addGuest_85 : decode cX6_addGuest 85 = .ok (.aload_n 0, 1) := by decide +kernel
theorem dX6_addGuest_86 : decode cX6_addGuest 86 = .ok (.dup, 1) := by decide +kernel
theorem dX6_addGuest_87 : decode cX6_addGuest 87 = .ok (.getfield 34, 3) := by decide +kernel
theorem dX6_addGuest_90 : decode cX6_addGuest 90 = .ok (.iconst 1, 1) := by decide +kernel
theorem dX6_addGuest_91 : decode cX6_addGuest 91 = .ok (.iadd, 1) := by decide +kernel
theorem dX6_addGuest_92 : decode cX6_addGuest 92 = .ok (.putfield 34, 3) := by decide +kernel
theorem dX6_addGuest_95 : decode cX6_addGuest 95 = .ok (.aload_n 0, 1) := by decide +kernel
theorem dX6_addGuest_96 : decode cX6_addGuest 96 = .ok (.getfield 34, 3) := by decide +kernel
theorem dX6_addGuest_99 : decode cX6_addGuest 99 = .ok (.iconst 1, 1) := by decide +kernel
theorem dX6_isFloor_0 : decode cX6_isFloor 0 = .ok (.iload_n 1, 1) := by decide +kernel
theorem dX6_isFloor_1 : decode cX6_isFloor 1 = .ok (.iconst 0, 1) := by decide +kernel
theorem dX6_isFloor_11 : decode cX6_isFloor 11 = .ok (.ireturn, 1) := by decide +kernel
theorem dX6_isFloor_2 : decode cX6_isFloor 2 = .ok (.aload_n 0, 1) := by decide +kernel
theorem dX6_isFloor_3 : decode cX6_isFloor 3 = .ok (.getfield 24, 3) := by decide +kernel
theorem dX6_isFloor_6 : decode cX6_isFloor 6 = .ok (.iconst 1, 1) := by decide +kernel
theorem dX6_isFloor_7 : decode cX6_isFloor 7 = .ok (.isub, 1) := by decide +kernel
theorem dX6_isFloor_8 : decode cX6_isFloor 8 = .ok (.invokestatic 27, 3) := by decide +kernel
theorem dX6_isRoom_0 : decode cX6_isRoom 0 = .ok (.aload_n 0, 1) := by decide +kernel
theorem dX6_isRoom_1 : decode cX6_isRoom 1 = .ok (.iload_n 1, 1) := by decide +kernel
theorem dX6_isRoom_10 : decode cX6_isRoom 10 = .ok (.aload_n 0, 1) := by decide +kernel
theorem dX6_isRoom_11 : decode cX6_isRoom 11 = .ok (.iload_n 1, 1) := by decide +kernel
theorem dX6_isRoom_12 : decode cX6_isRoom 12 = .ok (.iconst 0, 1) := by decide +kernel
theorem dX6_isRoom_13 : decode cX6_isRoom 13 = .ok (.invokevirtual 41, 3) := by decide +kernel
theorem dX6_isRoom_16 : decode cX6_isRoom 16 = .ok (.iconst 1, 1) := by decide +kernel
theorem dX6_isRoom_17 : decode cX6_isRoom 17 = .ok (.isub, 1) := by decide +kernel
theorem dX6_isRoom_18 : decode cX6_isRoom 18 = .ok (.invokestatic 27, 3) := by decide +kernel
theorem dX6_isRoom_2 : decode cX6_isRoom 2 = .ok (.invokevirtual 37, 3) := by decide +kernel
theorem dX6_isRoom_21 : decode cX6_isRoom 21 = .ok (.ifCond .eq 7, 3) := by decide +kernel
theorem dX6_isRoom_24 : decode cX6_isRoom 24 = .ok (.iconst 1, 1) := by decide +kernel
theorem dX6_isRoom_25 : decode cX6_isRoom 25 = .ok (.goto 4, 3) := by decide +kernel
theorem dX6_isRoom_29 : decode cX6_isRoom 29 = .ok (.ireturn, 1) := by decide +kernel
theorem dX6_isRoom_5 : decode cX6_isRoom 5 = .ok (.ifCond .eq 23, 3) := by decide +kernel
theorem dX6_isRoom_8 : decode cX6_isRoom 8 = .ok (.iload_n 2, 1) := by decide +kernel
theorem dX6_isRoom_9 : decode cX6_isRoom 9 = .ok (.iconst 0, 1) := by decide +kernel
theorem dX6_want_0 : decode cX6_want 0 = .ok (.aload_n 0, 1) := by decide +kernel
theorem dX6_want_1 : decode cX6_want 1 = .ok (.aload_n 0, 1) := by decide +kernel
theorem dX6_want_10 : decode cX6_want 10 = .ok (.iload_n 2, 1) := by decide +kernel
theorem dX6_want_11 : decode cX6_want 11 = .ok (.iload_n 3, 1) := by decide +kernel
theorem dX6_want_12 : decode cX6_want 12 = .ok (.invokevirtual 68, 3) := by decide +kernel
theorem dX6_want_15 : decode cX6_want 15 = .ok (.ifCond .eq 7, 3) := by decide +kernel
theorem dX6_want_18 : decode cX6_want 18 = .ok (.iconst 0, 1) := by decide +kernel
theorem dX6_want_19 : decode cX6_want 19 = .ok (.goto 4, 3) := by decide +kernel
theorem dX6_want_2 : decode cX6_want 2 = .ok (.iload_n 1, 1) := by decide +kernel
theorem dX6_want_23 : decode cX6_want 23 = .ok (.putfield 20, 3) := by decide +kernel
theorem dX6_want_26 : decode cX6_want 26 = .ok (.aload_n 0, 1) := by decide +kernel
theorem dX6_want_27 : decode cX6_want 27 = .ok (.getfield 20, 3) := by decide +kernel
theorem dX6_want_3 : decode cX6_want 3 = .ok (.invokevirtual 81, 3) := by decide +kernel
theorem dX6_want_30 : decode cX6_want 30 = .ok (.ifCond .eq 5, 3) := by decide +kernel
theorem dX6_want_35 : decode cX6_want 35 = .ok (.aload_n 0, 1) := by decide +kernel
theorem dX6_want_36 : decode cX6_want 36 = .ok (.iload_n 1, 1) := by decide +kernel
theorem dX6_want_37 : decode cX6_want 37 = .ok (.iconst 3, 1) := by decide +kernel
theorem dX6_want_38 : decode cX6_want 38 = .ok (.iload_n 2, 1) := by decide +kernel
theorem dX6_want_39 : decode cX6_want 39 = .ok (.invokevirtual 84, 3) := by decide +kernel
theorem dX6_want_42 : decode cX6_want 42 = .ok (.aload_n 0, 1) := by decide +kernel
theorem dX6_want_43 : decode cX6_want 43 = .ok (.iload_n 1, 1) := by decide +kernel
theorem dX6_want_44 : decode cX6_want 44 = .ok (.iconst 4, 1) := by decide +kernel
theorem dX6_want_45 : decode cX6_want 45 = .ok (.iload_n 3, 1) := by decide +kernel
theorem dX6_want_46 : decode cX6_want 46 = .ok (.invokevirtual 84, 3) := by decide +kernel
theorem dX6_want_49 : decode cX6_want 49 = .ok (.aload_n 0, 1) := by decide +kernel
theorem dX6_want_50 : decode cX6_want 50 = .ok (.iload_n 1, 1) := by decide +kernel
theorem dX6_want_51 : decode cX6_want 51 = .ok (.iconst 5, 1) := by decide +kernel
theorem dX6_want_52 : decode cX6_want 52 = .ok (.iconst 0, 1) := by decide +kernel
theorem dX6_want_53 : decode cX6_want 53 = .ok (.invokevirtual 84, 3) := by decide +kernel
theorem dX6_want_56 : decode cX6_want 56 = .ok (.aload_n 0, 1) := by decide +kernel
theorem dX6_want_57 : decode cX6_want 57 = .ok (.iload_n 1, 1) := by decide +kernel
theorem dX6_want_58 : decode cX6_want 58 = .ok (.invokevirtual 87, 3) := by decide +kernel
theorem dX6_want_6 : decode cX6_want 6 = .ok (.ifCond .eq 16, 3) := by decide +kernel
theorem dX6_want_61 : decode cX6_want 61 = .ok (.ireturn, 1) := by decide +kernel
theorem dX6_want_9 : decode cX6_want 9 = .ok (.aload_n 0, 1) := by decide +kernel
def v_c_setFl0_0 : List Cond := .code yX6_setFl cX6_setFl 4 none :: ([Cond.fieldLink RX6 9 "HotelOfBellsModel" "row" "[I"] ++ (wsX60 ++ []))
theorem u_c_setFl0_0_X6 : ∀ w ∈ wsX60, w ∈ v_c_setFl0_0 := fun _ h => List.mem_cons_of_mem _ (List.mem_append_right _ (List.mem_append_left _ h))
set_option maxHeartbeats 4000000 in
set_option maxRecDepth 100000 in
theorem c_setFl0_0 (l : Launch) (hl9 : l.stackTraces = false) (dC : Nat → ClassId) (dI : Nat → Nat → Nat) (tE : Nat) (h0 : Nat) (rq : Nat) (sbq : Nat) (th : Int32) (ci : ClassId) (sz : Nat) : Met l yX6_setFl v_c_setFl0_0 ({ frames := 0, cells := 0, slots := 0, locals := 0 }) (va_Pc [.ref h0, .int 0, .int 0, .int 3] (Pre0 dC dI tE sz [(ci, .int)] [(h0, .inr (11, [.int th, .int 0, .int 0, .int 0, .ref rq, .ref sbq])), (rq, .inl (ci, 119, .inl (fun _ => 0)))])) (va_Qv (fun (_ : Unit) => True) (fun _ t => Pst dC dI [(ci, .int)] (va_A [(h0, .inr (11, [.int th, .int 0, .int 0, .int 0, .ref rq, .ref sbq])), (rq, .inl (ci, 119, .inl (fun _ => 0)))] sz) [(h0, .inr (11, [.int th, .int 0, .int 0, .int 0, .ref rq, .ref sbq])), (rq, .inl (ci, 119, .inl (upd (fun _ => 0) (0 : Int32).toNatClampNeg 3)))] t) (va_A [(h0, .inr (11, [.int th, .int 0, .int 0, .int 0, .ref rq, .ref sbq])), (rq, .inl (ci, 119, .inl (fun _ => 0)))] sz)) 0 0 (va_A [(h0, .inr (11, [.int th, .int 0, .int 0, .int 0, .ref rq, .ref sbq])), (rq, .inl (ci, 119, .inl (fun _ => 0)))] sz) := by
  refine Met.ofW (cc := cX6_setFl) (maxL := 4) (ret := none) (by decide) rfl ?_
  intro p e s m args below meth c s₁ B hml hv
  obtain ⟨rfl, hsz, hP, hK, hD0, hT⟩ := hv
  have hx := B.exec
  have hb := B.bytes
  have hr := B.returns
  have hts := atoms_spec (ws := v_c_setFl0_0) B.pre
  have hown : s.vm.findClass RX6 = some m.cls := findClass_of_methodNamed B.named
  have hlocks := B.notSynchronized
  subst hsz
  have hD := hD0.self (sz := s.heap.size)
  generalize hAe : va_A [(h0, .inr (11, [.int th, .int 0, .int 0, .int 0, .ref rq, .ref sbq])), (rq, .inl (ci, 119, .inl (fun _ => 0)))] s.heap.size = A at hD hT ⊢
  have hA : ∀ q : Nat, s.heap.size ≤ q → A q := fun q h => by rw [← hAe]; exact Or.inr h
  have hS : va_S A s.heap s.heap [] := va_S.rf
  have hl := lv_entry ([.ref h0, .int 0, .int 0, .int 3]) (n := 4) (Nat.le_of_ble_eq_true rfl)
  rw [lg_entry_eq]
  generalize (lg_sl ([.ref h0, .int 0, .int 0, .int 3]) ++ List.replicate (4 - (lg_sl ([.ref h0, .int 0, .int 0, .int 3])).length) Slot.unset).toArray = ls at hl ⊢
  have hl : lv_has ls 4 [(0, .ref h0), (1, .int 0), (2, .int 0), (3, .int 3)] := hl
  refine lv_aload_n hx hb dX6_setFl_0 rfl (lv_at hl 0 rfl) ?_
  refine va_get (D := (dC, dI)) (ci := 11) (v := .ref rq) (C := RX6) (T := TX6) (N := 6) hx hb hts u_c_setFl0_0_X6 hown hK hP 0 rfl rfl 4 (by decide) (hts (.fieldLink RX6 9 "HotelOfBellsModel" "row" "[I") (List.mem_of_getElem? (i := 1) rfl)) (fun _ h9 => h9) rfl dX6_setFl_1 ?_
  refine lv_iconst (v := 4) hx hb dX6_setFl_4 (by decide) ?_
  refine lv_iload_n hx hb dX6_setFl_5 rfl (lv_at hl 1 rfl) ?_
  refine lv_imul hx hb dX6_setFl_6 ?_
  refine lv_topi (fun x_1 e_2 => ?_)
  obtain rfl : x_1 = 0 := e_2.trans (by decide)
  refine lv_iload_n hx hb dX6_setFl_7 rfl (lv_at hl 2 rfl) ?_
  refine lv_iadd hx hb dX6_setFl_8 ?_
  refine lv_topi (fun x_3 e_4 => ?_)
  obtain rfl : x_3 = 0 := e_4.trans (by decide)
  refine lv_iload_n hx hb dX6_setFl_9 rfl (lv_at hl 3 rfl) ?_
  refine va_iast hx hb hK hP hD hS 1 0 rfl rfl (by unfold vp_in; decide) dX6_setFl_10 (fun H locs hP hD hS => ?_)
  have hP : va_P (dC, dI) vwCl [(h0, .inr (11, [.int th, .int 0, .int 0, .int 0, .ref rq, .ref sbq])), (rq, .inl (ci, 119, .inl (upd (fun _ => 0) (0 : Int32).toNatClampNeg 3)))] H := hP
  have hD : va_D A [(h0, .inr (11, [.int th, .int 0, .int 0, .int 0, .ref rq, .ref sbq])), (rq, .inl (ci, 119, .inl (upd (fun _ => 0) (0 : Int32).toNatClampNeg 3)))] := hD
  have hP9 := hP.sub (ws' := [(h0, .inr (11, [.int th, .int 0, .int 0, .int 0, .ref rq, .ref sbq])), (rq, .inl (ci, 119, .inl (upd (fun _ => 0) (0 : Int32).toNatClampNeg 3)))]) [0, 1] rfl
  have hD9 := hD.sub (ws' := [(h0, .inr (11, [.int th, .int 0, .int 0, .int 0, .ref rq, .ref sbq])), (rq, .inl (ci, 119, .inl (upd (fun _ => 0) (0 : Int32).toNatClampNeg 3)))]) [0, 1] (by decide) rfl
  have hK9 := hK.sub (tys' := [(ci, .int)]) [0] rfl
  exact W.vret hx hb hr (fun t ht hW => ⟨⟨(), rfl, trivial, by rw [ht]; exact hP9, va_K.moved hW.alike hK9, hD9⟩, hS.F ht⟩) hS.2.2 dX6_setFl_11
def v_c_setFl0_2 : List Cond := .code yX6_setFl cX6_setFl 4 none :: ([Cond.fieldLink RX6 9 "HotelOfBellsModel" "row" "[I"] ++ (wsX60 ++ []))
theorem u_c_setFl0_2_X6 : ∀ w ∈ wsX60, w ∈ v_c_setFl0_2 := fun _ h => List.mem_cons_of_mem _ (List.mem_append_right _ (List.mem_append_left _ h))
set_option maxHeartbeats 4000000 in
set_option maxRecDepth 100000 in
theorem c_setFl0_2 (l : Launch) (hl9 : l.stackTraces = false) (dC : Nat → ClassId) (dI : Nat → Nat → Nat) (tE : Nat) (h0 : Nat) (rq : Nat) (sbq : Nat) (th : Int32) (ci : ClassId) (sz : Nat) : Met l yX6_setFl v_c_setFl0_2 ({ frames := 0, cells := 0, slots := 0, locals := 0 }) (va_Pc [.ref h0, .int 0, .int 2, .int 1] (Pre0 dC dI tE sz [(ci, .int)] [(h0, .inr (11, [.int th, .int 0, .int 0, .int 0, .ref rq, .ref sbq])), (rq, .inl (ci, 119, .inl (upd (fun _ => 0) (0 : Int32).toNatClampNeg 3)))])) (va_Qv (fun (_ : Unit) => True) (fun _ t => Pst dC dI [(ci, .int)] (va_A [(h0, .inr (11, [.int th, .int 0, .int 0, .int 0, .ref rq, .ref sbq])), (rq, .inl (ci, 119, .inl (upd (fun _ => 0) (0 : Int32).toNatClampNeg 3)))] sz) [(h0, .inr (11, [.int th, .int 0, .int 0, .int 0, .ref rq, .ref sbq])), (rq, .inl (ci, 119, .inl (upd (upd (fun _ => 0) (0 : Int32).toNatClampNeg 3) (2 : Int32).toNatClampNeg 1)))] t) (va_A [(h0, .inr (11, [.int th, .int 0, .int 0, .int 0, .ref rq, .ref sbq])), (rq, .inl (ci, 119, .inl (upd (fun _ => 0) (0 : Int32).toNatClampNeg 3)))] sz)) 0 0 (va_A [(h0, .inr (11, [.int th, .int 0, .int 0, .int 0, .ref rq, .ref sbq])), (rq, .inl (ci, 119, .inl (upd (fun _ => 0) (0 : Int32).toNatClampNeg 3)))] sz) := by
  refine Met.ofW (cc := cX6_setFl) (maxL := 4) (ret := none) (by decide) rfl ?_
  intro p e s m args below meth c s₁ B hml hv
  obtain ⟨rfl, hsz, hP, hK, hD0, hT⟩ := hv
  have hx := B.exec
  have hb := B.bytes
  have hr := B.returns
  have hts := atoms_spec (ws := v_c_setFl0_2) B.pre
  have hown : s.vm.findClass RX6 = some m.cls := findClass_of_methodNamed B.named
  have hlocks := B.notSynchronized
  subst hsz
  have hD := hD0.self (sz := s.heap.size)
  generalize hAe : va_A [(h0, .inr (11, [.int th, .int 0, .int 0, .int 0, .ref rq, .ref sbq])), (rq, .inl (ci, 119, .inl (upd (fun _ => 0) (0 : Int32).toNatClampNeg 3)))] s.heap.size = A at hD hT ⊢
  have hA : ∀ q : Nat, s.heap.size ≤ q → A q := fun q h => by rw [← hAe]; exact Or.inr h
  have hS : va_S A s.heap s.heap [] := va_S.rf
  have hl := lv_entry ([.ref h0, .int 0, .int 2, .int 1]) (n := 4) (Nat.le_of_ble_eq_true rfl)
  rw [lg_entry_eq]
  generalize (lg_sl ([.ref h0, .int 0, .int 2, .int 1]) ++ List.replicate (4 - (lg_sl ([.ref h0, .int 0, .int 2, .int 1])).length) Slot.unset).toArray = ls at hl ⊢
  have hl : lv_has ls 4 [(0, .ref h0), (1, .int 0), (2, .int 2), (3, .int 1)] := hl
  refine lv_aload_n hx hb dX6_setFl_0 rfl (lv_at hl 0 rfl) ?_
  refine va_get (D := (dC, dI)) (ci := 11) (v := .ref rq) (C := RX6) (T := TX6) (N := 6) hx hb hts u_c_setFl0_2_X6 hown hK hP 0 rfl rfl 4 (by decide) (hts (.fieldLink RX6 9 "HotelOfBellsModel" "row" "[I") (List.mem_of_getElem? (i := 1) rfl)) (fun _ h9 => h9) rfl dX6_setFl_1 ?_
  refine lv_iconst (v := 4) hx hb dX6_setFl_4 (by decide) ?_
  refine lv_iload_n hx hb dX6_setFl_5 rfl (lv_at hl 1 rfl) ?_
  refine lv_imul hx hb dX6_setFl_6 ?_
  refine lv_topi (fun x_1 e_2 => ?_)
  obtain rfl : x_1 = 0 := e_2.trans (by decide)
  refine lv_iload_n hx hb dX6_setFl_7 rfl (lv_at hl 2 rfl) ?_
  refine lv_iadd hx hb dX6_setFl_8 ?_
  refine lv_topi (fun x_3 e_4 => ?_)
  obtain rfl : x_3 = 2 := e_4.trans (by decide)
  refine lv_iload_n hx hb dX6_setFl_9 rfl (lv_at hl 3 rfl) ?_
  refine va_iast hx hb hK hP hD hS 1 0 rfl rfl (by unfold vp_in; decide) dX6_setFl_10 (fun H locs hP hD hS => ?_)
  have hP : va_P (dC, dI) vwCl [(h0, .inr (11, [.int th, .int 0, .int 0, .int 0, .ref rq, .ref sbq])), (rq, .inl (ci, 119, .inl (upd (upd (fun _ => 0) (0 : Int32).toNatClampNeg 3) (2 : Int32).toNatClampNeg 1)))] H := hP
  have hD : va_D A [(h0, .inr (11, [.int th, .int 0, .int 0, .int 0, .ref rq, .ref sbq])), (rq, .inl (ci, 119, .inl (upd (upd (fun _ => 0) (0 : Int32).toNatClampNeg 3) (2 : Int32).toNatClampNeg 1)))] := hD
  have hP9 := hP.sub (ws' := [(h0, .inr (11, [.int th, .int 0, .int 0, .int 0, .ref rq, .ref sbq])), (rq, .inl (ci, 119, .inl (upd (upd (fun _ => 0) (0 : Int32).toNatClampNeg 3) (2 : Int32).toNatClampNeg 1)))]) [0, 1] rfl
  have hD9 := hD.sub (ws' := [(h0, .inr (11, [.int th, .int 0, .int 0, .int 0, .ref rq, .ref sbq])), (rq, .inl (ci, 119, .inl (upd (upd (fun _ => 0) (0 : Int32).toNatClampNeg 3) (2 : Int32).toNatClampNeg 1)))]) [0, 1] (by decide) rfl
  have hK9 := hK.sub (tys' := [(ci, .int)]) [0] rfl
  exact W.vret hx hb hr (fun t ht hW => ⟨⟨(), rfl, trivial, by rw [ht]; exact hP9, va_K.moved hW.alike hK9, hD9⟩, hS.F ht⟩) hS.2.2 dX6_setFl_11
def v_c_Mi_addFloor : List Cond := .code yX6_addFloor cX6_addFloor 2 (some .int) :: ([Cond.fieldLink RX6 20 "HotelOfBellsModel" "thrown" "I", Cond.code yX6_isIn cX6_isIn 3 (some .boolean), Cond.methodLink RX6 27 yX6_isIn, Cond.static yX6_isIn, Cond.initialized RX6, Cond.fieldLink RX6 24 "HotelOfBellsModel" "floors" "I", Cond.code yX6_setFl cX6_setFl 4 none, Cond.fieldLink RX6 9 "HotelOfBellsModel" "row" "[I", Cond.methodLink RX6 49 yX6_setFl, Cond.instanceMethod yX6_setFl, Cond.selects RX6 yX6_setFl yX6_setFl] ++ (wsX60 ++ []))
theorem u_c_Mi_addFloor_X6 : ∀ w ∈ wsX60, w ∈ v_c_Mi_addFloor := fun _ h => List.mem_cons_of_mem _ (List.mem_append_right _ (List.mem_append_left _ h))
theorem gg_c_Mi_addFloor_c_isIn_3_3_12 : GoodIn v_c_Mi_addFloor v_c_isIn_3_3_12 := goodIn_r _ [2] (by rfl) (by decide +kernel)
theorem gg_c_Mi_addFloor_c_setFl0_0 : GoodIn v_c_Mi_addFloor v_c_setFl0_0 := goodIn_r _ [7, 8, 12, 13, 14, 15, 16, 17] (by rfl) (by decide +kernel)
theorem gg_c_Mi_addFloor_c_setFl0_2 : GoodIn v_c_Mi_addFloor v_c_setFl0_2 := goodIn_r _ [7, 8, 12, 13, 14, 15, 16, 17] (by rfl) (by decide +kernel)
set_option maxHeartbeats 4000000 in
set_option maxRecDepth 100000 in
theorem c_Mi_addFloor (l : Launch) (hl9 : l.stackTraces = false) (dC : Nat → ClassId) (dI : Nat → Nat → Nat) (tE : Nat) (h0 : Nat) (rq : Nat) (sbq : Nat) (th : Int32) (ci : ClassId) (sz : Nat) : Met l yX6_addFloor v_c_Mi_addFloor ({ frames := 1, cells := 0, slots := 0, locals := 23 }) (va_Pc [.ref h0, .int 3] (Pre0 dC dI tE sz [(ci, .int)] [(h0, .inr (11, [.int th, .int 0, .int 0, .int 0, .ref rq, .ref sbq])), (rq, .inl (ci, 119, .inl (fun _ => 0)))])) (va_Qi (fun (r : Int32) (_ : Unit) => r = 0) (fun _ t => Pst dC dI [(ci, .int)] (va_A [(h0, .inr (11, [.int th, .int 0, .int 0, .int 0, .ref rq, .ref sbq])), (rq, .inl (ci, 119, .inl (fun _ => 0)))] sz) [(h0, .inr (11, [.int 0, .int 1, .int 0, .int 0, .ref rq, .ref sbq])), (rq, .inl (ci, 119, .inl (upd (upd (fun _ => 0) (0 : Int32).toNatClampNeg 3) (2 : Int32).toNatClampNeg 1)))] t) (va_A [(h0, .inr (11, [.int th, .int 0, .int 0, .int 0, .ref rq, .ref sbq])), (rq, .inl (ci, 119, .inl (fun _ => 0)))] sz)) 0 0 (va_A [(h0, .inr (11, [.int th, .int 0, .int 0, .int 0, .ref rq, .ref sbq])), (rq, .inl (ci, 119, .inl (fun _ => 0)))] sz) := by
  refine Met.ofW (cc := cX6_addFloor) (maxL := 2) (ret := (some .int)) (by decide) rfl ?_
  intro p e s m args below meth c s₁ B hml hv
  obtain ⟨rfl, hsz, hP, hK, hD0, hT⟩ := hv
  have hx := B.exec
  have hb := B.bytes
  have hr := B.returns
  have hts := atoms_spec (ws := v_c_Mi_addFloor) B.pre
  have hown : s.vm.findClass RX6 = some m.cls := findClass_of_methodNamed B.named
  have hlocks := B.notSynchronized
  subst hsz
  have hD := hD0.self (sz := s.heap.size)
  generalize hAe : va_A [(h0, .inr (11, [.int th, .int 0, .int 0, .int 0, .ref rq, .ref sbq])), (rq, .inl (ci, 119, .inl (fun _ => 0)))] s.heap.size = A at hD hT ⊢
  have hA : ∀ q : Nat, s.heap.size ≤ q → A q := fun q h => by rw [← hAe]; exact Or.inr h
  have hS : va_S A s.heap s.heap [] := va_S.rf
  have hl := lv_entry ([.ref h0, .int 3]) (n := 2) (Nat.le_of_ble_eq_true rfl)
  rw [lg_entry_eq]
  generalize (lg_sl ([.ref h0, .int 3]) ++ List.replicate (2 - (lg_sl ([.ref h0, .int 3])).length) Slot.unset).toArray = ls at hl ⊢
  have hl : lv_has ls 2 [(0, .ref h0), (1, .int 3)] := hl
  refine lv_aload_n hx hb dX6_addFloor_0 rfl (lv_at hl 0 rfl) ?_
  refine lv_iconst (v := 0) hx hb dX6_addFloor_1 (by decide) ?_
  refine va_put (D := (dC, dI)) (ci := 11) (v := .int 0) (ty := .int) (C := RX6) (T := TX6) (N := 6) hx hb hts u_c_Mi_addFloor_X6 tyX6 tyX6_ok nmX6 hown hK hP hD hS 0 rfl rfl 0 (by decide) (hts (.fieldLink RX6 20 "HotelOfBellsModel" "thrown" "I") (List.mem_of_getElem? (i := 1) rfl)) (fun _ h9 => h9) rfl (by decide +kernel) rfl rfl (Nat.le_of_ble_eq_true rfl) dX6_addFloor_2 (fun H locs hP hD hS => ?_)
  have hP : va_P (dC, dI) vwCl [(h0, .inr (11, [.int 0, .int 0, .int 0, .int 0, .ref rq, .ref sbq])), (rq, .inl (ci, 119, .inl (fun _ => 0)))] H := hP
  have hD : va_D A [(h0, .inr (11, [.int 0, .int 0, .int 0, .int 0, .ref rq, .ref sbq])), (rq, .inl (ci, 119, .inl (fun _ => 0)))] := hD
  refine lv_iload_n hx hb dX6_addFloor_5 rfl (lv_at hl 1 rfl) ?_
  refine lv_iconst (v := 3) hx hb dX6_addFloor_6 (by decide) ?_
  refine lv_bipush (v := 12) hx hb dX6_addFloor_7 (by decide) ?_
  have hPc := hP.sub (ws' := []) [] rfl
  have hDc := hD.sub (ws' := []) [] (by decide) rfl
  have hKc := hK.sub (tys' := []) [] rfl
  have hFc := va_free (wc := []) hD hS hA [] rfl
  refine va_calli (va_runS (As := [.int 3, .int 3, .int 12]) (rest := []) ⟨hx, hb, hml, hown, hts⟩ (c_isIn_3_3_12 l hl9 dC dI tE  _ ) (va_cwS 3 hts (goodIn_app (goodIn_r _ [3, 4, 5] (by rfl) (by decide +kernel)) gg_c_Mi_addFloor_c_isIn_3_3_12) rfl rfl rfl (by decide +kernel) ⟨Nat.le_of_ble_eq_true rfl, Nat.le_of_ble_eq_true rfl⟩) ⟨Pre0.blind, Pre0.give hPc hKc hDc hT hS hFc⟩ rfl rfl hl.1 rfl (lv_room (Nat.le_of_ble_eq_true rfl)) dX6_addFloor_9 ⟨Nat.le_of_ble_eq_true rfl, Nat.le_of_ble_eq_true rfl⟩) hS (fun q _ h => hFc q h) hFc (fun r_1 u t H1 locs ht hvm hw hB hz1 hk1 hS => ?_)
  obtain ⟨hP1, hK1, hD1⟩ := hB
  rw [ht] at hP1
  have hK1 := va_K.moved hvm.symm hK1
  obtain ⟨hP, hD⟩ := va_join (wr := [(h0, .inr (11, [.int 0, .int 0, .int 0, .int 0, .ref rq, .ref sbq])), (rq, .inl (ci, 119, .inl (fun _ => 0)))]) (w1 := []) hP hD [] [0, 1] rfl rfl (by decide) (by decide) hk1 hFc hP1 hD1
  generalize H1 = H at hP hS ⊢
  have hP : va_P (dC, dI) vwCl [(h0, .inr (11, [.int 0, .int 0, .int 0, .int 0, .ref rq, .ref sbq])), (rq, .inl (ci, 119, .inl (fun _ => 0)))] H := hP
  have hD : va_D A [(h0, .inr (11, [.int 0, .int 0, .int 0, .int 0, .ref rq, .ref sbq])), (rq, .inl (ci, 119, .inl (fun _ => 0)))] := hD
  refine W.widen (k := 0) (n := 0) (by omega) (by omega) ?_
  obtain rfl : r_1 = 1 := hw
  refine lv_if_ne (tgt := 21) hx hb dX6_addFloor_12 (by decide) (fun _ => ?_) (fun c_2 => absurd c_2 (by decide))
  refine lv_aload_n hx hb dX6_addFloor_21 rfl (lv_at hl 0 rfl) ?_
  refine va_get (D := (dC, dI)) (ci := 11) (v := .int 0) (C := RX6) (T := TX6) (N := 6) hx hb hts u_c_Mi_addFloor_X6 hown hK hP 0 rfl rfl 1 (by decide) (hts (.fieldLink RX6 24 "HotelOfBellsModel" "floors" "I") (List.mem_of_getElem? (i := 6) rfl)) (fun _ h9 => h9) rfl dX6_addFloor_22 ?_
  refine lv_bipush (v := 6) hx hb dX6_addFloor_25 (by decide) ?_
  refine lv_icmp_ne (tgt := 36) hx hb dX6_addFloor_27 (by decide) (fun _ => ?_) (fun c_3 => absurd c_3 (by decide))
  refine lv_aload_n hx hb dX6_addFloor_36 rfl (lv_at hl 0 rfl) ?_
  refine lv_aload_n hx hb dX6_addFloor_37 rfl (lv_at hl 0 rfl) ?_
  refine va_get (D := (dC, dI)) (ci := 11) (v := .int 0) (C := RX6) (T := TX6) (N := 6) hx hb hts u_c_Mi_addFloor_X6 hown hK hP 0 rfl rfl 1 (by decide) (hts (.fieldLink RX6 24 "HotelOfBellsModel" "floors" "I") (List.mem_of_getElem? (i := 6) rfl)) (fun _ h9 => h9) rfl dX6_addFloor_38 ?_
  refine lv_iconst (v := 0) hx hb dX6_addFloor_41 (by decide) ?_
  refine lv_iload_n hx hb dX6_addFloor_42 rfl (lv_at hl 1 rfl) ?_
  have hPc := hP.sub (ws' := [(h0, .inr (11, [.int 0, .int 0, .int 0, .int 0, .ref rq, .ref sbq])), (rq, .inl (ci, 119, .inl (fun _ => 0)))]) [0, 1] rfl
  have hDc := hD.sub (ws' := [(h0, .inr (11, [.int 0, .int 0, .int 0, .int 0, .ref rq, .ref sbq])), (rq, .inl (ci, 119, .inl (fun _ => 0)))]) [0, 1] (by decide) rfl
  have hKc := hK.sub (tys' := [(ci, .int)]) [0] rfl
  have hFc := va_free (wc := [(h0, .inr (11, [.int 0, .int 0, .int 0, .int 0, .ref rq, .ref sbq])), (rq, .inl (ci, 119, .inl (fun _ => 0)))]) hD hS hA [0, 1] rfl
  refine va_callv (va_runV (As := [.int 0, .int 0, .int 3]) (rest := []) ⟨hx, hb, hml, hown, hts⟩ (c_setFl0_0 l hl9 dC dI tE h0 rq sbq 0 ci _ ) (cwV 3 hts (goodIn_app (goodIn_r _ [9, 10, 11, 5] (by rfl) (by decide +kernel)) gg_c_Mi_addFloor_c_setFl0_0) rfl rfl rfl (by decide +kernel) ⟨Nat.le_of_ble_eq_true rfl, Nat.le_of_ble_eq_true rfl⟩) ⟨Pre0.blind, va_recv hKc hPc (ci := 11) (q0 := 0) rfl rfl, Pre0.give hPc hKc hDc hT hS hFc⟩ rfl rfl hl.1 rfl (lv_room (Nat.le_of_ble_eq_true rfl)) dX6_addFloor_43 ⟨Nat.le_of_ble_eq_true rfl, Nat.le_of_ble_eq_true rfl⟩) hS (fun q _ h => hFc q h) hFc (fun u t H1 locs ht hvm hw hB hz1 hk1 hS => ?_)
  obtain ⟨hP1, hK1, hD1⟩ := hB
  rw [ht] at hP1
  have hK1 := va_K.moved hvm.symm hK1
  obtain ⟨hP, hD⟩ := va_join (wr := []) (w1 := [(h0, .inr (11, [.int 0, .int 0, .int 0, .int 0, .ref rq, .ref sbq])), (rq, .inl (ci, 119, .inl (upd (fun _ => 0) (0 : Int32).toNatClampNeg 3)))]) hP hD [0, 1] [] rfl rfl (by decide) (by decide) hk1 hFc hP1 hD1
  generalize H1 = H at hP hS ⊢
  have hP : va_P (dC, dI) vwCl [(h0, .inr (11, [.int 0, .int 0, .int 0, .int 0, .ref rq, .ref sbq])), (rq, .inl (ci, 119, .inl (upd (fun _ => 0) (0 : Int32).toNatClampNeg 3)))] H := hP
  have hD : va_D A [(h0, .inr (11, [.int 0, .int 0, .int 0, .int 0, .ref rq, .ref sbq])), (rq, .inl (ci, 119, .inl (upd (fun _ => 0) (0 : Int32).toNatClampNeg 3)))] := hD
  refine W.widen (k := 0) (n := 0) (by omega) (by omega) ?_
  refine lv_aload_n hx hb dX6_addFloor_46 rfl (lv_at hl 0 rfl) ?_
  refine lv_aload_n hx hb dX6_addFloor_47 rfl (lv_at hl 0 rfl) ?_
  refine va_get (D := (dC, dI)) (ci := 11) (v := .int 0) (C := RX6) (T := TX6) (N := 6) hx hb hts u_c_Mi_addFloor_X6 hown hK hP 0 rfl rfl 1 (by decide) (hts (.fieldLink RX6 24 "HotelOfBellsModel" "floors" "I") (List.mem_of_getElem? (i := 6) rfl)) (fun _ h9 => h9) rfl dX6_addFloor_48 ?_
  refine lv_iconst (v := 2) hx hb dX6_addFloor_51 (by decide) ?_
  refine lv_iconst (v := 1) hx hb dX6_addFloor_52 (by decide) ?_
  have hPc := hP.sub (ws' := [(h0, .inr (11, [.int 0, .int 0, .int 0, .int 0, .ref rq, .ref sbq])), (rq, .inl (ci, 119, .inl (upd (fun _ => 0) (0 : Int32).toNatClampNeg 3)))]) [0, 1] rfl
  have hDc := hD.sub (ws' := [(h0, .inr (11, [.int 0, .int 0, .int 0, .int 0, .ref rq, .ref sbq])), (rq, .inl (ci, 119, .inl (upd (fun _ => 0) (0 : Int32).toNatClampNeg 3)))]) [0, 1] (by decide) rfl
  have hKc := hK.sub (tys' := [(ci, .int)]) [0] rfl
  have hFc := va_free (wc := [(h0, .inr (11, [.int 0, .int 0, .int 0, .int 0, .ref rq, .ref sbq])), (rq, .inl (ci, 119, .inl (upd (fun _ => 0) (0 : Int32).toNatClampNeg 3)))]) hD hS hA [0, 1] rfl
  refine va_callv (va_runV (As := [.int 0, .int 2, .int 1]) (rest := []) ⟨hx, hb, hml, hown, hts⟩ (c_setFl0_2 l hl9 dC dI tE h0 rq sbq 0 ci _ ) (cwV 3 hts (goodIn_app (goodIn_r _ [9, 10, 11, 5] (by rfl) (by decide +kernel)) gg_c_Mi_addFloor_c_setFl0_2) rfl rfl rfl (by decide +kernel) ⟨Nat.le_of_ble_eq_true rfl, Nat.le_of_ble_eq_true rfl⟩) ⟨Pre0.blind, va_recv hKc hPc (ci := 11) (q0 := 0) rfl rfl, Pre0.give hPc hKc hDc hT hS hFc⟩ rfl rfl hl.1 rfl (lv_room (Nat.le_of_ble_eq_true rfl)) dX6_addFloor_53 ⟨Nat.le_of_ble_eq_true rfl, Nat.le_of_ble_eq_true rfl⟩) hS (fun q _ h => hFc q h) hFc (fun u t H1 locs ht hvm hw hB hz1 hk1 hS => ?_)
  obtain ⟨hP1, hK1, hD1⟩ := hB
  rw [ht] at hP1
  have hK1 := va_K.moved hvm.symm hK1
  obtain ⟨hP, hD⟩ := va_join (wr := []) (w1 := [(h0, .inr (11, [.int 0, .int 0, .int 0, .int 0, .ref rq, .ref sbq])), (rq, .inl (ci, 119, .inl (upd (upd (fun _ => 0) (0 : Int32).toNatClampNeg 3) (2 : Int32).toNatClampNeg 1)))]) hP hD [0, 1] [] rfl rfl (by decide) (by decide) hk1 hFc hP1 hD1
  generalize H1 = H at hP hS ⊢
  have hP : va_P (dC, dI) vwCl [(h0, .inr (11, [.int 0, .int 0, .int 0, .int 0, .ref rq, .ref sbq])), (rq, .inl (ci, 119, .inl (upd (upd (fun _ => 0) (0 : Int32).toNatClampNeg 3) (2 : Int32).toNatClampNeg 1)))] H := hP
  have hD : va_D A [(h0, .inr (11, [.int 0, .int 0, .int 0, .int 0, .ref rq, .ref sbq])), (rq, .inl (ci, 119, .inl (upd (upd (fun _ => 0) (0 : Int32).toNatClampNeg 3) (2 : Int32).toNatClampNeg 1)))] := hD
  refine W.widen (k := 0) (n := 0) (by omega) (by omega) ?_
  refine lv_aload_n hx hb dX6_addFloor_56 rfl (lv_at hl 0 rfl) ?_
  refine lv_dup hx hb dX6_addFloor_57 rfl ?_
  refine va_get (D := (dC, dI)) (ci := 11) (v := .int 0) (C := RX6) (T := TX6) (N := 6) hx hb hts u_c_Mi_addFloor_X6 hown hK hP 0 rfl rfl 1 (by decide) (hts (.fieldLink RX6 24 "HotelOfBellsModel" "floors" "I") (List.mem_of_getElem? (i := 6) rfl)) (fun _ h9 => h9) rfl dX6_addFloor_58 ?_
  refine lv_iconst (v := 1) hx hb dX6_addFloor_61 (by decide) ?_
  refine lv_iadd hx hb dX6_addFloor_62 ?_
  refine lv_topi (fun x_6 e_7 => ?_)
  obtain rfl : x_6 = 1 := e_7.trans (by decide)
  refine va_put (D := (dC, dI)) (ci := 11) (v := .int 1) (ty := .int) (C := RX6) (T := TX6) (N := 6) hx hb hts u_c_Mi_addFloor_X6 tyX6 tyX6_ok nmX6 hown hK hP hD hS 0 rfl rfl 1 (by decide) (hts (.fieldLink RX6 24 "HotelOfBellsModel" "floors" "I") (List.mem_of_getElem? (i := 6) rfl)) (fun _ h9 => h9) rfl (by decide +kernel) rfl rfl (Nat.le_of_ble_eq_true rfl) dX6_addFloor_63 (fun H locs hP hD hS => ?_)
  have hP : va_P (dC, dI) vwCl [(h0, .inr (11, [.int 0, .int 1, .int 0, .int 0, .ref rq, .ref sbq])), (rq, .inl (ci, 119, .inl (upd (upd (fun _ => 0) (0 : Int32).toNatClampNeg 3) (2 : Int32).toNatClampNeg 1)))] H := hP
  have hD : va_D A [(h0, .inr (11, [.int 0, .int 1, .int 0, .int 0, .ref rq, .ref sbq])), (rq, .inl (ci, 119, .inl (upd (upd (fun _ => 0) (0 : Int32).toNatClampNeg 3) (2 : Int32).toNatClampNeg 1)))] := hD
  refine lv_aload_n hx hb dX6_addFloor_66 rfl (lv_at hl 0 rfl) ?_
  refine va_get (D := (dC, dI)) (ci := 11) (v := .int 1) (C := RX6) (T := TX6) (N := 6) hx hb hts u_c_Mi_addFloor_X6 hown hK hP 0 rfl rfl 1 (by decide) (hts (.fieldLink RX6 24 "HotelOfBellsModel" "floors" "I") (List.mem_of_getElem? (i := 6) rfl)) (fun _ h9 => h9) rfl dX6_addFloor_67 ?_
  refine lv_iconst (v := 1) hx hb dX6_addFloor_70 (by decide) ?_
  refine lv_isub hx hb dX6_addFloor_71 ?_
  refine lv_topi (fun x_8 e_9 => ?_)
  obtain rfl : x_8 = 0 := e_9.trans (by decide)
  have hP9 := hP.sub (ws' := [(h0, .inr (11, [.int 0, .int 1, .int 0, .int 0, .ref rq, .ref sbq])), (rq, .inl (ci, 119, .inl (upd (upd (fun _ => 0) (0 : Int32).toNatClampNeg 3) (2 : Int32).toNatClampNeg 1)))]) [0, 1] rfl
  have hD9 := hD.sub (ws' := [(h0, .inr (11, [.int 0, .int 1, .int 0, .int 0, .ref rq, .ref sbq])), (rq, .inl (ci, 119, .inl (upd (upd (fun _ => 0) (0 : Int32).toNatClampNeg 3) (2 : Int32).toNatClampNeg 1)))]) [0, 1] (by decide) rfl
  have hK9 := hK.sub (tys' := [(ci, .int)]) [0] rfl
  exact W.iret (v := 0) hx hb hr (fun t ht hW => ⟨⟨0, (), rfl, rfl, by rw [ht]; exact hP9, va_K.moved hW.alike hK9, hD9⟩, hS.F ht⟩) hS.2.2 dX6_addFloor_72
def v_c_fl1_0 : List Cond := .code yX6_fl cX6_fl 3 (some .int) :: ([Cond.fieldLink RX6 9 "HotelOfBellsModel" "row" "[I"] ++ (wsX60 ++ []))
theorem u_c_fl1_0_X6 : ∀ w ∈ wsX60, w ∈ v_c_fl1_0 := fun _ h => List.mem_cons_of_mem _ (List.mem_append_right _ (List.mem_append_left _ h))
set_option maxHeartbeats 4000000 in
set_option maxRecDepth 100000 in
theorem c_fl1_0 (l : Launch) (hl9 : l.stackTraces = false) (dC : Nat → ClassId) (dI : Nat → Nat → Nat) (tE : Nat) (h0 : Nat) (rq : Nat) (sbq : Nat) (th : Int32) (ci : ClassId) (sz : Nat) : Met l yX6_fl v_c_fl1_0 ({ frames := 0, cells := 0, slots := 0, locals := 0 }) (va_Pc [.ref h0, .int 0, .int 0] (Pre0 dC dI tE sz [(ci, .int)] [(h0, .inr (11, [.int th, .int 1, .int 0, .int 0, .ref rq, .ref sbq])), (rq, .inl (ci, 119, .inl (upd (upd (fun _ => 0) (0 : Int32).toNatClampNeg 3) (2 : Int32).toNatClampNeg 1)))])) (va_Qi (fun (r : Int32) (_ : Unit) => r = 3) (fun _ t => Pst dC dI [(ci, .int)] (va_A [(h0, .inr (11, [.int th, .int 1, .int 0, .int 0, .ref rq, .ref sbq])), (rq, .inl (ci, 119, .inl (upd (upd (fun _ => 0) (0 : Int32).toNatClampNeg 3) (2 : Int32).toNatClampNeg 1)))] sz) [(h0, .inr (11, [.int th, .int 1, .int 0, .int 0, .ref rq, .ref sbq])), (rq, .inl (ci, 119, .inl (upd (upd (fun _ => 0) (0 : Int32).toNatClampNeg 3) (2 : Int32).toNatClampNeg 1)))] t) (va_A [(h0, .inr (11, [.int th, .int 1, .int 0, .int 0, .ref rq, .ref sbq])), (rq, .inl (ci, 119, .inl (upd (upd (fun _ => 0) (0 : Int32).toNatClampNeg 3) (2 : Int32).toNatClampNeg 1)))] sz)) 0 0 (va_A [(h0, .inr (11, [.int th, .int 1, .int 0, .int 0, .ref rq, .ref sbq])), (rq, .inl (ci, 119, .inl (upd (upd (fun _ => 0) (0 : Int32).toNatClampNeg 3) (2 : Int32).toNatClampNeg 1)))] sz) := by
  refine Met.ofW (cc := cX6_fl) (maxL := 3) (ret := (some .int)) (by decide) rfl ?_
  intro p e s m args below meth c s₁ B hml hv
  obtain ⟨rfl, hsz, hP, hK, hD0, hT⟩ := hv
  have hx := B.exec
  have hb := B.bytes
  have hr := B.returns
  have hts := atoms_spec (ws := v_c_fl1_0) B.pre
  have hown : s.vm.findClass RX6 = some m.cls := findClass_of_methodNamed B.named
  have hlocks := B.notSynchronized
  subst hsz
  have hD := hD0.self (sz := s.heap.size)
  generalize hAe : va_A [(h0, .inr (11, [.int th, .int 1, .int 0, .int 0, .ref rq, .ref sbq])), (rq, .inl (ci, 119, .inl (upd (upd (fun _ => 0) (0 : Int32).toNatClampNeg 3) (2 : Int32).toNatClampNeg 1)))] s.heap.size = A at hD hT ⊢
  have hA : ∀ q : Nat, s.heap.size ≤ q → A q := fun q h => by rw [← hAe]; exact Or.inr h
  have hS : va_S A s.heap s.heap [] := va_S.rf
  have hl := lv_entry ([.ref h0, .int 0, .int 0]) (n := 3) (Nat.le_of_ble_eq_true rfl)
  rw [lg_entry_eq]
  generalize (lg_sl ([.ref h0, .int 0, .int 0]) ++ List.replicate (3 - (lg_sl ([.ref h0, .int 0, .int 0])).length) Slot.unset).toArray = ls at hl ⊢
  have hl : lv_has ls 3 [(0, .ref h0), (1, .int 0), (2, .int 0)] := hl
  refine lv_aload_n hx hb dX6_fl_0 rfl (lv_at hl 0 rfl) ?_
  refine va_get (D := (dC, dI)) (ci := 11) (v := .ref rq) (C := RX6) (T := TX6) (N := 6) hx hb hts u_c_fl1_0_X6 hown hK hP 0 rfl rfl 4 (by decide) (hts (.fieldLink RX6 9 "HotelOfBellsModel" "row" "[I") (List.mem_of_getElem? (i := 1) rfl)) (fun _ h9 => h9) rfl dX6_fl_1 ?_
  refine lv_iconst (v := 4) hx hb dX6_fl_4 (by decide) ?_
  refine lv_iload_n hx hb dX6_fl_5 rfl (lv_at hl 1 rfl) ?_
  refine lv_imul hx hb dX6_fl_6 ?_
  refine lv_topi (fun x_1 e_2 => ?_)
  obtain rfl : x_1 = 0 := e_2.trans (by decide)
  refine lv_iload_n hx hb dX6_fl_7 rfl (lv_at hl 2 rfl) ?_
  refine lv_iadd hx hb dX6_fl_8 ?_
  refine lv_topi (fun x_3 e_4 => ?_)
  obtain rfl : x_3 = 0 := e_4.trans (by decide)
  refine va_iald hx hb hK hP 1 0 rfl rfl (by unfold vp_in; decide) dX6_fl_9 ?_
  refine lv_topi (fun x_5 e_6 => ?_)
  obtain rfl : x_5 = 3 := e_6.trans (by decide +kernel)
  have hP9 := hP.sub (ws' := [(h0, .inr (11, [.int th, .int 1, .int 0, .int 0, .ref rq, .ref sbq])), (rq, .inl (ci, 119, .inl (upd (upd (fun _ => 0) (0 : Int32).toNatClampNeg 3) (2 : Int32).toNatClampNeg 1)))]) [0, 1] rfl
  have hD9 := hD.sub (ws' := [(h0, .inr (11, [.int th, .int 1, .int 0, .int 0, .ref rq, .ref sbq])), (rq, .inl (ci, 119, .inl (upd (upd (fun _ => 0) (0 : Int32).toNatClampNeg 3) (2 : Int32).toNatClampNeg 1)))]) [0, 1] (by decide) rfl
  have hK9 := hK.sub (tys' := [(ci, .int)]) [0] rfl
  exact W.iret (v := 3) hx hb hr (fun t ht hW => ⟨⟨3, (), rfl, rfl, by rw [ht]; exact hP9, va_K.moved hW.alike hK9, hD9⟩, hS.F ht⟩) hS.2.2 dX6_fl_10
def v_c_isFloor1 : List Cond := .code yX6_isFloor cX6_isFloor 2 (some .boolean) :: ([Cond.fieldLink RX6 24 "HotelOfBellsModel" "floors" "I", Cond.code yX6_isIn cX6_isIn 3 (some .boolean), Cond.methodLink RX6 27 yX6_isIn, Cond.static yX6_isIn, Cond.initialized RX6] ++ (wsX60 ++ []))
theorem u_c_isFloor1_X6 : ∀ w ∈ wsX60, w ∈ v_c_isFloor1 := fun _ h => List.mem_cons_of_mem _ (List.mem_append_right _ (List.mem_append_left _ h))
theorem gg_c_isFloor1_c_isIn_0_0_0 : GoodIn v_c_isFloor1 v_c_isIn_0_0_0 := goodIn_r _ [2] (by rfl) (by decide +kernel)
set_option maxHeartbeats 4000000 in
set_option maxRecDepth 100000 in
theorem c_isFloor1 (l : Launch) (hl9 : l.stackTraces = false) (dC : Nat → ClassId) (dI : Nat → Nat → Nat) (tE : Nat) (h0 : Nat) (rq : Nat) (sbq : Nat) (th : Int32) (sz : Nat) : Met l yX6_isFloor v_c_isFloor1 ({ frames := 1, cells := 0, slots := 0, locals := 22 }) (va_Pc [.ref h0, .int 0] (Pre0 dC dI tE sz [] [(h0, .inr (11, [.int th, .int 1, .int 0, .int 0, .ref rq, .ref sbq]))])) (va_Qi (fun (r : Int32) (_ : Unit) => r = 1) (fun _ t => Pst dC dI [] (va_A [(h0, .inr (11, [.int th, .int 1, .int 0, .int 0, .ref rq, .ref sbq]))] sz) [(h0, .inr (11, [.int th, .int 1, .int 0, .int 0, .ref rq, .ref sbq]))] t) (va_A [(h0, .inr (11, [.int th, .int 1, .int 0, .int 0, .ref rq, .ref sbq]))] sz)) 0 0 (va_A [(h0, .inr (11, [.int th, .int 1, .int 0, .int 0, .ref rq, .ref sbq]))] sz) := by
  refine Met.ofW (cc := cX6_isFloor) (maxL := 2) (ret := (some .boolean)) (by decide) rfl ?_
  intro p e s m args below meth c s₁ B hml hv
  obtain ⟨rfl, hsz, hP, hK, hD0, hT⟩ := hv
  have hx := B.exec
  have hb := B.bytes
  have hr := B.returns
  have hts := atoms_spec (ws := v_c_isFloor1) B.pre
  have hown : s.vm.findClass RX6 = some m.cls := findClass_of_methodNamed B.named
  have hlocks := B.notSynchronized
  subst hsz
  have hD := hD0.self (sz := s.heap.size)
  generalize hAe : va_A [(h0, .inr (11, [.int th, .int 1, .int 0, .int 0, .ref rq, .ref sbq]))] s.heap.size = A at hD hT ⊢
  have hA : ∀ q : Nat, s.heap.size ≤ q → A q := fun q h => by rw [← hAe]; exact Or.inr h
  have hS : va_S A s.heap s.heap [] := va_S.rf
  have hl := lv_entry ([.ref h0, .int 0]) (n := 2) (Nat.le_of_ble_eq_true rfl)
  rw [lg_entry_eq]
  generalize (lg_sl ([.ref h0, .int 0]) ++ List.replicate (2 - (lg_sl ([.ref h0, .int 0])).length) Slot.unset).toArray = ls at hl ⊢
  have hl : lv_has ls 2 [(0, .ref h0), (1, .int 0)] := hl
  refine lv_iload_n hx hb dX6_isFloor_0 rfl (lv_at hl 1 rfl) ?_
  refine lv_iconst (v := 0) hx hb dX6_isFloor_1 (by decide) ?_
  refine lv_aload_n hx hb dX6_isFloor_2 rfl (lv_at hl 0 rfl) ?_
  refine va_get (D := (dC, dI)) (ci := 11) (v := .int 1) (C := RX6) (T := TX6) (N := 6) hx hb hts u_c_isFloor1_X6 hown hK hP 0 rfl rfl 1 (by decide) (hts (.fieldLink RX6 24 "HotelOfBellsModel" "floors" "I") (List.mem_of_getElem? (i := 1) rfl)) (fun _ h9 => h9) rfl dX6_isFloor_3 ?_
  refine lv_iconst (v := 1) hx hb dX6_isFloor_6 (by decide) ?_
  refine lv_isub hx hb dX6_isFloor_7 ?_
  refine lv_topi (fun x_1 e_2 => ?_)
  obtain rfl : x_1 = 0 := e_2.trans (by decide)
  have hPc := hP.sub (ws' := []) [] rfl
  have hDc := hD.sub (ws' := []) [] (by decide) rfl
  have hKc := hK.sub (tys' := []) [] rfl
  have hFc := va_free (wc := []) hD hS hA [] rfl
  refine va_calli (va_runS (As := [.int 0, .int 0, .int 0]) (rest := []) ⟨hx, hb, hml, hown, hts⟩ (c_isIn_0_0_0 l hl9 dC dI tE  _ ) (va_cwS 3 hts (goodIn_app (goodIn_r _ [3, 4, 5] (by rfl) (by decide +kernel)) gg_c_isFloor1_c_isIn_0_0_0) rfl rfl rfl (by decide +kernel) ⟨Nat.le_of_ble_eq_true rfl, Nat.le_of_ble_eq_true rfl⟩) ⟨Pre0.blind, Pre0.give hPc hKc hDc hT hS hFc⟩ rfl rfl hl.1 rfl (lv_room (Nat.le_of_ble_eq_true rfl)) dX6_isFloor_8 ⟨Nat.le_of_ble_eq_true rfl, Nat.le_of_ble_eq_true rfl⟩) hS (fun q _ h => hFc q h) hFc (fun r_3 u t H1 locs ht hvm hw hB hz1 hk1 hS => ?_)
  obtain ⟨hP1, hK1, hD1⟩ := hB
  rw [ht] at hP1
  have hK1 := va_K.moved hvm.symm hK1
  obtain ⟨hP, hD⟩ := va_join (wr := [(h0, .inr (11, [.int th, .int 1, .int 0, .int 0, .ref rq, .ref sbq]))]) (w1 := []) hP hD [] [0] rfl rfl (by decide) (by decide) hk1 hFc hP1 hD1
  generalize H1 = H at hP hS ⊢
  have hP : va_P (dC, dI) vwCl [(h0, .inr (11, [.int th, .int 1, .int 0, .int 0, .ref rq, .ref sbq]))] H := hP
  have hD : va_D A [(h0, .inr (11, [.int th, .int 1, .int 0, .int 0, .ref rq, .ref sbq]))] := hD
  refine W.widen (k := 0) (n := 0) (by omega) (by omega) ?_
  obtain rfl : r_3 = 1 := hw
  have hP9 := hP.sub (ws' := [(h0, .inr (11, [.int th, .int 1, .int 0, .int 0, .ref rq, .ref sbq]))]) [0] rfl
  have hD9 := hD.sub (ws' := [(h0, .inr (11, [.int th, .int 1, .int 0, .int 0, .ref rq, .ref sbq]))]) [0] (by decide) rfl
  have hK9 := hK.sub (tys' := []) [] rfl
  exact W.zret (v := 1) hx hb hr (by decide) (fun t ht hW => ⟨⟨1, (), rfl, rfl, by rw [ht]; exact hP9, va_K.moved hW.alike hK9, hD9⟩, hS.F ht⟩) hS.2.2 dX6_isFloor_11
def v_c_isRoom1 : List Cond := .code yX6_isRoom cX6_isRoom 3 (some .boolean) :: ([Cond.code yX6_isFloor cX6_isFloor 2 (some .boolean), Cond.fieldLink RX6 24 "HotelOfBellsModel" "floors" "I", Cond.code yX6_isIn cX6_isIn 3 (some .boolean), Cond.methodLink RX6 27 yX6_isIn, Cond.static yX6_isIn, Cond.initialized RX6, Cond.methodLink RX6 37 yX6_isFloor, Cond.instanceMethod yX6_isFloor, Cond.selects RX6 yX6_isFloor yX6_isFloor, Cond.code yX6_fl cX6_fl 3 (some .int), Cond.fieldLink RX6 9 "HotelOfBellsModel" "row" "[I", Cond.methodLink RX6 41 yX6_fl, Cond.instanceMethod yX6_fl, Cond.selects RX6 yX6_fl yX6_fl] ++ (wsX60 ++ []))
theorem u_c_isRoom1_X6 : ∀ w ∈ wsX60, w ∈ v_c_isRoom1 := fun _ h => List.mem_cons_of_mem _ (List.mem_append_right _ (List.mem_append_left _ h))
theorem gg_c_isRoom1_c_isFloor1 : GoodIn v_c_isRoom1 v_c_isFloor1 := goodIn_r _ [1, 2, 3, 4, 5, 6, 15, 16, 17, 18, 19, 20] (by rfl) (by decide +kernel)
theorem gg_c_isRoom1_c_fl1_0 : GoodIn v_c_isRoom1 v_c_fl1_0 := goodIn_r _ [10, 11, 15, 16, 17, 18, 19, 20] (by rfl) (by decide +kernel)
theorem gg_c_isRoom1_c_isIn_0_0_2 : GoodIn v_c_isRoom1 v_c_isIn_0_0_2 := goodIn_r _ [3] (by rfl) (by decide +kernel)
set_option maxHeartbeats 4000000 in
set_option maxRecDepth 100000 in
theorem c_isRoom1 (l : Launch) (hl9 : l.stackTraces = false) (dC : Nat → ClassId) (dI : Nat → Nat → Nat) (tE : Nat) (h0 : Nat) (rq : Nat) (sbq : Nat) (th : Int32) (ci : ClassId) (sz : Nat) : Met l yX6_isRoom v_c_isRoom1 ({ frames := 2, cells := 0, slots := 0, locals := 43 }) (va_Pc [.ref h0, .int 0, .int 0] (Pre0 dC dI tE sz [(ci, .int)] [(h0, .inr (11, [.int th, .int 1, .int 0, .int 0, .ref rq, .ref sbq])), (rq, .inl (ci, 119, .inl (upd (upd (fun _ => 0) (0 : Int32).toNatClampNeg 3) (2 : Int32).toNatClampNeg 1)))])) (va_Qi (fun (r : Int32) (_ : Unit) => r = 1) (fun _ t => Pst dC dI [(ci, .int)] (va_A [(h0, .inr (11, [.int th, .int 1, .int 0, .int 0, .ref rq, .ref sbq])), (rq, .inl (ci, 119, .inl (upd (upd (fun _ => 0) (0 : Int32).toNatClampNeg 3) (2 : Int32).toNatClampNeg 1)))] sz) [(h0, .inr (11, [.int th, .int 1, .int 0, .int 0, .ref rq, .ref sbq])), (rq, .inl (ci, 119, .inl (upd (upd (fun _ => 0) (0 : Int32).toNatClampNeg 3) (2 : Int32).toNatClampNeg 1)))] t) (va_A [(h0, .inr (11, [.int th, .int 1, .int 0, .int 0, .ref rq, .ref sbq])), (rq, .inl (ci, 119, .inl (upd (upd (fun _ => 0) (0 : Int32).toNatClampNeg 3) (2 : Int32).toNatClampNeg 1)))] sz)) 0 0 (va_A [(h0, .inr (11, [.int th, .int 1, .int 0, .int 0, .ref rq, .ref sbq])), (rq, .inl (ci, 119, .inl (upd (upd (fun _ => 0) (0 : Int32).toNatClampNeg 3) (2 : Int32).toNatClampNeg 1)))] sz) := by
  refine Met.ofW (cc := cX6_isRoom) (maxL := 3) (ret := (some .boolean)) (by decide) rfl ?_
  intro p e s m args below meth c s₁ B hml hv
  obtain ⟨rfl, hsz, hP, hK, hD0, hT⟩ := hv
  have hx := B.exec
  have hb := B.bytes
  have hr := B.returns
  have hts := atoms_spec (ws := v_c_isRoom1) B.pre
  have hown : s.vm.findClass RX6 = some m.cls := findClass_of_methodNamed B.named
  have hlocks := B.notSynchronized
  subst hsz
  have hD := hD0.self (sz := s.heap.size)
  generalize hAe : va_A [(h0, .inr (11, [.int th, .int 1, .int 0, .int 0, .ref rq, .ref sbq])), (rq, .inl (ci, 119, .inl (upd (upd (fun _ => 0) (0 : Int32).toNatClampNeg 3) (2 : Int32).toNatClampNeg 1)))] s.heap.size = A at hD hT ⊢
  have hA : ∀ q : Nat, s.heap.size ≤ q → A q := fun q h => by rw [← hAe]; exact Or.inr h
  have hS : va_S A s.heap s.heap [] := va_S.rf
  have hl := lv_entry ([.ref h0, .int 0, .int 0]) (n := 3) (Nat.le_of_ble_eq_true rfl)
  rw [lg_entry_eq]
  generalize (lg_sl ([.ref h0, .int 0, .int 0]) ++ List.replicate (3 - (lg_sl ([.ref h0, .int 0, .int 0])).length) Slot.unset).toArray = ls at hl ⊢
  have hl : lv_has ls 3 [(0, .ref h0), (1, .int 0), (2, .int 0)] := hl
  refine lv_aload_n hx hb dX6_isRoom_0 rfl (lv_at hl 0 rfl) ?_
  refine lv_iload_n hx hb dX6_isRoom_1 rfl (lv_at hl 1 rfl) ?_
  have hPc := hP.sub (ws' := [(h0, .inr (11, [.int th, .int 1, .int 0, .int 0, .ref rq, .ref sbq]))]) [0] rfl
  have hDc := hD.sub (ws' := [(h0, .inr (11, [.int th, .int 1, .int 0, .int 0, .ref rq, .ref sbq]))]) [0] (by decide) rfl
  have hKc := hK.sub (tys' := []) [] rfl
  have hFc := va_free (wc := [(h0, .inr (11, [.int th, .int 1, .int 0, .int 0, .ref rq, .ref sbq]))]) hD hS hA [0] rfl
  refine va_calli (va_runV (As := [.int 0]) (rest := []) ⟨hx, hb, hml, hown, hts⟩ (c_isFloor1 l hl9 dC dI tE h0 rq sbq th _ ) (cwV 1 hts (goodIn_app (goodIn_r _ [7, 8, 9, 6] (by rfl) (by decide +kernel)) gg_c_isRoom1_c_isFloor1) rfl rfl rfl (by decide +kernel) ⟨Nat.le_of_ble_eq_true rfl, Nat.le_of_ble_eq_true rfl⟩) ⟨Pre0.blind, va_recv hKc hPc (ci := 11) (q0 := 0) rfl rfl, Pre0.give hPc hKc hDc hT hS hFc⟩ rfl rfl hl.1 rfl (lv_room (Nat.le_of_ble_eq_true rfl)) dX6_isRoom_2 ⟨Nat.le_of_ble_eq_true rfl, Nat.le_of_ble_eq_true rfl⟩) hS (fun q _ h => hFc q h) hFc (fun r_1 u t H1 locs ht hvm hw hB hz1 hk1 hS => ?_)
  obtain ⟨hP1, hK1, hD1⟩ := hB
  rw [ht] at hP1
  have hK1 := va_K.moved hvm.symm hK1
  obtain ⟨hP, hD⟩ := va_join (wr := [(rq, .inl (ci, 119, .inl (upd (upd (fun _ => 0) (0 : Int32).toNatClampNeg 3) (2 : Int32).toNatClampNeg 1)))]) (w1 := [(h0, .inr (11, [.int th, .int 1, .int 0, .int 0, .ref rq, .ref sbq]))]) hP hD [0] [1] rfl rfl (by decide) (by decide) hk1 hFc hP1 hD1
  generalize H1 = H at hP hS ⊢
  have hP : va_P (dC, dI) vwCl [(rq, .inl (ci, 119, .inl (upd (upd (fun _ => 0) (0 : Int32).toNatClampNeg 3) (2 : Int32).toNatClampNeg 1))), (h0, .inr (11, [.int th, .int 1, .int 0, .int 0, .ref rq, .ref sbq]))] H := hP
  have hD : va_D A [(rq, .inl (ci, 119, .inl (upd (upd (fun _ => 0) (0 : Int32).toNatClampNeg 3) (2 : Int32).toNatClampNeg 1))), (h0, .inr (11, [.int th, .int 1, .int 0, .int 0, .ref rq, .ref sbq]))] := hD
  refine W.widen (k := 0) (n := 0) (by omega) (by omega) ?_
  obtain rfl : r_1 = 1 := hw
  refine lv_if_eq (tgt := 28) hx hb dX6_isRoom_5 (by decide) (fun c_2 => absurd c_2 (by decide)) (fun _ => ?_)
  refine lv_iload_n hx hb dX6_isRoom_8 rfl (lv_at hl 2 rfl) ?_
  refine lv_iconst (v := 0) hx hb dX6_isRoom_9 (by decide) ?_
  refine lv_aload_n hx hb dX6_isRoom_10 rfl (lv_at hl 0 rfl) ?_
  refine lv_iload_n hx hb dX6_isRoom_11 rfl (lv_at hl 1 rfl) ?_
  refine lv_iconst (v := 0) hx hb dX6_isRoom_12 (by decide) ?_
  have hPc := hP.sub (ws' := [(h0, .inr (11, [.int th, .int 1, .int 0, .int 0, .ref rq, .ref sbq])), (rq, .inl (ci, 119, .inl (upd (upd (fun _ => 0) (0 : Int32).toNatClampNeg 3) (2 : Int32).toNatClampNeg 1)))]) [1, 0] rfl
  have hDc := hD.sub (ws' := [(h0, .inr (11, [.int th, .int 1, .int 0, .int 0, .ref rq, .ref sbq])), (rq, .inl (ci, 119, .inl (upd (upd (fun _ => 0) (0 : Int32).toNatClampNeg 3) (2 : Int32).toNatClampNeg 1)))]) [1, 0] (by decide) rfl
  have hKc := hK.sub (tys' := [(ci, .int)]) [0] rfl
  have hFc := va_free (wc := [(h0, .inr (11, [.int th, .int 1, .int 0, .int 0, .ref rq, .ref sbq])), (rq, .inl (ci, 119, .inl (upd (upd (fun _ => 0) (0 : Int32).toNatClampNeg 3) (2 : Int32).toNatClampNeg 1)))]) hD hS hA [1, 0] rfl
  refine va_calli (va_runV (As := [.int 0, .int 0]) (rest := [.int 0, .int 0]) ⟨hx, hb, hml, hown, hts⟩ (c_fl1_0 l hl9 dC dI tE h0 rq sbq th ci _ ) (cwV 2 hts (goodIn_app (goodIn_r _ [12, 13, 14, 6] (by rfl) (by decide +kernel)) gg_c_isRoom1_c_fl1_0) rfl rfl rfl (by decide +kernel) ⟨Nat.le_of_ble_eq_true rfl, Nat.le_of_ble_eq_true rfl⟩) ⟨Pre0.blind, va_recv hKc hPc (ci := 11) (q0 := 0) rfl rfl, Pre0.give hPc hKc hDc hT hS hFc⟩ rfl rfl hl.1 rfl (lv_room (Nat.le_of_ble_eq_true rfl)) dX6_isRoom_13 ⟨Nat.le_of_ble_eq_true rfl, Nat.le_of_ble_eq_true rfl⟩) hS (fun q _ h => hFc q h) hFc (fun r_3 u t H1 locs ht hvm hw hB hz1 hk1 hS => ?_)
  obtain ⟨hP1, hK1, hD1⟩ := hB
  rw [ht] at hP1
  have hK1 := va_K.moved hvm.symm hK1
  obtain ⟨hP, hD⟩ := va_join (wr := []) (w1 := [(h0, .inr (11, [.int th, .int 1, .int 0, .int 0, .ref rq, .ref sbq])), (rq, .inl (ci, 119, .inl (upd (upd (fun _ => 0) (0 : Int32).toNatClampNeg 3) (2 : Int32).toNatClampNeg 1)))]) hP hD [1, 0] [] rfl rfl (by decide) (by decide) hk1 hFc hP1 hD1
  generalize H1 = H at hP hS ⊢
  have hP : va_P (dC, dI) vwCl [(h0, .inr (11, [.int th, .int 1, .int 0, .int 0, .ref rq, .ref sbq])), (rq, .inl (ci, 119, .inl (upd (upd (fun _ => 0) (0 : Int32).toNatClampNeg 3) (2 : Int32).toNatClampNeg 1)))] H := hP
  have hD : va_D A [(h0, .inr (11, [.int th, .int 1, .int 0, .int 0, .ref rq, .ref sbq])), (rq, .inl (ci, 119, .inl (upd (upd (fun _ => 0) (0 : Int32).toNatClampNeg 3) (2 : Int32).toNatClampNeg 1)))] := hD
  refine W.widen (k := 0) (n := 0) (by omega) (by omega) ?_
  obtain rfl : r_3 = 3 := hw
  refine lv_iconst (v := 1) hx hb dX6_isRoom_16 (by decide) ?_
  refine lv_isub hx hb dX6_isRoom_17 ?_
  refine lv_topi (fun x_4 e_5 => ?_)
  obtain rfl : x_4 = 2 := e_5.trans (by decide)
  have hPc := hP.sub (ws' := []) [] rfl
  have hDc := hD.sub (ws' := []) [] (by decide) rfl
  have hKc := hK.sub (tys' := []) [] rfl
  have hFc := va_free (wc := []) hD hS hA [] rfl
  refine va_calli (va_runS (As := [.int 0, .int 0, .int 2]) (rest := []) ⟨hx, hb, hml, hown, hts⟩ (c_isIn_0_0_2 l hl9 dC dI tE  _ ) (va_cwS 3 hts (goodIn_app (goodIn_r _ [4, 5, 6] (by rfl) (by decide +kernel)) gg_c_isRoom1_c_isIn_0_0_2) rfl rfl rfl (by decide +kernel) ⟨Nat.le_of_ble_eq_true rfl, Nat.le_of_ble_eq_true rfl⟩) ⟨Pre0.blind, Pre0.give hPc hKc hDc hT hS hFc⟩ rfl rfl hl.1 rfl (lv_room (Nat.le_of_ble_eq_true rfl)) dX6_isRoom_18 ⟨Nat.le_of_ble_eq_true rfl, Nat.le_of_ble_eq_true rfl⟩) hS (fun q _ h => hFc q h) hFc (fun r_6 u t H1 locs ht hvm hw hB hz1 hk1 hS => ?_)
  obtain ⟨hP1, hK1, hD1⟩ := hB
  rw [ht] at hP1
  have hK1 := va_K.moved hvm.symm hK1
  obtain ⟨hP, hD⟩ := va_join (wr := [(h0, .inr (11, [.int th, .int 1, .int 0, .int 0, .ref rq, .ref sbq])), (rq, .inl (ci, 119, .inl (upd (upd (fun _ => 0) (0 : Int32).toNatClampNeg 3) (2 : Int32).toNatClampNeg 1)))]) (w1 := []) hP hD [] [0, 1] rfl rfl (by decide) (by decide) hk1 hFc hP1 hD1
  generalize H1 = H at hP hS ⊢
  have hP : va_P (dC, dI) vwCl [(h0, .inr (11, [.int th, .int 1, .int 0, .int 0, .ref rq, .ref sbq])), (rq, .inl (ci, 119, .inl (upd (upd (fun _ => 0) (0 : Int32).toNatClampNeg 3) (2 : Int32).toNatClampNeg 1)))] H := hP
  have hD : va_D A [(h0, .inr (11, [.int th, .int 1, .int 0, .int 0, .ref rq, .ref sbq])), (rq, .inl (ci, 119, .inl (upd (upd (fun _ => 0) (0 : Int32).toNatClampNeg 3) (2 : Int32).toNatClampNeg 1)))] := hD
  refine W.widen (k := 0) (n := 0) (by omega) (by omega) ?_
  obtain rfl : r_6 = 1 := hw
  refine lv_if_eq (tgt := 28) hx hb dX6_isRoom_21 (by decide) (fun c_7 => absurd c_7 (by decide)) (fun _ => ?_)
  refine lv_iconst (v := 1) hx hb dX6_isRoom_24 (by decide) ?_
  refine lv_goto (tgt := 29) hx hb dX6_isRoom_25 (by decide) ?_
  have hP9 := hP.sub (ws' := [(h0, .inr (11, [.int th, .int 1, .int 0, .int 0, .ref rq, .ref sbq])), (rq, .inl (ci, 119, .inl (upd (upd (fun _ => 0) (0 : Int32).toNatClampNeg 3) (2 : Int32).toNatClampNeg 1)))]) [0, 1] rfl
  have hD9 := hD.sub (ws' := [(h0, .inr (11, [.int th, .int 1, .int 0, .int 0, .ref rq, .ref sbq])), (rq, .inl (ci, 119, .inl (upd (upd (fun _ => 0) (0 : Int32).toNatClampNeg 3) (2 : Int32).toNatClampNeg 1)))]) [0, 1] (by decide) rfl
  have hK9 := hK.sub (tys' := [(ci, .int)]) [0] rfl
  exact W.zret (v := 1) hx hb hr (by decide) (fun t ht hW => ⟨⟨1, (), rfl, rfl, by rw [ht]; exact hP9, va_K.moved hW.alike hK9, hD9⟩, hS.F ht⟩) hS.2.2 dX6_isRoom_29
def v_c_Mi_addGuest : List Cond := .code yX6_addGuest cX6_addGuest 4 (some .int) :: ([Cond.fieldLink RX6 20 "HotelOfBellsModel" "thrown" "I", Cond.code yX6_isRoom cX6_isRoom 3 (some .boolean), Cond.code yX6_isFloor cX6_isFloor 2 (some .boolean), Cond.fieldLink RX6 24 "HotelOfBellsModel" "floors" "I", Cond.code yX6_isIn cX6_isIn 3 (some .boolean), Cond.methodLink RX6 27 yX6_isIn, Cond.static yX6_isIn, Cond.initialized RX6, Cond.methodLink RX6 37 yX6_isFloor, Cond.instanceMethod yX6_isFloor, Cond.selects RX6 yX6_isFloor yX6_isFloor, Cond.code yX6_fl cX6_fl 3 (some .int), Cond.fieldLink RX6 9 "HotelOfBellsModel" "row" "[I", Cond.methodLink RX6 41 yX6_fl, Cond.instanceMethod yX6_fl, Cond.selects RX6 yX6_fl yX6_fl, Cond.methodLink RX6 68 yX6_isRoom, Cond.instanceMethod yX6_isRoom, Cond.selects RX6 yX6_isRoom yX6_isRoom, Cond.fieldLink RX6 34 "HotelOfBellsModel" "guests" "I", Cond.arrayClass .int, Cond.methodLink RX6 72 arraycopyName, Cond.native arraycopyName, Cond.static arraycopyName, Cond.initialized "java/lang/System"] ++ (wsX60 ++ []))
theorem u_c_Mi_addGuest_X6 : ∀ w ∈ wsX60, w ∈ v_c_Mi_addGuest := fun _ h => List.mem_cons_of_mem _ (List.mem_append_right _ (List.mem_append_left _ h))
theorem gg_c_Mi_addGuest_c_isRoom1 : GoodIn v_c_Mi_addGuest v_c_isRoom1 := goodIn_r _ [2, 3, 4, 5, 6, 7, 8, 9, 10, 11, 12, 13, 14, 15, 16, 26, 27, 28, 29, 30, 31] (by rfl) (by decide +kernel)
set_option maxHeartbeats 4000000 in
set_option maxRecDepth 100000 in
theorem c_Mi_addGuest (l : Launch) (hl9 : l.stackTraces = false) (dC : Nat → ClassId) (dI : Nat → Nat → Nat) (tE : Nat) (h0 : Nat) (rq : Nat) (sbq : Nat) (th : Int32) (ci : ClassId) (sz : Nat) : Met l yX6_addGuest v_c_Mi_addGuest ({ frames := 3, cells := 1, slots := 6, locals := 65 }) (va_Pc [.ref h0, .int 0, .int 0] (Pre0 dC dI tE sz [(ci, .int)] [(h0, .inr (11, [.int th, .int 1, .int 0, .int 0, .ref rq, .ref sbq])), (rq, .inl (ci, 119, .inl (upd (upd (fun _ => 0) (0 : Int32).toNatClampNeg 3) (2 : Int32).toNatClampNeg 1)))])) (va_Qi (fun (r : Int32) (_ : Unit) => r = 0) (fun _ t => Pst dC dI [(ci, .int)] (va_A [(h0, .inr (11, [.int th, .int 1, .int 0, .int 0, .ref rq, .ref sbq])), (rq, .inl (ci, 119, .inl (upd (upd (fun _ => 0) (0 : Int32).toNatClampNeg 3) (2 : Int32).toNatClampNeg 1)))] sz) [(h0, .inr (11, [.int 0, .int 1, .int 0, .int 1, .ref rq, .ref sbq])), (rq, .inl (ci, 119, .inl (va_cpy (upd (upd (upd (upd (fun _ => 0) (2 : Int32).toNatClampNeg (-1)) (3 : Int32).toNatClampNeg 0) (4 : Int32).toNatClampNeg 0) (5 : Int32).toNatClampNeg 0) (upd (upd (fun _ => 0) (0 : Int32).toNatClampNeg 3) (2 : Int32).toNatClampNeg 1) (0 : Int32).toNatClampNeg (56 : Int32).toNatClampNeg (6 : Int32).toNatClampNeg)))] t) (va_A [(h0, .inr (11, [.int th, .int 1, .int 0, .int 0, .ref rq, .ref sbq])), (rq, .inl (ci, 119, .inl (upd (upd (fun _ => 0) (0 : Int32).toNatClampNeg 3) (2 : Int32).toNatClampNeg 1)))] sz)) 1 6 (va_A [(h0, .inr (11, [.int th, .int 1, .int 0, .int 0, .ref rq, .ref sbq])), (rq, .inl (ci, 119, .inl (upd (upd (fun _ => 0) (0 : Int32).toNatClampNeg 3) (2 : Int32).toNatClampNeg 1)))] sz) := by
  refine Met.ofW (cc := cX6_addGuest) (maxL := 4) (ret := (some .int)) (by decide) rfl ?_
  intro p e s m args below meth c s₁ B hml hv
  obtain ⟨rfl, hsz, hP, hK, hD0, hT⟩ := hv
  have hx := B.exec
  have hb := B.bytes
  have hr := B.returns
  have hts := atoms_spec (ws := v_c_Mi_addGuest) B.pre
  have hown : s.vm.findClass RX6 = some m.cls := findClass_of_methodNamed B.named
  have hlocks := B.notSynchronized
  subst hsz
  have hD := hD0.self (sz := s.heap.size)
  generalize hAe : va_A [(h0, .inr (11, [.int th, .int 1, .int 0, .int 0, .ref rq, .ref sbq])), (rq, .inl (ci, 119, .inl (upd (upd (fun _ => 0) (0 : Int32).toNatClampNeg 3) (2 : Int32).toNatClampNeg 1)))] s.heap.size = A at hD hT ⊢
  have hA : ∀ q : Nat, s.heap.size ≤ q → A q := fun q h => by rw [← hAe]; exact Or.inr h
  have hS : va_S A s.heap s.heap [] := va_S.rf
  have hl := lv_entry ([.ref h0, .int 0, .int 0]) (n := 4) (Nat.le_of_ble_eq_true rfl)
  rw [lg_entry_eq]
  generalize (lg_sl ([.ref h0, .int 0, .int 0]) ++ List.replicate (4 - (lg_sl ([.ref h0, .int 0, .int 0])).length) Slot.unset).toArray = ls at hl ⊢
  have hl : lv_has ls 4 [(0, .ref h0), (1, .int 0), (2, .int 0)] := hl
  refine lv_aload_n hx hb dX6_addGuest_0 rfl (lv_at hl 0 rfl) ?_
  refine lv_iconst (v := 0) hx hb dX6_addGuest_1 (by decide) ?_
  refine va_put (D := (dC, dI)) (ci := 11) (v := .int 0) (ty := .int) (C := RX6) (T := TX6) (N := 6) hx hb hts u_c_Mi_addGuest_X6 tyX6 tyX6_ok nmX6 hown hK hP hD hS 0 rfl rfl 0 (by decide) (hts (.fieldLink RX6 20 "HotelOfBellsModel" "thrown" "I") (List.mem_of_getElem? (i := 1) rfl)) (fun _ h9 => h9) rfl (by decide +kernel) rfl rfl (Nat.le_of_ble_eq_true rfl) dX6_addGuest_2 (fun H locs hP hD hS => ?_)
  have hP : va_P (dC, dI) vwCl [(h0, .inr (11, [.int 0, .int 1, .int 0, .int 0, .ref rq, .ref sbq])), (rq, .inl (ci, 119, .inl (upd (upd (fun _ => 0) (0 : Int32).toNatClampNeg 3) (2 : Int32).toNatClampNeg 1)))] H := hP
  have hD : va_D A [(h0, .inr (11, [.int 0, .int 1, .int 0, .int 0, .ref rq, .ref sbq])), (rq, .inl (ci, 119, .inl (upd (upd (fun _ => 0) (0 : Int32).toNatClampNeg 3) (2 : Int32).toNatClampNeg 1)))] := hD
  refine lv_aload_n hx hb dX6_addGuest_5 rfl (lv_at hl 0 rfl) ?_
  refine lv_iload_n hx hb dX6_addGuest_6 rfl (lv_at hl 1 rfl) ?_
  refine lv_iload_n hx hb dX6_addGuest_7 rfl (lv_at hl 2 rfl) ?_
  have hPc := hP.sub (ws' := [(h0, .inr (11, [.int 0, .int 1, .int 0, .int 0, .ref rq, .ref sbq])), (rq, .inl (ci, 119, .inl (upd (upd (fun _ => 0) (0 : Int32).toNatClampNeg 3) (2 : Int32).toNatClampNeg 1)))]) [0, 1] rfl
  have hDc := hD.sub (ws' := [(h0, .inr (11, [.int 0, .int 1, .int 0, .int 0, .ref rq, .ref sbq])), (rq, .inl (ci, 119, .inl (upd (upd (fun _ => 0) (0 : Int32).toNatClampNeg 3) (2 : Int32).toNatClampNeg 1)))]) [0, 1] (by decide) rfl
  have hKc := hK.sub (tys' := [(ci, .int)]) [0] rfl
  have hFc := va_free (wc := [(h0, .inr (11, [.int 0, .int 1, .int 0, .int 0, .ref rq, .ref sbq])), (rq, .inl (ci, 119, .inl (upd (upd (fun _ => 0) (0 : Int32).toNatClampNeg 3) (2 : Int32).toNatClampNeg 1)))]) hD hS hA [0, 1] rfl
  refine va_calli (va_runV (As := [.int 0, .int 0]) (rest := []) ⟨hx, hb, hml, hown, hts⟩ (c_isRoom1 l hl9 dC dI tE h0 rq sbq 0 ci _ ) (cwV 2 hts (goodIn_app (goodIn_r _ [17, 18, 19, 8] (by rfl) (by decide +kernel)) gg_c_Mi_addGuest_c_isRoom1) rfl rfl rfl (by decide +kernel) ⟨Nat.le_of_ble_eq_true rfl, Nat.le_of_ble_eq_true rfl⟩) ⟨Pre0.blind, va_recv hKc hPc (ci := 11) (q0 := 0) rfl rfl, Pre0.give hPc hKc hDc hT hS hFc⟩ rfl rfl hl.1 rfl (lv_room (Nat.le_of_ble_eq_true rfl)) dX6_addGuest_8 ⟨Nat.le_of_ble_eq_true rfl, Nat.le_of_ble_eq_true rfl⟩) hS (fun q _ h => hFc q h) hFc (fun r_1 u t H1 locs ht hvm hw hB hz1 hk1 hS => ?_)
  obtain ⟨hP1, hK1, hD1⟩ := hB
  rw [ht] at hP1
  have hK1 := va_K.moved hvm.symm hK1
  obtain ⟨hP, hD⟩ := va_join (wr := []) (w1 := [(h0, .inr (11, [.int 0, .int 1, .int 0, .int 0, .ref rq, .ref sbq])), (rq, .inl (ci, 119, .inl (upd (upd (fun _ => 0) (0 : Int32).toNatClampNeg 3) (2 : Int32).toNatClampNeg 1)))]) hP hD [0, 1] [] rfl rfl (by decide) (by decide) hk1 hFc hP1 hD1
  generalize H1 = H at hP hS ⊢
  have hP : va_P (dC, dI) vwCl [(h0, .inr (11, [.int 0, .int 1, .int 0, .int 0, .ref rq, .ref sbq])), (rq, .inl (ci, 119, .inl (upd (upd (fun _ => 0) (0 : Int32).toNatClampNeg 3) (2 : Int32).toNatClampNeg 1)))] H := hP
  have hD : va_D A [(h0, .inr (11, [.int 0, .int 1, .int 0, .int 0, .ref rq, .ref sbq])), (rq, .inl (ci, 119, .inl (upd (upd (fun _ => 0) (0 : Int32).toNatClampNeg 3) (2 : Int32).toNatClampNeg 1)))] := hD
  refine W.widen (k := 0) (n := 0) (by omega) (by omega) ?_
  obtain rfl : r_1 = 1 := hw
  refine lv_if_ne (tgt := 20) hx hb dX6_addGuest_11 (by decide) (fun _ => ?_) (fun c_2 => absurd c_2 (by decide))
  refine lv_aload_n hx hb dX6_addGuest_20 rfl (lv_at hl 0 rfl) ?_
  refine va_get (D := (dC, dI)) (ci := 11) (v := .int 0) (C := RX6) (T := TX6) (N := 6) hx hb hts u_c_Mi_addGuest_X6 hown hK hP 0 rfl rfl 3 (by decide) (hts (.fieldLink RX6 34 "HotelOfBellsModel" "guests" "I") (List.mem_of_getElem? (i := 20) rfl)) (fun _ h9 => h9) rfl dX6_addGuest_21 ?_
  refine lv_bipush (v := 10) hx hb dX6_addGuest_24 (by decide) ?_
  refine lv_icmp_ne (tgt := 35) hx hb dX6_addGuest_26 (by decide) (fun _ => ?_) (fun c_3 => absurd c_3 (by decide))
  refine lv_bipush (v := 6) hx hb dX6_addGuest_35 (by decide) ?_
  refine va_newa (atype := .int) (ty := .int) (N' := 6) (a0 := (6, .inl (fun _ => 0))) hx hb (hts (.arrayClass .int) (List.mem_of_getElem? (i := 21) rfl)) rfl hK hP hD hS hA (fun _ => rfl) (by decide) (by decide) (Nat.le_of_ble_eq_true rfl) (Nat.le_of_ble_eq_true rfl) (Nat.le_of_ble_eq_true rfl) dX6_addGuest_37 (fun q_4 cA_5 H hK hP hD hS => ?_)
  obtain rfl : ci = cA_5 := ra_inj_I (hK.2 0 _ rfl).2 (hK.2 1 _ rfl).2
  have hP : va_P (dC, dI) vwCl [(h0, .inr (11, [.int 0, .int 1, .int 0, .int 0, .ref rq, .ref sbq])), (rq, .inl (ci, 119, .inl (upd (upd (fun _ => 0) (0 : Int32).toNatClampNeg 3) (2 : Int32).toNatClampNeg 1))), (q_4, .inl (ci, 6, .inl (fun _ => 0)))] H := hP
  have hD : va_D A [(h0, .inr (11, [.int 0, .int 1, .int 0, .int 0, .ref rq, .ref sbq])), (rq, .inl (ci, 119, .inl (upd (upd (fun _ => 0) (0 : Int32).toNatClampNeg 3) (2 : Int32).toNatClampNeg 1))), (q_4, .inl (ci, 6, .inl (fun _ => 0)))] := hD
  have hK : va_K (dC, dI) vwCl [(ci, .int), (ci, .int)] s := hK
  refine W.widen (k := 1) (n := 6) (by omega) (by omega) ?_
  refine lv_dup hx hb dX6_addGuest_39 rfl ?_
  refine lv_iconst (v := 0) hx hb dX6_addGuest_40 (by decide) ?_
  refine lv_iload_n hx hb dX6_addGuest_41 rfl (lv_at hl 1 rfl) ?_
  refine va_iast hx hb hK hP hD hS 2 0 rfl rfl (by unfold vp_in; decide) dX6_addGuest_42 (fun H locs hP hD hS => ?_)
  rw [upd_z0] at hP hD
  have hP : va_P (dC, dI) vwCl [(h0, .inr (11, [.int 0, .int 1, .int 0, .int 0, .ref rq, .ref sbq])), (rq, .inl (ci, 119, .inl (upd (upd (fun _ => 0) (0 : Int32).toNatClampNeg 3) (2 : Int32).toNatClampNeg 1))), (q_4, .inl (ci, 6, .inl (fun _ => 0)))] H := hP
  have hD : va_D A [(h0, .inr (11, [.int 0, .int 1, .int 0, .int 0, .ref rq, .ref sbq])), (rq, .inl (ci, 119, .inl (upd (upd (fun _ => 0) (0 : Int32).toNatClampNeg 3) (2 : Int32).toNatClampNeg 1))), (q_4, .inl (ci, 6, .inl (fun _ => 0)))] := hD
  refine lv_dup hx hb dX6_addGuest_43 rfl ?_
  refine lv_iconst (v := 1) hx hb dX6_addGuest_44 (by decide) ?_
  refine lv_iload_n hx hb dX6_addGuest_45 rfl (lv_at hl 2 rfl) ?_
  refine va_iast hx hb hK hP hD hS 2 0 rfl rfl (by unfold vp_in; decide) dX6_addGuest_46 (fun H locs hP hD hS => ?_)
  rw [upd_z0] at hP hD
  have hP : va_P (dC, dI) vwCl [(h0, .inr (11, [.int 0, .int 1, .int 0, .int 0, .ref rq, .ref sbq])), (rq, .inl (ci, 119, .inl (upd (upd (fun _ => 0) (0 : Int32).toNatClampNeg 3) (2 : Int32).toNatClampNeg 1))), (q_4, .inl (ci, 6, .inl (fun _ => 0)))] H := hP
  have hD : va_D A [(h0, .inr (11, [.int 0, .int 1, .int 0, .int 0, .ref rq, .ref sbq])), (rq, .inl (ci, 119, .inl (upd (upd (fun _ => 0) (0 : Int32).toNatClampNeg 3) (2 : Int32).toNatClampNeg 1))), (q_4, .inl (ci, 6, .inl (fun _ => 0)))] := hD
  refine lv_dup hx hb dX6_addGuest_47 rfl ?_
  refine lv_iconst (v := 2) hx hb dX6_addGuest_48 (by decide) ?_
  refine lv_iconst (v := (-1)) hx hb dX6_addGuest_49 (by decide) ?_
  refine va_iast hx hb hK hP hD hS 2 0 rfl rfl (by unfold vp_in; decide) dX6_addGuest_50 (fun H locs hP hD hS => ?_)
  have hP : va_P (dC, dI) vwCl [(h0, .inr (11, [.int 0, .int 1, .int 0, .int 0, .ref rq, .ref sbq])), (rq, .inl (ci, 119, .inl (upd (upd (fun _ => 0) (0 : Int32).toNatClampNeg 3) (2 : Int32).toNatClampNeg 1))), (q_4, .inl (ci, 6, .inl (upd (fun _ => 0) (2 : Int32).toNatClampNeg (-1))))] H := hP
  have hD : va_D A [(h0, .inr (11, [.int 0, .int 1, .int 0, .int 0, .ref rq, .ref sbq])), (rq, .inl (ci, 119, .inl (upd (upd (fun _ => 0) (0 : Int32).toNatClampNeg 3) (2 : Int32).toNatClampNeg 1))), (q_4, .inl (ci, 6, .inl (upd (fun _ => 0) (2 : Int32).toNatClampNeg (-1))))] := hD
  refine lv_dup hx hb dX6_addGuest_51 rfl ?_
  refine lv_iconst (v := 3) hx hb dX6_addGuest_52 (by decide) ?_
  refine lv_iload_n hx hb dX6_addGuest_53 rfl (lv_at hl 1 rfl) ?_
  refine va_iast hx hb hK hP hD hS 2 0 rfl rfl (by unfold vp_in; decide) dX6_addGuest_54 (fun H locs hP hD hS => ?_)
  have hP : va_P (dC, dI) vwCl [(h0, .inr (11, [.int 0, .int 1, .int 0, .int 0, .ref rq, .ref sbq])), (rq, .inl (ci, 119, .inl (upd (upd (fun _ => 0) (0 : Int32).toNatClampNeg 3) (2 : Int32).toNatClampNeg 1))), (q_4, .inl (ci, 6, .inl (upd (upd (fun _ => 0) (2 : Int32).toNatClampNeg (-1)) (3 : Int32).toNatClampNeg 0)))] H := hP
  have hD : va_D A [(h0, .inr (11, [.int 0, .int 1, .int 0, .int 0, .ref rq, .ref sbq])), (rq, .inl (ci, 119, .inl (upd (upd (fun _ => 0) (0 : Int32).toNatClampNeg 3) (2 : Int32).toNatClampNeg 1))), (q_4, .inl (ci, 6, .inl (upd (upd (fun _ => 0) (2 : Int32).toNatClampNeg (-1)) (3 : Int32).toNatClampNeg 0)))] := hD
  refine lv_dup hx hb dX6_addGuest_55 rfl ?_
  refine lv_iconst (v := 4) hx hb dX6_addGuest_56 (by decide) ?_
  refine lv_iload_n hx hb dX6_addGuest_57 rfl (lv_at hl 2 rfl) ?_
  refine va_iast hx hb hK hP hD hS 2 0 rfl rfl (by unfold vp_in; decide) dX6_addGuest_58 (fun H locs hP hD hS => ?_)
  have hP : va_P (dC, dI) vwCl [(h0, .inr (11, [.int 0, .int 1, .int 0, .int 0, .ref rq, .ref sbq])), (rq, .inl (ci, 119, .inl (upd (upd (fun _ => 0) (0 : Int32).toNatClampNeg 3) (2 : Int32).toNatClampNeg 1))), (q_4, .inl (ci, 6, .inl (upd (upd (upd (fun _ => 0) (2 : Int32).toNatClampNeg (-1)) (3 : Int32).toNatClampNeg 0) (4 : Int32).toNatClampNeg 0)))] H := hP
  have hD : va_D A [(h0, .inr (11, [.int 0, .int 1, .int 0, .int 0, .ref rq, .ref sbq])), (rq, .inl (ci, 119, .inl (upd (upd (fun _ => 0) (0 : Int32).toNatClampNeg 3) (2 : Int32).toNatClampNeg 1))), (q_4, .inl (ci, 6, .inl (upd (upd (upd (fun _ => 0) (2 : Int32).toNatClampNeg (-1)) (3 : Int32).toNatClampNeg 0) (4 : Int32).toNatClampNeg 0)))] := hD
  refine lv_dup hx hb dX6_addGuest_59 rfl ?_
  refine lv_iconst (v := 5) hx hb dX6_addGuest_60 (by decide) ?_
  refine lv_iconst (v := 0) hx hb dX6_addGuest_61 (by decide) ?_
  refine va_iast hx hb hK hP hD hS 2 0 rfl rfl (by unfold vp_in; decide) dX6_addGuest_62 (fun H locs hP hD hS => ?_)
  have hP : va_P (dC, dI) vwCl [(h0, .inr (11, [.int 0, .int 1, .int 0, .int 0, .ref rq, .ref sbq])), (rq, .inl (ci, 119, .inl (upd (upd (fun _ => 0) (0 : Int32).toNatClampNeg 3) (2 : Int32).toNatClampNeg 1))), (q_4, .inl (ci, 6, .inl (upd (upd (upd (upd (fun _ => 0) (2 : Int32).toNatClampNeg (-1)) (3 : Int32).toNatClampNeg 0) (4 : Int32).toNatClampNeg 0) (5 : Int32).toNatClampNeg 0)))] H := hP
  have hD : va_D A [(h0, .inr (11, [.int 0, .int 1, .int 0, .int 0, .ref rq, .ref sbq])), (rq, .inl (ci, 119, .inl (upd (upd (fun _ => 0) (0 : Int32).toNatClampNeg 3) (2 : Int32).toNatClampNeg 1))), (q_4, .inl (ci, 6, .inl (upd (upd (upd (upd (fun _ => 0) (2 : Int32).toNatClampNeg (-1)) (3 : Int32).toNatClampNeg 0) (4 : Int32).toNatClampNeg 0) (5 : Int32).toNatClampNeg 0)))] := hD
  refine lv_astore_n (lv' := [(3, .ref q_4), (0, .ref h0), (1, .int 0), (2, .int 0)]) hx hb dX6_addGuest_63 rfl hl (by decide) rfl (fun ls hl => ?_)
  refine lv_aload_n hx hb dX6_addGuest_64 rfl (lv_at hl 0 rfl) ?_
  refine lv_iconst (v := 0) hx hb dX6_addGuest_65 (by decide) ?_
  refine lv_aload_n hx hb dX6_addGuest_66 rfl (lv_at hl 1 rfl) ?_
  refine va_get (D := (dC, dI)) (ci := 11) (v := .ref rq) (C := RX6) (T := TX6) (N := 6) hx hb hts u_c_Mi_addGuest_X6 hown hK hP 0 rfl rfl 4 (by decide) (hts (.fieldLink RX6 9 "HotelOfBellsModel" "row" "[I") (List.mem_of_getElem? (i := 13) rfl)) (fun _ h9 => h9) rfl dX6_addGuest_67 ?_
  refine lv_bipush (v := 56) hx hb dX6_addGuest_70 (by decide) ?_
  refine lv_bipush (v := 6) hx hb dX6_addGuest_72 (by decide) ?_
  refine lv_aload_n hx hb dX6_addGuest_74 rfl (lv_at hl 1 rfl) ?_
  refine va_get (D := (dC, dI)) (ci := 11) (v := .int 0) (C := RX6) (T := TX6) (N := 6) hx hb hts u_c_Mi_addGuest_X6 hown hK hP 0 rfl rfl 3 (by decide) (hts (.fieldLink RX6 34 "HotelOfBellsModel" "guests" "I") (List.mem_of_getElem? (i := 20) rfl)) (fun _ h9 => h9) rfl dX6_addGuest_75 ?_
  refine lv_imul hx hb dX6_addGuest_78 ?_
  refine lv_topi (fun x_6 e_7 => ?_)
  obtain rfl : x_6 = 0 := e_7.trans (by decide)
  refine lv_iadd hx hb dX6_addGuest_79 ?_
  refine lv_topi (fun x_8 e_9 => ?_)
  obtain rfl : x_8 = 56 := e_9.trans (by decide)
  refine lv_bipush (v := 6) hx hb dX6_addGuest_80 (by decide) ?_
  refine va_copyi hx hb (hml.trans hl.1.symm) hown (hts (.methodLink RX6 72 arraycopyName) (List.mem_of_getElem? (i := 22) rfl)) (hts (.native arraycopyName) (List.mem_of_getElem? (i := 23) rfl)) (hts (.static arraycopyName) (List.mem_of_getElem? (i := 24) rfl)) (hts (.initialized "java/lang/System") (List.mem_of_getElem? (i := 25) rfl)) hK hP hD hS 2 1 0 0 rfl rfl rfl rfl rfl (by decide) (by decide) (by decide) (by decide) (by decide) (fun _ _ => rfl) (Nat.le_of_ble_eq_true rfl) (Nat.le_of_ble_eq_true rfl) dX6_addGuest_82 (fun H locs hP hD hS => ?_)
  have hP : va_P (dC, dI) vwCl [(h0, .inr (11, [.int 0, .int 1, .int 0, .int 0, .ref rq, .ref sbq])), (rq, .inl (ci, 119, .inl (va_cpy (upd (upd (upd (upd (fun _ => 0) (2 : Int32).toNatClampNeg (-1)) (3 : Int32).toNatClampNeg 0) (4 : Int32).toNatClampNeg 0) (5 : Int32).toNatClampNeg 0) (upd (upd (fun _ => 0) (0 : Int32).toNatClampNeg 3) (2 : Int32).toNatClampNeg 1) (0 : Int32).toNatClampNeg (56 : Int32).toNatClampNeg (6 : Int32).toNatClampNeg))), (q_4, .inl (ci, 6, .inl (upd (upd (upd (upd (fun _ => 0) (2 : Int32).toNatClampNeg (-1)) (3 : Int32).toNatClampNeg 0) (4 : Int32).toNatClampNeg 0) (5 : Int32).toNatClampNeg 0)))] H := hP
  have hD : va_D A [(h0, .inr (11, [.int 0, .int 1, .int 0, .int 0, .ref rq, .ref sbq])), (rq, .inl (ci, 119, .inl (va_cpy (upd (upd (upd (upd (fun _ => 0) (2 : Int32).toNatClampNeg (-1)) (3 : Int32).toNatClampNeg 0) (4 : Int32).toNatClampNeg 0) (5 : Int32).toNatClampNeg 0) (upd (upd (fun _ => 0) (0 : Int32).toNatClampNeg 3) (2 : Int32).toNatClampNeg 1) (0 : Int32).toNatClampNeg (56 : Int32).toNatClampNeg (6 : Int32).toNatClampNeg))), (q_4, .inl (ci, 6, .inl (upd (upd (upd (upd (fun _ => 0) (2 : Int32).toNatClampNeg (-1)) (3 : Int32).toNatClampNeg 0) (4 : Int32).toNatClampNeg 0) (5 : Int32).toNatClampNeg 0)))] := hD
  refine lv_aload_n hx hb dX6_addGuest_85 rfl (lv_at hl 1 rfl) ?_
  refine lv_dup hx hb dX6_addGuest_86 rfl ?_
  refine va_get (D := (dC, dI)) (ci := 11) (v := .int 0) (C := RX6) (T := TX6) (N := 6) hx hb hts u_c_Mi_addGuest_X6 hown hK hP 0 rfl rfl 3 (by decide) (hts (.fieldLink RX6 34 "HotelOfBellsModel" "guests" "I") (List.mem_of_getElem? (i := 20) rfl)) (fun _ h9 => h9) rfl dX6_addGuest_87 ?_
  refine lv_iconst (v := 1) hx hb dX6_addGuest_90 (by decide) ?_
  refine lv_iadd hx hb dX6_addGuest_91 ?_
  refine lv_topi (fun x_10 e_11 => ?_)
  obtain rfl : x_10 = 1 := e_11.trans (by decide)
  refine va_put (D := (dC, dI)) (ci := 11) (v := .int 1) (ty := .int) (C := RX6) (T := TX6) (N := 6) hx hb hts u_c_Mi_addGuest_X6 tyX6 tyX6_ok nmX6 hown hK hP hD hS 0 rfl rfl 3 (by decide) (hts (.fieldLink RX6 34 "HotelOfBellsModel" "guests" "I") (List.mem_of_getElem? (i := 20) rfl)) (fun _ h9 => h9) rfl (by decide +kernel) rfl rfl (Nat.le_of_ble_eq_true rfl) dX6_addGuest_92 (fun H locs hP hD hS => ?_)
  have hP : va_P (dC, dI) vwCl [(h0, .inr (11, [.int 0, .int 1, .int 0, .int 1, .ref rq, .ref sbq])), (rq, .inl (ci, 119, .inl (va_cpy (upd (upd (upd (upd (fun _ => 0) (2 : Int32).toNatClampNeg (-1)) (3 : Int32).toNatClampNeg 0) (4 : Int32).toNatClampNeg 0) (5 : Int32).toNatClampNeg 0) (upd (upd (fun _ => 0) (0 : Int32).toNatClampNeg 3) (2 : Int32).toNatClampNeg 1) (0 : Int32).toNatClampNeg (56 : Int32).toNatClampNeg (6 : Int32).toNatClampNeg))), (q_4, .inl (ci, 6, .inl (upd (upd (upd (upd (fun _ => 0) (2 : Int32).toNatClampNeg (-1)) (3 : Int32).toNatClampNeg 0) (4 : Int32).toNatClampNeg 0) (5 : Int32).toNatClampNeg 0)))] H := hP
  have hD : va_D A [(h0, .inr (11, [.int 0, .int 1, .int 0, .int 1, .ref rq, .ref sbq])), (rq, .inl (ci, 119, .inl (va_cpy (upd (upd (upd (upd (fun _ => 0) (2 : Int32).toNatClampNeg (-1)) (3 : Int32).toNatClampNeg 0) (4 : Int32).toNatClampNeg 0) (5 : Int32).toNatClampNeg 0) (upd (upd (fun _ => 0) (0 : Int32).toNatClampNeg 3) (2 : Int32).toNatClampNeg 1) (0 : Int32).toNatClampNeg (56 : Int32).toNatClampNeg (6 : Int32).toNatClampNeg))), (q_4, .inl (ci, 6, .inl (upd (upd (upd (upd (fun _ => 0) (2 : Int32).toNatClampNeg (-1)) (3 : Int32).toNatClampNeg 0) (4 : Int32).toNatClampNeg 0) (5 : Int32).toNatClampNeg 0)))] := hD
  refine lv_aload_n hx hb dX6_addGuest_95 rfl (lv_at hl 1 rfl) ?_
  refine va_get (D := (dC, dI)) (ci := 11) (v := .int 1) (C := RX6) (T := TX6) (N := 6) hx hb hts u_c_Mi_addGuest_X6 hown hK hP 0 rfl rfl 3 (by decide) (hts (.fieldLink RX6 34 "HotelOfBellsModel" "guests" "I") (List.mem_of_getElem? (i := 20) rfl)) (fun _ h9 => h9) rfl dX6_addGuest_96 ?_
  refine lv_iconst (v := 1) hx hb dX6_addGuest_99 (by decide) ?_
  refine lv_isub hx hb dX6_addGuest_100 ?_
  refine lv_topi (fun x_12 e_13 => ?_)
  obtain rfl : x_12 = 0 := e_13.trans (by decide)
  have hP9 := hP.sub (ws' := [(h0, .inr (11, [.int 0, .int 1, .int 0, .int 1, .ref rq, .ref sbq])), (rq, .inl (ci, 119, .inl (va_cpy (upd (upd (upd (upd (fun _ => 0) (2 : Int32).toNatClampNeg (-1)) (3 : Int32).toNatClampNeg 0) (4 : Int32).toNatClampNeg 0) (5 : Int32).toNatClampNeg 0) (upd (upd (fun _ => 0) (0 : Int32).toNatClampNeg 3) (2 : Int32).toNatClampNeg 1) (0 : Int32).toNatClampNeg (56 : Int32).toNatClampNeg (6 : Int32).toNatClampNeg)))]) [0, 1] rfl
  have hD9 := hD.sub (ws' := [(h0, .inr (11, [.int 0, .int 1, .int 0, .int 1, .ref rq, .ref sbq])), (rq, .inl (ci, 119, .inl (va_cpy (upd (upd (upd (upd (fun _ => 0) (2 : Int32).toNatClampNeg (-1)) (3 : Int32).toNatClampNeg 0) (4 : Int32).toNatClampNeg 0) (5 : Int32).toNatClampNeg 0) (upd (upd (fun _ => 0) (0 : Int32).toNatClampNeg 3) (2 : Int32).toNatClampNeg 1) (0 : Int32).toNatClampNeg (56 : Int32).toNatClampNeg (6 : Int32).toNatClampNeg)))]) [0, 1] (by decide) rfl
  have hK9 := hK.sub (tys' := [(ci, .int)]) [0] rfl
  exact W.iret (v := 0) hx hb hr (fun t ht hW => ⟨⟨0, (), rfl, rfl, by rw [ht]; exact hP9, va_K.moved hW.alike hK9, hD9⟩, hS.F ht⟩) hS.2.2 dX6_addGuest_101
def v_c_setGu0_3 : List Cond := .code yX6_setGu cX6_setGu 4 none :: ([Cond.fieldLink RX6 9 "HotelOfBellsModel" "row" "[I"] ++ (wsX60 ++ []))
theorem u_c_setGu0_3_X6 : ∀ w ∈ wsX60, w ∈ v_c_setGu0_3 := fun _ h => List.mem_cons_of_mem _ (List.mem_append_right _ (List.mem_append_left _ h))
set_option maxHeartbeats 4000000 in
set_option maxRecDepth 100000 in
theorem c_setGu0_3 (l : Launch) (hl9 : l.stackTraces = false) (dC : Nat → ClassId) (dI : Nat → Nat → Nat) (tE : Nat) (h0 : Nat) (rq : Nat) (sbq : Nat) (th : Int32) (ci : ClassId) (sz : Nat) : Met l yX6_setGu v_c_setGu0_3 ({ frames := 0, cells := 0, slots := 0, locals := 0 }) (va_Pc [.ref h0, .int 0, .int 3, .int 0] (Pre0 dC dI tE sz [(ci, .int)] [(h0, .inr (11, [.int th, .int 1, .int 0, .int 1, .ref rq, .ref sbq])), (rq, .inl (ci, 119, .inl (va_cpy (upd (upd (upd (upd (fun _ => 0) (2 : Int32).toNatClampNeg (-1)) (3 : Int32).toNatClampNeg 0) (4 : Int32).toNatClampNeg 0) (5 : Int32).toNatClampNeg 0) (upd (upd (fun _ => 0) (0 : Int32).toNatClampNeg 3) (2 : Int32).toNatClampNeg 1) (0 : Int32).toNatClampNeg (56 : Int32).toNatClampNeg (6 : Int32).toNatClampNeg)))])) (va_Qv (fun (_ : Unit) => True) (fun _ t => Pst dC dI [(ci, .int)] (va_A [(h0, .inr (11, [.int th, .int 1, .int 0, .int 1, .ref rq, .ref sbq])), (rq, .inl (ci, 119, .inl (va_cpy (upd (upd (upd (upd (fun _ => 0) (2 : Int32).toNatClampNeg (-1)) (3 : Int32).toNatClampNeg 0) (4 : Int32).toNatClampNeg 0) (5 : Int32).toNatClampNeg 0) (upd (upd (fun _ => 0) (0 : Int32).toNatClampNeg 3) (2 : Int32).toNatClampNeg 1) (0 : Int32).toNatClampNeg (56 : Int32).toNatClampNeg (6 : Int32).toNatClampNeg)))] sz) [(h0, .inr (11, [.int th, .int 1, .int 0, .int 1, .ref rq, .ref sbq])), (rq, .inl (ci, 119, .inl (upd (va_cpy (upd (upd (upd (upd (fun _ => 0) (2 : Int32).toNatClampNeg (-1)) (3 : Int32).toNatClampNeg 0) (4 : Int32).toNatClampNeg 0) (5 : Int32).toNatClampNeg 0) (upd (upd (fun _ => 0) (0 : Int32).toNatClampNeg 3) (2 : Int32).toNatClampNeg 1) (0 : Int32).toNatClampNeg (56 : Int32).toNatClampNeg (6 : Int32).toNatClampNeg) (59 : Int32).toNatClampNeg 0)))] t) (va_A [(h0, .inr (11, [.int th, .int 1, .int 0, .int 1, .ref rq, .ref sbq])), (rq, .inl (ci, 119, .inl (va_cpy (upd (upd (upd (upd (fun _ => 0) (2 : Int32).toNatClampNeg (-1)) (3 : Int32).toNatClampNeg 0) (4 : Int32).toNatClampNeg 0) (5 : Int32).toNatClampNeg 0) (upd (upd (fun _ => 0) (0 : Int32).toNatClampNeg 3) (2 : Int32).toNatClampNeg 1) (0 : Int32).toNatClampNeg (56 : Int32).toNatClampNeg (6 : Int32).toNatClampNeg)))] sz)) 0 0 (va_A [(h0, .inr (11, [.int th, .int 1, .int 0, .int 1, .ref rq, .ref sbq])), (rq, .inl (ci, 119, .inl (va_cpy (upd (upd (upd (upd (fun _ => 0) (2 : Int32).toNatClampNeg (-1)) (3 : Int32).toNatClampNeg 0) (4 : Int32).toNatClampNeg 0) (5 : Int32).toNatClampNeg 0) (upd (upd (fun _ => 0) (0 : Int32).toNatClampNeg 3) (2 : Int32).toNatClampNeg 1) (0 : Int32).toNatClampNeg (56 : Int32).toNatClampNeg (6 : Int32).toNatClampNeg)))] sz) := by
  refine Met.ofW (cc := cX6_setGu) (maxL := 4) (ret := none) (by decide) rfl ?_
  intro p e s m args below meth c s₁ B hml hv
  obtain ⟨rfl, hsz, hP, hK, hD0, hT⟩ := hv
  have hx := B.exec
  have hb := B.bytes
  have hr := B.returns
  have hts := atoms_spec (ws := v_c_setGu0_3) B.pre
  have hown : s.vm.findClass RX6 = some m.cls := findClass_of_methodNamed B.named
  have hlocks := B.notSynchronized
  subst hsz
  have hD := hD0.self (sz := s.heap.size)
  generalize hAe : va_A [(h0, .inr (11, [.int th, .int 1, .int 0, .int 1, .ref rq, .ref sbq])), (rq, .inl (ci, 119, .inl (va_cpy (upd (upd (upd (upd (fun _ => 0) (2 : Int32).toNatClampNeg (-1)) (3 : Int32).toNatClampNeg 0) (4 : Int32).toNatClampNeg 0) (5 : Int32).toNatClampNeg 0) (upd (upd (fun _ => 0) (0 : Int32).toNatClampNeg 3) (2 : Int32).toNatClampNeg 1) (0 : Int32).toNatClampNeg (56 : Int32).toNatClampNeg (6 : Int32).toNatClampNeg)))] s.heap.size = A at hD hT ⊢
  have hA : ∀ q : Nat, s.heap.size ≤ q → A q := fun q h => by rw [← hAe]; exact Or.inr h
  have hS : va_S A s.heap s.heap [] := va_S.rf
  have hl := lv_entry ([.ref h0, .int 0, .int 3, .int 0]) (n := 4) (Nat.le_of_ble_eq_true rfl)
  rw [lg_entry_eq]
  generalize (lg_sl ([.ref h0, .int 0, .int 3, .int 0]) ++ List.replicate (4 - (lg_sl ([.ref h0, .int 0, .int 3, .int 0])).length) Slot.unset).toArray = ls at hl ⊢
  have hl : lv_has ls 4 [(0, .ref h0), (1, .int 0), (2, .int 3), (3, .int 0)] := hl
  refine lv_aload_n hx hb dX6_setGu_0 rfl (lv_at hl 0 rfl) ?_
  refine va_get (D := (dC, dI)) (ci := 11) (v := .ref rq) (C := RX6) (T := TX6) (N := 6) hx hb hts u_c_setGu0_3_X6 hown hK hP 0 rfl rfl 4 (by decide) (hts (.fieldLink RX6 9 "HotelOfBellsModel" "row" "[I") (List.mem_of_getElem? (i := 1) rfl)) (fun _ h9 => h9) rfl dX6_setGu_1 ?_
  refine lv_bipush (v := 56) hx hb dX6_setGu_4 (by decide) ?_
  refine lv_bipush (v := 6) hx hb dX6_setGu_6 (by decide) ?_
  refine lv_iload_n hx hb dX6_setGu_8 rfl (lv_at hl 1 rfl) ?_
  refine lv_imul hx hb dX6_setGu_9 ?_
  refine lv_topi (fun x_1 e_2 => ?_)
  obtain rfl : x_1 = 0 := e_2.trans (by decide)
  refine lv_iadd hx hb dX6_setGu_10 ?_
  refine lv_topi (fun x_3 e_4 => ?_)
  obtain rfl : x_3 = 56 := e_4.trans (by decide)
  refine lv_iload_n hx hb dX6_setGu_11 rfl (lv_at hl 2 rfl) ?_
  refine lv_iadd hx hb dX6_setGu_12 ?_
  refine lv_topi (fun x_5 e_6 => ?_)
  obtain rfl : x_5 = 59 := e_6.trans (by decide)
  refine lv_iload_n hx hb dX6_setGu_13 rfl (lv_at hl 3 rfl) ?_
  refine va_iast hx hb hK hP hD hS 1 0 rfl rfl (by unfold vp_in; decide) dX6_setGu_14 (fun H locs hP hD hS => ?_)
  have hP : va_P (dC, dI) vwCl [(h0, .inr (11, [.int th, .int 1, .int 0, .int 1, .ref rq, .ref sbq])), (rq, .inl (ci, 119, .inl (upd (va_cpy (upd (upd (upd (upd (fun _ => 0) (2 : Int32).toNatClampNeg (-1)) (3 : Int32).toNatClampNeg 0) (4 : Int32).toNatClampNeg 0) (5 : Int32).toNatClampNeg 0) (upd (upd (fun _ => 0) (0 : Int32).toNatClampNeg 3) (2 : Int32).toNatClampNeg 1) (0 : Int32).toNatClampNeg (56 : Int32).toNatClampNeg (6 : Int32).toNatClampNeg) (59 : Int32).toNatClampNeg 0)))] H := hP
  have hD : va_D A [(h0, .inr (11, [.int th, .int 1, .int 0, .int 1, .ref rq, .ref sbq])), (rq, .inl (ci, 119, .inl (upd (va_cpy (upd (upd (upd (upd (fun _ => 0) (2 : Int32).toNatClampNeg (-1)) (3 : Int32).toNatClampNeg 0) (4 : Int32).toNatClampNeg 0) (5 : Int32).toNatClampNeg 0) (upd (upd (fun _ => 0) (0 : Int32).toNatClampNeg 3) (2 : Int32).toNatClampNeg 1) (0 : Int32).toNatClampNeg (56 : Int32).toNatClampNeg (6 : Int32).toNatClampNeg) (59 : Int32).toNatClampNeg 0)))] := hD
  have hP9 := hP.sub (ws' := [(h0, .inr (11, [.int th, .int 1, .int 0, .int 1, .ref rq, .ref sbq])), (rq, .inl (ci, 119, .inl (upd (va_cpy (upd (upd (upd (upd (fun _ => 0) (2 : Int32).toNatClampNeg (-1)) (3 : Int32).toNatClampNeg 0) (4 : Int32).toNatClampNeg 0) (5 : Int32).toNatClampNeg 0) (upd (upd (fun _ => 0) (0 : Int32).toNatClampNeg 3) (2 : Int32).toNatClampNeg 1) (0 : Int32).toNatClampNeg (56 : Int32).toNatClampNeg (6 : Int32).toNatClampNeg) (59 : Int32).toNatClampNeg 0)))]) [0, 1] rfl
  have hD9 := hD.sub (ws' := [(h0, .inr (11, [.int th, .int 1, .int 0, .int 1, .ref rq, .ref sbq])), (rq, .inl (ci, 119, .inl (upd (va_cpy (upd (upd (upd (upd (fun _ => 0) (2 : Int32).toNatClampNeg (-1)) (3 : Int32).toNatClampNeg 0) (4 : Int32).toNatClampNeg 0) (5 : Int32).toNatClampNeg 0) (upd (upd (fun _ => 0) (0 : Int32).toNatClampNeg 3) (2 : Int32).toNatClampNeg 1) (0 : Int32).toNatClampNeg (56 : Int32).toNatClampNeg (6 : Int32).toNatClampNeg) (59 : Int32).toNatClampNeg 0)))]) [0, 1] (by decide) rfl
  have hK9 := hK.sub (tys' := [(ci, .int)]) [0] rfl
  exact W.vret hx hb hr (fun t ht hW => ⟨⟨(), rfl, trivial, by rw [ht]; exact hP9, va_K.moved hW.alike hK9, hD9⟩, hS.F ht⟩) hS.2.2 dX6_setGu_15
def v_c_setGu0_4 : List Cond := .code yX6_setGu cX6_setGu 4 none :: ([Cond.fieldLink RX6 9 "HotelOfBellsModel" "row" "[I"] ++ (wsX60 ++ []))
theorem u_c_setGu0_4_X6 : ∀ w ∈ wsX60, w ∈ v_c_setGu0_4 := fun _ h => List.mem_cons_of_mem _ (List.mem_append_right _ (List.mem_append_left _ h))
set_option maxHeartbeats 4000000 in
set_option maxRecDepth 100000 in
theorem c_setGu0_4 (l : Launch) (hl9 : l.stackTraces = false) (dC : Nat → ClassId) (dI : Nat → Nat → Nat) (tE : Nat) (h0 : Nat) (rq : Nat) (sbq : Nat) (th : Int32) (ci : ClassId) (sz : Nat) : Met l yX6_setGu v_c_setGu0_4 ({ frames := 0, cells := 0, slots := 0, locals := 0 }) (va_Pc [.ref h0, .int 0, .int 4, .int 1] (Pre0 dC dI tE sz [(ci, .int)] [(h0, .inr (11, [.int th, .int 1, .int 0, .int 1, .ref rq, .ref sbq])), (rq, .inl (ci, 119, .inl (upd (va_cpy (upd (upd (upd (upd (fun _ => 0) (2 : Int32).toNatClampNeg (-1)) (3 : Int32).toNatClampNeg 0) (4 : Int32).toNatClampNeg 0) (5 : Int32).toNatClampNeg 0) (upd (upd (fun _ => 0) (0 : Int32).toNatClampNeg 3) (2 : Int32).toNatClampNeg 1) (0 : Int32).toNatClampNeg (56 : Int32).toNatClampNeg (6 : Int32).toNatClampNeg) (59 : Int32).toNatClampNeg 0)))])) (va_Qv (fun (_ : Unit) => True) (fun _ t => Pst dC dI [(ci, .int)] (va_A [(h0, .inr (11, [.int th, .int 1, .int 0, .int 1, .ref rq, .ref sbq])), (rq, .inl (ci, 119, .inl (upd (va_cpy (upd (upd (upd (upd (fun _ => 0) (2 : Int32).toNatClampNeg (-1)) (3 : Int32).toNatClampNeg 0) (4 : Int32).toNatClampNeg 0) (5 : Int32).toNatClampNeg 0) (upd (upd (fun _ => 0) (0 : Int32).toNatClampNeg 3) (2 : Int32).toNatClampNeg 1) (0 : Int32).toNatClampNeg (56 : Int32).toNatClampNeg (6 : Int32).toNatClampNeg) (59 : Int32).toNatClampNeg 0)))] sz) [(h0, .inr (11, [.int th, .int 1, .int 0, .int 1, .ref rq, .ref sbq])), (rq, .inl (ci, 119, .inl (upd (upd (va_cpy (upd (upd (upd (upd (fun _ => 0) (2 : Int32).toNatClampNeg (-1)) (3 : Int32).toNatClampNeg 0) (4 : Int32).toNatClampNeg 0) (5 : Int32).toNatClampNeg 0) (upd (upd (fun _ => 0) (0 : Int32).toNatClampNeg 3) (2 : Int32).toNatClampNeg 1) (0 : Int32).toNatClampNeg (56 : Int32).toNatClampNeg (6 : Int32).toNatClampNeg) (59 : Int32).toNatClampNeg 0) (60 : Int32).toNatClampNeg 1)))] t) (va_A [(h0, .inr (11, [.int th, .int 1, .int 0, .int 1, .ref rq, .ref sbq])), (rq, .inl (ci, 119, .inl (upd (va_cpy (upd (upd (upd (upd (fun _ => 0) (2 : Int32).toNatClampNeg (-1)) (3 : Int32).toNatClampNeg 0) (4 : Int32).toNatClampNeg 0) (5 : Int32).toNatClampNeg 0) (upd (upd (fun _ => 0) (0 : Int32).toNatClampNeg 3) (2 : Int32).toNatClampNeg 1) (0 : Int32).toNatClampNeg (56 : Int32).toNatClampNeg (6 : Int32).toNatClampNeg) (59 : Int32).toNatClampNeg 0)))] sz)) 0 0 (va_A [(h0, .inr (11, [.int th, .int 1, .int 0, .int 1, .ref rq, .ref sbq])), (rq, .inl (ci, 119, .inl (upd (va_cpy (upd (upd (upd (upd (fun _ => 0) (2 : Int32).toNatClampNeg (-1)) (3 : Int32).toNatClampNeg 0) (4 : Int32).toNatClampNeg 0) (5 : Int32).toNatClampNeg 0) (upd (upd (fun _ => 0) (0 : Int32).toNatClampNeg 3) (2 : Int32).toNatClampNeg 1) (0 : Int32).toNatClampNeg (56 : Int32).toNatClampNeg (6 : Int32).toNatClampNeg) (59 : Int32).toNatClampNeg 0)))] sz) := by
  refine Met.ofW (cc := cX6_setGu) (maxL := 4) (ret := none) (by decide) rfl ?_
  intro p e s m args below meth c s₁ B hml hv
  obtain ⟨rfl, hsz, hP, hK, hD0, hT⟩ := hv
  have hx := B.exec
  have hb := B.bytes
  have hr := B.returns
  have hts := atoms_spec (ws := v_c_setGu0_4) B.pre
  have hown : s.vm.findClass RX6 = some m.cls := findClass_of_methodNamed B.named
  have hlocks := B.notSynchronized
  subst hsz
  have hD := hD0.self (sz := s.heap.size)
  generalize hAe : va_A [(h0, .inr (11, [.int th, .int 1, .int 0, .int 1, .ref rq, .ref sbq])), (rq, .inl (ci, 119, .inl (upd (va_cpy (upd (upd (upd (upd (fun _ => 0) (2 : Int32).toNatClampNeg (-1)) (3 : Int32).toNatClampNeg 0) (4 : Int32).toNatClampNeg 0) (5 : Int32).toNatClampNeg 0) (upd (upd (fun _ => 0) (0 : Int32).toNatClampNeg 3) (2 : Int32).toNatClampNeg 1) (0 : Int32).toNatClampNeg (56 : Int32).toNatClampNeg (6 : Int32).toNatClampNeg) (59 : Int32).toNatClampNeg 0)))] s.heap.size = A at hD hT ⊢
  have hA : ∀ q : Nat, s.heap.size ≤ q → A q := fun q h => by rw [← hAe]; exact Or.inr h
  have hS : va_S A s.heap s.heap [] := va_S.rf
  have hl := lv_entry ([.ref h0, .int 0, .int 4, .int 1]) (n := 4) (Nat.le_of_ble_eq_true rfl)
  rw [lg_entry_eq]
  generalize (lg_sl ([.ref h0, .int 0, .int 4, .int 1]) ++ List.replicate (4 - (lg_sl ([.ref h0, .int 0, .int 4, .int 1])).length) Slot.unset).toArray = ls at hl ⊢
  have hl : lv_has ls 4 [(0, .ref h0), (1, .int 0), (2, .int 4), (3, .int 1)] := hl
  refine lv_aload_n hx hb dX6_setGu_0 rfl (lv_at hl 0 rfl) ?_
  refine va_get (D := (dC, dI)) (ci := 11) (v := .ref rq) (C := RX6) (T := TX6) (N := 6) hx hb hts u_c_setGu0_4_X6 hown hK hP 0 rfl rfl 4 (by decide) (hts (.fieldLink RX6 9 "HotelOfBellsModel" "row" "[I") (List.mem_of_getElem? (i := 1) rfl)) (fun _ h9 => h9) rfl dX6_setGu_1 ?_
  refine lv_bipush (v := 56) hx hb dX6_setGu_4 (by decide) ?_
  refine lv_bipush (v := 6) hx hb dX6_setGu_6 (by decide) ?_
  refine lv_iload_n hx hb dX6_setGu_8 rfl (lv_at hl 1 rfl) ?_
  refine lv_imul hx hb dX6_setGu_9 ?_
  refine lv_topi (fun x_1 e_2 => ?_)
  obtain rfl : x_1 = 0 := e_2.trans (by decide)
  refine lv_iadd hx hb dX6_setGu_10 ?_
  refine lv_topi (fun x_3 e_4 => ?_)
  obtain rfl : x_3 = 56 := e_4.trans (by decide)
  refine lv_iload_n hx hb dX6_setGu_11 rfl (lv_at hl 2 rfl) ?_
  refine lv_iadd hx hb dX6_setGu_12 ?_
  refine lv_topi (fun x_5 e_6 => ?_)
  obtain rfl : x_5 = 60 := e_6.trans (by decide)
  refine lv_iload_n hx hb dX6_setGu_13 rfl (lv_at hl 3 rfl) ?_
  refine va_iast hx hb hK hP hD hS 1 0 rfl rfl (by unfold vp_in; decide) dX6_setGu_14 (fun H locs hP hD hS => ?_)
  have hP : va_P (dC, dI) vwCl [(h0, .inr (11, [.int th, .int 1, .int 0, .int 1, .ref rq, .ref sbq])), (rq, .inl (ci, 119, .inl (upd (upd (va_cpy (upd (upd (upd (upd (fun _ => 0) (2 : Int32).toNatClampNeg (-1)) (3 : Int32).toNatClampNeg 0) (4 : Int32).toNatClampNeg 0) (5 : Int32).toNatClampNeg 0) (upd (upd (fun _ => 0) (0 : Int32).toNatClampNeg 3) (2 : Int32).toNatClampNeg 1) (0 : Int32).toNatClampNeg (56 : Int32).toNatClampNeg (6 : Int32).toNatClampNeg) (59 : Int32).toNatClampNeg 0) (60 : Int32).toNatClampNeg 1)))] H := hP
  have hD : va_D A [(h0, .inr (11, [.int th, .int 1, .int 0, .int 1, .ref rq, .ref sbq])), (rq, .inl (ci, 119, .inl (upd (upd (va_cpy (upd (upd (upd (upd (fun _ => 0) (2 : Int32).toNatClampNeg (-1)) (3 : Int32).toNatClampNeg 0) (4 : Int32).toNatClampNeg 0) (5 : Int32).toNatClampNeg 0) (upd (upd (fun _ => 0) (0 : Int32).toNatClampNeg 3) (2 : Int32).toNatClampNeg 1) (0 : Int32).toNatClampNeg (56 : Int32).toNatClampNeg (6 : Int32).toNatClampNeg) (59 : Int32).toNatClampNeg 0) (60 : Int32).toNatClampNeg 1)))] := hD
  have hP9 := hP.sub (ws' := [(h0, .inr (11, [.int th, .int 1, .int 0, .int 1, .ref rq, .ref sbq])), (rq, .inl (ci, 119, .inl (upd (upd (va_cpy (upd (upd (upd (upd (fun _ => 0) (2 : Int32).toNatClampNeg (-1)) (3 : Int32).toNatClampNeg 0) (4 : Int32).toNatClampNeg 0) (5 : Int32).toNatClampNeg 0) (upd (upd (fun _ => 0) (0 : Int32).toNatClampNeg 3) (2 : Int32).toNatClampNeg 1) (0 : Int32).toNatClampNeg (56 : Int32).toNatClampNeg (6 : Int32).toNatClampNeg) (59 : Int32).toNatClampNeg 0) (60 : Int32).toNatClampNeg 1)))]) [0, 1] rfl
  have hD9 := hD.sub (ws' := [(h0, .inr (11, [.int th, .int 1, .int 0, .int 1, .ref rq, .ref sbq])), (rq, .inl (ci, 119, .inl (upd (upd (va_cpy (upd (upd (upd (upd (fun _ => 0) (2 : Int32).toNatClampNeg (-1)) (3 : Int32).toNatClampNeg 0) (4 : Int32).toNatClampNeg 0) (5 : Int32).toNatClampNeg 0) (upd (upd (fun _ => 0) (0 : Int32).toNatClampNeg 3) (2 : Int32).toNatClampNeg 1) (0 : Int32).toNatClampNeg (56 : Int32).toNatClampNeg (6 : Int32).toNatClampNeg) (59 : Int32).toNatClampNeg 0) (60 : Int32).toNatClampNeg 1)))]) [0, 1] (by decide) rfl
  have hK9 := hK.sub (tys' := [(ci, .int)]) [0] rfl
  exact W.vret hx hb hr (fun t ht hW => ⟨⟨(), rfl, trivial, by rw [ht]; exact hP9, va_K.moved hW.alike hK9, hD9⟩, hS.F ht⟩) hS.2.2 dX6_setGu_15
def v_c_setGu0_5 : List Cond := .code yX6_setGu cX6_setGu 4 none :: ([Cond.fieldLink RX6 9 "HotelOfBellsModel" "row" "[I"] ++ (wsX60 ++ []))
theorem u_c_setGu0_5_X6 : ∀ w ∈ wsX60, w ∈ v_c_setGu0_5 := fun _ h => List.mem_cons_of_mem _ (List.mem_append_right _ (List.mem_append_left _ h))
set_option maxHeartbeats 4000000 in
set_option maxRecDepth 100000 in
theorem c_setGu0_5 (l : Launch) (hl9 : l.stackTraces = false) (dC : Nat → ClassId) (dI : Nat → Nat → Nat) (tE : Nat) (h0 : Nat) (rq : Nat) (sbq : Nat) (th : Int32) (ci : ClassId) (sz : Nat) : Met l yX6_setGu v_c_setGu0_5 ({ frames := 0, cells := 0, slots := 0, locals := 0 }) (va_Pc [.ref h0, .int 0, .int 5, .int 0] (Pre0 dC dI tE sz [(ci, .int)] [(h0, .inr (11, [.int th, .int 1, .int 0, .int 1, .ref rq, .ref sbq])), (rq, .inl (ci, 119, .inl (upd (upd (va_cpy (upd (upd (upd (upd (fun _ => 0) (2 : Int32).toNatClampNeg (-1)) (3 : Int32).toNatClampNeg 0) (4 : Int32).toNatClampNeg 0) (5 : Int32).toNatClampNeg 0) (upd (upd (fun _ => 0) (0 : Int32).toNatClampNeg 3) (2 : Int32).toNatClampNeg 1) (0 : Int32).toNatClampNeg (56 : Int32).toNatClampNeg (6 : Int32).toNatClampNeg) (59 : Int32).toNatClampNeg 0) (60 : Int32).toNatClampNeg 1)))])) (va_Qv (fun (_ : Unit) => True) (fun _ t => Pst dC dI [(ci, .int)] (va_A [(h0, .inr (11, [.int th, .int 1, .int 0, .int 1, .ref rq, .ref sbq])), (rq, .inl (ci, 119, .inl (upd (upd (va_cpy (upd (upd (upd (upd (fun _ => 0) (2 : Int32).toNatClampNeg (-1)) (3 : Int32).toNatClampNeg 0) (4 : Int32).toNatClampNeg 0) (5 : Int32).toNatClampNeg 0) (upd (upd (fun _ => 0) (0 : Int32).toNatClampNeg 3) (2 : Int32).toNatClampNeg 1) (0 : Int32).toNatClampNeg (56 : Int32).toNatClampNeg (6 : Int32).toNatClampNeg) (59 : Int32).toNatClampNeg 0) (60 : Int32).toNatClampNeg 1)))] sz) [(h0, .inr (11, [.int th, .int 1, .int 0, .int 1, .ref rq, .ref sbq])), (rq, .inl (ci, 119, .inl (upd (upd (upd (va_cpy (upd (upd (upd (upd (fun _ => 0) (2 : Int32).toNatClampNeg (-1)) (3 : Int32).toNatClampNeg 0) (4 : Int32).toNatClampNeg 0) (5 : Int32).toNatClampNeg 0) (upd (upd (fun _ => 0) (0 : Int32).toNatClampNeg 3) (2 : Int32).toNatClampNeg 1) (0 : Int32).toNatClampNeg (56 : Int32).toNatClampNeg (6 : Int32).toNatClampNeg) (59 : Int32).toNatClampNeg 0) (60 : Int32).toNatClampNeg 1) (61 : Int32).toNatClampNeg 0)))] t) (va_A [(h0, .inr (11, [.int th, .int 1, .int 0, .int 1, .ref rq, .ref sbq])), (rq, .inl (ci, 119, .inl (upd (upd (va_cpy (upd (upd (upd (upd (fun _ => 0) (2 : Int32).toNatClampNeg (-1)) (3 : Int32).toNatClampNeg 0) (4 : Int32).toNatClampNeg 0) (5 : Int32).toNatClampNeg 0) (upd (upd (fun _ => 0) (0 : Int32).toNatClampNeg 3) (2 : Int32).toNatClampNeg 1) (0 : Int32).toNatClampNeg (56 : Int32).toNatClampNeg (6 : Int32).toNatClampNeg) (59 : Int32).toNatClampNeg 0) (60 : Int32).toNatClampNeg 1)))] sz)) 0 0 (va_A [(h0, .inr (11, [.int th, .int 1, .int 0, .int 1, .ref rq, .ref sbq])), (rq, .inl (ci, 119, .inl (upd (upd (va_cpy (upd (upd (upd (upd (fun _ => 0) (2 : Int32).toNatClampNeg (-1)) (3 : Int32).toNatClampNeg 0) (4 : Int32).toNatClampNeg 0) (5 : Int32).toNatClampNeg 0) (upd (upd (fun _ => 0) (0 : Int32).toNatClampNeg 3) (2 : Int32).toNatClampNeg 1) (0 : Int32).toNatClampNeg (56 : Int32).toNatClampNeg (6 : Int32).toNatClampNeg) (59 : Int32).toNatClampNeg 0) (60 : Int32).toNatClampNeg 1)))] sz) := by
  refine Met.ofW (cc := cX6_setGu) (maxL := 4) (ret := none) (by decide) rfl ?_
  intro p e s m args below meth c s₁ B hml hv
  obtain ⟨rfl, hsz, hP, hK, hD0, hT⟩ := hv
  have hx := B.exec
  have hb := B.bytes
  have hr := B.returns
  have hts := atoms_spec (ws := v_c_setGu0_5) B.pre
  have hown : s.vm.findClass RX6 = some m.cls := findClass_of_methodNamed B.named
  have hlocks := B.notSynchronized
  subst hsz
  have hD := hD0.self (sz := s.heap.size)
  generalize hAe : va_A [(h0, .inr (11, [.int th, .int 1, .int 0, .int 1, .ref rq, .ref sbq])), (rq, .inl (ci, 119, .inl (upd (upd (va_cpy (upd (upd (upd (upd (fun _ => 0) (2 : Int32).toNatClampNeg (-1)) (3 : Int32).toNatClampNeg 0) (4 : Int32).toNatClampNeg 0) (5 : Int32).toNatClampNeg 0) (upd (upd (fun _ => 0) (0 : Int32).toNatClampNeg 3) (2 : Int32).toNatClampNeg 1) (0 : Int32).toNatClampNeg (56 : Int32).toNatClampNeg (6 : Int32).toNatClampNeg) (59 : Int32).toNatClampNeg 0) (60 : Int32).toNatClampNeg 1)))] s.heap.size = A at hD hT ⊢
  have hA : ∀ q : Nat, s.heap.size ≤ q → A q := fun q h => by rw [← hAe]; exact Or.inr h
  have hS : va_S A s.heap s.heap [] := va_S.rf
  have hl := lv_entry ([.ref h0, .int 0, .int 5, .int 0]) (n := 4) (Nat.le_of_ble_eq_true rfl)
  rw [lg_entry_eq]
  generalize (lg_sl ([.ref h0, .int 0, .int 5, .int 0]) ++ List.replicate (4 - (lg_sl ([.ref h0, .int 0, .int 5, .int 0])).length) Slot.unset).toArray = ls at hl ⊢
  have hl : lv_has ls 4 [(0, .ref h0), (1, .int 0), (2, .int 5), (3, .int 0)] := hl
  refine lv_aload_n hx hb dX6_setGu_0 rfl (lv_at hl 0 rfl) ?_
  refine va_get (D := (dC, dI)) (ci := 11) (v := .ref rq) (C := RX6) (T := TX6) (N := 6) hx hb hts u_c_setGu0_5_X6 hown hK hP 0 rfl rfl 4 (by decide) (hts (.fieldLink RX6 9 "HotelOfBellsModel" "row" "[I") (List.mem_of_getElem? (i := 1) rfl)) (fun _ h9 => h9) rfl dX6_setGu_1 ?_
  refine lv_bipush (v := 56) hx hb dX6_setGu_4 (by decide) ?_
  refine lv_bipush (v := 6) hx hb dX6_setGu_6 (by decide) ?_
  refine lv_iload_n hx hb dX6_setGu_8 rfl (lv_at hl 1 rfl) ?_
  refine lv_imul hx hb dX6_setGu_9 ?_
  refine lv_topi (fun x_1 e_2 => ?_)
  obtain rfl : x_1 = 0 := e_2.trans (by decide)
  refine lv_iadd hx hb dX6_setGu_10 ?_
  refine lv_topi (fun x_3 e_4 => ?_)
  obtain rfl : x_3 = 56 := e_4.trans (by decide)
  refine lv_iload_n hx hb dX6_setGu_11 rfl (lv_at hl 2 rfl) ?_
  refine lv_iadd hx hb dX6_setGu_12 ?_
  refine lv_topi (fun x_5 e_6 => ?_)
  obtain rfl : x_5 = 61 := e_6.trans (by decide)
  refine lv_iload_n hx hb dX6_setGu_13 rfl (lv_at hl 3 rfl) ?_
  refine va_iast hx hb hK hP hD hS 1 0 rfl rfl (by unfold vp_in; decide) dX6_setGu_14 (fun H locs hP hD hS => ?_)
  have hP : va_P (dC, dI) vwCl [(h0, .inr (11, [.int th, .int 1, .int 0, .int 1, .ref rq, .ref sbq])), (rq, .inl (ci, 119, .inl (upd (upd (upd (va_cpy (upd (upd (upd (upd (fun _ => 0) (2 : Int32).toNatClampNeg (-1)) (3 : Int32).toNatClampNeg 0) (4 : Int32).toNatClampNeg 0) (5 : Int32).toNatClampNeg 0) (upd (upd (fun _ => 0) (0 : Int32).toNatClampNeg 3) (2 : Int32).toNatClampNeg 1) (0 : Int32).toNatClampNeg (56 : Int32).toNatClampNeg (6 : Int32).toNatClampNeg) (59 : Int32).toNatClampNeg 0) (60 : Int32).toNatClampNeg 1) (61 : Int32).toNatClampNeg 0)))] H := hP
  have hD : va_D A [(h0, .inr (11, [.int th, .int 1, .int 0, .int 1, .ref rq, .ref sbq])), (rq, .inl (ci, 119, .inl (upd (upd (upd (va_cpy (upd (upd (upd (upd (fun _ => 0) (2 : Int32).toNatClampNeg (-1)) (3 : Int32).toNatClampNeg 0) (4 : Int32).toNatClampNeg 0) (5 : Int32).toNatClampNeg 0) (upd (upd (fun _ => 0) (0 : Int32).toNatClampNeg 3) (2 : Int32).toNatClampNeg 1) (0 : Int32).toNatClampNeg (56 : Int32).toNatClampNeg (6 : Int32).toNatClampNeg) (59 : Int32).toNatClampNeg 0) (60 : Int32).toNatClampNeg 1) (61 : Int32).toNatClampNeg 0)))] := hD
  have hP9 := hP.sub (ws' := [(h0, .inr (11, [.int th, .int 1, .int 0, .int 1, .ref rq, .ref sbq])), (rq, .inl (ci, 119, .inl (upd (upd (upd (va_cpy (upd (upd (upd (upd (fun _ => 0) (2 : Int32).toNatClampNeg (-1)) (3 : Int32).toNatClampNeg 0) (4 : Int32).toNatClampNeg 0) (5 : Int32).toNatClampNeg 0) (upd (upd (fun _ => 0) (0 : Int32).toNatClampNeg 3) (2 : Int32).toNatClampNeg 1) (0 : Int32).toNatClampNeg (56 : Int32).toNatClampNeg (6 : Int32).toNatClampNeg) (59 : Int32).toNatClampNeg 0) (60 : Int32).toNatClampNeg 1) (61 : Int32).toNatClampNeg 0)))]) [0, 1] rfl
  have hD9 := hD.sub (ws' := [(h0, .inr (11, [.int th, .int 1, .int 0, .int 1, .ref rq, .ref sbq])), (rq, .inl (ci, 119, .inl (upd (upd (upd (va_cpy (upd (upd (upd (upd (fun _ => 0) (2 : Int32).toNatClampNeg (-1)) (3 : Int32).toNatClampNeg 0) (4 : Int32).toNatClampNeg 0) (5 : Int32).toNatClampNeg 0) (upd (upd (fun _ => 0) (0 : Int32).toNatClampNeg 3) (2 : Int32).toNatClampNeg 1) (0 : Int32).toNatClampNeg (56 : Int32).toNatClampNeg (6 : Int32).toNatClampNeg) (59 : Int32).toNatClampNeg 0) (60 : Int32).toNatClampNeg 1) (61 : Int32).toNatClampNeg 0)))]) [0, 1] (by decide) rfl
  have hK9 := hK.sub (tys' := [(ci, .int)]) [0] rfl
  exact W.vret hx hb hr (fun t ht hW => ⟨⟨(), rfl, trivial, by rw [ht]; exact hP9, va_K.moved hW.alike hK9, hD9⟩, hS.F ht⟩) hS.2.2 dX6_setGu_15
def v_c_isFloor2 : List Cond := .code yX6_isFloor cX6_isFloor 2 (some .boolean) :: ([Cond.fieldLink RX6 24 "HotelOfBellsModel" "floors" "I", Cond.code yX6_isIn cX6_isIn 3 (some .boolean), Cond.methodLink RX6 27 yX6_isIn, Cond.static yX6_isIn, Cond.initialized RX6] ++ (wsX60 ++ []))
theorem u_c_isFloor2_X6 : ∀ w ∈ wsX60, w ∈ v_c_isFloor2 := fun _ h => List.mem_cons_of_mem _ (List.mem_append_right _ (List.mem_append_left _ h))
theorem gg_c_isFloor2_c_isIn_0_0_0 : GoodIn v_c_isFloor2 v_c_isIn_0_0_0 := goodIn_r _ [2] (by rfl) (by decide +kernel)
set_option maxHeartbeats 4000000 in
set_option maxRecDepth 100000 in
theorem c_isFloor2 (l : Launch) (hl9 : l.stackTraces = false) (dC : Nat → ClassId) (dI : Nat → Nat → Nat) (tE : Nat) (h0 : Nat) (rq : Nat) (sbq : Nat) (th : Int32) (sz : Nat) : Met l yX6_isFloor v_c_isFloor2 ({ frames := 1, cells := 0, slots := 0, locals := 22 }) (va_Pc [.ref h0, .int 0] (Pre0 dC dI tE sz [] [(h0, .inr (11, [.int th, .int 1, .int 0, .int 1, .ref rq, .ref sbq]))])) (va_Qi (fun (r : Int32) (_ : Unit) => r = 1) (fun _ t => Pst dC dI [] (va_A [(h0, .inr (11, [.int th, .int 1, .int 0, .int 1, .ref rq, .ref sbq]))] sz) [(h0, .inr (11, [.int th, .int 1, .int 0, .int 1, .ref rq, .ref sbq]))] t) (va_A [(h0, .inr (11, [.int th, .int 1, .int 0, .int 1, .ref rq, .ref sbq]))] sz)) 0 0 (va_A [(h0, .inr (11, [.int th, .int 1, .int 0, .int 1, .ref rq, .ref sbq]))] sz) := by
  refine Met.ofW (cc := cX6_isFloor) (maxL := 2) (ret := (some .boolean)) (by decide) rfl ?_
  intro p e s m args below meth c s₁ B hml hv
  obtain ⟨rfl, hsz, hP, hK, hD0, hT⟩ := hv
  have hx := B.exec
  have hb := B.bytes
  have hr := B.returns
  have hts := atoms_spec (ws := v_c_isFloor2) B.pre
  have hown : s.vm.findClass RX6 = some m.cls := findClass_of_methodNamed B.named
  have hlocks := B.notSynchronized
  subst hsz
  have hD := hD0.self (sz := s.heap.size)
  generalize hAe : va_A [(h0, .inr (11, [.int th, .int 1, .int 0, .int 1, .ref rq, .ref sbq]))] s.heap.size = A at hD hT ⊢
  have hA : ∀ q : Nat, s.heap.size ≤ q → A q := fun q h => by rw [← hAe]; exact Or.inr h
  have hS : va_S A s.heap s.heap [] := va_S.rf
  have hl := lv_entry ([.ref h0, .int 0]) (n := 2) (Nat.le_of_ble_eq_true rfl)
  rw [lg_entry_eq]
  generalize (lg_sl ([.ref h0, .int 0]) ++ List.replicate (2 - (lg_sl ([.ref h0, .int 0])).length) Slot.unset).toArray = ls at hl ⊢
  have hl : lv_has ls 2 [(0, .ref h0), (1, .int 0)] := hl
  refine lv_iload_n hx hb dX6_isFloor_0 rfl (lv_at hl 1 rfl) ?_
  refine lv_iconst (v := 0) hx hb dX6_isFloor_1 (by decide) ?_
  refine lv_aload_n hx hb dX6_isFloor_2 rfl (lv_at hl 0 rfl) ?_
  refine va_get (D := (dC, dI)) (ci := 11) (v := .int 1) (C := RX6) (T := TX6) (N := 6) hx hb hts u_c_isFloor2_X6 hown hK hP 0 rfl rfl 1 (by decide) (hts (.fieldLink RX6 24 "HotelOfBellsModel" "floors" "I") (List.mem_of_getElem? (i := 1) rfl)) (fun _ h9 => h9) rfl dX6_isFloor_3 ?_
  refine lv_iconst (v := 1) hx hb dX6_isFloor_6 (by decide) ?_
  refine lv_isub hx hb dX6_isFloor_7 ?_
  refine lv_topi (fun x_1 e_2 => ?_)
  obtain rfl : x_1 = 0 := e_2.trans (by decide)
  have hPc := hP.sub (ws' := []) [] rfl
  have hDc := hD.sub (ws' := []) [] (by decide) rfl
  have hKc := hK.sub (tys' := []) [] rfl
  have hFc := va_free (wc := []) hD hS hA [] rfl
  refine va_calli (va_runS (As := [.int 0, .int 0, .int 0]) (rest := []) ⟨hx, hb, hml, hown, hts⟩ (c_isIn_0_0_0 l hl9 dC dI tE  _ ) (va_cwS 3 hts (goodIn_app (goodIn_r _ [3, 4, 5] (by rfl) (by decide +kernel)) gg_c_isFloor2_c_isIn_0_0_0) rfl rfl rfl (by decide +kernel) ⟨Nat.le_of_ble_eq_true rfl, Nat.le_of_ble_eq_true rfl⟩) ⟨Pre0.blind, Pre0.give hPc hKc hDc hT hS hFc⟩ rfl rfl hl.1 rfl (lv_room (Nat.le_of_ble_eq_true rfl)) dX6_isFloor_8 ⟨Nat.le_of_ble_eq_true rfl, Nat.le_of_ble_eq_true rfl⟩) hS (fun q _ h => hFc q h) hFc (fun r_3 u t H1 locs ht hvm hw hB hz1 hk1 hS => ?_)
  obtain ⟨hP1, hK1, hD1⟩ := hB
  rw [ht] at hP1
  have hK1 := va_K.moved hvm.symm hK1
  obtain ⟨hP, hD⟩ := va_join (wr := [(h0, .inr (11, [.int th, .int 1, .int 0, .int 1, .ref rq, .ref sbq]))]) (w1 := []) hP hD [] [0] rfl rfl (by decide) (by decide) hk1 hFc hP1 hD1
  generalize H1 = H at hP hS ⊢
  have hP : va_P (dC, dI) vwCl [(h0, .inr (11, [.int th, .int 1, .int 0, .int 1, .ref rq, .ref sbq]))] H := hP
  have hD : va_D A [(h0, .inr (11, [.int th, .int 1, .int 0, .int 1, .ref rq, .ref sbq]))] := hD
  refine W.widen (k := 0) (n := 0) (by omega) (by omega) ?_
  obtain rfl : r_3 = 1 := hw
  have hP9 := hP.sub (ws' := [(h0, .inr (11, [.int th, .int 1, .int 0, .int 1, .ref rq, .ref sbq]))]) [0] rfl
  have hD9 := hD.sub (ws' := [(h0, .inr (11, [.int th, .int 1, .int 0, .int 1, .ref rq, .ref sbq]))]) [0] (by decide) rfl
  have hK9 := hK.sub (tys' := []) [] rfl
  exact W.zret (v := 1) hx hb hr (by decide) (fun t ht hW => ⟨⟨1, (), rfl, rfl, by rw [ht]; exact hP9, va_K.moved hW.alike hK9, hD9⟩, hS.F ht⟩) hS.2.2 dX6_isFloor_11
def v_c_fl2_0 : List Cond := .code yX6_fl cX6_fl 3 (some .int) :: ([Cond.fieldLink RX6 9 "HotelOfBellsModel" "row" "[I"] ++ (wsX60 ++ []))
theorem u_c_fl2_0_X6 : ∀ w ∈ wsX60, w ∈ v_c_fl2_0 := fun _ h => List.mem_cons_of_mem _ (List.mem_append_right _ (List.mem_append_left _ h))
set_option maxHeartbeats 4000000 in
set_option maxRecDepth 100000 in
theorem c_fl2_0 (l : Launch) (hl9 : l.stackTraces = false) (dC : Nat → ClassId) (dI : Nat → Nat → Nat) (tE : Nat) (h0 : Nat) (rq : Nat) (sbq : Nat) (th : Int32) (ci : ClassId) (sz : Nat) : Met l yX6_fl v_c_fl2_0 ({ frames := 0, cells := 0, slots := 0, locals := 0 }) (va_Pc [.ref h0, .int 0, .int 0] (Pre0 dC dI tE sz [(ci, .int)] [(h0, .inr (11, [.int th, .int 1, .int 0, .int 1, .ref rq, .ref sbq])), (rq, .inl (ci, 119, .inl (va_cpy (upd (upd (upd (upd (fun _ => 0) (2 : Int32).toNatClampNeg (-1)) (3 : Int32).toNatClampNeg 0) (4 : Int32).toNatClampNeg 0) (5 : Int32).toNatClampNeg 0) (upd (upd (fun _ => 0) (0 : Int32).toNatClampNeg 3) (2 : Int32).toNatClampNeg 1) (0 : Int32).toNatClampNeg (56 : Int32).toNatClampNeg (6 : Int32).toNatClampNeg)))])) (va_Qi (fun (r : Int32) (_ : Unit) => r = 3) (fun _ t => Pst dC dI [(ci, .int)] (va_A [(h0, .inr (11, [.int th, .int 1, .int 0, .int 1, .ref rq, .ref sbq])), (rq, .inl (ci, 119, .inl (va_cpy (upd (upd (upd (upd (fun _ => 0) (2 : Int32).toNatClampNeg (-1)) (3 : Int32).toNatClampNeg 0) (4 : Int32).toNatClampNeg 0) (5 : Int32).toNatClampNeg 0) (upd (upd (fun _ => 0) (0 : Int32).toNatClampNeg 3) (2 : Int32).toNatClampNeg 1) (0 : Int32).toNatClampNeg (56 : Int32).toNatClampNeg (6 : Int32).toNatClampNeg)))] sz) [(h0, .inr (11, [.int th, .int 1, .int 0, .int 1, .ref rq, .ref sbq])), (rq, .inl (ci, 119, .inl (va_cpy (upd (upd (upd (upd (fun _ => 0) (2 : Int32).toNatClampNeg (-1)) (3 : Int32).toNatClampNeg 0) (4 : Int32).toNatClampNeg 0) (5 : Int32).toNatClampNeg 0) (upd (upd (fun _ => 0) (0 : Int32).toNatClampNeg 3) (2 : Int32).toNatClampNeg 1) (0 : Int32).toNatClampNeg (56 : Int32).toNatClampNeg (6 : Int32).toNatClampNeg)))] t) (va_A [(h0, .inr (11, [.int th, .int 1, .int 0, .int 1, .ref rq, .ref sbq])), (rq, .inl (ci, 119, .inl (va_cpy (upd (upd (upd (upd (fun _ => 0) (2 : Int32).toNatClampNeg (-1)) (3 : Int32).toNatClampNeg 0) (4 : Int32).toNatClampNeg 0) (5 : Int32).toNatClampNeg 0) (upd (upd (fun _ => 0) (0 : Int32).toNatClampNeg 3) (2 : Int32).toNatClampNeg 1) (0 : Int32).toNatClampNeg (56 : Int32).toNatClampNeg (6 : Int32).toNatClampNeg)))] sz)) 0 0 (va_A [(h0, .inr (11, [.int th, .int 1, .int 0, .int 1, .ref rq, .ref sbq])), (rq, .inl (ci, 119, .inl (va_cpy (upd (upd (upd (upd (fun _ => 0) (2 : Int32).toNatClampNeg (-1)) (3 : Int32).toNatClampNeg 0) (4 : Int32).toNatClampNeg 0) (5 : Int32).toNatClampNeg 0) (upd (upd (fun _ => 0) (0 : Int32).toNatClampNeg 3) (2 : Int32).toNatClampNeg 1) (0 : Int32).toNatClampNeg (56 : Int32).toNatClampNeg (6 : Int32).toNatClampNeg)))] sz) := by
  refine Met.ofW (cc := cX6_fl) (maxL := 3) (ret := (some .int)) (by decide) rfl ?_
  intro p e s m args below meth c s₁ B hml hv
  obtain ⟨rfl, hsz, hP, hK, hD0, hT⟩ := hv
  have hx := B.exec
  have hb := B.bytes
  have hr := B.returns
  have hts := atoms_spec (ws := v_c_fl2_0) B.pre
  have hown : s.vm.findClass RX6 = some m.cls := findClass_of_methodNamed B.named
  have hlocks := B.notSynchronized
  subst hsz
  have hD := hD0.self (sz := s.heap.size)
  generalize hAe : va_A [(h0, .inr (11, [.int th, .int 1, .int 0, .int 1, .ref rq, .ref sbq])), (rq, .inl (ci, 119, .inl (va_cpy (upd (upd (upd (upd (fun _ => 0) (2 : Int32).toNatClampNeg (-1)) (3 : Int32).toNatClampNeg 0) (4 : Int32).toNatClampNeg 0) (5 : Int32).toNatClampNeg 0) (upd (upd (fun _ => 0) (0 : Int32).toNatClampNeg 3) (2 : Int32).toNatClampNeg 1) (0 : Int32).toNatClampNeg (56 : Int32).toNatClampNeg (6 : Int32).toNatClampNeg)))] s.heap.size = A at hD hT ⊢
  have hA : ∀ q : Nat, s.heap.size ≤ q → A q := fun q h => by rw [← hAe]; exact Or.inr h
  have hS : va_S A s.heap s.heap [] := va_S.rf
  have hl := lv_entry ([.ref h0, .int 0, .int 0]) (n := 3) (Nat.le_of_ble_eq_true rfl)
  rw [lg_entry_eq]
  generalize (lg_sl ([.ref h0, .int 0, .int 0]) ++ List.replicate (3 - (lg_sl ([.ref h0, .int 0, .int 0])).length) Slot.unset).toArray = ls at hl ⊢
  have hl : lv_has ls 3 [(0, .ref h0), (1, .int 0), (2, .int 0)] := hl
  refine lv_aload_n hx hb dX6_fl_0 rfl (lv_at hl 0 rfl) ?_
  refine va_get (D := (dC, dI)) (ci := 11) (v := .ref rq) (C := RX6) (T := TX6) (N := 6) hx hb hts u_c_fl2_0_X6 hown hK hP 0 rfl rfl 4 (by decide) (hts (.fieldLink RX6 9 "HotelOfBellsModel" "row" "[I") (List.mem_of_getElem? (i := 1) rfl)) (fun _ h9 => h9) rfl dX6_fl_1 ?_
  refine lv_iconst (v := 4) hx hb dX6_fl_4 (by decide) ?_
  refine lv_iload_n hx hb dX6_fl_5 rfl (lv_at hl 1 rfl) ?_
  refine lv_imul hx hb dX6_fl_6 ?_
  refine lv_topi (fun x_1 e_2 => ?_)
  obtain rfl : x_1 = 0 := e_2.trans (by decide)
  refine lv_iload_n hx hb dX6_fl_7 rfl (lv_at hl 2 rfl) ?_
  refine lv_iadd hx hb dX6_fl_8 ?_
  refine lv_topi (fun x_3 e_4 => ?_)
  obtain rfl : x_3 = 0 := e_4.trans (by decide)
  refine va_iald hx hb hK hP 1 0 rfl rfl (by unfold vp_in; decide) dX6_fl_9 ?_
  refine lv_topi (fun x_5 e_6 => ?_)
  obtain rfl : x_5 = 3 := e_6.trans (by decide +kernel)
  have hP9 := hP.sub (ws' := [(h0, .inr (11, [.int th, .int 1, .int 0, .int 1, .ref rq, .ref sbq])), (rq, .inl (ci, 119, .inl (va_cpy (upd (upd (upd (upd (fun _ => 0) (2 : Int32).toNatClampNeg (-1)) (3 : Int32).toNatClampNeg 0) (4 : Int32).toNatClampNeg 0) (5 : Int32).toNatClampNeg 0) (upd (upd (fun _ => 0) (0 : Int32).toNatClampNeg 3) (2 : Int32).toNatClampNeg 1) (0 : Int32).toNatClampNeg (56 : Int32).toNatClampNeg (6 : Int32).toNatClampNeg)))]) [0, 1] rfl
  have hD9 := hD.sub (ws' := [(h0, .inr (11, [.int th, .int 1, .int 0, .int 1, .ref rq, .ref sbq])), (rq, .inl (ci, 119, .inl (va_cpy (upd (upd (upd (upd (fun _ => 0) (2 : Int32).toNatClampNeg (-1)) (3 : Int32).toNatClampNeg 0) (4 : Int32).toNatClampNeg 0) (5 : Int32).toNatClampNeg 0) (upd (upd (fun _ => 0) (0 : Int32).toNatClampNeg 3) (2 : Int32).toNatClampNeg 1) (0 : Int32).toNatClampNeg (56 : Int32).toNatClampNeg (6 : Int32).toNatClampNeg)))]) [0, 1] (by decide) rfl
  have hK9 := hK.sub (tys' := [(ci, .int)]) [0] rfl
  exact W.iret (v := 3) hx hb hr (fun t ht hW => ⟨⟨3, (), rfl, rfl, by rw [ht]; exact hP9, va_K.moved hW.alike hK9, hD9⟩, hS.F ht⟩) hS.2.2 dX6_fl_10
def v_c_isRoom2 : List Cond := .code yX6_isRoom cX6_isRoom 3 (some .boolean) :: ([Cond.code yX6_isFloor cX6_isFloor 2 (some .boolean), Cond.fieldLink RX6 24 "HotelOfBellsModel" "floors" "I", Cond.code yX6_isIn cX6_isIn 3 (some .boolean), Cond.methodLink RX6 27 yX6_isIn, Cond.static yX6_isIn, Cond.initialized RX6, Cond.methodLink RX6 37 yX6_isFloor, Cond.instanceMethod yX6_isFloor, Cond.selects RX6 yX6_isFloor yX6_isFloor, Cond.code yX6_fl cX6_fl 3 (some .int), Cond.fieldLink RX6 9 "HotelOfBellsModel" "row" "[I", Cond.methodLink RX6 41 yX6_fl, Cond.instanceMethod yX6_fl, Cond.selects RX6 yX6_fl yX6_fl] ++ (wsX60 ++ []))
theorem u_c_isRoom2_X6 : ∀ w ∈ wsX60, w ∈ v_c_isRoom2 := fun _ h => List.mem_cons_of_mem _ (List.mem_append_right _ (List.mem_append_left _ h))
theorem gg_c_isRoom2_c_isFloor2 : GoodIn v_c_isRoom2 v_c_isFloor2 := goodIn_r _ [1, 2, 3, 4, 5, 6, 15, 16, 17, 18, 19, 20] (by rfl) (by decide +kernel)
theorem gg_c_isRoom2_c_fl2_0 : GoodIn v_c_isRoom2 v_c_fl2_0 := goodIn_r _ [10, 11, 15, 16, 17, 18, 19, 20] (by rfl) (by decide +kernel)
theorem gg_c_isRoom2_c_isIn_1_0_2 : GoodIn v_c_isRoom2 v_c_isIn_1_0_2 := goodIn_r _ [3] (by rfl) (by decide +kernel)
set_option maxHeartbeats 4000000 in
set_option maxRecDepth 100000 in
theorem c_isRoom2 (l : Launch) (hl9 : l.stackTraces = false) (dC : Nat → ClassId) (dI : Nat → Nat → Nat) (tE : Nat) (h0 : Nat) (rq : Nat) (sbq : Nat) (th : Int32) (ci : ClassId) (sz : Nat) : Met l yX6_isRoom v_c_isRoom2 ({ frames := 2, cells := 0, slots := 0, locals := 43 }) (va_Pc [.ref h0, .int 0, .int 1] (Pre0 dC dI tE sz [(ci, .int)] [(h0, .inr (11, [.int th, .int 1, .int 0, .int 1, .ref rq, .ref sbq])), (rq, .inl (ci, 119, .inl (va_cpy (upd (upd (upd (upd (fun _ => 0) (2 : Int32).toNatClampNeg (-1)) (3 : Int32).toNatClampNeg 0) (4 : Int32).toNatClampNeg 0) (5 : Int32).toNatClampNeg 0) (upd (upd (fun _ => 0) (0 : Int32).toNatClampNeg 3) (2 : Int32).toNatClampNeg 1) (0 : Int32).toNatClampNeg (56 : Int32).toNatClampNeg (6 : Int32).toNatClampNeg)))])) (va_Qi (fun (r : Int32) (_ : Unit) => r = 1) (fun _ t => Pst dC dI [(ci, .int)] (va_A [(h0, .inr (11, [.int th, .int 1, .int 0, .int 1, .ref rq, .ref sbq])), (rq, .inl (ci, 119, .inl (va_cpy (upd (upd (upd (upd (fun _ => 0) (2 : Int32).toNatClampNeg (-1)) (3 : Int32).toNatClampNeg 0) (4 : Int32).toNatClampNeg 0) (5 : Int32).toNatClampNeg 0) (upd (upd (fun _ => 0) (0 : Int32).toNatClampNeg 3) (2 : Int32).toNatClampNeg 1) (0 : Int32).toNatClampNeg (56 : Int32).toNatClampNeg (6 : Int32).toNatClampNeg)))] sz) [(h0, .inr (11, [.int th, .int 1, .int 0, .int 1, .ref rq, .ref sbq])), (rq, .inl (ci, 119, .inl (va_cpy (upd (upd (upd (upd (fun _ => 0) (2 : Int32).toNatClampNeg (-1)) (3 : Int32).toNatClampNeg 0) (4 : Int32).toNatClampNeg 0) (5 : Int32).toNatClampNeg 0) (upd (upd (fun _ => 0) (0 : Int32).toNatClampNeg 3) (2 : Int32).toNatClampNeg 1) (0 : Int32).toNatClampNeg (56 : Int32).toNatClampNeg (6 : Int32).toNatClampNeg)))] t) (va_A [(h0, .inr (11, [.int th, .int 1, .int 0, .int 1, .ref rq, .ref sbq])), (rq, .inl (ci, 119, .inl (va_cpy (upd (upd (upd (upd (fun _ => 0) (2 : Int32).toNatClampNeg (-1)) (3 : Int32).toNatClampNeg 0) (4 : Int32).toNatClampNeg 0) (5 : Int32).toNatClampNeg 0) (upd (upd (fun _ => 0) (0 : Int32).toNatClampNeg 3) (2 : Int32).toNatClampNeg 1) (0 : Int32).toNatClampNeg (56 : Int32).toNatClampNeg (6 : Int32).toNatClampNeg)))] sz)) 0 0 (va_A [(h0, .inr (11, [.int th, .int 1, .int 0, .int 1, .ref rq, .ref sbq])), (rq, .inl (ci, 119, .inl (va_cpy (upd (upd (upd (upd (fun _ => 0) (2 : Int32).toNatClampNeg (-1)) (3 : Int32).toNatClampNeg 0) (4 : Int32).toNatClampNeg 0) (5 : Int32).toNatClampNeg 0) (upd (upd (fun _ => 0) (0 : Int32).toNatClampNeg 3) (2 : Int32).toNatClampNeg 1) (0 : Int32).toNatClampNeg (56 : Int32).toNatClampNeg (6 : Int32).toNatClampNeg)))] sz) := by
  refine Met.ofW (cc := cX6_isRoom) (maxL := 3) (ret := (some .boolean)) (by decide) rfl ?_
  intro p e s m args below meth c s₁ B hml hv
  obtain ⟨rfl, hsz, hP, hK, hD0, hT⟩ := hv
  have hx := B.exec
  have hb := B.bytes
  have hr := B.returns
  have hts := atoms_spec (ws := v_c_isRoom2) B.pre
  have hown : s.vm.findClass RX6 = some m.cls := findClass_of_methodNamed B.named
  have hlocks := B.notSynchronized
  subst hsz
  have hD := hD0.self (sz := s.heap.size)
  generalize hAe : va_A [(h0, .inr (11, [.int th, .int 1, .int 0, .int 1, .ref rq, .ref sbq])), (rq, .inl (ci, 119, .inl (va_cpy (upd (upd (upd (upd (fun _ => 0) (2 : Int32).toNatClampNeg (-1)) (3 : Int32).toNatClampNeg 0) (4 : Int32).toNatClampNeg 0) (5 : Int32).toNatClampNeg 0) (upd (upd (fun _ => 0) (0 : Int32).toNatClampNeg 3) (2 : Int32).toNatClampNeg 1) (0 : Int32).toNatClampNeg (56 : Int32).toNatClampNeg (6 : Int32).toNatClampNeg)))] s.heap.size = A at hD hT ⊢
  have hA : ∀ q : Nat, s.heap.size ≤ q → A q := fun q h => by rw [← hAe]; exact Or.inr h
  have hS : va_S A s.heap s.heap [] := va_S.rf
  have hl := lv_entry ([.ref h0, .int 0, .int 1]) (n := 3) (Nat.le_of_ble_eq_true rfl)
  rw [lg_entry_eq]
  generalize (lg_sl ([.ref h0, .int 0, .int 1]) ++ List.replicate (3 - (lg_sl ([.ref h0, .int 0, .int 1])).length) Slot.unset).toArray = ls at hl ⊢
  have hl : lv_has ls 3 [(0, .ref h0), (1, .int 0), (2, .int 1)] := hl
  refine lv_aload_n hx hb dX6_isRoom_0 rfl (lv_at hl 0 rfl) ?_
  refine lv_iload_n hx hb dX6_isRoom_1 rfl (lv_at hl 1 rfl) ?_
  have hPc := hP.sub (ws' := [(h0, .inr (11, [.int th, .int 1, .int 0, .int 1, .ref rq, .ref sbq]))]) [0] rfl
  have hDc := hD.sub (ws' := [(h0, .inr (11, [.int th, .int 1, .int 0, .int 1, .ref rq, .ref sbq]))]) [0] (by decide) rfl
  have hKc := hK.sub (tys' := []) [] rfl
  have hFc := va_free (wc := [(h0, .inr (11, [.int th, .int 1, .int 0, .int 1, .ref rq, .ref sbq]))]) hD hS hA [0] rfl
  refine va_calli (va_runV (As := [.int 0]) (rest := []) ⟨hx, hb, hml, hown, hts⟩ (c_isFloor2 l hl9 dC dI tE h0 rq sbq th _ ) (cwV 1 hts (goodIn_app (goodIn_r _ [7, 8, 9, 6] (by rfl) (by decide +kernel)) gg_c_isRoom2_c_isFloor2) rfl rfl rfl (by decide +kernel) ⟨Nat.le_of_ble_eq_true rfl, Nat.le_of_ble_eq_true rfl⟩) ⟨Pre0.blind, va_recv hKc hPc (ci := 11) (q0 := 0) rfl rfl, Pre0.give hPc hKc hDc hT hS hFc⟩ rfl rfl hl.1 rfl (lv_room (Nat.le_of_ble_eq_true rfl)) dX6_isRoom_2 ⟨Nat.le_of_ble_eq_true rfl, Nat.le_of_ble_eq_true rfl⟩) hS (fun q _ h => hFc q h) hFc (fun r_1 u t H1 locs ht hvm hw hB hz1 hk1 hS => ?_)
  obtain ⟨hP1, hK1, hD1⟩ := hB
  rw [ht] at hP1
  have hK1 := va_K.moved hvm.symm hK1
  obtain ⟨hP, hD⟩ := va_join (wr := [(rq, .inl (ci, 119, .inl (va_cpy (upd (upd (upd (upd (fun _ => 0) (2 : Int32).toNatClampNeg (-1)) (3 : Int32).toNatClampNeg 0) (4 : Int32).toNatClampNeg 0) (5 : Int32).toNatClampNeg 0) (upd (upd (fun _ => 0) (0 : Int32).toNatClampNeg 3) (2 : Int32).toNatClampNeg 1) (0 : Int32).toNatClampNeg (56 : Int32).toNatClampNeg (6 : Int32).toNatClampNeg)))]) (w1 := [(h0, .inr (11, [.int th, .int 1, .int 0, .int 1, .ref rq, .ref sbq]))]) hP hD [0] [1] rfl rfl (by decide) (by decide) hk1 hFc hP1 hD1
  generalize H1 = H at hP hS ⊢
  have hP : va_P (dC, dI) vwCl [(rq, .inl (ci, 119, .inl (va_cpy (upd (upd (upd (upd (fun _ => 0) (2 : Int32).toNatClampNeg (-1)) (3 : Int32).toNatClampNeg 0) (4 : Int32).toNatClampNeg 0) (5 : Int32).toNatClampNeg 0) (upd (upd (fun _ => 0) (0 : Int32).toNatClampNeg 3) (2 : Int32).toNatClampNeg 1) (0 : Int32).toNatClampNeg (56 : Int32).toNatClampNeg (6 : Int32).toNatClampNeg))), (h0, .inr (11, [.int th, .int 1, .int 0, .int 1, .ref rq, .ref sbq]))] H := hP
  have hD : va_D A [(rq, .inl (ci, 119, .inl (va_cpy (upd (upd (upd (upd (fun _ => 0) (2 : Int32).toNatClampNeg (-1)) (3 : Int32).toNatClampNeg 0) (4 : Int32).toNatClampNeg 0) (5 : Int32).toNatClampNeg 0) (upd (upd (fun _ => 0) (0 : Int32).toNatClampNeg 3) (2 : Int32).toNatClampNeg 1) (0 : Int32).toNatClampNeg (56 : Int32).toNatClampNeg (6 : Int32).toNatClampNeg))), (h0, .inr (11, [.int th, .int 1, .int 0, .int 1, .ref rq, .ref sbq]))] := hD
  refine W.widen (k := 0) (n := 0) (by omega) (by omega) ?_
  obtain rfl : r_1 = 1 := hw
  refine lv_if_eq (tgt := 28) hx hb dX6_isRoom_5 (by decide) (fun c_2 => absurd c_2 (by decide)) (fun _ => ?_)
  refine lv_iload_n hx hb dX6_isRoom_8 rfl (lv_at hl 2 rfl) ?_
  refine lv_iconst (v := 0) hx hb dX6_isRoom_9 (by decide) ?_
  refine lv_aload_n hx hb dX6_isRoom_10 rfl (lv_at hl 0 rfl) ?_
  refine lv_iload_n hx hb dX6_isRoom_11 rfl (lv_at hl 1 rfl) ?_
  refine lv_iconst (v := 0) hx hb dX6_isRoom_12 (by decide) ?_
  have hPc := hP.sub (ws' := [(h0, .inr (11, [.int th, .int 1, .int 0, .int 1, .ref rq, .ref sbq])), (rq, .inl (ci, 119, .inl (va_cpy (upd (upd (upd (upd (fun _ => 0) (2 : Int32).toNatClampNeg (-1)) (3 : Int32).toNatClampNeg 0) (4 : Int32).toNatClampNeg 0) (5 : Int32).toNatClampNeg 0) (upd (upd (fun _ => 0) (0 : Int32).toNatClampNeg 3) (2 : Int32).toNatClampNeg 1) (0 : Int32).toNatClampNeg (56 : Int32).toNatClampNeg (6 : Int32).toNatClampNeg)))]) [1, 0] rfl
  have hDc := hD.sub (ws' := [(h0, .inr (11, [.int th, .int 1, .int 0, .int 1, .ref rq, .ref sbq])), (rq, .inl (ci, 119, .inl (va_cpy (upd (upd (upd (upd (fun _ => 0) (2 : Int32).toNatClampNeg (-1)) (3 : Int32).toNatClampNeg 0) (4 : Int32).toNatClampNeg 0) (5 : Int32).toNatClampNeg 0) (upd (upd (fun _ => 0) (0 : Int32).toNatClampNeg 3) (2 : Int32).toNatClampNeg 1) (0 : Int32).toNatClampNeg (56 : Int32).toNatClampNeg (6 : Int32).toNatClampNeg)))]) [1, 0] (by decide) rfl
  have hKc := hK.sub (tys' := [(ci, .int)]) [0] rfl
  have hFc := va_free (wc := [(h0, .inr (11, [.int th, .int 1, .int 0, .int 1, .ref rq, .ref sbq])), (rq, .inl (ci, 119, .inl (va_cpy (upd (upd (upd (upd (fun _ => 0) (2 : Int32).toNatClampNeg (-1)) (3 : Int32).toNatClampNeg 0) (4 : Int32).toNatClampNeg 0) (5 : Int32).toNatClampNeg 0) (upd (upd (fun _ => 0) (0 : Int32).toNatClampNeg 3) (2 : Int32).toNatClampNeg 1) (0 : Int32).toNatClampNeg (56 : Int32).toNatClampNeg (6 : Int32).toNatClampNeg)))]) hD hS hA [1, 0] rfl
  refine va_calli (va_runV (As := [.int 0, .int 0]) (rest := [.int 0, .int 1]) ⟨hx, hb, hml, hown, hts⟩ (c_fl2_0 l hl9 dC dI tE h0 rq sbq th ci _ ) (cwV 2 hts (goodIn_app (goodIn_r _ [12, 13, 14, 6] (by rfl) (by decide +kernel)) gg_c_isRoom2_c_fl2_0) rfl rfl rfl (by decide +kernel) ⟨Nat.le_of_ble_eq_true rfl, Nat.le_of_ble_eq_true rfl⟩) ⟨Pre0.blind, va_recv hKc hPc (ci := 11) (q0 := 0) rfl rfl, Pre0.give hPc hKc hDc hT hS hFc⟩ rfl rfl hl.1 rfl (lv_room (Nat.le_of_ble_eq_true rfl)) dX6_isRoom_13 ⟨Nat.le_of_ble_eq_true rfl, Nat.le_of_ble_eq_true rfl⟩) hS (fun q _ h => hFc q h) hFc (fun r_3 u t H1 locs ht hvm hw hB hz1 hk1 hS => ?_)
  obtain ⟨hP1, hK1, hD1⟩ := hB
  rw [ht] at hP1
  have hK1 := va_K.moved hvm.symm hK1
  obtain ⟨hP, hD⟩ := va_join (wr := []) (w1 := [(h0, .inr (11, [.int th, .int 1, .int 0, .int 1, .ref rq, .ref sbq])), (rq, .inl (ci, 119, .inl (va_cpy (upd (upd (upd (upd (fun _ => 0) (2 : Int32).toNatClampNeg (-1)) (3 : Int32).toNatClampNeg 0) (4 : Int32).toNatClampNeg 0) (5 : Int32).toNatClampNeg 0) (upd (upd (fun _ => 0) (0 : Int32).toNatClampNeg 3) (2 : Int32).toNatClampNeg 1) (0 : Int32).toNatClampNeg (56 : Int32).toNatClampNeg (6 : Int32).toNatClampNeg)))]) hP hD [1, 0] [] rfl rfl (by decide) (by decide) hk1 hFc hP1 hD1
  generalize H1 = H at hP hS ⊢
  have hP : va_P (dC, dI) vwCl [(h0, .inr (11, [.int th, .int 1, .int 0, .int 1, .ref rq, .ref sbq])), (rq, .inl (ci, 119, .inl (va_cpy (upd (upd (upd (upd (fun _ => 0) (2 : Int32).toNatClampNeg (-1)) (3 : Int32).toNatClampNeg 0) (4 : Int32).toNatClampNeg 0) (5 : Int32).toNatClampNeg 0) (upd (upd (fun _ => 0) (0 : Int32).toNatClampNeg 3) (2 : Int32).toNatClampNeg 1) (0 : Int32).toNatClampNeg (56 : Int32).toNatClampNeg (6 : Int32).toNatClampNeg)))] H := hP
  have hD : va_D A [(h0, .inr (11, [.int th, .int 1, .int 0, .int 1, .ref rq, .ref sbq])), (rq, .inl (ci, 119, .inl (va_cpy (upd (upd (upd (upd (fun _ => 0) (2 : Int32).toNatClampNeg (-1)) (3 : Int32).toNatClampNeg 0) (4 : Int32).toNatClampNeg 0) (5 : Int32).toNatClampNeg 0) (upd (upd (fun _ => 0) (0 : Int32).toNatClampNeg 3) (2 : Int32).toNatClampNeg 1) (0 : Int32).toNatClampNeg (56 : Int32).toNatClampNeg (6 : Int32).toNatClampNeg)))] := hD
  refine W.widen (k := 0) (n := 0) (by omega) (by omega) ?_
  obtain rfl : r_3 = 3 := hw
  refine lv_iconst (v := 1) hx hb dX6_isRoom_16 (by decide) ?_
  refine lv_isub hx hb dX6_isRoom_17 ?_
  refine lv_topi (fun x_4 e_5 => ?_)
  obtain rfl : x_4 = 2 := e_5.trans (by decide)
  have hPc := hP.sub (ws' := []) [] rfl
  have hDc := hD.sub (ws' := []) [] (by decide) rfl
  have hKc := hK.sub (tys' := []) [] rfl
  have hFc := va_free (wc := []) hD hS hA [] rfl
  refine va_calli (va_runS (As := [.int 1, .int 0, .int 2]) (rest := []) ⟨hx, hb, hml, hown, hts⟩ (c_isIn_1_0_2 l hl9 dC dI tE  _ ) (va_cwS 3 hts (goodIn_app (goodIn_r _ [4, 5, 6] (by rfl) (by decide +kernel)) gg_c_isRoom2_c_isIn_1_0_2) rfl rfl rfl (by decide +kernel) ⟨Nat.le_of_ble_eq_true rfl, Nat.le_of_ble_eq_true rfl⟩) ⟨Pre0.blind, Pre0.give hPc hKc hDc hT hS hFc⟩ rfl rfl hl.1 rfl (lv_room (Nat.le_of_ble_eq_true rfl)) dX6_isRoom_18 ⟨Nat.le_of_ble_eq_true rfl, Nat.le_of_ble_eq_true rfl⟩) hS (fun q _ h => hFc q h) hFc (fun r_6 u t H1 locs ht hvm hw hB hz1 hk1 hS => ?_)
  obtain ⟨hP1, hK1, hD1⟩ := hB
  rw [ht] at hP1
  have hK1 := va_K.moved hvm.symm hK1
  obtain ⟨hP, hD⟩ := va_join (wr := [(h0, .inr (11, [.int th, .int 1, .int 0, .int 1, .ref rq, .ref sbq])), (rq, .inl (ci, 119, .inl (va_cpy (upd (upd (upd (upd (fun _ => 0) (2 : Int32).toNatClampNeg (-1)) (3 : Int32).toNatClampNeg 0) (4 : Int32).toNatClampNeg 0) (5 : Int32).toNatClampNeg 0) (upd (upd (fun _ => 0) (0 : Int32).toNatClampNeg 3) (2 : Int32).toNatClampNeg 1) (0 : Int32).toNatClampNeg (56 : Int32).toNatClampNeg (6 : Int32).toNatClampNeg)))]) (w1 := []) hP hD [] [0, 1] rfl rfl (by decide) (by decide) hk1 hFc hP1 hD1
  generalize H1 = H at hP hS ⊢
  have hP : va_P (dC, dI) vwCl [(h0, .inr (11, [.int th, .int 1, .int 0, .int 1, .ref rq, .ref sbq])), (rq, .inl (ci, 119, .inl (va_cpy (upd (upd (upd (upd (fun _ => 0) (2 : Int32).toNatClampNeg (-1)) (3 : Int32).toNatClampNeg 0) (4 : Int32).toNatClampNeg 0) (5 : Int32).toNatClampNeg 0) (upd (upd (fun _ => 0) (0 : Int32).toNatClampNeg 3) (2 : Int32).toNatClampNeg 1) (0 : Int32).toNatClampNeg (56 : Int32).toNatClampNeg (6 : Int32).toNatClampNeg)))] H := hP
  have hD : va_D A [(h0, .inr (11, [.int th, .int 1, .int 0, .int 1, .ref rq, .ref sbq])), (rq, .inl (ci, 119, .inl (va_cpy (upd (upd (upd (upd (fun _ => 0) (2 : Int32).toNatClampNeg (-1)) (3 : Int32).toNatClampNeg 0) (4 : Int32).toNatClampNeg 0) (5 : Int32).toNatClampNeg 0) (upd (upd (fun _ => 0) (0 : Int32).toNatClampNeg 3) (2 : Int32).toNatClampNeg 1) (0 : Int32).toNatClampNeg (56 : Int32).toNatClampNeg (6 : Int32).toNatClampNeg)))] := hD
  refine W.widen (k := 0) (n := 0) (by omega) (by omega) ?_
  obtain rfl : r_6 = 1 := hw
  refine lv_if_eq (tgt := 28) hx hb dX6_isRoom_21 (by decide) (fun c_7 => absurd c_7 (by decide)) (fun _ => ?_)
  refine lv_iconst (v := 1) hx hb dX6_isRoom_24 (by decide) ?_
  refine lv_goto (tgt := 29) hx hb dX6_isRoom_25 (by decide) ?_
  have hP9 := hP.sub (ws' := [(h0, .inr (11, [.int th, .int 1, .int 0, .int 1, .ref rq, .ref sbq])), (rq, .inl (ci, 119, .inl (va_cpy (upd (upd (upd (upd (fun _ => 0) (2 : Int32).toNatClampNeg (-1)) (3 : Int32).toNatClampNeg 0) (4 : Int32).toNatClampNeg 0) (5 : Int32).toNatClampNeg 0) (upd (upd (fun _ => 0) (0 : Int32).toNatClampNeg 3) (2 : Int32).toNatClampNeg 1) (0 : Int32).toNatClampNeg (56 : Int32).toNatClampNeg (6 : Int32).toNatClampNeg)))]) [0, 1] rfl
  have hD9 := hD.sub (ws' := [(h0, .inr (11, [.int th, .int 1, .int 0, .int 1, .ref rq, .ref sbq])), (rq, .inl (ci, 119, .inl (va_cpy (upd (upd (upd (upd (fun _ => 0) (2 : Int32).toNatClampNeg (-1)) (3 : Int32).toNatClampNeg 0) (4 : Int32).toNatClampNeg 0) (5 : Int32).toNatClampNeg 0) (upd (upd (fun _ => 0) (0 : Int32).toNatClampNeg 3) (2 : Int32).toNatClampNeg 1) (0 : Int32).toNatClampNeg (56 : Int32).toNatClampNeg (6 : Int32).toNatClampNeg)))]) [0, 1] (by decide) rfl
  have hK9 := hK.sub (tys' := [(ci, .int)]) [0] rfl
  exact W.zret (v := 1) hx hb hr (by decide) (fun t ht hW => ⟨⟨1, (), rfl, rfl, by rw [ht]; exact hP9, va_K.moved hW.alike hK9, hD9⟩, hS.F ht⟩) hS.2.2 dX6_isRoom_29
def v_c_isGuest2 : List Cond := .code yX6_isGuest cX6_isGuest 2 (some .boolean) :: ([Cond.fieldLink RX6 34 "HotelOfBellsModel" "guests" "I", Cond.code yX6_isIn cX6_isIn 3 (some .boolean), Cond.methodLink RX6 27 yX6_isIn, Cond.static yX6_isIn, Cond.initialized RX6] ++ (wsX60 ++ []))
theorem u_c_isGuest2_X6 : ∀ w ∈ wsX60, w ∈ v_c_isGuest2 := fun _ h => List.mem_cons_of_mem _ (List.mem_append_right _ (List.mem_append_left _ h))
theorem gg_c_isGuest2_c_isIn_0_0_0 : GoodIn v_c_isGuest2 v_c_isIn_0_0_0 := goodIn_r _ [2] (by rfl) (by decide +kernel)
set_option maxHeartbeats 4000000 in
set_option maxRecDepth 100000 in
theorem c_isGuest2 (l : Launch) (hl9 : l.stackTraces = false) (dC : Nat → ClassId) (dI : Nat → Nat → Nat) (tE : Nat) (h0 : Nat) (rq : Nat) (sbq : Nat) (th : Int32) (sz : Nat) : Met l yX6_isGuest v_c_isGuest2 ({ frames := 1, cells := 0, slots := 0, locals := 22 }) (va_Pc [.ref h0, .int 0] (Pre0 dC dI tE sz [] [(h0, .inr (11, [.int th, .int 1, .int 0, .int 1, .ref rq, .ref sbq]))])) (va_Qi (fun (r : Int32) (_ : Unit) => r = 1) (fun _ t => Pst dC dI [] (va_A [(h0, .inr (11, [.int th, .int 1, .int 0, .int 1, .ref rq, .ref sbq]))] sz) [(h0, .inr (11, [.int th, .int 1, .int 0, .int 1, .ref rq, .ref sbq]))] t) (va_A [(h0, .inr (11, [.int th, .int 1, .int 0, .int 1, .ref rq, .ref sbq]))] sz)) 0 0 (va_A [(h0, .inr (11, [.int th, .int 1, .int 0, .int 1, .ref rq, .ref sbq]))] sz) := by
  refine Met.ofW (cc := cX6_isGuest) (maxL := 2) (ret := (some .boolean)) (by decide) rfl ?_
  intro p e s m args below meth c s₁ B hml hv
  obtain ⟨rfl, hsz, hP, hK, hD0, hT⟩ := hv
  have hx := B.exec
  have hb := B.bytes
  have hr := B.returns
  have hts := atoms_spec (ws := v_c_isGuest2) B.pre
  have hown : s.vm.findClass RX6 = some m.cls := findClass_of_methodNamed B.named
  have hlocks := B.notSynchronized
  subst hsz
  have hD := hD0.self (sz := s.heap.size)
  generalize hAe : va_A [(h0, .inr (11, [.int th, .int 1, .int 0, .int 1, .ref rq, .ref sbq]))] s.heap.size = A at hD hT ⊢
  have hA : ∀ q : Nat, s.heap.size ≤ q → A q := fun q h => by rw [← hAe]; exact Or.inr h
  have hS : va_S A s.heap s.heap [] := va_S.rf
  have hl := lv_entry ([.ref h0, .int 0]) (n := 2) (Nat.le_of_ble_eq_true rfl)
  rw [lg_entry_eq]
  generalize (lg_sl ([.ref h0, .int 0]) ++ List.replicate (2 - (lg_sl ([.ref h0, .int 0])).length) Slot.unset).toArray = ls at hl ⊢
  have hl : lv_has ls 2 [(0, .ref h0), (1, .int 0)] := hl
  refine lv_iload_n hx hb dX6_isGuest_0 rfl (lv_at hl 1 rfl) ?_
  refine lv_iconst (v := 0) hx hb dX6_isGuest_1 (by decide) ?_
  refine lv_aload_n hx hb dX6_isGuest_2 rfl (lv_at hl 0 rfl) ?_
  refine va_get (D := (dC, dI)) (ci := 11) (v := .int 1) (C := RX6) (T := TX6) (N := 6) hx hb hts u_c_isGuest2_X6 hown hK hP 0 rfl rfl 3 (by decide) (hts (.fieldLink RX6 34 "HotelOfBellsModel" "guests" "I") (List.mem_of_getElem? (i := 1) rfl)) (fun _ h9 => h9) rfl dX6_isGuest_3 ?_
  refine lv_iconst (v := 1) hx hb dX6_isGuest_6 (by decide) ?_
  refine lv_isub hx hb dX6_isGuest_7 ?_
  refine lv_topi (fun x_1 e_2 => ?_)
  obtain rfl : x_1 = 0 := e_2.trans (by decide)
  have hPc := hP.sub (ws' := []) [] rfl
  have hDc := hD.sub (ws' := []) [] (by decide) rfl
  have hKc := hK.sub (tys' := []) [] rfl
  have hFc := va_free (wc := []) hD hS hA [] rfl
  refine va_calli (va_runS (As := [.int 0, .int 0, .int 0]) (rest := []) ⟨hx, hb, hml, hown, hts⟩ (c_isIn_0_0_0 l hl9 dC dI tE  _ ) (va_cwS 3 hts (goodIn_app (goodIn_r _ [3, 4, 5] (by rfl) (by decide +kernel)) gg_c_isGuest2_c_isIn_0_0_0) rfl rfl rfl (by decide +kernel) ⟨Nat.le_of_ble_eq_true rfl, Nat.le_of_ble_eq_true rfl⟩) ⟨Pre0.blind, Pre0.give hPc hKc hDc hT hS hFc⟩ rfl rfl hl.1 rfl (lv_room (Nat.le_of_ble_eq_true rfl)) dX6_isGuest_8 ⟨Nat.le_of_ble_eq_true rfl, Nat.le_of_ble_eq_true rfl⟩) hS (fun q _ h => hFc q h) hFc (fun r_3 u t H1 locs ht hvm hw hB hz1 hk1 hS => ?_)
  obtain ⟨hP1, hK1, hD1⟩ := hB
  rw [ht] at hP1
  have hK1 := va_K.moved hvm.symm hK1
  obtain ⟨hP, hD⟩ := va_join (wr := [(h0, .inr (11, [.int th, .int 1, .int 0, .int 1, .ref rq, .ref sbq]))]) (w1 := []) hP hD [] [0] rfl rfl (by decide) (by decide) hk1 hFc hP1 hD1
  generalize H1 = H at hP hS ⊢
  have hP : va_P (dC, dI) vwCl [(h0, .inr (11, [.int th, .int 1, .int 0, .int 1, .ref rq, .ref sbq]))] H := hP
  have hD : va_D A [(h0, .inr (11, [.int th, .int 1, .int 0, .int 1, .ref rq, .ref sbq]))] := hD
  refine W.widen (k := 0) (n := 0) (by omega) (by omega) ?_
  obtain rfl : r_3 = 1 := hw
  have hP9 := hP.sub (ws' := [(h0, .inr (11, [.int th, .int 1, .int 0, .int 1, .ref rq, .ref sbq]))]) [0] rfl
  have hD9 := hD.sub (ws' := [(h0, .inr (11, [.int th, .int 1, .int 0, .int 1, .ref rq, .ref sbq]))]) [0] (by decide) rfl
  have hK9 := hK.sub (tys' := []) [] rfl
  exact W.zret (v := 1) hx hb hr (by decide) (fun t ht hW => ⟨⟨1, (), rfl, rfl, by rw [ht]; exact hP9, va_K.moved hW.alike hK9, hD9⟩, hS.F ht⟩) hS.2.2 dX6_isGuest_11
def v_c_gu5_0 : List Cond := .code yX6_gu cX6_gu 3 (some .int) :: ([Cond.fieldLink RX6 9 "HotelOfBellsModel" "row" "[I"] ++ (wsX60 ++ []))
theorem u_c_gu5_0_X6 : ∀ w ∈ wsX60, w ∈ v_c_gu5_0 := fun _ h => List.mem_cons_of_mem _ (List.mem_append_right _ (List.mem_append_left _ h))
set_option maxHeartbeats 4000000 in
set_option maxRecDepth 100000 in
theorem c_gu5_0 (l : Launch) (hl9 : l.stackTraces = false) (dC : Nat → ClassId) (dI : Nat → Nat → Nat) (tE : Nat) (h0 : Nat) (rq : Nat) (sbq : Nat) (th : Int32) (ci : ClassId) (sz : Nat) : Met l yX6_gu v_c_gu5_0 ({ frames := 0, cells := 0, slots := 0, locals := 0 }) (va_Pc [.ref h0, .int 0, .int 0] (Pre0 dC dI tE sz [(ci, .int)] [(h0, .inr (11, [.int th, .int 1, .int 0, .int 1, .ref rq, .ref sbq])), (rq, .inl (ci, 119, .inl (upd (upd (upd (va_cpy (upd (upd (upd (upd (fun _ => 0) (2 : Int32).toNatClampNeg (-1)) (3 : Int32).toNatClampNeg 0) (4 : Int32).toNatClampNeg 0) (5 : Int32).toNatClampNeg 0) (upd (upd (fun _ => 0) (0 : Int32).toNatClampNeg 3) (2 : Int32).toNatClampNeg 1) (0 : Int32).toNatClampNeg (56 : Int32).toNatClampNeg (6 : Int32).toNatClampNeg) (59 : Int32).toNatClampNeg 0) (60 : Int32).toNatClampNeg 1) (61 : Int32).toNatClampNeg 0)))])) (va_Qi (fun (r : Int32) (_ : Unit) => r = 0) (fun _ t => Pst dC dI [(ci, .int)] (va_A [(h0, .inr (11, [.int th, .int 1, .int 0, .int 1, .ref rq, .ref sbq])), (rq, .inl (ci, 119, .inl (upd (upd (upd (va_cpy (upd (upd (upd (upd (fun _ => 0) (2 : Int32).toNatClampNeg (-1)) (3 : Int32).toNatClampNeg 0) (4 : Int32).toNatClampNeg 0) (5 : Int32).toNatClampNeg 0) (upd (upd (fun _ => 0) (0 : Int32).toNatClampNeg 3) (2 : Int32).toNatClampNeg 1) (0 : Int32).toNatClampNeg (56 : Int32).toNatClampNeg (6 : Int32).toNatClampNeg) (59 : Int32).toNatClampNeg 0) (60 : Int32).toNatClampNeg 1) (61 : Int32).toNatClampNeg 0)))] sz) [(h0, .inr (11, [.int th, .int 1, .int 0, .int 1, .ref rq, .ref sbq])), (rq, .inl (ci, 119, .inl (upd (upd (upd (va_cpy (upd (upd (upd (upd (fun _ => 0) (2 : Int32).toNatClampNeg (-1)) (3 : Int32).toNatClampNeg 0) (4 : Int32).toNatClampNeg 0) (5 : Int32).toNatClampNeg 0) (upd (upd (fun _ => 0) (0 : Int32).toNatClampNeg 3) (2 : Int32).toNatClampNeg 1) (0 : Int32).toNatClampNeg (56 : Int32).toNatClampNeg (6 : Int32).toNatClampNeg) (59 : Int32).toNatClampNeg 0) (60 : Int32).toNatClampNeg 1) (61 : Int32).toNatClampNeg 0)))] t) (va_A [(h0, .inr (11, [.int th, .int 1, .int 0, .int 1, .ref rq, .ref sbq])), (rq, .inl (ci, 119, .inl (upd (upd (upd (va_cpy (upd (upd (upd (upd (fun _ => 0) (2 : Int32).toNatClampNeg (-1)) (3 : Int32).toNatClampNeg 0) (4 : Int32).toNatClampNeg 0) (5 : Int32).toNatClampNeg 0) (upd (upd (fun _ => 0) (0 : Int32).toNatClampNeg 3) (2 : Int32).toNatClampNeg 1) (0 : Int32).toNatClampNeg (56 : Int32).toNatClampNeg (6 : Int32).toNatClampNeg) (59 : Int32).toNatClampNeg 0) (60 : Int32).toNatClampNeg 1) (61 : Int32).toNatClampNeg 0)))] sz)) 0 0 (va_A [(h0, .inr (11, [.int th, .int 1, .int 0, .int 1, .ref rq, .ref sbq])), (rq, .inl (ci, 119, .inl (upd (upd (upd (va_cpy (upd (upd (upd (upd (fun _ => 0) (2 : Int32).toNatClampNeg (-1)) (3 : Int32).toNatClampNeg 0) (4 : Int32).toNatClampNeg 0) (5 : Int32).toNatClampNeg 0) (upd (upd (fun _ => 0) (0 : Int32).toNatClampNeg 3) (2 : Int32).toNatClampNeg 1) (0 : Int32).toNatClampNeg (56 : Int32).toNatClampNeg (6 : Int32).toNatClampNeg) (59 : Int32).toNatClampNeg 0) (60 : Int32).toNatClampNeg 1) (61 : Int32).toNatClampNeg 0)))] sz) := by
  refine Met.ofW (cc := cX6_gu) (maxL := 3) (ret := (some .int)) (by decide) rfl ?_
  intro p e s m args below meth c s₁ B hml hv
  obtain ⟨rfl, hsz, hP, hK, hD0, hT⟩ := hv
  have hx := B.exec
  have hb := B.bytes
  have hr := B.returns
  have hts := atoms_spec (ws := v_c_gu5_0) B.pre
  have hown : s.vm.findClass RX6 = some m.cls := findClass_of_methodNamed B.named
  have hlocks := B.notSynchronized
  subst hsz
  have hD := hD0.self (sz := s.heap.size)
  generalize hAe : va_A [(h0, .inr (11, [.int th, .int 1, .int 0, .int 1, .ref rq, .ref sbq])), (rq, .inl (ci, 119, .inl (upd (upd (upd (va_cpy (upd (upd (upd (upd (fun _ => 0) (2 : Int32).toNatClampNeg (-1)) (3 : Int32).toNatClampNeg 0) (4 : Int32).toNatClampNeg 0) (5 : Int32).toNatClampNeg 0) (upd (upd (fun _ => 0) (0 : Int32).toNatClampNeg 3) (2 : Int32).toNatClampNeg 1) (0 : Int32).toNatClampNeg (56 : Int32).toNatClampNeg (6 : Int32).toNatClampNeg) (59 : Int32).toNatClampNeg 0) (60 : Int32).toNatClampNeg 1) (61 : Int32).toNatClampNeg 0)))] s.heap.size = A at hD hT ⊢
  have hA : ∀ q : Nat, s.heap.size ≤ q → A q := fun q h => by rw [← hAe]; exact Or.inr h
  have hS : va_S A s.heap s.heap [] := va_S.rf
  have hl := lv_entry ([.ref h0, .int 0, .int 0]) (n := 3) (Nat.le_of_ble_eq_true rfl)
  rw [lg_entry_eq]
  generalize (lg_sl ([.ref h0, .int 0, .int 0]) ++ List.replicate (3 - (lg_sl ([.ref h0, .int 0, .int 0])).length) Slot.unset).toArray = ls at hl ⊢
  have hl : lv_has ls 3 [(0, .ref h0), (1, .int 0), (2, .int 0)] := hl
  refine lv_aload_n hx hb dX6_gu_0 rfl (lv_at hl 0 rfl) ?_
  refine va_get (D := (dC, dI)) (ci := 11) (v := .ref rq) (C := RX6) (T := TX6) (N := 6) hx hb hts u_c_gu5_0_X6 hown hK hP 0 rfl rfl 4 (by decide) (hts (.fieldLink RX6 9 "HotelOfBellsModel" "row" "[I") (List.mem_of_getElem? (i := 1) rfl)) (fun _ h9 => h9) rfl dX6_gu_1 ?_
  refine lv_bipush (v := 56) hx hb dX6_gu_4 (by decide) ?_
  refine lv_bipush (v := 6) hx hb dX6_gu_6 (by decide) ?_
  refine lv_iload_n hx hb dX6_gu_8 rfl (lv_at hl 1 rfl) ?_
  refine lv_imul hx hb dX6_gu_9 ?_
  refine lv_topi (fun x_1 e_2 => ?_)
  obtain rfl : x_1 = 0 := e_2.trans (by decide)
  refine lv_iadd hx hb dX6_gu_10 ?_
  refine lv_topi (fun x_3 e_4 => ?_)
  obtain rfl : x_3 = 56 := e_4.trans (by decide)
  refine lv_iload_n hx hb dX6_gu_11 rfl (lv_at hl 2 rfl) ?_
  refine lv_iadd hx hb dX6_gu_12 ?_
  refine lv_topi (fun x_5 e_6 => ?_)
  obtain rfl : x_5 = 56 := e_6.trans (by decide)
  refine va_iald hx hb hK hP 1 0 rfl rfl (by unfold vp_in; decide) dX6_gu_13 ?_
  refine lv_topi (fun x_7 e_8 => ?_)
  obtain rfl : x_7 = 0 := e_8.trans (by decide +kernel)
  have hP9 := hP.sub (ws' := [(h0, .inr (11, [.int th, .int 1, .int 0, .int 1, .ref rq, .ref sbq])), (rq, .inl (ci, 119, .inl (upd (upd (upd (va_cpy (upd (upd (upd (upd (fun _ => 0) (2 : Int32).toNatClampNeg (-1)) (3 : Int32).toNatClampNeg 0) (4 : Int32).toNatClampNeg 0) (5 : Int32).toNatClampNeg 0) (upd (upd (fun _ => 0) (0 : Int32).toNatClampNeg 3) (2 : Int32).toNatClampNeg 1) (0 : Int32).toNatClampNeg (56 : Int32).toNatClampNeg (6 : Int32).toNatClampNeg) (59 : Int32).toNatClampNeg 0) (60 : Int32).toNatClampNeg 1) (61 : Int32).toNatClampNeg 0)))]) [0, 1] rfl
  have hD9 := hD.sub (ws' := [(h0, .inr (11, [.int th, .int 1, .int 0, .int 1, .ref rq, .ref sbq])), (rq, .inl (ci, 119, .inl (upd (upd (upd (va_cpy (upd (upd (upd (upd (fun _ => 0) (2 : Int32).toNatClampNeg (-1)) (3 : Int32).toNatClampNeg 0) (4 : Int32).toNatClampNeg 0) (5 : Int32).toNatClampNeg 0) (upd (upd (fun _ => 0) (0 : Int32).toNatClampNeg 3) (2 : Int32).toNatClampNeg 1) (0 : Int32).toNatClampNeg (56 : Int32).toNatClampNeg (6 : Int32).toNatClampNeg) (59 : Int32).toNatClampNeg 0) (60 : Int32).toNatClampNeg 1) (61 : Int32).toNatClampNeg 0)))]) [0, 1] (by decide) rfl
  have hK9 := hK.sub (tys' := [(ci, .int)]) [0] rfl
  exact W.iret (v := 0) hx hb hr (fun t ht hW => ⟨⟨0, (), rfl, rfl, by rw [ht]; exact hP9, va_K.moved hW.alike hK9, hD9⟩, hS.F ht⟩) hS.2.2 dX6_gu_14
def v_c_gu5_1 : List Cond := .code yX6_gu cX6_gu 3 (some .int) :: ([Cond.fieldLink RX6 9 "HotelOfBellsModel" "row" "[I"] ++ (wsX60 ++ []))
theorem u_c_gu5_1_X6 : ∀ w ∈ wsX60, w ∈ v_c_gu5_1 := fun _ h => List.mem_cons_of_mem _ (List.mem_append_right _ (List.mem_append_left _ h))
set_option maxHeartbeats 4000000 in
set_option maxRecDepth 100000 in
theorem c_gu5_1 (l : Launch) (hl9 : l.stackTraces = false) (dC : Nat → ClassId) (dI : Nat → Nat → Nat) (tE : Nat) (h0 : Nat) (rq : Nat) (sbq : Nat) (th : Int32) (ci : ClassId) (sz : Nat) : Met l yX6_gu v_c_gu5_1 ({ frames := 0, cells := 0, slots := 0, locals := 0 }) (va_Pc [.ref h0, .int 0, .int 1] (Pre0 dC dI tE sz [(ci, .int)] [(h0, .inr (11, [.int th, .int 1, .int 0, .int 1, .ref rq, .ref sbq])), (rq, .inl (ci, 119, .inl (upd (upd (upd (va_cpy (upd (upd (upd (upd (fun _ => 0) (2 : Int32).toNatClampNeg (-1)) (3 : Int32).toNatClampNeg 0) (4 : Int32).toNatClampNeg 0) (5 : Int32).toNatClampNeg 0) (upd (upd (fun _ => 0) (0 : Int32).toNatClampNeg 3) (2 : Int32).toNatClampNeg 1) (0 : Int32).toNatClampNeg (56 : Int32).toNatClampNeg (6 : Int32).toNatClampNeg) (59 : Int32).toNatClampNeg 0) (60 : Int32).toNatClampNeg 1) (61 : Int32).toNatClampNeg 0)))])) (va_Qi (fun (r : Int32) (_ : Unit) => r = 0) (fun _ t => Pst dC dI [(ci, .int)] (va_A [(h0, .inr (11, [.int th, .int 1, .int 0, .int 1, .ref rq, .ref sbq])), (rq, .inl (ci, 119, .inl (upd (upd (upd (va_cpy (upd (upd (upd (upd (fun _ => 0) (2 : Int32).toNatClampNeg (-1)) (3 : Int32).toNatClampNeg 0) (4 : Int32).toNatClampNeg 0) (5 : Int32).toNatClampNeg 0) (upd (upd (fun _ => 0) (0 : Int32).toNatClampNeg 3) (2 : Int32).toNatClampNeg 1) (0 : Int32).toNatClampNeg (56 : Int32).toNatClampNeg (6 : Int32).toNatClampNeg) (59 : Int32).toNatClampNeg 0) (60 : Int32).toNatClampNeg 1) (61 : Int32).toNatClampNeg 0)))] sz) [(h0, .inr (11, [.int th, .int 1, .int 0, .int 1, .ref rq, .ref sbq])), (rq, .inl (ci, 119, .inl (upd (upd (upd (va_cpy (upd (upd (upd (upd (fun _ => 0) (2 : Int32).toNatClampNeg (-1)) (3 : Int32).toNatClampNeg 0) (4 : Int32).toNatClampNeg 0) (5 : Int32).toNatClampNeg 0) (upd (upd (fun _ => 0) (0 : Int32).toNatClampNeg 3) (2 : Int32).toNatClampNeg 1) (0 : Int32).toNatClampNeg (56 : Int32).toNatClampNeg (6 : Int32).toNatClampNeg) (59 : Int32).toNatClampNeg 0) (60 : Int32).toNatClampNeg 1) (61 : Int32).toNatClampNeg 0)))] t) (va_A [(h0, .inr (11, [.int th, .int 1, .int 0, .int 1, .ref rq, .ref sbq])), (rq, .inl (ci, 119, .inl (upd (upd (upd (va_cpy (upd (upd (upd (upd (fun _ => 0) (2 : Int32).toNatClampNeg (-1)) (3 : Int32).toNatClampNeg 0) (4 : Int32).toNatClampNeg 0) (5 : Int32).toNatClampNeg 0) (upd (upd (fun _ => 0) (0 : Int32).toNatClampNeg 3) (2 : Int32).toNatClampNeg 1) (0 : Int32).toNatClampNeg (56 : Int32).toNatClampNeg (6 : Int32).toNatClampNeg) (59 : Int32).toNatClampNeg 0) (60 : Int32).toNatClampNeg 1) (61 : Int32).toNatClampNeg 0)))] sz)) 0 0 (va_A [(h0, .inr (11, [.int th, .int 1, .int 0, .int 1, .ref rq, .ref sbq])), (rq, .inl (ci, 119, .inl (upd (upd (upd (va_cpy (upd (upd (upd (upd (fun _ => 0) (2 : Int32).toNatClampNeg (-1)) (3 : Int32).toNatClampNeg 0) (4 : Int32).toNatClampNeg 0) (5 : Int32).toNatClampNeg 0) (upd (upd (fun _ => 0) (0 : Int32).toNatClampNeg 3) (2 : Int32).toNatClampNeg 1) (0 : Int32).toNatClampNeg (56 : Int32).toNatClampNeg (6 : Int32).toNatClampNeg) (59 : Int32).toNatClampNeg 0) (60 : Int32).toNatClampNeg 1) (61 : Int32).toNatClampNeg 0)))] sz) := by
  refine Met.ofW (cc := cX6_gu) (maxL := 3) (ret := (some .int)) (by decide) rfl ?_
  intro p e s m args below meth c s₁ B hml hv
  obtain ⟨rfl, hsz, hP, hK, hD0, hT⟩ := hv
  have hx := B.exec
  have hb := B.bytes
  have hr := B.returns
  have hts := atoms_spec (ws := v_c_gu5_1) B.pre
  have hown : s.vm.findClass RX6 = some m.cls := findClass_of_methodNamed B.named
  have hlocks := B.notSynchronized
  subst hsz
  have hD := hD0.self (sz := s.heap.size)
  generalize hAe : va_A [(h0, .inr (11, [.int th, .int 1, .int 0, .int 1, .ref rq, .ref sbq])), (rq, .inl (ci, 119, .inl (upd (upd (upd (va_cpy (upd (upd (upd (upd (fun _ => 0) (2 : Int32).toNatClampNeg (-1)) (3 : Int32).toNatClampNeg 0) (4 : Int32).toNatClampNeg 0) (5 : Int32).toNatClampNeg 0) (upd (upd (fun _ => 0) (0 : Int32).toNatClampNeg 3) (2 : Int32).toNatClampNeg 1) (0 : Int32).toNatClampNeg (56 : Int32).toNatClampNeg (6 : Int32).toNatClampNeg) (59 : Int32).toNatClampNeg 0) (60 : Int32).toNatClampNeg 1) (61 : Int32).toNatClampNeg 0)))] s.heap.size = A at hD hT ⊢
  have hA : ∀ q : Nat, s.heap.size ≤ q → A q := fun q h => by rw [← hAe]; exact Or.inr h
  have hS : va_S A s.heap s.heap [] := va_S.rf
  have hl := lv_entry ([.ref h0, .int 0, .int 1]) (n := 3) (Nat.le_of_ble_eq_true rfl)
  rw [lg_entry_eq]
  generalize (lg_sl ([.ref h0, .int 0, .int 1]) ++ List.replicate (3 - (lg_sl ([.ref h0, .int 0, .int 1])).length) Slot.unset).toArray = ls at hl ⊢
  have hl : lv_has ls 3 [(0, .ref h0), (1, .int 0), (2, .int 1)] := hl
  refine lv_aload_n hx hb dX6_gu_0 rfl (lv_at hl 0 rfl) ?_
  refine va_get (D := (dC, dI)) (ci := 11) (v := .ref rq) (C := RX6) (T := TX6) (N := 6) hx hb hts u_c_gu5_1_X6 hown hK hP 0 rfl rfl 4 (by decide) (hts (.fieldLink RX6 9 "HotelOfBellsModel" "row" "[I") (List.mem_of_getElem? (i := 1) rfl)) (fun _ h9 => h9) rfl dX6_gu_1 ?_
  refine lv_bipush (v := 56) hx hb dX6_gu_4 (by decide) ?_
  refine lv_bipush (v := 6) hx hb dX6_gu_6 (by decide) ?_
  refine lv_iload_n hx hb dX6_gu_8 rfl (lv_at hl 1 rfl) ?_
  refine lv_imul hx hb dX6_gu_9 ?_
  refine lv_topi (fun x_1 e_2 => ?_)
  obtain rfl : x_1 = 0 := e_2.trans (by decide)
  refine lv_iadd hx hb dX6_gu_10 ?_
  refine lv_topi (fun x_3 e_4 => ?_)
  obtain rfl : x_3 = 56 := e_4.trans (by decide)
  refine lv_iload_n hx hb dX6_gu_11 rfl (lv_at hl 2 rfl) ?_
  refine lv_iadd hx hb dX6_gu_12 ?_
  refine lv_topi (fun x_5 e_6 => ?_)
  obtain rfl : x_5 = 57 := e_6.trans (by decide)
  refine va_iald hx hb hK hP 1 0 rfl rfl (by unfold vp_in; decide) dX6_gu_13 ?_
  refine lv_topi (fun x_7 e_8 => ?_)
  obtain rfl : x_7 = 0 := e_8.trans (by decide +kernel)
  have hP9 := hP.sub (ws' := [(h0, .inr (11, [.int th, .int 1, .int 0, .int 1, .ref rq, .ref sbq])), (rq, .inl (ci, 119, .inl (upd (upd (upd (va_cpy (upd (upd (upd (upd (fun _ => 0) (2 : Int32).toNatClampNeg (-1)) (3 : Int32).toNatClampNeg 0) (4 : Int32).toNatClampNeg 0) (5 : Int32).toNatClampNeg 0) (upd (upd (fun _ => 0) (0 : Int32).toNatClampNeg 3) (2 : Int32).toNatClampNeg 1) (0 : Int32).toNatClampNeg (56 : Int32).toNatClampNeg (6 : Int32).toNatClampNeg) (59 : Int32).toNatClampNeg 0) (60 : Int32).toNatClampNeg 1) (61 : Int32).toNatClampNeg 0)))]) [0, 1] rfl
  have hD9 := hD.sub (ws' := [(h0, .inr (11, [.int th, .int 1, .int 0, .int 1, .ref rq, .ref sbq])), (rq, .inl (ci, 119, .inl (upd (upd (upd (va_cpy (upd (upd (upd (upd (fun _ => 0) (2 : Int32).toNatClampNeg (-1)) (3 : Int32).toNatClampNeg 0) (4 : Int32).toNatClampNeg 0) (5 : Int32).toNatClampNeg 0) (upd (upd (fun _ => 0) (0 : Int32).toNatClampNeg 3) (2 : Int32).toNatClampNeg 1) (0 : Int32).toNatClampNeg (56 : Int32).toNatClampNeg (6 : Int32).toNatClampNeg) (59 : Int32).toNatClampNeg 0) (60 : Int32).toNatClampNeg 1) (61 : Int32).toNatClampNeg 0)))]) [0, 1] (by decide) rfl
  have hK9 := hK.sub (tys' := [(ci, .int)]) [0] rfl
  exact W.iret (v := 0) hx hb hr (fun t ht hW => ⟨⟨0, (), rfl, rfl, by rw [ht]; exact hP9, va_K.moved hW.alike hK9, hD9⟩, hS.F ht⟩) hS.2.2 dX6_gu_14
def v_c_gu5_2 : List Cond := .code yX6_gu cX6_gu 3 (some .int) :: ([Cond.fieldLink RX6 9 "HotelOfBellsModel" "row" "[I"] ++ (wsX60 ++ []))
theorem u_c_gu5_2_X6 : ∀ w ∈ wsX60, w ∈ v_c_gu5_2 := fun _ h => List.mem_cons_of_mem _ (List.mem_append_right _ (List.mem_append_left _ h))
set_option maxHeartbeats 4000000 in
set_option maxRecDepth 100000 in
theorem c_gu5_2 (l : Launch) (hl9 : l.stackTraces = false) (dC : Nat → ClassId) (dI : Nat → Nat → Nat) (tE : Nat) (h0 : Nat) (rq : Nat) (sbq : Nat) (th : Int32) (ci : ClassId) (sz : Nat) : Met l yX6_gu v_c_gu5_2 ({ frames := 0, cells := 0, slots := 0, locals := 0 }) (va_Pc [.ref h0, .int 0, .int 2] (Pre0 dC dI tE sz [(ci, .int)] [(h0, .inr (11, [.int th, .int 1, .int 0, .int 1, .ref rq, .ref sbq])), (rq, .inl (ci, 119, .inl (upd (upd (upd (va_cpy (upd (upd (upd (upd (fun _ => 0) (2 : Int32).toNatClampNeg (-1)) (3 : Int32).toNatClampNeg 0) (4 : Int32).toNatClampNeg 0) (5 : Int32).toNatClampNeg 0) (upd (upd (fun _ => 0) (0 : Int32).toNatClampNeg 3) (2 : Int32).toNatClampNeg 1) (0 : Int32).toNatClampNeg (56 : Int32).toNatClampNeg (6 : Int32).toNatClampNeg) (59 : Int32).toNatClampNeg 0) (60 : Int32).toNatClampNeg 1) (61 : Int32).toNatClampNeg 0)))])) (va_Qi (fun (r : Int32) (_ : Unit) => r = (-1)) (fun _ t => Pst dC dI [(ci, .int)] (va_A [(h0, .inr (11, [.int th, .int 1, .int 0, .int 1, .ref rq, .ref sbq])), (rq, .inl (ci, 119, .inl (upd (upd (upd (va_cpy (upd (upd (upd (upd (fun _ => 0) (2 : Int32).toNatClampNeg (-1)) (3 : Int32).toNatClampNeg 0) (4 : Int32).toNatClampNeg 0) (5 : Int32).toNatClampNeg 0) (upd (upd (fun _ => 0) (0 : Int32).toNatClampNeg 3) (2 : Int32).toNatClampNeg 1) (0 : Int32).toNatClampNeg (56 : Int32).toNatClampNeg (6 : Int32).toNatClampNeg) (59 : Int32).toNatClampNeg 0) (60 : Int32).toNatClampNeg 1) (61 : Int32).toNatClampNeg 0)))] sz) [(h0, .inr (11, [.int th, .int 1, .int 0, .int 1, .ref rq, .ref sbq])), (rq, .inl (ci, 119, .inl (upd (upd (upd (va_cpy (upd (upd (upd (upd (fun _ => 0) (2 : Int32).toNatClampNeg (-1)) (3 : Int32).toNatClampNeg 0) (4 : Int32).toNatClampNeg 0) (5 : Int32).toNatClampNeg 0) (upd (upd (fun _ => 0) (0 : Int32).toNatClampNeg 3) (2 : Int32).toNatClampNeg 1) (0 : Int32).toNatClampNeg (56 : Int32).toNatClampNeg (6 : Int32).toNatClampNeg) (59 : Int32).toNatClampNeg 0) (60 : Int32).toNatClampNeg 1) (61 : Int32).toNatClampNeg 0)))] t) (va_A [(h0, .inr (11, [.int th, .int 1, .int 0, .int 1, .ref rq, .ref sbq])), (rq, .inl (ci, 119, .inl (upd (upd (upd (va_cpy (upd (upd (upd (upd (fun _ => 0) (2 : Int32).toNatClampNeg (-1)) (3 : Int32).toNatClampNeg 0) (4 : Int32).toNatClampNeg 0) (5 : Int32).toNatClampNeg 0) (upd (upd (fun _ => 0) (0 : Int32).toNatClampNeg 3) (2 : Int32).toNatClampNeg 1) (0 : Int32).toNatClampNeg (56 : Int32).toNatClampNeg (6 : Int32).toNatClampNeg) (59 : Int32).toNatClampNeg 0) (60 : Int32).toNatClampNeg 1) (61 : Int32).toNatClampNeg 0)))] sz)) 0 0 (va_A [(h0, .inr (11, [.int th, .int 1, .int 0, .int 1, .ref rq, .ref sbq])), (rq, .inl (ci, 119, .inl (upd (upd (upd (va_cpy (upd (upd (upd (upd (fun _ => 0) (2 : Int32).toNatClampNeg (-1)) (3 : Int32).toNatClampNeg 0) (4 : Int32).toNatClampNeg 0) (5 : Int32).toNatClampNeg 0) (upd (upd (fun _ => 0) (0 : Int32).toNatClampNeg 3) (2 : Int32).toNatClampNeg 1) (0 : Int32).toNatClampNeg (56 : Int32).toNatClampNeg (6 : Int32).toNatClampNeg) (59 : Int32).toNatClampNeg 0) (60 : Int32).toNatClampNeg 1) (61 : Int32).toNatClampNeg 0)))] sz) := by
  refine Met.ofW (cc := cX6_gu) (maxL := 3) (ret := (some .int)) (by decide) rfl ?_
  intro p e s m args below meth c s₁ B hml hv
  obtain ⟨rfl, hsz, hP, hK, hD0, hT⟩ := hv
  have hx := B.exec
  have hb := B.bytes
  have hr := B.returns
  have hts := atoms_spec (ws := v_c_gu5_2) B.pre
  have hown : s.vm.findClass RX6 = some m.cls := findClass_of_methodNamed B.named
  have hlocks := B.notSynchronized
  subst hsz
  have hD := hD0.self (sz := s.heap.size)
  generalize hAe : va_A [(h0, .inr (11, [.int th, .int 1, .int 0, .int 1, .ref rq, .ref sbq])), (rq, .inl (ci, 119, .inl (upd (upd (upd (va_cpy (upd (upd (upd (upd (fun _ => 0) (2 : Int32).toNatClampNeg (-1)) (3 : Int32).toNatClampNeg 0) (4 : Int32).toNatClampNeg 0) (5 : Int32).toNatClampNeg 0) (upd (upd (fun _ => 0) (0 : Int32).toNatClampNeg 3) (2 : Int32).toNatClampNeg 1) (0 : Int32).toNatClampNeg (56 : Int32).toNatClampNeg (6 : Int32).toNatClampNeg) (59 : Int32).toNatClampNeg 0) (60 : Int32).toNatClampNeg 1) (61 : Int32).toNatClampNeg 0)))] s.heap.size = A at hD hT ⊢
  have hA : ∀ q : Nat, s.heap.size ≤ q → A q := fun q h => by rw [← hAe]; exact Or.inr h
  have hS : va_S A s.heap s.heap [] := va_S.rf
  have hl := lv_entry ([.ref h0, .int 0, .int 2]) (n := 3) (Nat.le_of_ble_eq_true rfl)
  rw [lg_entry_eq]
  generalize (lg_sl ([.ref h0, .int 0, .int 2]) ++ List.replicate (3 - (lg_sl ([.ref h0, .int 0, .int 2])).length) Slot.unset).toArray = ls at hl ⊢
  have hl : lv_has ls 3 [(0, .ref h0), (1, .int 0), (2, .int 2)] := hl
  refine lv_aload_n hx hb dX6_gu_0 rfl (lv_at hl 0 rfl) ?_
  refine va_get (D := (dC, dI)) (ci := 11) (v := .ref rq) (C := RX6) (T := TX6) (N := 6) hx hb hts u_c_gu5_2_X6 hown hK hP 0 rfl rfl 4 (by decide) (hts (.fieldLink RX6 9 "HotelOfBellsModel" "row" "[I") (List.mem_of_getElem? (i := 1) rfl)) (fun _ h9 => h9) rfl dX6_gu_1 ?_
  refine lv_bipush (v := 56) hx hb dX6_gu_4 (by decide) ?_
  refine lv_bipush (v := 6) hx hb dX6_gu_6 (by decide) ?_
  refine lv_iload_n hx hb dX6_gu_8 rfl (lv_at hl 1 rfl) ?_
  refine lv_imul hx hb dX6_gu_9 ?_
  refine lv_topi (fun x_1 e_2 => ?_)
  obtain rfl : x_1 = 0 := e_2.trans (by decide)
  refine lv_iadd hx hb dX6_gu_10 ?_
  refine lv_topi (fun x_3 e_4 => ?_)
  obtain rfl : x_3 = 56 := e_4.trans (by decide)
  refine lv_iload_n hx hb dX6_gu_11 rfl (lv_at hl 2 rfl) ?_
  refine lv_iadd hx hb dX6_gu_12 ?_
  refine lv_topi (fun x_5 e_6 => ?_)
  obtain rfl : x_5 = 58 := e_6.trans (by decide)
  refine va_iald hx hb hK hP 1 0 rfl rfl (by unfold vp_in; decide) dX6_gu_13 ?_
  refine lv_topi (fun x_7 e_8 => ?_)
  obtain rfl : x_7 = (-1) := e_8.trans (by decide +kernel)
  have hP9 := hP.sub (ws' := [(h0, .inr (11, [.int th, .int 1, .int 0, .int 1, .ref rq, .ref sbq])), (rq, .inl (ci, 119, .inl (upd (upd (upd (va_cpy (upd (upd (upd (upd (fun _ => 0) (2 : Int32).toNatClampNeg (-1)) (3 : Int32).toNatClampNeg 0) (4 : Int32).toNatClampNeg 0) (5 : Int32).toNatClampNeg 0) (upd (upd (fun _ => 0) (0 : Int32).toNatClampNeg 3) (2 : Int32).toNatClampNeg 1) (0 : Int32).toNatClampNeg (56 : Int32).toNatClampNeg (6 : Int32).toNatClampNeg) (59 : Int32).toNatClampNeg 0) (60 : Int32).toNatClampNeg 1) (61 : Int32).toNatClampNeg 0)))]) [0, 1] rfl
  have hD9 := hD.sub (ws' := [(h0, .inr (11, [.int th, .int 1, .int 0, .int 1, .ref rq, .ref sbq])), (rq, .inl (ci, 119, .inl (upd (upd (upd (va_cpy (upd (upd (upd (upd (fun _ => 0) (2 : Int32).toNatClampNeg (-1)) (3 : Int32).toNatClampNeg 0) (4 : Int32).toNatClampNeg 0) (5 : Int32).toNatClampNeg 0) (upd (upd (fun _ => 0) (0 : Int32).toNatClampNeg 3) (2 : Int32).toNatClampNeg 1) (0 : Int32).toNatClampNeg (56 : Int32).toNatClampNeg (6 : Int32).toNatClampNeg) (59 : Int32).toNatClampNeg 0) (60 : Int32).toNatClampNeg 1) (61 : Int32).toNatClampNeg 0)))]) [0, 1] (by decide) rfl
  have hK9 := hK.sub (tys' := [(ci, .int)]) [0] rfl
  exact W.iret (v := (-1)) hx hb hr (fun t ht hW => ⟨⟨(-1), (), rfl, rfl, by rw [ht]; exact hP9, va_K.moved hW.alike hK9, hD9⟩, hS.F ht⟩) hS.2.2 dX6_gu_14
def v_c_gu5_3 : List Cond := .code yX6_gu cX6_gu 3 (some .int) :: ([Cond.fieldLink RX6 9 "HotelOfBellsModel" "row" "[I"] ++ (wsX60 ++ []))
theorem u_c_gu5_3_X6 : ∀ w ∈ wsX60, w ∈ v_c_gu5_3 := fun _ h => List.mem_cons_of_mem _ (List.mem_append_right _ (List.mem_append_left _ h))
set_option maxHeartbeats 4000000 in
set_option maxRecDepth 100000 in
theorem c_gu5_3 (l : Launch) (hl9 : l.stackTraces = false) (dC : Nat → ClassId) (dI : Nat → Nat → Nat) (tE : Nat) (h0 : Nat) (rq : Nat) (sbq : Nat) (th : Int32) (ci : ClassId) (sz : Nat) : Met l yX6_gu v_c_gu5_3 ({ frames := 0, cells := 0, slots := 0, locals := 0 }) (va_Pc [.ref h0, .int 0, .int 3] (Pre0 dC dI tE sz [(ci, .int)] [(h0, .inr (11, [.int th, .int 1, .int 0, .int 1, .ref rq, .ref sbq])), (rq, .inl (ci, 119, .inl (upd (upd (upd (va_cpy (upd (upd (upd (upd (fun _ => 0) (2 : Int32).toNatClampNeg (-1)) (3 : Int32).toNatClampNeg 0) (4 : Int32).toNatClampNeg 0) (5 : Int32).toNatClampNeg 0) (upd (upd (fun _ => 0) (0 : Int32).toNatClampNeg 3) (2 : Int32).toNatClampNeg 1) (0 : Int32).toNatClampNeg (56 : Int32).toNatClampNeg (6 : Int32).toNatClampNeg) (59 : Int32).toNatClampNeg 0) (60 : Int32).toNatClampNeg 1) (61 : Int32).toNatClampNeg 0)))])) (va_Qi (fun (r : Int32) (_ : Unit) => r = 0) (fun _ t => Pst dC dI [(ci, .int)] (va_A [(h0, .inr (11, [.int th, .int 1, .int 0, .int 1, .ref rq, .ref sbq])), (rq, .inl (ci, 119, .inl (upd (upd (upd (va_cpy (upd (upd (upd (upd (fun _ => 0) (2 : Int32).toNatClampNeg (-1)) (3 : Int32).toNatClampNeg 0) (4 : Int32).toNatClampNeg 0) (5 : Int32).toNatClampNeg 0) (upd (upd (fun _ => 0) (0 : Int32).toNatClampNeg 3) (2 : Int32).toNatClampNeg 1) (0 : Int32).toNatClampNeg (56 : Int32).toNatClampNeg (6 : Int32).toNatClampNeg) (59 : Int32).toNatClampNeg 0) (60 : Int32).toNatClampNeg 1) (61 : Int32).toNatClampNeg 0)))] sz) [(h0, .inr (11, [.int th, .int 1, .int 0, .int 1, .ref rq, .ref sbq])), (rq, .inl (ci, 119, .inl (upd (upd (upd (va_cpy (upd (upd (upd (upd (fun _ => 0) (2 : Int32).toNatClampNeg (-1)) (3 : Int32).toNatClampNeg 0) (4 : Int32).toNatClampNeg 0) (5 : Int32).toNatClampNeg 0) (upd (upd (fun _ => 0) (0 : Int32).toNatClampNeg 3) (2 : Int32).toNatClampNeg 1) (0 : Int32).toNatClampNeg (56 : Int32).toNatClampNeg (6 : Int32).toNatClampNeg) (59 : Int32).toNatClampNeg 0) (60 : Int32).toNatClampNeg 1) (61 : Int32).toNatClampNeg 0)))] t) (va_A [(h0, .inr (11, [.int th, .int 1, .int 0, .int 1, .ref rq, .ref sbq])), (rq, .inl (ci, 119, .inl (upd (upd (upd (va_cpy (upd (upd (upd (upd (fun _ => 0) (2 : Int32).toNatClampNeg (-1)) (3 : Int32).toNatClampNeg 0) (4 : Int32).toNatClampNeg 0) (5 : Int32).toNatClampNeg 0) (upd (upd (fun _ => 0) (0 : Int32).toNatClampNeg 3) (2 : Int32).toNatClampNeg 1) (0 : Int32).toNatClampNeg (56 : Int32).toNatClampNeg (6 : Int32).toNatClampNeg) (59 : Int32).toNatClampNeg 0) (60 : Int32).toNatClampNeg 1) (61 : Int32).toNatClampNeg 0)))] sz)) 0 0 (va_A [(h0, .inr (11, [.int th, .int 1, .int 0, .int 1, .ref rq, .ref sbq])), (rq, .inl (ci, 119, .inl (upd (upd (upd (va_cpy (upd (upd (upd (upd (fun _ => 0) (2 : Int32).toNatClampNeg (-1)) (3 : Int32).toNatClampNeg 0) (4 : Int32).toNatClampNeg 0) (5 : Int32).toNatClampNeg 0) (upd (upd (fun _ => 0) (0 : Int32).toNatClampNeg 3) (2 : Int32).toNatClampNeg 1) (0 : Int32).toNatClampNeg (56 : Int32).toNatClampNeg (6 : Int32).toNatClampNeg) (59 : Int32).toNatClampNeg 0) (60 : Int32).toNatClampNeg 1) (61 : Int32).toNatClampNeg 0)))] sz) := by
  refine Met.ofW (cc := cX6_gu) (maxL := 3) (ret := (some .int)) (by decide) rfl ?_
  intro p e s m args below meth c s₁ B hml hv
  obtain ⟨rfl, hsz, hP, hK, hD0, hT⟩ := hv
  have hx := B.exec
  have hb := B.bytes
  have hr := B.returns
  have hts := atoms_spec (ws := v_c_gu5_3) B.pre
  have hown : s.vm.findClass RX6 = some m.cls := findClass_of_methodNamed B.named
  have hlocks := B.notSynchronized
  subst hsz
  have hD := hD0.self (sz := s.heap.size)
  generalize hAe : va_A [(h0, .inr (11, [.int th, .int 1, .int 0, .int 1, .ref rq, .ref sbq])), (rq, .inl (ci, 119, .inl (upd (upd (upd (va_cpy (upd (upd (upd (upd (fun _ => 0) (2 : Int32).toNatClampNeg (-1)) (3 : Int32).toNatClampNeg 0) (4 : Int32).toNatClampNeg 0) (5 : Int32).toNatClampNeg 0) (upd (upd (fun _ => 0) (0 : Int32).toNatClampNeg 3) (2 : Int32).toNatClampNeg 1) (0 : Int32).toNatClampNeg (56 : Int32).toNatClampNeg (6 : Int32).toNatClampNeg) (59 : Int32).toNatClampNeg 0) (60 : Int32).toNatClampNeg 1) (61 : Int32).toNatClampNeg 0)))] s.heap.size = A at hD hT ⊢
  have hA : ∀ q : Nat, s.heap.size ≤ q → A q := fun q h => by rw [← hAe]; exact Or.inr h
  have hS : va_S A s.heap s.heap [] := va_S.rf
  have hl := lv_entry ([.ref h0, .int 0, .int 3]) (n := 3) (Nat.le_of_ble_eq_true rfl)
  rw [lg_entry_eq]
  generalize (lg_sl ([.ref h0, .int 0, .int 3]) ++ List.replicate (3 - (lg_sl ([.ref h0, .int 0, .int 3])).length) Slot.unset).toArray = ls at hl ⊢
  have hl : lv_has ls 3 [(0, .ref h0), (1, .int 0), (2, .int 3)] := hl
  refine lv_aload_n hx hb dX6_gu_0 rfl (lv_at hl 0 rfl) ?_
  refine va_get (D := (dC, dI)) (ci := 11) (v := .ref rq) (C := RX6) (T := TX6) (N := 6) hx hb hts u_c_gu5_3_X6 hown hK hP 0 rfl rfl 4 (by decide) (hts (.fieldLink RX6 9 "HotelOfBellsModel" "row" "[I") (List.mem_of_getElem? (i := 1) rfl)) (fun _ h9 => h9) rfl dX6_gu_1 ?_
  refine lv_bipush (v := 56) hx hb dX6_gu_4 (by decide) ?_
  refine lv_bipush (v := 6) hx hb dX6_gu_6 (by decide) ?_
  refine lv_iload_n hx hb dX6_gu_8 rfl (lv_at hl 1 rfl) ?_
  refine lv_imul hx hb dX6_gu_9 ?_
  refine lv_topi (fun x_1 e_2 => ?_)
  obtain rfl : x_1 = 0 := e_2.trans (by decide)
  refine lv_iadd hx hb dX6_gu_10 ?_
  refine lv_topi (fun x_3 e_4 => ?_)
  obtain rfl : x_3 = 56 := e_4.trans (by decide)
  refine lv_iload_n hx hb dX6_gu_11 rfl (lv_at hl 2 rfl) ?_
  refine lv_iadd hx hb dX6_gu_12 ?_
  refine lv_topi (fun x_5 e_6 => ?_)
  obtain rfl : x_5 = 59 := e_6.trans (by decide)
  refine va_iald hx hb hK hP 1 0 rfl rfl (by unfold vp_in; decide) dX6_gu_13 ?_
  refine lv_topi (fun x_7 e_8 => ?_)
  obtain rfl : x_7 = 0 := e_8.trans (by decide +kernel)
  have hP9 := hP.sub (ws' := [(h0, .inr (11, [.int th, .int 1, .int 0, .int 1, .ref rq, .ref sbq])), (rq, .inl (ci, 119, .inl (upd (upd (upd (va_cpy (upd (upd (upd (upd (fun _ => 0) (2 : Int32).toNatClampNeg (-1)) (3 : Int32).toNatClampNeg 0) (4 : Int32).toNatClampNeg 0) (5 : Int32).toNatClampNeg 0) (upd (upd (fun _ => 0) (0 : Int32).toNatClampNeg 3) (2 : Int32).toNatClampNeg 1) (0 : Int32).toNatClampNeg (56 : Int32).toNatClampNeg (6 : Int32).toNatClampNeg) (59 : Int32).toNatClampNeg 0) (60 : Int32).toNatClampNeg 1) (61 : Int32).toNatClampNeg 0)))]) [0, 1] rfl
  have hD9 := hD.sub (ws' := [(h0, .inr (11, [.int th, .int 1, .int 0, .int 1, .ref rq, .ref sbq])), (rq, .inl (ci, 119, .inl (upd (upd (upd (va_cpy (upd (upd (upd (upd (fun _ => 0) (2 : Int32).toNatClampNeg (-1)) (3 : Int32).toNatClampNeg 0) (4 : Int32).toNatClampNeg 0) (5 : Int32).toNatClampNeg 0) (upd (upd (fun _ => 0) (0 : Int32).toNatClampNeg 3) (2 : Int32).toNatClampNeg 1) (0 : Int32).toNatClampNeg (56 : Int32).toNatClampNeg (6 : Int32).toNatClampNeg) (59 : Int32).toNatClampNeg 0) (60 : Int32).toNatClampNeg 1) (61 : Int32).toNatClampNeg 0)))]) [0, 1] (by decide) rfl
  have hK9 := hK.sub (tys' := [(ci, .int)]) [0] rfl
  exact W.iret (v := 0) hx hb hr (fun t ht hW => ⟨⟨0, (), rfl, rfl, by rw [ht]; exact hP9, va_K.moved hW.alike hK9, hD9⟩, hS.F ht⟩) hS.2.2 dX6_gu_14
def v_c_gu5_4 : List Cond := .code yX6_gu cX6_gu 3 (some .int) :: ([Cond.fieldLink RX6 9 "HotelOfBellsModel" "row" "[I"] ++ (wsX60 ++ []))
theorem u_c_gu5_4_X6 : ∀ w ∈ wsX60, w ∈ v_c_gu5_4 := fun _ h => List.mem_cons_of_mem _ (List.mem_append_right _ (List.mem_append_left _ h))
set_option maxHeartbeats 4000000 in
set_option maxRecDepth 100000 in
theorem c_gu5_4 (l : Launch) (hl9 : l.stackTraces = false) (dC : Nat → ClassId) (dI : Nat → Nat → Nat) (tE : Nat) (h0 : Nat) (rq : Nat) (sbq : Nat) (th : Int32) (ci : ClassId) (sz : Nat) : Met l yX6_gu v_c_gu5_4 ({ frames := 0, cells := 0, slots := 0, locals := 0 }) (va_Pc [.ref h0, .int 0, .int 4] (Pre0 dC dI tE sz [(ci, .int)] [(h0, .inr (11, [.int th, .int 1, .int 0, .int 1, .ref rq, .ref sbq])), (rq, .inl (ci, 119, .inl (upd (upd (upd (va_cpy (upd (upd (upd (upd (fun _ => 0) (2 : Int32).toNatClampNeg (-1)) (3 : Int32).toNatClampNeg 0) (4 : Int32).toNatClampNeg 0) (5 : Int32).toNatClampNeg 0) (upd (upd (fun _ => 0) (0 : Int32).toNatClampNeg 3) (2 : Int32).toNatClampNeg 1) (0 : Int32).toNatClampNeg (56 : Int32).toNatClampNeg (6 : Int32).toNatClampNeg) (59 : Int32).toNatClampNeg 0) (60 : Int32).toNatClampNeg 1) (61 : Int32).toNatClampNeg 0)))])) (va_Qi (fun (r : Int32) (_ : Unit) => r = 1) (fun _ t => Pst dC dI [(ci, .int)] (va_A [(h0, .inr (11, [.int th, .int 1, .int 0, .int 1, .ref rq, .ref sbq])), (rq, .inl (ci, 119, .inl (upd (upd (upd (va_cpy (upd (upd (upd (upd (fun _ => 0) (2 : Int32).toNatClampNeg (-1)) (3 : Int32).toNatClampNeg 0) (4 : Int32).toNatClampNeg 0) (5 : Int32).toNatClampNeg 0) (upd (upd (fun _ => 0) (0 : Int32).toNatClampNeg 3) (2 : Int32).toNatClampNeg 1) (0 : Int32).toNatClampNeg (56 : Int32).toNatClampNeg (6 : Int32).toNatClampNeg) (59 : Int32).toNatClampNeg 0) (60 : Int32).toNatClampNeg 1) (61 : Int32).toNatClampNeg 0)))] sz) [(h0, .inr (11, [.int th, .int 1, .int 0, .int 1, .ref rq, .ref sbq])), (rq, .inl (ci, 119, .inl (upd (upd (upd (va_cpy (upd (upd (upd (upd (fun _ => 0) (2 : Int32).toNatClampNeg (-1)) (3 : Int32).toNatClampNeg 0) (4 : Int32).toNatClampNeg 0) (5 : Int32).toNatClampNeg 0) (upd (upd (fun _ => 0) (0 : Int32).toNatClampNeg 3) (2 : Int32).toNatClampNeg 1) (0 : Int32).toNatClampNeg (56 : Int32).toNatClampNeg (6 : Int32).toNatClampNeg) (59 : Int32).toNatClampNeg 0) (60 : Int32).toNatClampNeg 1) (61 : Int32).toNatClampNeg 0)))] t) (va_A [(h0, .inr (11, [.int th, .int 1, .int 0, .int 1, .ref rq, .ref sbq])), (rq, .inl (ci, 119, .inl (upd (upd (upd (va_cpy (upd (upd (upd (upd (fun _ => 0) (2 : Int32).toNatClampNeg (-1)) (3 : Int32).toNatClampNeg 0) (4 : Int32).toNatClampNeg 0) (5 : Int32).toNatClampNeg 0) (upd (upd (fun _ => 0) (0 : Int32).toNatClampNeg 3) (2 : Int32).toNatClampNeg 1) (0 : Int32).toNatClampNeg (56 : Int32).toNatClampNeg (6 : Int32).toNatClampNeg) (59 : Int32).toNatClampNeg 0) (60 : Int32).toNatClampNeg 1) (61 : Int32).toNatClampNeg 0)))] sz)) 0 0 (va_A [(h0, .inr (11, [.int th, .int 1, .int 0, .int 1, .ref rq, .ref sbq])), (rq, .inl (ci, 119, .inl (upd (upd (upd (va_cpy (upd (upd (upd (upd (fun _ => 0) (2 : Int32).toNatClampNeg (-1)) (3 : Int32).toNatClampNeg 0) (4 : Int32).toNatClampNeg 0) (5 : Int32).toNatClampNeg 0) (upd (upd (fun _ => 0) (0 : Int32).toNatClampNeg 3) (2 : Int32).toNatClampNeg 1) (0 : Int32).toNatClampNeg (56 : Int32).toNatClampNeg (6 : Int32).toNatClampNeg) (59 : Int32).toNatClampNeg 0) (60 : Int32).toNatClampNeg 1) (61 : Int32).toNatClampNeg 0)))] sz) := by
  refine Met.ofW (cc := cX6_gu) (maxL := 3) (ret := (some .int)) (by decide) rfl ?_
  intro p e s m args below meth c s₁ B hml hv
  obtain ⟨rfl, hsz, hP, hK, hD0, hT⟩ := hv
  have hx := B.exec
  have hb := B.bytes
  have hr := B.returns
  have hts := atoms_spec (ws := v_c_gu5_4) B.pre
  have hown : s.vm.findClass RX6 = some m.cls := findClass_of_methodNamed B.named
  have hlocks := B.notSynchronized
  subst hsz
  have hD := hD0.self (sz := s.heap.size)
  generalize hAe : va_A [(h0, .inr (11, [.int th, .int 1, .int 0, .int 1, .ref rq, .ref sbq])), (rq, .inl (ci, 119, .inl (upd (upd (upd (va_cpy (upd (upd (upd (upd (fun _ => 0) (2 : Int32).toNatClampNeg (-1)) (3 : Int32).toNatClampNeg 0) (4 : Int32).toNatClampNeg 0) (5 : Int32).toNatClampNeg 0) (upd (upd (fun _ => 0) (0 : Int32).toNatClampNeg 3) (2 : Int32).toNatClampNeg 1) (0 : Int32).toNatClampNeg (56 : Int32).toNatClampNeg (6 : Int32).toNatClampNeg) (59 : Int32).toNatClampNeg 0) (60 : Int32).toNatClampNeg 1) (61 : Int32).toNatClampNeg 0)))] s.heap.size = A at hD hT ⊢
  have hA : ∀ q : Nat, s.heap.size ≤ q → A q := fun q h => by rw [← hAe]; exact Or.inr h
  have hS : va_S A s.heap s.heap [] := va_S.rf
  have hl := lv_entry ([.ref h0, .int 0, .int 4]) (n := 3) (Nat.le_of_ble_eq_true rfl)
  rw [lg_entry_eq]
  generalize (lg_sl ([.ref h0, .int 0, .int 4]) ++ List.replicate (3 - (lg_sl ([.ref h0, .int 0, .int 4])).length) Slot.unset).toArray = ls at hl ⊢
  have hl : lv_has ls 3 [(0, .ref h0), (1, .int 0), (2, .int 4)] := hl
  refine lv_aload_n hx hb dX6_gu_0 rfl (lv_at hl 0 rfl) ?_
  refine va_get (D := (dC, dI)) (ci := 11) (v := .ref rq) (C := RX6) (T := TX6) (N := 6) hx hb hts u_c_gu5_4_X6 hown hK hP 0 rfl rfl 4 (by decide) (hts (.fieldLink RX6 9 "HotelOfBellsModel" "row" "[I") (List.mem_of_getElem? (i := 1) rfl)) (fun _ h9 => h9) rfl dX6_gu_1 ?_
  refine lv_bipush (v := 56) hx hb dX6_gu_4 (by decide) ?_
  refine lv_bipush (v := 6) hx hb dX6_gu_6 (by decide) ?_
  refine lv_iload_n hx hb dX6_gu_8 rfl (lv_at hl 1 rfl) ?_
  refine lv_imul hx hb dX6_gu_9 ?_
  refine lv_topi (fun x_1 e_2 => ?_)
  obtain rfl : x_1 = 0 := e_2.trans (by decide)
  refine lv_iadd hx hb dX6_gu_10 ?_
  refine lv_topi (fun x_3 e_4 => ?_)
  obtain rfl : x_3 = 56 := e_4.trans (by decide)
  refine lv_iload_n hx hb dX6_gu_11 rfl (lv_at hl 2 rfl) ?_
  refine lv_iadd hx hb dX6_gu_12 ?_
  refine lv_topi (fun x_5 e_6 => ?_)
  obtain rfl : x_5 = 60 := e_6.trans (by decide)
  refine va_iald hx hb hK hP 1 0 rfl rfl (by unfold vp_in; decide) dX6_gu_13 ?_
  refine lv_topi (fun x_7 e_8 => ?_)
  obtain rfl : x_7 = 1 := e_8.trans (by decide +kernel)
  have hP9 := hP.sub (ws' := [(h0, .inr (11, [.int th, .int 1, .int 0, .int 1, .ref rq, .ref sbq])), (rq, .inl (ci, 119, .inl (upd (upd (upd (va_cpy (upd (upd (upd (upd (fun _ => 0) (2 : Int32).toNatClampNeg (-1)) (3 : Int32).toNatClampNeg 0) (4 : Int32).toNatClampNeg 0) (5 : Int32).toNatClampNeg 0) (upd (upd (fun _ => 0) (0 : Int32).toNatClampNeg 3) (2 : Int32).toNatClampNeg 1) (0 : Int32).toNatClampNeg (56 : Int32).toNatClampNeg (6 : Int32).toNatClampNeg) (59 : Int32).toNatClampNeg 0) (60 : Int32).toNatClampNeg 1) (61 : Int32).toNatClampNeg 0)))]) [0, 1] rfl
  have hD9 := hD.sub (ws' := [(h0, .inr (11, [.int th, .int 1, .int 0, .int 1, .ref rq, .ref sbq])), (rq, .inl (ci, 119, .inl (upd (upd (upd (va_cpy (upd (upd (upd (upd (fun _ => 0) (2 : Int32).toNatClampNeg (-1)) (3 : Int32).toNatClampNeg 0) (4 : Int32).toNatClampNeg 0) (5 : Int32).toNatClampNeg 0) (upd (upd (fun _ => 0) (0 : Int32).toNatClampNeg 3) (2 : Int32).toNatClampNeg 1) (0 : Int32).toNatClampNeg (56 : Int32).toNatClampNeg (6 : Int32).toNatClampNeg) (59 : Int32).toNatClampNeg 0) (60 : Int32).toNatClampNeg 1) (61 : Int32).toNatClampNeg 0)))]) [0, 1] (by decide) rfl
  have hK9 := hK.sub (tys' := [(ci, .int)]) [0] rfl
  exact W.iret (v := 1) hx hb hr (fun t ht hW => ⟨⟨1, (), rfl, rfl, by rw [ht]; exact hP9, va_K.moved hW.alike hK9, hD9⟩, hS.F ht⟩) hS.2.2 dX6_gu_14
def v_c_isHome5 : List Cond := .code yX6_isHome cX6_isHome 2 (some .boolean) :: ([Cond.code yX6_gu cX6_gu 3 (some .int), Cond.fieldLink RX6 9 "HotelOfBellsModel" "row" "[I", Cond.methodLink RX6 78 yX6_gu, Cond.instanceMethod yX6_gu, Cond.selects RX6 yX6_gu yX6_gu, Cond.initialized RX6] ++ (wsX60 ++ []))
theorem u_c_isHome5_X6 : ∀ w ∈ wsX60, w ∈ v_c_isHome5 := fun _ h => List.mem_cons_of_mem _ (List.mem_append_right _ (List.mem_append_left _ h))
theorem gg_c_isHome5_c_gu5_2 : GoodIn v_c_isHome5 v_c_gu5_2 := goodIn_r _ [1, 2, 7, 8, 9, 10, 11, 12] (by rfl) (by decide +kernel)
theorem gg_c_isHome5_c_gu5_0 : GoodIn v_c_isHome5 v_c_gu5_0 := goodIn_r _ [1, 2, 7, 8, 9, 10, 11, 12] (by rfl) (by decide +kernel)
theorem gg_c_isHome5_c_gu5_3 : GoodIn v_c_isHome5 v_c_gu5_3 := goodIn_r _ [1, 2, 7, 8, 9, 10, 11, 12] (by rfl) (by decide +kernel)
theorem gg_c_isHome5_c_gu5_1 : GoodIn v_c_isHome5 v_c_gu5_1 := goodIn_r _ [1, 2, 7, 8, 9, 10, 11, 12] (by rfl) (by decide +kernel)
theorem gg_c_isHome5_c_gu5_4 : GoodIn v_c_isHome5 v_c_gu5_4 := goodIn_r _ [1, 2, 7, 8, 9, 10, 11, 12] (by rfl) (by decide +kernel)
set_option maxHeartbeats 4000000 in
set_option maxRecDepth 100000 in
theorem c_isHome5 (l : Launch) (hl9 : l.stackTraces = false) (dC : Nat → ClassId) (dI : Nat → Nat → Nat) (tE : Nat) (h0 : Nat) (rq : Nat) (sbq : Nat) (th : Int32) (ci : ClassId) (sz : Nat) : Met l yX6_isHome v_c_isHome5 ({ frames := 1, cells := 0, slots := 0, locals := 22 }) (va_Pc [.ref h0, .int 0] (Pre0 dC dI tE sz [(ci, .int)] [(h0, .inr (11, [.int th, .int 1, .int 0, .int 1, .ref rq, .ref sbq])), (rq, .inl (ci, 119, .inl (upd (upd (upd (va_cpy (upd (upd (upd (upd (fun _ => 0) (2 : Int32).toNatClampNeg (-1)) (3 : Int32).toNatClampNeg 0) (4 : Int32).toNatClampNeg 0) (5 : Int32).toNatClampNeg 0) (upd (upd (fun _ => 0) (0 : Int32).toNatClampNeg 3) (2 : Int32).toNatClampNeg 1) (0 : Int32).toNatClampNeg (56 : Int32).toNatClampNeg (6 : Int32).toNatClampNeg) (59 : Int32).toNatClampNeg 0) (60 : Int32).toNatClampNeg 1) (61 : Int32).toNatClampNeg 0)))])) (va_Qi (fun (r : Int32) (_ : Unit) => r = 0) (fun _ t => Pst dC dI [(ci, .int)] (va_A [(h0, .inr (11, [.int th, .int 1, .int 0, .int 1, .ref rq, .ref sbq])), (rq, .inl (ci, 119, .inl (upd (upd (upd (va_cpy (upd (upd (upd (upd (fun _ => 0) (2 : Int32).toNatClampNeg (-1)) (3 : Int32).toNatClampNeg 0) (4 : Int32).toNatClampNeg 0) (5 : Int32).toNatClampNeg 0) (upd (upd (fun _ => 0) (0 : Int32).toNatClampNeg 3) (2 : Int32).toNatClampNeg 1) (0 : Int32).toNatClampNeg (56 : Int32).toNatClampNeg (6 : Int32).toNatClampNeg) (59 : Int32).toNatClampNeg 0) (60 : Int32).toNatClampNeg 1) (61 : Int32).toNatClampNeg 0)))] sz) [(h0, .inr (11, [.int th, .int 1, .int 0, .int 1, .ref rq, .ref sbq])), (rq, .inl (ci, 119, .inl (upd (upd (upd (va_cpy (upd (upd (upd (upd (fun _ => 0) (2 : Int32).toNatClampNeg (-1)) (3 : Int32).toNatClampNeg 0) (4 : Int32).toNatClampNeg 0) (5 : Int32).toNatClampNeg 0) (upd (upd (fun _ => 0) (0 : Int32).toNatClampNeg 3) (2 : Int32).toNatClampNeg 1) (0 : Int32).toNatClampNeg (56 : Int32).toNatClampNeg (6 : Int32).toNatClampNeg) (59 : Int32).toNatClampNeg 0) (60 : Int32).toNatClampNeg 1) (61 : Int32).toNatClampNeg 0)))] t) (va_A [(h0, .inr (11, [.int th, .int 1, .int 0, .int 1, .ref rq, .ref sbq])), (rq, .inl (ci, 119, .inl (upd (upd (upd (va_cpy (upd (upd (upd (upd (fun _ => 0) (2 : Int32).toNatClampNeg (-1)) (3 : Int32).toNatClampNeg 0) (4 : Int32).toNatClampNeg 0) (5 : Int32).toNatClampNeg 0) (upd (upd (fun _ => 0) (0 : Int32).toNatClampNeg 3) (2 : Int32).toNatClampNeg 1) (0 : Int32).toNatClampNeg (56 : Int32).toNatClampNeg (6 : Int32).toNatClampNeg) (59 : Int32).toNatClampNeg 0) (60 : Int32).toNatClampNeg 1) (61 : Int32).toNatClampNeg 0)))] sz)) 0 0 (va_A [(h0, .inr (11, [.int th, .int 1, .int 0, .int 1, .ref rq, .ref sbq])), (rq, .inl (ci, 119, .inl (upd (upd (upd (va_cpy (upd (upd (upd (upd (fun _ => 0) (2 : Int32).toNatClampNeg (-1)) (3 : Int32).toNatClampNeg 0) (4 : Int32).toNatClampNeg 0) (5 : Int32).toNatClampNeg 0) (upd (upd (fun _ => 0) (0 : Int32).toNatClampNeg 3) (2 : Int32).toNatClampNeg 1) (0 : Int32).toNatClampNeg (56 : Int32).toNatClampNeg (6 : Int32).toNatClampNeg) (59 : Int32).toNatClampNeg 0) (60 : Int32).toNatClampNeg 1) (61 : Int32).toNatClampNeg 0)))] sz) := by
  refine Met.ofW (cc := cX6_isHome) (maxL := 2) (ret := (some .boolean)) (by decide) rfl ?_
  intro p e s m args below meth c s₁ B hml hv
  obtain ⟨rfl, hsz, hP, hK, hD0, hT⟩ := hv
  have hx := B.exec
  have hb := B.bytes
  have hr := B.returns
  have hts := atoms_spec (ws := v_c_isHome5) B.pre
  have hown : s.vm.findClass RX6 = some m.cls := findClass_of_methodNamed B.named
  have hlocks := B.notSynchronized
  subst hsz
  have hD := hD0.self (sz := s.heap.size)
  generalize hAe : va_A [(h0, .inr (11, [.int th, .int 1, .int 0, .int 1, .ref rq, .ref sbq])), (rq, .inl (ci, 119, .inl (upd (upd (upd (va_cpy (upd (upd (upd (upd (fun _ => 0) (2 : Int32).toNatClampNeg (-1)) (3 : Int32).toNatClampNeg 0) (4 : Int32).toNatClampNeg 0) (5 : Int32).toNatClampNeg 0) (upd (upd (fun _ => 0) (0 : Int32).toNatClampNeg 3) (2 : Int32).toNatClampNeg 1) (0 : Int32).toNatClampNeg (56 : Int32).toNatClampNeg (6 : Int32).toNatClampNeg) (59 : Int32).toNatClampNeg 0) (60 : Int32).toNatClampNeg 1) (61 : Int32).toNatClampNeg 0)))] s.heap.size = A at hD hT ⊢
  have hA : ∀ q : Nat, s.heap.size ≤ q → A q := fun q h => by rw [← hAe]; exact Or.inr h
  have hS : va_S A s.heap s.heap [] := va_S.rf
  have hl := lv_entry ([.ref h0, .int 0]) (n := 2) (Nat.le_of_ble_eq_true rfl)
  rw [lg_entry_eq]
  generalize (lg_sl ([.ref h0, .int 0]) ++ List.replicate (2 - (lg_sl ([.ref h0, .int 0])).length) Slot.unset).toArray = ls at hl ⊢
  have hl : lv_has ls 2 [(0, .ref h0), (1, .int 0)] := hl
  refine lv_aload_n hx hb dX6_isHome_0 rfl (lv_at hl 0 rfl) ?_
  refine lv_iload_n hx hb dX6_isHome_1 rfl (lv_at hl 1 rfl) ?_
  refine lv_iconst (v := 2) hx hb dX6_isHome_2 (by decide) ?_
  have hPc := hP.sub (ws' := [(h0, .inr (11, [.int th, .int 1, .int 0, .int 1, .ref rq, .ref sbq])), (rq, .inl (ci, 119, .inl (upd (upd (upd (va_cpy (upd (upd (upd (upd (fun _ => 0) (2 : Int32).toNatClampNeg (-1)) (3 : Int32).toNatClampNeg 0) (4 : Int32).toNatClampNeg 0) (5 : Int32).toNatClampNeg 0) (upd (upd (fun _ => 0) (0 : Int32).toNatClampNeg 3) (2 : Int32).toNatClampNeg 1) (0 : Int32).toNatClampNeg (56 : Int32).toNatClampNeg (6 : Int32).toNatClampNeg) (59 : Int32).toNatClampNeg 0) (60 : Int32).toNatClampNeg 1) (61 : Int32).toNatClampNeg 0)))]) [0, 1] rfl
  have hDc := hD.sub (ws' := [(h0, .inr (11, [.int th, .int 1, .int 0, .int 1, .ref rq, .ref sbq])), (rq, .inl (ci, 119, .inl (upd (upd (upd (va_cpy (upd (upd (upd (upd (fun _ => 0) (2 : Int32).toNatClampNeg (-1)) (3 : Int32).toNatClampNeg 0) (4 : Int32).toNatClampNeg 0) (5 : Int32).toNatClampNeg 0) (upd (upd (fun _ => 0) (0 : Int32).toNatClampNeg 3) (2 : Int32).toNatClampNeg 1) (0 : Int32).toNatClampNeg (56 : Int32).toNatClampNeg (6 : Int32).toNatClampNeg) (59 : Int32).toNatClampNeg 0) (60 : Int32).toNatClampNeg 1) (61 : Int32).toNatClampNeg 0)))]) [0, 1] (by decide) rfl
  have hKc := hK.sub (tys' := [(ci, .int)]) [0] rfl
  have hFc := va_free (wc := [(h0, .inr (11, [.int th, .int 1, .int 0, .int 1, .ref rq, .ref sbq])), (rq, .inl (ci, 119, .inl (upd (upd (upd (va_cpy (upd (upd (upd (upd (fun _ => 0) (2 : Int32).toNatClampNeg (-1)) (3 : Int32).toNatClampNeg 0) (4 : Int32).toNatClampNeg 0) (5 : Int32).toNatClampNeg 0) (upd (upd (fun _ => 0) (0 : Int32).toNatClampNeg 3) (2 : Int32).toNatClampNeg 1) (0 : Int32).toNatClampNeg (56 : Int32).toNatClampNeg (6 : Int32).toNatClampNeg) (59 : Int32).toNatClampNeg 0) (60 : Int32).toNatClampNeg 1) (61 : Int32).toNatClampNeg 0)))]) hD hS hA [0, 1] rfl
  refine va_calli (va_runV (As := [.int 0, .int 2]) (rest := []) ⟨hx, hb, hml, hown, hts⟩ (c_gu5_2 l hl9 dC dI tE h0 rq sbq th ci _ ) (cwV 2 hts (goodIn_app (goodIn_r _ [3, 4, 5, 6] (by rfl) (by decide +kernel)) gg_c_isHome5_c_gu5_2) rfl rfl rfl (by decide +kernel) ⟨Nat.le_of_ble_eq_true rfl, Nat.le_of_ble_eq_true rfl⟩) ⟨Pre0.blind, va_recv hKc hPc (ci := 11) (q0 := 0) rfl rfl, Pre0.give hPc hKc hDc hT hS hFc⟩ rfl rfl hl.1 rfl (lv_room (Nat.le_of_ble_eq_true rfl)) dX6_isHome_3 ⟨Nat.le_of_ble_eq_true rfl, Nat.le_of_ble_eq_true rfl⟩) hS (fun q _ h => hFc q h) hFc (fun r_1 u t H1 locs ht hvm hw hB hz1 hk1 hS => ?_)
  obtain ⟨hP1, hK1, hD1⟩ := hB
  rw [ht] at hP1
  have hK1 := va_K.moved hvm.symm hK1
  obtain ⟨hP, hD⟩ := va_join (wr := []) (w1 := [(h0, .inr (11, [.int th, .int 1, .int 0, .int 1, .ref rq, .ref sbq])), (rq, .inl (ci, 119, .inl (upd (upd (upd (va_cpy (upd (upd (upd (upd (fun _ => 0) (2 : Int32).toNatClampNeg (-1)) (3 : Int32).toNatClampNeg 0) (4 : Int32).toNatClampNeg 0) (5 : Int32).toNatClampNeg 0) (upd (upd (fun _ => 0) (0 : Int32).toNatClampNeg 3) (2 : Int32).toNatClampNeg 1) (0 : Int32).toNatClampNeg (56 : Int32).toNatClampNeg (6 : Int32).toNatClampNeg) (59 : Int32).toNatClampNeg 0) (60 : Int32).toNatClampNeg 1) (61 : Int32).toNatClampNeg 0)))]) hP hD [0, 1] [] rfl rfl (by decide) (by decide) hk1 hFc hP1 hD1
  generalize H1 = H at hP hS ⊢
  have hP : va_P (dC, dI) vwCl [(h0, .inr (11, [.int th, .int 1, .int 0, .int 1, .ref rq, .ref sbq])), (rq, .inl (ci, 119, .inl (upd (upd (upd (va_cpy (upd (upd (upd (upd (fun _ => 0) (2 : Int32).toNatClampNeg (-1)) (3 : Int32).toNatClampNeg 0) (4 : Int32).toNatClampNeg 0) (5 : Int32).toNatClampNeg 0) (upd (upd (fun _ => 0) (0 : Int32).toNatClampNeg 3) (2 : Int32).toNatClampNeg 1) (0 : Int32).toNatClampNeg (56 : Int32).toNatClampNeg (6 : Int32).toNatClampNeg) (59 : Int32).toNatClampNeg 0) (60 : Int32).toNatClampNeg 1) (61 : Int32).toNatClampNeg 0)))] H := hP
  have hD : va_D A [(h0, .inr (11, [.int th, .int 1, .int 0, .int 1, .ref rq, .ref sbq])), (rq, .inl (ci, 119, .inl (upd (upd (upd (va_cpy (upd (upd (upd (upd (fun _ => 0) (2 : Int32).toNatClampNeg (-1)) (3 : Int32).toNatClampNeg 0) (4 : Int32).toNatClampNeg 0) (5 : Int32).toNatClampNeg 0) (upd (upd (fun _ => 0) (0 : Int32).toNatClampNeg 3) (2 : Int32).toNatClampNeg 1) (0 : Int32).toNatClampNeg (56 : Int32).toNatClampNeg (6 : Int32).toNatClampNeg) (59 : Int32).toNatClampNeg 0) (60 : Int32).toNatClampNeg 1) (61 : Int32).toNatClampNeg 0)))] := hD
  refine W.widen (k := 0) (n := 0) (by omega) (by omega) ?_
  obtain rfl : r_1 = (-1) := hw
  refine lv_iconst (v := (-1)) hx hb dX6_isHome_6 (by decide) ?_
  refine lv_icmp_ne (tgt := 44) hx hb dX6_isHome_7 (by decide) (fun c_2 => absurd (by decide) c_2) (fun _ => ?_)
  refine lv_aload_n hx hb dX6_isHome_10 rfl (lv_at hl 0 rfl) ?_
  refine lv_iload_n hx hb dX6_isHome_11 rfl (lv_at hl 1 rfl) ?_
  refine lv_iconst (v := 0) hx hb dX6_isHome_12 (by decide) ?_
  have hPc := hP.sub (ws' := [(h0, .inr (11, [.int th, .int 1, .int 0, .int 1, .ref rq, .ref sbq])), (rq, .inl (ci, 119, .inl (upd (upd (upd (va_cpy (upd (upd (upd (upd (fun _ => 0) (2 : Int32).toNatClampNeg (-1)) (3 : Int32).toNatClampNeg 0) (4 : Int32).toNatClampNeg 0) (5 : Int32).toNatClampNeg 0) (upd (upd (fun _ => 0) (0 : Int32).toNatClampNeg 3) (2 : Int32).toNatClampNeg 1) (0 : Int32).toNatClampNeg (56 : Int32).toNatClampNeg (6 : Int32).toNatClampNeg) (59 : Int32).toNatClampNeg 0) (60 : Int32).toNatClampNeg 1) (61 : Int32).toNatClampNeg 0)))]) [0, 1] rfl
  have hDc := hD.sub (ws' := [(h0, .inr (11, [.int th, .int 1, .int 0, .int 1, .ref rq, .ref sbq])), (rq, .inl (ci, 119, .inl (upd (upd (upd (va_cpy (upd (upd (upd (upd (fun _ => 0) (2 : Int32).toNatClampNeg (-1)) (3 : Int32).toNatClampNeg 0) (4 : Int32).toNatClampNeg 0) (5 : Int32).toNatClampNeg 0) (upd (upd (fun _ => 0) (0 : Int32).toNatClampNeg 3) (2 : Int32).toNatClampNeg 1) (0 : Int32).toNatClampNeg (56 : Int32).toNatClampNeg (6 : Int32).toNatClampNeg) (59 : Int32).toNatClampNeg 0) (60 : Int32).toNatClampNeg 1) (61 : Int32).toNatClampNeg 0)))]) [0, 1] (by decide) rfl
  have hKc := hK.sub (tys' := [(ci, .int)]) [0] rfl
  have hFc := va_free (wc := [(h0, .inr (11, [.int th, .int 1, .int 0, .int 1, .ref rq, .ref sbq])), (rq, .inl (ci, 119, .inl (upd (upd (upd (va_cpy (upd (upd (upd (upd (fun _ => 0) (2 : Int32).toNatClampNeg (-1)) (3 : Int32).toNatClampNeg 0) (4 : Int32).toNatClampNeg 0) (5 : Int32).toNatClampNeg 0) (upd (upd (fun _ => 0) (0 : Int32).toNatClampNeg 3) (2 : Int32).toNatClampNeg 1) (0 : Int32).toNatClampNeg (56 : Int32).toNatClampNeg (6 : Int32).toNatClampNeg) (59 : Int32).toNatClampNeg 0) (60 : Int32).toNatClampNeg 1) (61 : Int32).toNatClampNeg 0)))]) hD hS hA [0, 1] rfl
  refine va_calli (va_runV (As := [.int 0, .int 0]) (rest := []) ⟨hx, hb, hml, hown, hts⟩ (c_gu5_0 l hl9 dC dI tE h0 rq sbq th ci _ ) (cwV 2 hts (goodIn_app (goodIn_r _ [3, 4, 5, 6] (by rfl) (by decide +kernel)) gg_c_isHome5_c_gu5_0) rfl rfl rfl (by decide +kernel) ⟨Nat.le_of_ble_eq_true rfl, Nat.le_of_ble_eq_true rfl⟩) ⟨Pre0.blind, va_recv hKc hPc (ci := 11) (q0 := 0) rfl rfl, Pre0.give hPc hKc hDc hT hS hFc⟩ rfl rfl hl.1 rfl (lv_room (Nat.le_of_ble_eq_true rfl)) dX6_isHome_13 ⟨Nat.le_of_ble_eq_true rfl, Nat.le_of_ble_eq_true rfl⟩) hS (fun q _ h => hFc q h) hFc (fun r_3 u t H1 locs ht hvm hw hB hz1 hk1 hS => ?_)
  obtain ⟨hP1, hK1, hD1⟩ := hB
  rw [ht] at hP1
  have hK1 := va_K.moved hvm.symm hK1
  obtain ⟨hP, hD⟩ := va_join (wr := []) (w1 := [(h0, .inr (11, [.int th, .int 1, .int 0, .int 1, .ref rq, .ref sbq])), (rq, .inl (ci, 119, .inl (upd (upd (upd (va_cpy (upd (upd (upd (upd (fun _ => 0) (2 : Int32).toNatClampNeg (-1)) (3 : Int32).toNatClampNeg 0) (4 : Int32).toNatClampNeg 0) (5 : Int32).toNatClampNeg 0) (upd (upd (fun _ => 0) (0 : Int32).toNatClampNeg 3) (2 : Int32).toNatClampNeg 1) (0 : Int32).toNatClampNeg (56 : Int32).toNatClampNeg (6 : Int32).toNatClampNeg) (59 : Int32).toNatClampNeg 0) (60 : Int32).toNatClampNeg 1) (61 : Int32).toNatClampNeg 0)))]) hP hD [0, 1] [] rfl rfl (by decide) (by decide) hk1 hFc hP1 hD1
  generalize H1 = H at hP hS ⊢
  have hP : va_P (dC, dI) vwCl [(h0, .inr (11, [.int th, .int 1, .int 0, .int 1, .ref rq, .ref sbq])), (rq, .inl (ci, 119, .inl (upd (upd (upd (va_cpy (upd (upd (upd (upd (fun _ => 0) (2 : Int32).toNatClampNeg (-1)) (3 : Int32).toNatClampNeg 0) (4 : Int32).toNatClampNeg 0) (5 : Int32).toNatClampNeg 0) (upd (upd (fun _ => 0) (0 : Int32).toNatClampNeg 3) (2 : Int32).toNatClampNeg 1) (0 : Int32).toNatClampNeg (56 : Int32).toNatClampNeg (6 : Int32).toNatClampNeg) (59 : Int32).toNatClampNeg 0) (60 : Int32).toNatClampNeg 1) (61 : Int32).toNatClampNeg 0)))] H := hP
  have hD : va_D A [(h0, .inr (11, [.int th, .int 1, .int 0, .int 1, .ref rq, .ref sbq])), (rq, .inl (ci, 119, .inl (upd (upd (upd (va_cpy (upd (upd (upd (upd (fun _ => 0) (2 : Int32).toNatClampNeg (-1)) (3 : Int32).toNatClampNeg 0) (4 : Int32).toNatClampNeg 0) (5 : Int32).toNatClampNeg 0) (upd (upd (fun _ => 0) (0 : Int32).toNatClampNeg 3) (2 : Int32).toNatClampNeg 1) (0 : Int32).toNatClampNeg (56 : Int32).toNatClampNeg (6 : Int32).toNatClampNeg) (59 : Int32).toNatClampNeg 0) (60 : Int32).toNatClampNeg 1) (61 : Int32).toNatClampNeg 0)))] := hD
  refine W.widen (k := 0) (n := 0) (by omega) (by omega) ?_
  obtain rfl : r_3 = 0 := hw
  refine lv_aload_n hx hb dX6_isHome_16 rfl (lv_at hl 0 rfl) ?_
  refine lv_iload_n hx hb dX6_isHome_17 rfl (lv_at hl 1 rfl) ?_
  refine lv_iconst (v := 3) hx hb dX6_isHome_18 (by decide) ?_
  have hPc := hP.sub (ws' := [(h0, .inr (11, [.int th, .int 1, .int 0, .int 1, .ref rq, .ref sbq])), (rq, .inl (ci, 119, .inl (upd (upd (upd (va_cpy (upd (upd (upd (upd (fun _ => 0) (2 : Int32).toNatClampNeg (-1)) (3 : Int32).toNatClampNeg 0) (4 : Int32).toNatClampNeg 0) (5 : Int32).toNatClampNeg 0) (upd (upd (fun _ => 0) (0 : Int32).toNatClampNeg 3) (2 : Int32).toNatClampNeg 1) (0 : Int32).toNatClampNeg (56 : Int32).toNatClampNeg (6 : Int32).toNatClampNeg) (59 : Int32).toNatClampNeg 0) (60 : Int32).toNatClampNeg 1) (61 : Int32).toNatClampNeg 0)))]) [0, 1] rfl
  have hDc := hD.sub (ws' := [(h0, .inr (11, [.int th, .int 1, .int 0, .int 1, .ref rq, .ref sbq])), (rq, .inl (ci, 119, .inl (upd (upd (upd (va_cpy (upd (upd (upd (upd (fun _ => 0) (2 : Int32).toNatClampNeg (-1)) (3 : Int32).toNatClampNeg 0) (4 : Int32).toNatClampNeg 0) (5 : Int32).toNatClampNeg 0) (upd (upd (fun _ => 0) (0 : Int32).toNatClampNeg 3) (2 : Int32).toNatClampNeg 1) (0 : Int32).toNatClampNeg (56 : Int32).toNatClampNeg (6 : Int32).toNatClampNeg) (59 : Int32).toNatClampNeg 0) (60 : Int32).toNatClampNeg 1) (61 : Int32).toNatClampNeg 0)))]) [0, 1] (by decide) rfl
  have hKc := hK.sub (tys' := [(ci, .int)]) [0] rfl
  have hFc := va_free (wc := [(h0, .inr (11, [.int th, .int 1, .int 0, .int 1, .ref rq, .ref sbq])), (rq, .inl (ci, 119, .inl (upd (upd (upd (va_cpy (upd (upd (upd (upd (fun _ => 0) (2 : Int32).toNatClampNeg (-1)) (3 : Int32).toNatClampNeg 0) (4 : Int32).toNatClampNeg 0) (5 : Int32).toNatClampNeg 0) (upd (upd (fun _ => 0) (0 : Int32).toNatClampNeg 3) (2 : Int32).toNatClampNeg 1) (0 : Int32).toNatClampNeg (56 : Int32).toNatClampNeg (6 : Int32).toNatClampNeg) (59 : Int32).toNatClampNeg 0) (60 : Int32).toNatClampNeg 1) (61 : Int32).toNatClampNeg 0)))]) hD hS hA [0, 1] rfl
  refine va_calli (va_runV (As := [.int 0, .int 3]) (rest := [.int 0]) ⟨hx, hb, hml, hown, hts⟩ (c_gu5_3 l hl9 dC dI tE h0 rq sbq th ci _ ) (cwV 2 hts (goodIn_app (goodIn_r _ [3, 4, 5, 6] (by rfl) (by decide +kernel)) gg_c_isHome5_c_gu5_3) rfl rfl rfl (by decide +kernel) ⟨Nat.le_of_ble_eq_true rfl, Nat.le_of_ble_eq_true rfl⟩) ⟨Pre0.blind, va_recv hKc hPc (ci := 11) (q0 := 0) rfl rfl, Pre0.give hPc hKc hDc hT hS hFc⟩ rfl rfl hl.1 rfl (lv_room (Nat.le_of_ble_eq_true rfl)) dX6_isHome_19 ⟨Nat.le_of_ble_eq_true rfl, Nat.le_of_ble_eq_true rfl⟩) hS (fun q _ h => hFc q h) hFc (fun r_4 u t H1 locs ht hvm hw hB hz1 hk1 hS => ?_)
  obtain ⟨hP1, hK1, hD1⟩ := hB
  rw [ht] at hP1
  have hK1 := va_K.moved hvm.symm hK1
  obtain ⟨hP, hD⟩ := va_join (wr := []) (w1 := [(h0, .inr (11, [.int th, .int 1, .int 0, .int 1, .ref rq, .ref sbq])), (rq, .inl (ci, 119, .inl (upd (upd (upd (va_cpy (upd (upd (upd (upd (fun _ => 0) (2 : Int32).toNatClampNeg (-1)) (3 : Int32).toNatClampNeg 0) (4 : Int32).toNatClampNeg 0) (5 : Int32).toNatClampNeg 0) (upd (upd (fun _ => 0) (0 : Int32).toNatClampNeg 3) (2 : Int32).toNatClampNeg 1) (0 : Int32).toNatClampNeg (56 : Int32).toNatClampNeg (6 : Int32).toNatClampNeg) (59 : Int32).toNatClampNeg 0) (60 : Int32).toNatClampNeg 1) (61 : Int32).toNatClampNeg 0)))]) hP hD [0, 1] [] rfl rfl (by decide) (by decide) hk1 hFc hP1 hD1
  generalize H1 = H at hP hS ⊢
  have hP : va_P (dC, dI) vwCl [(h0, .inr (11, [.int th, .int 1, .int 0, .int 1, .ref rq, .ref sbq])), (rq, .inl (ci, 119, .inl (upd (upd (upd (va_cpy (upd (upd (upd (upd (fun _ => 0) (2 : Int32).toNatClampNeg (-1)) (3 : Int32).toNatClampNeg 0) (4 : Int32).toNatClampNeg 0) (5 : Int32).toNatClampNeg 0) (upd (upd (fun _ => 0) (0 : Int32).toNatClampNeg 3) (2 : Int32).toNatClampNeg 1) (0 : Int32).toNatClampNeg (56 : Int32).toNatClampNeg (6 : Int32).toNatClampNeg) (59 : Int32).toNatClampNeg 0) (60 : Int32).toNatClampNeg 1) (61 : Int32).toNatClampNeg 0)))] H := hP
  have hD : va_D A [(h0, .inr (11, [.int th, .int 1, .int 0, .int 1, .ref rq, .ref sbq])), (rq, .inl (ci, 119, .inl (upd (upd (upd (va_cpy (upd (upd (upd (upd (fun _ => 0) (2 : Int32).toNatClampNeg (-1)) (3 : Int32).toNatClampNeg 0) (4 : Int32).toNatClampNeg 0) (5 : Int32).toNatClampNeg 0) (upd (upd (fun _ => 0) (0 : Int32).toNatClampNeg 3) (2 : Int32).toNatClampNeg 1) (0 : Int32).toNatClampNeg (56 : Int32).toNatClampNeg (6 : Int32).toNatClampNeg) (59 : Int32).toNatClampNeg 0) (60 : Int32).toNatClampNeg 1) (61 : Int32).toNatClampNeg 0)))] := hD
  refine W.widen (k := 0) (n := 0) (by omega) (by omega) ?_
  obtain rfl : r_4 = 0 := hw
  refine lv_icmp_ne (tgt := 44) hx hb dX6_isHome_22 (by decide) (fun c_5 => absurd (by decide) c_5) (fun _ => ?_)
  refine lv_aload_n hx hb dX6_isHome_25 rfl (lv_at hl 0 rfl) ?_
  refine lv_iload_n hx hb dX6_isHome_26 rfl (lv_at hl 1 rfl) ?_
  refine lv_iconst (v := 1) hx hb dX6_isHome_27 (by decide) ?_
  have hPc := hP.sub (ws' := [(h0, .inr (11, [.int th, .int 1, .int 0, .int 1, .ref rq, .ref sbq])), (rq, .inl (ci, 119, .inl (upd (upd (upd (va_cpy (upd (upd (upd (upd (fun _ => 0) (2 : Int32).toNatClampNeg (-1)) (3 : Int32).toNatClampNeg 0) (4 : Int32).toNatClampNeg 0) (5 : Int32).toNatClampNeg 0) (upd (upd (fun _ => 0) (0 : Int32).toNatClampNeg 3) (2 : Int32).toNatClampNeg 1) (0 : Int32).toNatClampNeg (56 : Int32).toNatClampNeg (6 : Int32).toNatClampNeg) (59 : Int32).toNatClampNeg 0) (60 : Int32).toNatClampNeg 1) (61 : Int32).toNatClampNeg 0)))]) [0, 1] rfl
  have hDc := hD.sub (ws' := [(h0, .inr (11, [.int th, .int 1, .int 0, .int 1, .ref rq, .ref sbq])), (rq, .inl (ci, 119, .inl (upd (upd (upd (va_cpy (upd (upd (upd (upd (fun _ => 0) (2 : Int32).toNatClampNeg (-1)) (3 : Int32).toNatClampNeg 0) (4 : Int32).toNatClampNeg 0) (5 : Int32).toNatClampNeg 0) (upd (upd (fun _ => 0) (0 : Int32).toNatClampNeg 3) (2 : Int32).toNatClampNeg 1) (0 : Int32).toNatClampNeg (56 : Int32).toNatClampNeg (6 : Int32).toNatClampNeg) (59 : Int32).toNatClampNeg 0) (60 : Int32).toNatClampNeg 1) (61 : Int32).toNatClampNeg 0)))]) [0, 1] (by decide) rfl
  have hKc := hK.sub (tys' := [(ci, .int)]) [0] rfl
  have hFc := va_free (wc := [(h0, .inr (11, [.int th, .int 1, .int 0, .int 1, .ref rq, .ref sbq])), (rq, .inl (ci, 119, .inl (upd (upd (upd (va_cpy (upd (upd (upd (upd (fun _ => 0) (2 : Int32).toNatClampNeg (-1)) (3 : Int32).toNatClampNeg 0) (4 : Int32).toNatClampNeg 0) (5 : Int32).toNatClampNeg 0) (upd (upd (fun _ => 0) (0 : Int32).toNatClampNeg 3) (2 : Int32).toNatClampNeg 1) (0 : Int32).toNatClampNeg (56 : Int32).toNatClampNeg (6 : Int32).toNatClampNeg) (59 : Int32).toNatClampNeg 0) (60 : Int32).toNatClampNeg 1) (61 : Int32).toNatClampNeg 0)))]) hD hS hA [0, 1] rfl
  refine va_calli (va_runV (As := [.int 0, .int 1]) (rest := []) ⟨hx, hb, hml, hown, hts⟩ (c_gu5_1 l hl9 dC dI tE h0 rq sbq th ci _ ) (cwV 2 hts (goodIn_app (goodIn_r _ [3, 4, 5, 6] (by rfl) (by decide +kernel)) gg_c_isHome5_c_gu5_1) rfl rfl rfl (by decide +kernel) ⟨Nat.le_of_ble_eq_true rfl, Nat.le_of_ble_eq_true rfl⟩) ⟨Pre0.blind, va_recv hKc hPc (ci := 11) (q0 := 0) rfl rfl, Pre0.give hPc hKc hDc hT hS hFc⟩ rfl rfl hl.1 rfl (lv_room (Nat.le_of_ble_eq_true rfl)) dX6_isHome_28 ⟨Nat.le_of_ble_eq_true rfl, Nat.le_of_ble_eq_true rfl⟩) hS (fun q _ h => hFc q h) hFc (fun r_6 u t H1 locs ht hvm hw hB hz1 hk1 hS => ?_)
  obtain ⟨hP1, hK1, hD1⟩ := hB
  rw [ht] at hP1
  have hK1 := va_K.moved hvm.symm hK1
  obtain ⟨hP, hD⟩ := va_join (wr := []) (w1 := [(h0, .inr (11, [.int th, .int 1, .int 0, .int 1, .ref rq, .ref sbq])), (rq, .inl (ci, 119, .inl (upd (upd (upd (va_cpy (upd (upd (upd (upd (fun _ => 0) (2 : Int32).toNatClampNeg (-1)) (3 : Int32).toNatClampNeg 0) (4 : Int32).toNatClampNeg 0) (5 : Int32).toNatClampNeg 0) (upd (upd (fun _ => 0) (0 : Int32).toNatClampNeg 3) (2 : Int32).toNatClampNeg 1) (0 : Int32).toNatClampNeg (56 : Int32).toNatClampNeg (6 : Int32).toNatClampNeg) (59 : Int32).toNatClampNeg 0) (60 : Int32).toNatClampNeg 1) (61 : Int32).toNatClampNeg 0)))]) hP hD [0, 1] [] rfl rfl (by decide) (by decide) hk1 hFc hP1 hD1
  generalize H1 = H at hP hS ⊢
  have hP : va_P (dC, dI) vwCl [(h0, .inr (11, [.int th, .int 1, .int 0, .int 1, .ref rq, .ref sbq])), (rq, .inl (ci, 119, .inl (upd (upd (upd (va_cpy (upd (upd (upd (upd (fun _ => 0) (2 : Int32).toNatClampNeg (-1)) (3 : Int32).toNatClampNeg 0) (4 : Int32).toNatClampNeg 0) (5 : Int32).toNatClampNeg 0) (upd (upd (fun _ => 0) (0 : Int32).toNatClampNeg 3) (2 : Int32).toNatClampNeg 1) (0 : Int32).toNatClampNeg (56 : Int32).toNatClampNeg (6 : Int32).toNatClampNeg) (59 : Int32).toNatClampNeg 0) (60 : Int32).toNatClampNeg 1) (61 : Int32).toNatClampNeg 0)))] H := hP
  have hD : va_D A [(h0, .inr (11, [.int th, .int 1, .int 0, .int 1, .ref rq, .ref sbq])), (rq, .inl (ci, 119, .inl (upd (upd (upd (va_cpy (upd (upd (upd (upd (fun _ => 0) (2 : Int32).toNatClampNeg (-1)) (3 : Int32).toNatClampNeg 0) (4 : Int32).toNatClampNeg 0) (5 : Int32).toNatClampNeg 0) (upd (upd (fun _ => 0) (0 : Int32).toNatClampNeg 3) (2 : Int32).toNatClampNeg 1) (0 : Int32).toNatClampNeg (56 : Int32).toNatClampNeg (6 : Int32).toNatClampNeg) (59 : Int32).toNatClampNeg 0) (60 : Int32).toNatClampNeg 1) (61 : Int32).toNatClampNeg 0)))] := hD
  refine W.widen (k := 0) (n := 0) (by omega) (by omega) ?_
  obtain rfl : r_6 = 0 := hw
  refine lv_aload_n hx hb dX6_isHome_31 rfl (lv_at hl 0 rfl) ?_
  refine lv_iload_n hx hb dX6_isHome_32 rfl (lv_at hl 1 rfl) ?_
  refine lv_iconst (v := 4) hx hb dX6_isHome_33 (by decide) ?_
  have hPc := hP.sub (ws' := [(h0, .inr (11, [.int th, .int 1, .int 0, .int 1, .ref rq, .ref sbq])), (rq, .inl (ci, 119, .inl (upd (upd (upd (va_cpy (upd (upd (upd (upd (fun _ => 0) (2 : Int32).toNatClampNeg (-1)) (3 : Int32).toNatClampNeg 0) (4 : Int32).toNatClampNeg 0) (5 : Int32).toNatClampNeg 0) (upd (upd (fun _ => 0) (0 : Int32).toNatClampNeg 3) (2 : Int32).toNatClampNeg 1) (0 : Int32).toNatClampNeg (56 : Int32).toNatClampNeg (6 : Int32).toNatClampNeg) (59 : Int32).toNatClampNeg 0) (60 : Int32).toNatClampNeg 1) (61 : Int32).toNatClampNeg 0)))]) [0, 1] rfl
  have hDc := hD.sub (ws' := [(h0, .inr (11, [.int th, .int 1, .int 0, .int 1, .ref rq, .ref sbq])), (rq, .inl (ci, 119, .inl (upd (upd (upd (va_cpy (upd (upd (upd (upd (fun _ => 0) (2 : Int32).toNatClampNeg (-1)) (3 : Int32).toNatClampNeg 0) (4 : Int32).toNatClampNeg 0) (5 : Int32).toNatClampNeg 0) (upd (upd (fun _ => 0) (0 : Int32).toNatClampNeg 3) (2 : Int32).toNatClampNeg 1) (0 : Int32).toNatClampNeg (56 : Int32).toNatClampNeg (6 : Int32).toNatClampNeg) (59 : Int32).toNatClampNeg 0) (60 : Int32).toNatClampNeg 1) (61 : Int32).toNatClampNeg 0)))]) [0, 1] (by decide) rfl
  have hKc := hK.sub (tys' := [(ci, .int)]) [0] rfl
  have hFc := va_free (wc := [(h0, .inr (11, [.int th, .int 1, .int 0, .int 1, .ref rq, .ref sbq])), (rq, .inl (ci, 119, .inl (upd (upd (upd (va_cpy (upd (upd (upd (upd (fun _ => 0) (2 : Int32).toNatClampNeg (-1)) (3 : Int32).toNatClampNeg 0) (4 : Int32).toNatClampNeg 0) (5 : Int32).toNatClampNeg 0) (upd (upd (fun _ => 0) (0 : Int32).toNatClampNeg 3) (2 : Int32).toNatClampNeg 1) (0 : Int32).toNatClampNeg (56 : Int32).toNatClampNeg (6 : Int32).toNatClampNeg) (59 : Int32).toNatClampNeg 0) (60 : Int32).toNatClampNeg 1) (61 : Int32).toNatClampNeg 0)))]) hD hS hA [0, 1] rfl
  refine va_calli (va_runV (As := [.int 0, .int 4]) (rest := [.int 0]) ⟨hx, hb, hml, hown, hts⟩ (c_gu5_4 l hl9 dC dI tE h0 rq sbq th ci _ ) (cwV 2 hts (goodIn_app (goodIn_r _ [3, 4, 5, 6] (by rfl) (by decide +kernel)) gg_c_isHome5_c_gu5_4) rfl rfl rfl (by decide +kernel) ⟨Nat.le_of_ble_eq_true rfl, Nat.le_of_ble_eq_true rfl⟩) ⟨Pre0.blind, va_recv hKc hPc (ci := 11) (q0 := 0) rfl rfl, Pre0.give hPc hKc hDc hT hS hFc⟩ rfl rfl hl.1 rfl (lv_room (Nat.le_of_ble_eq_true rfl)) dX6_isHome_34 ⟨Nat.le_of_ble_eq_true rfl, Nat.le_of_ble_eq_true rfl⟩) hS (fun q _ h => hFc q h) hFc (fun r_7 u t H1 locs ht hvm hw hB hz1 hk1 hS => ?_)
  obtain ⟨hP1, hK1, hD1⟩ := hB
  rw [ht] at hP1
  have hK1 := va_K.moved hvm.symm hK1
  obtain ⟨hP, hD⟩ := va_join (wr := []) (w1 := [(h0, .inr (11, [.int th, .int 1, .int 0, .int 1, .ref rq, .ref sbq])), (rq, .inl (ci, 119, .inl (upd (upd (upd (va_cpy (upd (upd (upd (upd (fun _ => 0) (2 : Int32).toNatClampNeg (-1)) (3 : Int32).toNatClampNeg 0) (4 : Int32).toNatClampNeg 0) (5 : Int32).toNatClampNeg 0) (upd (upd (fun _ => 0) (0 : Int32).toNatClampNeg 3) (2 : Int32).toNatClampNeg 1) (0 : Int32).toNatClampNeg (56 : Int32).toNatClampNeg (6 : Int32).toNatClampNeg) (59 : Int32).toNatClampNeg 0) (60 : Int32).toNatClampNeg 1) (61 : Int32).toNatClampNeg 0)))]) hP hD [0, 1] [] rfl rfl (by decide) (by decide) hk1 hFc hP1 hD1
  generalize H1 = H at hP hS ⊢
  have hP : va_P (dC, dI) vwCl [(h0, .inr (11, [.int th, .int 1, .int 0, .int 1, .ref rq, .ref sbq])), (rq, .inl (ci, 119, .inl (upd (upd (upd (va_cpy (upd (upd (upd (upd (fun _ => 0) (2 : Int32).toNatClampNeg (-1)) (3 : Int32).toNatClampNeg 0) (4 : Int32).toNatClampNeg 0) (5 : Int32).toNatClampNeg 0) (upd (upd (fun _ => 0) (0 : Int32).toNatClampNeg 3) (2 : Int32).toNatClampNeg 1) (0 : Int32).toNatClampNeg (56 : Int32).toNatClampNeg (6 : Int32).toNatClampNeg) (59 : Int32).toNatClampNeg 0) (60 : Int32).toNatClampNeg 1) (61 : Int32).toNatClampNeg 0)))] H := hP
  have hD : va_D A [(h0, .inr (11, [.int th, .int 1, .int 0, .int 1, .ref rq, .ref sbq])), (rq, .inl (ci, 119, .inl (upd (upd (upd (va_cpy (upd (upd (upd (upd (fun _ => 0) (2 : Int32).toNatClampNeg (-1)) (3 : Int32).toNatClampNeg 0) (4 : Int32).toNatClampNeg 0) (5 : Int32).toNatClampNeg 0) (upd (upd (fun _ => 0) (0 : Int32).toNatClampNeg 3) (2 : Int32).toNatClampNeg 1) (0 : Int32).toNatClampNeg (56 : Int32).toNatClampNeg (6 : Int32).toNatClampNeg) (59 : Int32).toNatClampNeg 0) (60 : Int32).toNatClampNeg 1) (61 : Int32).toNatClampNeg 0)))] := hD
  refine W.widen (k := 0) (n := 0) (by omega) (by omega) ?_
  obtain rfl : r_7 = 1 := hw
  refine lv_icmp_ne (tgt := 44) hx hb dX6_isHome_37 (by decide) (fun _ => ?_) (fun c_8 => absurd c_8 (by decide))
  refine lv_iconst (v := 0) hx hb dX6_isHome_44 (by decide) ?_
  have hP9 := hP.sub (ws' := [(h0, .inr (11, [.int th, .int 1, .int 0, .int 1, .ref rq, .ref sbq])), (rq, .inl (ci, 119, .inl (upd (upd (upd (va_cpy (upd (upd (upd (upd (fun _ => 0) (2 : Int32).toNatClampNeg (-1)) (3 : Int32).toNatClampNeg 0) (4 : Int32).toNatClampNeg 0) (5 : Int32).toNatClampNeg 0) (upd (upd (fun _ => 0) (0 : Int32).toNatClampNeg 3) (2 : Int32).toNatClampNeg 1) (0 : Int32).toNatClampNeg (56 : Int32).toNatClampNeg (6 : Int32).toNatClampNeg) (59 : Int32).toNatClampNeg 0) (60 : Int32).toNatClampNeg 1) (61 : Int32).toNatClampNeg 0)))]) [0, 1] rfl
  have hD9 := hD.sub (ws' := [(h0, .inr (11, [.int th, .int 1, .int 0, .int 1, .ref rq, .ref sbq])), (rq, .inl (ci, 119, .inl (upd (upd (upd (va_cpy (upd (upd (upd (upd (fun _ => 0) (2 : Int32).toNatClampNeg (-1)) (3 : Int32).toNatClampNeg 0) (4 : Int32).toNatClampNeg 0) (5 : Int32).toNatClampNeg 0) (upd (upd (fun _ => 0) (0 : Int32).toNatClampNeg 3) (2 : Int32).toNatClampNeg 1) (0 : Int32).toNatClampNeg (56 : Int32).toNatClampNeg (6 : Int32).toNatClampNeg) (59 : Int32).toNatClampNeg 0) (60 : Int32).toNatClampNeg 1) (61 : Int32).toNatClampNeg 0)))]) [0, 1] (by decide) rfl
  have hK9 := hK.sub (tys' := [(ci, .int)]) [0] rfl
  exact W.zret (v := 0) hx hb hr (by decide) (fun t ht hW => ⟨⟨0, (), rfl, rfl, by rw [ht]; exact hP9, va_K.moved hW.alike hK9, hD9⟩, hS.F ht⟩) hS.2.2 dX6_isHome_45
def v_c_Mi_want : List Cond := .code yX6_want cX6_want 4 (some .boolean) :: ([Cond.code yX6_isGuest cX6_isGuest 2 (some .boolean), Cond.fieldLink RX6 34 "HotelOfBellsModel" "guests" "I", Cond.code yX6_isIn cX6_isIn 3 (some .boolean), Cond.methodLink RX6 27 yX6_isIn, Cond.static yX6_isIn, Cond.initialized RX6, Cond.methodLink RX6 81 yX6_isGuest, Cond.instanceMethod yX6_isGuest, Cond.selects RX6 yX6_isGuest yX6_isGuest, Cond.code yX6_isRoom cX6_isRoom 3 (some .boolean), Cond.code yX6_isFloor cX6_isFloor 2 (some .boolean), Cond.fieldLink RX6 24 "HotelOfBellsModel" "floors" "I", Cond.methodLink RX6 37 yX6_isFloor, Cond.instanceMethod yX6_isFloor, Cond.selects RX6 yX6_isFloor yX6_isFloor, Cond.code yX6_fl cX6_fl 3 (some .int), Cond.fieldLink RX6 9 "HotelOfBellsModel" "row" "[I", Cond.methodLink RX6 41 yX6_fl, Cond.instanceMethod yX6_fl, Cond.selects RX6 yX6_fl yX6_fl, Cond.methodLink RX6 68 yX6_isRoom, Cond.instanceMethod yX6_isRoom, Cond.selects RX6 yX6_isRoom yX6_isRoom, Cond.fieldLink RX6 20 "HotelOfBellsModel" "thrown" "I", Cond.code yX6_setGu cX6_setGu 4 none, Cond.methodLink RX6 84 yX6_setGu, Cond.instanceMethod yX6_setGu, Cond.selects RX6 yX6_setGu yX6_setGu, Cond.code yX6_isHome cX6_isHome 2 (some .boolean), Cond.code yX6_gu cX6_gu 3 (some .int), Cond.methodLink RX6 78 yX6_gu, Cond.instanceMethod yX6_gu, Cond.selects RX6 yX6_gu yX6_gu, Cond.methodLink RX6 87 yX6_isHome, Cond.instanceMethod yX6_isHome, Cond.selects RX6 yX6_isHome yX6_isHome] ++ (wsX60 ++ []))
theorem u_c_Mi_want_X6 : ∀ w ∈ wsX60, w ∈ v_c_Mi_want := fun _ h => List.mem_cons_of_mem _ (List.mem_append_right _ (List.mem_append_left _ h))
theorem gg_c_Mi_want_c_isGuest2 : GoodIn v_c_Mi_want v_c_isGuest2 := goodIn_r _ [1, 2, 3, 4, 5, 6, 37, 38, 39, 40, 41, 42] (by rfl) (by decide +kernel)
theorem gg_c_Mi_want_c_isRoom2 : GoodIn v_c_Mi_want v_c_isRoom2 := goodIn_r _ [10, 11, 12, 3, 4, 5, 6, 13, 14, 15, 16, 17, 18, 19, 20, 37, 38, 39, 40, 41, 42] (by rfl) (by decide +kernel)
theorem gg_c_Mi_want_c_setGu0_3 : GoodIn v_c_Mi_want v_c_setGu0_3 := goodIn_r _ [25, 17, 37, 38, 39, 40, 41, 42] (by rfl) (by decide +kernel)
theorem gg_c_Mi_want_c_setGu0_4 : GoodIn v_c_Mi_want v_c_setGu0_4 := goodIn_r _ [25, 17, 37, 38, 39, 40, 41, 42] (by rfl) (by decide +kernel)
theorem gg_c_Mi_want_c_setGu0_5 : GoodIn v_c_Mi_want v_c_setGu0_5 := goodIn_r _ [25, 17, 37, 38, 39, 40, 41, 42] (by rfl) (by decide +kernel)
theorem gg_c_Mi_want_c_isHome5 : GoodIn v_c_Mi_want v_c_isHome5 := goodIn_r _ [29, 30, 17, 31, 32, 33, 6, 37, 38, 39, 40, 41, 42] (by rfl) (by decide +kernel)
set_option maxHeartbeats 4000000 in
set_option maxRecDepth 100000 in
theorem c_Mi_want (l : Launch) (hl9 : l.stackTraces = false) (dC : Nat → ClassId) (dI : Nat → Nat → Nat) (tE : Nat) (h0 : Nat) (rq : Nat) (sbq : Nat) (th : Int32) (ci : ClassId) (sz : Nat) : Met l yX6_want v_c_Mi_want ({ frames := 3, cells := 0, slots := 0, locals := 65 }) (va_Pc [.ref h0, .int 0, .int 0, .int 1] (Pre0 dC dI tE sz [(ci, .int)] [(h0, .inr (11, [.int th, .int 1, .int 0, .int 1, .ref rq, .ref sbq])), (rq, .inl (ci, 119, .inl (va_cpy (upd (upd (upd (upd (fun _ => 0) (2 : Int32).toNatClampNeg (-1)) (3 : Int32).toNatClampNeg 0) (4 : Int32).toNatClampNeg 0) (5 : Int32).toNatClampNeg 0) (upd (upd (fun _ => 0) (0 : Int32).toNatClampNeg 3) (2 : Int32).toNatClampNeg 1) (0 : Int32).toNatClampNeg (56 : Int32).toNatClampNeg (6 : Int32).toNatClampNeg)))])) (va_Qi (fun (r : Int32) (_ : Unit) => r = 0) (fun _ t => Pst dC dI [(ci, .int)] (va_A [(h0, .inr (11, [.int th, .int 1, .int 0, .int 1, .ref rq, .ref sbq])), (rq, .inl (ci, 119, .inl (va_cpy (upd (upd (upd (upd (fun _ => 0) (2 : Int32).toNatClampNeg (-1)) (3 : Int32).toNatClampNeg 0) (4 : Int32).toNatClampNeg 0) (5 : Int32).toNatClampNeg 0) (upd (upd (fun _ => 0) (0 : Int32).toNatClampNeg 3) (2 : Int32).toNatClampNeg 1) (0 : Int32).toNatClampNeg (56 : Int32).toNatClampNeg (6 : Int32).toNatClampNeg)))] sz) [(h0, .inr (11, [.int 0, .int 1, .int 0, .int 1, .ref rq, .ref sbq])), (rq, .inl (ci, 119, .inl (upd (upd (upd (va_cpy (upd (upd (upd (upd (fun _ => 0) (2 : Int32).toNatClampNeg (-1)) (3 : Int32).toNatClampNeg 0) (4 : Int32).toNatClampNeg 0) (5 : Int32).toNatClampNeg 0) (upd (upd (fun _ => 0) (0 : Int32).toNatClampNeg 3) (2 : Int32).toNatClampNeg 1) (0 : Int32).toNatClampNeg (56 : Int32).toNatClampNeg (6 : Int32).toNatClampNeg) (59 : Int32).toNatClampNeg 0) (60 : Int32).toNatClampNeg 1) (61 : Int32).toNatClampNeg 0)))] t) (va_A [(h0, .inr (11, [.int th, .int 1, .int 0, .int 1, .ref rq, .ref sbq])), (rq, .inl (ci, 119, .inl (va_cpy (upd (upd (upd (upd (fun _ => 0) (2 : Int32).toNatClampNeg (-1)) (3 : Int32).toNatClampNeg 0) (4 : Int32).toNatClampNeg 0) (5 : Int32).toNatClampNeg 0) (upd (upd (fun _ => 0) (0 : Int32).toNatClampNeg 3) (2 : Int32).toNatClampNeg 1) (0 : Int32).toNatClampNeg (56 : Int32).toNatClampNeg (6 : Int32).toNatClampNeg)))] sz)) 0 0 (va_A [(h0, .inr (11, [.int th, .int 1, .int 0, .int 1, .ref rq, .ref sbq])), (rq, .inl (ci, 119, .inl (va_cpy (upd (upd (upd (upd (fun _ => 0) (2 : Int32).toNatClampNeg (-1)) (3 : Int32).toNatClampNeg 0) (4 : Int32).toNatClampNeg 0) (5 : Int32).toNatClampNeg 0) (upd (upd (fun _ => 0) (0 : Int32).toNatClampNeg 3) (2 : Int32).toNatClampNeg 1) (0 : Int32).toNatClampNeg (56 : Int32).toNatClampNeg (6 : Int32).toNatClampNeg)))] sz) := by
  refine Met.ofW (cc := cX6_want) (maxL := 4) (ret := (some .boolean)) (by decide) rfl ?_
  intro p e s m args below meth c s₁ B hml hv
  obtain ⟨rfl, hsz, hP, hK, hD0, hT⟩ := hv
  have hx := B.exec
  have hb := B.bytes
  have hr := B.returns
  have hts := atoms_spec (ws := v_c_Mi_want) B.pre
  have hown : s.vm.findClass RX6 = some m.cls := findClass_of_methodNamed B.named
  have hlocks := B.notSynchronized
  subst hsz
  have hD := hD0.self (sz := s.heap.size)
  generalize hAe : va_A [(h0, .inr (11, [.int th, .int 1, .int 0, .int 1, .ref rq, .ref sbq])), (rq, .inl (ci, 119, .inl (va_cpy (upd (upd (upd (upd (fun _ => 0) (2 : Int32).toNatClampNeg (-1)) (3 : Int32).toNatClampNeg 0) (4 : Int32).toNatClampNeg 0) (5 : Int32).toNatClampNeg 0) (upd (upd (fun _ => 0) (0 : Int32).toNatClampNeg 3) (2 : Int32).toNatClampNeg 1) (0 : Int32).toNatClampNeg (56 : Int32).toNatClampNeg (6 : Int32).toNatClampNeg)))] s.heap.size = A at hD hT ⊢
  have hA : ∀ q : Nat, s.heap.size ≤ q → A q := fun q h => by rw [← hAe]; exact Or.inr h
  have hS : va_S A s.heap s.heap [] := va_S.rf
  have hl := lv_entry ([.ref h0, .int 0, .int 0, .int 1]) (n := 4) (Nat.le_of_ble_eq_true rfl)
  rw [lg_entry_eq]
  generalize (lg_sl ([.ref h0, .int 0, .int 0, .int 1]) ++ List.replicate (4 - (lg_sl ([.ref h0, .int 0, .int 0, .int 1])).length) Slot.unset).toArray = ls at hl ⊢
  have hl : lv_has ls 4 [(0, .ref h0), (1, .int 0), (2, .int 0), (3, .int 1)] := hl
  refine lv_aload_n hx hb dX6_want_0 rfl (lv_at hl 0 rfl) ?_
  refine lv_aload_n hx hb dX6_want_1 rfl (lv_at hl 0 rfl) ?_
  refine lv_iload_n hx hb dX6_want_2 rfl (lv_at hl 1 rfl) ?_
  have hPc := hP.sub (ws' := [(h0, .inr (11, [.int th, .int 1, .int 0, .int 1, .ref rq, .ref sbq]))]) [0] rfl
  have hDc := hD.sub (ws' := [(h0, .inr (11, [.int th, .int 1, .int 0, .int 1, .ref rq, .ref sbq]))]) [0] (by decide) rfl
  have hKc := hK.sub (tys' := []) [] rfl
  have hFc := va_free (wc := [(h0, .inr (11, [.int th, .int 1, .int 0, .int 1, .ref rq, .ref sbq]))]) hD hS hA [0] rfl
  refine va_calli (va_runV (As := [.int 0]) (rest := [.ref h0]) ⟨hx, hb, hml, hown, hts⟩ (c_isGuest2 l hl9 dC dI tE h0 rq sbq th _ ) (cwV 1 hts (goodIn_app (goodIn_r _ [7, 8, 9, 6] (by rfl) (by decide +kernel)) gg_c_Mi_want_c_isGuest2) rfl rfl rfl (by decide +kernel) ⟨Nat.le_of_ble_eq_true rfl, Nat.le_of_ble_eq_true rfl⟩) ⟨Pre0.blind, va_recv hKc hPc (ci := 11) (q0 := 0) rfl rfl, Pre0.give hPc hKc hDc hT hS hFc⟩ rfl rfl hl.1 rfl (lv_room (Nat.le_of_ble_eq_true rfl)) dX6_want_3 ⟨Nat.le_of_ble_eq_true rfl, Nat.le_of_ble_eq_true rfl⟩) hS (fun q _ h => hFc q h) hFc (fun r_1 u t H1 locs ht hvm hw hB hz1 hk1 hS => ?_)
  obtain ⟨hP1, hK1, hD1⟩ := hB
  rw [ht] at hP1
  have hK1 := va_K.moved hvm.symm hK1
  obtain ⟨hP, hD⟩ := va_join (wr := [(rq, .inl (ci, 119, .inl (va_cpy (upd (upd (upd (upd (fun _ => 0) (2 : Int32).toNatClampNeg (-1)) (3 : Int32).toNatClampNeg 0) (4 : Int32).toNatClampNeg 0) (5 : Int32).toNatClampNeg 0) (upd (upd (fun _ => 0) (0 : Int32).toNatClampNeg 3) (2 : Int32).toNatClampNeg 1) (0 : Int32).toNatClampNeg (56 : Int32).toNatClampNeg (6 : Int32).toNatClampNeg)))]) (w1 := [(h0, .inr (11, [.int th, .int 1, .int 0, .int 1, .ref rq, .ref sbq]))]) hP hD [0] [1] rfl rfl (by decide) (by decide) hk1 hFc hP1 hD1
  generalize H1 = H at hP hS ⊢
  have hP : va_P (dC, dI) vwCl [(rq, .inl (ci, 119, .inl (va_cpy (upd (upd (upd (upd (fun _ => 0) (2 : Int32).toNatClampNeg (-1)) (3 : Int32).toNatClampNeg 0) (4 : Int32).toNatClampNeg 0) (5 : Int32).toNatClampNeg 0) (upd (upd (fun _ => 0) (0 : Int32).toNatClampNeg 3) (2 : Int32).toNatClampNeg 1) (0 : Int32).toNatClampNeg (56 : Int32).toNatClampNeg (6 : Int32).toNatClampNeg))), (h0, .inr (11, [.int th, .int 1, .int 0, .int 1, .ref rq, .ref sbq]))] H := hP
  have hD : va_D A [(rq, .inl (ci, 119, .inl (va_cpy (upd (upd (upd (upd (fun _ => 0) (2 : Int32).toNatClampNeg (-1)) (3 : Int32).toNatClampNeg 0) (4 : Int32).toNatClampNeg 0) (5 : Int32).toNatClampNeg 0) (upd (upd (fun _ => 0) (0 : Int32).toNatClampNeg 3) (2 : Int32).toNatClampNeg 1) (0 : Int32).toNatClampNeg (56 : Int32).toNatClampNeg (6 : Int32).toNatClampNeg))), (h0, .inr (11, [.int th, .int 1, .int 0, .int 1, .ref rq, .ref sbq]))] := hD
  refine W.widen (k := 0) (n := 0) (by omega) (by omega) ?_
  obtain rfl : r_1 = 1 := hw
  refine lv_if_eq (tgt := 22) hx hb dX6_want_6 (by decide) (fun c_2 => absurd c_2 (by decide)) (fun _ => ?_)
  refine lv_aload_n hx hb dX6_want_9 rfl (lv_at hl 0 rfl) ?_
  refine lv_iload_n hx hb dX6_want_10 rfl (lv_at hl 2 rfl) ?_
  refine lv_iload_n hx hb dX6_want_11 rfl (lv_at hl 3 rfl) ?_
  have hPc := hP.sub (ws' := [(h0, .inr (11, [.int th, .int 1, .int 0, .int 1, .ref rq, .ref sbq])), (rq, .inl (ci, 119, .inl (va_cpy (upd (upd (upd (upd (fun _ => 0) (2 : Int32).toNatClampNeg (-1)) (3 : Int32).toNatClampNeg 0) (4 : Int32).toNatClampNeg 0) (5 : Int32).toNatClampNeg 0) (upd (upd (fun _ => 0) (0 : Int32).toNatClampNeg 3) (2 : Int32).toNatClampNeg 1) (0 : Int32).toNatClampNeg (56 : Int32).toNatClampNeg (6 : Int32).toNatClampNeg)))]) [1, 0] rfl
  have hDc := hD.sub (ws' := [(h0, .inr (11, [.int th, .int 1, .int 0, .int 1, .ref rq, .ref sbq])), (rq, .inl (ci, 119, .inl (va_cpy (upd (upd (upd (upd (fun _ => 0) (2 : Int32).toNatClampNeg (-1)) (3 : Int32).toNatClampNeg 0) (4 : Int32).toNatClampNeg 0) (5 : Int32).toNatClampNeg 0) (upd (upd (fun _ => 0) (0 : Int32).toNatClampNeg 3) (2 : Int32).toNatClampNeg 1) (0 : Int32).toNatClampNeg (56 : Int32).toNatClampNeg (6 : Int32).toNatClampNeg)))]) [1, 0] (by decide) rfl
  have hKc := hK.sub (tys' := [(ci, .int)]) [0] rfl
  have hFc := va_free (wc := [(h0, .inr (11, [.int th, .int 1, .int 0, .int 1, .ref rq, .ref sbq])), (rq, .inl (ci, 119, .inl (va_cpy (upd (upd (upd (upd (fun _ => 0) (2 : Int32).toNatClampNeg (-1)) (3 : Int32).toNatClampNeg 0) (4 : Int32).toNatClampNeg 0) (5 : Int32).toNatClampNeg 0) (upd (upd (fun _ => 0) (0 : Int32).toNatClampNeg 3) (2 : Int32).toNatClampNeg 1) (0 : Int32).toNatClampNeg (56 : Int32).toNatClampNeg (6 : Int32).toNatClampNeg)))]) hD hS hA [1, 0] rfl
  refine va_calli (va_runV (As := [.int 0, .int 1]) (rest := [.ref h0]) ⟨hx, hb, hml, hown, hts⟩ (c_isRoom2 l hl9 dC dI tE h0 rq sbq th ci _ ) (cwV 2 hts (goodIn_app (goodIn_r _ [21, 22, 23, 6] (by rfl) (by decide +kernel)) gg_c_Mi_want_c_isRoom2) rfl rfl rfl (by decide +kernel) ⟨Nat.le_of_ble_eq_true rfl, Nat.le_of_ble_eq_true rfl⟩) ⟨Pre0.blind, va_recv hKc hPc (ci := 11) (q0 := 0) rfl rfl, Pre0.give hPc hKc hDc hT hS hFc⟩ rfl rfl hl.1 rfl (lv_room (Nat.le_of_ble_eq_true rfl)) dX6_want_12 ⟨Nat.le_of_ble_eq_true rfl, Nat.le_of_ble_eq_true rfl⟩) hS (fun q _ h => hFc q h) hFc (fun r_3 u t H1 locs ht hvm hw hB hz1 hk1 hS => ?_)
  obtain ⟨hP1, hK1, hD1⟩ := hB
  rw [ht] at hP1
  have hK1 := va_K.moved hvm.symm hK1
  obtain ⟨hP, hD⟩ := va_join (wr := []) (w1 := [(h0, .inr (11, [.int th, .int 1, .int 0, .int 1, .ref rq, .ref sbq])), (rq, .inl (ci, 119, .inl (va_cpy (upd (upd (upd (upd (fun _ => 0) (2 : Int32).toNatClampNeg (-1)) (3 : Int32).toNatClampNeg 0) (4 : Int32).toNatClampNeg 0) (5 : Int32).toNatClampNeg 0) (upd (upd (fun _ => 0) (0 : Int32).toNatClampNeg 3) (2 : Int32).toNatClampNeg 1) (0 : Int32).toNatClampNeg (56 : Int32).toNatClampNeg (6 : Int32).toNatClampNeg)))]) hP hD [1, 0] [] rfl rfl (by decide) (by decide) hk1 hFc hP1 hD1
  generalize H1 = H at hP hS ⊢
  have hP : va_P (dC, dI) vwCl [(h0, .inr (11, [.int th, .int 1, .int 0, .int 1, .ref rq, .ref sbq])), (rq, .inl (ci, 119, .inl (va_cpy (upd (upd (upd (upd (fun _ => 0) (2 : Int32).toNatClampNeg (-1)) (3 : Int32).toNatClampNeg 0) (4 : Int32).toNatClampNeg 0) (5 : Int32).toNatClampNeg 0) (upd (upd (fun _ => 0) (0 : Int32).toNatClampNeg 3) (2 : Int32).toNatClampNeg 1) (0 : Int32).toNatClampNeg (56 : Int32).toNatClampNeg (6 : Int32).toNatClampNeg)))] H := hP
  have hD : va_D A [(h0, .inr (11, [.int th, .int 1, .int 0, .int 1, .ref rq, .ref sbq])), (rq, .inl (ci, 119, .inl (va_cpy (upd (upd (upd (upd (fun _ => 0) (2 : Int32).toNatClampNeg (-1)) (3 : Int32).toNatClampNeg 0) (4 : Int32).toNatClampNeg 0) (5 : Int32).toNatClampNeg 0) (upd (upd (fun _ => 0) (0 : Int32).toNatClampNeg 3) (2 : Int32).toNatClampNeg 1) (0 : Int32).toNatClampNeg (56 : Int32).toNatClampNeg (6 : Int32).toNatClampNeg)))] := hD
  refine W.widen (k := 0) (n := 0) (by omega) (by omega) ?_
  obtain rfl : r_3 = 1 := hw
  refine lv_if_eq (tgt := 22) hx hb dX6_want_15 (by decide) (fun c_4 => absurd c_4 (by decide)) (fun _ => ?_)
  refine lv_iconst (v := 0) hx hb dX6_want_18 (by decide) ?_
  refine lv_goto (tgt := 23) hx hb dX6_want_19 (by decide) ?_
  refine va_put (D := (dC, dI)) (ci := 11) (v := .int 0) (ty := .int) (C := RX6) (T := TX6) (N := 6) hx hb hts u_c_Mi_want_X6 tyX6 tyX6_ok nmX6 hown hK hP hD hS 0 rfl rfl 0 (by decide) (hts (.fieldLink RX6 20 "HotelOfBellsModel" "thrown" "I") (List.mem_of_getElem? (i := 24) rfl)) (fun _ h9 => h9) rfl (by decide +kernel) rfl rfl (Nat.le_of_ble_eq_true rfl) dX6_want_23 (fun H locs hP hD hS => ?_)
  have hP : va_P (dC, dI) vwCl [(h0, .inr (11, [.int 0, .int 1, .int 0, .int 1, .ref rq, .ref sbq])), (rq, .inl (ci, 119, .inl (va_cpy (upd (upd (upd (upd (fun _ => 0) (2 : Int32).toNatClampNeg (-1)) (3 : Int32).toNatClampNeg 0) (4 : Int32).toNatClampNeg 0) (5 : Int32).toNatClampNeg 0) (upd (upd (fun _ => 0) (0 : Int32).toNatClampNeg 3) (2 : Int32).toNatClampNeg 1) (0 : Int32).toNatClampNeg (56 : Int32).toNatClampNeg (6 : Int32).toNatClampNeg)))] H := hP
  have hD : va_D A [(h0, .inr (11, [.int 0, .int 1, .int 0, .int 1, .ref rq, .ref sbq])), (rq, .inl (ci, 119, .inl (va_cpy (upd (upd (upd (upd (fun _ => 0) (2 : Int32).toNatClampNeg (-1)) (3 : Int32).toNatClampNeg 0) (4 : Int32).toNatClampNeg 0) (5 : Int32).toNatClampNeg 0) (upd (upd (fun _ => 0) (0 : Int32).toNatClampNeg 3) (2 : Int32).toNatClampNeg 1) (0 : Int32).toNatClampNeg (56 : Int32).toNatClampNeg (6 : Int32).toNatClampNeg)))] := hD
  refine lv_aload_n hx hb dX6_want_26 rfl (lv_at hl 0 rfl) ?_
  refine va_get (D := (dC, dI)) (ci := 11) (v := .int 0) (C := RX6) (T := TX6) (N := 6) hx hb hts u_c_Mi_want_X6 hown hK hP 0 rfl rfl 0 (by decide) (hts (.fieldLink RX6 20 "HotelOfBellsModel" "thrown" "I") (List.mem_of_getElem? (i := 24) rfl)) (fun _ h9 => h9) rfl dX6_want_27 ?_
  refine lv_if_eq (tgt := 35) hx hb dX6_want_30 (by decide) (fun _ => ?_) (fun c_5 => absurd (by decide) c_5)
  refine lv_aload_n hx hb dX6_want_35 rfl (lv_at hl 0 rfl) ?_
  refine lv_iload_n hx hb dX6_want_36 rfl (lv_at hl 1 rfl) ?_
  refine lv_iconst (v := 3) hx hb dX6_want_37 (by decide) ?_
  refine lv_iload_n hx hb dX6_want_38 rfl (lv_at hl 2 rfl) ?_
  have hPc := hP.sub (ws' := [(h0, .inr (11, [.int 0, .int 1, .int 0, .int 1, .ref rq, .ref sbq])), (rq, .inl (ci, 119, .inl (va_cpy (upd (upd (upd (upd (fun _ => 0) (2 : Int32).toNatClampNeg (-1)) (3 : Int32).toNatClampNeg 0) (4 : Int32).toNatClampNeg 0) (5 : Int32).toNatClampNeg 0) (upd (upd (fun _ => 0) (0 : Int32).toNatClampNeg 3) (2 : Int32).toNatClampNeg 1) (0 : Int32).toNatClampNeg (56 : Int32).toNatClampNeg (6 : Int32).toNatClampNeg)))]) [0, 1] rfl
  have hDc := hD.sub (ws' := [(h0, .inr (11, [.int 0, .int 1, .int 0, .int 1, .ref rq, .ref sbq])), (rq, .inl (ci, 119, .inl (va_cpy (upd (upd (upd (upd (fun _ => 0) (2 : Int32).toNatClampNeg (-1)) (3 : Int32).toNatClampNeg 0) (4 : Int32).toNatClampNeg 0) (5 : Int32).toNatClampNeg 0) (upd (upd (fun _ => 0) (0 : Int32).toNatClampNeg 3) (2 : Int32).toNatClampNeg 1) (0 : Int32).toNatClampNeg (56 : Int32).toNatClampNeg (6 : Int32).toNatClampNeg)))]) [0, 1] (by decide) rfl
  have hKc := hK.sub (tys' := [(ci, .int)]) [0] rfl
  have hFc := va_free (wc := [(h0, .inr (11, [.int 0, .int 1, .int 0, .int 1, .ref rq, .ref sbq])), (rq, .inl (ci, 119, .inl (va_cpy (upd (upd (upd (upd (fun _ => 0) (2 : Int32).toNatClampNeg (-1)) (3 : Int32).toNatClampNeg 0) (4 : Int32).toNatClampNeg 0) (5 : Int32).toNatClampNeg 0) (upd (upd (fun _ => 0) (0 : Int32).toNatClampNeg 3) (2 : Int32).toNatClampNeg 1) (0 : Int32).toNatClampNeg (56 : Int32).toNatClampNeg (6 : Int32).toNatClampNeg)))]) hD hS hA [0, 1] rfl
  refine va_callv (va_runV (As := [.int 0, .int 3, .int 0]) (rest := []) ⟨hx, hb, hml, hown, hts⟩ (c_setGu0_3 l hl9 dC dI tE h0 rq sbq 0 ci _ ) (cwV 3 hts (goodIn_app (goodIn_r _ [26, 27, 28, 6] (by rfl) (by decide +kernel)) gg_c_Mi_want_c_setGu0_3) rfl rfl rfl (by decide +kernel) ⟨Nat.le_of_ble_eq_true rfl, Nat.le_of_ble_eq_true rfl⟩) ⟨Pre0.blind, va_recv hKc hPc (ci := 11) (q0 := 0) rfl rfl, Pre0.give hPc hKc hDc hT hS hFc⟩ rfl rfl hl.1 rfl (lv_room (Nat.le_of_ble_eq_true rfl)) dX6_want_39 ⟨Nat.le_of_ble_eq_true rfl, Nat.le_of_ble_eq_true rfl⟩) hS (fun q _ h => hFc q h) hFc (fun u t H1 locs ht hvm hw hB hz1 hk1 hS => ?_)
  obtain ⟨hP1, hK1, hD1⟩ := hB
  rw [ht] at hP1
  have hK1 := va_K.moved hvm.symm hK1
  obtain ⟨hP, hD⟩ := va_join (wr := []) (w1 := [(h0, .inr (11, [.int 0, .int 1, .int 0, .int 1, .ref rq, .ref sbq])), (rq, .inl (ci, 119, .inl (upd (va_cpy (upd (upd (upd (upd (fun _ => 0) (2 : Int32).toNatClampNeg (-1)) (3 : Int32).toNatClampNeg 0) (4 : Int32).toNatClampNeg 0) (5 : Int32).toNatClampNeg 0) (upd (upd (fun _ => 0) (0 : Int32).toNatClampNeg 3) (2 : Int32).toNatClampNeg 1) (0 : Int32).toNatClampNeg (56 : Int32).toNatClampNeg (6 : Int32).toNatClampNeg) (59 : Int32).toNatClampNeg 0)))]) hP hD [0, 1] [] rfl rfl (by decide) (by decide) hk1 hFc hP1 hD1
  generalize H1 = H at hP hS ⊢
  have hP : va_P (dC, dI) vwCl [(h0, .inr (11, [.int 0, .int 1, .int 0, .int 1, .ref rq, .ref sbq])), (rq, .inl (ci, 119, .inl (upd (va_cpy (upd (upd (upd (upd (fun _ => 0) (2 : Int32).toNatClampNeg (-1)) (3 : Int32).toNatClampNeg 0) (4 : Int32).toNatClampNeg 0) (5 : Int32).toNatClampNeg 0) (upd (upd (fun _ => 0) (0 : Int32).toNatClampNeg 3) (2 : Int32).toNatClampNeg 1) (0 : Int32).toNatClampNeg (56 : Int32).toNatClampNeg (6 : Int32).toNatClampNeg) (59 : Int32).toNatClampNeg 0)))] H := hP
  have hD : va_D A [(h0, .inr (11, [.int 0, .int 1, .int 0, .int 1, .ref rq, .ref sbq])), (rq, .inl (ci, 119, .inl (upd (va_cpy (upd (upd (upd (upd (fun _ => 0) (2 : Int32).toNatClampNeg (-1)) (3 : Int32).toNatClampNeg 0) (4 : Int32).toNatClampNeg 0) (5 : Int32).toNatClampNeg 0) (upd (upd (fun _ => 0) (0 : Int32).toNatClampNeg 3) (2 : Int32).toNatClampNeg 1) (0 : Int32).toNatClampNeg (56 : Int32).toNatClampNeg (6 : Int32).toNatClampNeg) (59 : Int32).toNatClampNeg 0)))] := hD
  refine W.widen (k := 0) (n := 0) (by omega) (by omega) ?_
  refine lv_aload_n hx hb dX6_want_42 rfl (lv_at hl 0 rfl) ?_
  refine lv_iload_n hx hb dX6_want_43 rfl (lv_at hl 1 rfl) ?_
  refine lv_iconst (v := 4) hx hb dX6_want_44 (by decide) ?_
  refine lv_iload_n hx hb dX6_want_45 rfl (lv_at hl 3 rfl) ?_
  have hPc := hP.sub (ws' := [(h0, .inr (11, [.int 0, .int 1, .int 0, .int 1, .ref rq, .ref sbq])), (rq, .inl (ci, 119, .inl (upd (va_cpy (upd (upd (upd (upd (fun _ => 0) (2 : Int32).toNatClampNeg (-1)) (3 : Int32).toNatClampNeg 0) (4 : Int32).toNatClampNeg 0) (5 : Int32).toNatClampNeg 0) (upd (upd (fun _ => 0) (0 : Int32).toNatClampNeg 3) (2 : Int32).toNatClampNeg 1) (0 : Int32).toNatClampNeg (56 : Int32).toNatClampNeg (6 : Int32).toNatClampNeg) (59 : Int32).toNatClampNeg 0)))]) [0, 1] rfl
  have hDc := hD.sub (ws' := [(h0, .inr (11, [.int 0, .int 1, .int 0, .int 1, .ref rq, .ref sbq])), (rq, .inl (ci, 119, .inl (upd (va_cpy (upd (upd (upd (upd (fun _ => 0) (2 : Int32).toNatClampNeg (-1)) (3 : Int32).toNatClampNeg 0) (4 : Int32).toNatClampNeg 0) (5 : Int32).toNatClampNeg 0) (upd (upd (fun _ => 0) (0 : Int32).toNatClampNeg 3) (2 : Int32).toNatClampNeg 1) (0 : Int32).toNatClampNeg (56 : Int32).toNatClampNeg (6 : Int32).toNatClampNeg) (59 : Int32).toNatClampNeg 0)))]) [0, 1] (by decide) rfl
  have hKc := hK.sub (tys' := [(ci, .int)]) [0] rfl
  have hFc := va_free (wc := [(h0, .inr (11, [.int 0, .int 1, .int 0, .int 1, .ref rq, .ref sbq])), (rq, .inl (ci, 119, .inl (upd (va_cpy (upd (upd (upd (upd (fun _ => 0) (2 : Int32).toNatClampNeg (-1)) (3 : Int32).toNatClampNeg 0) (4 : Int32).toNatClampNeg 0) (5 : Int32).toNatClampNeg 0) (upd (upd (fun _ => 0) (0 : Int32).toNatClampNeg 3) (2 : Int32).toNatClampNeg 1) (0 : Int32).toNatClampNeg (56 : Int32).toNatClampNeg (6 : Int32).toNatClampNeg) (59 : Int32).toNatClampNeg 0)))]) hD hS hA [0, 1] rfl
  refine va_callv (va_runV (As := [.int 0, .int 4, .int 1]) (rest := []) ⟨hx, hb, hml, hown, hts⟩ (c_setGu0_4 l hl9 dC dI tE h0 rq sbq 0 ci _ ) (cwV 3 hts (goodIn_app (goodIn_r _ [26, 27, 28, 6] (by rfl) (by decide +kernel)) gg_c_Mi_want_c_setGu0_4) rfl rfl rfl (by decide +kernel) ⟨Nat.le_of_ble_eq_true rfl, Nat.le_of_ble_eq_true rfl⟩) ⟨Pre0.blind, va_recv hKc hPc (ci := 11) (q0 := 0) rfl rfl, Pre0.give hPc hKc hDc hT hS hFc⟩ rfl rfl hl.1 rfl (lv_room (Nat.le_of_ble_eq_true rfl)) dX6_want_46 ⟨Nat.le_of_ble_eq_true rfl, Nat.le_of_ble_eq_true rfl⟩) hS (fun q _ h => hFc q h) hFc (fun u t H1 locs ht hvm hw hB hz1 hk1 hS => ?_)
  obtain ⟨hP1, hK1, hD1⟩ := hB
  rw [ht] at hP1
  have hK1 := va_K.moved hvm.symm hK1
  obtain ⟨hP, hD⟩ := va_join (wr := []) (w1 := [(h0, .inr (11, [.int 0, .int 1, .int 0, .int 1, .ref rq, .ref sbq])), (rq, .inl (ci, 119, .inl (upd (upd (va_cpy (upd (upd (upd (upd (fun _ => 0) (2 : Int32).toNatClampNeg (-1)) (3 : Int32).toNatClampNeg 0) (4 : Int32).toNatClampNeg 0) (5 : Int32).toNatClampNeg 0) (upd (upd (fun _ => 0) (0 : Int32).toNatClampNeg 3) (2 : Int32).toNatClampNeg 1) (0 : Int32).toNatClampNeg (56 : Int32).toNatClampNeg (6 : Int32).toNatClampNeg) (59 : Int32).toNatClampNeg 0) (60 : Int32).toNatClampNeg 1)))]) hP hD [0, 1] [] rfl rfl (by decide) (by decide) hk1 hFc hP1 hD1
  generalize H1 = H at hP hS ⊢
  have hP : va_P (dC, dI) vwCl [(h0, .inr (11, [.int 0, .int 1, .int 0, .int 1, .ref rq, .ref sbq])), (rq, .inl (ci, 119, .inl (upd (upd (va_cpy (upd (upd (upd (upd (fun _ => 0) (2 : Int32).toNatClampNeg (-1)) (3 : Int32).toNatClampNeg 0) (4 : Int32).toNatClampNeg 0) (5 : Int32).toNatClampNeg 0) (upd (upd (fun _ => 0) (0 : Int32).toNatClampNeg 3) (2 : Int32).toNatClampNeg 1) (0 : Int32).toNatClampNeg (56 : Int32).toNatClampNeg (6 : Int32).toNatClampNeg) (59 : Int32).toNatClampNeg 0) (60 : Int32).toNatClampNeg 1)))] H := hP
  have hD : va_D A [(h0, .inr (11, [.int 0, .int 1, .int 0, .int 1, .ref rq, .ref sbq])), (rq, .inl (ci, 119, .inl (upd (upd (va_cpy (upd (upd (upd (upd (fun _ => 0) (2 : Int32).toNatClampNeg (-1)) (3 : Int32).toNatClampNeg 0) (4 : Int32).toNatClampNeg 0) (5 : Int32).toNatClampNeg 0) (upd (upd (fun _ => 0) (0 : Int32).toNatClampNeg 3) (2 : Int32).toNatClampNeg 1) (0 : Int32).toNatClampNeg (56 : Int32).toNatClampNeg (6 : Int32).toNatClampNeg) (59 : Int32).toNatClampNeg 0) (60 : Int32).toNatClampNeg 1)))] := hD
  refine W.widen (k := 0) (n := 0) (by omega) (by omega) ?_
  refine lv_aload_n hx hb dX6_want_49 rfl (lv_at hl 0 rfl) ?_
  refine lv_iload_n hx hb dX6_want_50 rfl (lv_at hl 1 rfl) ?_
  refine lv_iconst (v := 5) hx hb dX6_want_51 (by decide) ?_
  refine lv_iconst (v := 0) hx hb dX6_want_52 (by decide) ?_
  have hPc := hP.sub (ws' := [(h0, .inr (11, [.int 0, .int 1, .int 0, .int 1, .ref rq, .ref sbq])), (rq, .inl (ci, 119, .inl (upd (upd (va_cpy (upd (upd (upd (upd (fun _ => 0) (2 : Int32).toNatClampNeg (-1)) (3 : Int32).toNatClampNeg 0) (4 : Int32).toNatClampNeg 0) (5 : Int32).toNatClampNeg 0) (upd (upd (fun _ => 0) (0 : Int32).toNatClampNeg 3) (2 : Int32).toNatClampNeg 1) (0 : Int32).toNatClampNeg (56 : Int32).toNatClampNeg (6 : Int32).toNatClampNeg) (59 : Int32).toNatClampNeg 0) (60 : Int32).toNatClampNeg 1)))]) [0, 1] rfl
  have hDc := hD.sub (ws' := [(h0, .inr (11, [.int 0, .int 1, .int 0, .int 1, .ref rq, .ref sbq])), (rq, .inl (ci, 119, .inl (upd (upd (va_cpy (upd (upd (upd (upd (fun _ => 0) (2 : Int32).toNatClampNeg (-1)) (3 : Int32).toNatClampNeg 0) (4 : Int32).toNatClampNeg 0) (5 : Int32).toNatClampNeg 0) (upd (upd (fun _ => 0) (0 : Int32).toNatClampNeg 3) (2 : Int32).toNatClampNeg 1) (0 : Int32).toNatClampNeg (56 : Int32).toNatClampNeg (6 : Int32).toNatClampNeg) (59 : Int32).toNatClampNeg 0) (60 : Int32).toNatClampNeg 1)))]) [0, 1] (by decide) rfl
  have hKc := hK.sub (tys' := [(ci, .int)]) [0] rfl
  have hFc := va_free (wc := [(h0, .inr (11, [.int 0, .int 1, .int 0, .int 1, .ref rq, .ref sbq])), (rq, .inl (ci, 119, .inl (upd (upd (va_cpy (upd (upd (upd (upd (fun _ => 0) (2 : Int32).toNatClampNeg (-1)) (3 : Int32).toNatClampNeg 0) (4 : Int32).toNatClampNeg 0) (5 : Int32).toNatClampNeg 0) (upd (upd (fun _ => 0) (0 : Int32).toNatClampNeg 3) (2 : Int32).toNatClampNeg 1) (0 : Int32).toNatClampNeg (56 : Int32).toNatClampNeg (6 : Int32).toNatClampNeg) (59 : Int32).toNatClampNeg 0) (60 : Int32).toNatClampNeg 1)))]) hD hS hA [0, 1] rfl
  refine va_callv (va_runV (As := [.int 0, .int 5, .int 0]) (rest := []) ⟨hx, hb, hml, hown, hts⟩ (c_setGu0_5 l hl9 dC dI tE h0 rq sbq 0 ci _ ) (cwV 3 hts (goodIn_app (goodIn_r _ [26, 27, 28, 6] (by rfl) (by decide +kernel)) gg_c_Mi_want_c_setGu0_5) rfl rfl rfl (by decide +kernel) ⟨Nat.le_of_ble_eq_true rfl, Nat.le_of_ble_eq_true rfl⟩) ⟨Pre0.blind, va_recv hKc hPc (ci := 11) (q0 := 0) rfl rfl, Pre0.give hPc hKc hDc hT hS hFc⟩ rfl rfl hl.1 rfl (lv_room (Nat.le_of_ble_eq_true rfl)) dX6_want_53 ⟨Nat.le_of_ble_eq_true rfl, Nat.le_of_ble_eq_true rfl⟩) hS (fun q _ h => hFc q h) hFc (fun u t H1 locs ht hvm hw hB hz1 hk1 hS => ?_)
  obtain ⟨hP1, hK1, hD1⟩ := hB
  rw [ht] at hP1
  have hK1 := va_K.moved hvm.symm hK1
  obtain ⟨hP, hD⟩ := va_join (wr := []) (w1 := [(h0, .inr (11, [.int 0, .int 1, .int 0, .int 1, .ref rq, .ref sbq])), (rq, .inl (ci, 119, .inl (upd (upd (upd (va_cpy (upd (upd (upd (upd (fun _ => 0) (2 : Int32).toNatClampNeg (-1)) (3 : Int32).toNatClampNeg 0) (4 : Int32).toNatClampNeg 0) (5 : Int32).toNatClampNeg 0) (upd (upd (fun _ => 0) (0 : Int32).toNatClampNeg 3) (2 : Int32).toNatClampNeg 1) (0 : Int32).toNatClampNeg (56 : Int32).toNatClampNeg (6 : Int32).toNatClampNeg) (59 : Int32).toNatClampNeg 0) (60 : Int32).toNatClampNeg 1) (61 : Int32).toNatClampNeg 0)))]) hP hD [0, 1] [] rfl rfl (by decide) (by decide) hk1 hFc hP1 hD1
  generalize H1 = H at hP hS ⊢
  have hP : va_P (dC, dI) vwCl [(h0, .inr (11, [.int 0, .int 1, .int 0, .int 1, .ref rq, .ref sbq])), (rq, .inl (ci, 119, .inl (upd (upd (upd (va_cpy (upd (upd (upd (upd (fun _ => 0) (2 : Int32).toNatClampNeg (-1)) (3 : Int32).toNatClampNeg 0) (4 : Int32).toNatClampNeg 0) (5 : Int32).toNatClampNeg 0) (upd (upd (fun _ => 0) (0 : Int32).toNatClampNeg 3) (2 : Int32).toNatClampNeg 1) (0 : Int32).toNatClampNeg (56 : Int32).toNatClampNeg (6 : Int32).toNatClampNeg) (59 : Int32).toNatClampNeg 0) (60 : Int32).toNatClampNeg 1) (61 : Int32).toNatClampNeg 0)))] H := hP
  have hD : va_D A [(h0, .inr (11, [.int 0, .int 1, .int 0, .int 1, .ref rq, .ref sbq])), (rq, .inl (ci, 119, .inl (upd (upd (upd (va_cpy (upd (upd (upd (upd (fun _ => 0) (2 : Int32).toNatClampNeg (-1)) (3 : Int32).toNatClampNeg 0) (4 : Int32).toNatClampNeg 0) (5 : Int32).toNatClampNeg 0) (upd (upd (fun _ => 0) (0 : Int32).toNatClampNeg 3) (2 : Int32).toNatClampNeg 1) (0 : Int32).toNatClampNeg (56 : Int32).toNatClampNeg (6 : Int32).toNatClampNeg) (59 : Int32).toNatClampNeg 0) (60 : Int32).toNatClampNeg 1) (61 : Int32).toNatClampNeg 0)))] := hD
  refine W.widen (k := 0) (n := 0) (by omega) (by omega) ?_
  refine lv_aload_n hx hb dX6_want_56 rfl (lv_at hl 0 rfl) ?_
  refine lv_iload_n hx hb dX6_want_57 rfl (lv_at hl 1 rfl) ?_
  have hPc := hP.sub (ws' := [(h0, .inr (11, [.int 0, .int 1, .int 0, .int 1, .ref rq, .ref sbq])), (rq, .inl (ci, 119, .inl (upd (upd (upd (va_cpy (upd (upd (upd (upd (fun _ => 0) (2 : Int32).toNatClampNeg (-1)) (3 : Int32).toNatClampNeg 0) (4 : Int32).toNatClampNeg 0) (5 : Int32).toNatClampNeg 0) (upd (upd (fun _ => 0) (0 : Int32).toNatClampNeg 3) (2 : Int32).toNatClampNeg 1) (0 : Int32).toNatClampNeg (56 : Int32).toNatClampNeg (6 : Int32).toNatClampNeg) (59 : Int32).toNatClampNeg 0) (60 : Int32).toNatClampNeg 1) (61 : Int32).toNatClampNeg 0)))]) [0, 1] rfl
  have hDc := hD.sub (ws' := [(h0, .inr (11, [.int 0, .int 1, .int 0, .int 1, .ref rq, .ref sbq])), (rq, .inl (ci, 119, .inl (upd (upd (upd (va_cpy (upd (upd (upd (upd (fun _ => 0) (2 : Int32).toNatClampNeg (-1)) (3 : Int32).toNatClampNeg 0) (4 : Int32).toNatClampNeg 0) (5 : Int32).toNatClampNeg 0) (upd (upd (fun _ => 0) (0 : Int32).toNatClampNeg 3) (2 : Int32).toNatClampNeg 1) (0 : Int32).toNatClampNeg (56 : Int32).toNatClampNeg (6 : Int32).toNatClampNeg) (59 : Int32).toNatClampNeg 0) (60 : Int32).toNatClampNeg 1) (61 : Int32).toNatClampNeg 0)))]) [0, 1] (by decide) rfl
  have hKc := hK.sub (tys' := [(ci, .int)]) [0] rfl
  have hFc := va_free (wc := [(h0, .inr (11, [.int 0, .int 1, .int 0, .int 1, .ref rq, .ref sbq])), (rq, .inl (ci, 119, .inl (upd (upd (upd (va_cpy (upd (upd (upd (upd (fun _ => 0) (2 : Int32).toNatClampNeg (-1)) (3 : Int32).toNatClampNeg 0) (4 : Int32).toNatClampNeg 0) (5 : Int32).toNatClampNeg 0) (upd (upd (fun _ => 0) (0 : Int32).toNatClampNeg 3) (2 : Int32).toNatClampNeg 1) (0 : Int32).toNatClampNeg (56 : Int32).toNatClampNeg (6 : Int32).toNatClampNeg) (59 : Int32).toNatClampNeg 0) (60 : Int32).toNatClampNeg 1) (61 : Int32).toNatClampNeg 0)))]) hD hS hA [0, 1] rfl
  refine va_calli (va_runV (As := [.int 0]) (rest := []) ⟨hx, hb, hml, hown, hts⟩ (c_isHome5 l hl9 dC dI tE h0 rq sbq 0 ci _ ) (cwV 1 hts (goodIn_app (goodIn_r _ [34, 35, 36, 6] (by rfl) (by decide +kernel)) gg_c_Mi_want_c_isHome5) rfl rfl rfl (by decide +kernel) ⟨Nat.le_of_ble_eq_true rfl, Nat.le_of_ble_eq_true rfl⟩) ⟨Pre0.blind, va_recv hKc hPc (ci := 11) (q0 := 0) rfl rfl, Pre0.give hPc hKc hDc hT hS hFc⟩ rfl rfl hl.1 rfl (lv_room (Nat.le_of_ble_eq_true rfl)) dX6_want_58 ⟨Nat.le_of_ble_eq_true rfl, Nat.le_of_ble_eq_true rfl⟩) hS (fun q _ h => hFc q h) hFc (fun r_9 u t H1 locs ht hvm hw hB hz1 hk1 hS => ?_)
  obtain ⟨hP1, hK1, hD1⟩ := hB
  rw [ht] at hP1
  have hK1 := va_K.moved hvm.symm hK1
  obtain ⟨hP, hD⟩ := va_join (wr := []) (w1 := [(h0, .inr (11, [.int 0, .int 1, .int 0, .int 1, .ref rq, .ref sbq])), (rq, .inl (ci, 119, .inl (upd (upd (upd (va_cpy (upd (upd (upd (upd (fun _ => 0) (2 : Int32).toNatClampNeg (-1)) (3 : Int32).toNatClampNeg 0) (4 : Int32).toNatClampNeg 0) (5 : Int32).toNatClampNeg 0) (upd (upd (fun _ => 0) (0 : Int32).toNatClampNeg 3) (2 : Int32).toNatClampNeg 1) (0 : Int32).toNatClampNeg (56 : Int32).toNatClampNeg (6 : Int32).toNatClampNeg) (59 : Int32).toNatClampNeg 0) (60 : Int32).toNatClampNeg 1) (61 : Int32).toNatClampNeg 0)))]) hP hD [0, 1] [] rfl rfl (by decide) (by decide) hk1 hFc hP1 hD1
  generalize H1 = H at hP hS ⊢
  have hP : va_P (dC, dI) vwCl [(h0, .inr (11, [.int 0, .int 1, .int 0, .int 1, .ref rq, .ref sbq])), (rq, .inl (ci, 119, .inl (upd (upd (upd (va_cpy (upd (upd (upd (upd (fun _ => 0) (2 : Int32).toNatClampNeg (-1)) (3 : Int32).toNatClampNeg 0) (4 : Int32).toNatClampNeg 0) (5 : Int32).toNatClampNeg 0) (upd (upd (fun _ => 0) (0 : Int32).toNatClampNeg 3) (2 : Int32).toNatClampNeg 1) (0 : Int32).toNatClampNeg (56 : Int32).toNatClampNeg (6 : Int32).toNatClampNeg) (59 : Int32).toNatClampNeg 0) (60 : Int32).toNatClampNeg 1) (61 : Int32).toNatClampNeg 0)))] H := hP
  have hD : va_D A [(h0, .inr (11, [.int 0, .int 1, .int 0, .int 1, .ref rq, .ref sbq])), (rq, .inl (ci, 119, .inl (upd (upd (upd (va_cpy (upd (upd (upd (upd (fun _ => 0) (2 : Int32).toNatClampNeg (-1)) (3 : Int32).toNatClampNeg 0) (4 : Int32).toNatClampNeg 0) (5 : Int32).toNatClampNeg 0) (upd (upd (fun _ => 0) (0 : Int32).toNatClampNeg 3) (2 : Int32).toNatClampNeg 1) (0 : Int32).toNatClampNeg (56 : Int32).toNatClampNeg (6 : Int32).toNatClampNeg) (59 : Int32).toNatClampNeg 0) (60 : Int32).toNatClampNeg 1) (61 : Int32).toNatClampNeg 0)))] := hD
  refine W.widen (k := 0) (n := 0) (by omega) (by omega) ?_
  obtain rfl : r_9 = 0 := hw
  have hP9 := hP.sub (ws' := [(h0, .inr (11, [.int 0, .int 1, .int 0, .int 1, .ref rq, .ref sbq])), (rq, .inl (ci, 119, .inl (upd (upd (upd (va_cpy (upd (upd (upd (upd (fun _ => 0) (2 : Int32).toNatClampNeg (-1)) (3 : Int32).toNatClampNeg 0) (4 : Int32).toNatClampNeg 0) (5 : Int32).toNatClampNeg 0) (upd (upd (fun _ => 0) (0 : Int32).toNatClampNeg 3) (2 : Int32).toNatClampNeg 1) (0 : Int32).toNatClampNeg (56 : Int32).toNatClampNeg (6 : Int32).toNatClampNeg) (59 : Int32).toNatClampNeg 0) (60 : Int32).toNatClampNeg 1) (61 : Int32).toNatClampNeg 0)))]) [0, 1] rfl
  have hD9 := hD.sub (ws' := [(h0, .inr (11, [.int 0, .int 1, .int 0, .int 1, .ref rq, .ref sbq])), (rq, .inl (ci, 119, .inl (upd (upd (upd (va_cpy (upd (upd (upd (upd (fun _ => 0) (2 : Int32).toNatClampNeg (-1)) (3 : Int32).toNatClampNeg 0) (4 : Int32).toNatClampNeg 0) (5 : Int32).toNatClampNeg 0) (upd (upd (fun _ => 0) (0 : Int32).toNatClampNeg 3) (2 : Int32).toNatClampNeg 1) (0 : Int32).toNatClampNeg (56 : Int32).toNatClampNeg (6 : Int32).toNatClampNeg) (59 : Int32).toNatClampNeg 0) (60 : Int32).toNatClampNeg 1) (61 : Int32).toNatClampNeg 0)))]) [0, 1] (by decide) rfl
  have hK9 := hK.sub (tys' := [(ci, .int)]) [0] rfl
  exact W.zret (v := 0) hx hb hr (by decide) (fun t ht hW => ⟨⟨0, (), rfl, rfl, by rw [ht]; exact hP9, va_K.moved hW.alike hK9, hD9⟩, hS.F ht⟩) hS.2.2 dX6_want_61
