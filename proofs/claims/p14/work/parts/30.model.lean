theorem dX6_fl_0 : decode cX6_fl 0 = .ok (.aload_n 0, 1) := by decide +kernel
theorem dX6_fl_1 : decode cX6_fl 1 = .ok (.getfield 9, 3) := by decide +kernel
theorem dX6_fl_10 : decode cX6_fl 10 = .ok (.ireturn, 1) := by decide +kernel
theorem dX6_fl_4 : decode cX6_fl 4 = .ok (.iconst 4, 1) := by decide +kernel
theorem dX6_fl_5 : decode cX6_fl 5 = .ok (.iload_n 1, 1) := by decide +kernel
theorem dX6_fl_6 : decode cX6_fl 6 = .ok (.imul, 1) := by decide +kernel
theorem dX6_fl_7 : decode cX6_fl 7 = .ok (.iload_n 2, 1) := by decide +kernel
theorem dX6_fl_8 : decode cX6_fl 8 = .ok (.iadd, 1) := by decide +kernel
theorem dX6_fl_9 : decode cX6_fl 9 = .ok (.iaload, 1) := by decide +kernel
theorem dX6_gu_0 : decode cX6_gu 0 = .ok (.aload_n 0, 1) := by decide +kernel
theorem dX6_gu_1 : decode cX6_gu 1 = .ok (.getfield 9, 3) := by decide +kernel
theorem dX6_gu_10 : decode cX6_gu 10 = .ok (.iadd, 1) := by decide +kernel
theorem dX6_gu_11 : decode cX6_gu 11 = .ok (.iload_n 2, 1) := by decide +kernel
theorem dX6_gu_12 : decode cX6_gu 12 = .ok (.iadd, 1) := by decide +kernel
theorem dX6_gu_13 : decode cX6_gu 13 = .ok (.iaload, 1) := by decide +kernel
theorem dX6_gu_14 : decode cX6_gu 14 = .ok (.ireturn, 1) := by decide +kernel
theorem dX6_gu_4 : decode cX6_gu 4 = .ok (.bipush 56, 2) := by decide +kernel
theorem dX6_gu_6 : decode cX6_gu 6 = .ok (.bipush 6, 2) := by decide +kernel
theorem dX6_gu_8 : decode cX6_gu 8 = .ok (.iload_n 1, 1) := by decide +kernel
theorem dX6_gu_9 : decode cX6_gu 9 = .ok (.imul, 1) := by decide +kernel
theorem dX6_init_0 : decode cX6_init 0 = .ok (.aload_n 0, 1) := by decide +kernel
theorem dX6_init_1 : decode cX6_init 1 = .ok (.invokespecial 3, 3) := by decide +kernel
theorem dX6_init_12 : decode cX6_init 12 = .ok (.aload_n 0, 1) := by decide +kernel
theorem dX6_init_13 : decode cX6_init 13 = .ok (.new 13, 3) := by decide +kernel
theorem dX6_init_16 : decode cX6_init 16 = .ok (.dup, 1) := by decide +kernel
theorem dX6_init_17 : decode cX6_init 17 = .ok (.invokespecial 15, 3) := by decide +kernel
theorem dX6_init_20 : decode cX6_init 20 = .ok (.putfield 16, 3) := by decide +kernel
theorem dX6_init_23 : decode cX6_init 23 = .ok (.return_, 1) := by decide +kernel
theorem dX6_init_4 : decode cX6_init 4 = .ok (.aload_n 0, 1) := by decide +kernel
theorem dX6_init_5 : decode cX6_init 5 = .ok (.bipush 119, 2) := by decide +kernel
theorem dX6_init_7 : decode cX6_init 7 = .ok (.newarray .int, 2) := by decide +kernel
theorem dX6_init_9 : decode cX6_init 9 = .ok (.putfield 9, 3) := by decide +kernel
theorem dX6_isGuest_0 : decode cX6_isGuest 0 = .ok (.iload_n 1, 1) := by decide +kernel
theorem dX6_isGuest_1 : decode cX6_isGuest 1 = .ok (.iconst 0, 1) := by decide +kernel
theorem dX6_isGuest_11 : decode cX6_isGuest 11 = .ok (.ireturn, 1) := by decide +kernel
theorem dX6_isGuest_2 : decode cX6_isGuest 2 = .ok (.aload_n 0, 1) := by decide +kernel
theorem dX6_isGuest_3 : decode cX6_isGuest 3 = .ok (.getfield 34, 3) := by decide +kernel
theorem dX6_isGuest_6 : decode cX6_isGuest 6 = .ok (.iconst 1, 1) := by decide +kernel
theorem dX6_isGuest_7 : decode cX6_isGuest 7 = .ok (.isub, 1) := by decide +kernel
theorem dX6_isGuest_8 : decode cX6_isGuest 8 = .ok (.invokestatic 27, 3) := by decide +kernel
theorem dX6_isHome_0 : decode cX6_isHome 0 = .ok (.aload_n 0, 1) := by decide +kernel
theorem dX6_isHome_1 : decode cX6_isHome 1 = .ok (.iload_n 1, 1) := by decide +kernel
theorem dX6_isHome_10 : decode cX6_isHome 10 = .ok (.aload_n 0, 1) := by decide +kernel
theorem dX6_isHome_11 : decode cX6_isHome 11 = .ok (.iload_n 1, 1) := by decide +kernel
theorem dX6_isHome_12 : decode cX6_isHome 12 = .ok (.iconst 0, 1) := by decide +kernel
theorem dX6_isHome_13 : decode cX6_isHome 13 = .ok (.invokevirtual 78, 3) := by decide +kernel
theorem dX6_isHome_16 : decode cX6_isHome 16 = .ok (.aload_n 0, 1) := by decide +kernel
theorem dX6_isHome_17 : decode cX6_isHome 17 = .ok (.iload_n 1, 1) := by decide +kernel
theorem dX6_isHome_18 : decode cX6_isHome 18 = .ok (.iconst 3, 1) := by decide +kernel
theorem dX6_isHome_19 : decode cX6_isHome 19 = .ok (.invokevirtual 78, 3) := by decide +kernel
theorem dX6_isHome_2 : decode cX6_isHome 2 = .ok (.iconst 2, 1) := by decide +kernel
theorem dX6_isHome_22 : decode cX6_isHome 22 = .ok (.if_icmp .ne 22, 3) := by decide +kernel
theorem dX6_isHome_25 : decode cX6_isHome 25 = .ok (.aload_n 0, 1) := by decide +kernel
theorem dX6_isHome_26 : decode cX6_isHome 26 = .ok (.iload_n 1, 1) := by decide +kernel
theorem dX6_isHome_27 : decode cX6_isHome 27 = .ok (.iconst 1, 1) := by decide +kernel
theorem dX6_isHome_28 : decode cX6_isHome 28 = .ok (.invokevirtual 78, 3) := by decide +kernel
theorem dX6_isHome_3 : decode cX6_isHome 3 = .ok (.invokevirtual 78, 3) := by decide +kernel
theorem dX6_isHome_31 : decode cX6_isHome 31 = .ok (.aload_n 0, 1) := by decide +kernel
theorem dX6_isHome_32 : decode cX6_isHome 32 = .ok (.iload_n 1, 1) := by decide +kernel
theorem dX6_isHome_33 : decode cX6_isHome 33 = .ok (.iconst 4, 1) := by decide +kernel
theorem dX6_isHome_34 : decode cX6_isHome 34 = .ok (.invokevirtual 78, 3) := by decide +kernel
theorem dX6_isHome_37 : decode cX6_isHome 37 = .ok (.if_icmp .ne 7, 3) := by decide +kernel
theorem dX6_isHome_44 : decode cX6_isHome 44 = .ok (.iconst 0, 1) := by decide +kernel
theorem dX6_isHome_45 : decode cX6_isHome 45 = .ok (.ireturn, 1) := by decide +kernel
theorem dX6_isHome_6 : decode cX6_isHome 6 = .ok (.iconst (-1), 1) := by decide +kernel
theorem dX6_isHome_7 : decode cX6_isHome 7 = .ok (.if_icmp .ne 37, 3) := by decide +kernel
theorem dX6_isIn_0 : decode cX6_isIn 0 = .ok (.iload_n 0, 1) := by decide +kernel
theorem dX6_isIn_1 : decode cX6_isIn 1 = .ok (.iload_n 1, 1) := by decide +kernel
theorem dX6_isIn_10 : decode cX6_isIn 10 = .ok (.iconst 1, 1) := by decide +kernel
theorem dX6_isIn_11 : decode cX6_isIn 11 = .ok (.goto 4, 3) := by decide +kernel
theorem dX6_isIn_14 : decode cX6_isIn 14 = .ok (.iconst 0, 1) := by decide +kernel
theorem dX6_isIn_15 : decode cX6_isIn 15 = .ok (.ireturn, 1) := by decide +kernel
theorem dX6_isIn_2 : decode cX6_isIn 2 = .ok (.if_icmp .lt 12, 3) := by decide +kernel
theorem dX6_isIn_5 : decode cX6_isIn 5 = .ok (.iload_n 0, 1) := by decide +kernel
theorem dX6_isIn_6 : decode cX6_isIn 6 = .ok (.iload_n 2, 1) := by decide +kernel
theorem dX6_isIn_7 : decode cX6_isIn 7 = .ok (.if_icmp .gt 7, 3) := by decide +kernel
theorem dX6_power_0 : decode cX6_power 0 = .ok (.iconst 1, 1) := by decide +kernel
theorem dX6_power_1 : decode cX6_power 1 = .ok (.istore_n 1, 1) := by decide +kernel
theorem dX6_power_10 : decode cX6_power 10 = .ok (.bipush 10, 2) := by decide +kernel
theorem dX6_power_12 : decode cX6_power 12 = .ok (.imul, 1) := by decide +kernel
theorem dX6_power_13 : decode cX6_power 13 = .ok (.istore_n 1, 1) := by decide +kernel
theorem dX6_power_14 : decode cX6_power 14 = .ok (.iinc 2 1, 3) := by decide +kernel
theorem dX6_power_17 : decode cX6_power 17 = .ok (.goto (-13), 3) := by decide +kernel
theorem dX6_power_2 : decode cX6_power 2 = .ok (.iconst 0, 1) := by decide +kernel
theorem dX6_power_20 : decode cX6_power 20 = .ok (.iload_n 1, 1) := by decide +kernel
theorem dX6_power_21 : decode cX6_power 21 = .ok (.ireturn, 1) := by decide +kernel
theorem dX6_power_3 : decode cX6_power 3 = .ok (.istore_n 2, 1) := by decide +kernel
theorem dX6_power_4 : decode cX6_power 4 = .ok (.iload_n 2, 1) := by decide +kernel
theorem dX6_power_5 : decode cX6_power 5 = .ok (.iload_n 0, 1) := by decide +kernel
theorem dX6_power_6 : decode cX6_power 6 = .ok (.if_icmp .ge 14, 3) := by decide +kernel
theorem dX6_power_9 : decode cX6_power 9 = .ok (.iload_n 1, 1) := by decide +kernel
theorem dX6_setFl_0 : decode cX6_setFl 0 = .ok (.aload_n 0, 1) := by decide +kernel
theorem dX6_setFl_1 : decode cX6_setFl 1 = .ok (.getfield 9, 3) := by decide +kernel
theorem dX6_setFl_10 : decode cX6_setFl 10 = .ok (.iastore, 1) := by decide +kernel
theorem dX6_setFl_11 : decode cX6_setFl 11 = .ok (.return_, 1) := by decide +kernel
theorem dX6_setFl_4 : decode cX6_setFl 4 = .ok (.iconst 4, 1) := by decide +kernel
theorem dX6_setFl_5 : decode cX6_setFl 5 = .ok (.iload_n 1, 1) := by decide +kernel
theorem dX6_setFl_6 : decode cX6_setFl 6 = .ok (.imul, 1) := by decide +kernel
theorem dX6_setFl_7 : decode cX6_setFl 7 = .ok (.iload_n 2, 1) := by decide +kernel
theorem dX6_setFl_8 : decode cX6_setFl 8 = .ok (.iadd, 1) := by decide +kernel
theorem dX6_setFl_9 : decode cX6_setFl 9 = .ok (.iload_n 3, 1) := by decide +kernel
theorem dX6_setGu_0 : decode cX6_setGu 0 = .ok (.aload_n 0, 1) := by decide +kernel
theorem dX6_setGu_1 : decode cX6_setGu 1 = .ok (.getfield 9, 3) := by decide +kernel
theorem dX6_setGu_10 : decode cX6_setGu 10 = .ok (.iadd, 1) := by decide +kernel
theorem dX6_setGu_11 : decode cX6_setGu 11 = .ok (.iload_n 2, 1) := by decide +kernel
theorem dX6_setGu_12 : decode cX6_setGu 12 = .ok (.iadd, 1) := by decide +kernel
theorem dX6_setGu_13 : decode cX6_setGu 13 = .ok (.iload_n 3, 1) := by decide +kernel
theorem dX6_setGu_14 : decode cX6_setGu 14 = .ok (.iastore, 1) := by decide +kernel
theorem dX6_setGu_15 : decode cX6_setGu 15 = .ok (.return_, 1) := by decide +kernel
theorem dX6_setGu_4 : decode cX6_setGu 4 = .ok (.bipush 56, 2) := by decide +kernel
theorem dX6_setGu_6 : decode cX6_setGu 6 = .ok (.bipush 6, 2) := by decide +kernel
theorem dX6_setGu_8 : decode cX6_setGu 8 = .ok (.iload_n 1, 1) := by decide +kernel
theorem dX6_setGu_9 : decode cX6_setGu 9 = .ok (.imul, 1) := by decide +kernel
theorem dX6_thrown_0 : decode cX6_thrown 0 = .ok (.aload_n 0, 1) := by decide +kernel
theorem dX6_thrown_1 : decode cX6_thrown 1 = .ok (.getfield 20, 3) := by decide +kernel
theorem dX6_thrown_4 : decode cX6_thrown 4 = .ok (.ireturn, 1) := by decide +kernel
def v_c_Mi_init : List Cond := .code yX6_init cX6_init 1 none :: ([Cond.methodLink RX6 3 objectInit, Cond.instanceMethod objectInit, Cond.code objectInit ⟨#[0xb1]⟩ 1 none, Cond.arrayClass .int, Cond.fieldLink RX6 9 "HotelOfBellsModel" "row" "[I", Cond.classLink RX6 13 RJ4, Cond.instantiable RJ4 4, Cond.initialized RJ4, Cond.code yJ4_init_da8c8 cJ4_init_da8c8 1 none, Cond.code yJ5_init_d00df cJ5_init_d00df 2 none, Cond.methodLink RJ5 3 objectInit, Cond.fieldLink RJ5 18 "java/lang/String" "COMPACT_STRINGS" "Z", Cond.arrayClass .byte, Cond.fieldLink RJ5 15 "java/lang/AbstractStringBuilder" "value" "[B", Cond.fieldLink RJ5 22 "java/lang/AbstractStringBuilder" "coder" "B", Cond.initialized RJ5, Cond.methodLink RJ4 1 yJ5_init_d00df, Cond.instanceMethod yJ5_init_d00df, Cond.methodLink RX6 15 yJ4_init_da8c8, Cond.instanceMethod yJ4_init_da8c8, Cond.fieldLink RX6 16 "HotelOfBellsModel" "paper" "Ljava/lang/StringBuilder;"] ++ (wsX60 ++ (wsJ40 ++ [])))
theorem u_c_Mi_init_X6 : ∀ w ∈ wsX60, w ∈ v_c_Mi_init := fun _ h => List.mem_cons_of_mem _ (List.mem_append_right _ (List.mem_append_left _ h))
theorem u_c_Mi_init_J4 : ∀ w ∈ wsJ40, w ∈ v_c_Mi_init := fun _ h => List.mem_cons_of_mem _ (List.mem_append_right _ (List.mem_append_right _ (List.mem_append_left _ h)))
theorem gg_c_Mi_init_c_SB_init : GoodIn v_c_Mi_init v_c_SB_init := goodIn_r _ [9, 10, 11, 2, 3, 12, 13, 14, 15, 16, 17, 18, 28, 29, 30, 31] (by rfl) (by decide +kernel)
set_option maxHeartbeats 4000000 in
set_option maxRecDepth 100000 in
theorem c_Mi_init (l : Launch) (hl9 : l.stackTraces = false) (dC : Nat → ClassId) (dI : Nat → Nat → Nat) (tE : Nat) (h0 : Nat) (sz : Nat) : Met l yX6_init v_c_Mi_init ({ frames := 3, cells := 3, slots := 139, locals := 53 }) (va_Pc [.ref h0] (Pre0 dC dI tE sz [] [(h0, .inr (11, [.int 0, .int 0, .int 0, .int 0, .null, .null]))])) (va_Qv (fun (_ : Unit) => True) (fun _ t => ∃ (qx0 : Nat), ∃ (qx1 : Nat), ∃ (cx0 : ClassId), ∃ (qd3 : Nat), Pst dC dI [(cx0, .int)] (va_A [(h0, .inr (11, [.int 0, .int 0, .int 0, .int 0, .null, .null]))] sz) [(h0, .inr (11, [.int 0, .int 0, .int 0, .int 0, .ref qx0, .ref qx1])), (qx0, .inl (cx0, 119, .inl (fun _ => 0))), (qx1, .inr (1, [.ref qd3, .int 0, .int 0, .int 0]))] t) (va_A [(h0, .inr (11, [.int 0, .int 0, .int 0, .int 0, .null, .null]))] sz)) 3 139 (va_A [(h0, .inr (11, [.int 0, .int 0, .int 0, .int 0, .null, .null]))] sz) := by
  refine Met.ofW (cc := cX6_init) (maxL := 1) (ret := none) (by decide) rfl ?_
  intro p e s m args below meth c s₁ B hml hv
  obtain ⟨rfl, hsz, hP, hK, hD0, hT⟩ := hv
  have hx := B.exec
  have hb := B.bytes
  have hr := B.returns
  have hts := atoms_spec (ws := v_c_Mi_init) B.pre
  have hown : s.vm.findClass RX6 = some m.cls := findClass_of_methodNamed B.named
  have hlocks := B.notSynchronized
  have hin : meth.name = "<init>" := (name_of_methodNamed B.named B.method).1
  subst hsz
  have hD := hD0.self (sz := s.heap.size)
  generalize hAe : va_A [(h0, .inr (11, [.int 0, .int 0, .int 0, .int 0, .null, .null]))] s.heap.size = A at hD hT ⊢
  have hA : ∀ q : Nat, s.heap.size ≤ q → A q := fun q h => by rw [← hAe]; exact Or.inr h
  have hS : va_S A s.heap s.heap [] := va_S.rf
  have hl := lv_entry ([.ref h0]) (n := 1) (Nat.le_of_ble_eq_true rfl)
  rw [lg_entry_eq]
  generalize (lg_sl ([.ref h0]) ++ List.replicate (1 - (lg_sl ([.ref h0])).length) Slot.unset).toArray = ls at hl ⊢
  have hl : lv_has ls 1 [(0, .ref h0)] := hl
  refine lv_aload_n hx hb dX6_init_0 rfl (lv_at hl 0 rfl) ?_
  refine W.objInit hx hb hown (hts (.methodLink RX6 3 objectInit) (List.mem_of_getElem? (i := 1) rfl)) (hts (.instanceMethod objectInit) (List.mem_of_getElem? (i := 2) rfl)) (hts (.code objectInit ⟨#[0xb1]⟩ 1 none) (List.mem_of_getElem? (i := 3) rfl)) rfl (by rw [hml]; exact hl.1) rfl dX6_init_1 (Nat.le_of_ble_eq_true rfl) (Nat.le_of_ble_eq_true rfl) ?_
  refine W.eq (g2 := F0 m 4 ls []) rfl ?_
  refine lv_aload_n hx hb dX6_init_4 rfl (lv_at hl 0 rfl) ?_
  refine lv_bipush (v := 119) hx hb dX6_init_5 (by decide) ?_
  refine va_newa (atype := .int) (ty := .int) (N' := 119) (a0 := (119, .inl (fun _ => 0))) hx hb (hts (.arrayClass .int) (List.mem_of_getElem? (i := 4) rfl)) rfl hK hP hD hS hA (fun _ => rfl) (by decide) (by decide) (Nat.le_of_ble_eq_true rfl) (Nat.le_of_ble_eq_true rfl) (Nat.le_of_ble_eq_true rfl) dX6_init_7 (fun q_1 cA_2 H hK hP hD hS => ?_)
  have hP : va_P (dC, dI) vwCl [(h0, .inr (11, [.int 0, .int 0, .int 0, .int 0, .null, .null])), (q_1, .inl (cA_2, 119, .inl (fun _ => 0)))] H := hP
  have hD : va_D A [(h0, .inr (11, [.int 0, .int 0, .int 0, .int 0, .null, .null])), (q_1, .inl (cA_2, 119, .inl (fun _ => 0)))] := hD
  have hK : va_K (dC, dI) vwCl [(cA_2, .int)] s := hK
  refine W.widen (k := 1) (n := 119) (by omega) (by omega) ?_
  refine va_put (D := (dC, dI)) (ci := 11) (v := .ref q_1) (ty := .array .int) (C := RX6) (T := TX6) (N := 6) hx hb hts u_c_Mi_init_X6 tyX6 tyX6_ok nmX6 hown hK hP hD hS 0 rfl rfl 4 (by decide) (hts (.fieldLink RX6 9 "HotelOfBellsModel" "row" "[I") (List.mem_of_getElem? (i := 5) rfl)) (fun _ h9 => h9) rfl (by decide +kernel) rfl rfl (Nat.le_of_ble_eq_true rfl) dX6_init_9 (fun H locs hP hD hS => ?_)
  have hP : va_P (dC, dI) vwCl [(h0, .inr (11, [.int 0, .int 0, .int 0, .int 0, .ref q_1, .null])), (q_1, .inl (cA_2, 119, .inl (fun _ => 0)))] H := hP
  have hD : va_D A [(h0, .inr (11, [.int 0, .int 0, .int 0, .int 0, .ref q_1, .null])), (q_1, .inl (cA_2, 119, .inl (fun _ => 0)))] := hD
  refine lv_aload_n hx hb dX6_init_12 rfl (lv_at hl 0 rfl) ?_
  refine va_new (ci := 1) (fs := [.null, .int 0, .int 0, .int 0]) (C := RJ4) (T := TJ4) (N := 4) hx hb hts u_c_Mi_init_J4 tyJ4 tyJ4_ok hown (hts (.classLink RX6 13 RJ4) (List.mem_of_getElem? (i := 6) rfl)) (hts (.instantiable RJ4 4) (List.mem_of_getElem? (i := 7) rfl)) (hts (.initialized RJ4) (List.mem_of_getElem? (i := 8) rfl)) hK hP hD hS hA rfl (fun j hj => by rcases (show j = 0 ∨ j = 1 ∨ j = 2 ∨ j = 3 by omega) with rfl | rfl | rfl | rfl <;> rfl) (Nat.le_of_ble_eq_true rfl) (Nat.le_of_ble_eq_true rfl) dX6_init_13 (fun q_3 H hP hD hS => ?_)
  have hP : va_P (dC, dI) vwCl [(h0, .inr (11, [.int 0, .int 0, .int 0, .int 0, .ref q_1, .null])), (q_1, .inl (cA_2, 119, .inl (fun _ => 0))), (q_3, .inr (1, [.null, .int 0, .int 0, .int 0]))] H := hP
  have hD : va_D A [(h0, .inr (11, [.int 0, .int 0, .int 0, .int 0, .ref q_1, .null])), (q_1, .inl (cA_2, 119, .inl (fun _ => 0))), (q_3, .inr (1, [.null, .int 0, .int 0, .int 0]))] := hD
  refine W.widen (k := 2) (n := 123) (by omega) (by omega) ?_
  refine lv_dup hx hb dX6_init_16 rfl ?_
  have hPc := hP.sub (ws' := [(q_3, .inr (1, [.null, .int 0, .int 0, .int 0]))]) [2] rfl
  have hDc := hD.sub (ws' := [(q_3, .inr (1, [.null, .int 0, .int 0, .int 0]))]) [2] (by decide) rfl
  have hKc := hK.sub (tys' := []) [] rfl
  have hFc := va_free (wc := [(q_3, .inr (1, [.null, .int 0, .int 0, .int 0]))]) hD hS hA [2] rfl
  refine va_callv (va_runI (As := []) (rest := [.ref q_3, .ref h0]) ⟨hx, hb, hml, hown, hts⟩ (c_SB_init l hl9 dC dI tE q_3 _ ) (cwI 0 hts gg_c_Mi_init_c_SB_init rfl rfl rfl (hts (.initialized RJ4) (List.mem_of_getElem? (i := 8) rfl)) (hts (.methodLink RX6 15 yJ4_init_da8c8) (List.mem_of_getElem? (i := 19) rfl)) (hts (.instanceMethod yJ4_init_da8c8) (List.mem_of_getElem? (i := 20) rfl)) rfl (by decide +kernel) ⟨Nat.le_of_ble_eq_true rfl, Nat.le_of_ble_eq_true rfl⟩) ⟨Pre0.blind, Pre0.give hPc hKc hDc hT hS hFc⟩ rfl rfl hl.1 rfl (lv_room (Nat.le_of_ble_eq_true rfl)) dX6_init_17 ⟨Nat.le_of_ble_eq_true rfl, Nat.le_of_ble_eq_true rfl⟩) hS (fun q _ h => hFc q h) hFc (fun u t H1 locs ht hvm hw hB hz1 hk1 hS => ?_)
  obtain ⟨qd_5, hP1, hK1, hD1⟩ := hB
  rw [ht] at hP1
  have hK1 := va_K.moved hvm.symm hK1
  obtain ⟨hP, hD⟩ := va_join (wr := [(h0, .inr (11, [.int 0, .int 0, .int 0, .int 0, .ref q_1, .null])), (q_1, .inl (cA_2, 119, .inl (fun _ => 0)))]) (w1 := [(q_3, .inr (1, [.ref qd_5, .int 0, .int 0, .int 0]))]) hP hD [2] [0, 1] rfl rfl (by decide) (by decide) hk1 hFc hP1 hD1
  generalize H1 = H at hP hS ⊢
  have hP : va_P (dC, dI) vwCl [(h0, .inr (11, [.int 0, .int 0, .int 0, .int 0, .ref q_1, .null])), (q_1, .inl (cA_2, 119, .inl (fun _ => 0))), (q_3, .inr (1, [.ref qd_5, .int 0, .int 0, .int 0]))] H := hP
  have hD : va_D A [(h0, .inr (11, [.int 0, .int 0, .int 0, .int 0, .ref q_1, .null])), (q_1, .inl (cA_2, 119, .inl (fun _ => 0))), (q_3, .inr (1, [.ref qd_5, .int 0, .int 0, .int 0]))] := hD
  refine W.widen (k := 3) (n := 139) (by omega) (by omega) ?_
  refine va_putF (D := (dC, dI)) (ci := 11) (v := .ref q_3) (ty := .object "java/lang/StringBuilder") (C := RX6) (T := TX6) (N := 6) hx hb hts u_c_Mi_init_X6 tyX6 tyX6_ok nmX6 hown hK hP hD hS 0 rfl rfl 5 (by decide) (hts (.fieldLink RX6 16 "HotelOfBellsModel" "paper" "Ljava/lang/StringBuilder;") (List.mem_of_getElem? (i := 21) rfl)) (fun _ h9 => h9) rfl hin rfl (by decide +kernel) rfl rfl (Nat.le_of_ble_eq_true rfl) dX6_init_20 (fun H locs hP hD hS => ?_)
  have hP : va_P (dC, dI) vwCl [(h0, .inr (11, [.int 0, .int 0, .int 0, .int 0, .ref q_1, .ref q_3])), (q_1, .inl (cA_2, 119, .inl (fun _ => 0))), (q_3, .inr (1, [.ref qd_5, .int 0, .int 0, .int 0]))] H := hP
  have hD : va_D A [(h0, .inr (11, [.int 0, .int 0, .int 0, .int 0, .ref q_1, .ref q_3])), (q_1, .inl (cA_2, 119, .inl (fun _ => 0))), (q_3, .inr (1, [.ref qd_5, .int 0, .int 0, .int 0]))] := hD
  have hP9 := hP.sub (ws' := [(h0, .inr (11, [.int 0, .int 0, .int 0, .int 0, .ref q_1, .ref q_3])), (q_1, .inl (cA_2, 119, .inl (fun _ => 0))), (q_3, .inr (1, [.ref qd_5, .int 0, .int 0, .int 0]))]) [0, 1, 2] rfl
  have hD9 := hD.sub (ws' := [(h0, .inr (11, [.int 0, .int 0, .int 0, .int 0, .ref q_1, .ref q_3])), (q_1, .inl (cA_2, 119, .inl (fun _ => 0))), (q_3, .inr (1, [.ref qd_5, .int 0, .int 0, .int 0]))]) [0, 1, 2] (by decide) rfl
  have hK9 := hK.sub (tys' := [(cA_2, .int)]) [0] rfl
  exact W.vret hx hb hr (fun t ht hW => ⟨⟨(), rfl, trivial, q_1, q_3, cA_2, qd_5, by rw [ht]; exact hP9, va_K.moved hW.alike hK9, hD9⟩, hS.F ht⟩) hS.2.2 dX6_init_23
def v_c_Mi_thrown : List Cond := .code yX6_thrown cX6_thrown 1 (some .int) :: ([Cond.fieldLink RX6 20 "HotelOfBellsModel" "thrown" "I"] ++ (wsX60 ++ []))
theorem u_c_Mi_thrown_X6 : ∀ w ∈ wsX60, w ∈ v_c_Mi_thrown := fun _ h => List.mem_cons_of_mem _ (List.mem_append_right _ (List.mem_append_left _ h))
set_option maxHeartbeats 4000000 in
set_option maxRecDepth 100000 in
theorem c_Mi_thrown (l : Launch) (hl9 : l.stackTraces = false) (dC : Nat → ClassId) (dI : Nat → Nat → Nat) (tE : Nat) (h0 : Nat) (rq : Nat) (sbq : Nat) (th : Int32) (nf : Int32) (nl : Int32) (ng : Int32) (sz : Nat) : Met l yX6_thrown v_c_Mi_thrown ({ frames := 0, cells := 0, slots := 0, locals := 0 }) (va_Pc [.ref h0] (Pre0 dC dI tE sz [] [(h0, .inr (11, [.int th, .int nf, .int nl, .int ng, .ref rq, .ref sbq]))])) (va_Qi (fun (r : Int32) (_ : Unit) => r = th) (fun _ t => Pst dC dI [] (va_A [(h0, .inr (11, [.int th, .int nf, .int nl, .int ng, .ref rq, .ref sbq]))] sz) [(h0, .inr (11, [.int th, .int nf, .int nl, .int ng, .ref rq, .ref sbq]))] t) (va_A [(h0, .inr (11, [.int th, .int nf, .int nl, .int ng, .ref rq, .ref sbq]))] sz)) 0 0 (va_A [(h0, .inr (11, [.int th, .int nf, .int nl, .int ng, .ref rq, .ref sbq]))] sz) := by
  refine Met.ofW (cc := cX6_thrown) (maxL := 1) (ret := (some .int)) (by decide) rfl ?_
  intro p e s m args below meth c s₁ B hml hv
  obtain ⟨rfl, hsz, hP, hK, hD0, hT⟩ := hv
  have hx := B.exec
  have hb := B.bytes
  have hr := B.returns
  have hts := atoms_spec (ws := v_c_Mi_thrown) B.pre
  have hown : s.vm.findClass RX6 = some m.cls := findClass_of_methodNamed B.named
  have hlocks := B.notSynchronized
  subst hsz
  have hD := hD0.self (sz := s.heap.size)
  generalize hAe : va_A [(h0, .inr (11, [.int th, .int nf, .int nl, .int ng, .ref rq, .ref sbq]))] s.heap.size = A at hD hT ⊢
  have hA : ∀ q : Nat, s.heap.size ≤ q → A q := fun q h => by rw [← hAe]; exact Or.inr h
  have hS : va_S A s.heap s.heap [] := va_S.rf
  have hl := lv_entry ([.ref h0]) (n := 1) (Nat.le_of_ble_eq_true rfl)
  rw [lg_entry_eq]
  generalize (lg_sl ([.ref h0]) ++ List.replicate (1 - (lg_sl ([.ref h0])).length) Slot.unset).toArray = ls at hl ⊢
  have hl : lv_has ls 1 [(0, .ref h0)] := hl
  refine lv_aload_n hx hb dX6_thrown_0 rfl (lv_at hl 0 rfl) ?_
  refine va_get (D := (dC, dI)) (ci := 11) (v := .int th) (C := RX6) (T := TX6) (N := 6) hx hb hts u_c_Mi_thrown_X6 hown hK hP 0 rfl rfl 0 (by decide) (hts (.fieldLink RX6 20 "HotelOfBellsModel" "thrown" "I") (List.mem_of_getElem? (i := 1) rfl)) (fun _ h9 => h9) rfl dX6_thrown_1 ?_
  have hP9 := hP.sub (ws' := [(h0, .inr (11, [.int th, .int nf, .int nl, .int ng, .ref rq, .ref sbq]))]) [0] rfl
  have hD9 := hD.sub (ws' := [(h0, .inr (11, [.int th, .int nf, .int nl, .int ng, .ref rq, .ref sbq]))]) [0] (by decide) rfl
  have hK9 := hK.sub (tys' := []) [] rfl
  exact W.iret (v := th) hx hb hr (fun t ht hW => ⟨⟨th, (), rfl, rfl, by rw [ht]; exact hP9, va_K.moved hW.alike hK9, hD9⟩, hS.F ht⟩) hS.2.2 dX6_thrown_4
def v_c_isIn_3_3_12 : List Cond := .code yX6_isIn cX6_isIn 3 (some .boolean) :: ([] ++ [])
set_option maxHeartbeats 4000000 in
set_option maxRecDepth 100000 in
theorem c_isIn_3_3_12 (l : Launch) (hl9 : l.stackTraces = false) (dC : Nat → ClassId) (dI : Nat → Nat → Nat) (tE : Nat)  (sz : Nat) : Met l yX6_isIn v_c_isIn_3_3_12 ({ frames := 0, cells := 0, slots := 0, locals := 0 }) (va_Pc [.int 3, .int 3, .int 12] (Pre0 dC dI tE sz [] [])) (va_Qi (fun (r : Int32) (_ : Unit) => r = 1) (fun _ t => Pst dC dI [] (va_A [] sz) [] t) (va_A [] sz)) 0 0 (va_A [] sz) := by
  refine Met.ofW (cc := cX6_isIn) (maxL := 3) (ret := (some .boolean)) (by decide) rfl ?_
  intro p e s m args below meth c s₁ B hml hv
  obtain ⟨rfl, hsz, hP, hK, hD0, hT⟩ := hv
  have hx := B.exec
  have hb := B.bytes
  have hr := B.returns
  have hts := atoms_spec (ws := v_c_isIn_3_3_12) B.pre
  have hown : s.vm.findClass RX6 = some m.cls := findClass_of_methodNamed B.named
  have hlocks := B.notSynchronized
  subst hsz
  have hD := hD0.self (sz := s.heap.size)
  generalize hAe : va_A [] s.heap.size = A at hD hT ⊢
  have hA : ∀ q : Nat, s.heap.size ≤ q → A q := fun q h => by rw [← hAe]; exact Or.inr h
  have hS : va_S A s.heap s.heap [] := va_S.rf
  have hl := lv_entry ([.int 3, .int 3, .int 12]) (n := 3) (Nat.le_of_ble_eq_true rfl)
  rw [lg_entry_eq]
  generalize (lg_sl ([.int 3, .int 3, .int 12]) ++ List.replicate (3 - (lg_sl ([.int 3, .int 3, .int 12])).length) Slot.unset).toArray = ls at hl ⊢
  have hl : lv_has ls 3 [(0, .int 3), (1, .int 3), (2, .int 12)] := hl
  refine lv_iload_n hx hb dX6_isIn_0 rfl (lv_at hl 0 rfl) ?_
  refine lv_iload_n hx hb dX6_isIn_1 rfl (lv_at hl 1 rfl) ?_
  refine lv_icmp_lt (tgt := 14) hx hb dX6_isIn_2 (by decide) (fun c_1 => absurd c_1 (by decide)) (fun _ => ?_)
  refine lv_iload_n hx hb dX6_isIn_5 rfl (lv_at hl 0 rfl) ?_
  refine lv_iload_n hx hb dX6_isIn_6 rfl (lv_at hl 2 rfl) ?_
  refine lv_icmp_gt (tgt := 14) hx hb dX6_isIn_7 (by decide) (fun c_2 => absurd c_2 (by decide)) (fun _ => ?_)
  refine lv_iconst (v := 1) hx hb dX6_isIn_10 (by decide) ?_
  refine lv_goto (tgt := 15) hx hb dX6_isIn_11 (by decide) ?_
  have hP9 := hP.sub (ws' := []) [] rfl
  have hD9 := hD.sub (ws' := []) [] (by decide) rfl
  have hK9 := hK.sub (tys' := []) [] rfl
  exact W.zret (v := 1) hx hb hr (by decide) (fun t ht hW => ⟨⟨1, (), rfl, rfl, by rw [ht]; exact hP9, va_K.moved hW.alike hK9, hD9⟩, hS.F ht⟩) hS.2.2 dX6_isIn_15
def v_c_isIn_0_0_0 : List Cond := .code yX6_isIn cX6_isIn 3 (some .boolean) :: ([] ++ [])
set_option maxHeartbeats 4000000 in
set_option maxRecDepth 100000 in
theorem c_isIn_0_0_0 (l : Launch) (hl9 : l.stackTraces = false) (dC : Nat → ClassId) (dI : Nat → Nat → Nat) (tE : Nat)  (sz : Nat) : Met l yX6_isIn v_c_isIn_0_0_0 ({ frames := 0, cells := 0, slots := 0, locals := 0 }) (va_Pc [.int 0, .int 0, .int 0] (Pre0 dC dI tE sz [] [])) (va_Qi (fun (r : Int32) (_ : Unit) => r = 1) (fun _ t => Pst dC dI [] (va_A [] sz) [] t) (va_A [] sz)) 0 0 (va_A [] sz) := by
  refine Met.ofW (cc := cX6_isIn) (maxL := 3) (ret := (some .boolean)) (by decide) rfl ?_
  intro p e s m args below meth c s₁ B hml hv
  obtain ⟨rfl, hsz, hP, hK, hD0, hT⟩ := hv
  have hx := B.exec
  have hb := B.bytes
  have hr := B.returns
  have hts := atoms_spec (ws := v_c_isIn_0_0_0) B.pre
  have hown : s.vm.findClass RX6 = some m.cls := findClass_of_methodNamed B.named
  have hlocks := B.notSynchronized
  subst hsz
  have hD := hD0.self (sz := s.heap.size)
  generalize hAe : va_A [] s.heap.size = A at hD hT ⊢
  have hA : ∀ q : Nat, s.heap.size ≤ q → A q := fun q h => by rw [← hAe]; exact Or.inr h
  have hS : va_S A s.heap s.heap [] := va_S.rf
  have hl := lv_entry ([.int 0, .int 0, .int 0]) (n := 3) (Nat.le_of_ble_eq_true rfl)
  rw [lg_entry_eq]
  generalize (lg_sl ([.int 0, .int 0, .int 0]) ++ List.replicate (3 - (lg_sl ([.int 0, .int 0, .int 0])).length) Slot.unset).toArray = ls at hl ⊢
  have hl : lv_has ls 3 [(0, .int 0), (1, .int 0), (2, .int 0)] := hl
  refine lv_iload_n hx hb dX6_isIn_0 rfl (lv_at hl 0 rfl) ?_
  refine lv_iload_n hx hb dX6_isIn_1 rfl (lv_at hl 1 rfl) ?_
  refine lv_icmp_lt (tgt := 14) hx hb dX6_isIn_2 (by decide) (fun c_1 => absurd c_1 (by decide)) (fun _ => ?_)
  refine lv_iload_n hx hb dX6_isIn_5 rfl (lv_at hl 0 rfl) ?_
  refine lv_iload_n hx hb dX6_isIn_6 rfl (lv_at hl 2 rfl) ?_
  refine lv_icmp_gt (tgt := 14) hx hb dX6_isIn_7 (by decide) (fun c_2 => absurd c_2 (by decide)) (fun _ => ?_)
  refine lv_iconst (v := 1) hx hb dX6_isIn_10 (by decide) ?_
  refine lv_goto (tgt := 15) hx hb dX6_isIn_11 (by decide) ?_
  have hP9 := hP.sub (ws' := []) [] rfl
  have hD9 := hD.sub (ws' := []) [] (by decide) rfl
  have hK9 := hK.sub (tys' := []) [] rfl
  exact W.zret (v := 1) hx hb hr (by decide) (fun t ht hW => ⟨⟨1, (), rfl, rfl, by rw [ht]; exact hP9, va_K.moved hW.alike hK9, hD9⟩, hS.F ht⟩) hS.2.2 dX6_isIn_15
def v_c_isIn_0_0_2 : List Cond := .code yX6_isIn cX6_isIn 3 (some .boolean) :: ([] ++ [])
set_option maxHeartbeats 4000000 in
set_option maxRecDepth 100000 in
theorem c_isIn_0_0_2 (l : Launch) (hl9 : l.stackTraces = false) (dC : Nat → ClassId) (dI : Nat → Nat → Nat) (tE : Nat)  (sz : Nat) : Met l yX6_isIn v_c_isIn_0_0_2 ({ frames := 0, cells := 0, slots := 0, locals := 0 }) (va_Pc [.int 0, .int 0, .int 2] (Pre0 dC dI tE sz [] [])) (va_Qi (fun (r : Int32) (_ : Unit) => r = 1) (fun _ t => Pst dC dI [] (va_A [] sz) [] t) (va_A [] sz)) 0 0 (va_A [] sz) := by
  refine Met.ofW (cc := cX6_isIn) (maxL := 3) (ret := (some .boolean)) (by decide) rfl ?_
  intro p e s m args below meth c s₁ B hml hv
  obtain ⟨rfl, hsz, hP, hK, hD0, hT⟩ := hv
  have hx := B.exec
  have hb := B.bytes
  have hr := B.returns
  have hts := atoms_spec (ws := v_c_isIn_0_0_2) B.pre
  have hown : s.vm.findClass RX6 = some m.cls := findClass_of_methodNamed B.named
  have hlocks := B.notSynchronized
  subst hsz
  have hD := hD0.self (sz := s.heap.size)
  generalize hAe : va_A [] s.heap.size = A at hD hT ⊢
  have hA : ∀ q : Nat, s.heap.size ≤ q → A q := fun q h => by rw [← hAe]; exact Or.inr h
  have hS : va_S A s.heap s.heap [] := va_S.rf
  have hl := lv_entry ([.int 0, .int 0, .int 2]) (n := 3) (Nat.le_of_ble_eq_true rfl)
  rw [lg_entry_eq]
  generalize (lg_sl ([.int 0, .int 0, .int 2]) ++ List.replicate (3 - (lg_sl ([.int 0, .int 0, .int 2])).length) Slot.unset).toArray = ls at hl ⊢
  have hl : lv_has ls 3 [(0, .int 0), (1, .int 0), (2, .int 2)] := hl
  refine lv_iload_n hx hb dX6_isIn_0 rfl (lv_at hl 0 rfl) ?_
  refine lv_iload_n hx hb dX6_isIn_1 rfl (lv_at hl 1 rfl) ?_
  refine lv_icmp_lt (tgt := 14) hx hb dX6_isIn_2 (by decide) (fun c_1 => absurd c_1 (by decide)) (fun _ => ?_)
  refine lv_iload_n hx hb dX6_isIn_5 rfl (lv_at hl 0 rfl) ?_
  refine lv_iload_n hx hb dX6_isIn_6 rfl (lv_at hl 2 rfl) ?_
  refine lv_icmp_gt (tgt := 14) hx hb dX6_isIn_7 (by decide) (fun c_2 => absurd c_2 (by decide)) (fun _ => ?_)
  refine lv_iconst (v := 1) hx hb dX6_isIn_10 (by decide) ?_
  refine lv_goto (tgt := 15) hx hb dX6_isIn_11 (by decide) ?_
  have hP9 := hP.sub (ws' := []) [] rfl
  have hD9 := hD.sub (ws' := []) [] (by decide) rfl
  have hK9 := hK.sub (tys' := []) [] rfl
  exact W.zret (v := 1) hx hb hr (by decide) (fun t ht hW => ⟨⟨1, (), rfl, rfl, by rw [ht]; exact hP9, va_K.moved hW.alike hK9, hD9⟩, hS.F ht⟩) hS.2.2 dX6_isIn_15
def v_c_isIn_1_0_2 : List Cond := .code yX6_isIn cX6_isIn 3 (some .boolean) :: ([] ++ [])
set_option maxHeartbeats 4000000 in
set_option maxRecDepth 100000 in
theorem c_isIn_1_0_2 (l : Launch) (hl9 : l.stackTraces = false) (dC : Nat → ClassId) (dI : Nat → Nat → Nat) (tE : Nat)  (sz : Nat) : Met l yX6_isIn v_c_isIn_1_0_2 ({ frames := 0, cells := 0, slots := 0, locals := 0 }) (va_Pc [.int 1, .int 0, .int 2] (Pre0 dC dI tE sz [] [])) (va_Qi (fun (r : Int32) (_ : Unit) => r = 1) (fun _ t => Pst dC dI [] (va_A [] sz) [] t) (va_A [] sz)) 0 0 (va_A [] sz) := by
  refine Met.ofW (cc := cX6_isIn) (maxL := 3) (ret := (some .boolean)) (by decide) rfl ?_
  intro p e s m args below meth c s₁ B hml hv
  obtain ⟨rfl, hsz, hP, hK, hD0, hT⟩ := hv
  have hx := B.exec
  have hb := B.bytes
  have hr := B.returns
  have hts := atoms_spec (ws := v_c_isIn_1_0_2) B.pre
  have hown : s.vm.findClass RX6 = some m.cls := findClass_of_methodNamed B.named
  have hlocks := B.notSynchronized
  subst hsz
  have hD := hD0.self (sz := s.heap.size)
  generalize hAe : va_A [] s.heap.size = A at hD hT ⊢
  have hA : ∀ q : Nat, s.heap.size ≤ q → A q := fun q h => by rw [← hAe]; exact Or.inr h
  have hS : va_S A s.heap s.heap [] := va_S.rf
  have hl := lv_entry ([.int 1, .int 0, .int 2]) (n := 3) (Nat.le_of_ble_eq_true rfl)
  rw [lg_entry_eq]
  generalize (lg_sl ([.int 1, .int 0, .int 2]) ++ List.replicate (3 - (lg_sl ([.int 1, .int 0, .int 2])).length) Slot.unset).toArray = ls at hl ⊢
  have hl : lv_has ls 3 [(0, .int 1), (1, .int 0), (2, .int 2)] := hl
  refine lv_iload_n hx hb dX6_isIn_0 rfl (lv_at hl 0 rfl) ?_
  refine lv_iload_n hx hb dX6_isIn_1 rfl (lv_at hl 1 rfl) ?_
  refine lv_icmp_lt (tgt := 14) hx hb dX6_isIn_2 (by decide) (fun c_1 => absurd c_1 (by decide)) (fun _ => ?_)
  refine lv_iload_n hx hb dX6_isIn_5 rfl (lv_at hl 0 rfl) ?_
  refine lv_iload_n hx hb dX6_isIn_6 rfl (lv_at hl 2 rfl) ?_
  refine lv_icmp_gt (tgt := 14) hx hb dX6_isIn_7 (by decide) (fun c_2 => absurd c_2 (by decide)) (fun _ => ?_)
  refine lv_iconst (v := 1) hx hb dX6_isIn_10 (by decide) ?_
  refine lv_goto (tgt := 15) hx hb dX6_isIn_11 (by decide) ?_
  have hP9 := hP.sub (ws' := []) [] rfl
  have hD9 := hD.sub (ws' := []) [] (by decide) rfl
  have hK9 := hK.sub (tys' := []) [] rfl
  exact W.zret (v := 1) hx hb hr (by decide) (fun t ht hW => ⟨⟨1, (), rfl, rfl, by rw [ht]; exact hP9, va_K.moved hW.alike hK9, hD9⟩, hS.F ht⟩) hS.2.2 dX6_isIn_15
def v_c_isIn_4_1_5 : List Cond := .code yX6_isIn cX6_isIn 3 (some .boolean) :: ([] ++ [])
set_option maxHeartbeats 4000000 in
set_option maxRecDepth 100000 in
theorem c_isIn_4_1_5 (l : Launch) (hl9 : l.stackTraces = false) (dC : Nat → ClassId) (dI : Nat → Nat → Nat) (tE : Nat)  (sz : Nat) : Met l yX6_isIn v_c_isIn_4_1_5 ({ frames := 0, cells := 0, slots := 0, locals := 0 }) (va_Pc [.int 4, .int 1, .int 5] (Pre0 dC dI tE sz [] [])) (va_Qi (fun (r : Int32) (_ : Unit) => r = 1) (fun _ t => Pst dC dI [] (va_A [] sz) [] t) (va_A [] sz)) 0 0 (va_A [] sz) := by
  refine Met.ofW (cc := cX6_isIn) (maxL := 3) (ret := (some .boolean)) (by decide) rfl ?_
  intro p e s m args below meth c s₁ B hml hv
  obtain ⟨rfl, hsz, hP, hK, hD0, hT⟩ := hv
  have hx := B.exec
  have hb := B.bytes
  have hr := B.returns
  have hts := atoms_spec (ws := v_c_isIn_4_1_5) B.pre
  have hown : s.vm.findClass RX6 = some m.cls := findClass_of_methodNamed B.named
  have hlocks := B.notSynchronized
  subst hsz
  have hD := hD0.self (sz := s.heap.size)
  generalize hAe : va_A [] s.heap.size = A at hD hT ⊢
  have hA : ∀ q : Nat, s.heap.size ≤ q → A q := fun q h => by rw [← hAe]; exact Or.inr h
  have hS : va_S A s.heap s.heap [] := va_S.rf
  have hl := lv_entry ([.int 4, .int 1, .int 5]) (n := 3) (Nat.le_of_ble_eq_true rfl)
  rw [lg_entry_eq]
  generalize (lg_sl ([.int 4, .int 1, .int 5]) ++ List.replicate (3 - (lg_sl ([.int 4, .int 1, .int 5])).length) Slot.unset).toArray = ls at hl ⊢
  have hl : lv_has ls 3 [(0, .int 4), (1, .int 1), (2, .int 5)] := hl
  refine lv_iload_n hx hb dX6_isIn_0 rfl (lv_at hl 0 rfl) ?_
  refine lv_iload_n hx hb dX6_isIn_1 rfl (lv_at hl 1 rfl) ?_
  refine lv_icmp_lt (tgt := 14) hx hb dX6_isIn_2 (by decide) (fun c_1 => absurd c_1 (by decide)) (fun _ => ?_)
  refine lv_iload_n hx hb dX6_isIn_5 rfl (lv_at hl 0 rfl) ?_
  refine lv_iload_n hx hb dX6_isIn_6 rfl (lv_at hl 2 rfl) ?_
  refine lv_icmp_gt (tgt := 14) hx hb dX6_isIn_7 (by decide) (fun c_2 => absurd c_2 (by decide)) (fun _ => ?_)
  refine lv_iconst (v := 1) hx hb dX6_isIn_10 (by decide) ?_
  refine lv_goto (tgt := 15) hx hb dX6_isIn_11 (by decide) ?_
  have hP9 := hP.sub (ws' := []) [] rfl
  have hD9 := hD.sub (ws' := []) [] (by decide) rfl
  have hK9 := hK.sub (tys' := []) [] rfl
  exact W.zret (v := 1) hx hb hr (by decide) (fun t ht hW => ⟨⟨1, (), rfl, rfl, by rw [ht]; exact hP9, va_K.moved hW.alike hK9, hD9⟩, hS.F ht⟩) hS.2.2 dX6_isIn_15
def v_c_isIn_1_1_5 : List Cond := .code yX6_isIn cX6_isIn 3 (some .boolean) :: ([] ++ [])
set_option maxHeartbeats 4000000 in
set_option maxRecDepth 100000 in
theorem c_isIn_1_1_5 (l : Launch) (hl9 : l.stackTraces = false) (dC : Nat → ClassId) (dI : Nat → Nat → Nat) (tE : Nat)  (sz : Nat) : Met l yX6_isIn v_c_isIn_1_1_5 ({ frames := 0, cells := 0, slots := 0, locals := 0 }) (va_Pc [.int 1, .int 1, .int 5] (Pre0 dC dI tE sz [] [])) (va_Qi (fun (r : Int32) (_ : Unit) => r = 1) (fun _ t => Pst dC dI [] (va_A [] sz) [] t) (va_A [] sz)) 0 0 (va_A [] sz) := by
  refine Met.ofW (cc := cX6_isIn) (maxL := 3) (ret := (some .boolean)) (by decide) rfl ?_
  intro p e s m args below meth c s₁ B hml hv
  obtain ⟨rfl, hsz, hP, hK, hD0, hT⟩ := hv
  have hx := B.exec
  have hb := B.bytes
  have hr := B.returns
  have hts := atoms_spec (ws := v_c_isIn_1_1_5) B.pre
  have hown : s.vm.findClass RX6 = some m.cls := findClass_of_methodNamed B.named
  have hlocks := B.notSynchronized
  subst hsz
  have hD := hD0.self (sz := s.heap.size)
  generalize hAe : va_A [] s.heap.size = A at hD hT ⊢
  have hA : ∀ q : Nat, s.heap.size ≤ q → A q := fun q h => by rw [← hAe]; exact Or.inr h
  have hS : va_S A s.heap s.heap [] := va_S.rf
  have hl := lv_entry ([.int 1, .int 1, .int 5]) (n := 3) (Nat.le_of_ble_eq_true rfl)
  rw [lg_entry_eq]
  generalize (lg_sl ([.int 1, .int 1, .int 5]) ++ List.replicate (3 - (lg_sl ([.int 1, .int 1, .int 5])).length) Slot.unset).toArray = ls at hl ⊢
  have hl : lv_has ls 3 [(0, .int 1), (1, .int 1), (2, .int 5)] := hl
  refine lv_iload_n hx hb dX6_isIn_0 rfl (lv_at hl 0 rfl) ?_
  refine lv_iload_n hx hb dX6_isIn_1 rfl (lv_at hl 1 rfl) ?_
  refine lv_icmp_lt (tgt := 14) hx hb dX6_isIn_2 (by decide) (fun c_1 => absurd c_1 (by decide)) (fun _ => ?_)
  refine lv_iload_n hx hb dX6_isIn_5 rfl (lv_at hl 0 rfl) ?_
  refine lv_iload_n hx hb dX6_isIn_6 rfl (lv_at hl 2 rfl) ?_
  refine lv_icmp_gt (tgt := 14) hx hb dX6_isIn_7 (by decide) (fun c_2 => absurd c_2 (by decide)) (fun _ => ?_)
  refine lv_iconst (v := 1) hx hb dX6_isIn_10 (by decide) ?_
  refine lv_goto (tgt := 15) hx hb dX6_isIn_11 (by decide) ?_
  have hP9 := hP.sub (ws' := []) [] rfl
  have hD9 := hD.sub (ws' := []) [] (by decide) rfl
  have hK9 := hK.sub (tys' := []) [] rfl
  exact W.zret (v := 1) hx hb hr (by decide) (fun t ht hW => ⟨⟨1, (), rfl, rfl, by rw [ht]; exact hP9, va_K.moved hW.alike hK9, hD9⟩, hS.F ht⟩) hS.2.2 dX6_isIn_15
def v_c_isIn_2_1_5 : List Cond := .code yX6_isIn cX6_isIn 3 (some .boolean) :: ([] ++ [])
set_option maxHeartbeats 4000000 in
set_option maxRecDepth 100000 in
theorem c_isIn_2_1_5 (l : Launch) (hl9 : l.stackTraces = false) (dC : Nat → ClassId) (dI : Nat → Nat → Nat) (tE : Nat)  (sz : Nat) : Met l yX6_isIn v_c_isIn_2_1_5 ({ frames := 0, cells := 0, slots := 0, locals := 0 }) (va_Pc [.int 2, .int 1, .int 5] (Pre0 dC dI tE sz [] [])) (va_Qi (fun (r : Int32) (_ : Unit) => r = 1) (fun _ t => Pst dC dI [] (va_A [] sz) [] t) (va_A [] sz)) 0 0 (va_A [] sz) := by
  refine Met.ofW (cc := cX6_isIn) (maxL := 3) (ret := (some .boolean)) (by decide) rfl ?_
  intro p e s m args below meth c s₁ B hml hv
  obtain ⟨rfl, hsz, hP, hK, hD0, hT⟩ := hv
  have hx := B.exec
  have hb := B.bytes
  have hr := B.returns
  have hts := atoms_spec (ws := v_c_isIn_2_1_5) B.pre
  have hown : s.vm.findClass RX6 = some m.cls := findClass_of_methodNamed B.named
  have hlocks := B.notSynchronized
  subst hsz
  have hD := hD0.self (sz := s.heap.size)
  generalize hAe : va_A [] s.heap.size = A at hD hT ⊢
  have hA : ∀ q : Nat, s.heap.size ≤ q → A q := fun q h => by rw [← hAe]; exact Or.inr h
  have hS : va_S A s.heap s.heap [] := va_S.rf
  have hl := lv_entry ([.int 2, .int 1, .int 5]) (n := 3) (Nat.le_of_ble_eq_true rfl)
  rw [lg_entry_eq]
  generalize (lg_sl ([.int 2, .int 1, .int 5]) ++ List.replicate (3 - (lg_sl ([.int 2, .int 1, .int 5])).length) Slot.unset).toArray = ls at hl ⊢
  have hl : lv_has ls 3 [(0, .int 2), (1, .int 1), (2, .int 5)] := hl
  refine lv_iload_n hx hb dX6_isIn_0 rfl (lv_at hl 0 rfl) ?_
  refine lv_iload_n hx hb dX6_isIn_1 rfl (lv_at hl 1 rfl) ?_
  refine lv_icmp_lt (tgt := 14) hx hb dX6_isIn_2 (by decide) (fun c_1 => absurd c_1 (by decide)) (fun _ => ?_)
  refine lv_iload_n hx hb dX6_isIn_5 rfl (lv_at hl 0 rfl) ?_
  refine lv_iload_n hx hb dX6_isIn_6 rfl (lv_at hl 2 rfl) ?_
  refine lv_icmp_gt (tgt := 14) hx hb dX6_isIn_7 (by decide) (fun c_2 => absurd c_2 (by decide)) (fun _ => ?_)
  refine lv_iconst (v := 1) hx hb dX6_isIn_10 (by decide) ?_
  refine lv_goto (tgt := 15) hx hb dX6_isIn_11 (by decide) ?_
  have hP9 := hP.sub (ws' := []) [] rfl
  have hD9 := hD.sub (ws' := []) [] (by decide) rfl
  have hK9 := hK.sub (tys' := []) [] rfl
  exact W.zret (v := 1) hx hb hr (by decide) (fun t ht hW => ⟨⟨1, (), rfl, rfl, by rw [ht]; exact hP9, va_K.moved hW.alike hK9, hD9⟩, hS.F ht⟩) hS.2.2 dX6_isIn_15
def v_c_isIn_3_1_5 : List Cond := .code yX6_isIn cX6_isIn 3 (some .boolean) :: ([] ++ [])
set_option maxHeartbeats 4000000 in
set_option maxRecDepth 100000 in
theorem c_isIn_3_1_5 (l : Launch) (hl9 : l.stackTraces = false) (dC : Nat → ClassId) (dI : Nat → Nat → Nat) (tE : Nat)  (sz : Nat) : Met l yX6_isIn v_c_isIn_3_1_5 ({ frames := 0, cells := 0, slots := 0, locals := 0 }) (va_Pc [.int 3, .int 1, .int 5] (Pre0 dC dI tE sz [] [])) (va_Qi (fun (r : Int32) (_ : Unit) => r = 1) (fun _ t => Pst dC dI [] (va_A [] sz) [] t) (va_A [] sz)) 0 0 (va_A [] sz) := by
  refine Met.ofW (cc := cX6_isIn) (maxL := 3) (ret := (some .boolean)) (by decide) rfl ?_
  intro p e s m args below meth c s₁ B hml hv
  obtain ⟨rfl, hsz, hP, hK, hD0, hT⟩ := hv
  have hx := B.exec
  have hb := B.bytes
  have hr := B.returns
  have hts := atoms_spec (ws := v_c_isIn_3_1_5) B.pre
  have hown : s.vm.findClass RX6 = some m.cls := findClass_of_methodNamed B.named
  have hlocks := B.notSynchronized
  subst hsz
  have hD := hD0.self (sz := s.heap.size)
  generalize hAe : va_A [] s.heap.size = A at hD hT ⊢
  have hA : ∀ q : Nat, s.heap.size ≤ q → A q := fun q h => by rw [← hAe]; exact Or.inr h
  have hS : va_S A s.heap s.heap [] := va_S.rf
  have hl := lv_entry ([.int 3, .int 1, .int 5]) (n := 3) (Nat.le_of_ble_eq_true rfl)
  rw [lg_entry_eq]
  generalize (lg_sl ([.int 3, .int 1, .int 5]) ++ List.replicate (3 - (lg_sl ([.int 3, .int 1, .int 5])).length) Slot.unset).toArray = ls at hl ⊢
  have hl : lv_has ls 3 [(0, .int 3), (1, .int 1), (2, .int 5)] := hl
  refine lv_iload_n hx hb dX6_isIn_0 rfl (lv_at hl 0 rfl) ?_
  refine lv_iload_n hx hb dX6_isIn_1 rfl (lv_at hl 1 rfl) ?_
  refine lv_icmp_lt (tgt := 14) hx hb dX6_isIn_2 (by decide) (fun c_1 => absurd c_1 (by decide)) (fun _ => ?_)
  refine lv_iload_n hx hb dX6_isIn_5 rfl (lv_at hl 0 rfl) ?_
  refine lv_iload_n hx hb dX6_isIn_6 rfl (lv_at hl 2 rfl) ?_
  refine lv_icmp_gt (tgt := 14) hx hb dX6_isIn_7 (by decide) (fun c_2 => absurd c_2 (by decide)) (fun _ => ?_)
  refine lv_iconst (v := 1) hx hb dX6_isIn_10 (by decide) ?_
  refine lv_goto (tgt := 15) hx hb dX6_isIn_11 (by decide) ?_
  have hP9 := hP.sub (ws' := []) [] rfl
  have hD9 := hD.sub (ws' := []) [] (by decide) rfl
  have hK9 := hK.sub (tys' := []) [] rfl
  exact W.zret (v := 1) hx hb hr (by decide) (fun t ht hW => ⟨⟨1, (), rfl, rfl, by rw [ht]; exact hP9, va_K.moved hW.alike hK9, hD9⟩, hS.F ht⟩) hS.2.2 dX6_isIn_15
def v_c_isIn_5_1_5 : List Cond := .code yX6_isIn cX6_isIn 3 (some .boolean) :: ([] ++ [])
set_option maxHeartbeats 4000000 in
set_option maxRecDepth 100000 in
theorem c_isIn_5_1_5 (l : Launch) (hl9 : l.stackTraces = false) (dC : Nat → ClassId) (dI : Nat → Nat → Nat) (tE : Nat)  (sz : Nat) : Met l yX6_isIn v_c_isIn_5_1_5 ({ frames := 0, cells := 0, slots := 0, locals := 0 }) (va_Pc [.int 5, .int 1, .int 5] (Pre0 dC dI tE sz [] [])) (va_Qi (fun (r : Int32) (_ : Unit) => r = 1) (fun _ t => Pst dC dI [] (va_A [] sz) [] t) (va_A [] sz)) 0 0 (va_A [] sz) := by
  refine Met.ofW (cc := cX6_isIn) (maxL := 3) (ret := (some .boolean)) (by decide) rfl ?_
  intro p e s m args below meth c s₁ B hml hv
  obtain ⟨rfl, hsz, hP, hK, hD0, hT⟩ := hv
  have hx := B.exec
  have hb := B.bytes
  have hr := B.returns
  have hts := atoms_spec (ws := v_c_isIn_5_1_5) B.pre
  have hown : s.vm.findClass RX6 = some m.cls := findClass_of_methodNamed B.named
  have hlocks := B.notSynchronized
  subst hsz
  have hD := hD0.self (sz := s.heap.size)
  generalize hAe : va_A [] s.heap.size = A at hD hT ⊢
  have hA : ∀ q : Nat, s.heap.size ≤ q → A q := fun q h => by rw [← hAe]; exact Or.inr h
  have hS : va_S A s.heap s.heap [] := va_S.rf
  have hl := lv_entry ([.int 5, .int 1, .int 5]) (n := 3) (Nat.le_of_ble_eq_true rfl)
  rw [lg_entry_eq]
  generalize (lg_sl ([.int 5, .int 1, .int 5]) ++ List.replicate (3 - (lg_sl ([.int 5, .int 1, .int 5])).length) Slot.unset).toArray = ls at hl ⊢
  have hl : lv_has ls 3 [(0, .int 5), (1, .int 1), (2, .int 5)] := hl
  refine lv_iload_n hx hb dX6_isIn_0 rfl (lv_at hl 0 rfl) ?_
  refine lv_iload_n hx hb dX6_isIn_1 rfl (lv_at hl 1 rfl) ?_
  refine lv_icmp_lt (tgt := 14) hx hb dX6_isIn_2 (by decide) (fun c_1 => absurd c_1 (by decide)) (fun _ => ?_)
  refine lv_iload_n hx hb dX6_isIn_5 rfl (lv_at hl 0 rfl) ?_
  refine lv_iload_n hx hb dX6_isIn_6 rfl (lv_at hl 2 rfl) ?_
  refine lv_icmp_gt (tgt := 14) hx hb dX6_isIn_7 (by decide) (fun c_2 => absurd c_2 (by decide)) (fun _ => ?_)
  refine lv_iconst (v := 1) hx hb dX6_isIn_10 (by decide) ?_
  refine lv_goto (tgt := 15) hx hb dX6_isIn_11 (by decide) ?_
  have hP9 := hP.sub (ws' := []) [] rfl
  have hD9 := hD.sub (ws' := []) [] (by decide) rfl
  have hK9 := hK.sub (tys' := []) [] rfl
  exact W.zret (v := 1) hx hb hr (by decide) (fun t ht hW => ⟨⟨1, (), rfl, rfl, by rw [ht]; exact hP9, va_K.moved hW.alike hK9, hD9⟩, hS.F ht⟩) hS.2.2 dX6_isIn_15
def v_c_isIn_t : List Cond := .code yX6_isIn cX6_isIn 3 (some .boolean) :: ([] ++ [])
set_option maxHeartbeats 4000000 in
set_option maxRecDepth 100000 in
theorem c_isIn_t (l : Launch) (hl9 : l.stackTraces = false) (dC : Nat → ClassId) (dI : Nat → Nat → Nat) (tE : Nat) (p0 : Int32) (p1 : Int32) (p2 : Int32) (sz : Nat) (h1 : ¬ p0 < p1) (h2 : ¬ p2 < p0) : Met l yX6_isIn v_c_isIn_t ({ frames := 0, cells := 0, slots := 0, locals := 0 }) (va_Pc [.int p0, .int p1, .int p2] (Pre0 dC dI tE sz [] [])) (va_Qi (fun (r : Int32) (_ : Unit) => r = 1) (fun _ t => Pst dC dI [] (va_A [] sz) [] t) (va_A [] sz)) 0 0 (va_A [] sz) := by
  refine Met.ofW (cc := cX6_isIn) (maxL := 3) (ret := (some .boolean)) (by decide) rfl ?_
  intro p e s m args below meth c s₁ B hml hv
  obtain ⟨rfl, hsz, hP, hK, hD0, hT⟩ := hv
  have hx := B.exec
  have hb := B.bytes
  have hr := B.returns
  have hts := atoms_spec (ws := v_c_isIn_t) B.pre
  have hown : s.vm.findClass RX6 = some m.cls := findClass_of_methodNamed B.named
  have hlocks := B.notSynchronized
  subst hsz
  have hD := hD0.self (sz := s.heap.size)
  generalize hAe : va_A [] s.heap.size = A at hD hT ⊢
  have hA : ∀ q : Nat, s.heap.size ≤ q → A q := fun q h => by rw [← hAe]; exact Or.inr h
  have hS : va_S A s.heap s.heap [] := va_S.rf
  have hl := lv_entry ([.int p0, .int p1, .int p2]) (n := 3) (Nat.le_of_ble_eq_true rfl)
  rw [lg_entry_eq]
  generalize (lg_sl ([.int p0, .int p1, .int p2]) ++ List.replicate (3 - (lg_sl ([.int p0, .int p1, .int p2])).length) Slot.unset).toArray = ls at hl ⊢
  have hl : lv_has ls 3 [(0, .int p0), (1, .int p1), (2, .int p2)] := hl
  refine lv_iload_n hx hb dX6_isIn_0 rfl (lv_at hl 0 rfl) ?_
  refine lv_iload_n hx hb dX6_isIn_1 rfl (lv_at hl 1 rfl) ?_
  refine lv_icmp_lt (tgt := 14) hx hb dX6_isIn_2 (by decide) (fun c_1 => absurd c_1 h1) (fun _ => ?_)
  refine lv_iload_n hx hb dX6_isIn_5 rfl (lv_at hl 0 rfl) ?_
  refine lv_iload_n hx hb dX6_isIn_6 rfl (lv_at hl 2 rfl) ?_
  refine lv_icmp_gt (tgt := 14) hx hb dX6_isIn_7 (by decide) (fun c_2 => absurd c_2 h2) (fun _ => ?_)
  refine lv_iconst (v := 1) hx hb dX6_isIn_10 (by decide) ?_
  refine lv_goto (tgt := 15) hx hb dX6_isIn_11 (by decide) ?_
  have hP9 := hP.sub (ws' := []) [] rfl
  have hD9 := hD.sub (ws' := []) [] (by decide) rfl
  have hK9 := hK.sub (tys' := []) [] rfl
  exact W.zret (v := 1) hx hb hr (by decide) (fun t ht hW => ⟨⟨1, (), rfl, rfl, by rw [ht]; exact hP9, va_K.moved hW.alike hK9, hD9⟩, hS.F ht⟩) hS.2.2 dX6_isIn_15
def v_c_isIn_f : List Cond := .code yX6_isIn cX6_isIn 3 (some .boolean) :: ([] ++ [])
set_option maxHeartbeats 4000000 in
set_option maxRecDepth 100000 in
theorem c_isIn_f (l : Launch) (hl9 : l.stackTraces = false) (dC : Nat → ClassId) (dI : Nat → Nat → Nat) (tE : Nat) (p0 : Int32) (p1 : Int32) (p2 : Int32) (sz : Nat) (h : p0 < p1 ∨ p2 < p0) : Met l yX6_isIn v_c_isIn_f ({ frames := 0, cells := 0, slots := 0, locals := 0 }) (va_Pc [.int p0, .int p1, .int p2] (Pre0 dC dI tE sz [] [])) (va_Qi (fun (r : Int32) (_ : Unit) => r = 0) (fun _ t => Pst dC dI [] (va_A [] sz) [] t) (va_A [] sz)) 0 0 (va_A [] sz) := by
  refine Met.ofW (cc := cX6_isIn) (maxL := 3) (ret := (some .boolean)) (by decide) rfl ?_
  intro p e s m args below meth c s₁ B hml hv
  obtain ⟨rfl, hsz, hP, hK, hD0, hT⟩ := hv
  have hx := B.exec
  have hb := B.bytes
  have hr := B.returns
  have hts := atoms_spec (ws := v_c_isIn_f) B.pre
  have hown : s.vm.findClass RX6 = some m.cls := findClass_of_methodNamed B.named
  have hlocks := B.notSynchronized
  subst hsz
  have hD := hD0.self (sz := s.heap.size)
  generalize hAe : va_A [] s.heap.size = A at hD hT ⊢
  have hA : ∀ q : Nat, s.heap.size ≤ q → A q := fun q h => by rw [← hAe]; exact Or.inr h
  have hS : va_S A s.heap s.heap [] := va_S.rf
  have hl := lv_entry ([.int p0, .int p1, .int p2]) (n := 3) (Nat.le_of_ble_eq_true rfl)
  rw [lg_entry_eq]
  generalize (lg_sl ([.int p0, .int p1, .int p2]) ++ List.replicate (3 - (lg_sl ([.int p0, .int p1, .int p2])).length) Slot.unset).toArray = ls at hl ⊢
  have hl : lv_has ls 3 [(0, .int p0), (1, .int p1), (2, .int p2)] := hl
  refine lv_iload_n hx hb dX6_isIn_0 rfl (lv_at hl 0 rfl) ?_
  refine lv_iload_n hx hb dX6_isIn_1 rfl (lv_at hl 1 rfl) ?_
  refine lv_icmp_lt (tgt := 14) hx hb dX6_isIn_2 (by decide) (fun c_1 => ?_) (fun c_1 => ?_)
  · refine lv_iconst (v := 0) hx hb dX6_isIn_14 (by decide) ?_
    have hP9 := hP.sub (ws' := []) [] rfl
    have hD9 := hD.sub (ws' := []) [] (by decide) rfl
    have hK9 := hK.sub (tys' := []) [] rfl
    exact W.zret (v := 0) hx hb hr (by decide) (fun t ht hW => ⟨⟨0, (), rfl, rfl, by rw [ht]; exact hP9, va_K.moved hW.alike hK9, hD9⟩, hS.F ht⟩) hS.2.2 dX6_isIn_15
  · refine lv_iload_n hx hb dX6_isIn_5 rfl (lv_at hl 0 rfl) ?_
    refine lv_iload_n hx hb dX6_isIn_6 rfl (lv_at hl 2 rfl) ?_
    refine lv_icmp_gt (tgt := 14) hx hb dX6_isIn_7 (by decide) (fun _ => ?_) (fun c_2 => absurd (h.resolve_left (by assumption)) c_2)
    refine lv_iconst (v := 0) hx hb dX6_isIn_14 (by decide) ?_
    have hP9 := hP.sub (ws' := []) [] rfl
    have hD9 := hD.sub (ws' := []) [] (by decide) rfl
    have hK9 := hK.sub (tys' := []) [] rfl
    exact W.zret (v := 0) hx hb hr (by decide) (fun t ht hW => ⟨⟨0, (), rfl, rfl, by rw [ht]; exact hP9, va_K.moved hW.alike hK9, hD9⟩, hS.F ht⟩) hS.2.2 dX6_isIn_15
def v_c_power_0 : List Cond := .code yX6_power cX6_power 3 (some .int) :: ([] ++ [])
set_option maxHeartbeats 4000000 in
set_option maxRecDepth 100000 in
theorem c_power_0 (l : Launch) (hl9 : l.stackTraces = false) (dC : Nat → ClassId) (dI : Nat → Nat → Nat) (tE : Nat)  (sz : Nat) : Met l yX6_power v_c_power_0 ({ frames := 0, cells := 0, slots := 0, locals := 0 }) (va_Pc [.int 0] (Pre0 dC dI tE sz [] [])) (va_Qi (fun (r : Int32) (_ : Unit) => r = 1) (fun _ t => Pst dC dI [] (va_A [] sz) [] t) (va_A [] sz)) 0 0 (va_A [] sz) := by
  refine Met.ofW (cc := cX6_power) (maxL := 3) (ret := (some .int)) (by decide) rfl ?_
  intro p e s m args below meth c s₁ B hml hv
  obtain ⟨rfl, hsz, hP, hK, hD0, hT⟩ := hv
  have hx := B.exec
  have hb := B.bytes
  have hr := B.returns
  have hts := atoms_spec (ws := v_c_power_0) B.pre
  have hown : s.vm.findClass RX6 = some m.cls := findClass_of_methodNamed B.named
  have hlocks := B.notSynchronized
  subst hsz
  have hD := hD0.self (sz := s.heap.size)
  generalize hAe : va_A [] s.heap.size = A at hD hT ⊢
  have hA : ∀ q : Nat, s.heap.size ≤ q → A q := fun q h => by rw [← hAe]; exact Or.inr h
  have hS : va_S A s.heap s.heap [] := va_S.rf
  have hl := lv_entry ([.int 0]) (n := 3) (Nat.le_of_ble_eq_true rfl)
  rw [lg_entry_eq]
  generalize (lg_sl ([.int 0]) ++ List.replicate (3 - (lg_sl ([.int 0])).length) Slot.unset).toArray = ls at hl ⊢
  have hl : lv_has ls 3 [(0, .int 0)] := hl
  refine lv_iconst (v := 1) hx hb dX6_power_0 (by decide) ?_
  refine lv_istore_n (lv' := [(1, .int 1), (0, .int 0)]) hx hb dX6_power_1 rfl hl (by decide) rfl (fun ls hl => ?_)
  refine lv_iconst (v := 0) hx hb dX6_power_2 (by decide) ?_
  refine lv_istore_n (lv' := [(2, .int 0), (1, .int 1), (0, .int 0)]) hx hb dX6_power_3 rfl hl (by decide) rfl (fun ls hl => ?_)
  refine lv_iload_n hx hb dX6_power_4 rfl (lv_at hl 0 rfl) ?_
  refine lv_iload_n hx hb dX6_power_5 rfl (lv_at hl 2 rfl) ?_
  refine lv_icmp_ge (tgt := 20) hx hb dX6_power_6 (by decide) (fun _ => ?_) (fun c_1 => absurd (by decide) c_1)
  refine lv_iload_n hx hb dX6_power_20 rfl (lv_at hl 1 rfl) ?_
  have hP9 := hP.sub (ws' := []) [] rfl
  have hD9 := hD.sub (ws' := []) [] (by decide) rfl
  have hK9 := hK.sub (tys' := []) [] rfl
  exact W.iret (v := 1) hx hb hr (fun t ht hW => ⟨⟨1, (), rfl, rfl, by rw [ht]; exact hP9, va_K.moved hW.alike hK9, hD9⟩, hS.F ht⟩) hS.2.2 dX6_power_21
def v_c_power_1 : List Cond := .code yX6_power cX6_power 3 (some .int) :: ([] ++ [])
set_option maxHeartbeats 4000000 in
set_option maxRecDepth 100000 in
theorem c_power_1 (l : Launch) (hl9 : l.stackTraces = false) (dC : Nat → ClassId) (dI : Nat → Nat → Nat) (tE : Nat)  (sz : Nat) : Met l yX6_power v_c_power_1 ({ frames := 0, cells := 0, slots := 0, locals := 0 }) (va_Pc [.int 1] (Pre0 dC dI tE sz [] [])) (va_Qi (fun (r : Int32) (_ : Unit) => r = 10) (fun _ t => Pst dC dI [] (va_A [] sz) [] t) (va_A [] sz)) 0 0 (va_A [] sz) := by
  refine Met.ofW (cc := cX6_power) (maxL := 3) (ret := (some .int)) (by decide) rfl ?_
  intro p e s m args below meth c s₁ B hml hv
  obtain ⟨rfl, hsz, hP, hK, hD0, hT⟩ := hv
  have hx := B.exec
  have hb := B.bytes
  have hr := B.returns
  have hts := atoms_spec (ws := v_c_power_1) B.pre
  have hown : s.vm.findClass RX6 = some m.cls := findClass_of_methodNamed B.named
  have hlocks := B.notSynchronized
  subst hsz
  have hD := hD0.self (sz := s.heap.size)
  generalize hAe : va_A [] s.heap.size = A at hD hT ⊢
  have hA : ∀ q : Nat, s.heap.size ≤ q → A q := fun q h => by rw [← hAe]; exact Or.inr h
  have hS : va_S A s.heap s.heap [] := va_S.rf
  have hl := lv_entry ([.int 1]) (n := 3) (Nat.le_of_ble_eq_true rfl)
  rw [lg_entry_eq]
  generalize (lg_sl ([.int 1]) ++ List.replicate (3 - (lg_sl ([.int 1])).length) Slot.unset).toArray = ls at hl ⊢
  have hl : lv_has ls 3 [(0, .int 1)] := hl
  refine lv_iconst (v := 1) hx hb dX6_power_0 (by decide) ?_
  refine lv_istore_n (lv' := [(1, .int 1), (0, .int 1)]) hx hb dX6_power_1 rfl hl (by decide) rfl (fun ls hl => ?_)
  refine lv_iconst (v := 0) hx hb dX6_power_2 (by decide) ?_
  refine lv_istore_n (lv' := [(2, .int 0), (1, .int 1), (0, .int 1)]) hx hb dX6_power_3 rfl hl (by decide) rfl (fun ls hl => ?_)
  refine lv_iload_n hx hb dX6_power_4 rfl (lv_at hl 0 rfl) ?_
  refine lv_iload_n hx hb dX6_power_5 rfl (lv_at hl 2 rfl) ?_
  refine lv_icmp_ge (tgt := 20) hx hb dX6_power_6 (by decide) (fun c_1 => absurd c_1 (by decide)) (fun _ => ?_)
  refine lv_iload_n hx hb dX6_power_9 rfl (lv_at hl 1 rfl) ?_
  refine lv_bipush (v := 10) hx hb dX6_power_10 (by decide) ?_
  refine lv_imul hx hb dX6_power_12 ?_
  refine lv_topi (fun x_2 e_3 => ?_)
  obtain rfl : x_2 = 10 := e_3.trans (by decide)
  refine lv_istore_n (lv' := [(1, .int 10), (2, .int 0), (0, .int 1)]) hx hb dX6_power_13 rfl hl (by decide) rfl (fun ls hl => ?_)
  refine lv_iinc (v := 1) (lv' := [(2, .int 1), (1, .int 10), (0, .int 1)]) hx hb dX6_power_14 hl (k := 1) rfl (by decide) (by decide) rfl (fun ls hl => ?_)
  refine lv_goto (tgt := 4) hx hb dX6_power_17 (by decide) ?_
  refine lv_iload_n hx hb dX6_power_4 rfl (lv_at hl 0 rfl) ?_
  refine lv_iload_n hx hb dX6_power_5 rfl (lv_at hl 2 rfl) ?_
  refine lv_icmp_ge (tgt := 20) hx hb dX6_power_6 (by decide) (fun _ => ?_) (fun c_4 => absurd (by decide) c_4)
  refine lv_iload_n hx hb dX6_power_20 rfl (lv_at hl 1 rfl) ?_
  have hP9 := hP.sub (ws' := []) [] rfl
  have hD9 := hD.sub (ws' := []) [] (by decide) rfl
  have hK9 := hK.sub (tys' := []) [] rfl
  exact W.iret (v := 10) hx hb hr (fun t ht hW => ⟨⟨10, (), rfl, rfl, by rw [ht]; exact hP9, va_K.moved hW.alike hK9, hD9⟩, hS.F ht⟩) hS.2.2 dX6_power_21
def v_c_power_2 : List Cond := .code yX6_power cX6_power 3 (some .int) :: ([] ++ [])
set_option maxHeartbeats 4000000 in
set_option maxRecDepth 100000 in
theorem c_power_2 (l : Launch) (hl9 : l.stackTraces = false) (dC : Nat → ClassId) (dI : Nat → Nat → Nat) (tE : Nat)  (sz : Nat) : Met l yX6_power v_c_power_2 ({ frames := 0, cells := 0, slots := 0, locals := 0 }) (va_Pc [.int 2] (Pre0 dC dI tE sz [] [])) (va_Qi (fun (r : Int32) (_ : Unit) => r = 100) (fun _ t => Pst dC dI [] (va_A [] sz) [] t) (va_A [] sz)) 0 0 (va_A [] sz) := by
  refine Met.ofW (cc := cX6_power) (maxL := 3) (ret := (some .int)) (by decide) rfl ?_
  intro p e s m args below meth c s₁ B hml hv
  obtain ⟨rfl, hsz, hP, hK, hD0, hT⟩ := hv
  have hx := B.exec
  have hb := B.bytes
  have hr := B.returns
  have hts := atoms_spec (ws := v_c_power_2) B.pre
  have hown : s.vm.findClass RX6 = some m.cls := findClass_of_methodNamed B.named
  have hlocks := B.notSynchronized
  subst hsz
  have hD := hD0.self (sz := s.heap.size)
  generalize hAe : va_A [] s.heap.size = A at hD hT ⊢
  have hA : ∀ q : Nat, s.heap.size ≤ q → A q := fun q h => by rw [← hAe]; exact Or.inr h
  have hS : va_S A s.heap s.heap [] := va_S.rf
  have hl := lv_entry ([.int 2]) (n := 3) (Nat.le_of_ble_eq_true rfl)
  rw [lg_entry_eq]
  generalize (lg_sl ([.int 2]) ++ List.replicate (3 - (lg_sl ([.int 2])).length) Slot.unset).toArray = ls at hl ⊢
  have hl : lv_has ls 3 [(0, .int 2)] := hl
  refine lv_iconst (v := 1) hx hb dX6_power_0 (by decide) ?_
  refine lv_istore_n (lv' := [(1, .int 1), (0, .int 2)]) hx hb dX6_power_1 rfl hl (by decide) rfl (fun ls hl => ?_)
  refine lv_iconst (v := 0) hx hb dX6_power_2 (by decide) ?_
  refine lv_istore_n (lv' := [(2, .int 0), (1, .int 1), (0, .int 2)]) hx hb dX6_power_3 rfl hl (by decide) rfl (fun ls hl => ?_)
  refine lv_iload_n hx hb dX6_power_4 rfl (lv_at hl 0 rfl) ?_
  refine lv_iload_n hx hb dX6_power_5 rfl (lv_at hl 2 rfl) ?_
  refine lv_icmp_ge (tgt := 20) hx hb dX6_power_6 (by decide) (fun c_1 => absurd c_1 (by decide)) (fun _ => ?_)
  refine lv_iload_n hx hb dX6_power_9 rfl (lv_at hl 1 rfl) ?_
  refine lv_bipush (v := 10) hx hb dX6_power_10 (by decide) ?_
  refine lv_imul hx hb dX6_power_12 ?_
  refine lv_topi (fun x_2 e_3 => ?_)
  obtain rfl : x_2 = 10 := e_3.trans (by decide)
  refine lv_istore_n (lv' := [(1, .int 10), (2, .int 0), (0, .int 2)]) hx hb dX6_power_13 rfl hl (by decide) rfl (fun ls hl => ?_)
  refine lv_iinc (v := 1) (lv' := [(2, .int 1), (1, .int 10), (0, .int 2)]) hx hb dX6_power_14 hl (k := 1) rfl (by decide) (by decide) rfl (fun ls hl => ?_)
  refine lv_goto (tgt := 4) hx hb dX6_power_17 (by decide) ?_
  refine lv_iload_n hx hb dX6_power_4 rfl (lv_at hl 0 rfl) ?_
  refine lv_iload_n hx hb dX6_power_5 rfl (lv_at hl 2 rfl) ?_
  refine lv_icmp_ge (tgt := 20) hx hb dX6_power_6 (by decide) (fun c_4 => absurd c_4 (by decide)) (fun _ => ?_)
  refine lv_iload_n hx hb dX6_power_9 rfl (lv_at hl 1 rfl) ?_
  refine lv_bipush (v := 10) hx hb dX6_power_10 (by decide) ?_
  refine lv_imul hx hb dX6_power_12 ?_
  refine lv_topi (fun x_5 e_6 => ?_)
  obtain rfl : x_5 = 100 := e_6.trans (by decide)
  refine lv_istore_n (lv' := [(1, .int 100), (2, .int 1), (0, .int 2)]) hx hb dX6_power_13 rfl hl (by decide) rfl (fun ls hl => ?_)
  refine lv_iinc (v := 2) (lv' := [(2, .int 2), (1, .int 100), (0, .int 2)]) hx hb dX6_power_14 hl (k := 1) rfl (by decide) (by decide) rfl (fun ls hl => ?_)
  refine lv_goto (tgt := 4) hx hb dX6_power_17 (by decide) ?_
  refine lv_iload_n hx hb dX6_power_4 rfl (lv_at hl 0 rfl) ?_
  refine lv_iload_n hx hb dX6_power_5 rfl (lv_at hl 2 rfl) ?_
  refine lv_icmp_ge (tgt := 20) hx hb dX6_power_6 (by decide) (fun _ => ?_) (fun c_7 => absurd (by decide) c_7)
  refine lv_iload_n hx hb dX6_power_20 rfl (lv_at hl 1 rfl) ?_
  have hP9 := hP.sub (ws' := []) [] rfl
  have hD9 := hD.sub (ws' := []) [] (by decide) rfl
  have hK9 := hK.sub (tys' := []) [] rfl
  exact W.iret (v := 100) hx hb hr (fun t ht hW => ⟨⟨100, (), rfl, rfl, by rw [ht]; exact hP9, va_K.moved hW.alike hK9, hD9⟩, hS.F ht⟩) hS.2.2 dX6_power_21
def v_c_power_3 : List Cond := .code yX6_power cX6_power 3 (some .int) :: ([] ++ [])
set_option maxHeartbeats 4000000 in
set_option maxRecDepth 100000 in
theorem c_power_3 (l : Launch) (hl9 : l.stackTraces = false) (dC : Nat → ClassId) (dI : Nat → Nat → Nat) (tE : Nat)  (sz : Nat) : Met l yX6_power v_c_power_3 ({ frames := 0, cells := 0, slots := 0, locals := 0 }) (va_Pc [.int 3] (Pre0 dC dI tE sz [] [])) (va_Qi (fun (r : Int32) (_ : Unit) => r = 1000) (fun _ t => Pst dC dI [] (va_A [] sz) [] t) (va_A [] sz)) 0 0 (va_A [] sz) := by
  refine Met.ofW (cc := cX6_power) (maxL := 3) (ret := (some .int)) (by decide) rfl ?_
  intro p e s m args below meth c s₁ B hml hv
  obtain ⟨rfl, hsz, hP, hK, hD0, hT⟩ := hv
  have hx := B.exec
  have hb := B.bytes
  have hr := B.returns
  have hts := atoms_spec (ws := v_c_power_3) B.pre
  have hown : s.vm.findClass RX6 = some m.cls := findClass_of_methodNamed B.named
  have hlocks := B.notSynchronized
  subst hsz
  have hD := hD0.self (sz := s.heap.size)
  generalize hAe : va_A [] s.heap.size = A at hD hT ⊢
  have hA : ∀ q : Nat, s.heap.size ≤ q → A q := fun q h => by rw [← hAe]; exact Or.inr h
  have hS : va_S A s.heap s.heap [] := va_S.rf
  have hl := lv_entry ([.int 3]) (n := 3) (Nat.le_of_ble_eq_true rfl)
  rw [lg_entry_eq]
  generalize (lg_sl ([.int 3]) ++ List.replicate (3 - (lg_sl ([.int 3])).length) Slot.unset).toArray = ls at hl ⊢
  have hl : lv_has ls 3 [(0, .int 3)] := hl
  refine lv_iconst (v := 1) hx hb dX6_power_0 (by decide) ?_
  refine lv_istore_n (lv' := [(1, .int 1), (0, .int 3)]) hx hb dX6_power_1 rfl hl (by decide) rfl (fun ls hl => ?_)
  refine lv_iconst (v := 0) hx hb dX6_power_2 (by decide) ?_
  refine lv_istore_n (lv' := [(2, .int 0), (1, .int 1), (0, .int 3)]) hx hb dX6_power_3 rfl hl (by decide) rfl (fun ls hl => ?_)
  refine lv_iload_n hx hb dX6_power_4 rfl (lv_at hl 0 rfl) ?_
  refine lv_iload_n hx hb dX6_power_5 rfl (lv_at hl 2 rfl) ?_
  refine lv_icmp_ge (tgt := 20) hx hb dX6_power_6 (by decide) (fun c_1 => absurd c_1 (by decide)) (fun _ => ?_)
  refine lv_iload_n hx hb dX6_power_9 rfl (lv_at hl 1 rfl) ?_
  refine lv_bipush (v := 10) hx hb dX6_power_10 (by decide) ?_
  refine lv_imul hx hb dX6_power_12 ?_
  refine lv_topi (fun x_2 e_3 => ?_)
  obtain rfl : x_2 = 10 := e_3.trans (by decide)
  refine lv_istore_n (lv' := [(1, .int 10), (2, .int 0), (0, .int 3)]) hx hb dX6_power_13 rfl hl (by decide) rfl (fun ls hl => ?_)
  refine lv_iinc (v := 1) (lv' := [(2, .int 1), (1, .int 10), (0, .int 3)]) hx hb dX6_power_14 hl (k := 1) rfl (by decide) (by decide) rfl (fun ls hl => ?_)
  refine lv_goto (tgt := 4) hx hb dX6_power_17 (by decide) ?_
  refine lv_iload_n hx hb dX6_power_4 rfl (lv_at hl 0 rfl) ?_
  refine lv_iload_n hx hb dX6_power_5 rfl (lv_at hl 2 rfl) ?_
  refine lv_icmp_ge (tgt := 20) hx hb dX6_power_6 (by decide) (fun c_4 => absurd c_4 (by decide)) (fun _ => ?_)
  refine lv_iload_n hx hb dX6_power_9 rfl (lv_at hl 1 rfl) ?_
  refine lv_bipush (v := 10) hx hb dX6_power_10 (by decide) ?_
  refine lv_imul hx hb dX6_power_12 ?_
  refine lv_topi (fun x_5 e_6 => ?_)
  obtain rfl : x_5 = 100 := e_6.trans (by decide)
  refine lv_istore_n (lv' := [(1, .int 100), (2, .int 1), (0, .int 3)]) hx hb dX6_power_13 rfl hl (by decide) rfl (fun ls hl => ?_)
  refine lv_iinc (v := 2) (lv' := [(2, .int 2), (1, .int 100), (0, .int 3)]) hx hb dX6_power_14 hl (k := 1) rfl (by decide) (by decide) rfl (fun ls hl => ?_)
  refine lv_goto (tgt := 4) hx hb dX6_power_17 (by decide) ?_
  refine lv_iload_n hx hb dX6_power_4 rfl (lv_at hl 0 rfl) ?_
  refine lv_iload_n hx hb dX6_power_5 rfl (lv_at hl 2 rfl) ?_
  refine lv_icmp_ge (tgt := 20) hx hb dX6_power_6 (by decide) (fun c_7 => absurd c_7 (by decide)) (fun _ => ?_)
  refine lv_iload_n hx hb dX6_power_9 rfl (lv_at hl 1 rfl) ?_
  refine lv_bipush (v := 10) hx hb dX6_power_10 (by decide) ?_
  refine lv_imul hx hb dX6_power_12 ?_
  refine lv_topi (fun x_8 e_9 => ?_)
  obtain rfl : x_8 = 1000 := e_9.trans (by decide)
  refine lv_istore_n (lv' := [(1, .int 1000), (2, .int 2), (0, .int 3)]) hx hb dX6_power_13 rfl hl (by decide) rfl (fun ls hl => ?_)
  refine lv_iinc (v := 3) (lv' := [(2, .int 3), (1, .int 1000), (0, .int 3)]) hx hb dX6_power_14 hl (k := 1) rfl (by decide) (by decide) rfl (fun ls hl => ?_)
  refine lv_goto (tgt := 4) hx hb dX6_power_17 (by decide) ?_
  refine lv_iload_n hx hb dX6_power_4 rfl (lv_at hl 0 rfl) ?_
  refine lv_iload_n hx hb dX6_power_5 rfl (lv_at hl 2 rfl) ?_
  refine lv_icmp_ge (tgt := 20) hx hb dX6_power_6 (by decide) (fun _ => ?_) (fun c_10 => absurd (by decide) c_10)
  refine lv_iload_n hx hb dX6_power_20 rfl (lv_at hl 1 rfl) ?_
  have hP9 := hP.sub (ws' := []) [] rfl
  have hD9 := hD.sub (ws' := []) [] (by decide) rfl
  have hK9 := hK.sub (tys' := []) [] rfl
  exact W.iret (v := 1000) hx hb hr (fun t ht hW => ⟨⟨1000, (), rfl, rfl, by rw [ht]; exact hP9, va_K.moved hW.alike hK9, hD9⟩, hS.F ht⟩) hS.2.2 dX6_power_21
def v_c_power_4 : List Cond := .code yX6_power cX6_power 3 (some .int) :: ([] ++ [])
set_option maxHeartbeats 4000000 in
set_option maxRecDepth 100000 in
theorem c_power_4 (l : Launch) (hl9 : l.stackTraces = false) (dC : Nat → ClassId) (dI : Nat → Nat → Nat) (tE : Nat)  (sz : Nat) : Met l yX6_power v_c_power_4 ({ frames := 0, cells := 0, slots := 0, locals := 0 }) (va_Pc [.int 4] (Pre0 dC dI tE sz [] [])) (va_Qi (fun (r : Int32) (_ : Unit) => r = 10000) (fun _ t => Pst dC dI [] (va_A [] sz) [] t) (va_A [] sz)) 0 0 (va_A [] sz) := by
  refine Met.ofW (cc := cX6_power) (maxL := 3) (ret := (some .int)) (by decide) rfl ?_
  intro p e s m args below meth c s₁ B hml hv
  obtain ⟨rfl, hsz, hP, hK, hD0, hT⟩ := hv
  have hx := B.exec
  have hb := B.bytes
  have hr := B.returns
  have hts := atoms_spec (ws := v_c_power_4) B.pre
  have hown : s.vm.findClass RX6 = some m.cls := findClass_of_methodNamed B.named
  have hlocks := B.notSynchronized
  subst hsz
  have hD := hD0.self (sz := s.heap.size)
  generalize hAe : va_A [] s.heap.size = A at hD hT ⊢
  have hA : ∀ q : Nat, s.heap.size ≤ q → A q := fun q h => by rw [← hAe]; exact Or.inr h
  have hS : va_S A s.heap s.heap [] := va_S.rf
  have hl := lv_entry ([.int 4]) (n := 3) (Nat.le_of_ble_eq_true rfl)
  rw [lg_entry_eq]
  generalize (lg_sl ([.int 4]) ++ List.replicate (3 - (lg_sl ([.int 4])).length) Slot.unset).toArray = ls at hl ⊢
  have hl : lv_has ls 3 [(0, .int 4)] := hl
  refine lv_iconst (v := 1) hx hb dX6_power_0 (by decide) ?_
  refine lv_istore_n (lv' := [(1, .int 1), (0, .int 4)]) hx hb dX6_power_1 rfl hl (by decide) rfl (fun ls hl => ?_)
  refine lv_iconst (v := 0) hx hb dX6_power_2 (by decide) ?_
  refine lv_istore_n (lv' := [(2, .int 0), (1, .int 1), (0, .int 4)]) hx hb dX6_power_3 rfl hl (by decide) rfl (fun ls hl => ?_)
  refine lv_iload_n hx hb dX6_power_4 rfl (lv_at hl 0 rfl) ?_
  refine lv_iload_n hx hb dX6_power_5 rfl (lv_at hl 2 rfl) ?_
  refine lv_icmp_ge (tgt := 20) hx hb dX6_power_6 (by decide) (fun c_1 => absurd c_1 (by decide)) (fun _ => ?_)
  refine lv_iload_n hx hb dX6_power_9 rfl (lv_at hl 1 rfl) ?_
  refine lv_bipush (v := 10) hx hb dX6_power_10 (by decide) ?_
  refine lv_imul hx hb dX6_power_12 ?_
  refine lv_topi (fun x_2 e_3 => ?_)
  obtain rfl : x_2 = 10 := e_3.trans (by decide)
  refine lv_istore_n (lv' := [(1, .int 10), (2, .int 0), (0, .int 4)]) hx hb dX6_power_13 rfl hl (by decide) rfl (fun ls hl => ?_)
  refine lv_iinc (v := 1) (lv' := [(2, .int 1), (1, .int 10), (0, .int 4)]) hx hb dX6_power_14 hl (k := 1) rfl (by decide) (by decide) rfl (fun ls hl => ?_)
  refine lv_goto (tgt := 4) hx hb dX6_power_17 (by decide) ?_
  refine lv_iload_n hx hb dX6_power_4 rfl (lv_at hl 0 rfl) ?_
  refine lv_iload_n hx hb dX6_power_5 rfl (lv_at hl 2 rfl) ?_
  refine lv_icmp_ge (tgt := 20) hx hb dX6_power_6 (by decide) (fun c_4 => absurd c_4 (by decide)) (fun _ => ?_)
  refine lv_iload_n hx hb dX6_power_9 rfl (lv_at hl 1 rfl) ?_
  refine lv_bipush (v := 10) hx hb dX6_power_10 (by decide) ?_
  refine lv_imul hx hb dX6_power_12 ?_
  refine lv_topi (fun x_5 e_6 => ?_)
  obtain rfl : x_5 = 100 := e_6.trans (by decide)
  refine lv_istore_n (lv' := [(1, .int 100), (2, .int 1), (0, .int 4)]) hx hb dX6_power_13 rfl hl (by decide) rfl (fun ls hl => ?_)
  refine lv_iinc (v := 2) (lv' := [(2, .int 2), (1, .int 100), (0, .int 4)]) hx hb dX6_power_14 hl (k := 1) rfl (by decide) (by decide) rfl (fun ls hl => ?_)
  refine lv_goto (tgt := 4) hx hb dX6_power_17 (by decide) ?_
  refine lv_iload_n hx hb dX6_power_4 rfl (lv_at hl 0 rfl) ?_
  refine lv_iload_n hx hb dX6_power_5 rfl (lv_at hl 2 rfl) ?_
  refine lv_icmp_ge (tgt := 20) hx hb dX6_power_6 (by decide) (fun c_7 => absurd c_7 (by decide)) (fun _ => ?_)
  refine lv_iload_n hx hb dX6_power_9 rfl (lv_at hl 1 rfl) ?_
  refine lv_bipush (v := 10) hx hb dX6_power_10 (by decide) ?_
  refine lv_imul hx hb dX6_power_12 ?_
  refine lv_topi (fun x_8 e_9 => ?_)
  obtain rfl : x_8 = 1000 := e_9.trans (by decide)
  refine lv_istore_n (lv' := [(1, .int 1000), (2, .int 2), (0, .int 4)]) hx hb dX6_power_13 rfl hl (by decide) rfl (fun ls hl => ?_)
  refine lv_iinc (v := 3) (lv' := [(2, .int 3), (1, .int 1000), (0, .int 4)]) hx hb dX6_power_14 hl (k := 1) rfl (by decide) (by decide) rfl (fun ls hl => ?_)
  refine lv_goto (tgt := 4) hx hb dX6_power_17 (by decide) ?_
  refine lv_iload_n hx hb dX6_power_4 rfl (lv_at hl 0 rfl) ?_
  refine lv_iload_n hx hb dX6_power_5 rfl (lv_at hl 2 rfl) ?_
  refine lv_icmp_ge (tgt := 20) hx hb dX6_power_6 (by decide) (fun c_10 => absurd c_10 (by decide)) (fun _ => ?_)
  refine lv_iload_n hx hb dX6_power_9 rfl (lv_at hl 1 rfl) ?_
  refine lv_bipush (v := 10) hx hb dX6_power_10 (by decide) ?_
  refine lv_imul hx hb dX6_power_12 ?_
  refine lv_topi (fun x_11 e_12 => ?_)
  obtain rfl : x_11 = 10000 := e_12.trans (by decide)
  refine lv_istore_n (lv' := [(1, .int 10000), (2, .int 3), (0, .int 4)]) hx hb dX6_power_13 rfl hl (by decide) rfl (fun ls hl => ?_)
  refine lv_iinc (v := 4) (lv' := [(2, .int 4), (1, .int 10000), (0, .int 4)]) hx hb dX6_power_14 hl (k := 1) rfl (by decide) (by decide) rfl (fun ls hl => ?_)
  refine lv_goto (tgt := 4) hx hb dX6_power_17 (by decide) ?_
  refine lv_iload_n hx hb dX6_power_4 rfl (lv_at hl 0 rfl) ?_
  refine lv_iload_n hx hb dX6_power_5 rfl (lv_at hl 2 rfl) ?_
  refine lv_icmp_ge (tgt := 20) hx hb dX6_power_6 (by decide) (fun _ => ?_) (fun c_13 => absurd (by decide) c_13)
  refine lv_iload_n hx hb dX6_power_20 rfl (lv_at hl 1 rfl) ?_
  have hP9 := hP.sub (ws' := []) [] rfl
  have hD9 := hD.sub (ws' := []) [] (by decide) rfl
  have hK9 := hK.sub (tys' := []) [] rfl
  exact W.iret (v := 10000) hx hb hr (fun t ht hW => ⟨⟨10000, (), rfl, rfl, by rw [ht]; exact hP9, va_K.moved hW.alike hK9, hD9⟩, hS.F ht⟩) hS.2.2 dX6_power_21
def v_c_power_5 : List Cond := .code yX6_power cX6_power 3 (some .int) :: ([] ++ [])
set_option maxHeartbeats 4000000 in
set_option maxRecDepth 100000 in
theorem c_power_5 (l : Launch) (hl9 : l.stackTraces = false) (dC : Nat → ClassId) (dI : Nat → Nat → Nat) (tE : Nat)  (sz : Nat) : Met l yX6_power v_c_power_5 ({ frames := 0, cells := 0, slots := 0, locals := 0 }) (va_Pc [.int 5] (Pre0 dC dI tE sz [] [])) (va_Qi (fun (r : Int32) (_ : Unit) => r = 100000) (fun _ t => Pst dC dI [] (va_A [] sz) [] t) (va_A [] sz)) 0 0 (va_A [] sz) := by
  refine Met.ofW (cc := cX6_power) (maxL := 3) (ret := (some .int)) (by decide) rfl ?_
  intro p e s m args below meth c s₁ B hml hv
  obtain ⟨rfl, hsz, hP, hK, hD0, hT⟩ := hv
  have hx := B.exec
  have hb := B.bytes
  have hr := B.returns
  have hts := atoms_spec (ws := v_c_power_5) B.pre
  have hown : s.vm.findClass RX6 = some m.cls := findClass_of_methodNamed B.named
  have hlocks := B.notSynchronized
  subst hsz
  have hD := hD0.self (sz := s.heap.size)
  generalize hAe : va_A [] s.heap.size = A at hD hT ⊢
  have hA : ∀ q : Nat, s.heap.size ≤ q → A q := fun q h => by rw [← hAe]; exact Or.inr h
  have hS : va_S A s.heap s.heap [] := va_S.rf
  have hl := lv_entry ([.int 5]) (n := 3) (Nat.le_of_ble_eq_true rfl)
  rw [lg_entry_eq]
  generalize (lg_sl ([.int 5]) ++ List.replicate (3 - (lg_sl ([.int 5])).length) Slot.unset).toArray = ls at hl ⊢
  have hl : lv_has ls 3 [(0, .int 5)] := hl
  refine lv_iconst (v := 1) hx hb dX6_power_0 (by decide) ?_
  refine lv_istore_n (lv' := [(1, .int 1), (0, .int 5)]) hx hb dX6_power_1 rfl hl (by decide) rfl (fun ls hl => ?_)
  refine lv_iconst (v := 0) hx hb dX6_power_2 (by decide) ?_
  refine lv_istore_n (lv' := [(2, .int 0), (1, .int 1), (0, .int 5)]) hx hb dX6_power_3 rfl hl (by decide) rfl (fun ls hl => ?_)
  refine lv_iload_n hx hb dX6_power_4 rfl (lv_at hl 0 rfl) ?_
  refine lv_iload_n hx hb dX6_power_5 rfl (lv_at hl 2 rfl) ?_
  refine lv_icmp_ge (tgt := 20) hx hb dX6_power_6 (by decide) (fun c_1 => absurd c_1 (by decide)) (fun _ => ?_)
  refine lv_iload_n hx hb dX6_power_9 rfl (lv_at hl 1 rfl) ?_
  refine lv_bipush (v := 10) hx hb dX6_power_10 (by decide) ?_
  refine lv_imul hx hb dX6_power_12 ?_
  refine lv_topi (fun x_2 e_3 => ?_)
  obtain rfl : x_2 = 10 := e_3.trans (by decide)
  refine lv_istore_n (lv' := [(1, .int 10), (2, .int 0), (0, .int 5)]) hx hb dX6_power_13 rfl hl (by decide) rfl (fun ls hl => ?_)
  refine lv_iinc (v := 1) (lv' := [(2, .int 1), (1, .int 10), (0, .int 5)]) hx hb dX6_power_14 hl (k := 1) rfl (by decide) (by decide) rfl (fun ls hl => ?_)
  refine lv_goto (tgt := 4) hx hb dX6_power_17 (by decide) ?_
  refine lv_iload_n hx hb dX6_power_4 rfl (lv_at hl 0 rfl) ?_
  refine lv_iload_n hx hb dX6_power_5 rfl (lv_at hl 2 rfl) ?_
  refine lv_icmp_ge (tgt := 20) hx hb dX6_power_6 (by decide) (fun c_4 => absurd c_4 (by decide)) (fun _ => ?_)
  refine lv_iload_n hx hb dX6_power_9 rfl (lv_at hl 1 rfl) ?_
  refine lv_bipush (v := 10) hx hb dX6_power_10 (by decide) ?_
  refine lv_imul hx hb dX6_power_12 ?_
  refine lv_topi (fun x_5 e_6 => ?_)
  obtain rfl : x_5 = 100 := e_6.trans (by decide)
  refine lv_istore_n (lv' := [(1, .int 100), (2, .int 1), (0, .int 5)]) hx hb dX6_power_13 rfl hl (by decide) rfl (fun ls hl => ?_)
  refine lv_iinc (v := 2) (lv' := [(2, .int 2), (1, .int 100), (0, .int 5)]) hx hb dX6_power_14 hl (k := 1) rfl (by decide) (by decide) rfl (fun ls hl => ?_)
  refine lv_goto (tgt := 4) hx hb dX6_power_17 (by decide) ?_
  refine lv_iload_n hx hb dX6_power_4 rfl (lv_at hl 0 rfl) ?_
  refine lv_iload_n hx hb dX6_power_5 rfl (lv_at hl 2 rfl) ?_
  refine lv_icmp_ge (tgt := 20) hx hb dX6_power_6 (by decide) (fun c_7 => absurd c_7 (by decide)) (fun _ => ?_)
  refine lv_iload_n hx hb dX6_power_9 rfl (lv_at hl 1 rfl) ?_
  refine lv_bipush (v := 10) hx hb dX6_power_10 (by decide) ?_
  refine lv_imul hx hb dX6_power_12 ?_
  refine lv_topi (fun x_8 e_9 => ?_)
  obtain rfl : x_8 = 1000 := e_9.trans (by decide)
  refine lv_istore_n (lv' := [(1, .int 1000), (2, .int 2), (0, .int 5)]) hx hb dX6_power_13 rfl hl (by decide) rfl (fun ls hl => ?_)
  refine lv_iinc (v := 3) (lv' := [(2, .int 3), (1, .int 1000), (0, .int 5)]) hx hb dX6_power_14 hl (k := 1) rfl (by decide) (by decide) rfl (fun ls hl => ?_)
  refine lv_goto (tgt := 4) hx hb dX6_power_17 (by decide) ?_
  refine lv_iload_n hx hb dX6_power_4 rfl (lv_at hl 0 rfl) ?_
  refine lv_iload_n hx hb dX6_power_5 rfl (lv_at hl 2 rfl) ?_
  refine lv_icmp_ge (tgt := 20) hx hb dX6_power_6 (by decide) (fun c_10 => absurd c_10 (by decide)) (fun _ => ?_)
  refine lv_iload_n hx hb dX6_power_9 rfl (lv_at hl 1 rfl) ?_
  refine lv_bipush (v := 10) hx hb dX6_power_10 (by decide) ?_
  refine lv_imul hx hb dX6_power_12 ?_
  refine lv_topi (fun x_11 e_12 => ?_)
  obtain rfl : x_11 = 10000 := e_12.trans (by decide)
  refine lv_istore_n (lv' := [(1, .int 10000), (2, .int 3), (0, .int 5)]) hx hb dX6_power_13 rfl hl (by decide) rfl (fun ls hl => ?_)
  refine lv_iinc (v := 4) (lv' := [(2, .int 4), (1, .int 10000), (0, .int 5)]) hx hb dX6_power_14 hl (k := 1) rfl (by decide) (by decide) rfl (fun ls hl => ?_)
  refine lv_goto (tgt := 4) hx hb dX6_power_17 (by decide) ?_
  refine lv_iload_n hx hb dX6_power_4 rfl (lv_at hl 0 rfl) ?_
  refine lv_iload_n hx hb dX6_power_5 rfl (lv_at hl 2 rfl) ?_
  refine lv_icmp_ge (tgt := 20) hx hb dX6_power_6 (by decide) (fun c_13 => absurd c_13 (by decide)) (fun _ => ?_)
  refine lv_iload_n hx hb dX6_power_9 rfl (lv_at hl 1 rfl) ?_
  refine lv_bipush (v := 10) hx hb dX6_power_10 (by decide) ?_
  refine lv_imul hx hb dX6_power_12 ?_
  refine lv_topi (fun x_14 e_15 => ?_)
  obtain rfl : x_14 = 100000 := e_15.trans (by decide)
  refine lv_istore_n (lv' := [(1, .int 100000), (2, .int 4), (0, .int 5)]) hx hb dX6_power_13 rfl hl (by decide) rfl (fun ls hl => ?_)
  refine lv_iinc (v := 5) (lv' := [(2, .int 5), (1, .int 100000), (0, .int 5)]) hx hb dX6_power_14 hl (k := 1) rfl (by decide) (by decide) rfl (fun ls hl => ?_)
  refine lv_goto (tgt := 4) hx hb dX6_power_17 (by decide) ?_
  refine lv_iload_n hx hb dX6_power_4 rfl (lv_at hl 0 rfl) ?_
  refine lv_iload_n hx hb dX6_power_5 rfl (lv_at hl 2 rfl) ?_
  refine lv_icmp_ge (tgt := 20) hx hb dX6_power_6 (by decide) (fun _ => ?_) (fun c_16 => absurd (by decide) c_16)
  refine lv_iload_n hx hb dX6_power_20 rfl (lv_at hl 1 rfl) ?_
  have hP9 := hP.sub (ws' := []) [] rfl
  have hD9 := hD.sub (ws' := []) [] (by decide) rfl
  have hK9 := hK.sub (tys' := []) [] rfl
  exact W.iret (v := 100000) hx hb hr (fun t ht hW => ⟨⟨100000, (), rfl, rfl, by rw [ht]; exact hP9, va_K.moved hW.alike hK9, hD9⟩, hS.F ht⟩) hS.2.2 dX6_power_21
def v_c_gu_0 : List Cond := .code yX6_gu cX6_gu 3 (some .int) :: ([Cond.fieldLink RX6 9 "HotelOfBellsModel" "row" "[I"] ++ (wsX60 ++ []))
theorem u_c_gu_0_X6 : ∀ w ∈ wsX60, w ∈ v_c_gu_0 := fun _ h => List.mem_cons_of_mem _ (List.mem_append_right _ (List.mem_append_left _ h))
set_option maxHeartbeats 4000000 in
set_option maxRecDepth 100000 in
theorem c_gu_0 (l : Launch) (hl9 : l.stackTraces = false) (dC : Nat → ClassId) (dI : Nat → Nat → Nat) (tE : Nat) (h0 : Nat) (rq : Nat) (sbq : Nat) (th : Int32) (ci : ClassId) (xh : Int32) (xr : Int32) (xt : Int32) (xw : Int32) (sz : Nat) : Met l yX6_gu v_c_gu_0 ({ frames := 0, cells := 0, slots := 0, locals := 0 }) (va_Pc [.ref h0, .int 0, .int 0] (Pre0 dC dI tE sz [(ci, .int)] [(h0, .inr (11, [.int th, .int 1, .int 0, .int 1, .ref rq, .ref sbq])), (rq, .inl (ci, 119, .inl (RW xh xr xt xw)))])) (va_Qi (fun (r : Int32) (_ : Unit) => r = 0) (fun _ t => Pst dC dI [(ci, .int)] (va_A [(h0, .inr (11, [.int th, .int 1, .int 0, .int 1, .ref rq, .ref sbq])), (rq, .inl (ci, 119, .inl (RW xh xr xt xw)))] sz) [(h0, .inr (11, [.int th, .int 1, .int 0, .int 1, .ref rq, .ref sbq])), (rq, .inl (ci, 119, .inl (RW xh xr xt xw)))] t) (va_A [(h0, .inr (11, [.int th, .int 1, .int 0, .int 1, .ref rq, .ref sbq])), (rq, .inl (ci, 119, .inl (RW xh xr xt xw)))] sz)) 0 0 (va_A [(h0, .inr (11, [.int th, .int 1, .int 0, .int 1, .ref rq, .ref sbq])), (rq, .inl (ci, 119, .inl (RW xh xr xt xw)))] sz) := by
  refine Met.ofW (cc := cX6_gu) (maxL := 3) (ret := (some .int)) (by decide) rfl ?_
  intro p e s m args below meth c s₁ B hml hv
  obtain ⟨rfl, hsz, hP, hK, hD0, hT⟩ := hv
  have hx := B.exec
  have hb := B.bytes
  have hr := B.returns
  have hts := atoms_spec (ws := v_c_gu_0) B.pre
  have hown : s.vm.findClass RX6 = some m.cls := findClass_of_methodNamed B.named
  have hlocks := B.notSynchronized
  subst hsz
  have hD := hD0.self (sz := s.heap.size)
  generalize hAe : va_A [(h0, .inr (11, [.int th, .int 1, .int 0, .int 1, .ref rq, .ref sbq])), (rq, .inl (ci, 119, .inl (RW xh xr xt xw)))] s.heap.size = A at hD hT ⊢
  have hA : ∀ q : Nat, s.heap.size ≤ q → A q := fun q h => by rw [← hAe]; exact Or.inr h
  have hS : va_S A s.heap s.heap [] := va_S.rf
  have hl := lv_entry ([.ref h0, .int 0, .int 0]) (n := 3) (Nat.le_of_ble_eq_true rfl)
  rw [lg_entry_eq]
  generalize (lg_sl ([.ref h0, .int 0, .int 0]) ++ List.replicate (3 - (lg_sl ([.ref h0, .int 0, .int 0])).length) Slot.unset).toArray = ls at hl ⊢
  have hl : lv_has ls 3 [(0, .ref h0), (1, .int 0), (2, .int 0)] := hl
  refine lv_aload_n hx hb dX6_gu_0 rfl (lv_at hl 0 rfl) ?_
  refine va_get (D := (dC, dI)) (ci := 11) (v := .ref rq) (C := RX6) (T := TX6) (N := 6) hx hb hts u_c_gu_0_X6 hown hK hP 0 rfl rfl 4 (by decide) (hts (.fieldLink RX6 9 "HotelOfBellsModel" "row" "[I") (List.mem_of_getElem? (i := 1) rfl)) (fun _ h9 => h9) rfl dX6_gu_1 ?_
  refine lv_bipush (v := 56) hx hb dX6_gu_4 (by decide) ?_
  refine lv_bipush (v := 6) hx hb dX6_gu_6 (by decide) ?_
  refine lv_iload_n hx hb dX6_gu_8 rfl (lv_at hl 1 rfl) ?_
  refine lv_imul hx hb dX6_gu_9 ?_
  refine lv_topi (fun x_1 e_2 => ?_)
  obtain rfl : x_1 = 0 := e_2.trans (by decide)
  refine lv_iadd hx hb dX6_gu_10 ?_
  refine lv_topi (fun x_3 e_4 => ?_)
  obtain rfl : x_3 = 56 := e_4.trans (by decide)
  refine lv_iload_n hx hb dX6_gu_11 rfl (lv_at hl 2 rfl) ?_
  refine lv_iadd hx hb dX6_gu_12 ?_
  refine lv_topi (fun x_5 e_6 => ?_)
  obtain rfl : x_5 = 56 := e_6.trans (by decide)
  refine va_iald hx hb hK hP 1 0 rfl rfl (by unfold vp_in; decide) dX6_gu_13 ?_
  refine lv_topi (fun x_7 e_8 => ?_)
  obtain rfl : x_7 = 0 := e_8.trans (rw_l56 _ _ _ _)
  have hP9 := hP.sub (ws' := [(h0, .inr (11, [.int th, .int 1, .int 0, .int 1, .ref rq, .ref sbq])), (rq, .inl (ci, 119, .inl (RW xh xr xt xw)))]) [0, 1] rfl
  have hD9 := hD.sub (ws' := [(h0, .inr (11, [.int th, .int 1, .int 0, .int 1, .ref rq, .ref sbq])), (rq, .inl (ci, 119, .inl (RW xh xr xt xw)))]) [0, 1] (by decide) rfl
  have hK9 := hK.sub (tys' := [(ci, .int)]) [0] rfl
  exact W.iret (v := 0) hx hb hr (fun t ht hW => ⟨⟨0, (), rfl, rfl, by rw [ht]; exact hP9, va_K.moved hW.alike hK9, hD9⟩, hS.F ht⟩) hS.2.2 dX6_gu_14
def v_c_gu_1 : List Cond := .code yX6_gu cX6_gu 3 (some .int) :: ([Cond.fieldLink RX6 9 "HotelOfBellsModel" "row" "[I"] ++ (wsX60 ++ []))
theorem u_c_gu_1_X6 : ∀ w ∈ wsX60, w ∈ v_c_gu_1 := fun _ h => List.mem_cons_of_mem _ (List.mem_append_right _ (List.mem_append_left _ h))
set_option maxHeartbeats 4000000 in
set_option maxRecDepth 100000 in
theorem c_gu_1 (l : Launch) (hl9 : l.stackTraces = false) (dC : Nat → ClassId) (dI : Nat → Nat → Nat) (tE : Nat) (h0 : Nat) (rq : Nat) (sbq : Nat) (th : Int32) (ci : ClassId) (xh : Int32) (xr : Int32) (xt : Int32) (xw : Int32) (sz : Nat) : Met l yX6_gu v_c_gu_1 ({ frames := 0, cells := 0, slots := 0, locals := 0 }) (va_Pc [.ref h0, .int 0, .int 1] (Pre0 dC dI tE sz [(ci, .int)] [(h0, .inr (11, [.int th, .int 1, .int 0, .int 1, .ref rq, .ref sbq])), (rq, .inl (ci, 119, .inl (RW xh xr xt xw)))])) (va_Qi (fun (r : Int32) (_ : Unit) => r = 0) (fun _ t => Pst dC dI [(ci, .int)] (va_A [(h0, .inr (11, [.int th, .int 1, .int 0, .int 1, .ref rq, .ref sbq])), (rq, .inl (ci, 119, .inl (RW xh xr xt xw)))] sz) [(h0, .inr (11, [.int th, .int 1, .int 0, .int 1, .ref rq, .ref sbq])), (rq, .inl (ci, 119, .inl (RW xh xr xt xw)))] t) (va_A [(h0, .inr (11, [.int th, .int 1, .int 0, .int 1, .ref rq, .ref sbq])), (rq, .inl (ci, 119, .inl (RW xh xr xt xw)))] sz)) 0 0 (va_A [(h0, .inr (11, [.int th, .int 1, .int 0, .int 1, .ref rq, .ref sbq])), (rq, .inl (ci, 119, .inl (RW xh xr xt xw)))] sz) := by
  refine Met.ofW (cc := cX6_gu) (maxL := 3) (ret := (some .int)) (by decide) rfl ?_
  intro p e s m args below meth c s₁ B hml hv
  obtain ⟨rfl, hsz, hP, hK, hD0, hT⟩ := hv
  have hx := B.exec
  have hb := B.bytes
  have hr := B.returns
  have hts := atoms_spec (ws := v_c_gu_1) B.pre
  have hown : s.vm.findClass RX6 = some m.cls := findClass_of_methodNamed B.named
  have hlocks := B.notSynchronized
  subst hsz
  have hD := hD0.self (sz := s.heap.size)
  generalize hAe : va_A [(h0, .inr (11, [.int th, .int 1, .int 0, .int 1, .ref rq, .ref sbq])), (rq, .inl (ci, 119, .inl (RW xh xr xt xw)))] s.heap.size = A at hD hT ⊢
  have hA : ∀ q : Nat, s.heap.size ≤ q → A q := fun q h => by rw [← hAe]; exact Or.inr h
  have hS : va_S A s.heap s.heap [] := va_S.rf
  have hl := lv_entry ([.ref h0, .int 0, .int 1]) (n := 3) (Nat.le_of_ble_eq_true rfl)
  rw [lg_entry_eq]
  generalize (lg_sl ([.ref h0, .int 0, .int 1]) ++ List.replicate (3 - (lg_sl ([.ref h0, .int 0, .int 1])).length) Slot.unset).toArray = ls at hl ⊢
  have hl : lv_has ls 3 [(0, .ref h0), (1, .int 0), (2, .int 1)] := hl
  refine lv_aload_n hx hb dX6_gu_0 rfl (lv_at hl 0 rfl) ?_
  refine va_get (D := (dC, dI)) (ci := 11) (v := .ref rq) (C := RX6) (T := TX6) (N := 6) hx hb hts u_c_gu_1_X6 hown hK hP 0 rfl rfl 4 (by decide) (hts (.fieldLink RX6 9 "HotelOfBellsModel" "row" "[I") (List.mem_of_getElem? (i := 1) rfl)) (fun _ h9 => h9) rfl dX6_gu_1 ?_
  refine lv_bipush (v := 56) hx hb dX6_gu_4 (by decide) ?_
  refine lv_bipush (v := 6) hx hb dX6_gu_6 (by decide) ?_
  refine lv_iload_n hx hb dX6_gu_8 rfl (lv_at hl 1 rfl) ?_
  refine lv_imul hx hb dX6_gu_9 ?_
  refine lv_topi (fun x_1 e_2 => ?_)
  obtain rfl : x_1 = 0 := e_2.trans (by decide)
  refine lv_iadd hx hb dX6_gu_10 ?_
  refine lv_topi (fun x_3 e_4 => ?_)
  obtain rfl : x_3 = 56 := e_4.trans (by decide)
  refine lv_iload_n hx hb dX6_gu_11 rfl (lv_at hl 2 rfl) ?_
  refine lv_iadd hx hb dX6_gu_12 ?_
  refine lv_topi (fun x_5 e_6 => ?_)
  obtain rfl : x_5 = 57 := e_6.trans (by decide)
  refine va_iald hx hb hK hP 1 0 rfl rfl (by unfold vp_in; decide) dX6_gu_13 ?_
  refine lv_topi (fun x_7 e_8 => ?_)
  obtain rfl : x_7 = 0 := e_8.trans (rw_l57 _ _ _ _)
  have hP9 := hP.sub (ws' := [(h0, .inr (11, [.int th, .int 1, .int 0, .int 1, .ref rq, .ref sbq])), (rq, .inl (ci, 119, .inl (RW xh xr xt xw)))]) [0, 1] rfl
  have hD9 := hD.sub (ws' := [(h0, .inr (11, [.int th, .int 1, .int 0, .int 1, .ref rq, .ref sbq])), (rq, .inl (ci, 119, .inl (RW xh xr xt xw)))]) [0, 1] (by decide) rfl
  have hK9 := hK.sub (tys' := [(ci, .int)]) [0] rfl
  exact W.iret (v := 0) hx hb hr (fun t ht hW => ⟨⟨0, (), rfl, rfl, by rw [ht]; exact hP9, va_K.moved hW.alike hK9, hD9⟩, hS.F ht⟩) hS.2.2 dX6_gu_14
def v_c_gu_2 : List Cond := .code yX6_gu cX6_gu 3 (some .int) :: ([Cond.fieldLink RX6 9 "HotelOfBellsModel" "row" "[I"] ++ (wsX60 ++ []))
theorem u_c_gu_2_X6 : ∀ w ∈ wsX60, w ∈ v_c_gu_2 := fun _ h => List.mem_cons_of_mem _ (List.mem_append_right _ (List.mem_append_left _ h))
set_option maxHeartbeats 4000000 in
set_option maxRecDepth 100000 in
theorem c_gu_2 (l : Launch) (hl9 : l.stackTraces = false) (dC : Nat → ClassId) (dI : Nat → Nat → Nat) (tE : Nat) (h0 : Nat) (rq : Nat) (sbq : Nat) (th : Int32) (ci : ClassId) (xh : Int32) (xr : Int32) (xt : Int32) (xw : Int32) (sz : Nat) : Met l yX6_gu v_c_gu_2 ({ frames := 0, cells := 0, slots := 0, locals := 0 }) (va_Pc [.ref h0, .int 0, .int 2] (Pre0 dC dI tE sz [(ci, .int)] [(h0, .inr (11, [.int th, .int 1, .int 0, .int 1, .ref rq, .ref sbq])), (rq, .inl (ci, 119, .inl (RW xh xr xt xw)))])) (va_Qi (fun (r : Int32) (_ : Unit) => r = (-1)) (fun _ t => Pst dC dI [(ci, .int)] (va_A [(h0, .inr (11, [.int th, .int 1, .int 0, .int 1, .ref rq, .ref sbq])), (rq, .inl (ci, 119, .inl (RW xh xr xt xw)))] sz) [(h0, .inr (11, [.int th, .int 1, .int 0, .int 1, .ref rq, .ref sbq])), (rq, .inl (ci, 119, .inl (RW xh xr xt xw)))] t) (va_A [(h0, .inr (11, [.int th, .int 1, .int 0, .int 1, .ref rq, .ref sbq])), (rq, .inl (ci, 119, .inl (RW xh xr xt xw)))] sz)) 0 0 (va_A [(h0, .inr (11, [.int th, .int 1, .int 0, .int 1, .ref rq, .ref sbq])), (rq, .inl (ci, 119, .inl (RW xh xr xt xw)))] sz) := by
  refine Met.ofW (cc := cX6_gu) (maxL := 3) (ret := (some .int)) (by decide) rfl ?_
  intro p e s m args below meth c s₁ B hml hv
  obtain ⟨rfl, hsz, hP, hK, hD0, hT⟩ := hv
  have hx := B.exec
  have hb := B.bytes
  have hr := B.returns
  have hts := atoms_spec (ws := v_c_gu_2) B.pre
  have hown : s.vm.findClass RX6 = some m.cls := findClass_of_methodNamed B.named
  have hlocks := B.notSynchronized
  subst hsz
  have hD := hD0.self (sz := s.heap.size)
  generalize hAe : va_A [(h0, .inr (11, [.int th, .int 1, .int 0, .int 1, .ref rq, .ref sbq])), (rq, .inl (ci, 119, .inl (RW xh xr xt xw)))] s.heap.size = A at hD hT ⊢
  have hA : ∀ q : Nat, s.heap.size ≤ q → A q := fun q h => by rw [← hAe]; exact Or.inr h
  have hS : va_S A s.heap s.heap [] := va_S.rf
  have hl := lv_entry ([.ref h0, .int 0, .int 2]) (n := 3) (Nat.le_of_ble_eq_true rfl)
  rw [lg_entry_eq]
  generalize (lg_sl ([.ref h0, .int 0, .int 2]) ++ List.replicate (3 - (lg_sl ([.ref h0, .int 0, .int 2])).length) Slot.unset).toArray = ls at hl ⊢
  have hl : lv_has ls 3 [(0, .ref h0), (1, .int 0), (2, .int 2)] := hl
  refine lv_aload_n hx hb dX6_gu_0 rfl (lv_at hl 0 rfl) ?_
  refine va_get (D := (dC, dI)) (ci := 11) (v := .ref rq) (C := RX6) (T := TX6) (N := 6) hx hb hts u_c_gu_2_X6 hown hK hP 0 rfl rfl 4 (by decide) (hts (.fieldLink RX6 9 "HotelOfBellsModel" "row" "[I") (List.mem_of_getElem? (i := 1) rfl)) (fun _ h9 => h9) rfl dX6_gu_1 ?_
  refine lv_bipush (v := 56) hx hb dX6_gu_4 (by decide) ?_
  refine lv_bipush (v := 6) hx hb dX6_gu_6 (by decide) ?_
  refine lv_iload_n hx hb dX6_gu_8 rfl (lv_at hl 1 rfl) ?_
  refine lv_imul hx hb dX6_gu_9 ?_
  refine lv_topi (fun x_1 e_2 => ?_)
  obtain rfl : x_1 = 0 := e_2.trans (by decide)
  refine lv_iadd hx hb dX6_gu_10 ?_
  refine lv_topi (fun x_3 e_4 => ?_)
  obtain rfl : x_3 = 56 := e_4.trans (by decide)
  refine lv_iload_n hx hb dX6_gu_11 rfl (lv_at hl 2 rfl) ?_
  refine lv_iadd hx hb dX6_gu_12 ?_
  refine lv_topi (fun x_5 e_6 => ?_)
  obtain rfl : x_5 = 58 := e_6.trans (by decide)
  refine va_iald hx hb hK hP 1 0 rfl rfl (by unfold vp_in; decide) dX6_gu_13 ?_
  refine lv_topi (fun x_7 e_8 => ?_)
  obtain rfl : x_7 = (-1) := e_8.trans (rw_l58 _ _ _ _)
  have hP9 := hP.sub (ws' := [(h0, .inr (11, [.int th, .int 1, .int 0, .int 1, .ref rq, .ref sbq])), (rq, .inl (ci, 119, .inl (RW xh xr xt xw)))]) [0, 1] rfl
  have hD9 := hD.sub (ws' := [(h0, .inr (11, [.int th, .int 1, .int 0, .int 1, .ref rq, .ref sbq])), (rq, .inl (ci, 119, .inl (RW xh xr xt xw)))]) [0, 1] (by decide) rfl
  have hK9 := hK.sub (tys' := [(ci, .int)]) [0] rfl
  exact W.iret (v := (-1)) hx hb hr (fun t ht hW => ⟨⟨(-1), (), rfl, rfl, by rw [ht]; exact hP9, va_K.moved hW.alike hK9, hD9⟩, hS.F ht⟩) hS.2.2 dX6_gu_14
def v_c_gu_3 : List Cond := .code yX6_gu cX6_gu 3 (some .int) :: ([Cond.fieldLink RX6 9 "HotelOfBellsModel" "row" "[I"] ++ (wsX60 ++ []))
theorem u_c_gu_3_X6 : ∀ w ∈ wsX60, w ∈ v_c_gu_3 := fun _ h => List.mem_cons_of_mem _ (List.mem_append_right _ (List.mem_append_left _ h))
set_option maxHeartbeats 4000000 in
set_option maxRecDepth 100000 in
theorem c_gu_3 (l : Launch) (hl9 : l.stackTraces = false) (dC : Nat → ClassId) (dI : Nat → Nat → Nat) (tE : Nat) (h0 : Nat) (rq : Nat) (sbq : Nat) (th : Int32) (ci : ClassId) (xh : Int32) (xr : Int32) (xt : Int32) (xw : Int32) (sz : Nat) : Met l yX6_gu v_c_gu_3 ({ frames := 0, cells := 0, slots := 0, locals := 0 }) (va_Pc [.ref h0, .int 0, .int 3] (Pre0 dC dI tE sz [(ci, .int)] [(h0, .inr (11, [.int th, .int 1, .int 0, .int 1, .ref rq, .ref sbq])), (rq, .inl (ci, 119, .inl (RW xh xr xt xw)))])) (va_Qi (fun (r : Int32) (_ : Unit) => r = 0) (fun _ t => Pst dC dI [(ci, .int)] (va_A [(h0, .inr (11, [.int th, .int 1, .int 0, .int 1, .ref rq, .ref sbq])), (rq, .inl (ci, 119, .inl (RW xh xr xt xw)))] sz) [(h0, .inr (11, [.int th, .int 1, .int 0, .int 1, .ref rq, .ref sbq])), (rq, .inl (ci, 119, .inl (RW xh xr xt xw)))] t) (va_A [(h0, .inr (11, [.int th, .int 1, .int 0, .int 1, .ref rq, .ref sbq])), (rq, .inl (ci, 119, .inl (RW xh xr xt xw)))] sz)) 0 0 (va_A [(h0, .inr (11, [.int th, .int 1, .int 0, .int 1, .ref rq, .ref sbq])), (rq, .inl (ci, 119, .inl (RW xh xr xt xw)))] sz) := by
  refine Met.ofW (cc := cX6_gu) (maxL := 3) (ret := (some .int)) (by decide) rfl ?_
  intro p e s m args below meth c s₁ B hml hv
  obtain ⟨rfl, hsz, hP, hK, hD0, hT⟩ := hv
  have hx := B.exec
  have hb := B.bytes
  have hr := B.returns
  have hts := atoms_spec (ws := v_c_gu_3) B.pre
  have hown : s.vm.findClass RX6 = some m.cls := findClass_of_methodNamed B.named
  have hlocks := B.notSynchronized
  subst hsz
  have hD := hD0.self (sz := s.heap.size)
  generalize hAe : va_A [(h0, .inr (11, [.int th, .int 1, .int 0, .int 1, .ref rq, .ref sbq])), (rq, .inl (ci, 119, .inl (RW xh xr xt xw)))] s.heap.size = A at hD hT ⊢
  have hA : ∀ q : Nat, s.heap.size ≤ q → A q := fun q h => by rw [← hAe]; exact Or.inr h
  have hS : va_S A s.heap s.heap [] := va_S.rf
  have hl := lv_entry ([.ref h0, .int 0, .int 3]) (n := 3) (Nat.le_of_ble_eq_true rfl)
  rw [lg_entry_eq]
  generalize (lg_sl ([.ref h0, .int 0, .int 3]) ++ List.replicate (3 - (lg_sl ([.ref h0, .int 0, .int 3])).length) Slot.unset).toArray = ls at hl ⊢
  have hl : lv_has ls 3 [(0, .ref h0), (1, .int 0), (2, .int 3)] := hl
  refine lv_aload_n hx hb dX6_gu_0 rfl (lv_at hl 0 rfl) ?_
  refine va_get (D := (dC, dI)) (ci := 11) (v := .ref rq) (C := RX6) (T := TX6) (N := 6) hx hb hts u_c_gu_3_X6 hown hK hP 0 rfl rfl 4 (by decide) (hts (.fieldLink RX6 9 "HotelOfBellsModel" "row" "[I") (List.mem_of_getElem? (i := 1) rfl)) (fun _ h9 => h9) rfl dX6_gu_1 ?_
  refine lv_bipush (v := 56) hx hb dX6_gu_4 (by decide) ?_
  refine lv_bipush (v := 6) hx hb dX6_gu_6 (by decide) ?_
  refine lv_iload_n hx hb dX6_gu_8 rfl (lv_at hl 1 rfl) ?_
  refine lv_imul hx hb dX6_gu_9 ?_
  refine lv_topi (fun x_1 e_2 => ?_)
  obtain rfl : x_1 = 0 := e_2.trans (by decide)
  refine lv_iadd hx hb dX6_gu_10 ?_
  refine lv_topi (fun x_3 e_4 => ?_)
  obtain rfl : x_3 = 56 := e_4.trans (by decide)
  refine lv_iload_n hx hb dX6_gu_11 rfl (lv_at hl 2 rfl) ?_
  refine lv_iadd hx hb dX6_gu_12 ?_
  refine lv_topi (fun x_5 e_6 => ?_)
  obtain rfl : x_5 = 59 := e_6.trans (by decide)
  refine va_iald hx hb hK hP 1 0 rfl rfl (by unfold vp_in; decide) dX6_gu_13 ?_
  refine lv_topi (fun x_7 e_8 => ?_)
  obtain rfl : x_7 = 0 := e_8.trans (rw_l59 _ _ _ _)
  have hP9 := hP.sub (ws' := [(h0, .inr (11, [.int th, .int 1, .int 0, .int 1, .ref rq, .ref sbq])), (rq, .inl (ci, 119, .inl (RW xh xr xt xw)))]) [0, 1] rfl
  have hD9 := hD.sub (ws' := [(h0, .inr (11, [.int th, .int 1, .int 0, .int 1, .ref rq, .ref sbq])), (rq, .inl (ci, 119, .inl (RW xh xr xt xw)))]) [0, 1] (by decide) rfl
  have hK9 := hK.sub (tys' := [(ci, .int)]) [0] rfl
  exact W.iret (v := 0) hx hb hr (fun t ht hW => ⟨⟨0, (), rfl, rfl, by rw [ht]; exact hP9, va_K.moved hW.alike hK9, hD9⟩, hS.F ht⟩) hS.2.2 dX6_gu_14
def v_c_gu_4 : List Cond := .code yX6_gu cX6_gu 3 (some .int) :: ([Cond.fieldLink RX6 9 "HotelOfBellsModel" "row" "[I"] ++ (wsX60 ++ []))
theorem u_c_gu_4_X6 : ∀ w ∈ wsX60, w ∈ v_c_gu_4 := fun _ h => List.mem_cons_of_mem _ (List.mem_append_right _ (List.mem_append_left _ h))
set_option maxHeartbeats 4000000 in
set_option maxRecDepth 100000 in
theorem c_gu_4 (l : Launch) (hl9 : l.stackTraces = false) (dC : Nat → ClassId) (dI : Nat → Nat → Nat) (tE : Nat) (h0 : Nat) (rq : Nat) (sbq : Nat) (th : Int32) (ci : ClassId) (xh : Int32) (xr : Int32) (xt : Int32) (xw : Int32) (sz : Nat) : Met l yX6_gu v_c_gu_4 ({ frames := 0, cells := 0, slots := 0, locals := 0 }) (va_Pc [.ref h0, .int 0, .int 4] (Pre0 dC dI tE sz [(ci, .int)] [(h0, .inr (11, [.int th, .int 1, .int 0, .int 1, .ref rq, .ref sbq])), (rq, .inl (ci, 119, .inl (RW xh xr xt xw)))])) (va_Qi (fun (r : Int32) (_ : Unit) => r = 1) (fun _ t => Pst dC dI [(ci, .int)] (va_A [(h0, .inr (11, [.int th, .int 1, .int 0, .int 1, .ref rq, .ref sbq])), (rq, .inl (ci, 119, .inl (RW xh xr xt xw)))] sz) [(h0, .inr (11, [.int th, .int 1, .int 0, .int 1, .ref rq, .ref sbq])), (rq, .inl (ci, 119, .inl (RW xh xr xt xw)))] t) (va_A [(h0, .inr (11, [.int th, .int 1, .int 0, .int 1, .ref rq, .ref sbq])), (rq, .inl (ci, 119, .inl (RW xh xr xt xw)))] sz)) 0 0 (va_A [(h0, .inr (11, [.int th, .int 1, .int 0, .int 1, .ref rq, .ref sbq])), (rq, .inl (ci, 119, .inl (RW xh xr xt xw)))] sz) := by
  refine Met.ofW (cc := cX6_gu) (maxL := 3) (ret := (some .int)) (by decide) rfl ?_
  intro p e s m args below meth c s₁ B hml hv
  obtain ⟨rfl, hsz, hP, hK, hD0, hT⟩ := hv
  have hx := B.exec
  have hb := B.bytes
  have hr := B.returns
  have hts := atoms_spec (ws := v_c_gu_4) B.pre
  have hown : s.vm.findClass RX6 = some m.cls := findClass_of_methodNamed B.named
  have hlocks := B.notSynchronized
  subst hsz
  have hD := hD0.self (sz := s.heap.size)
  generalize hAe : va_A [(h0, .inr (11, [.int th, .int 1, .int 0, .int 1, .ref rq, .ref sbq])), (rq, .inl (ci, 119, .inl (RW xh xr xt xw)))] s.heap.size = A at hD hT ⊢
  have hA : ∀ q : Nat, s.heap.size ≤ q → A q := fun q h => by rw [← hAe]; exact Or.inr h
  have hS : va_S A s.heap s.heap [] := va_S.rf
  have hl := lv_entry ([.ref h0, .int 0, .int 4]) (n := 3) (Nat.le_of_ble_eq_true rfl)
  rw [lg_entry_eq]
  generalize (lg_sl ([.ref h0, .int 0, .int 4]) ++ List.replicate (3 - (lg_sl ([.ref h0, .int 0, .int 4])).length) Slot.unset).toArray = ls at hl ⊢
  have hl : lv_has ls 3 [(0, .ref h0), (1, .int 0), (2, .int 4)] := hl
  refine lv_aload_n hx hb dX6_gu_0 rfl (lv_at hl 0 rfl) ?_
  refine va_get (D := (dC, dI)) (ci := 11) (v := .ref rq) (C := RX6) (T := TX6) (N := 6) hx hb hts u_c_gu_4_X6 hown hK hP 0 rfl rfl 4 (by decide) (hts (.fieldLink RX6 9 "HotelOfBellsModel" "row" "[I") (List.mem_of_getElem? (i := 1) rfl)) (fun _ h9 => h9) rfl dX6_gu_1 ?_
  refine lv_bipush (v := 56) hx hb dX6_gu_4 (by decide) ?_
  refine lv_bipush (v := 6) hx hb dX6_gu_6 (by decide) ?_
  refine lv_iload_n hx hb dX6_gu_8 rfl (lv_at hl 1 rfl) ?_
  refine lv_imul hx hb dX6_gu_9 ?_
  refine lv_topi (fun x_1 e_2 => ?_)
  obtain rfl : x_1 = 0 := e_2.trans (by decide)
  refine lv_iadd hx hb dX6_gu_10 ?_
  refine lv_topi (fun x_3 e_4 => ?_)
  obtain rfl : x_3 = 56 := e_4.trans (by decide)
  refine lv_iload_n hx hb dX6_gu_11 rfl (lv_at hl 2 rfl) ?_
  refine lv_iadd hx hb dX6_gu_12 ?_
  refine lv_topi (fun x_5 e_6 => ?_)
  obtain rfl : x_5 = 60 := e_6.trans (by decide)
  refine va_iald hx hb hK hP 1 0 rfl rfl (by unfold vp_in; decide) dX6_gu_13 ?_
  refine lv_topi (fun x_7 e_8 => ?_)
  obtain rfl : x_7 = 1 := e_8.trans (rw_l60 _ _ _ _)
  have hP9 := hP.sub (ws' := [(h0, .inr (11, [.int th, .int 1, .int 0, .int 1, .ref rq, .ref sbq])), (rq, .inl (ci, 119, .inl (RW xh xr xt xw)))]) [0, 1] rfl
  have hD9 := hD.sub (ws' := [(h0, .inr (11, [.int th, .int 1, .int 0, .int 1, .ref rq, .ref sbq])), (rq, .inl (ci, 119, .inl (RW xh xr xt xw)))]) [0, 1] (by decide) rfl
  have hK9 := hK.sub (tys' := [(ci, .int)]) [0] rfl
  exact W.iret (v := 1) hx hb hr (fun t ht hW => ⟨⟨1, (), rfl, rfl, by rw [ht]; exact hP9, va_K.moved hW.alike hK9, hD9⟩, hS.F ht⟩) hS.2.2 dX6_gu_14
def v_c_gu_5 : List Cond := .code yX6_gu cX6_gu 3 (some .int) :: ([Cond.fieldLink RX6 9 "HotelOfBellsModel" "row" "[I"] ++ (wsX60 ++ []))
theorem u_c_gu_5_X6 : ∀ w ∈ wsX60, w ∈ v_c_gu_5 := fun _ h => List.mem_cons_of_mem _ (List.mem_append_right _ (List.mem_append_left _ h))
set_option maxHeartbeats 4000000 in
set_option maxRecDepth 100000 in
theorem c_gu_5 (l : Launch) (hl9 : l.stackTraces = false) (dC : Nat → ClassId) (dI : Nat → Nat → Nat) (tE : Nat) (h0 : Nat) (rq : Nat) (sbq : Nat) (th : Int32) (ci : ClassId) (xh : Int32) (xr : Int32) (xt : Int32) (xw : Int32) (sz : Nat) : Met l yX6_gu v_c_gu_5 ({ frames := 0, cells := 0, slots := 0, locals := 0 }) (va_Pc [.ref h0, .int 0, .int 5] (Pre0 dC dI tE sz [(ci, .int)] [(h0, .inr (11, [.int th, .int 1, .int 0, .int 1, .ref rq, .ref sbq])), (rq, .inl (ci, 119, .inl (RW xh xr xt xw)))])) (va_Qi (fun (r : Int32) (_ : Unit) => r = xw) (fun _ t => Pst dC dI [(ci, .int)] (va_A [(h0, .inr (11, [.int th, .int 1, .int 0, .int 1, .ref rq, .ref sbq])), (rq, .inl (ci, 119, .inl (RW xh xr xt xw)))] sz) [(h0, .inr (11, [.int th, .int 1, .int 0, .int 1, .ref rq, .ref sbq])), (rq, .inl (ci, 119, .inl (RW xh xr xt xw)))] t) (va_A [(h0, .inr (11, [.int th, .int 1, .int 0, .int 1, .ref rq, .ref sbq])), (rq, .inl (ci, 119, .inl (RW xh xr xt xw)))] sz)) 0 0 (va_A [(h0, .inr (11, [.int th, .int 1, .int 0, .int 1, .ref rq, .ref sbq])), (rq, .inl (ci, 119, .inl (RW xh xr xt xw)))] sz) := by
  refine Met.ofW (cc := cX6_gu) (maxL := 3) (ret := (some .int)) (by decide) rfl ?_
  intro p e s m args below meth c s₁ B hml hv
  obtain ⟨rfl, hsz, hP, hK, hD0, hT⟩ := hv
  have hx := B.exec
  have hb := B.bytes
  have hr := B.returns
  have hts := atoms_spec (ws := v_c_gu_5) B.pre
  have hown : s.vm.findClass RX6 = some m.cls := findClass_of_methodNamed B.named
  have hlocks := B.notSynchronized
  subst hsz
  have hD := hD0.self (sz := s.heap.size)
  generalize hAe : va_A [(h0, .inr (11, [.int th, .int 1, .int 0, .int 1, .ref rq, .ref sbq])), (rq, .inl (ci, 119, .inl (RW xh xr xt xw)))] s.heap.size = A at hD hT ⊢
  have hA : ∀ q : Nat, s.heap.size ≤ q → A q := fun q h => by rw [← hAe]; exact Or.inr h
  have hS : va_S A s.heap s.heap [] := va_S.rf
  have hl := lv_entry ([.ref h0, .int 0, .int 5]) (n := 3) (Nat.le_of_ble_eq_true rfl)
  rw [lg_entry_eq]
  generalize (lg_sl ([.ref h0, .int 0, .int 5]) ++ List.replicate (3 - (lg_sl ([.ref h0, .int 0, .int 5])).length) Slot.unset).toArray = ls at hl ⊢
  have hl : lv_has ls 3 [(0, .ref h0), (1, .int 0), (2, .int 5)] := hl
  refine lv_aload_n hx hb dX6_gu_0 rfl (lv_at hl 0 rfl) ?_
  refine va_get (D := (dC, dI)) (ci := 11) (v := .ref rq) (C := RX6) (T := TX6) (N := 6) hx hb hts u_c_gu_5_X6 hown hK hP 0 rfl rfl 4 (by decide) (hts (.fieldLink RX6 9 "HotelOfBellsModel" "row" "[I") (List.mem_of_getElem? (i := 1) rfl)) (fun _ h9 => h9) rfl dX6_gu_1 ?_
  refine lv_bipush (v := 56) hx hb dX6_gu_4 (by decide) ?_
  refine lv_bipush (v := 6) hx hb dX6_gu_6 (by decide) ?_
  refine lv_iload_n hx hb dX6_gu_8 rfl (lv_at hl 1 rfl) ?_
  refine lv_imul hx hb dX6_gu_9 ?_
  refine lv_topi (fun x_1 e_2 => ?_)
  obtain rfl : x_1 = 0 := e_2.trans (by decide)
  refine lv_iadd hx hb dX6_gu_10 ?_
  refine lv_topi (fun x_3 e_4 => ?_)
  obtain rfl : x_3 = 56 := e_4.trans (by decide)
  refine lv_iload_n hx hb dX6_gu_11 rfl (lv_at hl 2 rfl) ?_
  refine lv_iadd hx hb dX6_gu_12 ?_
  refine lv_topi (fun x_5 e_6 => ?_)
  obtain rfl : x_5 = 61 := e_6.trans (by decide)
  refine va_iald hx hb hK hP 1 0 rfl rfl (by unfold vp_in; decide) dX6_gu_13 ?_
  refine lv_topi (fun x_7 e_8 => ?_)
  obtain rfl : xw = x_7 := (e_8.trans (rw_l61 _ _ _ _)).symm
  have hP9 := hP.sub (ws' := [(h0, .inr (11, [.int th, .int 1, .int 0, .int 1, .ref rq, .ref sbq])), (rq, .inl (ci, 119, .inl (RW xh xr xt xw)))]) [0, 1] rfl
  have hD9 := hD.sub (ws' := [(h0, .inr (11, [.int th, .int 1, .int 0, .int 1, .ref rq, .ref sbq])), (rq, .inl (ci, 119, .inl (RW xh xr xt xw)))]) [0, 1] (by decide) rfl
  have hK9 := hK.sub (tys' := [(ci, .int)]) [0] rfl
  exact W.iret (v := xw) hx hb hr (fun t ht hW => ⟨⟨xw, (), rfl, rfl, by rw [ht]; exact hP9, va_K.moved hW.alike hK9, hD9⟩, hS.F ht⟩) hS.2.2 dX6_gu_14
def v_c_fl_0 : List Cond := .code yX6_fl cX6_fl 3 (some .int) :: ([Cond.fieldLink RX6 9 "HotelOfBellsModel" "row" "[I"] ++ (wsX60 ++ []))
theorem u_c_fl_0_X6 : ∀ w ∈ wsX60, w ∈ v_c_fl_0 := fun _ h => List.mem_cons_of_mem _ (List.mem_append_right _ (List.mem_append_left _ h))
set_option maxHeartbeats 4000000 in
set_option maxRecDepth 100000 in
theorem c_fl_0 (l : Launch) (hl9 : l.stackTraces = false) (dC : Nat → ClassId) (dI : Nat → Nat → Nat) (tE : Nat) (h0 : Nat) (rq : Nat) (sbq : Nat) (th : Int32) (ci : ClassId) (xh : Int32) (xr : Int32) (xt : Int32) (xw : Int32) (sz : Nat) : Met l yX6_fl v_c_fl_0 ({ frames := 0, cells := 0, slots := 0, locals := 0 }) (va_Pc [.ref h0, .int 0, .int 0] (Pre0 dC dI tE sz [(ci, .int)] [(h0, .inr (11, [.int th, .int 1, .int 0, .int 1, .ref rq, .ref sbq])), (rq, .inl (ci, 119, .inl (RW xh xr xt xw)))])) (va_Qi (fun (r : Int32) (_ : Unit) => r = 3) (fun _ t => Pst dC dI [(ci, .int)] (va_A [(h0, .inr (11, [.int th, .int 1, .int 0, .int 1, .ref rq, .ref sbq])), (rq, .inl (ci, 119, .inl (RW xh xr xt xw)))] sz) [(h0, .inr (11, [.int th, .int 1, .int 0, .int 1, .ref rq, .ref sbq])), (rq, .inl (ci, 119, .inl (RW xh xr xt xw)))] t) (va_A [(h0, .inr (11, [.int th, .int 1, .int 0, .int 1, .ref rq, .ref sbq])), (rq, .inl (ci, 119, .inl (RW xh xr xt xw)))] sz)) 0 0 (va_A [(h0, .inr (11, [.int th, .int 1, .int 0, .int 1, .ref rq, .ref sbq])), (rq, .inl (ci, 119, .inl (RW xh xr xt xw)))] sz) := by
  refine Met.ofW (cc := cX6_fl) (maxL := 3) (ret := (some .int)) (by decide) rfl ?_
  intro p e s m args below meth c s₁ B hml hv
  obtain ⟨rfl, hsz, hP, hK, hD0, hT⟩ := hv
  have hx := B.exec
  have hb := B.bytes
  have hr := B.returns
  have hts := atoms_spec (ws := v_c_fl_0) B.pre
  have hown : s.vm.findClass RX6 = some m.cls := findClass_of_methodNamed B.named
  have hlocks := B.notSynchronized
  subst hsz
  have hD := hD0.self (sz := s.heap.size)
  generalize hAe : va_A [(h0, .inr (11, [.int th, .int 1, .int 0, .int 1, .ref rq, .ref sbq])), (rq, .inl (ci, 119, .inl (RW xh xr xt xw)))] s.heap.size = A at hD hT ⊢
  have hA : ∀ q : Nat, s.heap.size ≤ q → A q := fun q h => by rw [← hAe]; exact Or.inr h
  have hS : va_S A s.heap s.heap [] := va_S.rf
  have hl := lv_entry ([.ref h0, .int 0, .int 0]) (n := 3) (Nat.le_of_ble_eq_true rfl)
  rw [lg_entry_eq]
  generalize (lg_sl ([.ref h0, .int 0, .int 0]) ++ List.replicate (3 - (lg_sl ([.ref h0, .int 0, .int 0])).length) Slot.unset).toArray = ls at hl ⊢
  have hl : lv_has ls 3 [(0, .ref h0), (1, .int 0), (2, .int 0)] := hl
  refine lv_aload_n hx hb dX6_fl_0 rfl (lv_at hl 0 rfl) ?_
  refine va_get (D := (dC, dI)) (ci := 11) (v := .ref rq) (C := RX6) (T := TX6) (N := 6) hx hb hts u_c_fl_0_X6 hown hK hP 0 rfl rfl 4 (by decide) (hts (.fieldLink RX6 9 "HotelOfBellsModel" "row" "[I") (List.mem_of_getElem? (i := 1) rfl)) (fun _ h9 => h9) rfl dX6_fl_1 ?_
  refine lv_iconst (v := 4) hx hb dX6_fl_4 (by decide) ?_
  refine lv_iload_n hx hb dX6_fl_5 rfl (lv_at hl 1 rfl) ?_
  refine lv_imul hx hb dX6_fl_6 ?_
  refine lv_topi (fun x_1 e_2 => ?_)
  obtain rfl : x_1 = 0 := e_2.trans (by decide)
  refine lv_iload_n hx hb dX6_fl_7 rfl (lv_at hl 2 rfl) ?_
  refine lv_iadd hx hb dX6_fl_8 ?_
  refine lv_topi (fun x_3 e_4 => ?_)
  obtain rfl : x_3 = 0 := e_4.trans (by decide)
  refine va_iald hx hb hK hP 1 0 rfl rfl (by unfold vp_in; decide) dX6_fl_9 ?_
  refine lv_topi (fun x_5 e_6 => ?_)
  obtain rfl : x_5 = 3 := e_6.trans (rw_l0 _ _ _ _)
  have hP9 := hP.sub (ws' := [(h0, .inr (11, [.int th, .int 1, .int 0, .int 1, .ref rq, .ref sbq])), (rq, .inl (ci, 119, .inl (RW xh xr xt xw)))]) [0, 1] rfl
  have hD9 := hD.sub (ws' := [(h0, .inr (11, [.int th, .int 1, .int 0, .int 1, .ref rq, .ref sbq])), (rq, .inl (ci, 119, .inl (RW xh xr xt xw)))]) [0, 1] (by decide) rfl
  have hK9 := hK.sub (tys' := [(ci, .int)]) [0] rfl
  exact W.iret (v := 3) hx hb hr (fun t ht hW => ⟨⟨3, (), rfl, rfl, by rw [ht]; exact hP9, va_K.moved hW.alike hK9, hD9⟩, hS.F ht⟩) hS.2.2 dX6_fl_10
def v_c_fl_1 : List Cond := .code yX6_fl cX6_fl 3 (some .int) :: ([Cond.fieldLink RX6 9 "HotelOfBellsModel" "row" "[I"] ++ (wsX60 ++ []))
theorem u_c_fl_1_X6 : ∀ w ∈ wsX60, w ∈ v_c_fl_1 := fun _ h => List.mem_cons_of_mem _ (List.mem_append_right _ (List.mem_append_left _ h))
set_option maxHeartbeats 4000000 in
set_option maxRecDepth 100000 in
theorem c_fl_1 (l : Launch) (hl9 : l.stackTraces = false) (dC : Nat → ClassId) (dI : Nat → Nat → Nat) (tE : Nat) (h0 : Nat) (rq : Nat) (sbq : Nat) (th : Int32) (ci : ClassId) (xh : Int32) (xr : Int32) (xt : Int32) (xw : Int32) (sz : Nat) : Met l yX6_fl v_c_fl_1 ({ frames := 0, cells := 0, slots := 0, locals := 0 }) (va_Pc [.ref h0, .int 0, .int 1] (Pre0 dC dI tE sz [(ci, .int)] [(h0, .inr (11, [.int th, .int 1, .int 0, .int 1, .ref rq, .ref sbq])), (rq, .inl (ci, 119, .inl (RW xh xr xt xw)))])) (va_Qi (fun (r : Int32) (_ : Unit) => r = 0) (fun _ t => Pst dC dI [(ci, .int)] (va_A [(h0, .inr (11, [.int th, .int 1, .int 0, .int 1, .ref rq, .ref sbq])), (rq, .inl (ci, 119, .inl (RW xh xr xt xw)))] sz) [(h0, .inr (11, [.int th, .int 1, .int 0, .int 1, .ref rq, .ref sbq])), (rq, .inl (ci, 119, .inl (RW xh xr xt xw)))] t) (va_A [(h0, .inr (11, [.int th, .int 1, .int 0, .int 1, .ref rq, .ref sbq])), (rq, .inl (ci, 119, .inl (RW xh xr xt xw)))] sz)) 0 0 (va_A [(h0, .inr (11, [.int th, .int 1, .int 0, .int 1, .ref rq, .ref sbq])), (rq, .inl (ci, 119, .inl (RW xh xr xt xw)))] sz) := by
  refine Met.ofW (cc := cX6_fl) (maxL := 3) (ret := (some .int)) (by decide) rfl ?_
  intro p e s m args below meth c s₁ B hml hv
  obtain ⟨rfl, hsz, hP, hK, hD0, hT⟩ := hv
  have hx := B.exec
  have hb := B.bytes
  have hr := B.returns
  have hts := atoms_spec (ws := v_c_fl_1) B.pre
  have hown : s.vm.findClass RX6 = some m.cls := findClass_of_methodNamed B.named
  have hlocks := B.notSynchronized
  subst hsz
  have hD := hD0.self (sz := s.heap.size)
  generalize hAe : va_A [(h0, .inr (11, [.int th, .int 1, .int 0, .int 1, .ref rq, .ref sbq])), (rq, .inl (ci, 119, .inl (RW xh xr xt xw)))] s.heap.size = A at hD hT ⊢
  have hA : ∀ q : Nat, s.heap.size ≤ q → A q := fun q h => by rw [← hAe]; exact Or.inr h
  have hS : va_S A s.heap s.heap [] := va_S.rf
  have hl := lv_entry ([.ref h0, .int 0, .int 1]) (n := 3) (Nat.le_of_ble_eq_true rfl)
  rw [lg_entry_eq]
  generalize (lg_sl ([.ref h0, .int 0, .int 1]) ++ List.replicate (3 - (lg_sl ([.ref h0, .int 0, .int 1])).length) Slot.unset).toArray = ls at hl ⊢
  have hl : lv_has ls 3 [(0, .ref h0), (1, .int 0), (2, .int 1)] := hl
  refine lv_aload_n hx hb dX6_fl_0 rfl (lv_at hl 0 rfl) ?_
  refine va_get (D := (dC, dI)) (ci := 11) (v := .ref rq) (C := RX6) (T := TX6) (N := 6) hx hb hts u_c_fl_1_X6 hown hK hP 0 rfl rfl 4 (by decide) (hts (.fieldLink RX6 9 "HotelOfBellsModel" "row" "[I") (List.mem_of_getElem? (i := 1) rfl)) (fun _ h9 => h9) rfl dX6_fl_1 ?_
  refine lv_iconst (v := 4) hx hb dX6_fl_4 (by decide) ?_
  refine lv_iload_n hx hb dX6_fl_5 rfl (lv_at hl 1 rfl) ?_
  refine lv_imul hx hb dX6_fl_6 ?_
  refine lv_topi (fun x_1 e_2 => ?_)
  obtain rfl : x_1 = 0 := e_2.trans (by decide)
  refine lv_iload_n hx hb dX6_fl_7 rfl (lv_at hl 2 rfl) ?_
  refine lv_iadd hx hb dX6_fl_8 ?_
  refine lv_topi (fun x_3 e_4 => ?_)
  obtain rfl : x_3 = 1 := e_4.trans (by decide)
  refine va_iald hx hb hK hP 1 0 rfl rfl (by unfold vp_in; decide) dX6_fl_9 ?_
  refine lv_topi (fun x_5 e_6 => ?_)
  obtain rfl : x_5 = 0 := e_6.trans (rw_l1 _ _ _ _)
  have hP9 := hP.sub (ws' := [(h0, .inr (11, [.int th, .int 1, .int 0, .int 1, .ref rq, .ref sbq])), (rq, .inl (ci, 119, .inl (RW xh xr xt xw)))]) [0, 1] rfl
  have hD9 := hD.sub (ws' := [(h0, .inr (11, [.int th, .int 1, .int 0, .int 1, .ref rq, .ref sbq])), (rq, .inl (ci, 119, .inl (RW xh xr xt xw)))]) [0, 1] (by decide) rfl
  have hK9 := hK.sub (tys' := [(ci, .int)]) [0] rfl
  exact W.iret (v := 0) hx hb hr (fun t ht hW => ⟨⟨0, (), rfl, rfl, by rw [ht]; exact hP9, va_K.moved hW.alike hK9, hD9⟩, hS.F ht⟩) hS.2.2 dX6_fl_10
def v_c_fl_2 : List Cond := .code yX6_fl cX6_fl 3 (some .int) :: ([Cond.fieldLink RX6 9 "HotelOfBellsModel" "row" "[I"] ++ (wsX60 ++ []))
theorem u_c_fl_2_X6 : ∀ w ∈ wsX60, w ∈ v_c_fl_2 := fun _ h => List.mem_cons_of_mem _ (List.mem_append_right _ (List.mem_append_left _ h))
set_option maxHeartbeats 4000000 in
set_option maxRecDepth 100000 in
theorem c_fl_2 (l : Launch) (hl9 : l.stackTraces = false) (dC : Nat → ClassId) (dI : Nat → Nat → Nat) (tE : Nat) (h0 : Nat) (rq : Nat) (sbq : Nat) (th : Int32) (ci : ClassId) (xh : Int32) (xr : Int32) (xt : Int32) (xw : Int32) (sz : Nat) : Met l yX6_fl v_c_fl_2 ({ frames := 0, cells := 0, slots := 0, locals := 0 }) (va_Pc [.ref h0, .int 0, .int 2] (Pre0 dC dI tE sz [(ci, .int)] [(h0, .inr (11, [.int th, .int 1, .int 0, .int 1, .ref rq, .ref sbq])), (rq, .inl (ci, 119, .inl (RW xh xr xt xw)))])) (va_Qi (fun (r : Int32) (_ : Unit) => r = 1) (fun _ t => Pst dC dI [(ci, .int)] (va_A [(h0, .inr (11, [.int th, .int 1, .int 0, .int 1, .ref rq, .ref sbq])), (rq, .inl (ci, 119, .inl (RW xh xr xt xw)))] sz) [(h0, .inr (11, [.int th, .int 1, .int 0, .int 1, .ref rq, .ref sbq])), (rq, .inl (ci, 119, .inl (RW xh xr xt xw)))] t) (va_A [(h0, .inr (11, [.int th, .int 1, .int 0, .int 1, .ref rq, .ref sbq])), (rq, .inl (ci, 119, .inl (RW xh xr xt xw)))] sz)) 0 0 (va_A [(h0, .inr (11, [.int th, .int 1, .int 0, .int 1, .ref rq, .ref sbq])), (rq, .inl (ci, 119, .inl (RW xh xr xt xw)))] sz) := by
  refine Met.ofW (cc := cX6_fl) (maxL := 3) (ret := (some .int)) (by decide) rfl ?_
  intro p e s m args below meth c s₁ B hml hv
  obtain ⟨rfl, hsz, hP, hK, hD0, hT⟩ := hv
  have hx := B.exec
  have hb := B.bytes
  have hr := B.returns
  have hts := atoms_spec (ws := v_c_fl_2) B.pre
  have hown : s.vm.findClass RX6 = some m.cls := findClass_of_methodNamed B.named
  have hlocks := B.notSynchronized
  subst hsz
  have hD := hD0.self (sz := s.heap.size)
  generalize hAe : va_A [(h0, .inr (11, [.int th, .int 1, .int 0, .int 1, .ref rq, .ref sbq])), (rq, .inl (ci, 119, .inl (RW xh xr xt xw)))] s.heap.size = A at hD hT ⊢
  have hA : ∀ q : Nat, s.heap.size ≤ q → A q := fun q h => by rw [← hAe]; exact Or.inr h
  have hS : va_S A s.heap s.heap [] := va_S.rf
  have hl := lv_entry ([.ref h0, .int 0, .int 2]) (n := 3) (Nat.le_of_ble_eq_true rfl)
  rw [lg_entry_eq]
  generalize (lg_sl ([.ref h0, .int 0, .int 2]) ++ List.replicate (3 - (lg_sl ([.ref h0, .int 0, .int 2])).length) Slot.unset).toArray = ls at hl ⊢
  have hl : lv_has ls 3 [(0, .ref h0), (1, .int 0), (2, .int 2)] := hl
  refine lv_aload_n hx hb dX6_fl_0 rfl (lv_at hl 0 rfl) ?_
  refine va_get (D := (dC, dI)) (ci := 11) (v := .ref rq) (C := RX6) (T := TX6) (N := 6) hx hb hts u_c_fl_2_X6 hown hK hP 0 rfl rfl 4 (by decide) (hts (.fieldLink RX6 9 "HotelOfBellsModel" "row" "[I") (List.mem_of_getElem? (i := 1) rfl)) (fun _ h9 => h9) rfl dX6_fl_1 ?_
  refine lv_iconst (v := 4) hx hb dX6_fl_4 (by decide) ?_
  refine lv_iload_n hx hb dX6_fl_5 rfl (lv_at hl 1 rfl) ?_
  refine lv_imul hx hb dX6_fl_6 ?_
  refine lv_topi (fun x_1 e_2 => ?_)
  obtain rfl : x_1 = 0 := e_2.trans (by decide)
  refine lv_iload_n hx hb dX6_fl_7 rfl (lv_at hl 2 rfl) ?_
  refine lv_iadd hx hb dX6_fl_8 ?_
  refine lv_topi (fun x_3 e_4 => ?_)
  obtain rfl : x_3 = 2 := e_4.trans (by decide)
  refine va_iald hx hb hK hP 1 0 rfl rfl (by unfold vp_in; decide) dX6_fl_9 ?_
  refine lv_topi (fun x_5 e_6 => ?_)
  obtain rfl : x_5 = 1 := e_6.trans (rw_l2 _ _ _ _)
  have hP9 := hP.sub (ws' := [(h0, .inr (11, [.int th, .int 1, .int 0, .int 1, .ref rq, .ref sbq])), (rq, .inl (ci, 119, .inl (RW xh xr xt xw)))]) [0, 1] rfl
  have hD9 := hD.sub (ws' := [(h0, .inr (11, [.int th, .int 1, .int 0, .int 1, .ref rq, .ref sbq])), (rq, .inl (ci, 119, .inl (RW xh xr xt xw)))]) [0, 1] (by decide) rfl
  have hK9 := hK.sub (tys' := [(ci, .int)]) [0] rfl
  exact W.iret (v := 1) hx hb hr (fun t ht hW => ⟨⟨1, (), rfl, rfl, by rw [ht]; exact hP9, va_K.moved hW.alike hK9, hD9⟩, hS.F ht⟩) hS.2.2 dX6_fl_10
def v_c_fl_3 : List Cond := .code yX6_fl cX6_fl 3 (some .int) :: ([Cond.fieldLink RX6 9 "HotelOfBellsModel" "row" "[I"] ++ (wsX60 ++ []))
theorem u_c_fl_3_X6 : ∀ w ∈ wsX60, w ∈ v_c_fl_3 := fun _ h => List.mem_cons_of_mem _ (List.mem_append_right _ (List.mem_append_left _ h))
set_option maxHeartbeats 4000000 in
set_option maxRecDepth 100000 in
theorem c_fl_3 (l : Launch) (hl9 : l.stackTraces = false) (dC : Nat → ClassId) (dI : Nat → Nat → Nat) (tE : Nat) (h0 : Nat) (rq : Nat) (sbq : Nat) (th : Int32) (ci : ClassId) (xh : Int32) (xr : Int32) (xt : Int32) (xw : Int32) (sz : Nat) : Met l yX6_fl v_c_fl_3 ({ frames := 0, cells := 0, slots := 0, locals := 0 }) (va_Pc [.ref h0, .int 0, .int 3] (Pre0 dC dI tE sz [(ci, .int)] [(h0, .inr (11, [.int th, .int 1, .int 0, .int 1, .ref rq, .ref sbq])), (rq, .inl (ci, 119, .inl (RW xh xr xt xw)))])) (va_Qi (fun (r : Int32) (_ : Unit) => r = 0) (fun _ t => Pst dC dI [(ci, .int)] (va_A [(h0, .inr (11, [.int th, .int 1, .int 0, .int 1, .ref rq, .ref sbq])), (rq, .inl (ci, 119, .inl (RW xh xr xt xw)))] sz) [(h0, .inr (11, [.int th, .int 1, .int 0, .int 1, .ref rq, .ref sbq])), (rq, .inl (ci, 119, .inl (RW xh xr xt xw)))] t) (va_A [(h0, .inr (11, [.int th, .int 1, .int 0, .int 1, .ref rq, .ref sbq])), (rq, .inl (ci, 119, .inl (RW xh xr xt xw)))] sz)) 0 0 (va_A [(h0, .inr (11, [.int th, .int 1, .int 0, .int 1, .ref rq, .ref sbq])), (rq, .inl (ci, 119, .inl (RW xh xr xt xw)))] sz) := by
  refine Met.ofW (cc := cX6_fl) (maxL := 3) (ret := (some .int)) (by decide) rfl ?_
  intro p e s m args below meth c s₁ B hml hv
  obtain ⟨rfl, hsz, hP, hK, hD0, hT⟩ := hv
  have hx := B.exec
  have hb := B.bytes
  have hr := B.returns
  have hts := atoms_spec (ws := v_c_fl_3) B.pre
  have hown : s.vm.findClass RX6 = some m.cls := findClass_of_methodNamed B.named
  have hlocks := B.notSynchronized
  subst hsz
  have hD := hD0.self (sz := s.heap.size)
  generalize hAe : va_A [(h0, .inr (11, [.int th, .int 1, .int 0, .int 1, .ref rq, .ref sbq])), (rq, .inl (ci, 119, .inl (RW xh xr xt xw)))] s.heap.size = A at hD hT ⊢
  have hA : ∀ q : Nat, s.heap.size ≤ q → A q := fun q h => by rw [← hAe]; exact Or.inr h
  have hS : va_S A s.heap s.heap [] := va_S.rf
  have hl := lv_entry ([.ref h0, .int 0, .int 3]) (n := 3) (Nat.le_of_ble_eq_true rfl)
  rw [lg_entry_eq]
  generalize (lg_sl ([.ref h0, .int 0, .int 3]) ++ List.replicate (3 - (lg_sl ([.ref h0, .int 0, .int 3])).length) Slot.unset).toArray = ls at hl ⊢
  have hl : lv_has ls 3 [(0, .ref h0), (1, .int 0), (2, .int 3)] := hl
  refine lv_aload_n hx hb dX6_fl_0 rfl (lv_at hl 0 rfl) ?_
  refine va_get (D := (dC, dI)) (ci := 11) (v := .ref rq) (C := RX6) (T := TX6) (N := 6) hx hb hts u_c_fl_3_X6 hown hK hP 0 rfl rfl 4 (by decide) (hts (.fieldLink RX6 9 "HotelOfBellsModel" "row" "[I") (List.mem_of_getElem? (i := 1) rfl)) (fun _ h9 => h9) rfl dX6_fl_1 ?_
  refine lv_iconst (v := 4) hx hb dX6_fl_4 (by decide) ?_
  refine lv_iload_n hx hb dX6_fl_5 rfl (lv_at hl 1 rfl) ?_
  refine lv_imul hx hb dX6_fl_6 ?_
  refine lv_topi (fun x_1 e_2 => ?_)
  obtain rfl : x_1 = 0 := e_2.trans (by decide)
  refine lv_iload_n hx hb dX6_fl_7 rfl (lv_at hl 2 rfl) ?_
  refine lv_iadd hx hb dX6_fl_8 ?_
  refine lv_topi (fun x_3 e_4 => ?_)
  obtain rfl : x_3 = 3 := e_4.trans (by decide)
  refine va_iald hx hb hK hP 1 0 rfl rfl (by unfold vp_in; decide) dX6_fl_9 ?_
  refine lv_topi (fun x_5 e_6 => ?_)
  obtain rfl : x_5 = 0 := e_6.trans (rw_l3 _ _ _ _)
  have hP9 := hP.sub (ws' := [(h0, .inr (11, [.int th, .int 1, .int 0, .int 1, .ref rq, .ref sbq])), (rq, .inl (ci, 119, .inl (RW xh xr xt xw)))]) [0, 1] rfl
  have hD9 := hD.sub (ws' := [(h0, .inr (11, [.int th, .int 1, .int 0, .int 1, .ref rq, .ref sbq])), (rq, .inl (ci, 119, .inl (RW xh xr xt xw)))]) [0, 1] (by decide) rfl
  have hK9 := hK.sub (tys' := [(ci, .int)]) [0] rfl
  exact W.iret (v := 0) hx hb hr (fun t ht hW => ⟨⟨0, (), rfl, rfl, by rw [ht]; exact hP9, va_K.moved hW.alike hK9, hD9⟩, hS.F ht⟩) hS.2.2 dX6_fl_10
def v_c_setGu_5 : List Cond := .code yX6_setGu cX6_setGu 4 none :: ([Cond.fieldLink RX6 9 "HotelOfBellsModel" "row" "[I"] ++ (wsX60 ++ []))
theorem u_c_setGu_5_X6 : ∀ w ∈ wsX60, w ∈ v_c_setGu_5 := fun _ h => List.mem_cons_of_mem _ (List.mem_append_right _ (List.mem_append_left _ h))
set_option maxHeartbeats 4000000 in
set_option maxRecDepth 100000 in
theorem c_setGu_5 (l : Launch) (hl9 : l.stackTraces = false) (dC : Nat → ClassId) (dI : Nat → Nat → Nat) (tE : Nat) (h0 : Nat) (rq : Nat) (sbq : Nat) (th : Int32) (ci : ClassId) (xh : Int32) (xr : Int32) (xt : Int32) (xw : Int32) (p2 : Int32) (sz : Nat) : Met l yX6_setGu v_c_setGu_5 ({ frames := 0, cells := 0, slots := 0, locals := 0 }) (va_Pc [.ref h0, .int 0, .int 5, .int p2] (Pre0 dC dI tE sz [(ci, .int)] [(h0, .inr (11, [.int th, .int 1, .int 0, .int 1, .ref rq, .ref sbq])), (rq, .inl (ci, 119, .inl (RW xh xr xt xw)))])) (va_Qv (fun (_ : Unit) => True) (fun _ t => Pst dC dI [(ci, .int)] (va_A [(h0, .inr (11, [.int th, .int 1, .int 0, .int 1, .ref rq, .ref sbq])), (rq, .inl (ci, 119, .inl (RW xh xr xt xw)))] sz) [(h0, .inr (11, [.int th, .int 1, .int 0, .int 1, .ref rq, .ref sbq])), (rq, .inl (ci, 119, .inl (RW xh xr xt p2)))] t) (va_A [(h0, .inr (11, [.int th, .int 1, .int 0, .int 1, .ref rq, .ref sbq])), (rq, .inl (ci, 119, .inl (RW xh xr xt xw)))] sz)) 0 0 (va_A [(h0, .inr (11, [.int th, .int 1, .int 0, .int 1, .ref rq, .ref sbq])), (rq, .inl (ci, 119, .inl (RW xh xr xt xw)))] sz) := by
  refine Met.ofW (cc := cX6_setGu) (maxL := 4) (ret := none) (by decide) rfl ?_
  intro p e s m args below meth c s₁ B hml hv
  obtain ⟨rfl, hsz, hP, hK, hD0, hT⟩ := hv
  have hx := B.exec
  have hb := B.bytes
  have hr := B.returns
  have hts := atoms_spec (ws := v_c_setGu_5) B.pre
  have hown : s.vm.findClass RX6 = some m.cls := findClass_of_methodNamed B.named
  have hlocks := B.notSynchronized
  subst hsz
  have hD := hD0.self (sz := s.heap.size)
  generalize hAe : va_A [(h0, .inr (11, [.int th, .int 1, .int 0, .int 1, .ref rq, .ref sbq])), (rq, .inl (ci, 119, .inl (RW xh xr xt xw)))] s.heap.size = A at hD hT ⊢
  have hA : ∀ q : Nat, s.heap.size ≤ q → A q := fun q h => by rw [← hAe]; exact Or.inr h
  have hS : va_S A s.heap s.heap [] := va_S.rf
  have hl := lv_entry ([.ref h0, .int 0, .int 5, .int p2]) (n := 4) (Nat.le_of_ble_eq_true rfl)
  rw [lg_entry_eq]
  generalize (lg_sl ([.ref h0, .int 0, .int 5, .int p2]) ++ List.replicate (4 - (lg_sl ([.ref h0, .int 0, .int 5, .int p2])).length) Slot.unset).toArray = ls at hl ⊢
  have hl : lv_has ls 4 [(0, .ref h0), (1, .int 0), (2, .int 5), (3, .int p2)] := hl
  refine lv_aload_n hx hb dX6_setGu_0 rfl (lv_at hl 0 rfl) ?_
  refine va_get (D := (dC, dI)) (ci := 11) (v := .ref rq) (C := RX6) (T := TX6) (N := 6) hx hb hts u_c_setGu_5_X6 hown hK hP 0 rfl rfl 4 (by decide) (hts (.fieldLink RX6 9 "HotelOfBellsModel" "row" "[I") (List.mem_of_getElem? (i := 1) rfl)) (fun _ h9 => h9) rfl dX6_setGu_1 ?_
  refine lv_bipush (v := 56) hx hb dX6_setGu_4 (by decide) ?_
  refine lv_bipush (v := 6) hx hb dX6_setGu_6 (by decide) ?_
  refine lv_iload_n hx hb dX6_setGu_8 rfl (lv_at hl 1 rfl) ?_
  refine lv_imul hx hb dX6_setGu_9 ?_
  refine lv_topi (fun x_1 e_2 => ?_)
  obtain rfl : x_1 = 0 := e_2.trans (by decide)
  refine lv_iadd hx hb dX6_setGu_10 ?_
  refine lv_topi (fun x_3 e_4 => ?_)
  obtain rfl : x_3 = 56 := e_4.trans (by decide)
  refine lv_iload_n hx hb dX6_setGu_11 rfl (lv_at hl 2 rfl) ?_
  refine lv_iadd hx hb dX6_setGu_12 ?_
  refine lv_topi (fun x_5 e_6 => ?_)
  obtain rfl : x_5 = 61 := e_6.trans (by decide)
  refine lv_iload_n hx hb dX6_setGu_13 rfl (lv_at hl 3 rfl) ?_
  refine va_iast hx hb hK hP hD hS 1 0 rfl rfl (by unfold vp_in; decide) dX6_setGu_14 (fun H locs hP hD hS => ?_)
  rw [rw_s61] at hP hD
  have hP : va_P (dC, dI) vwCl [(h0, .inr (11, [.int th, .int 1, .int 0, .int 1, .ref rq, .ref sbq])), (rq, .inl (ci, 119, .inl (RW xh xr xt p2)))] H := hP
  have hD : va_D A [(h0, .inr (11, [.int th, .int 1, .int 0, .int 1, .ref rq, .ref sbq])), (rq, .inl (ci, 119, .inl (RW xh xr xt p2)))] := hD
  have hP9 := hP.sub (ws' := [(h0, .inr (11, [.int th, .int 1, .int 0, .int 1, .ref rq, .ref sbq])), (rq, .inl (ci, 119, .inl (RW xh xr xt p2)))]) [0, 1] rfl
  have hD9 := hD.sub (ws' := [(h0, .inr (11, [.int th, .int 1, .int 0, .int 1, .ref rq, .ref sbq])), (rq, .inl (ci, 119, .inl (RW xh xr xt p2)))]) [0, 1] (by decide) rfl
  have hK9 := hK.sub (tys' := [(ci, .int)]) [0] rfl
  exact W.vret hx hb hr (fun t ht hW => ⟨⟨(), rfl, trivial, by rw [ht]; exact hP9, va_K.moved hW.alike hK9, hD9⟩, hS.F ht⟩) hS.2.2 dX6_setGu_15
def v_c_setFl_1 : List Cond := .code yX6_setFl cX6_setFl 4 none :: ([Cond.fieldLink RX6 9 "HotelOfBellsModel" "row" "[I"] ++ (wsX60 ++ []))
theorem u_c_setFl_1_X6 : ∀ w ∈ wsX60, w ∈ v_c_setFl_1 := fun _ h => List.mem_cons_of_mem _ (List.mem_append_right _ (List.mem_append_left _ h))
set_option maxHeartbeats 4000000 in
set_option maxRecDepth 100000 in
theorem c_setFl_1 (l : Launch) (hl9 : l.stackTraces = false) (dC : Nat → ClassId) (dI : Nat → Nat → Nat) (tE : Nat) (h0 : Nat) (rq : Nat) (sbq : Nat) (th : Int32) (ci : ClassId) (xh : Int32) (xr : Int32) (xt : Int32) (xw : Int32) (sz : Nat) : Met l yX6_setFl v_c_setFl_1 ({ frames := 0, cells := 0, slots := 0, locals := 0 }) (va_Pc [.ref h0, .int 0, .int 1, .int 0] (Pre0 dC dI tE sz [(ci, .int)] [(h0, .inr (11, [.int th, .int 1, .int 0, .int 1, .ref rq, .ref sbq])), (rq, .inl (ci, 119, .inl (RW xh xr xt xw)))])) (va_Qv (fun (_ : Unit) => True) (fun _ t => Pst dC dI [(ci, .int)] (va_A [(h0, .inr (11, [.int th, .int 1, .int 0, .int 1, .ref rq, .ref sbq])), (rq, .inl (ci, 119, .inl (RW xh xr xt xw)))] sz) [(h0, .inr (11, [.int th, .int 1, .int 0, .int 1, .ref rq, .ref sbq])), (rq, .inl (ci, 119, .inl (RW xh xr xt xw)))] t) (va_A [(h0, .inr (11, [.int th, .int 1, .int 0, .int 1, .ref rq, .ref sbq])), (rq, .inl (ci, 119, .inl (RW xh xr xt xw)))] sz)) 0 0 (va_A [(h0, .inr (11, [.int th, .int 1, .int 0, .int 1, .ref rq, .ref sbq])), (rq, .inl (ci, 119, .inl (RW xh xr xt xw)))] sz) := by
  refine Met.ofW (cc := cX6_setFl) (maxL := 4) (ret := none) (by decide) rfl ?_
  intro p e s m args below meth c s₁ B hml hv
  obtain ⟨rfl, hsz, hP, hK, hD0, hT⟩ := hv
  have hx := B.exec
  have hb := B.bytes
  have hr := B.returns
  have hts := atoms_spec (ws := v_c_setFl_1) B.pre
  have hown : s.vm.findClass RX6 = some m.cls := findClass_of_methodNamed B.named
  have hlocks := B.notSynchronized
  subst hsz
  have hD := hD0.self (sz := s.heap.size)
  generalize hAe : va_A [(h0, .inr (11, [.int th, .int 1, .int 0, .int 1, .ref rq, .ref sbq])), (rq, .inl (ci, 119, .inl (RW xh xr xt xw)))] s.heap.size = A at hD hT ⊢
  have hA : ∀ q : Nat, s.heap.size ≤ q → A q := fun q h => by rw [← hAe]; exact Or.inr h
  have hS : va_S A s.heap s.heap [] := va_S.rf
  have hl := lv_entry ([.ref h0, .int 0, .int 1, .int 0]) (n := 4) (Nat.le_of_ble_eq_true rfl)
  rw [lg_entry_eq]
  generalize (lg_sl ([.ref h0, .int 0, .int 1, .int 0]) ++ List.replicate (4 - (lg_sl ([.ref h0, .int 0, .int 1, .int 0])).length) Slot.unset).toArray = ls at hl ⊢
  have hl : lv_has ls 4 [(0, .ref h0), (1, .int 0), (2, .int 1), (3, .int 0)] := hl
  refine lv_aload_n hx hb dX6_setFl_0 rfl (lv_at hl 0 rfl) ?_
  refine va_get (D := (dC, dI)) (ci := 11) (v := .ref rq) (C := RX6) (T := TX6) (N := 6) hx hb hts u_c_setFl_1_X6 hown hK hP 0 rfl rfl 4 (by decide) (hts (.fieldLink RX6 9 "HotelOfBellsModel" "row" "[I") (List.mem_of_getElem? (i := 1) rfl)) (fun _ h9 => h9) rfl dX6_setFl_1 ?_
  refine lv_iconst (v := 4) hx hb dX6_setFl_4 (by decide) ?_
  refine lv_iload_n hx hb dX6_setFl_5 rfl (lv_at hl 1 rfl) ?_
  refine lv_imul hx hb dX6_setFl_6 ?_
  refine lv_topi (fun x_1 e_2 => ?_)
  obtain rfl : x_1 = 0 := e_2.trans (by decide)
  refine lv_iload_n hx hb dX6_setFl_7 rfl (lv_at hl 2 rfl) ?_
  refine lv_iadd hx hb dX6_setFl_8 ?_
  refine lv_topi (fun x_3 e_4 => ?_)
  obtain rfl : x_3 = 1 := e_4.trans (by decide)
  refine lv_iload_n hx hb dX6_setFl_9 rfl (lv_at hl 3 rfl) ?_
  refine va_iast hx hb hK hP hD hS 1 0 rfl rfl (by unfold vp_in; decide) dX6_setFl_10 (fun H locs hP hD hS => ?_)
  rw [rw_s1] at hP hD
  have hP : va_P (dC, dI) vwCl [(h0, .inr (11, [.int th, .int 1, .int 0, .int 1, .ref rq, .ref sbq])), (rq, .inl (ci, 119, .inl (RW xh xr xt xw)))] H := hP
  have hD : va_D A [(h0, .inr (11, [.int th, .int 1, .int 0, .int 1, .ref rq, .ref sbq])), (rq, .inl (ci, 119, .inl (RW xh xr xt xw)))] := hD
  have hP9 := hP.sub (ws' := [(h0, .inr (11, [.int th, .int 1, .int 0, .int 1, .ref rq, .ref sbq])), (rq, .inl (ci, 119, .inl (RW xh xr xt xw)))]) [0, 1] rfl
  have hD9 := hD.sub (ws' := [(h0, .inr (11, [.int th, .int 1, .int 0, .int 1, .ref rq, .ref sbq])), (rq, .inl (ci, 119, .inl (RW xh xr xt xw)))]) [0, 1] (by decide) rfl
  have hK9 := hK.sub (tys' := [(ci, .int)]) [0] rfl
  exact W.vret hx hb hr (fun t ht hW => ⟨⟨(), rfl, trivial, by rw [ht]; exact hP9, va_K.moved hW.alike hK9, hD9⟩, hS.F ht⟩) hS.2.2 dX6_setFl_11
def v_c_Mi_isGuest : List Cond := .code yX6_isGuest cX6_isGuest 2 (some .boolean) :: ([Cond.fieldLink RX6 34 "HotelOfBellsModel" "guests" "I", Cond.code yX6_isIn cX6_isIn 3 (some .boolean), Cond.methodLink RX6 27 yX6_isIn, Cond.static yX6_isIn, Cond.initialized RX6] ++ (wsX60 ++ []))
theorem u_c_Mi_isGuest_X6 : ∀ w ∈ wsX60, w ∈ v_c_Mi_isGuest := fun _ h => List.mem_cons_of_mem _ (List.mem_append_right _ (List.mem_append_left _ h))
theorem gg_c_Mi_isGuest_c_isIn_0_0_0 : GoodIn v_c_Mi_isGuest v_c_isIn_0_0_0 := goodIn_r _ [2] (by rfl) (by decide +kernel)
set_option maxHeartbeats 4000000 in
set_option maxRecDepth 100000 in
theorem c_Mi_isGuest (l : Launch) (hl9 : l.stackTraces = false) (dC : Nat → ClassId) (dI : Nat → Nat → Nat) (tE : Nat) (h0 : Nat) (rq : Nat) (sbq : Nat) (th : Int32) (ci : ClassId) (xh : Int32) (xr : Int32) (xt : Int32) (xw : Int32) (sz : Nat) : Met l yX6_isGuest v_c_Mi_isGuest ({ frames := 1, cells := 0, slots := 0, locals := 22 }) (va_Pc [.ref h0, .int 0] (Pre0 dC dI tE sz [(ci, .int)] [(h0, .inr (11, [.int th, .int 1, .int 0, .int 1, .ref rq, .ref sbq])), (rq, .inl (ci, 119, .inl (RW xh xr xt xw)))])) (va_Qi (fun (r : Int32) (_ : Unit) => r = 1) (fun _ t => Pst dC dI [(ci, .int)] (va_A [(h0, .inr (11, [.int th, .int 1, .int 0, .int 1, .ref rq, .ref sbq])), (rq, .inl (ci, 119, .inl (RW xh xr xt xw)))] sz) [(h0, .inr (11, [.int th, .int 1, .int 0, .int 1, .ref rq, .ref sbq])), (rq, .inl (ci, 119, .inl (RW xh xr xt xw)))] t) (va_A [(h0, .inr (11, [.int th, .int 1, .int 0, .int 1, .ref rq, .ref sbq])), (rq, .inl (ci, 119, .inl (RW xh xr xt xw)))] sz)) 0 0 (va_A [(h0, .inr (11, [.int th, .int 1, .int 0, .int 1, .ref rq, .ref sbq])), (rq, .inl (ci, 119, .inl (RW xh xr xt xw)))] sz) := by
  refine Met.ofW (cc := cX6_isGuest) (maxL := 2) (ret := (some .boolean)) (by decide) rfl ?_
  intro p e s m args below meth c s₁ B hml hv
  obtain ⟨rfl, hsz, hP, hK, hD0, hT⟩ := hv
  have hx := B.exec
  have hb := B.bytes
  have hr := B.returns
  have hts := atoms_spec (ws := v_c_Mi_isGuest) B.pre
  have hown : s.vm.findClass RX6 = some m.cls := findClass_of_methodNamed B.named
  have hlocks := B.notSynchronized
  subst hsz
  have hD := hD0.self (sz := s.heap.size)
  generalize hAe : va_A [(h0, .inr (11, [.int th, .int 1, .int 0, .int 1, .ref rq, .ref sbq])), (rq, .inl (ci, 119, .inl (RW xh xr xt xw)))] s.heap.size = A at hD hT ⊢
  have hA : ∀ q : Nat, s.heap.size ≤ q → A q := fun q h => by rw [← hAe]; exact Or.inr h
  have hS : va_S A s.heap s.heap [] := va_S.rf
  have hl := lv_entry ([.ref h0, .int 0]) (n := 2) (Nat.le_of_ble_eq_true rfl)
  rw [lg_entry_eq]
  generalize (lg_sl ([.ref h0, .int 0]) ++ List.replicate (2 - (lg_sl ([.ref h0, .int 0])).length) Slot.unset).toArray = ls at hl ⊢
  have hl : lv_has ls 2 [(0, .ref h0), (1, .int 0)] := hl
  refine lv_iload_n hx hb dX6_isGuest_0 rfl (lv_at hl 1 rfl) ?_
  refine lv_iconst (v := 0) hx hb dX6_isGuest_1 (by decide) ?_
  refine lv_aload_n hx hb dX6_isGuest_2 rfl (lv_at hl 0 rfl) ?_
  refine va_get (D := (dC, dI)) (ci := 11) (v := .int 1) (C := RX6) (T := TX6) (N := 6) hx hb hts u_c_Mi_isGuest_X6 hown hK hP 0 rfl rfl 3 (by decide) (hts (.fieldLink RX6 34 "HotelOfBellsModel" "guests" "I") (List.mem_of_getElem? (i := 1) rfl)) (fun _ h9 => h9) rfl dX6_isGuest_3 ?_
  refine lv_iconst (v := 1) hx hb dX6_isGuest_6 (by decide) ?_
  refine lv_isub hx hb dX6_isGuest_7 ?_
  refine lv_topi (fun x_1 e_2 => ?_)
  obtain rfl : x_1 = 0 := e_2.trans (by decide)
  have hPc := hP.sub (ws' := []) [] rfl
  have hDc := hD.sub (ws' := []) [] (by decide) rfl
  have hKc := hK.sub (tys' := []) [] rfl
  have hFc := va_free (wc := []) hD hS hA [] rfl
  refine va_calli (va_runS (As := [.int 0, .int 0, .int 0]) (rest := []) ⟨hx, hb, hml, hown, hts⟩ (c_isIn_0_0_0 l hl9 dC dI tE  _ ) (va_cwS 3 hts (goodIn_app (goodIn_r _ [3, 4, 5] (by rfl) (by decide +kernel)) gg_c_Mi_isGuest_c_isIn_0_0_0) rfl rfl rfl (by decide +kernel) ⟨Nat.le_of_ble_eq_true rfl, Nat.le_of_ble_eq_true rfl⟩) ⟨Pre0.blind, Pre0.give hPc hKc hDc hT hS hFc⟩ rfl rfl hl.1 rfl (lv_room (Nat.le_of_ble_eq_true rfl)) dX6_isGuest_8 ⟨Nat.le_of_ble_eq_true rfl, Nat.le_of_ble_eq_true rfl⟩) hS (fun q _ h => hFc q h) hFc (fun r_3 u t H1 locs ht hvm hw hB hz1 hk1 hS => ?_)
  obtain ⟨hP1, hK1, hD1⟩ := hB
  rw [ht] at hP1
  have hK1 := va_K.moved hvm.symm hK1
  obtain ⟨hP, hD⟩ := va_join (wr := [(h0, .inr (11, [.int th, .int 1, .int 0, .int 1, .ref rq, .ref sbq])), (rq, .inl (ci, 119, .inl (RW xh xr xt xw)))]) (w1 := []) hP hD [] [0, 1] rfl rfl (by decide) (by decide) hk1 hFc hP1 hD1
  generalize H1 = H at hP hS ⊢
  have hP : va_P (dC, dI) vwCl [(h0, .inr (11, [.int th, .int 1, .int 0, .int 1, .ref rq, .ref sbq])), (rq, .inl (ci, 119, .inl (RW xh xr xt xw)))] H := hP
  have hD : va_D A [(h0, .inr (11, [.int th, .int 1, .int 0, .int 1, .ref rq, .ref sbq])), (rq, .inl (ci, 119, .inl (RW xh xr xt xw)))] := hD
  refine W.widen (k := 0) (n := 0) (by omega) (by omega) ?_
  obtain rfl : r_3 = 1 := hw
  have hP9 := hP.sub (ws' := [(h0, .inr (11, [.int th, .int 1, .int 0, .int 1, .ref rq, .ref sbq])), (rq, .inl (ci, 119, .inl (RW xh xr xt xw)))]) [0, 1] rfl
  have hD9 := hD.sub (ws' := [(h0, .inr (11, [.int th, .int 1, .int 0, .int 1, .ref rq, .ref sbq])), (rq, .inl (ci, 119, .inl (RW xh xr xt xw)))]) [0, 1] (by decide) rfl
  have hK9 := hK.sub (tys' := [(ci, .int)]) [0] rfl
  exact W.zret (v := 1) hx hb hr (by decide) (fun t ht hW => ⟨⟨1, (), rfl, rfl, by rw [ht]; exact hP9, va_K.moved hW.alike hK9, hD9⟩, hS.F ht⟩) hS.2.2 dX6_isGuest_11
def v_c_isHome : List Cond := .code yX6_isHome cX6_isHome 2 (some .boolean) :: ([Cond.code yX6_gu cX6_gu 3 (some .int), Cond.fieldLink RX6 9 "HotelOfBellsModel" "row" "[I", Cond.methodLink RX6 78 yX6_gu, Cond.instanceMethod yX6_gu, Cond.selects RX6 yX6_gu yX6_gu, Cond.initialized RX6] ++ (wsX60 ++ []))
theorem u_c_isHome_X6 : ∀ w ∈ wsX60, w ∈ v_c_isHome := fun _ h => List.mem_cons_of_mem _ (List.mem_append_right _ (List.mem_append_left _ h))
theorem gg_c_isHome_c_gu_2 : GoodIn v_c_isHome v_c_gu_2 := goodIn_r _ [1, 2, 7, 8, 9, 10, 11, 12] (by rfl) (by decide +kernel)
theorem gg_c_isHome_c_gu_0 : GoodIn v_c_isHome v_c_gu_0 := goodIn_r _ [1, 2, 7, 8, 9, 10, 11, 12] (by rfl) (by decide +kernel)
theorem gg_c_isHome_c_gu_3 : GoodIn v_c_isHome v_c_gu_3 := goodIn_r _ [1, 2, 7, 8, 9, 10, 11, 12] (by rfl) (by decide +kernel)
theorem gg_c_isHome_c_gu_1 : GoodIn v_c_isHome v_c_gu_1 := goodIn_r _ [1, 2, 7, 8, 9, 10, 11, 12] (by rfl) (by decide +kernel)
theorem gg_c_isHome_c_gu_4 : GoodIn v_c_isHome v_c_gu_4 := goodIn_r _ [1, 2, 7, 8, 9, 10, 11, 12] (by rfl) (by decide +kernel)
set_option maxHeartbeats 4000000 in
set_option maxRecDepth 100000 in
theorem c_isHome (l : Launch) (hl9 : l.stackTraces = false) (dC : Nat → ClassId) (dI : Nat → Nat → Nat) (tE : Nat) (h0 : Nat) (rq : Nat) (sbq : Nat) (th : Int32) (ci : ClassId) (xh : Int32) (xr : Int32) (xt : Int32) (xw : Int32) (sz : Nat) : Met l yX6_isHome v_c_isHome ({ frames := 1, cells := 0, slots := 0, locals := 22 }) (va_Pc [.ref h0, .int 0] (Pre0 dC dI tE sz [(ci, .int)] [(h0, .inr (11, [.int th, .int 1, .int 0, .int 1, .ref rq, .ref sbq])), (rq, .inl (ci, 119, .inl (RW xh xr xt xw)))])) (va_Qi (fun (r : Int32) (_ : Unit) => r = 0) (fun _ t => Pst dC dI [(ci, .int)] (va_A [(h0, .inr (11, [.int th, .int 1, .int 0, .int 1, .ref rq, .ref sbq])), (rq, .inl (ci, 119, .inl (RW xh xr xt xw)))] sz) [(h0, .inr (11, [.int th, .int 1, .int 0, .int 1, .ref rq, .ref sbq])), (rq, .inl (ci, 119, .inl (RW xh xr xt xw)))] t) (va_A [(h0, .inr (11, [.int th, .int 1, .int 0, .int 1, .ref rq, .ref sbq])), (rq, .inl (ci, 119, .inl (RW xh xr xt xw)))] sz)) 0 0 (va_A [(h0, .inr (11, [.int th, .int 1, .int 0, .int 1, .ref rq, .ref sbq])), (rq, .inl (ci, 119, .inl (RW xh xr xt xw)))] sz) := by
  refine Met.ofW (cc := cX6_isHome) (maxL := 2) (ret := (some .boolean)) (by decide) rfl ?_
  intro p e s m args below meth c s₁ B hml hv
  obtain ⟨rfl, hsz, hP, hK, hD0, hT⟩ := hv
  have hx := B.exec
  have hb := B.bytes
  have hr := B.returns
  have hts := atoms_spec (ws := v_c_isHome) B.pre
  have hown : s.vm.findClass RX6 = some m.cls := findClass_of_methodNamed B.named
  have hlocks := B.notSynchronized
  subst hsz
  have hD := hD0.self (sz := s.heap.size)
  generalize hAe : va_A [(h0, .inr (11, [.int th, .int 1, .int 0, .int 1, .ref rq, .ref sbq])), (rq, .inl (ci, 119, .inl (RW xh xr xt xw)))] s.heap.size = A at hD hT ⊢
  have hA : ∀ q : Nat, s.heap.size ≤ q → A q := fun q h => by rw [← hAe]; exact Or.inr h
  have hS : va_S A s.heap s.heap [] := va_S.rf
  have hl := lv_entry ([.ref h0, .int 0]) (n := 2) (Nat.le_of_ble_eq_true rfl)
  rw [lg_entry_eq]
  generalize (lg_sl ([.ref h0, .int 0]) ++ List.replicate (2 - (lg_sl ([.ref h0, .int 0])).length) Slot.unset).toArray = ls at hl ⊢
  have hl : lv_has ls 2 [(0, .ref h0), (1, .int 0)] := hl
  refine lv_aload_n hx hb dX6_isHome_0 rfl (lv_at hl 0 rfl) ?_
  refine lv_iload_n hx hb dX6_isHome_1 rfl (lv_at hl 1 rfl) ?_
  refine lv_iconst (v := 2) hx hb dX6_isHome_2 (by decide) ?_
  have hPc := hP.sub (ws' := [(h0, .inr (11, [.int th, .int 1, .int 0, .int 1, .ref rq, .ref sbq])), (rq, .inl (ci, 119, .inl (RW xh xr xt xw)))]) [0, 1] rfl
  have hDc := hD.sub (ws' := [(h0, .inr (11, [.int th, .int 1, .int 0, .int 1, .ref rq, .ref sbq])), (rq, .inl (ci, 119, .inl (RW xh xr xt xw)))]) [0, 1] (by decide) rfl
  have hKc := hK.sub (tys' := [(ci, .int)]) [0] rfl
  have hFc := va_free (wc := [(h0, .inr (11, [.int th, .int 1, .int 0, .int 1, .ref rq, .ref sbq])), (rq, .inl (ci, 119, .inl (RW xh xr xt xw)))]) hD hS hA [0, 1] rfl
  refine va_calli (va_runV (As := [.int 0, .int 2]) (rest := []) ⟨hx, hb, hml, hown, hts⟩ (c_gu_2 l hl9 dC dI tE h0 rq sbq th ci xh xr xt xw _ ) (cwV 2 hts (goodIn_app (goodIn_r _ [3, 4, 5, 6] (by rfl) (by decide +kernel)) gg_c_isHome_c_gu_2) rfl rfl rfl (by decide +kernel) ⟨Nat.le_of_ble_eq_true rfl, Nat.le_of_ble_eq_true rfl⟩) ⟨Pre0.blind, va_recv hKc hPc (ci := 11) (q0 := 0) rfl rfl, Pre0.give hPc hKc hDc hT hS hFc⟩ rfl rfl hl.1 rfl (lv_room (Nat.le_of_ble_eq_true rfl)) dX6_isHome_3 ⟨Nat.le_of_ble_eq_true rfl, Nat.le_of_ble_eq_true rfl⟩) hS (fun q _ h => hFc q h) hFc (fun r_1 u t H1 locs ht hvm hw hB hz1 hk1 hS => ?_)
  obtain ⟨hP1, hK1, hD1⟩ := hB
  rw [ht] at hP1
  have hK1 := va_K.moved hvm.symm hK1
  obtain ⟨hP, hD⟩ := va_join (wr := []) (w1 := [(h0, .inr (11, [.int th, .int 1, .int 0, .int 1, .ref rq, .ref sbq])), (rq, .inl (ci, 119, .inl (RW xh xr xt xw)))]) hP hD [0, 1] [] rfl rfl (by decide) (by decide) hk1 hFc hP1 hD1
  generalize H1 = H at hP hS ⊢
  have hP : va_P (dC, dI) vwCl [(h0, .inr (11, [.int th, .int 1, .int 0, .int 1, .ref rq, .ref sbq])), (rq, .inl (ci, 119, .inl (RW xh xr xt xw)))] H := hP
  have hD : va_D A [(h0, .inr (11, [.int th, .int 1, .int 0, .int 1, .ref rq, .ref sbq])), (rq, .inl (ci, 119, .inl (RW xh xr xt xw)))] := hD
  refine W.widen (k := 0) (n := 0) (by omega) (by omega) ?_
  obtain rfl : r_1 = (-1) := hw
  refine lv_iconst (v := (-1)) hx hb dX6_isHome_6 (by decide) ?_
  refine lv_icmp_ne (tgt := 44) hx hb dX6_isHome_7 (by decide) (fun c_2 => absurd (by decide) c_2) (fun _ => ?_)
  refine lv_aload_n hx hb dX6_isHome_10 rfl (lv_at hl 0 rfl) ?_
  refine lv_iload_n hx hb dX6_isHome_11 rfl (lv_at hl 1 rfl) ?_
  refine lv_iconst (v := 0) hx hb dX6_isHome_12 (by decide) ?_
  have hPc := hP.sub (ws' := [(h0, .inr (11, [.int th, .int 1, .int 0, .int 1, .ref rq, .ref sbq])), (rq, .inl (ci, 119, .inl (RW xh xr xt xw)))]) [0, 1] rfl
  have hDc := hD.sub (ws' := [(h0, .inr (11, [.int th, .int 1, .int 0, .int 1, .ref rq, .ref sbq])), (rq, .inl (ci, 119, .inl (RW xh xr xt xw)))]) [0, 1] (by decide) rfl
  have hKc := hK.sub (tys' := [(ci, .int)]) [0] rfl
  have hFc := va_free (wc := [(h0, .inr (11, [.int th, .int 1, .int 0, .int 1, .ref rq, .ref sbq])), (rq, .inl (ci, 119, .inl (RW xh xr xt xw)))]) hD hS hA [0, 1] rfl
  refine va_calli (va_runV (As := [.int 0, .int 0]) (rest := []) ⟨hx, hb, hml, hown, hts⟩ (c_gu_0 l hl9 dC dI tE h0 rq sbq th ci xh xr xt xw _ ) (cwV 2 hts (goodIn_app (goodIn_r _ [3, 4, 5, 6] (by rfl) (by decide +kernel)) gg_c_isHome_c_gu_0) rfl rfl rfl (by decide +kernel) ⟨Nat.le_of_ble_eq_true rfl, Nat.le_of_ble_eq_true rfl⟩) ⟨Pre0.blind, va_recv hKc hPc (ci := 11) (q0 := 0) rfl rfl, Pre0.give hPc hKc hDc hT hS hFc⟩ rfl rfl hl.1 rfl (lv_room (Nat.le_of_ble_eq_true rfl)) dX6_isHome_13 ⟨Nat.le_of_ble_eq_true rfl, Nat.le_of_ble_eq_true rfl⟩) hS (fun q _ h => hFc q h) hFc (fun r_3 u t H1 locs ht hvm hw hB hz1 hk1 hS => ?_)
  obtain ⟨hP1, hK1, hD1⟩ := hB
  rw [ht] at hP1
  have hK1 := va_K.moved hvm.symm hK1
  obtain ⟨hP, hD⟩ := va_join (wr := []) (w1 := [(h0, .inr (11, [.int th, .int 1, .int 0, .int 1, .ref rq, .ref sbq])), (rq, .inl (ci, 119, .inl (RW xh xr xt xw)))]) hP hD [0, 1] [] rfl rfl (by decide) (by decide) hk1 hFc hP1 hD1
  generalize H1 = H at hP hS ⊢
  have hP : va_P (dC, dI) vwCl [(h0, .inr (11, [.int th, .int 1, .int 0, .int 1, .ref rq, .ref sbq])), (rq, .inl (ci, 119, .inl (RW xh xr xt xw)))] H := hP
  have hD : va_D A [(h0, .inr (11, [.int th, .int 1, .int 0, .int 1, .ref rq, .ref sbq])), (rq, .inl (ci, 119, .inl (RW xh xr xt xw)))] := hD
  refine W.widen (k := 0) (n := 0) (by omega) (by omega) ?_
  obtain rfl : r_3 = 0 := hw
  refine lv_aload_n hx hb dX6_isHome_16 rfl (lv_at hl 0 rfl) ?_
  refine lv_iload_n hx hb dX6_isHome_17 rfl (lv_at hl 1 rfl) ?_
  refine lv_iconst (v := 3) hx hb dX6_isHome_18 (by decide) ?_
  have hPc := hP.sub (ws' := [(h0, .inr (11, [.int th, .int 1, .int 0, .int 1, .ref rq, .ref sbq])), (rq, .inl (ci, 119, .inl (RW xh xr xt xw)))]) [0, 1] rfl
  have hDc := hD.sub (ws' := [(h0, .inr (11, [.int th, .int 1, .int 0, .int 1, .ref rq, .ref sbq])), (rq, .inl (ci, 119, .inl (RW xh xr xt xw)))]) [0, 1] (by decide) rfl
  have hKc := hK.sub (tys' := [(ci, .int)]) [0] rfl
  have hFc := va_free (wc := [(h0, .inr (11, [.int th, .int 1, .int 0, .int 1, .ref rq, .ref sbq])), (rq, .inl (ci, 119, .inl (RW xh xr xt xw)))]) hD hS hA [0, 1] rfl
  refine va_calli (va_runV (As := [.int 0, .int 3]) (rest := [.int 0]) ⟨hx, hb, hml, hown, hts⟩ (c_gu_3 l hl9 dC dI tE h0 rq sbq th ci xh xr xt xw _ ) (cwV 2 hts (goodIn_app (goodIn_r _ [3, 4, 5, 6] (by rfl) (by decide +kernel)) gg_c_isHome_c_gu_3) rfl rfl rfl (by decide +kernel) ⟨Nat.le_of_ble_eq_true rfl, Nat.le_of_ble_eq_true rfl⟩) ⟨Pre0.blind, va_recv hKc hPc (ci := 11) (q0 := 0) rfl rfl, Pre0.give hPc hKc hDc hT hS hFc⟩ rfl rfl hl.1 rfl (lv_room (Nat.le_of_ble_eq_true rfl)) dX6_isHome_19 ⟨Nat.le_of_ble_eq_true rfl, Nat.le_of_ble_eq_true rfl⟩) hS (fun q _ h => hFc q h) hFc (fun r_4 u t H1 locs ht hvm hw hB hz1 hk1 hS => ?_)
  obtain ⟨hP1, hK1, hD1⟩ := hB
  rw [ht] at hP1
  have hK1 := va_K.moved hvm.symm hK1
  obtain ⟨hP, hD⟩ := va_join (wr := []) (w1 := [(h0, .inr (11, [.int th, .int 1, .int 0, .int 1, .ref rq, .ref sbq])), (rq, .inl (ci, 119, .inl (RW xh xr xt xw)))]) hP hD [0, 1] [] rfl rfl (by decide) (by decide) hk1 hFc hP1 hD1
  generalize H1 = H at hP hS ⊢
  have hP : va_P (dC, dI) vwCl [(h0, .inr (11, [.int th, .int 1, .int 0, .int 1, .ref rq, .ref sbq])), (rq, .inl (ci, 119, .inl (RW xh xr xt xw)))] H := hP
  have hD : va_D A [(h0, .inr (11, [.int th, .int 1, .int 0, .int 1, .ref rq, .ref sbq])), (rq, .inl (ci, 119, .inl (RW xh xr xt xw)))] := hD
  refine W.widen (k := 0) (n := 0) (by omega) (by omega) ?_
  obtain rfl : r_4 = 0 := hw
  refine lv_icmp_ne (tgt := 44) hx hb dX6_isHome_22 (by decide) (fun c_5 => absurd (by decide) c_5) (fun _ => ?_)
  refine lv_aload_n hx hb dX6_isHome_25 rfl (lv_at hl 0 rfl) ?_
  refine lv_iload_n hx hb dX6_isHome_26 rfl (lv_at hl 1 rfl) ?_
  refine lv_iconst (v := 1) hx hb dX6_isHome_27 (by decide) ?_
  have hPc := hP.sub (ws' := [(h0, .inr (11, [.int th, .int 1, .int 0, .int 1, .ref rq, .ref sbq])), (rq, .inl (ci, 119, .inl (RW xh xr xt xw)))]) [0, 1] rfl
  have hDc := hD.sub (ws' := [(h0, .inr (11, [.int th, .int 1, .int 0, .int 1, .ref rq, .ref sbq])), (rq, .inl (ci, 119, .inl (RW xh xr xt xw)))]) [0, 1] (by decide) rfl
  have hKc := hK.sub (tys' := [(ci, .int)]) [0] rfl
  have hFc := va_free (wc := [(h0, .inr (11, [.int th, .int 1, .int 0, .int 1, .ref rq, .ref sbq])), (rq, .inl (ci, 119, .inl (RW xh xr xt xw)))]) hD hS hA [0, 1] rfl
  refine va_calli (va_runV (As := [.int 0, .int 1]) (rest := []) ⟨hx, hb, hml, hown, hts⟩ (c_gu_1 l hl9 dC dI tE h0 rq sbq th ci xh xr xt xw _ ) (cwV 2 hts (goodIn_app (goodIn_r _ [3, 4, 5, 6] (by rfl) (by decide +kernel)) gg_c_isHome_c_gu_1) rfl rfl rfl (by decide +kernel) ⟨Nat.le_of_ble_eq_true rfl, Nat.le_of_ble_eq_true rfl⟩) ⟨Pre0.blind, va_recv hKc hPc (ci := 11) (q0 := 0) rfl rfl, Pre0.give hPc hKc hDc hT hS hFc⟩ rfl rfl hl.1 rfl (lv_room (Nat.le_of_ble_eq_true rfl)) dX6_isHome_28 ⟨Nat.le_of_ble_eq_true rfl, Nat.le_of_ble_eq_true rfl⟩) hS (fun q _ h => hFc q h) hFc (fun r_6 u t H1 locs ht hvm hw hB hz1 hk1 hS => ?_)
  obtain ⟨hP1, hK1, hD1⟩ := hB
  rw [ht] at hP1
  have hK1 := va_K.moved hvm.symm hK1
  obtain ⟨hP, hD⟩ := va_join (wr := []) (w1 := [(h0, .inr (11, [.int th, .int 1, .int 0, .int 1, .ref rq, .ref sbq])), (rq, .inl (ci, 119, .inl (RW xh xr xt xw)))]) hP hD [0, 1] [] rfl rfl (by decide) (by decide) hk1 hFc hP1 hD1
  generalize H1 = H at hP hS ⊢
  have hP : va_P (dC, dI) vwCl [(h0, .inr (11, [.int th, .int 1, .int 0, .int 1, .ref rq, .ref sbq])), (rq, .inl (ci, 119, .inl (RW xh xr xt xw)))] H := hP
  have hD : va_D A [(h0, .inr (11, [.int th, .int 1, .int 0, .int 1, .ref rq, .ref sbq])), (rq, .inl (ci, 119, .inl (RW xh xr xt xw)))] := hD
  refine W.widen (k := 0) (n := 0) (by omega) (by omega) ?_
  obtain rfl : r_6 = 0 := hw
  refine lv_aload_n hx hb dX6_isHome_31 rfl (lv_at hl 0 rfl) ?_
  refine lv_iload_n hx hb dX6_isHome_32 rfl (lv_at hl 1 rfl) ?_
  refine lv_iconst (v := 4) hx hb dX6_isHome_33 (by decide) ?_
  have hPc := hP.sub (ws' := [(h0, .inr (11, [.int th, .int 1, .int 0, .int 1, .ref rq, .ref sbq])), (rq, .inl (ci, 119, .inl (RW xh xr xt xw)))]) [0, 1] rfl
  have hDc := hD.sub (ws' := [(h0, .inr (11, [.int th, .int 1, .int 0, .int 1, .ref rq, .ref sbq])), (rq, .inl (ci, 119, .inl (RW xh xr xt xw)))]) [0, 1] (by decide) rfl
  have hKc := hK.sub (tys' := [(ci, .int)]) [0] rfl
  have hFc := va_free (wc := [(h0, .inr (11, [.int th, .int 1, .int 0, .int 1, .ref rq, .ref sbq])), (rq, .inl (ci, 119, .inl (RW xh xr xt xw)))]) hD hS hA [0, 1] rfl
  refine va_calli (va_runV (As := [.int 0, .int 4]) (rest := [.int 0]) ⟨hx, hb, hml, hown, hts⟩ (c_gu_4 l hl9 dC dI tE h0 rq sbq th ci xh xr xt xw _ ) (cwV 2 hts (goodIn_app (goodIn_r _ [3, 4, 5, 6] (by rfl) (by decide +kernel)) gg_c_isHome_c_gu_4) rfl rfl rfl (by decide +kernel) ⟨Nat.le_of_ble_eq_true rfl, Nat.le_of_ble_eq_true rfl⟩) ⟨Pre0.blind, va_recv hKc hPc (ci := 11) (q0 := 0) rfl rfl, Pre0.give hPc hKc hDc hT hS hFc⟩ rfl rfl hl.1 rfl (lv_room (Nat.le_of_ble_eq_true rfl)) dX6_isHome_34 ⟨Nat.le_of_ble_eq_true rfl, Nat.le_of_ble_eq_true rfl⟩) hS (fun q _ h => hFc q h) hFc (fun r_7 u t H1 locs ht hvm hw hB hz1 hk1 hS => ?_)
  obtain ⟨hP1, hK1, hD1⟩ := hB
  rw [ht] at hP1
  have hK1 := va_K.moved hvm.symm hK1
  obtain ⟨hP, hD⟩ := va_join (wr := []) (w1 := [(h0, .inr (11, [.int th, .int 1, .int 0, .int 1, .ref rq, .ref sbq])), (rq, .inl (ci, 119, .inl (RW xh xr xt xw)))]) hP hD [0, 1] [] rfl rfl (by decide) (by decide) hk1 hFc hP1 hD1
  generalize H1 = H at hP hS ⊢
  have hP : va_P (dC, dI) vwCl [(h0, .inr (11, [.int th, .int 1, .int 0, .int 1, .ref rq, .ref sbq])), (rq, .inl (ci, 119, .inl (RW xh xr xt xw)))] H := hP
  have hD : va_D A [(h0, .inr (11, [.int th, .int 1, .int 0, .int 1, .ref rq, .ref sbq])), (rq, .inl (ci, 119, .inl (RW xh xr xt xw)))] := hD
  refine W.widen (k := 0) (n := 0) (by omega) (by omega) ?_
  obtain rfl : r_7 = 1 := hw
  refine lv_icmp_ne (tgt := 44) hx hb dX6_isHome_37 (by decide) (fun _ => ?_) (fun c_8 => absurd c_8 (by decide))
  refine lv_iconst (v := 0) hx hb dX6_isHome_44 (by decide) ?_
  have hP9 := hP.sub (ws' := [(h0, .inr (11, [.int th, .int 1, .int 0, .int 1, .ref rq, .ref sbq])), (rq, .inl (ci, 119, .inl (RW xh xr xt xw)))]) [0, 1] rfl
  have hD9 := hD.sub (ws' := [(h0, .inr (11, [.int th, .int 1, .int 0, .int 1, .ref rq, .ref sbq])), (rq, .inl (ci, 119, .inl (RW xh xr xt xw)))]) [0, 1] (by decide) rfl
  have hK9 := hK.sub (tys' := [(ci, .int)]) [0] rfl
  exact W.zret (v := 0) hx hb hr (by decide) (fun t ht hW => ⟨⟨0, (), rfl, rfl, by rw [ht]; exact hP9, va_K.moved hW.alike hK9, hD9⟩, hS.F ht⟩) hS.2.2 dX6_isHome_45
