theorem dX0_init_0 : decode cX0_init 0 = .ok (.aload_n 0, 1) := by decide +kernel
theorem dX0_init_1 : decode cX0_init 1 = .ok (.invokespecial 1, 3) := by decide +kernel
theorem dX0_init_12 : decode cX0_init 12 = .ok (.putfield 10, 3) := by decide +kernel
theorem dX0_init_15 : decode cX0_init 15 = .ok (.aload_n 0, 1) := by decide +kernel
theorem dX0_init_16 : decode cX0_init 16 = .ok (.new 16, 3) := by decide +kernel
theorem dX0_init_19 : decode cX0_init 19 = .ok (.dup, 1) := by decide +kernel
theorem dX0_init_20 : decode cX0_init 20 = .ok (.iconst 0, 1) := by decide +kernel
theorem dX0_init_21 : decode cX0_init 21 = .ok (.iconst 0, 1) := by decide +kernel
theorem dX0_init_22 : decode cX0_init 22 = .ok (.invokespecial 18, 3) := by decide +kernel
theorem dX0_init_25 : decode cX0_init 25 = .ok (.putfield 21, 3) := by decide +kernel
theorem dX0_init_28 : decode cX0_init 28 = .ok (.aload_n 0, 1) := by decide +kernel
theorem dX0_init_29 : decode cX0_init 29 = .ok (.aload_n 1, 1) := by decide +kernel
theorem dX0_init_30 : decode cX0_init 30 = .ok (.putfield 25, 3) := by decide +kernel
theorem dX0_init_33 : decode cX0_init 33 = .ok (.return_, 1) := by decide +kernel
theorem dX0_init_4 : decode cX0_init 4 = .ok (.aload_n 0, 1) := by decide +kernel
theorem dX0_init_5 : decode cX0_init 5 = .ok (.new 7, 3) := by decide +kernel
theorem dX0_init_8 : decode cX0_init 8 = .ok (.dup, 1) := by decide +kernel
theorem dX0_init_9 : decode cX0_init 9 = .ok (.invokespecial 9, 3) := by decide +kernel
theorem dX2_init_0 : decode cX2_init 0 = .ok (.aload_n 0, 1) := by decide +kernel
theorem dX2_init_1 : decode cX2_init 1 = .ok (.invokespecial 3, 3) := by decide +kernel
theorem dX2_init_10 : decode cX2_init 10 = .ok (.iload_n 1, 1) := by decide +kernel
theorem dX2_init_11 : decode cX2_init 11 = .ok (.putfield 15, 3) := by decide +kernel
theorem dX2_init_14 : decode cX2_init 14 = .ok (.aload_n 0, 1) := by decide +kernel
theorem dX2_init_15 : decode cX2_init 15 = .ok (.iload_n 2, 1) := by decide +kernel
theorem dX2_init_16 : decode cX2_init 16 = .ok (.putfield 18, 3) := by decide +kernel
theorem dX2_init_19 : decode cX2_init 19 = .ok (.aload_n 0, 1) := by decide +kernel
theorem dX2_init_20 : decode cX2_init 20 = .ok (.iload_n 1, 1) := by decide +kernel
theorem dX2_init_21 : decode cX2_init 21 = .ok (.putfield 21, 3) := by decide +kernel
theorem dX2_init_24 : decode cX2_init 24 = .ok (.aload_n 0, 1) := by decide +kernel
theorem dX2_init_25 : decode cX2_init 25 = .ok (.iload_n 2, 1) := by decide +kernel
theorem dX2_init_26 : decode cX2_init 26 = .ok (.putfield 24, 3) := by decide +kernel
theorem dX2_init_29 : decode cX2_init 29 = .ok (.return_, 1) := by decide +kernel
theorem dX2_init_4 : decode cX2_init 4 = .ok (.aload_n 0, 1) := by decide +kernel
theorem dX2_init_5 : decode cX2_init 5 = .ok (.iconst (-1), 1) := by decide +kernel
theorem dX2_init_6 : decode cX2_init 6 = .ok (.putfield 9, 3) := by decide +kernel
theorem dX2_init_9 : decode cX2_init 9 = .ok (.aload_n 0, 1) := by decide +kernel
theorem dX3_init_0 : decode cX3_init 0 = .ok (.aload_n 0, 1) := by decide +kernel
theorem dX3_init_1 : decode cX3_init 1 = .ok (.invokespecial 3, 3) := by decide +kernel
theorem dX3_init_12 : decode cX3_init 12 = .ok (.aload_n 0, 1) := by decide +kernel
theorem dX3_init_13 : decode cX3_init 13 = .ok (.iconst 4, 1) := by decide +kernel
theorem dX3_init_14 : decode cX3_init 14 = .ok (.newarray .int, 2) := by decide +kernel
theorem dX3_init_16 : decode cX3_init 16 = .ok (.putfield 15, 3) := by decide +kernel
theorem dX3_init_19 : decode cX3_init 19 = .ok (.aload_n 0, 1) := by decide +kernel
theorem dX3_init_20 : decode cX3_init 20 = .ok (.iconst 4, 1) := by decide +kernel
theorem dX3_init_21 : decode cX3_init 21 = .ok (.newarray .boolean, 2) := by decide +kernel
theorem dX3_init_23 : decode cX3_init 23 = .ok (.putfield 18, 3) := by decide +kernel
theorem dX3_init_26 : decode cX3_init 26 = .ok (.return_, 1) := by decide +kernel
theorem dX3_init_4 : decode cX3_init 4 = .ok (.aload_n 0, 1) := by decide +kernel
theorem dX3_init_5 : decode cX3_init 5 = .ok (.bipush 6, 2) := by decide +kernel
theorem dX3_init_7 : decode cX3_init 7 = .ok (.newarray .int, 2) := by decide +kernel
theorem dX3_init_9 : decode cX3_init 9 = .ok (.putfield 9, 3) := by decide +kernel
theorem dX5_init_0 : decode cX5_init 0 = .ok (.aload_n 0, 1) := by decide +kernel
theorem dX5_init_1 : decode cX5_init 1 = .ok (.invokespecial 1, 3) := by decide +kernel
theorem dX5_init_12 : decode cX5_init 12 = .ok (.putfield 10, 3) := by decide +kernel
theorem dX5_init_15 : decode cX5_init 15 = .ok (.aload_n 0, 1) := by decide +kernel
theorem dX5_init_16 : decode cX5_init 16 = .ok (.new 7, 3) := by decide +kernel
theorem dX5_init_19 : decode cX5_init 19 = .ok (.dup, 1) := by decide +kernel
theorem dX5_init_20 : decode cX5_init 20 = .ok (.invokespecial 9, 3) := by decide +kernel
theorem dX5_init_23 : decode cX5_init 23 = .ok (.putfield 16, 3) := by decide +kernel
theorem dX5_init_26 : decode cX5_init 26 = .ok (.aload_n 0, 1) := by decide +kernel
theorem dX5_init_27 : decode cX5_init 27 = .ok (.new 7, 3) := by decide +kernel
theorem dX5_init_30 : decode cX5_init 30 = .ok (.dup, 1) := by decide +kernel
theorem dX5_init_31 : decode cX5_init 31 = .ok (.invokespecial 9, 3) := by decide +kernel
theorem dX5_init_34 : decode cX5_init 34 = .ok (.putfield 19, 3) := by decide +kernel
theorem dX5_init_37 : decode cX5_init 37 = .ok (.aload_n 0, 1) := by decide +kernel
theorem dX5_init_38 : decode cX5_init 38 = .ok (.new 22, 3) := by decide +kernel
theorem dX5_init_4 : decode cX5_init 4 = .ok (.aload_n 0, 1) := by decide +kernel
theorem dX5_init_41 : decode cX5_init 41 = .ok (.dup, 1) := by decide +kernel
theorem dX5_init_42 : decode cX5_init 42 = .ok (.invokespecial 24, 3) := by decide +kernel
theorem dX5_init_45 : decode cX5_init 45 = .ok (.putfield 25, 3) := by decide +kernel
theorem dX5_init_48 : decode cX5_init 48 = .ok (.aload_n 0, 1) := by decide +kernel
theorem dX5_init_49 : decode cX5_init 49 = .ok (.sipush 512, 3) := by decide +kernel
theorem dX5_init_5 : decode cX5_init 5 = .ok (.new 7, 3) := by decide +kernel
theorem dX5_init_52 : decode cX5_init 52 = .ok (.newarray .byte, 2) := by decide +kernel
theorem dX5_init_54 : decode cX5_init 54 = .ok (.putfield 29, 3) := by decide +kernel
theorem dX5_init_57 : decode cX5_init 57 = .ok (.aconst_null, 1) := by decide +kernel
theorem dX5_init_58 : decode cX5_init 58 = .ok (.astore_n 1, 1) := by decide +kernel
theorem dX5_init_59 : decode cX5_init 59 = .ok (.iconst 0, 1) := by decide +kernel
theorem dX5_init_60 : decode cX5_init 60 = .ok (.istore_n 2, 1) := by decide +kernel
theorem dX5_init_61 : decode cX5_init 61 = .ok (.iload_n 2, 1) := by decide +kernel
theorem dX5_init_62 : decode cX5_init 62 = .ok (.iconst 5, 1) := by decide +kernel
theorem dX5_init_63 : decode cX5_init 63 = .ok (.if_icmp .ge 18, 3) := by decide +kernel
theorem dX5_init_66 : decode cX5_init 66 = .ok (.new 33, 3) := by decide +kernel
theorem dX5_init_69 : decode cX5_init 69 = .ok (.dup, 1) := by decide +kernel
theorem dX5_init_70 : decode cX5_init 70 = .ok (.aload_n 1, 1) := by decide +kernel
theorem dX5_init_71 : decode cX5_init 71 = .ok (.invokespecial 35, 3) := by decide +kernel
theorem dX5_init_74 : decode cX5_init 74 = .ok (.astore_n 1, 1) := by decide +kernel
theorem dX5_init_75 : decode cX5_init 75 = .ok (.iinc 2 1, 3) := by decide +kernel
theorem dX5_init_78 : decode cX5_init 78 = .ok (.goto (-17), 3) := by decide +kernel
theorem dX5_init_8 : decode cX5_init 8 = .ok (.dup, 1) := by decide +kernel
theorem dX5_init_81 : decode cX5_init 81 = .ok (.aload_n 0, 1) := by decide +kernel
theorem dX5_init_82 : decode cX5_init 82 = .ok (.new 33, 3) := by decide +kernel
theorem dX5_init_85 : decode cX5_init 85 = .ok (.dup, 1) := by decide +kernel
theorem dX5_init_86 : decode cX5_init 86 = .ok (.aload_n 1, 1) := by decide +kernel
theorem dX5_init_87 : decode cX5_init 87 = .ok (.invokespecial 35, 3) := by decide +kernel
theorem dX5_init_9 : decode cX5_init 9 = .ok (.invokespecial 9, 3) := by decide +kernel
theorem dX5_init_90 : decode cX5_init 90 = .ok (.putfield 38, 3) := by decide +kernel
theorem dX5_init_93 : decode cX5_init 93 = .ok (.return_, 1) := by decide +kernel
def v_c_Guest_init : List Cond := .code yX2_init cX2_init 3 none :: ([Cond.methodLink RX2 3 objectInit, Cond.instanceMethod objectInit, Cond.code objectInit ⟨#[0xb1]⟩ 1 none, Cond.fieldLink RX2 9 "HotelOfBells$Guest" "inLift" "I", Cond.fieldLink RX2 15 "HotelOfBells$Guest" "onFloor" "I", Cond.fieldLink RX2 18 "HotelOfBells$Guest" "inRoom" "I", Cond.fieldLink RX2 21 "HotelOfBells$Guest" "wantedFloor" "I", Cond.fieldLink RX2 24 "HotelOfBells$Guest" "wantedRoom" "I"] ++ (wsX20 ++ []))
theorem u_c_Guest_init_X2 : ∀ w ∈ wsX20, w ∈ v_c_Guest_init := fun _ h => List.mem_cons_of_mem _ (List.mem_append_right _ (List.mem_append_left _ h))
set_option maxHeartbeats 4000000 in
set_option maxRecDepth 100000 in
theorem c_Guest_init (l : Launch) (hl9 : l.stackTraces = false) (dC : Nat → ClassId) (dI : Nat → Nat → Nat) (tE : Nat) (h0 : Nat) (sz : Nat) : Met l yX2_init v_c_Guest_init ({ frames := 1, cells := 0, slots := 0, locals := 12 }) (va_Pc [.ref h0, .int 0, .int 0] (Pre0 dC dI tE sz [] [(h0, .inr (7, [.int 0, .int 0, .int 0, .int 0, .int 0, .int 0]))])) (va_Qv (fun (_ : Unit) => True) (fun _ t => Pst dC dI [] (va_A [(h0, .inr (7, [.int 0, .int 0, .int 0, .int 0, .int 0, .int 0]))] sz) [(h0, .inr (7, [.int 0, .int 0, .int (-1), .int 0, .int 0, .int 0]))] t) (va_A [(h0, .inr (7, [.int 0, .int 0, .int 0, .int 0, .int 0, .int 0]))] sz)) 0 0 (va_A [(h0, .inr (7, [.int 0, .int 0, .int 0, .int 0, .int 0, .int 0]))] sz) := by
  refine Met.ofW (cc := cX2_init) (maxL := 3) (ret := none) (by decide) rfl ?_
  intro p e s m args below meth c s₁ B hml hv
  obtain ⟨rfl, hsz, hP, hK, hD0, hT⟩ := hv
  have hx := B.exec
  have hb := B.bytes
  have hr := B.returns
  have hts := atoms_spec (ws := v_c_Guest_init) B.pre
  have hown : s.vm.findClass RX2 = some m.cls := findClass_of_methodNamed B.named
  have hlocks := B.notSynchronized
  have hin : meth.name = "<init>" := (name_of_methodNamed B.named B.method).1
  subst hsz
  have hD := hD0.self (sz := s.heap.size)
  generalize hAe : va_A [(h0, .inr (7, [.int 0, .int 0, .int 0, .int 0, .int 0, .int 0]))] s.heap.size = A at hD hT ⊢
  have hA : ∀ q : Nat, s.heap.size ≤ q → A q := fun q h => by rw [← hAe]; exact Or.inr h
  have hS : va_S A s.heap s.heap [] := va_S.rf
  have hl := lv_entry ([.ref h0, .int 0, .int 0]) (n := 3) (Nat.le_of_ble_eq_true rfl)
  rw [lg_entry_eq]
  generalize (lg_sl ([.ref h0, .int 0, .int 0]) ++ List.replicate (3 - (lg_sl ([.ref h0, .int 0, .int 0])).length) Slot.unset).toArray = ls at hl ⊢
  have hl : lv_has ls 3 [(0, .ref h0), (1, .int 0), (2, .int 0)] := hl
  refine lv_aload_n hx hb dX2_init_0 rfl (lv_at hl 0 rfl) ?_
  refine W.objInit hx hb hown (hts (.methodLink RX2 3 objectInit) (List.mem_of_getElem? (i := 1) rfl)) (hts (.instanceMethod objectInit) (List.mem_of_getElem? (i := 2) rfl)) (hts (.code objectInit ⟨#[0xb1]⟩ 1 none) (List.mem_of_getElem? (i := 3) rfl)) rfl (by rw [hml]; exact hl.1) rfl dX2_init_1 (Nat.le_of_ble_eq_true rfl) (Nat.le_of_ble_eq_true rfl) ?_
  refine W.eq (g2 := F0 m 4 ls []) rfl ?_
  refine lv_aload_n hx hb dX2_init_4 rfl (lv_at hl 0 rfl) ?_
  refine lv_iconst (v := (-1)) hx hb dX2_init_5 (by decide) ?_
  refine va_put (D := (dC, dI)) (ci := 7) (v := .int (-1)) (ty := .int) (C := RX2) (T := TX2) (N := 6) hx hb hts u_c_Guest_init_X2 tyX2 tyX2_ok nmX2 hown hK hP hD hS 0 rfl rfl 2 (by decide) (hts (.fieldLink RX2 9 "HotelOfBells$Guest" "inLift" "I") (List.mem_of_getElem? (i := 4) rfl)) (fun _ h9 => h9) rfl (by decide +kernel) rfl rfl (Nat.le_of_ble_eq_true rfl) dX2_init_6 (fun H locs hP hD hS => ?_)
  have hP : va_P (dC, dI) vwCl [(h0, .inr (7, [.int 0, .int 0, .int (-1), .int 0, .int 0, .int 0]))] H := hP
  have hD : va_D A [(h0, .inr (7, [.int 0, .int 0, .int (-1), .int 0, .int 0, .int 0]))] := hD
  refine lv_aload_n hx hb dX2_init_9 rfl (lv_at hl 0 rfl) ?_
  refine lv_iload_n hx hb dX2_init_10 rfl (lv_at hl 1 rfl) ?_
  refine va_put (D := (dC, dI)) (ci := 7) (v := .int 0) (ty := .int) (C := RX2) (T := TX2) (N := 6) hx hb hts u_c_Guest_init_X2 tyX2 tyX2_ok nmX2 hown hK hP hD hS 0 rfl rfl 0 (by decide) (hts (.fieldLink RX2 15 "HotelOfBells$Guest" "onFloor" "I") (List.mem_of_getElem? (i := 5) rfl)) (fun _ h9 => h9) rfl (by decide +kernel) rfl rfl (Nat.le_of_ble_eq_true rfl) dX2_init_11 (fun H locs hP hD hS => ?_)
  have hP : va_P (dC, dI) vwCl [(h0, .inr (7, [.int 0, .int 0, .int (-1), .int 0, .int 0, .int 0]))] H := hP
  have hD : va_D A [(h0, .inr (7, [.int 0, .int 0, .int (-1), .int 0, .int 0, .int 0]))] := hD
  refine lv_aload_n hx hb dX2_init_14 rfl (lv_at hl 0 rfl) ?_
  refine lv_iload_n hx hb dX2_init_15 rfl (lv_at hl 2 rfl) ?_
  refine va_put (D := (dC, dI)) (ci := 7) (v := .int 0) (ty := .int) (C := RX2) (T := TX2) (N := 6) hx hb hts u_c_Guest_init_X2 tyX2 tyX2_ok nmX2 hown hK hP hD hS 0 rfl rfl 1 (by decide) (hts (.fieldLink RX2 18 "HotelOfBells$Guest" "inRoom" "I") (List.mem_of_getElem? (i := 6) rfl)) (fun _ h9 => h9) rfl (by decide +kernel) rfl rfl (Nat.le_of_ble_eq_true rfl) dX2_init_16 (fun H locs hP hD hS => ?_)
  have hP : va_P (dC, dI) vwCl [(h0, .inr (7, [.int 0, .int 0, .int (-1), .int 0, .int 0, .int 0]))] H := hP
  have hD : va_D A [(h0, .inr (7, [.int 0, .int 0, .int (-1), .int 0, .int 0, .int 0]))] := hD
  refine lv_aload_n hx hb dX2_init_19 rfl (lv_at hl 0 rfl) ?_
  refine lv_iload_n hx hb dX2_init_20 rfl (lv_at hl 1 rfl) ?_
  refine va_put (D := (dC, dI)) (ci := 7) (v := .int 0) (ty := .int) (C := RX2) (T := TX2) (N := 6) hx hb hts u_c_Guest_init_X2 tyX2 tyX2_ok nmX2 hown hK hP hD hS 0 rfl rfl 3 (by decide) (hts (.fieldLink RX2 21 "HotelOfBells$Guest" "wantedFloor" "I") (List.mem_of_getElem? (i := 7) rfl)) (fun _ h9 => h9) rfl (by decide +kernel) rfl rfl (Nat.le_of_ble_eq_true rfl) dX2_init_21 (fun H locs hP hD hS => ?_)
  have hP : va_P (dC, dI) vwCl [(h0, .inr (7, [.int 0, .int 0, .int (-1), .int 0, .int 0, .int 0]))] H := hP
  have hD : va_D A [(h0, .inr (7, [.int 0, .int 0, .int (-1), .int 0, .int 0, .int 0]))] := hD
  refine lv_aload_n hx hb dX2_init_24 rfl (lv_at hl 0 rfl) ?_
  refine lv_iload_n hx hb dX2_init_25 rfl (lv_at hl 2 rfl) ?_
  refine va_put (D := (dC, dI)) (ci := 7) (v := .int 0) (ty := .int) (C := RX2) (T := TX2) (N := 6) hx hb hts u_c_Guest_init_X2 tyX2 tyX2_ok nmX2 hown hK hP hD hS 0 rfl rfl 4 (by decide) (hts (.fieldLink RX2 24 "HotelOfBells$Guest" "wantedRoom" "I") (List.mem_of_getElem? (i := 8) rfl)) (fun _ h9 => h9) rfl (by decide +kernel) rfl rfl (Nat.le_of_ble_eq_true rfl) dX2_init_26 (fun H locs hP hD hS => ?_)
  have hP : va_P (dC, dI) vwCl [(h0, .inr (7, [.int 0, .int 0, .int (-1), .int 0, .int 0, .int 0]))] H := hP
  have hD : va_D A [(h0, .inr (7, [.int 0, .int 0, .int (-1), .int 0, .int 0, .int 0]))] := hD
  have hP9 := hP.sub (ws' := [(h0, .inr (7, [.int 0, .int 0, .int (-1), .int 0, .int 0, .int 0]))]) [0] rfl
  have hD9 := hD.sub (ws' := [(h0, .inr (7, [.int 0, .int 0, .int (-1), .int 0, .int 0, .int 0]))]) [0] (by decide) rfl
  have hK9 := hK.sub (tys' := []) [] rfl
  exact W.vret hx hb hr (fun t ht hW => ⟨⟨(), rfl, trivial, by rw [ht]; exact hP9, va_K.moved hW.alike hK9, hD9⟩, hS.F ht⟩) hS.2.2 dX2_init_29
def v_c_Moment_init : List Cond := .code yX3_init cX3_init 1 none :: ([Cond.methodLink RX3 3 objectInit, Cond.instanceMethod objectInit, Cond.code objectInit ⟨#[0xb1]⟩ 1 none, Cond.arrayClass .int, Cond.fieldLink RX3 9 "HotelOfBells$Moment" "turns" "[I", Cond.fieldLink RX3 15 "HotelOfBells$Moment" "heights" "[I", Cond.arrayClass .boolean, Cond.fieldLink RX3 18 "HotelOfBells$Moment" "falling" "[Z"] ++ (wsX30 ++ []))
theorem u_c_Moment_init_X3 : ∀ w ∈ wsX30, w ∈ v_c_Moment_init := fun _ h => List.mem_cons_of_mem _ (List.mem_append_right _ (List.mem_append_left _ h))
set_option maxHeartbeats 4000000 in
set_option maxRecDepth 100000 in
theorem c_Moment_init (l : Launch) (hl9 : l.stackTraces = false) (dC : Nat → ClassId) (dI : Nat → Nat → Nat) (tE : Nat) (h0 : Nat) (sz : Nat) : Met l yX3_init v_c_Moment_init ({ frames := 1, cells := 3, slots := 14, locals := 12 }) (va_Pc [.ref h0] (Pre0 dC dI tE sz [] [(h0, .inr (8, [.int 0, .null, .null, .null]))])) (va_Qv (fun (_ : Unit) => True) (fun _ t => ∃ (qx0 : Nat), ∃ (qx1 : Nat), ∃ (qx2 : Nat), ∃ (cx0 : ClassId), ∃ (cx1 : ClassId), ∃ (cx2 : ClassId), Pst dC dI [(cx0, .int), (cx1, .int), (cx2, .boolean)] (va_A [(h0, .inr (8, [.int 0, .null, .null, .null]))] sz) [(h0, .inr (8, [.int 0, .ref qx0, .ref qx1, .ref qx2])), (qx0, .inl (cx0, 6, .inl (fun _ => 0))), (qx1, .inl (cx1, 4, .inl (fun _ => 0))), (qx2, .inl (cx2, 4, .inl (fun _ => 0)))] t) (va_A [(h0, .inr (8, [.int 0, .null, .null, .null]))] sz)) 3 14 (va_A [(h0, .inr (8, [.int 0, .null, .null, .null]))] sz) := by
  refine Met.ofW (cc := cX3_init) (maxL := 1) (ret := none) (by decide) rfl ?_
  intro p e s m args below meth c s₁ B hml hv
  obtain ⟨rfl, hsz, hP, hK, hD0, hT⟩ := hv
  have hx := B.exec
  have hb := B.bytes
  have hr := B.returns
  have hts := atoms_spec (ws := v_c_Moment_init) B.pre
  have hown : s.vm.findClass RX3 = some m.cls := findClass_of_methodNamed B.named
  have hlocks := B.notSynchronized
  have hin : meth.name = "<init>" := (name_of_methodNamed B.named B.method).1
  subst hsz
  have hD := hD0.self (sz := s.heap.size)
  generalize hAe : va_A [(h0, .inr (8, [.int 0, .null, .null, .null]))] s.heap.size = A at hD hT ⊢
  have hA : ∀ q : Nat, s.heap.size ≤ q → A q := fun q h => by rw [← hAe]; exact Or.inr h
  have hS : va_S A s.heap s.heap [] := va_S.rf
  have hl := lv_entry ([.ref h0]) (n := 1) (Nat.le_of_ble_eq_true rfl)
  rw [lg_entry_eq]
  generalize (lg_sl ([.ref h0]) ++ List.replicate (1 - (lg_sl ([.ref h0])).length) Slot.unset).toArray = ls at hl ⊢
  have hl : lv_has ls 1 [(0, .ref h0)] := hl
  refine lv_aload_n hx hb dX3_init_0 rfl (lv_at hl 0 rfl) ?_
  refine W.objInit hx hb hown (hts (.methodLink RX3 3 objectInit) (List.mem_of_getElem? (i := 1) rfl)) (hts (.instanceMethod objectInit) (List.mem_of_getElem? (i := 2) rfl)) (hts (.code objectInit ⟨#[0xb1]⟩ 1 none) (List.mem_of_getElem? (i := 3) rfl)) rfl (by rw [hml]; exact hl.1) rfl dX3_init_1 (Nat.le_of_ble_eq_true rfl) (Nat.le_of_ble_eq_true rfl) ?_
  refine W.eq (g2 := F0 m 4 ls []) rfl ?_
  refine lv_aload_n hx hb dX3_init_4 rfl (lv_at hl 0 rfl) ?_
  refine lv_bipush (v := 6) hx hb dX3_init_5 (by decide) ?_
  refine va_newa (atype := .int) (ty := .int) (N' := 6) (a0 := (6, .inl (fun _ => 0))) hx hb (hts (.arrayClass .int) (List.mem_of_getElem? (i := 4) rfl)) rfl hK hP hD hS hA (fun _ => rfl) (by decide) (by decide) (Nat.le_of_ble_eq_true rfl) (Nat.le_of_ble_eq_true rfl) (Nat.le_of_ble_eq_true rfl) dX3_init_7 (fun q_1 cA_2 H hK hP hD hS => ?_)
  have hP : va_P (dC, dI) vwCl [(h0, .inr (8, [.int 0, .null, .null, .null])), (q_1, .inl (cA_2, 6, .inl (fun _ => 0)))] H := hP
  have hD : va_D A [(h0, .inr (8, [.int 0, .null, .null, .null])), (q_1, .inl (cA_2, 6, .inl (fun _ => 0)))] := hD
  have hK : va_K (dC, dI) vwCl [(cA_2, .int)] s := hK
  refine W.widen (k := 1) (n := 6) (by omega) (by omega) ?_
  refine va_putF (D := (dC, dI)) (ci := 8) (v := .ref q_1) (ty := .array .int) (C := RX3) (T := TX3) (N := 4) hx hb hts u_c_Moment_init_X3 tyX3 tyX3_ok nmX3 hown hK hP hD hS 0 rfl rfl 1 (by decide) (hts (.fieldLink RX3 9 "HotelOfBells$Moment" "turns" "[I") (List.mem_of_getElem? (i := 5) rfl)) (fun _ h9 => h9) rfl hin rfl (by decide +kernel) rfl rfl (Nat.le_of_ble_eq_true rfl) dX3_init_9 (fun H locs hP hD hS => ?_)
  have hP : va_P (dC, dI) vwCl [(h0, .inr (8, [.int 0, .ref q_1, .null, .null])), (q_1, .inl (cA_2, 6, .inl (fun _ => 0)))] H := hP
  have hD : va_D A [(h0, .inr (8, [.int 0, .ref q_1, .null, .null])), (q_1, .inl (cA_2, 6, .inl (fun _ => 0)))] := hD
  refine lv_aload_n hx hb dX3_init_12 rfl (lv_at hl 0 rfl) ?_
  refine lv_iconst (v := 4) hx hb dX3_init_13 (by decide) ?_
  refine va_newa (atype := .int) (ty := .int) (N' := 4) (a0 := (4, .inl (fun _ => 0))) hx hb (hts (.arrayClass .int) (List.mem_of_getElem? (i := 4) rfl)) rfl hK hP hD hS hA (fun _ => rfl) (by decide) (by decide) (Nat.le_of_ble_eq_true rfl) (Nat.le_of_ble_eq_true rfl) (Nat.le_of_ble_eq_true rfl) dX3_init_14 (fun q_3 cA_4 H hK hP hD hS => ?_)
  have hP : va_P (dC, dI) vwCl [(h0, .inr (8, [.int 0, .ref q_1, .null, .null])), (q_1, .inl (cA_2, 6, .inl (fun _ => 0))), (q_3, .inl (cA_4, 4, .inl (fun _ => 0)))] H := hP
  have hD : va_D A [(h0, .inr (8, [.int 0, .ref q_1, .null, .null])), (q_1, .inl (cA_2, 6, .inl (fun _ => 0))), (q_3, .inl (cA_4, 4, .inl (fun _ => 0)))] := hD
  have hK : va_K (dC, dI) vwCl [(cA_2, .int), (cA_4, .int)] s := hK
  refine W.widen (k := 2) (n := 10) (by omega) (by omega) ?_
  refine va_putF (D := (dC, dI)) (ci := 8) (v := .ref q_3) (ty := .array .int) (C := RX3) (T := TX3) (N := 4) hx hb hts u_c_Moment_init_X3 tyX3 tyX3_ok nmX3 hown hK hP hD hS 0 rfl rfl 2 (by decide) (hts (.fieldLink RX3 15 "HotelOfBells$Moment" "heights" "[I") (List.mem_of_getElem? (i := 6) rfl)) (fun _ h9 => h9) rfl hin rfl (by decide +kernel) rfl rfl (Nat.le_of_ble_eq_true rfl) dX3_init_16 (fun H locs hP hD hS => ?_)
  have hP : va_P (dC, dI) vwCl [(h0, .inr (8, [.int 0, .ref q_1, .ref q_3, .null])), (q_1, .inl (cA_2, 6, .inl (fun _ => 0))), (q_3, .inl (cA_4, 4, .inl (fun _ => 0)))] H := hP
  have hD : va_D A [(h0, .inr (8, [.int 0, .ref q_1, .ref q_3, .null])), (q_1, .inl (cA_2, 6, .inl (fun _ => 0))), (q_3, .inl (cA_4, 4, .inl (fun _ => 0)))] := hD
  refine lv_aload_n hx hb dX3_init_19 rfl (lv_at hl 0 rfl) ?_
  refine lv_iconst (v := 4) hx hb dX3_init_20 (by decide) ?_
  refine va_newa (atype := .boolean) (ty := .boolean) (N' := 4) (a0 := (4, .inl (fun _ => 0))) hx hb (hts (.arrayClass .boolean) (List.mem_of_getElem? (i := 7) rfl)) rfl hK hP hD hS hA (fun _ => rfl) (by decide) (by decide) (Nat.le_of_ble_eq_true rfl) (Nat.le_of_ble_eq_true rfl) (Nat.le_of_ble_eq_true rfl) dX3_init_21 (fun q_5 cA_6 H hK hP hD hS => ?_)
  have hP : va_P (dC, dI) vwCl [(h0, .inr (8, [.int 0, .ref q_1, .ref q_3, .null])), (q_1, .inl (cA_2, 6, .inl (fun _ => 0))), (q_3, .inl (cA_4, 4, .inl (fun _ => 0))), (q_5, .inl (cA_6, 4, .inl (fun _ => 0)))] H := hP
  have hD : va_D A [(h0, .inr (8, [.int 0, .ref q_1, .ref q_3, .null])), (q_1, .inl (cA_2, 6, .inl (fun _ => 0))), (q_3, .inl (cA_4, 4, .inl (fun _ => 0))), (q_5, .inl (cA_6, 4, .inl (fun _ => 0)))] := hD
  have hK : va_K (dC, dI) vwCl [(cA_2, .int), (cA_4, .int), (cA_6, .boolean)] s := hK
  refine W.widen (k := 3) (n := 14) (by omega) (by omega) ?_
  refine va_putF (D := (dC, dI)) (ci := 8) (v := .ref q_5) (ty := .array .boolean) (C := RX3) (T := TX3) (N := 4) hx hb hts u_c_Moment_init_X3 tyX3 tyX3_ok nmX3 hown hK hP hD hS 0 rfl rfl 3 (by decide) (hts (.fieldLink RX3 18 "HotelOfBells$Moment" "falling" "[Z") (List.mem_of_getElem? (i := 8) rfl)) (fun _ h9 => h9) rfl hin rfl (by decide +kernel) rfl rfl (Nat.le_of_ble_eq_true rfl) dX3_init_23 (fun H locs hP hD hS => ?_)
  have hP : va_P (dC, dI) vwCl [(h0, .inr (8, [.int 0, .ref q_1, .ref q_3, .ref q_5])), (q_1, .inl (cA_2, 6, .inl (fun _ => 0))), (q_3, .inl (cA_4, 4, .inl (fun _ => 0))), (q_5, .inl (cA_6, 4, .inl (fun _ => 0)))] H := hP
  have hD : va_D A [(h0, .inr (8, [.int 0, .ref q_1, .ref q_3, .ref q_5])), (q_1, .inl (cA_2, 6, .inl (fun _ => 0))), (q_3, .inl (cA_4, 4, .inl (fun _ => 0))), (q_5, .inl (cA_6, 4, .inl (fun _ => 0)))] := hD
  have hP9 := hP.sub (ws' := [(h0, .inr (8, [.int 0, .ref q_1, .ref q_3, .ref q_5])), (q_1, .inl (cA_2, 6, .inl (fun _ => 0))), (q_3, .inl (cA_4, 4, .inl (fun _ => 0))), (q_5, .inl (cA_6, 4, .inl (fun _ => 0)))]) [0, 1, 2, 3] rfl
  have hD9 := hD.sub (ws' := [(h0, .inr (8, [.int 0, .ref q_1, .ref q_3, .ref q_5])), (q_1, .inl (cA_2, 6, .inl (fun _ => 0))), (q_3, .inl (cA_4, 4, .inl (fun _ => 0))), (q_5, .inl (cA_6, 4, .inl (fun _ => 0)))]) [0, 1, 2, 3] (by decide) rfl
  have hK9 := hK.sub (tys' := [(cA_2, .int), (cA_4, .int), (cA_6, .boolean)]) [0, 1, 2] rfl
  exact W.vret hx hb hr (fun t ht hW => ⟨⟨(), rfl, trivial, q_1, q_3, q_5, cA_2, cA_4, cA_6, by rw [ht]; exact hP9, va_K.moved hW.alike hK9, hD9⟩, hS.F ht⟩) hS.2.2 dX3_init_26
def v_c_Dream_init_n : List Cond := .code yX0_init cX0_init 2 none :: ([Cond.methodLink RX0 1 objectInit, Cond.instanceMethod objectInit, Cond.code objectInit ⟨#[0xb1]⟩ 1 none, Cond.classLink RX0 7 RX3, Cond.instantiable RX3 4, Cond.initialized RX3, Cond.code yX3_init cX3_init 1 none, Cond.methodLink RX3 3 objectInit, Cond.arrayClass .int, Cond.fieldLink RX3 9 "HotelOfBells$Moment" "turns" "[I", Cond.fieldLink RX3 15 "HotelOfBells$Moment" "heights" "[I", Cond.arrayClass .boolean, Cond.fieldLink RX3 18 "HotelOfBells$Moment" "falling" "[Z", Cond.instanceMethod yX3_init, Cond.fieldLink RX0 10 "HotelOfBells$Dream" "moment" "LHotelOfBells$Moment;", Cond.classLink RX0 16 RX2, Cond.instantiable RX2 6, Cond.initialized RX2, Cond.code yX2_init cX2_init 3 none, Cond.methodLink RX2 3 objectInit, Cond.fieldLink RX2 9 "HotelOfBells$Guest" "inLift" "I", Cond.fieldLink RX2 15 "HotelOfBells$Guest" "onFloor" "I", Cond.fieldLink RX2 18 "HotelOfBells$Guest" "inRoom" "I", Cond.fieldLink RX2 21 "HotelOfBells$Guest" "wantedFloor" "I", Cond.fieldLink RX2 24 "HotelOfBells$Guest" "wantedRoom" "I", Cond.methodLink RX0 18 yX2_init, Cond.instanceMethod yX2_init, Cond.fieldLink RX0 21 "HotelOfBells$Dream" "guest" "LHotelOfBells$Guest;", Cond.fieldLink RX0 25 "HotelOfBells$Dream" "deeper" "LHotelOfBells$Dream;"] ++ (wsX30 ++ (wsX00 ++ (wsX20 ++ []))))
theorem u_c_Dream_init_n_X3 : ∀ w ∈ wsX30, w ∈ v_c_Dream_init_n := fun _ h => List.mem_cons_of_mem _ (List.mem_append_right _ (List.mem_append_left _ h))
theorem u_c_Dream_init_n_X0 : ∀ w ∈ wsX00, w ∈ v_c_Dream_init_n := fun _ h => List.mem_cons_of_mem _ (List.mem_append_right _ (List.mem_append_right _ (List.mem_append_left _ h)))
theorem u_c_Dream_init_n_X2 : ∀ w ∈ wsX20, w ∈ v_c_Dream_init_n := fun _ h => List.mem_cons_of_mem _ (List.mem_append_right _ (List.mem_append_right _ (List.mem_append_right _ (List.mem_append_left _ h))))
theorem gg_c_Dream_init_n_c_Moment_init : GoodIn v_c_Dream_init_n v_c_Moment_init := goodIn_r _ [7, 8, 2, 3, 9, 10, 11, 12, 13, 30, 31, 32, 33] (by rfl) (by decide +kernel)
theorem gg_c_Dream_init_n_c_Guest_init : GoodIn v_c_Dream_init_n v_c_Guest_init := goodIn_r _ [19, 20, 2, 3, 21, 22, 23, 24, 25, 37, 38, 39, 40, 41, 42] (by rfl) (by decide +kernel)
set_option maxHeartbeats 4000000 in
set_option maxRecDepth 100000 in
theorem c_Dream_init_n (l : Launch) (hl9 : l.stackTraces = false) (dC : Nat → ClassId) (dI : Nat → Nat → Nat) (tE : Nat) (h0 : Nat) (sz : Nat) : Met l yX0_init v_c_Dream_init_n ({ frames := 2, cells := 5, slots := 24, locals := 34 }) (va_Pc [.ref h0, .null] (Pre0 dC dI tE sz [] [(h0, .inr (5, [.null, .null, .null]))])) (va_Qv (fun (_ : Unit) => True) (fun _ t => ∃ (qd0 : Nat), ∃ (qd1 : Nat), Pst dC dI [] (va_A [(h0, .inr (5, [.null, .null, .null]))] sz) [(h0, .inr (5, [.ref qd0, .ref qd1, .null]))] t) (va_A [(h0, .inr (5, [.null, .null, .null]))] sz)) 5 24 (va_A [(h0, .inr (5, [.null, .null, .null]))] sz) := by
  refine Met.ofW (cc := cX0_init) (maxL := 2) (ret := none) (by decide) rfl ?_
  intro p e s m args below meth c s₁ B hml hv
  obtain ⟨rfl, hsz, hP, hK, hD0, hT⟩ := hv
  have hx := B.exec
  have hb := B.bytes
  have hr := B.returns
  have hts := atoms_spec (ws := v_c_Dream_init_n) B.pre
  have hown : s.vm.findClass RX0 = some m.cls := findClass_of_methodNamed B.named
  have hlocks := B.notSynchronized
  have hin : meth.name = "<init>" := (name_of_methodNamed B.named B.method).1
  subst hsz
  have hD := hD0.self (sz := s.heap.size)
  generalize hAe : va_A [(h0, .inr (5, [.null, .null, .null]))] s.heap.size = A at hD hT ⊢
  have hA : ∀ q : Nat, s.heap.size ≤ q → A q := fun q h => by rw [← hAe]; exact Or.inr h
  have hS : va_S A s.heap s.heap [] := va_S.rf
  have hl := lv_entry ([.ref h0, .null]) (n := 2) (Nat.le_of_ble_eq_true rfl)
  rw [lg_entry_eq]
  generalize (lg_sl ([.ref h0, .null]) ++ List.replicate (2 - (lg_sl ([.ref h0, .null])).length) Slot.unset).toArray = ls at hl ⊢
  have hl : lv_has ls 2 [(0, .ref h0), (1, .null)] := hl
  refine lv_aload_n hx hb dX0_init_0 rfl (lv_at hl 0 rfl) ?_
  refine W.objInit hx hb hown (hts (.methodLink RX0 1 objectInit) (List.mem_of_getElem? (i := 1) rfl)) (hts (.instanceMethod objectInit) (List.mem_of_getElem? (i := 2) rfl)) (hts (.code objectInit ⟨#[0xb1]⟩ 1 none) (List.mem_of_getElem? (i := 3) rfl)) rfl (by rw [hml]; exact hl.1) rfl dX0_init_1 (Nat.le_of_ble_eq_true rfl) (Nat.le_of_ble_eq_true rfl) ?_
  refine W.eq (g2 := F0 m 4 ls []) rfl ?_
  refine lv_aload_n hx hb dX0_init_4 rfl (lv_at hl 0 rfl) ?_
  refine va_new (ci := 8) (fs := [.int 0, .null, .null, .null]) (C := RX3) (T := TX3) (N := 4) hx hb hts u_c_Dream_init_n_X3 tyX3 tyX3_ok hown (hts (.classLink RX0 7 RX3) (List.mem_of_getElem? (i := 4) rfl)) (hts (.instantiable RX3 4) (List.mem_of_getElem? (i := 5) rfl)) (hts (.initialized RX3) (List.mem_of_getElem? (i := 6) rfl)) hK hP hD hS hA rfl (fun j hj => by rcases (show j = 0 ∨ j = 1 ∨ j = 2 ∨ j = 3 by omega) with rfl | rfl | rfl | rfl <;> rfl) (Nat.le_of_ble_eq_true rfl) (Nat.le_of_ble_eq_true rfl) dX0_init_5 (fun q_1 H hP hD hS => ?_)
  have hP : va_P (dC, dI) vwCl [(h0, .inr (5, [.null, .null, .null])), (q_1, .inr (8, [.int 0, .null, .null, .null]))] H := hP
  have hD : va_D A [(h0, .inr (5, [.null, .null, .null])), (q_1, .inr (8, [.int 0, .null, .null, .null]))] := hD
  refine W.widen (k := 1) (n := 4) (by omega) (by omega) ?_
  refine lv_dup hx hb dX0_init_8 rfl ?_
  have hPc := hP.sub (ws' := [(q_1, .inr (8, [.int 0, .null, .null, .null]))]) [1] rfl
  have hDc := hD.sub (ws' := [(q_1, .inr (8, [.int 0, .null, .null, .null]))]) [1] (by decide) rfl
  have hKc := hK.sub (tys' := []) [] rfl
  have hFc := va_free (wc := [(q_1, .inr (8, [.int 0, .null, .null, .null]))]) hD hS hA [1] rfl
  refine va_callv (va_runIN (As := []) (rest := [.ref q_1, .ref h0]) ⟨hx, hb, hml, hown, hts⟩ (c_Moment_init l hl9 dC dI tE q_1 _ ) ⟨va_cnB 0 hts gg_c_Dream_init_n_c_Moment_init rfl rfl rfl hT.n1 (hts (.initialized RX3) (List.mem_of_getElem? (i := 6) rfl)) (by decide +kernel) ⟨Nat.le_of_ble_eq_true rfl, Nat.le_of_ble_eq_true rfl⟩, rfl, (hts (.instanceMethod yX3_init) (List.mem_of_getElem? (i := 14) rfl))⟩ ⟨Pre0.blind, Pre0.give hPc hKc hDc hT hS hFc⟩ rfl rfl hl.1 rfl (lv_room (Nat.le_of_ble_eq_true rfl)) dX0_init_9 ⟨Nat.le_of_ble_eq_true rfl, Nat.le_of_ble_eq_true rfl⟩) hS (fun q _ h => hFc q h) hFc (fun u t H1 locs ht hvm hw hB hz1 hk1 hS => ?_)
  obtain ⟨qx_3, qx_4, qx_5, cx_6, cx_7, cx_8, hP1, hK1, hD1⟩ := hB
  rw [ht] at hP1
  have hK1 := va_K.moved hvm.symm hK1
  obtain ⟨hP, hD⟩ := va_join (wr := [(h0, .inr (5, [.null, .null, .null]))]) (w1 := [(q_1, .inr (8, [.int 0, .ref qx_3, .ref qx_4, .ref qx_5])), (qx_3, .inl (cx_6, 6, .inl (fun _ => 0))), (qx_4, .inl (cx_7, 4, .inl (fun _ => 0))), (qx_5, .inl (cx_8, 4, .inl (fun _ => 0)))]) hP hD [1] [0] rfl rfl (by decide) (by decide) hk1 hFc hP1 hD1
  have hK := hK.app (hK1.sub (tys' := [(cx_6, .int), (cx_7, .int), (cx_8, .boolean)]) [0, 1, 2] rfl)
  have hK : va_K (dC, dI) vwCl [(cx_6, .int), (cx_7, .int), (cx_8, .boolean)] s := hK
  generalize H1 = H at hP hS ⊢
  have hP : va_P (dC, dI) vwCl [(h0, .inr (5, [.null, .null, .null])), (q_1, .inr (8, [.int 0, .ref qx_3, .ref qx_4, .ref qx_5])), (qx_3, .inl (cx_6, 6, .inl (fun _ => 0))), (qx_4, .inl (cx_7, 4, .inl (fun _ => 0))), (qx_5, .inl (cx_8, 4, .inl (fun _ => 0)))] H := hP
  have hD : va_D A [(h0, .inr (5, [.null, .null, .null])), (q_1, .inr (8, [.int 0, .ref qx_3, .ref qx_4, .ref qx_5])), (qx_3, .inl (cx_6, 6, .inl (fun _ => 0))), (qx_4, .inl (cx_7, 4, .inl (fun _ => 0))), (qx_5, .inl (cx_8, 4, .inl (fun _ => 0)))] := hD
  refine W.widen (k := 4) (n := 18) (by omega) (by omega) ?_
  refine va_putF (D := (dC, dI)) (ci := 5) (v := .ref q_1) (ty := .object "HotelOfBells$Moment") (C := RX0) (T := TX0) (N := 3) hx hb hts u_c_Dream_init_n_X0 tyX0 tyX0_ok nmX0 hown hK hP hD hS 0 rfl rfl 0 (by decide) (hts (.fieldLink RX0 10 "HotelOfBells$Dream" "moment" "LHotelOfBells$Moment;") (List.mem_of_getElem? (i := 15) rfl)) (fun _ h9 => h9) rfl hin rfl (by decide +kernel) rfl rfl (Nat.le_of_ble_eq_true rfl) dX0_init_12 (fun H locs hP hD hS => ?_)
  have hP : va_P (dC, dI) vwCl [(h0, .inr (5, [.ref q_1, .null, .null])), (q_1, .inr (8, [.int 0, .ref qx_3, .ref qx_4, .ref qx_5])), (qx_3, .inl (cx_6, 6, .inl (fun _ => 0))), (qx_4, .inl (cx_7, 4, .inl (fun _ => 0))), (qx_5, .inl (cx_8, 4, .inl (fun _ => 0)))] H := hP
  have hD : va_D A [(h0, .inr (5, [.ref q_1, .null, .null])), (q_1, .inr (8, [.int 0, .ref qx_3, .ref qx_4, .ref qx_5])), (qx_3, .inl (cx_6, 6, .inl (fun _ => 0))), (qx_4, .inl (cx_7, 4, .inl (fun _ => 0))), (qx_5, .inl (cx_8, 4, .inl (fun _ => 0)))] := hD
  refine lv_aload_n hx hb dX0_init_15 rfl (lv_at hl 0 rfl) ?_
  refine va_new (ci := 7) (fs := [.int 0, .int 0, .int 0, .int 0, .int 0, .int 0]) (C := RX2) (T := TX2) (N := 6) hx hb hts u_c_Dream_init_n_X2 tyX2 tyX2_ok hown (hts (.classLink RX0 16 RX2) (List.mem_of_getElem? (i := 16) rfl)) (hts (.instantiable RX2 6) (List.mem_of_getElem? (i := 17) rfl)) (hts (.initialized RX2) (List.mem_of_getElem? (i := 18) rfl)) hK hP hD hS hA rfl (fun j hj => by rcases (show j = 0 ∨ j = 1 ∨ j = 2 ∨ j = 3 ∨ j = 4 ∨ j = 5 by omega) with rfl | rfl | rfl | rfl | rfl | rfl <;> rfl) (Nat.le_of_ble_eq_true rfl) (Nat.le_of_ble_eq_true rfl) dX0_init_16 (fun q_9 H hP hD hS => ?_)
  have hP : va_P (dC, dI) vwCl [(h0, .inr (5, [.ref q_1, .null, .null])), (q_1, .inr (8, [.int 0, .ref qx_3, .ref qx_4, .ref qx_5])), (qx_3, .inl (cx_6, 6, .inl (fun _ => 0))), (qx_4, .inl (cx_7, 4, .inl (fun _ => 0))), (qx_5, .inl (cx_8, 4, .inl (fun _ => 0))), (q_9, .inr (7, [.int 0, .int 0, .int 0, .int 0, .int 0, .int 0]))] H := hP
  have hD : va_D A [(h0, .inr (5, [.ref q_1, .null, .null])), (q_1, .inr (8, [.int 0, .ref qx_3, .ref qx_4, .ref qx_5])), (qx_3, .inl (cx_6, 6, .inl (fun _ => 0))), (qx_4, .inl (cx_7, 4, .inl (fun _ => 0))), (qx_5, .inl (cx_8, 4, .inl (fun _ => 0))), (q_9, .inr (7, [.int 0, .int 0, .int 0, .int 0, .int 0, .int 0]))] := hD
  refine W.widen (k := 5) (n := 24) (by omega) (by omega) ?_
  refine lv_dup hx hb dX0_init_19 rfl ?_
  refine lv_iconst (v := 0) hx hb dX0_init_20 (by decide) ?_
  refine lv_iconst (v := 0) hx hb dX0_init_21 (by decide) ?_
  have hPc := hP.sub (ws' := [(q_9, .inr (7, [.int 0, .int 0, .int 0, .int 0, .int 0, .int 0]))]) [5] rfl
  have hDc := hD.sub (ws' := [(q_9, .inr (7, [.int 0, .int 0, .int 0, .int 0, .int 0, .int 0]))]) [5] (by decide) rfl
  have hKc := hK.sub (tys' := []) [] rfl
  have hFc := va_free (wc := [(q_9, .inr (7, [.int 0, .int 0, .int 0, .int 0, .int 0, .int 0]))]) hD hS hA [5] rfl
  refine va_callv (va_runI (As := [.int 0, .int 0]) (rest := [.ref q_9, .ref h0]) ⟨hx, hb, hml, hown, hts⟩ (c_Guest_init l hl9 dC dI tE q_9 _ ) (cwI 2 hts gg_c_Dream_init_n_c_Guest_init rfl rfl rfl (hts (.initialized RX2) (List.mem_of_getElem? (i := 18) rfl)) (hts (.methodLink RX0 18 yX2_init) (List.mem_of_getElem? (i := 26) rfl)) (hts (.instanceMethod yX2_init) (List.mem_of_getElem? (i := 27) rfl)) rfl (by decide +kernel) ⟨Nat.le_of_ble_eq_true rfl, Nat.le_of_ble_eq_true rfl⟩) ⟨Pre0.blind, Pre0.give hPc hKc hDc hT hS hFc⟩ rfl rfl hl.1 rfl (lv_room (Nat.le_of_ble_eq_true rfl)) dX0_init_22 ⟨Nat.le_of_ble_eq_true rfl, Nat.le_of_ble_eq_true rfl⟩) hS (fun q _ h => hFc q h) hFc (fun u t H1 locs ht hvm hw hB hz1 hk1 hS => ?_)
  obtain ⟨hP1, hK1, hD1⟩ := hB
  rw [ht] at hP1
  have hK1 := va_K.moved hvm.symm hK1
  obtain ⟨hP, hD⟩ := va_join (wr := [(h0, .inr (5, [.ref q_1, .null, .null])), (q_1, .inr (8, [.int 0, .ref qx_3, .ref qx_4, .ref qx_5])), (qx_3, .inl (cx_6, 6, .inl (fun _ => 0))), (qx_4, .inl (cx_7, 4, .inl (fun _ => 0))), (qx_5, .inl (cx_8, 4, .inl (fun _ => 0)))]) (w1 := [(q_9, .inr (7, [.int 0, .int 0, .int (-1), .int 0, .int 0, .int 0]))]) hP hD [5] [0, 1, 2, 3, 4] rfl rfl (by decide) (by decide) hk1 hFc hP1 hD1
  generalize H1 = H at hP hS ⊢
  have hP : va_P (dC, dI) vwCl [(h0, .inr (5, [.ref q_1, .null, .null])), (q_1, .inr (8, [.int 0, .ref qx_3, .ref qx_4, .ref qx_5])), (qx_3, .inl (cx_6, 6, .inl (fun _ => 0))), (qx_4, .inl (cx_7, 4, .inl (fun _ => 0))), (qx_5, .inl (cx_8, 4, .inl (fun _ => 0))), (q_9, .inr (7, [.int 0, .int 0, .int (-1), .int 0, .int 0, .int 0]))] H := hP
  have hD : va_D A [(h0, .inr (5, [.ref q_1, .null, .null])), (q_1, .inr (8, [.int 0, .ref qx_3, .ref qx_4, .ref qx_5])), (qx_3, .inl (cx_6, 6, .inl (fun _ => 0))), (qx_4, .inl (cx_7, 4, .inl (fun _ => 0))), (qx_5, .inl (cx_8, 4, .inl (fun _ => 0))), (q_9, .inr (7, [.int 0, .int 0, .int (-1), .int 0, .int 0, .int 0]))] := hD
  refine W.widen (k := 5) (n := 24) (by omega) (by omega) ?_
  refine va_putF (D := (dC, dI)) (ci := 5) (v := .ref q_9) (ty := .object "HotelOfBells$Guest") (C := RX0) (T := TX0) (N := 3) hx hb hts u_c_Dream_init_n_X0 tyX0 tyX0_ok nmX0 hown hK hP hD hS 0 rfl rfl 1 (by decide) (hts (.fieldLink RX0 21 "HotelOfBells$Dream" "guest" "LHotelOfBells$Guest;") (List.mem_of_getElem? (i := 28) rfl)) (fun _ h9 => h9) rfl hin rfl (by decide +kernel) rfl rfl (Nat.le_of_ble_eq_true rfl) dX0_init_25 (fun H locs hP hD hS => ?_)
  have hP : va_P (dC, dI) vwCl [(h0, .inr (5, [.ref q_1, .ref q_9, .null])), (q_1, .inr (8, [.int 0, .ref qx_3, .ref qx_4, .ref qx_5])), (qx_3, .inl (cx_6, 6, .inl (fun _ => 0))), (qx_4, .inl (cx_7, 4, .inl (fun _ => 0))), (qx_5, .inl (cx_8, 4, .inl (fun _ => 0))), (q_9, .inr (7, [.int 0, .int 0, .int (-1), .int 0, .int 0, .int 0]))] H := hP
  have hD : va_D A [(h0, .inr (5, [.ref q_1, .ref q_9, .null])), (q_1, .inr (8, [.int 0, .ref qx_3, .ref qx_4, .ref qx_5])), (qx_3, .inl (cx_6, 6, .inl (fun _ => 0))), (qx_4, .inl (cx_7, 4, .inl (fun _ => 0))), (qx_5, .inl (cx_8, 4, .inl (fun _ => 0))), (q_9, .inr (7, [.int 0, .int 0, .int (-1), .int 0, .int 0, .int 0]))] := hD
  refine lv_aload_n hx hb dX0_init_28 rfl (lv_at hl 0 rfl) ?_
  refine lv_aload_nN hx hb dX0_init_29 rfl (lv_at hl 1 rfl) ?_
  refine va_putF (D := (dC, dI)) (ci := 5) (v := .null) (ty := .object "HotelOfBells$Dream") (C := RX0) (T := TX0) (N := 3) hx hb hts u_c_Dream_init_n_X0 tyX0 tyX0_ok nmX0 hown hK hP hD hS 0 rfl rfl 2 (by decide) (hts (.fieldLink RX0 25 "HotelOfBells$Dream" "deeper" "LHotelOfBells$Dream;") (List.mem_of_getElem? (i := 29) rfl)) (fun _ h9 => h9) rfl hin rfl (by decide +kernel) rfl rfl (Nat.le_of_ble_eq_true rfl) dX0_init_30 (fun H locs hP hD hS => ?_)
  have hP : va_P (dC, dI) vwCl [(h0, .inr (5, [.ref q_1, .ref q_9, .null])), (q_1, .inr (8, [.int 0, .ref qx_3, .ref qx_4, .ref qx_5])), (qx_3, .inl (cx_6, 6, .inl (fun _ => 0))), (qx_4, .inl (cx_7, 4, .inl (fun _ => 0))), (qx_5, .inl (cx_8, 4, .inl (fun _ => 0))), (q_9, .inr (7, [.int 0, .int 0, .int (-1), .int 0, .int 0, .int 0]))] H := hP
  have hD : va_D A [(h0, .inr (5, [.ref q_1, .ref q_9, .null])), (q_1, .inr (8, [.int 0, .ref qx_3, .ref qx_4, .ref qx_5])), (qx_3, .inl (cx_6, 6, .inl (fun _ => 0))), (qx_4, .inl (cx_7, 4, .inl (fun _ => 0))), (qx_5, .inl (cx_8, 4, .inl (fun _ => 0))), (q_9, .inr (7, [.int 0, .int 0, .int (-1), .int 0, .int 0, .int 0]))] := hD
  have hP9 := hP.sub (ws' := [(h0, .inr (5, [.ref q_1, .ref q_9, .null]))]) [0] rfl
  have hD9 := hD.sub (ws' := [(h0, .inr (5, [.ref q_1, .ref q_9, .null]))]) [0] (by decide) rfl
  have hK9 := hK.sub (tys' := []) [] rfl
  exact W.vret hx hb hr (fun t ht hW => ⟨⟨(), rfl, trivial, q_1, q_9, by rw [ht]; exact hP9, va_K.moved hW.alike hK9, hD9⟩, hS.F ht⟩) hS.2.2 dX0_init_33
def v_c_Dream_init_r : List Cond := .code yX0_init cX0_init 2 none :: ([Cond.methodLink RX0 1 objectInit, Cond.instanceMethod objectInit, Cond.code objectInit ⟨#[0xb1]⟩ 1 none, Cond.classLink RX0 7 RX3, Cond.instantiable RX3 4, Cond.initialized RX3, Cond.code yX3_init cX3_init 1 none, Cond.methodLink RX3 3 objectInit, Cond.arrayClass .int, Cond.fieldLink RX3 9 "HotelOfBells$Moment" "turns" "[I", Cond.fieldLink RX3 15 "HotelOfBells$Moment" "heights" "[I", Cond.arrayClass .boolean, Cond.fieldLink RX3 18 "HotelOfBells$Moment" "falling" "[Z", Cond.instanceMethod yX3_init, Cond.fieldLink RX0 10 "HotelOfBells$Dream" "moment" "LHotelOfBells$Moment;", Cond.classLink RX0 16 RX2, Cond.instantiable RX2 6, Cond.initialized RX2, Cond.code yX2_init cX2_init 3 none, Cond.methodLink RX2 3 objectInit, Cond.fieldLink RX2 9 "HotelOfBells$Guest" "inLift" "I", Cond.fieldLink RX2 15 "HotelOfBells$Guest" "onFloor" "I", Cond.fieldLink RX2 18 "HotelOfBells$Guest" "inRoom" "I", Cond.fieldLink RX2 21 "HotelOfBells$Guest" "wantedFloor" "I", Cond.fieldLink RX2 24 "HotelOfBells$Guest" "wantedRoom" "I", Cond.methodLink RX0 18 yX2_init, Cond.instanceMethod yX2_init, Cond.fieldLink RX0 21 "HotelOfBells$Dream" "guest" "LHotelOfBells$Guest;", Cond.fieldLink RX0 25 "HotelOfBells$Dream" "deeper" "LHotelOfBells$Dream;"] ++ (wsX30 ++ (wsX00 ++ (wsX20 ++ []))))
theorem u_c_Dream_init_r_X3 : ∀ w ∈ wsX30, w ∈ v_c_Dream_init_r := fun _ h => List.mem_cons_of_mem _ (List.mem_append_right _ (List.mem_append_left _ h))
theorem u_c_Dream_init_r_X0 : ∀ w ∈ wsX00, w ∈ v_c_Dream_init_r := fun _ h => List.mem_cons_of_mem _ (List.mem_append_right _ (List.mem_append_right _ (List.mem_append_left _ h)))
theorem u_c_Dream_init_r_X2 : ∀ w ∈ wsX20, w ∈ v_c_Dream_init_r := fun _ h => List.mem_cons_of_mem _ (List.mem_append_right _ (List.mem_append_right _ (List.mem_append_right _ (List.mem_append_left _ h))))
theorem gg_c_Dream_init_r_c_Moment_init : GoodIn v_c_Dream_init_r v_c_Moment_init := goodIn_r _ [7, 8, 2, 3, 9, 10, 11, 12, 13, 30, 31, 32, 33] (by rfl) (by decide +kernel)
theorem gg_c_Dream_init_r_c_Guest_init : GoodIn v_c_Dream_init_r v_c_Guest_init := goodIn_r _ [19, 20, 2, 3, 21, 22, 23, 24, 25, 37, 38, 39, 40, 41, 42] (by rfl) (by decide +kernel)
set_option maxHeartbeats 4000000 in
set_option maxRecDepth 100000 in
theorem c_Dream_init_r (l : Launch) (hl9 : l.stackTraces = false) (dC : Nat → ClassId) (dI : Nat → Nat → Nat) (tE : Nat) (h0 : Nat) (h1 : Nat) (sz : Nat) : Met l yX0_init v_c_Dream_init_r ({ frames := 2, cells := 5, slots := 24, locals := 34 }) (va_Pc [.ref h0, .ref h1] (Pre0 dC dI tE sz [] [(h0, .inr (5, [.null, .null, .null]))])) (va_Qv (fun (_ : Unit) => True) (fun _ t => ∃ (qd0 : Nat), ∃ (qd1 : Nat), Pst dC dI [] (va_A [(h0, .inr (5, [.null, .null, .null]))] sz) [(h0, .inr (5, [.ref qd0, .ref qd1, .ref h1]))] t) (va_A [(h0, .inr (5, [.null, .null, .null]))] sz)) 5 24 (va_A [(h0, .inr (5, [.null, .null, .null]))] sz) := by
  refine Met.ofW (cc := cX0_init) (maxL := 2) (ret := none) (by decide) rfl ?_
  intro p e s m args below meth c s₁ B hml hv
  obtain ⟨rfl, hsz, hP, hK, hD0, hT⟩ := hv
  have hx := B.exec
  have hb := B.bytes
  have hr := B.returns
  have hts := atoms_spec (ws := v_c_Dream_init_r) B.pre
  have hown : s.vm.findClass RX0 = some m.cls := findClass_of_methodNamed B.named
  have hlocks := B.notSynchronized
  have hin : meth.name = "<init>" := (name_of_methodNamed B.named B.method).1
  subst hsz
  have hD := hD0.self (sz := s.heap.size)
  generalize hAe : va_A [(h0, .inr (5, [.null, .null, .null]))] s.heap.size = A at hD hT ⊢
  have hA : ∀ q : Nat, s.heap.size ≤ q → A q := fun q h => by rw [← hAe]; exact Or.inr h
  have hS : va_S A s.heap s.heap [] := va_S.rf
  have hl := lv_entry ([.ref h0, .ref h1]) (n := 2) (Nat.le_of_ble_eq_true rfl)
  rw [lg_entry_eq]
  generalize (lg_sl ([.ref h0, .ref h1]) ++ List.replicate (2 - (lg_sl ([.ref h0, .ref h1])).length) Slot.unset).toArray = ls at hl ⊢
  have hl : lv_has ls 2 [(0, .ref h0), (1, .ref h1)] := hl
  refine lv_aload_n hx hb dX0_init_0 rfl (lv_at hl 0 rfl) ?_
  refine W.objInit hx hb hown (hts (.methodLink RX0 1 objectInit) (List.mem_of_getElem? (i := 1) rfl)) (hts (.instanceMethod objectInit) (List.mem_of_getElem? (i := 2) rfl)) (hts (.code objectInit ⟨#[0xb1]⟩ 1 none) (List.mem_of_getElem? (i := 3) rfl)) rfl (by rw [hml]; exact hl.1) rfl dX0_init_1 (Nat.le_of_ble_eq_true rfl) (Nat.le_of_ble_eq_true rfl) ?_
  refine W.eq (g2 := F0 m 4 ls []) rfl ?_
  refine lv_aload_n hx hb dX0_init_4 rfl (lv_at hl 0 rfl) ?_
  refine va_new (ci := 8) (fs := [.int 0, .null, .null, .null]) (C := RX3) (T := TX3) (N := 4) hx hb hts u_c_Dream_init_r_X3 tyX3 tyX3_ok hown (hts (.classLink RX0 7 RX3) (List.mem_of_getElem? (i := 4) rfl)) (hts (.instantiable RX3 4) (List.mem_of_getElem? (i := 5) rfl)) (hts (.initialized RX3) (List.mem_of_getElem? (i := 6) rfl)) hK hP hD hS hA rfl (fun j hj => by rcases (show j = 0 ∨ j = 1 ∨ j = 2 ∨ j = 3 by omega) with rfl | rfl | rfl | rfl <;> rfl) (Nat.le_of_ble_eq_true rfl) (Nat.le_of_ble_eq_true rfl) dX0_init_5 (fun q_1 H hP hD hS => ?_)
  have hP : va_P (dC, dI) vwCl [(h0, .inr (5, [.null, .null, .null])), (q_1, .inr (8, [.int 0, .null, .null, .null]))] H := hP
  have hD : va_D A [(h0, .inr (5, [.null, .null, .null])), (q_1, .inr (8, [.int 0, .null, .null, .null]))] := hD
  refine W.widen (k := 1) (n := 4) (by omega) (by omega) ?_
  refine lv_dup hx hb dX0_init_8 rfl ?_
  have hPc := hP.sub (ws' := [(q_1, .inr (8, [.int 0, .null, .null, .null]))]) [1] rfl
  have hDc := hD.sub (ws' := [(q_1, .inr (8, [.int 0, .null, .null, .null]))]) [1] (by decide) rfl
  have hKc := hK.sub (tys' := []) [] rfl
  have hFc := va_free (wc := [(q_1, .inr (8, [.int 0, .null, .null, .null]))]) hD hS hA [1] rfl
  refine va_callv (va_runIN (As := []) (rest := [.ref q_1, .ref h0]) ⟨hx, hb, hml, hown, hts⟩ (c_Moment_init l hl9 dC dI tE q_1 _ ) ⟨va_cnB 0 hts gg_c_Dream_init_r_c_Moment_init rfl rfl rfl hT.n1 (hts (.initialized RX3) (List.mem_of_getElem? (i := 6) rfl)) (by decide +kernel) ⟨Nat.le_of_ble_eq_true rfl, Nat.le_of_ble_eq_true rfl⟩, rfl, (hts (.instanceMethod yX3_init) (List.mem_of_getElem? (i := 14) rfl))⟩ ⟨Pre0.blind, Pre0.give hPc hKc hDc hT hS hFc⟩ rfl rfl hl.1 rfl (lv_room (Nat.le_of_ble_eq_true rfl)) dX0_init_9 ⟨Nat.le_of_ble_eq_true rfl, Nat.le_of_ble_eq_true rfl⟩) hS (fun q _ h => hFc q h) hFc (fun u t H1 locs ht hvm hw hB hz1 hk1 hS => ?_)
  obtain ⟨qx_3, qx_4, qx_5, cx_6, cx_7, cx_8, hP1, hK1, hD1⟩ := hB
  rw [ht] at hP1
  have hK1 := va_K.moved hvm.symm hK1
  obtain ⟨hP, hD⟩ := va_join (wr := [(h0, .inr (5, [.null, .null, .null]))]) (w1 := [(q_1, .inr (8, [.int 0, .ref qx_3, .ref qx_4, .ref qx_5])), (qx_3, .inl (cx_6, 6, .inl (fun _ => 0))), (qx_4, .inl (cx_7, 4, .inl (fun _ => 0))), (qx_5, .inl (cx_8, 4, .inl (fun _ => 0)))]) hP hD [1] [0] rfl rfl (by decide) (by decide) hk1 hFc hP1 hD1
  have hK := hK.app (hK1.sub (tys' := [(cx_6, .int), (cx_7, .int), (cx_8, .boolean)]) [0, 1, 2] rfl)
  have hK : va_K (dC, dI) vwCl [(cx_6, .int), (cx_7, .int), (cx_8, .boolean)] s := hK
  generalize H1 = H at hP hS ⊢
  have hP : va_P (dC, dI) vwCl [(h0, .inr (5, [.null, .null, .null])), (q_1, .inr (8, [.int 0, .ref qx_3, .ref qx_4, .ref qx_5])), (qx_3, .inl (cx_6, 6, .inl (fun _ => 0))), (qx_4, .inl (cx_7, 4, .inl (fun _ => 0))), (qx_5, .inl (cx_8, 4, .inl (fun _ => 0)))] H := hP
  have hD : va_D A [(h0, .inr (5, [.null, .null, .null])), (q_1, .inr (8, [.int 0, .ref qx_3, .ref qx_4, .ref qx_5])), (qx_3, .inl (cx_6, 6, .inl (fun _ => 0))), (qx_4, .inl (cx_7, 4, .inl (fun _ => 0))), (qx_5, .inl (cx_8, 4, .inl (fun _ => 0)))] := hD
  refine W.widen (k := 4) (n := 18) (by omega) (by omega) ?_
  refine va_putF (D := (dC, dI)) (ci := 5) (v := .ref q_1) (ty := .object "HotelOfBells$Moment") (C := RX0) (T := TX0) (N := 3) hx hb hts u_c_Dream_init_r_X0 tyX0 tyX0_ok nmX0 hown hK hP hD hS 0 rfl rfl 0 (by decide) (hts (.fieldLink RX0 10 "HotelOfBells$Dream" "moment" "LHotelOfBells$Moment;") (List.mem_of_getElem? (i := 15) rfl)) (fun _ h9 => h9) rfl hin rfl (by decide +kernel) rfl rfl (Nat.le_of_ble_eq_true rfl) dX0_init_12 (fun H locs hP hD hS => ?_)
  have hP : va_P (dC, dI) vwCl [(h0, .inr (5, [.ref q_1, .null, .null])), (q_1, .inr (8, [.int 0, .ref qx_3, .ref qx_4, .ref qx_5])), (qx_3, .inl (cx_6, 6, .inl (fun _ => 0))), (qx_4, .inl (cx_7, 4, .inl (fun _ => 0))), (qx_5, .inl (cx_8, 4, .inl (fun _ => 0)))] H := hP
  have hD : va_D A [(h0, .inr (5, [.ref q_1, .null, .null])), (q_1, .inr (8, [.int 0, .ref qx_3, .ref qx_4, .ref qx_5])), (qx_3, .inl (cx_6, 6, .inl (fun _ => 0))), (qx_4, .inl (cx_7, 4, .inl (fun _ => 0))), (qx_5, .inl (cx_8, 4, .inl (fun _ => 0)))] := hD
  refine lv_aload_n hx hb dX0_init_15 rfl (lv_at hl 0 rfl) ?_
  refine va_new (ci := 7) (fs := [.int 0, .int 0, .int 0, .int 0, .int 0, .int 0]) (C := RX2) (T := TX2) (N := 6) hx hb hts u_c_Dream_init_r_X2 tyX2 tyX2_ok hown (hts (.classLink RX0 16 RX2) (List.mem_of_getElem? (i := 16) rfl)) (hts (.instantiable RX2 6) (List.mem_of_getElem? (i := 17) rfl)) (hts (.initialized RX2) (List.mem_of_getElem? (i := 18) rfl)) hK hP hD hS hA rfl (fun j hj => by rcases (show j = 0 ∨ j = 1 ∨ j = 2 ∨ j = 3 ∨ j = 4 ∨ j = 5 by omega) with rfl | rfl | rfl | rfl | rfl | rfl <;> rfl) (Nat.le_of_ble_eq_true rfl) (Nat.le_of_ble_eq_true rfl) dX0_init_16 (fun q_9 H hP hD hS => ?_)
  have hP : va_P (dC, dI) vwCl [(h0, .inr (5, [.ref q_1, .null, .null])), (q_1, .inr (8, [.int 0, .ref qx_3, .ref qx_4, .ref qx_5])), (qx_3, .inl (cx_6, 6, .inl (fun _ => 0))), (qx_4, .inl (cx_7, 4, .inl (fun _ => 0))), (qx_5, .inl (cx_8, 4, .inl (fun _ => 0))), (q_9, .inr (7, [.int 0, .int 0, .int 0, .int 0, .int 0, .int 0]))] H := hP
  have hD : va_D A [(h0, .inr (5, [.ref q_1, .null, .null])), (q_1, .inr (8, [.int 0, .ref qx_3, .ref qx_4, .ref qx_5])), (qx_3, .inl (cx_6, 6, .inl (fun _ => 0))), (qx_4, .inl (cx_7, 4, .inl (fun _ => 0))), (qx_5, .inl (cx_8, 4, .inl (fun _ => 0))), (q_9, .inr (7, [.int 0, .int 0, .int 0, .int 0, .int 0, .int 0]))] := hD
  refine W.widen (k := 5) (n := 24) (by omega) (by omega) ?_
  refine lv_dup hx hb dX0_init_19 rfl ?_
  refine lv_iconst (v := 0) hx hb dX0_init_20 (by decide) ?_
  refine lv_iconst (v := 0) hx hb dX0_init_21 (by decide) ?_
  have hPc := hP.sub (ws' := [(q_9, .inr (7, [.int 0, .int 0, .int 0, .int 0, .int 0, .int 0]))]) [5] rfl
  have hDc := hD.sub (ws' := [(q_9, .inr (7, [.int 0, .int 0, .int 0, .int 0, .int 0, .int 0]))]) [5] (by decide) rfl
  have hKc := hK.sub (tys' := []) [] rfl
  have hFc := va_free (wc := [(q_9, .inr (7, [.int 0, .int 0, .int 0, .int 0, .int 0, .int 0]))]) hD hS hA [5] rfl
  refine va_callv (va_runI (As := [.int 0, .int 0]) (rest := [.ref q_9, .ref h0]) ⟨hx, hb, hml, hown, hts⟩ (c_Guest_init l hl9 dC dI tE q_9 _ ) (cwI 2 hts gg_c_Dream_init_r_c_Guest_init rfl rfl rfl (hts (.initialized RX2) (List.mem_of_getElem? (i := 18) rfl)) (hts (.methodLink RX0 18 yX2_init) (List.mem_of_getElem? (i := 26) rfl)) (hts (.instanceMethod yX2_init) (List.mem_of_getElem? (i := 27) rfl)) rfl (by decide +kernel) ⟨Nat.le_of_ble_eq_true rfl, Nat.le_of_ble_eq_true rfl⟩) ⟨Pre0.blind, Pre0.give hPc hKc hDc hT hS hFc⟩ rfl rfl hl.1 rfl (lv_room (Nat.le_of_ble_eq_true rfl)) dX0_init_22 ⟨Nat.le_of_ble_eq_true rfl, Nat.le_of_ble_eq_true rfl⟩) hS (fun q _ h => hFc q h) hFc (fun u t H1 locs ht hvm hw hB hz1 hk1 hS => ?_)
  obtain ⟨hP1, hK1, hD1⟩ := hB
  rw [ht] at hP1
  have hK1 := va_K.moved hvm.symm hK1
  obtain ⟨hP, hD⟩ := va_join (wr := [(h0, .inr (5, [.ref q_1, .null, .null])), (q_1, .inr (8, [.int 0, .ref qx_3, .ref qx_4, .ref qx_5])), (qx_3, .inl (cx_6, 6, .inl (fun _ => 0))), (qx_4, .inl (cx_7, 4, .inl (fun _ => 0))), (qx_5, .inl (cx_8, 4, .inl (fun _ => 0)))]) (w1 := [(q_9, .inr (7, [.int 0, .int 0, .int (-1), .int 0, .int 0, .int 0]))]) hP hD [5] [0, 1, 2, 3, 4] rfl rfl (by decide) (by decide) hk1 hFc hP1 hD1
  generalize H1 = H at hP hS ⊢
  have hP : va_P (dC, dI) vwCl [(h0, .inr (5, [.ref q_1, .null, .null])), (q_1, .inr (8, [.int 0, .ref qx_3, .ref qx_4, .ref qx_5])), (qx_3, .inl (cx_6, 6, .inl (fun _ => 0))), (qx_4, .inl (cx_7, 4, .inl (fun _ => 0))), (qx_5, .inl (cx_8, 4, .inl (fun _ => 0))), (q_9, .inr (7, [.int 0, .int 0, .int (-1), .int 0, .int 0, .int 0]))] H := hP
  have hD : va_D A [(h0, .inr (5, [.ref q_1, .null, .null])), (q_1, .inr (8, [.int 0, .ref qx_3, .ref qx_4, .ref qx_5])), (qx_3, .inl (cx_6, 6, .inl (fun _ => 0))), (qx_4, .inl (cx_7, 4, .inl (fun _ => 0))), (qx_5, .inl (cx_8, 4, .inl (fun _ => 0))), (q_9, .inr (7, [.int 0, .int 0, .int (-1), .int 0, .int 0, .int 0]))] := hD
  refine W.widen (k := 5) (n := 24) (by omega) (by omega) ?_
  refine va_putF (D := (dC, dI)) (ci := 5) (v := .ref q_9) (ty := .object "HotelOfBells$Guest") (C := RX0) (T := TX0) (N := 3) hx hb hts u_c_Dream_init_r_X0 tyX0 tyX0_ok nmX0 hown hK hP hD hS 0 rfl rfl 1 (by decide) (hts (.fieldLink RX0 21 "HotelOfBells$Dream" "guest" "LHotelOfBells$Guest;") (List.mem_of_getElem? (i := 28) rfl)) (fun _ h9 => h9) rfl hin rfl (by decide +kernel) rfl rfl (Nat.le_of_ble_eq_true rfl) dX0_init_25 (fun H locs hP hD hS => ?_)
  have hP : va_P (dC, dI) vwCl [(h0, .inr (5, [.ref q_1, .ref q_9, .null])), (q_1, .inr (8, [.int 0, .ref qx_3, .ref qx_4, .ref qx_5])), (qx_3, .inl (cx_6, 6, .inl (fun _ => 0))), (qx_4, .inl (cx_7, 4, .inl (fun _ => 0))), (qx_5, .inl (cx_8, 4, .inl (fun _ => 0))), (q_9, .inr (7, [.int 0, .int 0, .int (-1), .int 0, .int 0, .int 0]))] H := hP
  have hD : va_D A [(h0, .inr (5, [.ref q_1, .ref q_9, .null])), (q_1, .inr (8, [.int 0, .ref qx_3, .ref qx_4, .ref qx_5])), (qx_3, .inl (cx_6, 6, .inl (fun _ => 0))), (qx_4, .inl (cx_7, 4, .inl (fun _ => 0))), (qx_5, .inl (cx_8, 4, .inl (fun _ => 0))), (q_9, .inr (7, [.int 0, .int 0, .int (-1), .int 0, .int 0, .int 0]))] := hD
  refine lv_aload_n hx hb dX0_init_28 rfl (lv_at hl 0 rfl) ?_
  refine lv_aload_n hx hb dX0_init_29 rfl (lv_at hl 1 rfl) ?_
  refine va_putF (D := (dC, dI)) (ci := 5) (v := .ref h1) (ty := .object "HotelOfBells$Dream") (C := RX0) (T := TX0) (N := 3) hx hb hts u_c_Dream_init_r_X0 tyX0 tyX0_ok nmX0 hown hK hP hD hS 0 rfl rfl 2 (by decide) (hts (.fieldLink RX0 25 "HotelOfBells$Dream" "deeper" "LHotelOfBells$Dream;") (List.mem_of_getElem? (i := 29) rfl)) (fun _ h9 => h9) rfl hin rfl (by decide +kernel) rfl rfl (Nat.le_of_ble_eq_true rfl) dX0_init_30 (fun H locs hP hD hS => ?_)
  have hP : va_P (dC, dI) vwCl [(h0, .inr (5, [.ref q_1, .ref q_9, .ref h1])), (q_1, .inr (8, [.int 0, .ref qx_3, .ref qx_4, .ref qx_5])), (qx_3, .inl (cx_6, 6, .inl (fun _ => 0))), (qx_4, .inl (cx_7, 4, .inl (fun _ => 0))), (qx_5, .inl (cx_8, 4, .inl (fun _ => 0))), (q_9, .inr (7, [.int 0, .int 0, .int (-1), .int 0, .int 0, .int 0]))] H := hP
  have hD : va_D A [(h0, .inr (5, [.ref q_1, .ref q_9, .ref h1])), (q_1, .inr (8, [.int 0, .ref qx_3, .ref qx_4, .ref qx_5])), (qx_3, .inl (cx_6, 6, .inl (fun _ => 0))), (qx_4, .inl (cx_7, 4, .inl (fun _ => 0))), (qx_5, .inl (cx_8, 4, .inl (fun _ => 0))), (q_9, .inr (7, [.int 0, .int 0, .int (-1), .int 0, .int 0, .int 0]))] := hD
  have hP9 := hP.sub (ws' := [(h0, .inr (5, [.ref q_1, .ref q_9, .ref h1]))]) [0] rfl
  have hD9 := hD.sub (ws' := [(h0, .inr (5, [.ref q_1, .ref q_9, .ref h1]))]) [0] (by decide) rfl
  have hK9 := hK.sub (tys' := []) [] rfl
  exact W.vret hx hb hr (fun t ht hW => ⟨⟨(), rfl, trivial, q_1, q_9, by rw [ht]; exact hP9, va_K.moved hW.alike hK9, hD9⟩, hS.F ht⟩) hS.2.2 dX0_init_33
def v_c_init : List Cond := .code yX5_init cX5_init 3 none :: ([Cond.methodLink RX5 1 objectInit, Cond.instanceMethod objectInit, Cond.code objectInit ⟨#[0xb1]⟩ 1 none, Cond.classLink RX5 7 RJx4a65c, Cond.instantiable RJx4a65c 3, Cond.initialized RJx4a65c, Cond.code yJx4a65c_init_da8c8 cJx4a65c_init_da8c8 1 none, Cond.code yJxc12de_init_da8c8 cJxc12de_init_da8c8 1 none, Cond.code yJxa1e45_init_da8c8 cJxa1e45_init_da8c8 1 none, Cond.methodLink RJxa1e45 1 objectInit, Cond.initialized RJxa1e45, Cond.methodLink RJxc12de 1 yJxa1e45_init_da8c8, Cond.instanceMethod yJxa1e45_init_da8c8, Cond.fieldLink RJxc12de 7 "java/util/AbstractList" "modCount" "I", Cond.initialized RJxc12de, Cond.methodLink RJx4a65c 1 yJxc12de_init_da8c8, Cond.instanceMethod yJxc12de_init_da8c8, Cond.fieldLink RJx4a65c 39 "java/util/ArrayList" "DEFAULTCAPACITY_EMPTY_ELEMENTDATA" "[Ljava/lang/Object;", Cond.fieldLink RJx4a65c 9 "java/util/ArrayList" "elementData" "[Ljava/lang/Object;", Cond.methodLink RX5 9 yJx4a65c_init_da8c8, Cond.instanceMethod yJx4a65c_init_da8c8, Cond.fieldLink RX5 10 "HotelOfBells" "floors" "Ljava/util/ArrayList;", Cond.fieldLink RX5 16 "HotelOfBells" "shafts" "Ljava/util/ArrayList;", Cond.fieldLink RX5 19 "HotelOfBells" "guests" "Ljava/util/ArrayList;", Cond.classLink RX5 22 RX3, Cond.instantiable RX3 4, Cond.initialized RX3, Cond.code yX3_init cX3_init 1 none, Cond.methodLink RX3 3 objectInit, Cond.arrayClass .int, Cond.fieldLink RX3 9 "HotelOfBells$Moment" "turns" "[I", Cond.fieldLink RX3 15 "HotelOfBells$Moment" "heights" "[I", Cond.arrayClass .boolean, Cond.fieldLink RX3 18 "HotelOfBells$Moment" "falling" "[Z", Cond.instanceMethod yX3_init, Cond.fieldLink RX5 25 "HotelOfBells" "now" "LHotelOfBells$Moment;", Cond.arrayClass .byte, Cond.fieldLink RX5 29 "HotelOfBells" "paper" "[B", Cond.classLink RX5 33 RX0, Cond.instantiable RX0 3, Cond.initialized RX0, Cond.code yX0_init cX0_init 2 none, Cond.methodLink RX0 1 objectInit, Cond.classLink RX0 7 RX3, Cond.fieldLink RX0 10 "HotelOfBells$Dream" "moment" "LHotelOfBells$Moment;", Cond.classLink RX0 16 RX2, Cond.instantiable RX2 6, Cond.initialized RX2, Cond.code yX2_init cX2_init 3 none, Cond.methodLink RX2 3 objectInit, Cond.fieldLink RX2 9 "HotelOfBells$Guest" "inLift" "I", Cond.fieldLink RX2 15 "HotelOfBells$Guest" "onFloor" "I", Cond.fieldLink RX2 18 "HotelOfBells$Guest" "inRoom" "I", Cond.fieldLink RX2 21 "HotelOfBells$Guest" "wantedFloor" "I", Cond.fieldLink RX2 24 "HotelOfBells$Guest" "wantedRoom" "I", Cond.methodLink RX0 18 yX2_init, Cond.instanceMethod yX2_init, Cond.fieldLink RX0 21 "HotelOfBells$Dream" "guest" "LHotelOfBells$Guest;", Cond.fieldLink RX0 25 "HotelOfBells$Dream" "deeper" "LHotelOfBells$Dream;", Cond.methodLink RX5 35 yX0_init, Cond.instanceMethod yX0_init, Cond.fieldLink RX5 38 "HotelOfBells" "dream" "LHotelOfBells$Dream;"] ++ (wsJx4a65c0 ++ (wsX50 ++ (wsX30 ++ (wsX00 ++ (wsX20 ++ []))))))
theorem u_c_init_Jx4a65c : ∀ w ∈ wsJx4a65c0, w ∈ v_c_init := fun _ h => List.mem_cons_of_mem _ (List.mem_append_right _ (List.mem_append_left _ h))
theorem u_c_init_X5 : ∀ w ∈ wsX50, w ∈ v_c_init := fun _ h => List.mem_cons_of_mem _ (List.mem_append_right _ (List.mem_append_right _ (List.mem_append_left _ h)))
theorem u_c_init_X3 : ∀ w ∈ wsX30, w ∈ v_c_init := fun _ h => List.mem_cons_of_mem _ (List.mem_append_right _ (List.mem_append_right _ (List.mem_append_right _ (List.mem_append_left _ h))))
theorem u_c_init_X0 : ∀ w ∈ wsX00, w ∈ v_c_init := fun _ h => List.mem_cons_of_mem _ (List.mem_append_right _ (List.mem_append_right _ (List.mem_append_right _ (List.mem_append_right _ (List.mem_append_left _ h)))))
theorem u_c_init_X2 : ∀ w ∈ wsX20, w ∈ v_c_init := fun _ h => List.mem_cons_of_mem _ (List.mem_append_right _ (List.mem_append_right _ (List.mem_append_right _ (List.mem_append_right _ (List.mem_append_right _ (List.mem_append_left _ h))))))
theorem gg_c_init_c_AL_init : GoodIn v_c_init v_c_AL_init := goodIn_r _ [7, 8, 9, 10, 2, 3, 11, 12, 13, 14, 15, 16, 17, 18, 19, 63, 64, 65] (by rfl) (by decide +kernel)
theorem gg_c_init_c_Moment_init : GoodIn v_c_init v_c_Moment_init := goodIn_r _ [28, 29, 2, 3, 30, 31, 32, 33, 34, 75, 76, 77, 78] (by rfl) (by decide +kernel)
theorem gg_c_init_c_Dream_init_n : GoodIn v_c_init v_c_Dream_init_n := goodIn_r _ [42, 43, 2, 3, 44, 26, 27, 28, 29, 30, 31, 32, 33, 34, 35, 45, 46, 47, 48, 49, 50, 51, 52, 53, 54, 55, 56, 57, 58, 59, 75, 76, 77, 78, 79, 80, 81, 82, 83, 84, 85, 86, 87] (by rfl) (by decide +kernel)
theorem gg_c_init_c_Dream_init_r : GoodIn v_c_init v_c_Dream_init_r := goodIn_r _ [42, 43, 2, 3, 44, 26, 27, 28, 29, 30, 31, 32, 33, 34, 35, 45, 46, 47, 48, 49, 50, 51, 52, 53, 54, 55, 56, 57, 58, 59, 75, 76, 77, 78, 79, 80, 81, 82, 83, 84, 85, 86, 87] (by rfl) (by decide +kernel)
set_option maxHeartbeats 4000000 in
set_option maxRecDepth 100000 in
theorem c_init (l : Launch) (hl9 : l.stackTraces = false) (dC : Nat → ClassId) (dI : Nat → Nat → Nat) (tE : Nat) (h0 : Nat) (sz : Nat) : Met l yX5_init v_c_init ({ frames := 4, cells := 44, slots := 701, locals := 72 }) (va_Pc [.ref h0] (Pre0 dC dI tE sz [] [(h0, .inr (10, [.null, .null, .null, .null, .null, .null, .int 0, .int 0, .int 0]))])) (va_Qv (fun (_ : Unit) => True) (fun _ t => ∃ (qx0 : Nat), ∃ (qx1 : Nat), ∃ (qx2 : Nat), ∃ (qx3 : Nat), ∃ (qd4 : Nat), ∃ (qd5 : Nat), ∃ (qd6 : Nat), ∃ (qd7 : Nat), ∃ (qd8 : Nat), Pst dC dI [] (va_A [(h0, .inr (10, [.null, .null, .null, .null, .null, .null, .int 0, .int 0, .int 0]))] sz) [(h0, .inr (10, [.ref qx0, .ref qx1, .ref qx2, .ref qx3, .ref qd4, .ref qd5, .int 0, .int 0, .int 0])), (qx0, .inr (4, [.int 0, .ref tE, .int 0])), (qx1, .inr (4, [.int 0, .ref tE, .int 0])), (qx2, .inr (4, [.int 0, .ref tE, .int 0])), (qx3, .inr (8, [.int 0, .ref qd6, .ref qd7, .ref qd8]))] t) (va_A [(h0, .inr (10, [.null, .null, .null, .null, .null, .null, .int 0, .int 0, .int 0]))] sz)) 44 701 (va_A [(h0, .inr (10, [.null, .null, .null, .null, .null, .null, .int 0, .int 0, .int 0]))] sz) := by
  refine Met.ofW (cc := cX5_init) (maxL := 3) (ret := none) (by decide) rfl ?_
  intro p e s m args below meth c s₁ B hml hv
  obtain ⟨rfl, hsz, hP, hK, hD0, hT⟩ := hv
  have hx := B.exec
  have hb := B.bytes
  have hr := B.returns
  have hts := atoms_spec (ws := v_c_init) B.pre
  have hown : s.vm.findClass RX5 = some m.cls := findClass_of_methodNamed B.named
  have hlocks := B.notSynchronized
  have hin : meth.name = "<init>" := (name_of_methodNamed B.named B.method).1
  subst hsz
  have hD := hD0.self (sz := s.heap.size)
  generalize hAe : va_A [(h0, .inr (10, [.null, .null, .null, .null, .null, .null, .int 0, .int 0, .int 0]))] s.heap.size = A at hD hT ⊢
  have hA : ∀ q : Nat, s.heap.size ≤ q → A q := fun q h => by rw [← hAe]; exact Or.inr h
  have hS : va_S A s.heap s.heap [] := va_S.rf
  have hl := lv_entry ([.ref h0]) (n := 3) (Nat.le_of_ble_eq_true rfl)
  rw [lg_entry_eq]
  generalize (lg_sl ([.ref h0]) ++ List.replicate (3 - (lg_sl ([.ref h0])).length) Slot.unset).toArray = ls at hl ⊢
  have hl : lv_has ls 3 [(0, .ref h0)] := hl
  refine lv_aload_n hx hb dX5_init_0 rfl (lv_at hl 0 rfl) ?_
  refine W.objInit hx hb hown (hts (.methodLink RX5 1 objectInit) (List.mem_of_getElem? (i := 1) rfl)) (hts (.instanceMethod objectInit) (List.mem_of_getElem? (i := 2) rfl)) (hts (.code objectInit ⟨#[0xb1]⟩ 1 none) (List.mem_of_getElem? (i := 3) rfl)) rfl (by rw [hml]; exact hl.1) rfl dX5_init_1 (Nat.le_of_ble_eq_true rfl) (Nat.le_of_ble_eq_true rfl) ?_
  refine W.eq (g2 := F0 m 4 ls []) rfl ?_
  refine lv_aload_n hx hb dX5_init_4 rfl (lv_at hl 0 rfl) ?_
  refine va_new (ci := 4) (fs := [.int 0, .null, .int 0]) (C := RJx4a65c) (T := TJx4a65c) (N := 3) hx hb hts u_c_init_Jx4a65c tyJx4a65c tyJx4a65c_ok hown (hts (.classLink RX5 7 RJx4a65c) (List.mem_of_getElem? (i := 4) rfl)) (hts (.instantiable RJx4a65c 3) (List.mem_of_getElem? (i := 5) rfl)) (hts (.initialized RJx4a65c) (List.mem_of_getElem? (i := 6) rfl)) hK hP hD hS hA rfl (fun j hj => by rcases (show j = 0 ∨ j = 1 ∨ j = 2 by omega) with rfl | rfl | rfl <;> rfl) (Nat.le_of_ble_eq_true rfl) (Nat.le_of_ble_eq_true rfl) dX5_init_5 (fun q_1 H hP hD hS => ?_)
  have hP : va_P (dC, dI) vwCl [(h0, .inr (10, [.null, .null, .null, .null, .null, .null, .int 0, .int 0, .int 0])), (q_1, .inr (4, [.int 0, .null, .int 0]))] H := hP
  have hD : va_D A [(h0, .inr (10, [.null, .null, .null, .null, .null, .null, .int 0, .int 0, .int 0])), (q_1, .inr (4, [.int 0, .null, .int 0]))] := hD
  refine W.widen (k := 1) (n := 3) (by omega) (by omega) ?_
  refine lv_dup hx hb dX5_init_8 rfl ?_
  have hPc := hP.sub (ws' := [(q_1, .inr (4, [.int 0, .null, .int 0]))]) [1] rfl
  have hDc := hD.sub (ws' := [(q_1, .inr (4, [.int 0, .null, .int 0]))]) [1] (by decide) rfl
  have hKc := hK.sub (tys' := []) [] rfl
  have hFc := va_free (wc := [(q_1, .inr (4, [.int 0, .null, .int 0]))]) hD hS hA [1] rfl
  refine va_callv (va_runI (As := []) (rest := [.ref q_1, .ref h0]) ⟨hx, hb, hml, hown, hts⟩ (c_AL_init l hl9 dC dI tE q_1 _ ) (cwI 0 hts gg_c_init_c_AL_init rfl rfl rfl (hts (.initialized RJx4a65c) (List.mem_of_getElem? (i := 6) rfl)) (hts (.methodLink RX5 9 yJx4a65c_init_da8c8) (List.mem_of_getElem? (i := 20) rfl)) (hts (.instanceMethod yJx4a65c_init_da8c8) (List.mem_of_getElem? (i := 21) rfl)) rfl (by decide +kernel) ⟨Nat.le_of_ble_eq_true rfl, Nat.le_of_ble_eq_true rfl⟩) ⟨Pre0.blind, Pre0.give hPc hKc hDc hT hS hFc⟩ rfl rfl hl.1 rfl (lv_room (Nat.le_of_ble_eq_true rfl)) dX5_init_9 ⟨Nat.le_of_ble_eq_true rfl, Nat.le_of_ble_eq_true rfl⟩) hS (fun q _ h => hFc q h) hFc (fun u t H1 locs ht hvm hw hB hz1 hk1 hS => ?_)
  obtain ⟨hP1, hK1, hD1⟩ := hB
  rw [ht] at hP1
  have hK1 := va_K.moved hvm.symm hK1
  obtain ⟨hP, hD⟩ := va_join (wr := [(h0, .inr (10, [.null, .null, .null, .null, .null, .null, .int 0, .int 0, .int 0]))]) (w1 := [(q_1, .inr (4, [.int 0, .ref tE, .int 0]))]) hP hD [1] [0] rfl rfl (by decide) (by decide) hk1 hFc hP1 hD1
  generalize H1 = H at hP hS ⊢
  have hP : va_P (dC, dI) vwCl [(h0, .inr (10, [.null, .null, .null, .null, .null, .null, .int 0, .int 0, .int 0])), (q_1, .inr (4, [.int 0, .ref tE, .int 0]))] H := hP
  have hD : va_D A [(h0, .inr (10, [.null, .null, .null, .null, .null, .null, .int 0, .int 0, .int 0])), (q_1, .inr (4, [.int 0, .ref tE, .int 0]))] := hD
  refine W.widen (k := 1) (n := 3) (by omega) (by omega) ?_
  refine va_putF (D := (dC, dI)) (ci := 10) (v := .ref q_1) (ty := .object "java/util/ArrayList") (C := RX5) (T := TX5) (N := 9) hx hb hts u_c_init_X5 tyX5 tyX5_ok nmX5 hown hK hP hD hS 0 rfl rfl 0 (by decide) (hts (.fieldLink RX5 10 "HotelOfBells" "floors" "Ljava/util/ArrayList;") (List.mem_of_getElem? (i := 22) rfl)) (fun _ h9 => h9) rfl hin rfl (by decide +kernel) rfl rfl (Nat.le_of_ble_eq_true rfl) dX5_init_12 (fun H locs hP hD hS => ?_)
  have hP : va_P (dC, dI) vwCl [(h0, .inr (10, [.ref q_1, .null, .null, .null, .null, .null, .int 0, .int 0, .int 0])), (q_1, .inr (4, [.int 0, .ref tE, .int 0]))] H := hP
  have hD : va_D A [(h0, .inr (10, [.ref q_1, .null, .null, .null, .null, .null, .int 0, .int 0, .int 0])), (q_1, .inr (4, [.int 0, .ref tE, .int 0]))] := hD
  refine lv_aload_n hx hb dX5_init_15 rfl (lv_at hl 0 rfl) ?_
  refine va_new (ci := 4) (fs := [.int 0, .null, .int 0]) (C := RJx4a65c) (T := TJx4a65c) (N := 3) hx hb hts u_c_init_Jx4a65c tyJx4a65c tyJx4a65c_ok hown (hts (.classLink RX5 7 RJx4a65c) (List.mem_of_getElem? (i := 4) rfl)) (hts (.instantiable RJx4a65c 3) (List.mem_of_getElem? (i := 5) rfl)) (hts (.initialized RJx4a65c) (List.mem_of_getElem? (i := 6) rfl)) hK hP hD hS hA rfl (fun j hj => by rcases (show j = 0 ∨ j = 1 ∨ j = 2 by omega) with rfl | rfl | rfl <;> rfl) (Nat.le_of_ble_eq_true rfl) (Nat.le_of_ble_eq_true rfl) dX5_init_16 (fun q_3 H hP hD hS => ?_)
  have hP : va_P (dC, dI) vwCl [(h0, .inr (10, [.ref q_1, .null, .null, .null, .null, .null, .int 0, .int 0, .int 0])), (q_1, .inr (4, [.int 0, .ref tE, .int 0])), (q_3, .inr (4, [.int 0, .null, .int 0]))] H := hP
  have hD : va_D A [(h0, .inr (10, [.ref q_1, .null, .null, .null, .null, .null, .int 0, .int 0, .int 0])), (q_1, .inr (4, [.int 0, .ref tE, .int 0])), (q_3, .inr (4, [.int 0, .null, .int 0]))] := hD
  refine W.widen (k := 2) (n := 6) (by omega) (by omega) ?_
  refine lv_dup hx hb dX5_init_19 rfl ?_
  have hPc := hP.sub (ws' := [(q_3, .inr (4, [.int 0, .null, .int 0]))]) [2] rfl
  have hDc := hD.sub (ws' := [(q_3, .inr (4, [.int 0, .null, .int 0]))]) [2] (by decide) rfl
  have hKc := hK.sub (tys' := []) [] rfl
  have hFc := va_free (wc := [(q_3, .inr (4, [.int 0, .null, .int 0]))]) hD hS hA [2] rfl
  refine va_callv (va_runI (As := []) (rest := [.ref q_3, .ref h0]) ⟨hx, hb, hml, hown, hts⟩ (c_AL_init l hl9 dC dI tE q_3 _ ) (cwI 0 hts gg_c_init_c_AL_init rfl rfl rfl (hts (.initialized RJx4a65c) (List.mem_of_getElem? (i := 6) rfl)) (hts (.methodLink RX5 9 yJx4a65c_init_da8c8) (List.mem_of_getElem? (i := 20) rfl)) (hts (.instanceMethod yJx4a65c_init_da8c8) (List.mem_of_getElem? (i := 21) rfl)) rfl (by decide +kernel) ⟨Nat.le_of_ble_eq_true rfl, Nat.le_of_ble_eq_true rfl⟩) ⟨Pre0.blind, Pre0.give hPc hKc hDc hT hS hFc⟩ rfl rfl hl.1 rfl (lv_room (Nat.le_of_ble_eq_true rfl)) dX5_init_20 ⟨Nat.le_of_ble_eq_true rfl, Nat.le_of_ble_eq_true rfl⟩) hS (fun q _ h => hFc q h) hFc (fun u t H1 locs ht hvm hw hB hz1 hk1 hS => ?_)
  obtain ⟨hP1, hK1, hD1⟩ := hB
  rw [ht] at hP1
  have hK1 := va_K.moved hvm.symm hK1
  obtain ⟨hP, hD⟩ := va_join (wr := [(h0, .inr (10, [.ref q_1, .null, .null, .null, .null, .null, .int 0, .int 0, .int 0])), (q_1, .inr (4, [.int 0, .ref tE, .int 0]))]) (w1 := [(q_3, .inr (4, [.int 0, .ref tE, .int 0]))]) hP hD [2] [0, 1] rfl rfl (by decide) (by decide) hk1 hFc hP1 hD1
  generalize H1 = H at hP hS ⊢
  have hP : va_P (dC, dI) vwCl [(h0, .inr (10, [.ref q_1, .null, .null, .null, .null, .null, .int 0, .int 0, .int 0])), (q_1, .inr (4, [.int 0, .ref tE, .int 0])), (q_3, .inr (4, [.int 0, .ref tE, .int 0]))] H := hP
  have hD : va_D A [(h0, .inr (10, [.ref q_1, .null, .null, .null, .null, .null, .int 0, .int 0, .int 0])), (q_1, .inr (4, [.int 0, .ref tE, .int 0])), (q_3, .inr (4, [.int 0, .ref tE, .int 0]))] := hD
  refine W.widen (k := 2) (n := 6) (by omega) (by omega) ?_
  refine va_putF (D := (dC, dI)) (ci := 10) (v := .ref q_3) (ty := .object "java/util/ArrayList") (C := RX5) (T := TX5) (N := 9) hx hb hts u_c_init_X5 tyX5 tyX5_ok nmX5 hown hK hP hD hS 0 rfl rfl 1 (by decide) (hts (.fieldLink RX5 16 "HotelOfBells" "shafts" "Ljava/util/ArrayList;") (List.mem_of_getElem? (i := 23) rfl)) (fun _ h9 => h9) rfl hin rfl (by decide +kernel) rfl rfl (Nat.le_of_ble_eq_true rfl) dX5_init_23 (fun H locs hP hD hS => ?_)
  have hP : va_P (dC, dI) vwCl [(h0, .inr (10, [.ref q_1, .ref q_3, .null, .null, .null, .null, .int 0, .int 0, .int 0])), (q_1, .inr (4, [.int 0, .ref tE, .int 0])), (q_3, .inr (4, [.int 0, .ref tE, .int 0]))] H := hP
  have hD : va_D A [(h0, .inr (10, [.ref q_1, .ref q_3, .null, .null, .null, .null, .int 0, .int 0, .int 0])), (q_1, .inr (4, [.int 0, .ref tE, .int 0])), (q_3, .inr (4, [.int 0, .ref tE, .int 0]))] := hD
  refine lv_aload_n hx hb dX5_init_26 rfl (lv_at hl 0 rfl) ?_
  refine va_new (ci := 4) (fs := [.int 0, .null, .int 0]) (C := RJx4a65c) (T := TJx4a65c) (N := 3) hx hb hts u_c_init_Jx4a65c tyJx4a65c tyJx4a65c_ok hown (hts (.classLink RX5 7 RJx4a65c) (List.mem_of_getElem? (i := 4) rfl)) (hts (.instantiable RJx4a65c 3) (List.mem_of_getElem? (i := 5) rfl)) (hts (.initialized RJx4a65c) (List.mem_of_getElem? (i := 6) rfl)) hK hP hD hS hA rfl (fun j hj => by rcases (show j = 0 ∨ j = 1 ∨ j = 2 by omega) with rfl | rfl | rfl <;> rfl) (Nat.le_of_ble_eq_true rfl) (Nat.le_of_ble_eq_true rfl) dX5_init_27 (fun q_5 H hP hD hS => ?_)
  have hP : va_P (dC, dI) vwCl [(h0, .inr (10, [.ref q_1, .ref q_3, .null, .null, .null, .null, .int 0, .int 0, .int 0])), (q_1, .inr (4, [.int 0, .ref tE, .int 0])), (q_3, .inr (4, [.int 0, .ref tE, .int 0])), (q_5, .inr (4, [.int 0, .null, .int 0]))] H := hP
  have hD : va_D A [(h0, .inr (10, [.ref q_1, .ref q_3, .null, .null, .null, .null, .int 0, .int 0, .int 0])), (q_1, .inr (4, [.int 0, .ref tE, .int 0])), (q_3, .inr (4, [.int 0, .ref tE, .int 0])), (q_5, .inr (4, [.int 0, .null, .int 0]))] := hD
  refine W.widen (k := 3) (n := 9) (by omega) (by omega) ?_
  refine lv_dup hx hb dX5_init_30 rfl ?_
  have hPc := hP.sub (ws' := [(q_5, .inr (4, [.int 0, .null, .int 0]))]) [3] rfl
  have hDc := hD.sub (ws' := [(q_5, .inr (4, [.int 0, .null, .int 0]))]) [3] (by decide) rfl
  have hKc := hK.sub (tys' := []) [] rfl
  have hFc := va_free (wc := [(q_5, .inr (4, [.int 0, .null, .int 0]))]) hD hS hA [3] rfl
  refine va_callv (va_runI (As := []) (rest := [.ref q_5, .ref h0]) ⟨hx, hb, hml, hown, hts⟩ (c_AL_init l hl9 dC dI tE q_5 _ ) (cwI 0 hts gg_c_init_c_AL_init rfl rfl rfl (hts (.initialized RJx4a65c) (List.mem_of_getElem? (i := 6) rfl)) (hts (.methodLink RX5 9 yJx4a65c_init_da8c8) (List.mem_of_getElem? (i := 20) rfl)) (hts (.instanceMethod yJx4a65c_init_da8c8) (List.mem_of_getElem? (i := 21) rfl)) rfl (by decide +kernel) ⟨Nat.le_of_ble_eq_true rfl, Nat.le_of_ble_eq_true rfl⟩) ⟨Pre0.blind, Pre0.give hPc hKc hDc hT hS hFc⟩ rfl rfl hl.1 rfl (lv_room (Nat.le_of_ble_eq_true rfl)) dX5_init_31 ⟨Nat.le_of_ble_eq_true rfl, Nat.le_of_ble_eq_true rfl⟩) hS (fun q _ h => hFc q h) hFc (fun u t H1 locs ht hvm hw hB hz1 hk1 hS => ?_)
  obtain ⟨hP1, hK1, hD1⟩ := hB
  rw [ht] at hP1
  have hK1 := va_K.moved hvm.symm hK1
  obtain ⟨hP, hD⟩ := va_join (wr := [(h0, .inr (10, [.ref q_1, .ref q_3, .null, .null, .null, .null, .int 0, .int 0, .int 0])), (q_1, .inr (4, [.int 0, .ref tE, .int 0])), (q_3, .inr (4, [.int 0, .ref tE, .int 0]))]) (w1 := [(q_5, .inr (4, [.int 0, .ref tE, .int 0]))]) hP hD [3] [0, 1, 2] rfl rfl (by decide) (by decide) hk1 hFc hP1 hD1
  generalize H1 = H at hP hS ⊢
  have hP : va_P (dC, dI) vwCl [(h0, .inr (10, [.ref q_1, .ref q_3, .null, .null, .null, .null, .int 0, .int 0, .int 0])), (q_1, .inr (4, [.int 0, .ref tE, .int 0])), (q_3, .inr (4, [.int 0, .ref tE, .int 0])), (q_5, .inr (4, [.int 0, .ref tE, .int 0]))] H := hP
  have hD : va_D A [(h0, .inr (10, [.ref q_1, .ref q_3, .null, .null, .null, .null, .int 0, .int 0, .int 0])), (q_1, .inr (4, [.int 0, .ref tE, .int 0])), (q_3, .inr (4, [.int 0, .ref tE, .int 0])), (q_5, .inr (4, [.int 0, .ref tE, .int 0]))] := hD
  refine W.widen (k := 3) (n := 9) (by omega) (by omega) ?_
  refine va_putF (D := (dC, dI)) (ci := 10) (v := .ref q_5) (ty := .object "java/util/ArrayList") (C := RX5) (T := TX5) (N := 9) hx hb hts u_c_init_X5 tyX5 tyX5_ok nmX5 hown hK hP hD hS 0 rfl rfl 2 (by decide) (hts (.fieldLink RX5 19 "HotelOfBells" "guests" "Ljava/util/ArrayList;") (List.mem_of_getElem? (i := 24) rfl)) (fun _ h9 => h9) rfl hin rfl (by decide +kernel) rfl rfl (Nat.le_of_ble_eq_true rfl) dX5_init_34 (fun H locs hP hD hS => ?_)
  have hP : va_P (dC, dI) vwCl [(h0, .inr (10, [.ref q_1, .ref q_3, .ref q_5, .null, .null, .null, .int 0, .int 0, .int 0])), (q_1, .inr (4, [.int 0, .ref tE, .int 0])), (q_3, .inr (4, [.int 0, .ref tE, .int 0])), (q_5, .inr (4, [.int 0, .ref tE, .int 0]))] H := hP
  have hD : va_D A [(h0, .inr (10, [.ref q_1, .ref q_3, .ref q_5, .null, .null, .null, .int 0, .int 0, .int 0])), (q_1, .inr (4, [.int 0, .ref tE, .int 0])), (q_3, .inr (4, [.int 0, .ref tE, .int 0])), (q_5, .inr (4, [.int 0, .ref tE, .int 0]))] := hD
  refine lv_aload_n hx hb dX5_init_37 rfl (lv_at hl 0 rfl) ?_
  refine va_new (ci := 8) (fs := [.int 0, .null, .null, .null]) (C := RX3) (T := TX3) (N := 4) hx hb hts u_c_init_X3 tyX3 tyX3_ok hown (hts (.classLink RX5 22 RX3) (List.mem_of_getElem? (i := 25) rfl)) (hts (.instantiable RX3 4) (List.mem_of_getElem? (i := 26) rfl)) (hts (.initialized RX3) (List.mem_of_getElem? (i := 27) rfl)) hK hP hD hS hA rfl (fun j hj => by rcases (show j = 0 ∨ j = 1 ∨ j = 2 ∨ j = 3 by omega) with rfl | rfl | rfl | rfl <;> rfl) (Nat.le_of_ble_eq_true rfl) (Nat.le_of_ble_eq_true rfl) dX5_init_38 (fun q_7 H hP hD hS => ?_)
  have hP : va_P (dC, dI) vwCl [(h0, .inr (10, [.ref q_1, .ref q_3, .ref q_5, .null, .null, .null, .int 0, .int 0, .int 0])), (q_1, .inr (4, [.int 0, .ref tE, .int 0])), (q_3, .inr (4, [.int 0, .ref tE, .int 0])), (q_5, .inr (4, [.int 0, .ref tE, .int 0])), (q_7, .inr (8, [.int 0, .null, .null, .null]))] H := hP
  have hD : va_D A [(h0, .inr (10, [.ref q_1, .ref q_3, .ref q_5, .null, .null, .null, .int 0, .int 0, .int 0])), (q_1, .inr (4, [.int 0, .ref tE, .int 0])), (q_3, .inr (4, [.int 0, .ref tE, .int 0])), (q_5, .inr (4, [.int 0, .ref tE, .int 0])), (q_7, .inr (8, [.int 0, .null, .null, .null]))] := hD
  refine W.widen (k := 4) (n := 13) (by omega) (by omega) ?_
  refine lv_dup hx hb dX5_init_41 rfl ?_
  have hPc := hP.sub (ws' := [(q_7, .inr (8, [.int 0, .null, .null, .null]))]) [4] rfl
  have hDc := hD.sub (ws' := [(q_7, .inr (8, [.int 0, .null, .null, .null]))]) [4] (by decide) rfl
  have hKc := hK.sub (tys' := []) [] rfl
  have hFc := va_free (wc := [(q_7, .inr (8, [.int 0, .null, .null, .null]))]) hD hS hA [4] rfl
  refine va_callv (va_runIN (As := []) (rest := [.ref q_7, .ref h0]) ⟨hx, hb, hml, hown, hts⟩ (c_Moment_init l hl9 dC dI tE q_7 _ ) ⟨va_cnB 0 hts gg_c_init_c_Moment_init rfl rfl rfl hT.n2 (hts (.initialized RX3) (List.mem_of_getElem? (i := 27) rfl)) (by decide +kernel) ⟨Nat.le_of_ble_eq_true rfl, Nat.le_of_ble_eq_true rfl⟩, rfl, (hts (.instanceMethod yX3_init) (List.mem_of_getElem? (i := 35) rfl))⟩ ⟨Pre0.blind, Pre0.give hPc hKc hDc hT hS hFc⟩ rfl rfl hl.1 rfl (lv_room (Nat.le_of_ble_eq_true rfl)) dX5_init_42 ⟨Nat.le_of_ble_eq_true rfl, Nat.le_of_ble_eq_true rfl⟩) hS (fun q _ h => hFc q h) hFc (fun u t H1 locs ht hvm hw hB hz1 hk1 hS => ?_)
  obtain ⟨qx_9, qx_10, qx_11, cx_12, cx_13, cx_14, hP1, hK1, hD1⟩ := hB
  rw [ht] at hP1
  have hK1 := va_K.moved hvm.symm hK1
  obtain ⟨hP, hD⟩ := va_join (wr := [(h0, .inr (10, [.ref q_1, .ref q_3, .ref q_5, .null, .null, .null, .int 0, .int 0, .int 0])), (q_1, .inr (4, [.int 0, .ref tE, .int 0])), (q_3, .inr (4, [.int 0, .ref tE, .int 0])), (q_5, .inr (4, [.int 0, .ref tE, .int 0]))]) (w1 := [(q_7, .inr (8, [.int 0, .ref qx_9, .ref qx_10, .ref qx_11])), (qx_9, .inl (cx_12, 6, .inl (fun _ => 0))), (qx_10, .inl (cx_13, 4, .inl (fun _ => 0))), (qx_11, .inl (cx_14, 4, .inl (fun _ => 0)))]) hP hD [4] [0, 1, 2, 3] rfl rfl (by decide) (by decide) hk1 hFc hP1 hD1
  have hK := hK.app (hK1.sub (tys' := [(cx_12, .int), (cx_13, .int), (cx_14, .boolean)]) [0, 1, 2] rfl)
  have hK : va_K (dC, dI) vwCl [(cx_12, .int), (cx_13, .int), (cx_14, .boolean)] s := hK
  generalize H1 = H at hP hS ⊢
  have hP : va_P (dC, dI) vwCl [(h0, .inr (10, [.ref q_1, .ref q_3, .ref q_5, .null, .null, .null, .int 0, .int 0, .int 0])), (q_1, .inr (4, [.int 0, .ref tE, .int 0])), (q_3, .inr (4, [.int 0, .ref tE, .int 0])), (q_5, .inr (4, [.int 0, .ref tE, .int 0])), (q_7, .inr (8, [.int 0, .ref qx_9, .ref qx_10, .ref qx_11])), (qx_9, .inl (cx_12, 6, .inl (fun _ => 0))), (qx_10, .inl (cx_13, 4, .inl (fun _ => 0))), (qx_11, .inl (cx_14, 4, .inl (fun _ => 0)))] H := hP
  have hD : va_D A [(h0, .inr (10, [.ref q_1, .ref q_3, .ref q_5, .null, .null, .null, .int 0, .int 0, .int 0])), (q_1, .inr (4, [.int 0, .ref tE, .int 0])), (q_3, .inr (4, [.int 0, .ref tE, .int 0])), (q_5, .inr (4, [.int 0, .ref tE, .int 0])), (q_7, .inr (8, [.int 0, .ref qx_9, .ref qx_10, .ref qx_11])), (qx_9, .inl (cx_12, 6, .inl (fun _ => 0))), (qx_10, .inl (cx_13, 4, .inl (fun _ => 0))), (qx_11, .inl (cx_14, 4, .inl (fun _ => 0)))] := hD
  refine W.widen (k := 7) (n := 27) (by omega) (by omega) ?_
  refine va_putF (D := (dC, dI)) (ci := 10) (v := .ref q_7) (ty := .object "HotelOfBells$Moment") (C := RX5) (T := TX5) (N := 9) hx hb hts u_c_init_X5 tyX5 tyX5_ok nmX5 hown hK hP hD hS 0 rfl rfl 3 (by decide) (hts (.fieldLink RX5 25 "HotelOfBells" "now" "LHotelOfBells$Moment;") (List.mem_of_getElem? (i := 36) rfl)) (fun _ h9 => h9) rfl hin rfl (by decide +kernel) rfl rfl (Nat.le_of_ble_eq_true rfl) dX5_init_45 (fun H locs hP hD hS => ?_)
  have hP : va_P (dC, dI) vwCl [(h0, .inr (10, [.ref q_1, .ref q_3, .ref q_5, .ref q_7, .null, .null, .int 0, .int 0, .int 0])), (q_1, .inr (4, [.int 0, .ref tE, .int 0])), (q_3, .inr (4, [.int 0, .ref tE, .int 0])), (q_5, .inr (4, [.int 0, .ref tE, .int 0])), (q_7, .inr (8, [.int 0, .ref qx_9, .ref qx_10, .ref qx_11])), (qx_9, .inl (cx_12, 6, .inl (fun _ => 0))), (qx_10, .inl (cx_13, 4, .inl (fun _ => 0))), (qx_11, .inl (cx_14, 4, .inl (fun _ => 0)))] H := hP
  have hD : va_D A [(h0, .inr (10, [.ref q_1, .ref q_3, .ref q_5, .ref q_7, .null, .null, .int 0, .int 0, .int 0])), (q_1, .inr (4, [.int 0, .ref tE, .int 0])), (q_3, .inr (4, [.int 0, .ref tE, .int 0])), (q_5, .inr (4, [.int 0, .ref tE, .int 0])), (q_7, .inr (8, [.int 0, .ref qx_9, .ref qx_10, .ref qx_11])), (qx_9, .inl (cx_12, 6, .inl (fun _ => 0))), (qx_10, .inl (cx_13, 4, .inl (fun _ => 0))), (qx_11, .inl (cx_14, 4, .inl (fun _ => 0)))] := hD
  refine lv_aload_n hx hb dX5_init_48 rfl (lv_at hl 0 rfl) ?_
  refine lv_sipush (v := 512) hx hb dX5_init_49 (by decide) ?_
  refine va_newa (atype := .byte) (ty := .byte) (N' := 512) (a0 := (512, .inl (fun _ => 0))) hx hb (hts (.arrayClass .byte) (List.mem_of_getElem? (i := 37) rfl)) rfl hK hP hD hS hA (fun _ => rfl) (by decide) (by decide) (Nat.le_of_ble_eq_true rfl) (Nat.le_of_ble_eq_true rfl) (Nat.le_of_ble_eq_true rfl) dX5_init_52 (fun q_15 cA_16 H hK hP hD hS => ?_)
  have hP : va_P (dC, dI) vwCl [(h0, .inr (10, [.ref q_1, .ref q_3, .ref q_5, .ref q_7, .null, .null, .int 0, .int 0, .int 0])), (q_1, .inr (4, [.int 0, .ref tE, .int 0])), (q_3, .inr (4, [.int 0, .ref tE, .int 0])), (q_5, .inr (4, [.int 0, .ref tE, .int 0])), (q_7, .inr (8, [.int 0, .ref qx_9, .ref qx_10, .ref qx_11])), (qx_9, .inl (cx_12, 6, .inl (fun _ => 0))), (qx_10, .inl (cx_13, 4, .inl (fun _ => 0))), (qx_11, .inl (cx_14, 4, .inl (fun _ => 0))), (q_15, .inl (cA_16, 512, .inl (fun _ => 0)))] H := hP
  have hD : va_D A [(h0, .inr (10, [.ref q_1, .ref q_3, .ref q_5, .ref q_7, .null, .null, .int 0, .int 0, .int 0])), (q_1, .inr (4, [.int 0, .ref tE, .int 0])), (q_3, .inr (4, [.int 0, .ref tE, .int 0])), (q_5, .inr (4, [.int 0, .ref tE, .int 0])), (q_7, .inr (8, [.int 0, .ref qx_9, .ref qx_10, .ref qx_11])), (qx_9, .inl (cx_12, 6, .inl (fun _ => 0))), (qx_10, .inl (cx_13, 4, .inl (fun _ => 0))), (qx_11, .inl (cx_14, 4, .inl (fun _ => 0))), (q_15, .inl (cA_16, 512, .inl (fun _ => 0)))] := hD
  have hK : va_K (dC, dI) vwCl [(cx_12, .int), (cx_13, .int), (cx_14, .boolean), (cA_16, .byte)] s := hK
  refine W.widen (k := 8) (n := 539) (by omega) (by omega) ?_
  refine va_putF (D := (dC, dI)) (ci := 10) (v := .ref q_15) (ty := .array .byte) (C := RX5) (T := TX5) (N := 9) hx hb hts u_c_init_X5 tyX5 tyX5_ok nmX5 hown hK hP hD hS 0 rfl rfl 5 (by decide) (hts (.fieldLink RX5 29 "HotelOfBells" "paper" "[B") (List.mem_of_getElem? (i := 38) rfl)) (fun _ h9 => h9) rfl hin rfl (by decide +kernel) rfl rfl (Nat.le_of_ble_eq_true rfl) dX5_init_54 (fun H locs hP hD hS => ?_)
  have hP : va_P (dC, dI) vwCl [(h0, .inr (10, [.ref q_1, .ref q_3, .ref q_5, .ref q_7, .null, .ref q_15, .int 0, .int 0, .int 0])), (q_1, .inr (4, [.int 0, .ref tE, .int 0])), (q_3, .inr (4, [.int 0, .ref tE, .int 0])), (q_5, .inr (4, [.int 0, .ref tE, .int 0])), (q_7, .inr (8, [.int 0, .ref qx_9, .ref qx_10, .ref qx_11])), (qx_9, .inl (cx_12, 6, .inl (fun _ => 0))), (qx_10, .inl (cx_13, 4, .inl (fun _ => 0))), (qx_11, .inl (cx_14, 4, .inl (fun _ => 0))), (q_15, .inl (cA_16, 512, .inl (fun _ => 0)))] H := hP
  have hD : va_D A [(h0, .inr (10, [.ref q_1, .ref q_3, .ref q_5, .ref q_7, .null, .ref q_15, .int 0, .int 0, .int 0])), (q_1, .inr (4, [.int 0, .ref tE, .int 0])), (q_3, .inr (4, [.int 0, .ref tE, .int 0])), (q_5, .inr (4, [.int 0, .ref tE, .int 0])), (q_7, .inr (8, [.int 0, .ref qx_9, .ref qx_10, .ref qx_11])), (qx_9, .inl (cx_12, 6, .inl (fun _ => 0))), (qx_10, .inl (cx_13, 4, .inl (fun _ => 0))), (qx_11, .inl (cx_14, 4, .inl (fun _ => 0))), (q_15, .inl (cA_16, 512, .inl (fun _ => 0)))] := hD
  refine lv_null hx hb dX5_init_57 ?_
  refine lv_astore_nN (lv' := [(1, .null), (0, .ref h0)]) hx hb dX5_init_58 rfl hl (by decide) rfl (fun ls hl => ?_)
  refine lv_iconst (v := 0) hx hb dX5_init_59 (by decide) ?_
  refine lv_istore_n (lv' := [(2, .int 0), (1, .null), (0, .ref h0)]) hx hb dX5_init_60 rfl hl (by decide) rfl (fun ls hl => ?_)
  refine lv_iload_n hx hb dX5_init_61 rfl (lv_at hl 0 rfl) ?_
  refine lv_iconst (v := 5) hx hb dX5_init_62 (by decide) ?_
  refine lv_icmp_ge (tgt := 81) hx hb dX5_init_63 (by decide) (fun c_17 => absurd c_17 (by decide)) (fun _ => ?_)
  refine va_new (ci := 5) (fs := [.null, .null, .null]) (C := RX0) (T := TX0) (N := 3) hx hb hts u_c_init_X0 tyX0 tyX0_ok hown (hts (.classLink RX5 33 RX0) (List.mem_of_getElem? (i := 39) rfl)) (hts (.instantiable RX0 3) (List.mem_of_getElem? (i := 40) rfl)) (hts (.initialized RX0) (List.mem_of_getElem? (i := 41) rfl)) hK hP hD hS hA rfl (fun j hj => by rcases (show j = 0 ∨ j = 1 ∨ j = 2 by omega) with rfl | rfl | rfl <;> rfl) (Nat.le_of_ble_eq_true rfl) (Nat.le_of_ble_eq_true rfl) dX5_init_66 (fun q_18 H hP hD hS => ?_)
  have hP : va_P (dC, dI) vwCl [(h0, .inr (10, [.ref q_1, .ref q_3, .ref q_5, .ref q_7, .null, .ref q_15, .int 0, .int 0, .int 0])), (q_1, .inr (4, [.int 0, .ref tE, .int 0])), (q_3, .inr (4, [.int 0, .ref tE, .int 0])), (q_5, .inr (4, [.int 0, .ref tE, .int 0])), (q_7, .inr (8, [.int 0, .ref qx_9, .ref qx_10, .ref qx_11])), (qx_9, .inl (cx_12, 6, .inl (fun _ => 0))), (qx_10, .inl (cx_13, 4, .inl (fun _ => 0))), (qx_11, .inl (cx_14, 4, .inl (fun _ => 0))), (q_15, .inl (cA_16, 512, .inl (fun _ => 0))), (q_18, .inr (5, [.null, .null, .null]))] H := hP
  have hD : va_D A [(h0, .inr (10, [.ref q_1, .ref q_3, .ref q_5, .ref q_7, .null, .ref q_15, .int 0, .int 0, .int 0])), (q_1, .inr (4, [.int 0, .ref tE, .int 0])), (q_3, .inr (4, [.int 0, .ref tE, .int 0])), (q_5, .inr (4, [.int 0, .ref tE, .int 0])), (q_7, .inr (8, [.int 0, .ref qx_9, .ref qx_10, .ref qx_11])), (qx_9, .inl (cx_12, 6, .inl (fun _ => 0))), (qx_10, .inl (cx_13, 4, .inl (fun _ => 0))), (qx_11, .inl (cx_14, 4, .inl (fun _ => 0))), (q_15, .inl (cA_16, 512, .inl (fun _ => 0))), (q_18, .inr (5, [.null, .null, .null]))] := hD
  refine W.widen (k := 9) (n := 542) (by omega) (by omega) ?_
  refine lv_dup hx hb dX5_init_69 rfl ?_
  refine lv_aload_nN hx hb dX5_init_70 rfl (lv_at hl 1 rfl) ?_
  have hPc := hP.sub (ws' := [(q_18, .inr (5, [.null, .null, .null]))]) [9] rfl
  have hDc := hD.sub (ws' := [(q_18, .inr (5, [.null, .null, .null]))]) [9] (by decide) rfl
  have hKc := hK.sub (tys' := []) [] rfl
  have hFc := va_free (wc := [(q_18, .inr (5, [.null, .null, .null]))]) hD hS hA [9] rfl
  refine va_callv (va_runI (As := [.null]) (rest := [.ref q_18]) ⟨hx, hb, hml, hown, hts⟩ (c_Dream_init_n l hl9 dC dI tE q_18 _ ) (cwI 1 hts gg_c_init_c_Dream_init_n rfl rfl rfl (hts (.initialized RX0) (List.mem_of_getElem? (i := 41) rfl)) (hts (.methodLink RX5 35 yX0_init) (List.mem_of_getElem? (i := 60) rfl)) (hts (.instanceMethod yX0_init) (List.mem_of_getElem? (i := 61) rfl)) rfl (by decide +kernel) ⟨Nat.le_of_ble_eq_true rfl, Nat.le_of_ble_eq_true rfl⟩) ⟨Pre0.blind, Pre0.give hPc hKc hDc hT hS hFc⟩ rfl rfl hl.1 rfl (lv_room (Nat.le_of_ble_eq_true rfl)) dX5_init_71 ⟨Nat.le_of_ble_eq_true rfl, Nat.le_of_ble_eq_true rfl⟩) hS (fun q _ h => hFc q h) hFc (fun u t H1 locs ht hvm hw hB hz1 hk1 hS => ?_)
  obtain ⟨qd_20, qd_21, hP1, hK1, hD1⟩ := hB
  rw [ht] at hP1
  have hK1 := va_K.moved hvm.symm hK1
  obtain ⟨hP, hD⟩ := va_join (wr := [(h0, .inr (10, [.ref q_1, .ref q_3, .ref q_5, .ref q_7, .null, .ref q_15, .int 0, .int 0, .int 0])), (q_1, .inr (4, [.int 0, .ref tE, .int 0])), (q_3, .inr (4, [.int 0, .ref tE, .int 0])), (q_5, .inr (4, [.int 0, .ref tE, .int 0])), (q_7, .inr (8, [.int 0, .ref qx_9, .ref qx_10, .ref qx_11])), (qx_9, .inl (cx_12, 6, .inl (fun _ => 0))), (qx_10, .inl (cx_13, 4, .inl (fun _ => 0))), (qx_11, .inl (cx_14, 4, .inl (fun _ => 0))), (q_15, .inl (cA_16, 512, .inl (fun _ => 0)))]) (w1 := [(q_18, .inr (5, [.ref qd_20, .ref qd_21, .null]))]) hP hD [9] [0, 1, 2, 3, 4, 5, 6, 7, 8] rfl rfl (by decide) (by decide) hk1 hFc hP1 hD1
  generalize H1 = H at hP hS ⊢
  have hP : va_P (dC, dI) vwCl [(h0, .inr (10, [.ref q_1, .ref q_3, .ref q_5, .ref q_7, .null, .ref q_15, .int 0, .int 0, .int 0])), (q_1, .inr (4, [.int 0, .ref tE, .int 0])), (q_3, .inr (4, [.int 0, .ref tE, .int 0])), (q_5, .inr (4, [.int 0, .ref tE, .int 0])), (q_7, .inr (8, [.int 0, .ref qx_9, .ref qx_10, .ref qx_11])), (qx_9, .inl (cx_12, 6, .inl (fun _ => 0))), (qx_10, .inl (cx_13, 4, .inl (fun _ => 0))), (qx_11, .inl (cx_14, 4, .inl (fun _ => 0))), (q_15, .inl (cA_16, 512, .inl (fun _ => 0))), (q_18, .inr (5, [.ref qd_20, .ref qd_21, .null]))] H := hP
  have hD : va_D A [(h0, .inr (10, [.ref q_1, .ref q_3, .ref q_5, .ref q_7, .null, .ref q_15, .int 0, .int 0, .int 0])), (q_1, .inr (4, [.int 0, .ref tE, .int 0])), (q_3, .inr (4, [.int 0, .ref tE, .int 0])), (q_5, .inr (4, [.int 0, .ref tE, .int 0])), (q_7, .inr (8, [.int 0, .ref qx_9, .ref qx_10, .ref qx_11])), (qx_9, .inl (cx_12, 6, .inl (fun _ => 0))), (qx_10, .inl (cx_13, 4, .inl (fun _ => 0))), (qx_11, .inl (cx_14, 4, .inl (fun _ => 0))), (q_15, .inl (cA_16, 512, .inl (fun _ => 0))), (q_18, .inr (5, [.ref qd_20, .ref qd_21, .null]))] := hD
  refine W.widen (k := 14) (n := 566) (by omega) (by omega) ?_
  refine lv_astore_n (lv' := [(1, .ref q_18), (2, .int 0), (0, .ref h0)]) hx hb dX5_init_74 rfl hl (by decide) rfl (fun ls hl => ?_)
  refine lv_iinc (v := 1) (lv' := [(2, .int 1), (1, .ref q_18), (0, .ref h0)]) hx hb dX5_init_75 hl (k := 1) rfl (by decide) (by decide) rfl (fun ls hl => ?_)
  refine lv_goto (tgt := 61) hx hb dX5_init_78 (by decide) ?_
  refine lv_iload_n hx hb dX5_init_61 rfl (lv_at hl 0 rfl) ?_
  refine lv_iconst (v := 5) hx hb dX5_init_62 (by decide) ?_
  refine lv_icmp_ge (tgt := 81) hx hb dX5_init_63 (by decide) (fun c_22 => absurd c_22 (by decide)) (fun _ => ?_)
  refine va_new (ci := 5) (fs := [.null, .null, .null]) (C := RX0) (T := TX0) (N := 3) hx hb hts u_c_init_X0 tyX0 tyX0_ok hown (hts (.classLink RX5 33 RX0) (List.mem_of_getElem? (i := 39) rfl)) (hts (.instantiable RX0 3) (List.mem_of_getElem? (i := 40) rfl)) (hts (.initialized RX0) (List.mem_of_getElem? (i := 41) rfl)) hK hP hD hS hA rfl (fun j hj => by rcases (show j = 0 ∨ j = 1 ∨ j = 2 by omega) with rfl | rfl | rfl <;> rfl) (Nat.le_of_ble_eq_true rfl) (Nat.le_of_ble_eq_true rfl) dX5_init_66 (fun q_23 H hP hD hS => ?_)
  have hP : va_P (dC, dI) vwCl [(h0, .inr (10, [.ref q_1, .ref q_3, .ref q_5, .ref q_7, .null, .ref q_15, .int 0, .int 0, .int 0])), (q_1, .inr (4, [.int 0, .ref tE, .int 0])), (q_3, .inr (4, [.int 0, .ref tE, .int 0])), (q_5, .inr (4, [.int 0, .ref tE, .int 0])), (q_7, .inr (8, [.int 0, .ref qx_9, .ref qx_10, .ref qx_11])), (qx_9, .inl (cx_12, 6, .inl (fun _ => 0))), (qx_10, .inl (cx_13, 4, .inl (fun _ => 0))), (qx_11, .inl (cx_14, 4, .inl (fun _ => 0))), (q_15, .inl (cA_16, 512, .inl (fun _ => 0))), (q_18, .inr (5, [.ref qd_20, .ref qd_21, .null])), (q_23, .inr (5, [.null, .null, .null]))] H := hP
  have hD : va_D A [(h0, .inr (10, [.ref q_1, .ref q_3, .ref q_5, .ref q_7, .null, .ref q_15, .int 0, .int 0, .int 0])), (q_1, .inr (4, [.int 0, .ref tE, .int 0])), (q_3, .inr (4, [.int 0, .ref tE, .int 0])), (q_5, .inr (4, [.int 0, .ref tE, .int 0])), (q_7, .inr (8, [.int 0, .ref qx_9, .ref qx_10, .ref qx_11])), (qx_9, .inl (cx_12, 6, .inl (fun _ => 0))), (qx_10, .inl (cx_13, 4, .inl (fun _ => 0))), (qx_11, .inl (cx_14, 4, .inl (fun _ => 0))), (q_15, .inl (cA_16, 512, .inl (fun _ => 0))), (q_18, .inr (5, [.ref qd_20, .ref qd_21, .null])), (q_23, .inr (5, [.null, .null, .null]))] := hD
  refine W.widen (k := 15) (n := 569) (by omega) (by omega) ?_
  refine lv_dup hx hb dX5_init_69 rfl ?_
  refine lv_aload_n hx hb dX5_init_70 rfl (lv_at hl 1 rfl) ?_
  have hPc := hP.sub (ws' := [(q_23, .inr (5, [.null, .null, .null]))]) [10] rfl
  have hDc := hD.sub (ws' := [(q_23, .inr (5, [.null, .null, .null]))]) [10] (by decide) rfl
  have hKc := hK.sub (tys' := []) [] rfl
  have hFc := va_free (wc := [(q_23, .inr (5, [.null, .null, .null]))]) hD hS hA [10] rfl
  refine va_callv (va_runI (As := [.ref q_18]) (rest := [.ref q_23]) ⟨hx, hb, hml, hown, hts⟩ (c_Dream_init_r l hl9 dC dI tE q_23 q_18 _ ) (cwI 1 hts gg_c_init_c_Dream_init_r rfl rfl rfl (hts (.initialized RX0) (List.mem_of_getElem? (i := 41) rfl)) (hts (.methodLink RX5 35 yX0_init) (List.mem_of_getElem? (i := 60) rfl)) (hts (.instanceMethod yX0_init) (List.mem_of_getElem? (i := 61) rfl)) rfl (by decide +kernel) ⟨Nat.le_of_ble_eq_true rfl, Nat.le_of_ble_eq_true rfl⟩) ⟨Pre0.blind, Pre0.give hPc hKc hDc hT hS hFc⟩ rfl rfl hl.1 rfl (lv_room (Nat.le_of_ble_eq_true rfl)) dX5_init_71 ⟨Nat.le_of_ble_eq_true rfl, Nat.le_of_ble_eq_true rfl⟩) hS (fun q _ h => hFc q h) hFc (fun u t H1 locs ht hvm hw hB hz1 hk1 hS => ?_)
  obtain ⟨qd_25, qd_26, hP1, hK1, hD1⟩ := hB
  rw [ht] at hP1
  have hK1 := va_K.moved hvm.symm hK1
  obtain ⟨hP, hD⟩ := va_join (wr := [(h0, .inr (10, [.ref q_1, .ref q_3, .ref q_5, .ref q_7, .null, .ref q_15, .int 0, .int 0, .int 0])), (q_1, .inr (4, [.int 0, .ref tE, .int 0])), (q_3, .inr (4, [.int 0, .ref tE, .int 0])), (q_5, .inr (4, [.int 0, .ref tE, .int 0])), (q_7, .inr (8, [.int 0, .ref qx_9, .ref qx_10, .ref qx_11])), (qx_9, .inl (cx_12, 6, .inl (fun _ => 0))), (qx_10, .inl (cx_13, 4, .inl (fun _ => 0))), (qx_11, .inl (cx_14, 4, .inl (fun _ => 0))), (q_15, .inl (cA_16, 512, .inl (fun _ => 0))), (q_18, .inr (5, [.ref qd_20, .ref qd_21, .null]))]) (w1 := [(q_23, .inr (5, [.ref qd_25, .ref qd_26, .ref q_18]))]) hP hD [10] [0, 1, 2, 3, 4, 5, 6, 7, 8, 9] rfl rfl (by decide) (by decide) hk1 hFc hP1 hD1
  generalize H1 = H at hP hS ⊢
  have hP : va_P (dC, dI) vwCl [(h0, .inr (10, [.ref q_1, .ref q_3, .ref q_5, .ref q_7, .null, .ref q_15, .int 0, .int 0, .int 0])), (q_1, .inr (4, [.int 0, .ref tE, .int 0])), (q_3, .inr (4, [.int 0, .ref tE, .int 0])), (q_5, .inr (4, [.int 0, .ref tE, .int 0])), (q_7, .inr (8, [.int 0, .ref qx_9, .ref qx_10, .ref qx_11])), (qx_9, .inl (cx_12, 6, .inl (fun _ => 0))), (qx_10, .inl (cx_13, 4, .inl (fun _ => 0))), (qx_11, .inl (cx_14, 4, .inl (fun _ => 0))), (q_15, .inl (cA_16, 512, .inl (fun _ => 0))), (q_18, .inr (5, [.ref qd_20, .ref qd_21, .null])), (q_23, .inr (5, [.ref qd_25, .ref qd_26, .ref q_18]))] H := hP
  have hD : va_D A [(h0, .inr (10, [.ref q_1, .ref q_3, .ref q_5, .ref q_7, .null, .ref q_15, .int 0, .int 0, .int 0])), (q_1, .inr (4, [.int 0, .ref tE, .int 0])), (q_3, .inr (4, [.int 0, .ref tE, .int 0])), (q_5, .inr (4, [.int 0, .ref tE, .int 0])), (q_7, .inr (8, [.int 0, .ref qx_9, .ref qx_10, .ref qx_11])), (qx_9, .inl (cx_12, 6, .inl (fun _ => 0))), (qx_10, .inl (cx_13, 4, .inl (fun _ => 0))), (qx_11, .inl (cx_14, 4, .inl (fun _ => 0))), (q_15, .inl (cA_16, 512, .inl (fun _ => 0))), (q_18, .inr (5, [.ref qd_20, .ref qd_21, .null])), (q_23, .inr (5, [.ref qd_25, .ref qd_26, .ref q_18]))] := hD
  refine W.widen (k := 20) (n := 593) (by omega) (by omega) ?_
  refine lv_astore_n (lv' := [(1, .ref q_23), (2, .int 1), (0, .ref h0)]) hx hb dX5_init_74 rfl hl (by decide) rfl (fun ls hl => ?_)
  refine lv_iinc (v := 2) (lv' := [(2, .int 2), (1, .ref q_23), (0, .ref h0)]) hx hb dX5_init_75 hl (k := 1) rfl (by decide) (by decide) rfl (fun ls hl => ?_)
  refine lv_goto (tgt := 61) hx hb dX5_init_78 (by decide) ?_
  refine lv_iload_n hx hb dX5_init_61 rfl (lv_at hl 0 rfl) ?_
  refine lv_iconst (v := 5) hx hb dX5_init_62 (by decide) ?_
  refine lv_icmp_ge (tgt := 81) hx hb dX5_init_63 (by decide) (fun c_27 => absurd c_27 (by decide)) (fun _ => ?_)
  refine va_new (ci := 5) (fs := [.null, .null, .null]) (C := RX0) (T := TX0) (N := 3) hx hb hts u_c_init_X0 tyX0 tyX0_ok hown (hts (.classLink RX5 33 RX0) (List.mem_of_getElem? (i := 39) rfl)) (hts (.instantiable RX0 3) (List.mem_of_getElem? (i := 40) rfl)) (hts (.initialized RX0) (List.mem_of_getElem? (i := 41) rfl)) hK hP hD hS hA rfl (fun j hj => by rcases (show j = 0 ∨ j = 1 ∨ j = 2 by omega) with rfl | rfl | rfl <;> rfl) (Nat.le_of_ble_eq_true rfl) (Nat.le_of_ble_eq_true rfl) dX5_init_66 (fun q_28 H hP hD hS => ?_)
  have hP : va_P (dC, dI) vwCl [(h0, .inr (10, [.ref q_1, .ref q_3, .ref q_5, .ref q_7, .null, .ref q_15, .int 0, .int 0, .int 0])), (q_1, .inr (4, [.int 0, .ref tE, .int 0])), (q_3, .inr (4, [.int 0, .ref tE, .int 0])), (q_5, .inr (4, [.int 0, .ref tE, .int 0])), (q_7, .inr (8, [.int 0, .ref qx_9, .ref qx_10, .ref qx_11])), (qx_9, .inl (cx_12, 6, .inl (fun _ => 0))), (qx_10, .inl (cx_13, 4, .inl (fun _ => 0))), (qx_11, .inl (cx_14, 4, .inl (fun _ => 0))), (q_15, .inl (cA_16, 512, .inl (fun _ => 0))), (q_18, .inr (5, [.ref qd_20, .ref qd_21, .null])), (q_23, .inr (5, [.ref qd_25, .ref qd_26, .ref q_18])), (q_28, .inr (5, [.null, .null, .null]))] H := hP
  have hD : va_D A [(h0, .inr (10, [.ref q_1, .ref q_3, .ref q_5, .ref q_7, .null, .ref q_15, .int 0, .int 0, .int 0])), (q_1, .inr (4, [.int 0, .ref tE, .int 0])), (q_3, .inr (4, [.int 0, .ref tE, .int 0])), (q_5, .inr (4, [.int 0, .ref tE, .int 0])), (q_7, .inr (8, [.int 0, .ref qx_9, .ref qx_10, .ref qx_11])), (qx_9, .inl (cx_12, 6, .inl (fun _ => 0))), (qx_10, .inl (cx_13, 4, .inl (fun _ => 0))), (qx_11, .inl (cx_14, 4, .inl (fun _ => 0))), (q_15, .inl (cA_16, 512, .inl (fun _ => 0))), (q_18, .inr (5, [.ref qd_20, .ref qd_21, .null])), (q_23, .inr (5, [.ref qd_25, .ref qd_26, .ref q_18])), (q_28, .inr (5, [.null, .null, .null]))] := hD
  refine W.widen (k := 21) (n := 596) (by omega) (by omega) ?_
  refine lv_dup hx hb dX5_init_69 rfl ?_
  refine lv_aload_n hx hb dX5_init_70 rfl (lv_at hl 1 rfl) ?_
  have hPc := hP.sub (ws' := [(q_28, .inr (5, [.null, .null, .null]))]) [11] rfl
  have hDc := hD.sub (ws' := [(q_28, .inr (5, [.null, .null, .null]))]) [11] (by decide) rfl
  have hKc := hK.sub (tys' := []) [] rfl
  have hFc := va_free (wc := [(q_28, .inr (5, [.null, .null, .null]))]) hD hS hA [11] rfl
  refine va_callv (va_runI (As := [.ref q_23]) (rest := [.ref q_28]) ⟨hx, hb, hml, hown, hts⟩ (c_Dream_init_r l hl9 dC dI tE q_28 q_23 _ ) (cwI 1 hts gg_c_init_c_Dream_init_r rfl rfl rfl (hts (.initialized RX0) (List.mem_of_getElem? (i := 41) rfl)) (hts (.methodLink RX5 35 yX0_init) (List.mem_of_getElem? (i := 60) rfl)) (hts (.instanceMethod yX0_init) (List.mem_of_getElem? (i := 61) rfl)) rfl (by decide +kernel) ⟨Nat.le_of_ble_eq_true rfl, Nat.le_of_ble_eq_true rfl⟩) ⟨Pre0.blind, Pre0.give hPc hKc hDc hT hS hFc⟩ rfl rfl hl.1 rfl (lv_room (Nat.le_of_ble_eq_true rfl)) dX5_init_71 ⟨Nat.le_of_ble_eq_true rfl, Nat.le_of_ble_eq_true rfl⟩) hS (fun q _ h => hFc q h) hFc (fun u t H1 locs ht hvm hw hB hz1 hk1 hS => ?_)
  obtain ⟨qd_30, qd_31, hP1, hK1, hD1⟩ := hB
  rw [ht] at hP1
  have hK1 := va_K.moved hvm.symm hK1
  obtain ⟨hP, hD⟩ := va_join (wr := [(h0, .inr (10, [.ref q_1, .ref q_3, .ref q_5, .ref q_7, .null, .ref q_15, .int 0, .int 0, .int 0])), (q_1, .inr (4, [.int 0, .ref tE, .int 0])), (q_3, .inr (4, [.int 0, .ref tE, .int 0])), (q_5, .inr (4, [.int 0, .ref tE, .int 0])), (q_7, .inr (8, [.int 0, .ref qx_9, .ref qx_10, .ref qx_11])), (qx_9, .inl (cx_12, 6, .inl (fun _ => 0))), (qx_10, .inl (cx_13, 4, .inl (fun _ => 0))), (qx_11, .inl (cx_14, 4, .inl (fun _ => 0))), (q_15, .inl (cA_16, 512, .inl (fun _ => 0))), (q_18, .inr (5, [.ref qd_20, .ref qd_21, .null])), (q_23, .inr (5, [.ref qd_25, .ref qd_26, .ref q_18]))]) (w1 := [(q_28, .inr (5, [.ref qd_30, .ref qd_31, .ref q_23]))]) hP hD [11] [0, 1, 2, 3, 4, 5, 6, 7, 8, 9, 10] rfl rfl (by decide) (by decide) hk1 hFc hP1 hD1
  generalize H1 = H at hP hS ⊢
  have hP : va_P (dC, dI) vwCl [(h0, .inr (10, [.ref q_1, .ref q_3, .ref q_5, .ref q_7, .null, .ref q_15, .int 0, .int 0, .int 0])), (q_1, .inr (4, [.int 0, .ref tE, .int 0])), (q_3, .inr (4, [.int 0, .ref tE, .int 0])), (q_5, .inr (4, [.int 0, .ref tE, .int 0])), (q_7, .inr (8, [.int 0, .ref qx_9, .ref qx_10, .ref qx_11])), (qx_9, .inl (cx_12, 6, .inl (fun _ => 0))), (qx_10, .inl (cx_13, 4, .inl (fun _ => 0))), (qx_11, .inl (cx_14, 4, .inl (fun _ => 0))), (q_15, .inl (cA_16, 512, .inl (fun _ => 0))), (q_18, .inr (5, [.ref qd_20, .ref qd_21, .null])), (q_23, .inr (5, [.ref qd_25, .ref qd_26, .ref q_18])), (q_28, .inr (5, [.ref qd_30, .ref qd_31, .ref q_23]))] H := hP
  have hD : va_D A [(h0, .inr (10, [.ref q_1, .ref q_3, .ref q_5, .ref q_7, .null, .ref q_15, .int 0, .int 0, .int 0])), (q_1, .inr (4, [.int 0, .ref tE, .int 0])), (q_3, .inr (4, [.int 0, .ref tE, .int 0])), (q_5, .inr (4, [.int 0, .ref tE, .int 0])), (q_7, .inr (8, [.int 0, .ref qx_9, .ref qx_10, .ref qx_11])), (qx_9, .inl (cx_12, 6, .inl (fun _ => 0))), (qx_10, .inl (cx_13, 4, .inl (fun _ => 0))), (qx_11, .inl (cx_14, 4, .inl (fun _ => 0))), (q_15, .inl (cA_16, 512, .inl (fun _ => 0))), (q_18, .inr (5, [.ref qd_20, .ref qd_21, .null])), (q_23, .inr (5, [.ref qd_25, .ref qd_26, .ref q_18])), (q_28, .inr (5, [.ref qd_30, .ref qd_31, .ref q_23]))] := hD
  refine W.widen (k := 26) (n := 620) (by omega) (by omega) ?_
  refine lv_astore_n (lv' := [(1, .ref q_28), (2, .int 2), (0, .ref h0)]) hx hb dX5_init_74 rfl hl (by decide) rfl (fun ls hl => ?_)
  refine lv_iinc (v := 3) (lv' := [(2, .int 3), (1, .ref q_28), (0, .ref h0)]) hx hb dX5_init_75 hl (k := 1) rfl (by decide) (by decide) rfl (fun ls hl => ?_)
  refine lv_goto (tgt := 61) hx hb dX5_init_78 (by decide) ?_
  refine lv_iload_n hx hb dX5_init_61 rfl (lv_at hl 0 rfl) ?_
  refine lv_iconst (v := 5) hx hb dX5_init_62 (by decide) ?_
  refine lv_icmp_ge (tgt := 81) hx hb dX5_init_63 (by decide) (fun c_32 => absurd c_32 (by decide)) (fun _ => ?_)
  refine va_new (ci := 5) (fs := [.null, .null, .null]) (C := RX0) (T := TX0) (N := 3) hx hb hts u_c_init_X0 tyX0 tyX0_ok hown (hts (.classLink RX5 33 RX0) (List.mem_of_getElem? (i := 39) rfl)) (hts (.instantiable RX0 3) (List.mem_of_getElem? (i := 40) rfl)) (hts (.initialized RX0) (List.mem_of_getElem? (i := 41) rfl)) hK hP hD hS hA rfl (fun j hj => by rcases (show j = 0 ∨ j = 1 ∨ j = 2 by omega) with rfl | rfl | rfl <;> rfl) (Nat.le_of_ble_eq_true rfl) (Nat.le_of_ble_eq_true rfl) dX5_init_66 (fun q_33 H hP hD hS => ?_)
  have hP : va_P (dC, dI) vwCl [(h0, .inr (10, [.ref q_1, .ref q_3, .ref q_5, .ref q_7, .null, .ref q_15, .int 0, .int 0, .int 0])), (q_1, .inr (4, [.int 0, .ref tE, .int 0])), (q_3, .inr (4, [.int 0, .ref tE, .int 0])), (q_5, .inr (4, [.int 0, .ref tE, .int 0])), (q_7, .inr (8, [.int 0, .ref qx_9, .ref qx_10, .ref qx_11])), (qx_9, .inl (cx_12, 6, .inl (fun _ => 0))), (qx_10, .inl (cx_13, 4, .inl (fun _ => 0))), (qx_11, .inl (cx_14, 4, .inl (fun _ => 0))), (q_15, .inl (cA_16, 512, .inl (fun _ => 0))), (q_18, .inr (5, [.ref qd_20, .ref qd_21, .null])), (q_23, .inr (5, [.ref qd_25, .ref qd_26, .ref q_18])), (q_28, .inr (5, [.ref qd_30, .ref qd_31, .ref q_23])), (q_33, .inr (5, [.null, .null, .null]))] H := hP
  have hD : va_D A [(h0, .inr (10, [.ref q_1, .ref q_3, .ref q_5, .ref q_7, .null, .ref q_15, .int 0, .int 0, .int 0])), (q_1, .inr (4, [.int 0, .ref tE, .int 0])), (q_3, .inr (4, [.int 0, .ref tE, .int 0])), (q_5, .inr (4, [.int 0, .ref tE, .int 0])), (q_7, .inr (8, [.int 0, .ref qx_9, .ref qx_10, .ref qx_11])), (qx_9, .inl (cx_12, 6, .inl (fun _ => 0))), (qx_10, .inl (cx_13, 4, .inl (fun _ => 0))), (qx_11, .inl (cx_14, 4, .inl (fun _ => 0))), (q_15, .inl (cA_16, 512, .inl (fun _ => 0))), (q_18, .inr (5, [.ref qd_20, .ref qd_21, .null])), (q_23, .inr (5, [.ref qd_25, .ref qd_26, .ref q_18])), (q_28, .inr (5, [.ref qd_30, .ref qd_31, .ref q_23])), (q_33, .inr (5, [.null, .null, .null]))] := hD
  refine W.widen (k := 27) (n := 623) (by omega) (by omega) ?_
  refine lv_dup hx hb dX5_init_69 rfl ?_
  refine lv_aload_n hx hb dX5_init_70 rfl (lv_at hl 1 rfl) ?_
  have hPc := hP.sub (ws' := [(q_33, .inr (5, [.null, .null, .null]))]) [12] rfl
  have hDc := hD.sub (ws' := [(q_33, .inr (5, [.null, .null, .null]))]) [12] (by decide) rfl
  have hKc := hK.sub (tys' := []) [] rfl
  have hFc := va_free (wc := [(q_33, .inr (5, [.null, .null, .null]))]) hD hS hA [12] rfl
  refine va_callv (va_runI (As := [.ref q_28]) (rest := [.ref q_33]) ⟨hx, hb, hml, hown, hts⟩ (c_Dream_init_r l hl9 dC dI tE q_33 q_28 _ ) (cwI 1 hts gg_c_init_c_Dream_init_r rfl rfl rfl (hts (.initialized RX0) (List.mem_of_getElem? (i := 41) rfl)) (hts (.methodLink RX5 35 yX0_init) (List.mem_of_getElem? (i := 60) rfl)) (hts (.instanceMethod yX0_init) (List.mem_of_getElem? (i := 61) rfl)) rfl (by decide +kernel) ⟨Nat.le_of_ble_eq_true rfl, Nat.le_of_ble_eq_true rfl⟩) ⟨Pre0.blind, Pre0.give hPc hKc hDc hT hS hFc⟩ rfl rfl hl.1 rfl (lv_room (Nat.le_of_ble_eq_true rfl)) dX5_init_71 ⟨Nat.le_of_ble_eq_true rfl, Nat.le_of_ble_eq_true rfl⟩) hS (fun q _ h => hFc q h) hFc (fun u t H1 locs ht hvm hw hB hz1 hk1 hS => ?_)
  obtain ⟨qd_35, qd_36, hP1, hK1, hD1⟩ := hB
  rw [ht] at hP1
  have hK1 := va_K.moved hvm.symm hK1
  obtain ⟨hP, hD⟩ := va_join (wr := [(h0, .inr (10, [.ref q_1, .ref q_3, .ref q_5, .ref q_7, .null, .ref q_15, .int 0, .int 0, .int 0])), (q_1, .inr (4, [.int 0, .ref tE, .int 0])), (q_3, .inr (4, [.int 0, .ref tE, .int 0])), (q_5, .inr (4, [.int 0, .ref tE, .int 0])), (q_7, .inr (8, [.int 0, .ref qx_9, .ref qx_10, .ref qx_11])), (qx_9, .inl (cx_12, 6, .inl (fun _ => 0))), (qx_10, .inl (cx_13, 4, .inl (fun _ => 0))), (qx_11, .inl (cx_14, 4, .inl (fun _ => 0))), (q_15, .inl (cA_16, 512, .inl (fun _ => 0))), (q_18, .inr (5, [.ref qd_20, .ref qd_21, .null])), (q_23, .inr (5, [.ref qd_25, .ref qd_26, .ref q_18])), (q_28, .inr (5, [.ref qd_30, .ref qd_31, .ref q_23]))]) (w1 := [(q_33, .inr (5, [.ref qd_35, .ref qd_36, .ref q_28]))]) hP hD [12] [0, 1, 2, 3, 4, 5, 6, 7, 8, 9, 10, 11] rfl rfl (by decide) (by decide) hk1 hFc hP1 hD1
  generalize H1 = H at hP hS ⊢
  have hP : va_P (dC, dI) vwCl [(h0, .inr (10, [.ref q_1, .ref q_3, .ref q_5, .ref q_7, .null, .ref q_15, .int 0, .int 0, .int 0])), (q_1, .inr (4, [.int 0, .ref tE, .int 0])), (q_3, .inr (4, [.int 0, .ref tE, .int 0])), (q_5, .inr (4, [.int 0, .ref tE, .int 0])), (q_7, .inr (8, [.int 0, .ref qx_9, .ref qx_10, .ref qx_11])), (qx_9, .inl (cx_12, 6, .inl (fun _ => 0))), (qx_10, .inl (cx_13, 4, .inl (fun _ => 0))), (qx_11, .inl (cx_14, 4, .inl (fun _ => 0))), (q_15, .inl (cA_16, 512, .inl (fun _ => 0))), (q_18, .inr (5, [.ref qd_20, .ref qd_21, .null])), (q_23, .inr (5, [.ref qd_25, .ref qd_26, .ref q_18])), (q_28, .inr (5, [.ref qd_30, .ref qd_31, .ref q_23])), (q_33, .inr (5, [.ref qd_35, .ref qd_36, .ref q_28]))] H := hP
  have hD : va_D A [(h0, .inr (10, [.ref q_1, .ref q_3, .ref q_5, .ref q_7, .null, .ref q_15, .int 0, .int 0, .int 0])), (q_1, .inr (4, [.int 0, .ref tE, .int 0])), (q_3, .inr (4, [.int 0, .ref tE, .int 0])), (q_5, .inr (4, [.int 0, .ref tE, .int 0])), (q_7, .inr (8, [.int 0, .ref qx_9, .ref qx_10, .ref qx_11])), (qx_9, .inl (cx_12, 6, .inl (fun _ => 0))), (qx_10, .inl (cx_13, 4, .inl (fun _ => 0))), (qx_11, .inl (cx_14, 4, .inl (fun _ => 0))), (q_15, .inl (cA_16, 512, .inl (fun _ => 0))), (q_18, .inr (5, [.ref qd_20, .ref qd_21, .null])), (q_23, .inr (5, [.ref qd_25, .ref qd_26, .ref q_18])), (q_28, .inr (5, [.ref qd_30, .ref qd_31, .ref q_23])), (q_33, .inr (5, [.ref qd_35, .ref qd_36, .ref q_28]))] := hD
  refine W.widen (k := 32) (n := 647) (by omega) (by omega) ?_
  refine lv_astore_n (lv' := [(1, .ref q_33), (2, .int 3), (0, .ref h0)]) hx hb dX5_init_74 rfl hl (by decide) rfl (fun ls hl => ?_)
  refine lv_iinc (v := 4) (lv' := [(2, .int 4), (1, .ref q_33), (0, .ref h0)]) hx hb dX5_init_75 hl (k := 1) rfl (by decide) (by decide) rfl (fun ls hl => ?_)
  refine lv_goto (tgt := 61) hx hb dX5_init_78 (by decide) ?_
  refine lv_iload_n hx hb dX5_init_61 rfl (lv_at hl 0 rfl) ?_
  refine lv_iconst (v := 5) hx hb dX5_init_62 (by decide) ?_
  refine lv_icmp_ge (tgt := 81) hx hb dX5_init_63 (by decide) (fun c_37 => absurd c_37 (by decide)) (fun _ => ?_)
  refine va_new (ci := 5) (fs := [.null, .null, .null]) (C := RX0) (T := TX0) (N := 3) hx hb hts u_c_init_X0 tyX0 tyX0_ok hown (hts (.classLink RX5 33 RX0) (List.mem_of_getElem? (i := 39) rfl)) (hts (.instantiable RX0 3) (List.mem_of_getElem? (i := 40) rfl)) (hts (.initialized RX0) (List.mem_of_getElem? (i := 41) rfl)) hK hP hD hS hA rfl (fun j hj => by rcases (show j = 0 ∨ j = 1 ∨ j = 2 by omega) with rfl | rfl | rfl <;> rfl) (Nat.le_of_ble_eq_true rfl) (Nat.le_of_ble_eq_true rfl) dX5_init_66 (fun q_38 H hP hD hS => ?_)
  have hP : va_P (dC, dI) vwCl [(h0, .inr (10, [.ref q_1, .ref q_3, .ref q_5, .ref q_7, .null, .ref q_15, .int 0, .int 0, .int 0])), (q_1, .inr (4, [.int 0, .ref tE, .int 0])), (q_3, .inr (4, [.int 0, .ref tE, .int 0])), (q_5, .inr (4, [.int 0, .ref tE, .int 0])), (q_7, .inr (8, [.int 0, .ref qx_9, .ref qx_10, .ref qx_11])), (qx_9, .inl (cx_12, 6, .inl (fun _ => 0))), (qx_10, .inl (cx_13, 4, .inl (fun _ => 0))), (qx_11, .inl (cx_14, 4, .inl (fun _ => 0))), (q_15, .inl (cA_16, 512, .inl (fun _ => 0))), (q_18, .inr (5, [.ref qd_20, .ref qd_21, .null])), (q_23, .inr (5, [.ref qd_25, .ref qd_26, .ref q_18])), (q_28, .inr (5, [.ref qd_30, .ref qd_31, .ref q_23])), (q_33, .inr (5, [.ref qd_35, .ref qd_36, .ref q_28])), (q_38, .inr (5, [.null, .null, .null]))] H := hP
  have hD : va_D A [(h0, .inr (10, [.ref q_1, .ref q_3, .ref q_5, .ref q_7, .null, .ref q_15, .int 0, .int 0, .int 0])), (q_1, .inr (4, [.int 0, .ref tE, .int 0])), (q_3, .inr (4, [.int 0, .ref tE, .int 0])), (q_5, .inr (4, [.int 0, .ref tE, .int 0])), (q_7, .inr (8, [.int 0, .ref qx_9, .ref qx_10, .ref qx_11])), (qx_9, .inl (cx_12, 6, .inl (fun _ => 0))), (qx_10, .inl (cx_13, 4, .inl (fun _ => 0))), (qx_11, .inl (cx_14, 4, .inl (fun _ => 0))), (q_15, .inl (cA_16, 512, .inl (fun _ => 0))), (q_18, .inr (5, [.ref qd_20, .ref qd_21, .null])), (q_23, .inr (5, [.ref qd_25, .ref qd_26, .ref q_18])), (q_28, .inr (5, [.ref qd_30, .ref qd_31, .ref q_23])), (q_33, .inr (5, [.ref qd_35, .ref qd_36, .ref q_28])), (q_38, .inr (5, [.null, .null, .null]))] := hD
  refine W.widen (k := 33) (n := 650) (by omega) (by omega) ?_
  refine lv_dup hx hb dX5_init_69 rfl ?_
  refine lv_aload_n hx hb dX5_init_70 rfl (lv_at hl 1 rfl) ?_
  have hPc := hP.sub (ws' := [(q_38, .inr (5, [.null, .null, .null]))]) [13] rfl
  have hDc := hD.sub (ws' := [(q_38, .inr (5, [.null, .null, .null]))]) [13] (by decide) rfl
  have hKc := hK.sub (tys' := []) [] rfl
  have hFc := va_free (wc := [(q_38, .inr (5, [.null, .null, .null]))]) hD hS hA [13] rfl
  refine va_callv (va_runI (As := [.ref q_33]) (rest := [.ref q_38]) ⟨hx, hb, hml, hown, hts⟩ (c_Dream_init_r l hl9 dC dI tE q_38 q_33 _ ) (cwI 1 hts gg_c_init_c_Dream_init_r rfl rfl rfl (hts (.initialized RX0) (List.mem_of_getElem? (i := 41) rfl)) (hts (.methodLink RX5 35 yX0_init) (List.mem_of_getElem? (i := 60) rfl)) (hts (.instanceMethod yX0_init) (List.mem_of_getElem? (i := 61) rfl)) rfl (by decide +kernel) ⟨Nat.le_of_ble_eq_true rfl, Nat.le_of_ble_eq_true rfl⟩) ⟨Pre0.blind, Pre0.give hPc hKc hDc hT hS hFc⟩ rfl rfl hl.1 rfl (lv_room (Nat.le_of_ble_eq_true rfl)) dX5_init_71 ⟨Nat.le_of_ble_eq_true rfl, Nat.le_of_ble_eq_true rfl⟩) hS (fun q _ h => hFc q h) hFc (fun u t H1 locs ht hvm hw hB hz1 hk1 hS => ?_)
  obtain ⟨qd_40, qd_41, hP1, hK1, hD1⟩ := hB
  rw [ht] at hP1
  have hK1 := va_K.moved hvm.symm hK1
  obtain ⟨hP, hD⟩ := va_join (wr := [(h0, .inr (10, [.ref q_1, .ref q_3, .ref q_5, .ref q_7, .null, .ref q_15, .int 0, .int 0, .int 0])), (q_1, .inr (4, [.int 0, .ref tE, .int 0])), (q_3, .inr (4, [.int 0, .ref tE, .int 0])), (q_5, .inr (4, [.int 0, .ref tE, .int 0])), (q_7, .inr (8, [.int 0, .ref qx_9, .ref qx_10, .ref qx_11])), (qx_9, .inl (cx_12, 6, .inl (fun _ => 0))), (qx_10, .inl (cx_13, 4, .inl (fun _ => 0))), (qx_11, .inl (cx_14, 4, .inl (fun _ => 0))), (q_15, .inl (cA_16, 512, .inl (fun _ => 0))), (q_18, .inr (5, [.ref qd_20, .ref qd_21, .null])), (q_23, .inr (5, [.ref qd_25, .ref qd_26, .ref q_18])), (q_28, .inr (5, [.ref qd_30, .ref qd_31, .ref q_23])), (q_33, .inr (5, [.ref qd_35, .ref qd_36, .ref q_28]))]) (w1 := [(q_38, .inr (5, [.ref qd_40, .ref qd_41, .ref q_33]))]) hP hD [13] [0, 1, 2, 3, 4, 5, 6, 7, 8, 9, 10, 11, 12] rfl rfl (by decide) (by decide) hk1 hFc hP1 hD1
  generalize H1 = H at hP hS ⊢
  have hP : va_P (dC, dI) vwCl [(h0, .inr (10, [.ref q_1, .ref q_3, .ref q_5, .ref q_7, .null, .ref q_15, .int 0, .int 0, .int 0])), (q_1, .inr (4, [.int 0, .ref tE, .int 0])), (q_3, .inr (4, [.int 0, .ref tE, .int 0])), (q_5, .inr (4, [.int 0, .ref tE, .int 0])), (q_7, .inr (8, [.int 0, .ref qx_9, .ref qx_10, .ref qx_11])), (qx_9, .inl (cx_12, 6, .inl (fun _ => 0))), (qx_10, .inl (cx_13, 4, .inl (fun _ => 0))), (qx_11, .inl (cx_14, 4, .inl (fun _ => 0))), (q_15, .inl (cA_16, 512, .inl (fun _ => 0))), (q_18, .inr (5, [.ref qd_20, .ref qd_21, .null])), (q_23, .inr (5, [.ref qd_25, .ref qd_26, .ref q_18])), (q_28, .inr (5, [.ref qd_30, .ref qd_31, .ref q_23])), (q_33, .inr (5, [.ref qd_35, .ref qd_36, .ref q_28])), (q_38, .inr (5, [.ref qd_40, .ref qd_41, .ref q_33]))] H := hP
  have hD : va_D A [(h0, .inr (10, [.ref q_1, .ref q_3, .ref q_5, .ref q_7, .null, .ref q_15, .int 0, .int 0, .int 0])), (q_1, .inr (4, [.int 0, .ref tE, .int 0])), (q_3, .inr (4, [.int 0, .ref tE, .int 0])), (q_5, .inr (4, [.int 0, .ref tE, .int 0])), (q_7, .inr (8, [.int 0, .ref qx_9, .ref qx_10, .ref qx_11])), (qx_9, .inl (cx_12, 6, .inl (fun _ => 0))), (qx_10, .inl (cx_13, 4, .inl (fun _ => 0))), (qx_11, .inl (cx_14, 4, .inl (fun _ => 0))), (q_15, .inl (cA_16, 512, .inl (fun _ => 0))), (q_18, .inr (5, [.ref qd_20, .ref qd_21, .null])), (q_23, .inr (5, [.ref qd_25, .ref qd_26, .ref q_18])), (q_28, .inr (5, [.ref qd_30, .ref qd_31, .ref q_23])), (q_33, .inr (5, [.ref qd_35, .ref qd_36, .ref q_28])), (q_38, .inr (5, [.ref qd_40, .ref qd_41, .ref q_33]))] := hD
  refine W.widen (k := 38) (n := 674) (by omega) (by omega) ?_
  refine lv_astore_n (lv' := [(1, .ref q_38), (2, .int 4), (0, .ref h0)]) hx hb dX5_init_74 rfl hl (by decide) rfl (fun ls hl => ?_)
  refine lv_iinc (v := 5) (lv' := [(2, .int 5), (1, .ref q_38), (0, .ref h0)]) hx hb dX5_init_75 hl (k := 1) rfl (by decide) (by decide) rfl (fun ls hl => ?_)
  refine lv_goto (tgt := 61) hx hb dX5_init_78 (by decide) ?_
  refine lv_iload_n hx hb dX5_init_61 rfl (lv_at hl 0 rfl) ?_
  refine lv_iconst (v := 5) hx hb dX5_init_62 (by decide) ?_
  refine lv_icmp_ge (tgt := 81) hx hb dX5_init_63 (by decide) (fun _ => ?_) (fun c_42 => absurd (by decide) c_42)
  refine lv_aload_n hx hb dX5_init_81 rfl (lv_at hl 2 rfl) ?_
  refine va_new (ci := 5) (fs := [.null, .null, .null]) (C := RX0) (T := TX0) (N := 3) hx hb hts u_c_init_X0 tyX0 tyX0_ok hown (hts (.classLink RX5 33 RX0) (List.mem_of_getElem? (i := 39) rfl)) (hts (.instantiable RX0 3) (List.mem_of_getElem? (i := 40) rfl)) (hts (.initialized RX0) (List.mem_of_getElem? (i := 41) rfl)) hK hP hD hS hA rfl (fun j hj => by rcases (show j = 0 ∨ j = 1 ∨ j = 2 by omega) with rfl | rfl | rfl <;> rfl) (Nat.le_of_ble_eq_true rfl) (Nat.le_of_ble_eq_true rfl) dX5_init_82 (fun q_43 H hP hD hS => ?_)
  have hP : va_P (dC, dI) vwCl [(h0, .inr (10, [.ref q_1, .ref q_3, .ref q_5, .ref q_7, .null, .ref q_15, .int 0, .int 0, .int 0])), (q_1, .inr (4, [.int 0, .ref tE, .int 0])), (q_3, .inr (4, [.int 0, .ref tE, .int 0])), (q_5, .inr (4, [.int 0, .ref tE, .int 0])), (q_7, .inr (8, [.int 0, .ref qx_9, .ref qx_10, .ref qx_11])), (qx_9, .inl (cx_12, 6, .inl (fun _ => 0))), (qx_10, .inl (cx_13, 4, .inl (fun _ => 0))), (qx_11, .inl (cx_14, 4, .inl (fun _ => 0))), (q_15, .inl (cA_16, 512, .inl (fun _ => 0))), (q_18, .inr (5, [.ref qd_20, .ref qd_21, .null])), (q_23, .inr (5, [.ref qd_25, .ref qd_26, .ref q_18])), (q_28, .inr (5, [.ref qd_30, .ref qd_31, .ref q_23])), (q_33, .inr (5, [.ref qd_35, .ref qd_36, .ref q_28])), (q_38, .inr (5, [.ref qd_40, .ref qd_41, .ref q_33])), (q_43, .inr (5, [.null, .null, .null]))] H := hP
  have hD : va_D A [(h0, .inr (10, [.ref q_1, .ref q_3, .ref q_5, .ref q_7, .null, .ref q_15, .int 0, .int 0, .int 0])), (q_1, .inr (4, [.int 0, .ref tE, .int 0])), (q_3, .inr (4, [.int 0, .ref tE, .int 0])), (q_5, .inr (4, [.int 0, .ref tE, .int 0])), (q_7, .inr (8, [.int 0, .ref qx_9, .ref qx_10, .ref qx_11])), (qx_9, .inl (cx_12, 6, .inl (fun _ => 0))), (qx_10, .inl (cx_13, 4, .inl (fun _ => 0))), (qx_11, .inl (cx_14, 4, .inl (fun _ => 0))), (q_15, .inl (cA_16, 512, .inl (fun _ => 0))), (q_18, .inr (5, [.ref qd_20, .ref qd_21, .null])), (q_23, .inr (5, [.ref qd_25, .ref qd_26, .ref q_18])), (q_28, .inr (5, [.ref qd_30, .ref qd_31, .ref q_23])), (q_33, .inr (5, [.ref qd_35, .ref qd_36, .ref q_28])), (q_38, .inr (5, [.ref qd_40, .ref qd_41, .ref q_33])), (q_43, .inr (5, [.null, .null, .null]))] := hD
  refine W.widen (k := 39) (n := 677) (by omega) (by omega) ?_
  refine lv_dup hx hb dX5_init_85 rfl ?_
  refine lv_aload_n hx hb dX5_init_86 rfl (lv_at hl 1 rfl) ?_
  have hPc := hP.sub (ws' := [(q_43, .inr (5, [.null, .null, .null]))]) [14] rfl
  have hDc := hD.sub (ws' := [(q_43, .inr (5, [.null, .null, .null]))]) [14] (by decide) rfl
  have hKc := hK.sub (tys' := []) [] rfl
  have hFc := va_free (wc := [(q_43, .inr (5, [.null, .null, .null]))]) hD hS hA [14] rfl
  refine va_callv (va_runI (As := [.ref q_38]) (rest := [.ref q_43, .ref h0]) ⟨hx, hb, hml, hown, hts⟩ (c_Dream_init_r l hl9 dC dI tE q_43 q_38 _ ) (cwI 1 hts gg_c_init_c_Dream_init_r rfl rfl rfl (hts (.initialized RX0) (List.mem_of_getElem? (i := 41) rfl)) (hts (.methodLink RX5 35 yX0_init) (List.mem_of_getElem? (i := 60) rfl)) (hts (.instanceMethod yX0_init) (List.mem_of_getElem? (i := 61) rfl)) rfl (by decide +kernel) ⟨Nat.le_of_ble_eq_true rfl, Nat.le_of_ble_eq_true rfl⟩) ⟨Pre0.blind, Pre0.give hPc hKc hDc hT hS hFc⟩ rfl rfl hl.1 rfl (lv_room (Nat.le_of_ble_eq_true rfl)) dX5_init_87 ⟨Nat.le_of_ble_eq_true rfl, Nat.le_of_ble_eq_true rfl⟩) hS (fun q _ h => hFc q h) hFc (fun u t H1 locs ht hvm hw hB hz1 hk1 hS => ?_)
  obtain ⟨qd_45, qd_46, hP1, hK1, hD1⟩ := hB
  rw [ht] at hP1
  have hK1 := va_K.moved hvm.symm hK1
  obtain ⟨hP, hD⟩ := va_join (wr := [(h0, .inr (10, [.ref q_1, .ref q_3, .ref q_5, .ref q_7, .null, .ref q_15, .int 0, .int 0, .int 0])), (q_1, .inr (4, [.int 0, .ref tE, .int 0])), (q_3, .inr (4, [.int 0, .ref tE, .int 0])), (q_5, .inr (4, [.int 0, .ref tE, .int 0])), (q_7, .inr (8, [.int 0, .ref qx_9, .ref qx_10, .ref qx_11])), (qx_9, .inl (cx_12, 6, .inl (fun _ => 0))), (qx_10, .inl (cx_13, 4, .inl (fun _ => 0))), (qx_11, .inl (cx_14, 4, .inl (fun _ => 0))), (q_15, .inl (cA_16, 512, .inl (fun _ => 0))), (q_18, .inr (5, [.ref qd_20, .ref qd_21, .null])), (q_23, .inr (5, [.ref qd_25, .ref qd_26, .ref q_18])), (q_28, .inr (5, [.ref qd_30, .ref qd_31, .ref q_23])), (q_33, .inr (5, [.ref qd_35, .ref qd_36, .ref q_28])), (q_38, .inr (5, [.ref qd_40, .ref qd_41, .ref q_33]))]) (w1 := [(q_43, .inr (5, [.ref qd_45, .ref qd_46, .ref q_38]))]) hP hD [14] [0, 1, 2, 3, 4, 5, 6, 7, 8, 9, 10, 11, 12, 13] rfl rfl (by decide) (by decide) hk1 hFc hP1 hD1
  generalize H1 = H at hP hS ⊢
  have hP : va_P (dC, dI) vwCl [(h0, .inr (10, [.ref q_1, .ref q_3, .ref q_5, .ref q_7, .null, .ref q_15, .int 0, .int 0, .int 0])), (q_1, .inr (4, [.int 0, .ref tE, .int 0])), (q_3, .inr (4, [.int 0, .ref tE, .int 0])), (q_5, .inr (4, [.int 0, .ref tE, .int 0])), (q_7, .inr (8, [.int 0, .ref qx_9, .ref qx_10, .ref qx_11])), (qx_9, .inl (cx_12, 6, .inl (fun _ => 0))), (qx_10, .inl (cx_13, 4, .inl (fun _ => 0))), (qx_11, .inl (cx_14, 4, .inl (fun _ => 0))), (q_15, .inl (cA_16, 512, .inl (fun _ => 0))), (q_18, .inr (5, [.ref qd_20, .ref qd_21, .null])), (q_23, .inr (5, [.ref qd_25, .ref qd_26, .ref q_18])), (q_28, .inr (5, [.ref qd_30, .ref qd_31, .ref q_23])), (q_33, .inr (5, [.ref qd_35, .ref qd_36, .ref q_28])), (q_38, .inr (5, [.ref qd_40, .ref qd_41, .ref q_33])), (q_43, .inr (5, [.ref qd_45, .ref qd_46, .ref q_38]))] H := hP
  have hD : va_D A [(h0, .inr (10, [.ref q_1, .ref q_3, .ref q_5, .ref q_7, .null, .ref q_15, .int 0, .int 0, .int 0])), (q_1, .inr (4, [.int 0, .ref tE, .int 0])), (q_3, .inr (4, [.int 0, .ref tE, .int 0])), (q_5, .inr (4, [.int 0, .ref tE, .int 0])), (q_7, .inr (8, [.int 0, .ref qx_9, .ref qx_10, .ref qx_11])), (qx_9, .inl (cx_12, 6, .inl (fun _ => 0))), (qx_10, .inl (cx_13, 4, .inl (fun _ => 0))), (qx_11, .inl (cx_14, 4, .inl (fun _ => 0))), (q_15, .inl (cA_16, 512, .inl (fun _ => 0))), (q_18, .inr (5, [.ref qd_20, .ref qd_21, .null])), (q_23, .inr (5, [.ref qd_25, .ref qd_26, .ref q_18])), (q_28, .inr (5, [.ref qd_30, .ref qd_31, .ref q_23])), (q_33, .inr (5, [.ref qd_35, .ref qd_36, .ref q_28])), (q_38, .inr (5, [.ref qd_40, .ref qd_41, .ref q_33])), (q_43, .inr (5, [.ref qd_45, .ref qd_46, .ref q_38]))] := hD
  refine W.widen (k := 44) (n := 701) (by omega) (by omega) ?_
  refine va_putF (D := (dC, dI)) (ci := 10) (v := .ref q_43) (ty := .object "HotelOfBells$Dream") (C := RX5) (T := TX5) (N := 9) hx hb hts u_c_init_X5 tyX5 tyX5_ok nmX5 hown hK hP hD hS 0 rfl rfl 4 (by decide) (hts (.fieldLink RX5 38 "HotelOfBells" "dream" "LHotelOfBells$Dream;") (List.mem_of_getElem? (i := 62) rfl)) (fun _ h9 => h9) rfl hin rfl (by decide +kernel) rfl rfl (Nat.le_of_ble_eq_true rfl) dX5_init_90 (fun H locs hP hD hS => ?_)
  have hP : va_P (dC, dI) vwCl [(h0, .inr (10, [.ref q_1, .ref q_3, .ref q_5, .ref q_7, .ref q_43, .ref q_15, .int 0, .int 0, .int 0])), (q_1, .inr (4, [.int 0, .ref tE, .int 0])), (q_3, .inr (4, [.int 0, .ref tE, .int 0])), (q_5, .inr (4, [.int 0, .ref tE, .int 0])), (q_7, .inr (8, [.int 0, .ref qx_9, .ref qx_10, .ref qx_11])), (qx_9, .inl (cx_12, 6, .inl (fun _ => 0))), (qx_10, .inl (cx_13, 4, .inl (fun _ => 0))), (qx_11, .inl (cx_14, 4, .inl (fun _ => 0))), (q_15, .inl (cA_16, 512, .inl (fun _ => 0))), (q_18, .inr (5, [.ref qd_20, .ref qd_21, .null])), (q_23, .inr (5, [.ref qd_25, .ref qd_26, .ref q_18])), (q_28, .inr (5, [.ref qd_30, .ref qd_31, .ref q_23])), (q_33, .inr (5, [.ref qd_35, .ref qd_36, .ref q_28])), (q_38, .inr (5, [.ref qd_40, .ref qd_41, .ref q_33])), (q_43, .inr (5, [.ref qd_45, .ref qd_46, .ref q_38]))] H := hP
  have hD : va_D A [(h0, .inr (10, [.ref q_1, .ref q_3, .ref q_5, .ref q_7, .ref q_43, .ref q_15, .int 0, .int 0, .int 0])), (q_1, .inr (4, [.int 0, .ref tE, .int 0])), (q_3, .inr (4, [.int 0, .ref tE, .int 0])), (q_5, .inr (4, [.int 0, .ref tE, .int 0])), (q_7, .inr (8, [.int 0, .ref qx_9, .ref qx_10, .ref qx_11])), (qx_9, .inl (cx_12, 6, .inl (fun _ => 0))), (qx_10, .inl (cx_13, 4, .inl (fun _ => 0))), (qx_11, .inl (cx_14, 4, .inl (fun _ => 0))), (q_15, .inl (cA_16, 512, .inl (fun _ => 0))), (q_18, .inr (5, [.ref qd_20, .ref qd_21, .null])), (q_23, .inr (5, [.ref qd_25, .ref qd_26, .ref q_18])), (q_28, .inr (5, [.ref qd_30, .ref qd_31, .ref q_23])), (q_33, .inr (5, [.ref qd_35, .ref qd_36, .ref q_28])), (q_38, .inr (5, [.ref qd_40, .ref qd_41, .ref q_33])), (q_43, .inr (5, [.ref qd_45, .ref qd_46, .ref q_38]))] := hD
  have hP9 := hP.sub (ws' := [(h0, .inr (10, [.ref q_1, .ref q_3, .ref q_5, .ref q_7, .ref q_43, .ref q_15, .int 0, .int 0, .int 0])), (q_1, .inr (4, [.int 0, .ref tE, .int 0])), (q_3, .inr (4, [.int 0, .ref tE, .int 0])), (q_5, .inr (4, [.int 0, .ref tE, .int 0])), (q_7, .inr (8, [.int 0, .ref qx_9, .ref qx_10, .ref qx_11]))]) [0, 1, 2, 3, 4] rfl
  have hD9 := hD.sub (ws' := [(h0, .inr (10, [.ref q_1, .ref q_3, .ref q_5, .ref q_7, .ref q_43, .ref q_15, .int 0, .int 0, .int 0])), (q_1, .inr (4, [.int 0, .ref tE, .int 0])), (q_3, .inr (4, [.int 0, .ref tE, .int 0])), (q_5, .inr (4, [.int 0, .ref tE, .int 0])), (q_7, .inr (8, [.int 0, .ref qx_9, .ref qx_10, .ref qx_11]))]) [0, 1, 2, 3, 4] (by decide) rfl
  have hK9 := hK.sub (tys' := []) [] rfl
  exact W.vret hx hb hr (fun t ht hW => ⟨⟨(), rfl, trivial, q_1, q_3, q_5, q_7, q_43, q_15, qx_9, qx_10, qx_11, by rw [ht]; exact hP9, va_K.moved hW.alike hK9, hD9⟩, hS.F ht⟩) hS.2.2 dX5_init_93
