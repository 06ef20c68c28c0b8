theorem dX5_play_0 : decode cX5_play 0 = .ok (.iload_n 1, 1) := by decide +kernel
theorem dX5_play_1 : decode cX5_play 1 = .ok (.invokestatic 76, 3) := by decide +kernel
theorem dX5_play_12 : decode cX5_play 12 = .ok (.dup, 1) := by decide +kernel
theorem dX5_play_13 : decode cX5_play 13 = .ok (.ldc 80, 2) := by decide +kernel
theorem dX5_play_15 : decode cX5_play 15 = .ok (.invokespecial 46, 3) := by decide +kernel
theorem dX5_play_18 : decode cX5_play 18 = .ok (.athrow, 1) := by decide +kernel
theorem dX5_play_19 : decode cX5_play 19 = .ok (.iconst 0, 1) := by decide +kernel
theorem dX5_play_20 : decode cX5_play 20 = .ok (.istore_n 3, 1) := by decide +kernel
theorem dX5_play_21 : decode cX5_play 21 = .ok (.iload_n 2, 1) := by decide +kernel
theorem dX5_play_22 : decode cX5_play 22 = .ok (.bipush 10, 2) := by decide +kernel
theorem dX5_play_24 : decode cX5_play 24 = .ok (.idiv, 1) := by decide +kernel
theorem dX5_play_25 : decode cX5_play 25 = .ok (.istore 4, 2) := by decide +kernel
theorem dX5_play_27 : decode cX5_play 27 = .ok (.iload 4, 2) := by decide +kernel
theorem dX5_play_29 : decode cX5_play 29 = .ok (.ifCond .le 26, 3) := by decide +kernel
theorem dX5_play_32 : decode cX5_play 32 = .ok (.iload_n 3, 1) := by decide +kernel
theorem dX5_play_33 : decode cX5_play 33 = .ok (.aload_n 0, 1) := by decide +kernel
theorem dX5_play_34 : decode cX5_play 34 = .ok (.iload_n 1, 1) := by decide +kernel
theorem dX5_play_35 : decode cX5_play 35 = .ok (.iload 4, 2) := by decide +kernel
theorem dX5_play_37 : decode cX5_play 37 = .ok (.invokestatic 219, 3) := by decide +kernel
theorem dX5_play_4 : decode cX5_play 4 = .ok (.istore_n 2, 1) := by decide +kernel
theorem dX5_play_40 : decode cX5_play 40 = .ok (.invokevirtual 216, 3) := by decide +kernel
theorem dX5_play_43 : decode cX5_play 43 = .ok (.iadd, 1) := by decide +kernel
theorem dX5_play_44 : decode cX5_play 44 = .ok (.istore_n 3, 1) := by decide +kernel
theorem dX5_play_45 : decode cX5_play 45 = .ok (.iload 4, 2) := by decide +kernel
theorem dX5_play_47 : decode cX5_play 47 = .ok (.bipush 10, 2) := by decide +kernel
theorem dX5_play_49 : decode cX5_play 49 = .ok (.idiv, 1) := by decide +kernel
theorem dX5_play_5 : decode cX5_play 5 = .ok (.iload_n 2, 1) := by decide +kernel
theorem dX5_play_50 : decode cX5_play 50 = .ok (.istore 4, 2) := by decide +kernel
theorem dX5_play_52 : decode cX5_play 52 = .ok (.goto (-25), 3) := by decide +kernel
theorem dX5_play_55 : decode cX5_play 55 = .ok (.iload_n 3, 1) := by decide +kernel
theorem dX5_play_56 : decode cX5_play 56 = .ok (.ireturn, 1) := by decide +kernel
theorem dX5_play_6 : decode cX5_play 6 = .ok (.ifCond .ne 13, 3) := by decide +kernel
theorem dX5_play_9 : decode cX5_play 9 = .ok (.new 42, 3) := by decide +kernel
theorem dX5_spanOf_0 : decode cX5_spanOf 0 = .ok (.iload_n 0, 1) := by decide +kernel
theorem dX5_spanOf_1 : decode cX5_spanOf 1 = .ok (.iconst 1, 1) := by decide +kernel
theorem dX5_spanOf_12 : decode cX5_spanOf 12 = .ok (.iconst 0, 1) := by decide +kernel
theorem dX5_spanOf_13 : decode cX5_spanOf 13 = .ok (.ireturn, 1) := by decide +kernel
theorem dX5_spanOf_14 : decode cX5_spanOf 14 = .ok (.iconst 1, 1) := by decide +kernel
theorem dX5_spanOf_15 : decode cX5_spanOf 15 = .ok (.istore_n 1, 1) := by decide +kernel
theorem dX5_spanOf_16 : decode cX5_spanOf 16 = .ok (.iload_n 0, 1) := by decide +kernel
theorem dX5_spanOf_17 : decode cX5_spanOf 17 = .ok (.istore_n 2, 1) := by decide +kernel
theorem dX5_spanOf_18 : decode cX5_spanOf 18 = .ok (.iload_n 2, 1) := by decide +kernel
theorem dX5_spanOf_19 : decode cX5_spanOf 19 = .ok (.ifCond .le 33, 3) := by decide +kernel
theorem dX5_spanOf_2 : decode cX5_spanOf 2 = .ok (.if_icmp .lt 10, 3) := by decide +kernel
theorem dX5_spanOf_22 : decode cX5_spanOf 22 = .ok (.iload_n 2, 1) := by decide +kernel
theorem dX5_spanOf_23 : decode cX5_spanOf 23 = .ok (.bipush 10, 2) := by decide +kernel
theorem dX5_spanOf_25 : decode cX5_spanOf 25 = .ok (.irem, 1) := by decide +kernel
theorem dX5_spanOf_26 : decode cX5_spanOf 26 = .ok (.istore_n 3, 1) := by decide +kernel
theorem dX5_spanOf_27 : decode cX5_spanOf 27 = .ok (.iload_n 3, 1) := by decide +kernel
theorem dX5_spanOf_28 : decode cX5_spanOf 28 = .ok (.iconst 1, 1) := by decide +kernel
theorem dX5_spanOf_29 : decode cX5_spanOf 29 = .ok (.if_icmp .lt 8, 3) := by decide +kernel
theorem dX5_spanOf_32 : decode cX5_spanOf 32 = .ok (.iload_n 3, 1) := by decide +kernel
theorem dX5_spanOf_33 : decode cX5_spanOf 33 = .ok (.iconst 4, 1) := by decide +kernel
theorem dX5_spanOf_34 : decode cX5_spanOf 34 = .ok (.if_icmp .le 5, 3) := by decide +kernel
theorem dX5_spanOf_37 : decode cX5_spanOf 37 = .ok (.iconst 0, 1) := by decide +kernel
theorem dX5_spanOf_38 : decode cX5_spanOf 38 = .ok (.ireturn, 1) := by decide +kernel
theorem dX5_spanOf_39 : decode cX5_spanOf 39 = .ok (.iload_n 1, 1) := by decide +kernel
theorem dX5_spanOf_40 : decode cX5_spanOf 40 = .ok (.bipush 10, 2) := by decide +kernel
theorem dX5_spanOf_42 : decode cX5_spanOf 42 = .ok (.imul, 1) := by decide +kernel
theorem dX5_spanOf_43 : decode cX5_spanOf 43 = .ok (.istore_n 1, 1) := by decide +kernel
theorem dX5_spanOf_44 : decode cX5_spanOf 44 = .ok (.iload_n 2, 1) := by decide +kernel
theorem dX5_spanOf_45 : decode cX5_spanOf 45 = .ok (.bipush 10, 2) := by decide +kernel
theorem dX5_spanOf_47 : decode cX5_spanOf 47 = .ok (.idiv, 1) := by decide +kernel
theorem dX5_spanOf_48 : decode cX5_spanOf 48 = .ok (.istore_n 2, 1) := by decide +kernel
theorem dX5_spanOf_49 : decode cX5_spanOf 49 = .ok (.goto (-31), 3) := by decide +kernel
theorem dX5_spanOf_5 : decode cX5_spanOf 5 = .ok (.iload_n 0, 1) := by decide +kernel
theorem dX5_spanOf_52 : decode cX5_spanOf 52 = .ok (.iload_n 1, 1) := by decide +kernel
theorem dX5_spanOf_53 : decode cX5_spanOf 53 = .ok (.ireturn, 1) := by decide +kernel
theorem dX5_spanOf_6 : decode cX5_spanOf 6 = .ok (.ldc_w 284, 3) := by decide +kernel
theorem dX5_spanOf_9 : decode cX5_spanOf 9 = .ok (.if_icmp .le 5, 3) := by decide +kernel
theorem dX6_digits_0 : decode cX6_digits 0 = .ok (.iconst 0, 1) := by decide +kernel
theorem dX6_digits_1 : decode cX6_digits 1 = .ok (.istore_n 1, 1) := by decide +kernel
theorem dX6_digits_11 : decode cX6_digits 11 = .ok (.irem, 1) := by decide +kernel
theorem dX6_digits_12 : decode cX6_digits 12 = .ok (.iconst 1, 1) := by decide +kernel
theorem dX6_digits_13 : decode cX6_digits 13 = .ok (.iconst 4, 1) := by decide +kernel
theorem dX6_digits_14 : decode cX6_digits 14 = .ok (.invokestatic 27, 3) := by decide +kernel
theorem dX6_digits_17 : decode cX6_digits 17 = .ok (.ifCond .ne 5, 3) := by decide +kernel
theorem dX6_digits_2 : decode cX6_digits 2 = .ok (.iload_n 0, 1) := by decide +kernel
theorem dX6_digits_20 : decode cX6_digits 20 = .ok (.iconst 0, 1) := by decide +kernel
theorem dX6_digits_21 : decode cX6_digits 21 = .ok (.ireturn, 1) := by decide +kernel
theorem dX6_digits_22 : decode cX6_digits 22 = .ok (.iinc 1 1, 3) := by decide +kernel
theorem dX6_digits_25 : decode cX6_digits 25 = .ok (.iload_n 2, 1) := by decide +kernel
theorem dX6_digits_26 : decode cX6_digits 26 = .ok (.bipush 10, 2) := by decide +kernel
theorem dX6_digits_28 : decode cX6_digits 28 = .ok (.idiv, 1) := by decide +kernel
theorem dX6_digits_29 : decode cX6_digits 29 = .ok (.istore_n 2, 1) := by decide +kernel
theorem dX6_digits_3 : decode cX6_digits 3 = .ok (.istore_n 2, 1) := by decide +kernel
theorem dX6_digits_30 : decode cX6_digits 30 = .ok (.goto (-26), 3) := by decide +kernel
theorem dX6_digits_33 : decode cX6_digits 33 = .ok (.iload_n 1, 1) := by decide +kernel
theorem dX6_digits_34 : decode cX6_digits 34 = .ok (.bipush 6, 2) := by decide +kernel
theorem dX6_digits_36 : decode cX6_digits 36 = .ok (.if_icmp .le 7, 3) := by decide +kernel
theorem dX6_digits_39 : decode cX6_digits 39 = .ok (.iconst 0, 1) := by decide +kernel
theorem dX6_digits_4 : decode cX6_digits 4 = .ok (.iload_n 2, 1) := by decide +kernel
theorem dX6_digits_40 : decode cX6_digits 40 = .ok (.goto 4, 3) := by decide +kernel
theorem dX6_digits_43 : decode cX6_digits 43 = .ok (.iload_n 1, 1) := by decide +kernel
theorem dX6_digits_44 : decode cX6_digits 44 = .ok (.ireturn, 1) := by decide +kernel
theorem dX6_digits_5 : decode cX6_digits 5 = .ok (.ifCond .eq 28, 3) := by decide +kernel
theorem dX6_digits_8 : decode cX6_digits 8 = .ok (.iload_n 2, 1) := by decide +kernel
theorem dX6_digits_9 : decode cX6_digits 9 = .ok (.bipush 10, 2) := by decide +kernel
theorem dX6_play_0 : decode cX6_play 0 = .ok (.aload_n 0, 1) := by decide +kernel
theorem dX6_play_1 : decode cX6_play 1 = .ok (.iconst 0, 1) := by decide +kernel
theorem dX6_play_12 : decode cX6_play 12 = .ok (.aload_n 0, 1) := by decide +kernel
theorem dX6_play_13 : decode cX6_play 13 = .ok (.iconst 1, 1) := by decide +kernel
theorem dX6_play_14 : decode cX6_play 14 = .ok (.invokevirtual 45, 3) := by decide +kernel
theorem dX6_play_17 : decode cX6_play 17 = .ok (.ireturn, 1) := by decide +kernel
theorem dX6_play_18 : decode cX6_play 18 = .ok (.iconst 0, 1) := by decide +kernel
theorem dX6_play_19 : decode cX6_play 19 = .ok (.istore_n 2, 1) := by decide +kernel
theorem dX6_play_2 : decode cX6_play 2 = .ok (.putfield 20, 3) := by decide +kernel
theorem dX6_play_20 : decode cX6_play 20 = .ok (.iload_n 1, 1) := by decide +kernel
theorem dX6_play_21 : decode cX6_play 21 = .ok (.invokestatic 53, 3) := by decide +kernel
theorem dX6_play_24 : decode cX6_play 24 = .ok (.iconst 1, 1) := by decide +kernel
theorem dX6_play_25 : decode cX6_play 25 = .ok (.isub, 1) := by decide +kernel
theorem dX6_play_26 : decode cX6_play 26 = .ok (.istore_n 3, 1) := by decide +kernel
theorem dX6_play_27 : decode cX6_play 27 = .ok (.iload_n 3, 1) := by decide +kernel
theorem dX6_play_28 : decode cX6_play 28 = .ok (.ifCond .lt 25, 3) := by decide +kernel
theorem dX6_play_31 : decode cX6_play 31 = .ok (.iload_n 2, 1) := by decide +kernel
theorem dX6_play_32 : decode cX6_play 32 = .ok (.aload_n 0, 1) := by decide +kernel
theorem dX6_play_33 : decode cX6_play 33 = .ok (.iload_n 1, 1) := by decide +kernel
theorem dX6_play_34 : decode cX6_play 34 = .ok (.iload_n 3, 1) := by decide +kernel
theorem dX6_play_35 : decode cX6_play 35 = .ok (.invokestatic 90, 3) := by decide +kernel
theorem dX6_play_38 : decode cX6_play 38 = .ok (.idiv, 1) := by decide +kernel
theorem dX6_play_39 : decode cX6_play 39 = .ok (.bipush 10, 2) := by decide +kernel
theorem dX6_play_41 : decode cX6_play 41 = .ok (.irem, 1) := by decide +kernel
theorem dX6_play_42 : decode cX6_play 42 = .ok (.invokevirtual 130, 3) := by decide +kernel
theorem dX6_play_45 : decode cX6_play 45 = .ok (.iadd, 1) := by decide +kernel
theorem dX6_play_46 : decode cX6_play 46 = .ok (.istore_n 2, 1) := by decide +kernel
theorem dX6_play_47 : decode cX6_play 47 = .ok (.iinc 3 (-1), 3) := by decide +kernel
theorem dX6_play_5 : decode cX6_play 5 = .ok (.iload_n 1, 1) := by decide +kernel
theorem dX6_play_50 : decode cX6_play 50 = .ok (.goto (-23), 3) := by decide +kernel
theorem dX6_play_53 : decode cX6_play 53 = .ok (.iload_n 2, 1) := by decide +kernel
theorem dX6_play_54 : decode cX6_play 54 = .ok (.ireturn, 1) := by decide +kernel
theorem dX6_play_6 : decode cX6_play 6 = .ok (.invokestatic 53, 3) := by decide +kernel
theorem dX6_play_9 : decode cX6_play 9 = .ok (.ifCond .ne 9, 3) := by decide +kernel
def v_c_digits : List Cond := .code yX6_digits cX6_digits 3 (some .int) :: ([Cond.code yX6_isIn cX6_isIn 3 (some .boolean), Cond.methodLink RX6 27 yX6_isIn, Cond.static yX6_isIn, Cond.initialized RX6] ++ [])
theorem gg_c_digits_c_isIn_f : GoodIn v_c_digits v_c_isIn_f := goodIn_r _ [1] (by rfl) (by decide +kernel)
theorem gg_c_digits_c_isIn_t : GoodIn v_c_digits v_c_isIn_t := goodIn_r _ [1] (by rfl) (by decide +kernel)
set_option maxHeartbeats 4000000 in
set_option maxRecDepth 100000 in
theorem c_digits (l : Launch) (hl9 : l.stackTraces = false) (dC : Nat → ClassId) (dI : Nat → Nat → Nat) (tE : Nat) (p0 : Int32) (sz : Nat) : Met l yX6_digits v_c_digits ({ frames := 1, cells := 0, slots := 0, locals := 22 }) (va_Pc [.int p0] (Pre0 dC dI tE sz [] [])) (va_Qi (fun (r : Int32) (_ : Unit) => r = dgt p0) (fun _ t => Pst dC dI [] (va_A [] sz) [] t) (va_A [] sz)) 0 0 (va_A [] sz) := by
  refine Met.ofW (cc := cX6_digits) (maxL := 3) (ret := (some .int)) (by decide) rfl ?_
  intro p e s m args below meth c s₁ B hml hv
  obtain ⟨rfl, hsz, hP, hK, hD0, hT⟩ := hv
  have hx := B.exec
  have hb := B.bytes
  have hr := B.returns
  have hts := atoms_spec (ws := v_c_digits) B.pre
  have hown : s.vm.findClass RX6 = some m.cls := findClass_of_methodNamed B.named
  have hlocks := B.notSynchronized
  subst hsz
  have hD := hD0.self (sz := s.heap.size)
  generalize hAe : va_A [] s.heap.size = A at hD hT ⊢
  have hA : ∀ q : Nat, s.heap.size ≤ q → A q := fun q h => by rw [← hAe]; exact Or.inr h
  have hS : va_S A s.heap s.heap [] := va_S.rf
  have hl := lv_entry ([.int p0]) (n := 3) (Nat.le_of_ble_eq_true rfl)
  rw [lg_entry_eq]
  generalize (lg_sl ([.int p0]) ++ List.replicate (3 - (lg_sl ([.int p0])).length) Slot.unset).toArray = ls at hl ⊢
  have hl : lv_has ls 3 [(0, .int p0)] := hl
  refine lv_iconst (v := 0) hx hb dX6_digits_0 (by decide) ?_
  refine lv_istore_n (lv' := [(1, .int 0), (0, .int p0)]) hx hb dX6_digits_1 rfl hl (by decide) rfl (fun ls hl => ?_)
  refine lv_iload_n hx hb dX6_digits_2 rfl (lv_at hl 1 rfl) ?_
  refine lv_istore_n (lv' := [(2, .int p0), (1, .int 0), (0, .int p0)]) hx hb dX6_digits_3 rfl hl (by decide) rfl (fun ls hl => ?_)
  obtain ⟨left, hleft⟩ : ∃ z : Int32, z = p0 := ⟨_, rfl⟩
  obtain ⟨many, hmany⟩ : ∃ z : Int32, z = 0 := ⟨_, rfl⟩
  replace hl : lv_has ls 3 [(2, .int left), (1, .int many), (0, .int p0)] := by rw [hleft, hmany]; exact hl
  obtain ⟨n, hn, hI⟩ : ∃ n : Nat, left.toInt.natAbs < 10 ^ n ∧ dgL n many left = dgt p0 := ⟨10, i32_10 _, by rw [hleft, hmany]; rfl⟩
  clear hleft hmany
  obtain ⟨H, hH⟩ : ∃ z : Heap, z = s.heap := ⟨_, rfl⟩
  obtain ⟨locs, hlo⟩ : ∃ z : List Loc, z = [] := ⟨_, rfl⟩
  replace hP : va_P (dC, dI) vwCl [] H := by rw [hH]; exact hP
  replace hS : va_S A s.heap H locs := by rw [hH, hlo]; exact hS
  rw [← hH, ← hlo]
  clear hH hlo
  revert hl hn hI hP hS
  revert ls
  revert many
  revert left
  revert locs
  revert H
  induction n using Nat.strongRecOn
  rename_i n ih
  intro H locs left many ls hl hn hI hP hS
  refine lv_iload_n hx hb dX6_digits_4 rfl (lv_at hl 0 rfl) ?_
  refine lv_if_eq (tgt := 33) hx hb dX6_digits_5 (by decide) (fun c_1 => ?_) (fun c_1 => ?_)
  · refine lv_iload_n hx hb dX6_digits_33 rfl (lv_at hl 1 rfl) ?_
    refine lv_bipush (v := 6) hx hb dX6_digits_34 (by decide) ?_
    refine lv_icmp_le (tgt := 43) hx hb dX6_digits_36 (by decide) (fun c_2 => ?_) (fun c_2 => ?_)
    · refine lv_iload_n hx hb dX6_digits_43 rfl (lv_at hl 1 rfl) ?_
      have hP9 := hP.sub (ws' := []) [] rfl
      have hD9 := hD.sub (ws' := []) [] (by decide) rfl
      have hK9 := hK.sub (tys' := []) [] rfl
      exact W.iret (v := many) hx hb hr (fun t ht hW => ⟨⟨many, (), rfl, (by rw [← hI]; subst_vars; rw [dgL_zero]; simp [*]), by rw [ht]; exact hP9, va_K.moved hW.alike hK9, hD9⟩, hS.F ht⟩) hS.2.2 dX6_digits_44
    · refine lv_iconst (v := 0) hx hb dX6_digits_39 (by decide) ?_
      refine lv_goto (tgt := 44) hx hb dX6_digits_40 (by decide) ?_
      have hP9 := hP.sub (ws' := []) [] rfl
      have hD9 := hD.sub (ws' := []) [] (by decide) rfl
      have hK9 := hK.sub (tys' := []) [] rfl
      exact W.iret (v := 0) hx hb hr (fun t ht hW => ⟨⟨0, (), rfl, (by rw [← hI]; subst_vars; rw [dgL_zero]; simp [*]), by rw [ht]; exact hP9, va_K.moved hW.alike hK9, hD9⟩, hS.F ht⟩) hS.2.2 dX6_digits_44
  · refine lv_iload_n hx hb dX6_digits_8 rfl (lv_at hl 0 rfl) ?_
    refine lv_bipush (v := 10) hx hb dX6_digits_9 (by decide) ?_
    refine lv_irem hx hb dX6_digits_11 (by decide) ?_
    refine lv_topi (fun x_3 e_4 => ?_)
    obtain rfl : x_3 = dgO left := e_4
    refine lv_iconst (v := 1) hx hb dX6_digits_12 (by decide) ?_
    refine lv_iconst (v := 4) hx hb dX6_digits_13 (by decide) ?_
    rcases Decidable.em (dgO left < 1 ∨ 4 < dgO left) with hd | hd
    · have hPc := hP.sub (ws' := []) [] rfl
      have hDc := hD.sub (ws' := []) [] (by decide) rfl
      have hKc := hK.sub (tys' := []) [] rfl
      have hFc := va_free (wc := []) hD hS hA [] rfl
      refine va_calli (va_runS (As := [.int (dgO left), .int 1, .int 4]) (rest := []) ⟨hx, hb, hml, hown, hts⟩ (c_isIn_f l hl9 dC dI tE (dgO left) 1 4 _ hd) (va_cwS 3 hts (goodIn_app (goodIn_r _ [2, 3, 4] (by rfl) (by decide +kernel)) gg_c_digits_c_isIn_f) rfl rfl rfl (by decide +kernel) ⟨Nat.le_of_ble_eq_true rfl, Nat.le_of_ble_eq_true rfl⟩) ⟨Pre0.blind, Pre0.give hPc hKc hDc hT hS hFc⟩ rfl rfl hl.1 rfl (lv_room (Nat.le_of_ble_eq_true rfl)) dX6_digits_14 ⟨Nat.le_of_ble_eq_true rfl, Nat.le_of_ble_eq_true rfl⟩) hS (fun q _ h => hFc q h) hFc (fun r_5 u t H1 locs ht hvm hw hB hz1 hk1 hS => ?_)
      obtain ⟨hP1, hK1, hD1⟩ := hB
      rw [ht] at hP1
      have hK1 := va_K.moved hvm.symm hK1
      obtain ⟨hP, hD⟩ := va_join (wr := []) (w1 := []) hP hD [] [] rfl rfl (by decide) (by decide) hk1 hFc hP1 hD1
      generalize H1 = H at hP hS ⊢
      have hP : va_P (dC, dI) vwCl [] H := hP
      have hD : va_D A [] := hD
      refine W.widen (k := 0) (n := 0) (by omega) (by omega) ?_
      obtain rfl : r_5 = 0 := hw
      refine lv_if_ne (tgt := 22) hx hb dX6_digits_17 (by decide) (fun c_6 => absurd (by decide) c_6) (fun _ => ?_)
      refine lv_iconst (v := 0) hx hb dX6_digits_20 (by decide) ?_
      have hP9 := hP.sub (ws' := []) [] rfl
      have hD9 := hD.sub (ws' := []) [] (by decide) rfl
      have hK9 := hK.sub (tys' := []) [] rfl
      exact W.iret (v := 0) hx hb hr (fun t ht hW => ⟨⟨0, (), rfl, (by obtain ⟨k, rfl⟩ := fuel_pos hn (by assumption); rw [← hI]; exact (dg_bad (by assumption) hd).symm), by rw [ht]; exact hP9, va_K.moved hW.alike hK9, hD9⟩, hS.F ht⟩) hS.2.2 dX6_digits_21
    · have hPc := hP.sub (ws' := []) [] rfl
      have hDc := hD.sub (ws' := []) [] (by decide) rfl
      have hKc := hK.sub (tys' := []) [] rfl
      have hFc := va_free (wc := []) hD hS hA [] rfl
      refine va_calli (va_runS (As := [.int (dgO left), .int 1, .int 4]) (rest := []) ⟨hx, hb, hml, hown, hts⟩ (c_isIn_t l hl9 dC dI tE (dgO left) 1 4 _ (fun h => hd (Or.inl h)) (fun h => hd (Or.inr h))) (va_cwS 3 hts (goodIn_app (goodIn_r _ [2, 3, 4] (by rfl) (by decide +kernel)) gg_c_digits_c_isIn_t) rfl rfl rfl (by decide +kernel) ⟨Nat.le_of_ble_eq_true rfl, Nat.le_of_ble_eq_true rfl⟩) ⟨Pre0.blind, Pre0.give hPc hKc hDc hT hS hFc⟩ rfl rfl hl.1 rfl (lv_room (Nat.le_of_ble_eq_true rfl)) dX6_digits_14 ⟨Nat.le_of_ble_eq_true rfl, Nat.le_of_ble_eq_true rfl⟩) hS (fun q _ h => hFc q h) hFc (fun r_7 u t H1 locs ht hvm hw hB hz1 hk1 hS => ?_)
      obtain ⟨hP1, hK1, hD1⟩ := hB
      rw [ht] at hP1
      have hK1 := va_K.moved hvm.symm hK1
      obtain ⟨hP, hD⟩ := va_join (wr := []) (w1 := []) hP hD [] [] rfl rfl (by decide) (by decide) hk1 hFc hP1 hD1
      generalize H1 = H at hP hS ⊢
      have hP : va_P (dC, dI) vwCl [] H := hP
      have hD : va_D A [] := hD
      refine W.widen (k := 0) (n := 0) (by omega) (by omega) ?_
      obtain rfl : r_7 = 1 := hw
      refine lv_if_ne (tgt := 22) hx hb dX6_digits_17 (by decide) (fun _ => ?_) (fun c_8 => absurd c_8 (by decide))
      refine lv_iinc (v := many + 1) (lv' := [(1, .int (many + 1)), (2, .int left), (0, .int p0)]) hx hb dX6_digits_22 hl (k := 1) rfl rfl (by decide) rfl (fun ls hl => ?_)
      refine lv_iload_n hx hb dX6_digits_25 rfl (lv_at hl 1 rfl) ?_
      refine lv_bipush (v := 10) hx hb dX6_digits_26 (by decide) ?_
      refine lv_idiv hx hb dX6_digits_28 (by decide) ?_
      refine lv_topi (fun x_9 e_10 => ?_)
      obtain rfl : x_9 = left / 10 := e_10
      refine lv_istore_n (lv' := [(2, .int (left / 10)), (1, .int (many + 1)), (0, .int p0)]) hx hb dX6_digits_29 rfl hl (by decide) rfl (fun ls hl => ?_)
      refine lv_goto (tgt := 4) hx hb dX6_digits_30 (by decide) ?_
      obtain ⟨k, rfl⟩ := fuel_pos hn (by assumption)
      exact ih k (Nat.lt_succ_self k) _ _ _ _ ls (lv_sub hl [0, 1, 2] rfl) (i10_lt hn) (by rw [← hI]; exact (dg_step (by assumption) hd).symm) hP hS
def v_c_spanOf : List Cond := .code yX5_spanOf cX5_spanOf 4 (some .int) :: ([Cond.constant RX5 284 (444444)] ++ [])
set_option maxHeartbeats 4000000 in
set_option maxRecDepth 100000 in
theorem c_spanOf (l : Launch) (hl9 : l.stackTraces = false) (dC : Nat → ClassId) (dI : Nat → Nat → Nat) (tE : Nat) (p0 : Int32) (sz : Nat) : Met l yX5_spanOf v_c_spanOf ({ frames := 0, cells := 0, slots := 0, locals := 0 }) (va_Pc [.int p0] (Pre0 dC dI tE sz [] [])) (va_Qi (fun (r : Int32) (_ : Unit) => r = sp10 (dgt p0)) (fun _ t => Pst dC dI [] (va_A [] sz) [] t) (va_A [] sz)) 0 0 (va_A [] sz) := by
  refine Met.ofW (cc := cX5_spanOf) (maxL := 4) (ret := (some .int)) (by decide) rfl ?_
  intro p e s m args below meth c s₁ B hml hv
  obtain ⟨rfl, hsz, hP, hK, hD0, hT⟩ := hv
  have hx := B.exec
  have hb := B.bytes
  have hr := B.returns
  have hts := atoms_spec (ws := v_c_spanOf) B.pre
  have hown : s.vm.findClass RX5 = some m.cls := findClass_of_methodNamed B.named
  have hlocks := B.notSynchronized
  subst hsz
  have hD := hD0.self (sz := s.heap.size)
  generalize hAe : va_A [] s.heap.size = A at hD hT ⊢
  have hA : ∀ q : Nat, s.heap.size ≤ q → A q := fun q h => by rw [← hAe]; exact Or.inr h
  have hS : va_S A s.heap s.heap [] := va_S.rf
  have hl := lv_entry ([.int p0]) (n := 4) (Nat.le_of_ble_eq_true rfl)
  rw [lg_entry_eq]
  generalize (lg_sl ([.int p0]) ++ List.replicate (4 - (lg_sl ([.int p0])).length) Slot.unset).toArray = ls at hl ⊢
  have hl : lv_has ls 4 [(0, .int p0)] := hl
  refine lv_iload_n hx hb dX5_spanOf_0 rfl (lv_at hl 0 rfl) ?_
  refine lv_iconst (v := 1) hx hb dX5_spanOf_1 (by decide) ?_
  refine lv_icmp_lt (tgt := 12) hx hb dX5_spanOf_2 (by decide) (fun c_1 => ?_) (fun c_1 => ?_)
  · refine lv_iconst (v := 0) hx hb dX5_spanOf_12 (by decide) ?_
    have hP9 := hP.sub (ws' := []) [] rfl
    have hD9 := hD.sub (ws' := []) [] (by decide) rfl
    have hK9 := hK.sub (tys' := []) [] rfl
    exact W.iret (v := 0) hx hb hr (fun t ht hW => ⟨⟨0, (), rfl, (by rw [dgt_out (by first | exact Or.inl (by assumption) | exact Or.inr (nl1 (by assumption)))]; rfl), by rw [ht]; exact hP9, va_K.moved hW.alike hK9, hD9⟩, hS.F ht⟩) hS.2.2 dX5_spanOf_13
  · refine lv_iload_n hx hb dX5_spanOf_5 rfl (lv_at hl 0 rfl) ?_
    refine lv_ldcw (v := 444444) hx hb hown (hts (.constant RX5 284 (444444)) (List.mem_of_getElem? (i := 1) rfl)) dX5_spanOf_6 ?_
    refine lv_icmp_le (tgt := 14) hx hb dX5_spanOf_9 (by decide) (fun c_2 => ?_) (fun c_2 => ?_)
    · refine lv_iconst (v := 1) hx hb dX5_spanOf_14 (by decide) ?_
      refine lv_istore_n (lv' := [(1, .int 1), (0, .int p0)]) hx hb dX5_spanOf_15 rfl hl (by decide) rfl (fun ls hl => ?_)
      refine lv_iload_n hx hb dX5_spanOf_16 rfl (lv_at hl 1 rfl) ?_
      refine lv_istore_n (lv' := [(2, .int p0), (1, .int 1), (0, .int p0)]) hx hb dX5_spanOf_17 rfl hl (by decide) rfl (fun ls hl => ?_)
      obtain ⟨rest, hrest⟩ : ∃ z : Int32, z = p0 := ⟨_, rfl⟩
      obtain ⟨span, hspan⟩ : ∃ z : Int32, z = 1 := ⟨_, rfl⟩
      replace hl : lv_has ls 4 [(2, .int rest), (1, .int span), (0, .int p0)] := by rw [hrest, hspan]; exact hl
      obtain ⟨n, hn, hI⟩ : ∃ n : Nat, rest.toInt.natAbs < 10 ^ n ∧ spL n span rest = sp10 (dgt p0) := ⟨10, i32_10 _, by rw [hrest, hspan]; exact spn_eq (by assumption) (by assumption)⟩
      clear hrest hspan
      revert hl hn hI
      revert ls
      revert span
      revert rest
      induction n using Nat.strongRecOn
      rename_i n ih
      intro rest span ls hl hn hI
      refine lv_iload_n hx hb dX5_spanOf_18 rfl (lv_at hl 0 rfl) ?_
      refine lv_if_le (tgt := 52) hx hb dX5_spanOf_19 (by decide) (fun c_3 => ?_) (fun c_3 => ?_)
      · refine lv_iload_n hx hb dX5_spanOf_52 rfl (lv_at hl 1 rfl) ?_
        have hP9 := hP.sub (ws' := []) [] rfl
        have hD9 := hD.sub (ws' := []) [] (by decide) rfl
        have hK9 := hK.sub (tys' := []) [] rfl
        exact W.iret (v := span) hx hb hr (fun t ht hW => ⟨⟨span, (), rfl, (by rw [← hI, spL_end _ _ _ (by assumption)]), by rw [ht]; exact hP9, va_K.moved hW.alike hK9, hD9⟩, hS.F ht⟩) hS.2.2 dX5_spanOf_53
      · refine lv_iload_n hx hb dX5_spanOf_22 rfl (lv_at hl 0 rfl) ?_
        refine lv_bipush (v := 10) hx hb dX5_spanOf_23 (by decide) ?_
        refine lv_irem hx hb dX5_spanOf_25 (by decide) ?_
        refine lv_topi (fun x_4 e_5 => ?_)
        obtain rfl : x_4 = dgO rest := e_5
        refine lv_istore_n (lv' := [(3, .int (dgO rest)), (2, .int rest), (1, .int span), (0, .int p0)]) hx hb dX5_spanOf_26 rfl hl (by decide) rfl (fun ls hl => ?_)
        refine lv_iload_n hx hb dX5_spanOf_27 rfl (lv_at hl 0 rfl) ?_
        refine lv_iconst (v := 1) hx hb dX5_spanOf_28 (by decide) ?_
        refine lv_icmp_lt (tgt := 37) hx hb dX5_spanOf_29 (by decide) (fun c_6 => ?_) (fun c_6 => ?_)
        · refine lv_iconst (v := 0) hx hb dX5_spanOf_37 (by decide) ?_
          have hP9 := hP.sub (ws' := []) [] rfl
          have hD9 := hD.sub (ws' := []) [] (by decide) rfl
          have hK9 := hK.sub (tys' := []) [] rfl
          exact W.iret (v := 0) hx hb hr (fun t ht hW => ⟨⟨0, (), rfl, (by obtain ⟨k, rfl⟩ := fuel_pos hn (le0_ne (by assumption)); rw [← hI]; exact (sp_bad (by assumption) (by first | exact Or.inl (by assumption) | exact Or.inr (Int32.not_le.mp (by assumption)))).symm), by rw [ht]; exact hP9, va_K.moved hW.alike hK9, hD9⟩, hS.F ht⟩) hS.2.2 dX5_spanOf_38
        · refine lv_iload_n hx hb dX5_spanOf_32 rfl (lv_at hl 0 rfl) ?_
          refine lv_iconst (v := 4) hx hb dX5_spanOf_33 (by decide) ?_
          refine lv_icmp_le (tgt := 39) hx hb dX5_spanOf_34 (by decide) (fun c_7 => ?_) (fun c_7 => ?_)
          · refine lv_iload_n hx hb dX5_spanOf_39 rfl (lv_at hl 2 rfl) ?_
            refine lv_bipush (v := 10) hx hb dX5_spanOf_40 (by decide) ?_
            refine lv_imul hx hb dX5_spanOf_42 ?_
            refine lv_topi (fun x_8 e_9 => ?_)
            obtain rfl : x_8 = span * 10 := e_9
            refine lv_istore_n (lv' := [(1, .int (span * 10)), (3, .int (dgO rest)), (2, .int rest), (0, .int p0)]) hx hb dX5_spanOf_43 rfl hl (by decide) rfl (fun ls hl => ?_)
            refine lv_iload_n hx hb dX5_spanOf_44 rfl (lv_at hl 2 rfl) ?_
            refine lv_bipush (v := 10) hx hb dX5_spanOf_45 (by decide) ?_
            refine lv_idiv hx hb dX5_spanOf_47 (by decide) ?_
            refine lv_topi (fun x_10 e_11 => ?_)
            obtain rfl : x_10 = rest / 10 := e_11
            refine lv_istore_n (lv' := [(2, .int (rest / 10)), (1, .int (span * 10)), (3, .int (dgO rest)), (0, .int p0)]) hx hb dX5_spanOf_48 rfl hl (by decide) rfl (fun ls hl => ?_)
            refine lv_goto (tgt := 18) hx hb dX5_spanOf_49 (by decide) ?_
            obtain ⟨k, rfl⟩ := fuel_pos hn (le0_ne (by assumption))
            exact ih k (Nat.lt_succ_self k) _ _ ls (lv_sub hl [0, 1, 3] rfl) (i10_lt hn) (by rw [← hI]; exact (sp_step (by assumption) (fun h => h.elim (by assumption) (Int32.not_lt.mpr (by assumption)))).symm)
          · refine lv_iconst (v := 0) hx hb dX5_spanOf_37 (by decide) ?_
            have hP9 := hP.sub (ws' := []) [] rfl
            have hD9 := hD.sub (ws' := []) [] (by decide) rfl
            have hK9 := hK.sub (tys' := []) [] rfl
            exact W.iret (v := 0) hx hb hr (fun t ht hW => ⟨⟨0, (), rfl, (by obtain ⟨k, rfl⟩ := fuel_pos hn (le0_ne (by assumption)); rw [← hI]; exact (sp_bad (by assumption) (by first | exact Or.inl (by assumption) | exact Or.inr (Int32.not_le.mp (by assumption)))).symm), by rw [ht]; exact hP9, va_K.moved hW.alike hK9, hD9⟩, hS.F ht⟩) hS.2.2 dX5_spanOf_38
    · refine lv_iconst (v := 0) hx hb dX5_spanOf_12 (by decide) ?_
      have hP9 := hP.sub (ws' := []) [] rfl
      have hD9 := hD.sub (ws' := []) [] (by decide) rfl
      have hK9 := hK.sub (tys' := []) [] rfl
      exact W.iret (v := 0) hx hb hr (fun t ht hW => ⟨⟨0, (), rfl, (by rw [dgt_out (by first | exact Or.inl (by assumption) | exact Or.inr (nl1 (by assumption)))]; rfl), by rw [ht]; exact hP9, va_K.moved hW.alike hK9, hD9⟩, hS.F ht⟩) hS.2.2 dX5_spanOf_13
def v_c_play_1 : List Cond := .code yX5_play cX5_play 5 (some .int) :: ([Cond.code yX5_spanOf cX5_spanOf 4 (some .int), Cond.constant RX5 284 (444444), Cond.methodLink RX5 76 yX5_spanOf, Cond.static yX5_spanOf, Cond.initialized RX5, Cond.code yX5_toneAt cX5_toneAt 2 (some .int), Cond.methodLink RX5 219 yX5_toneAt, Cond.static yX5_toneAt, Cond.code yX5_toll cX5_toll 4 (some .int), Cond.fieldLink RX5 19 "HotelOfBells" "guests" "Ljava/util/ArrayList;", Cond.code yJx4a65c_size_8abf5 cJx4a65c_size_8abf5 1 (some .int), Cond.fieldLink RJx4a65c 48 "java/util/ArrayList" "size" "I", Cond.methodLink RX5 49 yJx4a65c_size_8abf5, Cond.instanceMethod yJx4a65c_size_8abf5, Cond.selects RJx4a65c yJx4a65c_size_8abf5 yJx4a65c_size_8abf5, Cond.initialized RJx4a65c, Cond.fieldLink RX5 200 "HotelOfBells" "bells" "I", Cond.fieldLink RX5 203 "HotelOfBells" "turnsByBells" "I", Cond.fieldLink RX5 25 "HotelOfBells" "now" "LHotelOfBells$Moment;", Cond.code yX5_strike cX5_strike 6 (some .int), Cond.fieldLink RX5 156 "HotelOfBells$Moment" "heard" "I", Cond.code yX5_heardWith cX5_heardWith 2 (some .int), Cond.constant RX5 247 (100000), Cond.methodLink RX5 252 yX5_heardWith, Cond.static yX5_heardWith, Cond.fieldLink RX5 10 "HotelOfBells" "floors" "Ljava/util/ArrayList;", Cond.fieldLink RX5 16 "HotelOfBells" "shafts" "Ljava/util/ArrayList;", Cond.methodLink RX5 237 yX5_strike, Cond.instanceMethod yX5_strike, Cond.selects RX5 yX5_strike yX5_strike, Cond.methodLink RX5 216 yX5_toll, Cond.instanceMethod yX5_toll, Cond.selects RX5 yX5_toll yX5_toll] ++ (wsX50 ++ (wsJx4a65c0 ++ (wsX30 ++ []))))
theorem u_c_play_1_X5 : ∀ w ∈ wsX50, w ∈ v_c_play_1 := fun _ h => List.mem_cons_of_mem _ (List.mem_append_right _ (List.mem_append_left _ h))
theorem u_c_play_1_Jx4a65c : ∀ w ∈ wsJx4a65c0, w ∈ v_c_play_1 := fun _ h => List.mem_cons_of_mem _ (List.mem_append_right _ (List.mem_append_right _ (List.mem_append_left _ h)))
theorem u_c_play_1_X3 : ∀ w ∈ wsX30, w ∈ v_c_play_1 := fun _ h => List.mem_cons_of_mem _ (List.mem_append_right _ (List.mem_append_right _ (List.mem_append_right _ (List.mem_append_left _ h))))
theorem gg_c_play_1_c_spanOf : GoodIn v_c_play_1 v_c_spanOf := goodIn_r _ [1, 2] (by rfl) (by decide +kernel)
theorem gg_c_play_1_c_toneAt : GoodIn v_c_play_1 v_c_toneAt := goodIn_r _ [6] (by rfl) (by decide +kernel)
theorem gg_c_play_1_c_toll : GoodIn v_c_play_1 v_c_toll := goodIn_r _ [9, 10, 11, 12, 13, 14, 15, 16, 17, 18, 19, 20, 21, 22, 23, 24, 25, 5, 26, 27, 28, 29, 30, 34, 35, 36, 37, 38, 39, 40, 41, 42, 43, 44, 45, 46, 47, 48, 49] (by rfl) (by decide +kernel)
set_option maxHeartbeats 4000000 in
set_option maxRecDepth 100000 in
theorem c_play_1 (l : Launch) (hl9 : l.stackTraces = false) (dC : Nat → ClassId) (dI : Nat → Nat → Nat) (tE : Nat) (h0 : Nat) (fq : Nat) (sq : Nat) (gq : Nat) (nq : Nat) (dq : Nat) (pq : Nat) (pl : Int32) (bl : Int32) (tb : Int32) (mc_fq : Int32) (mc_sq : Int32) (mc_gq : Int32) (tq : Nat) (zq : Nat) (wq : Nat) (hd : Int32) (p0 : Int32) (sz : Nat) (hd0 : dgt p0 = 1) : Met l yX5_play v_c_play_1 ({ frames := 3, cells := 0, slots := 0, locals := 69 }) (va_Pc [.ref h0, .int p0] (Pre0 dC dI tE sz [] [(h0, .inr (10, [.ref fq, .ref sq, .ref gq, .ref nq, .ref dq, .ref pq, .int pl, .int bl, .int tb])), (fq, .inr (4, [.int mc_fq, .ref tE, .int 0])), (sq, .inr (4, [.int mc_sq, .ref tE, .int 0])), (gq, .inr (4, [.int mc_gq, .ref tE, .int 0])), (nq, .inr (8, [.int hd, .ref tq, .ref zq, .ref wq]))])) (va_Qi (fun (r : Int32) (_ : Unit) => r = 0) (fun _ t => ∃ (vx0 : Int32), ∃ (vx1 : Int32), ∃ (vx2 : Int32), Pst dC dI [] (va_A [(h0, .inr (10, [.ref fq, .ref sq, .ref gq, .ref nq, .ref dq, .ref pq, .int pl, .int bl, .int tb])), (fq, .inr (4, [.int mc_fq, .ref tE, .int 0])), (sq, .inr (4, [.int mc_sq, .ref tE, .int 0])), (gq, .inr (4, [.int mc_gq, .ref tE, .int 0])), (nq, .inr (8, [.int hd, .ref tq, .ref zq, .ref wq]))] sz) [(h0, .inr (10, [.ref fq, .ref sq, .ref gq, .ref nq, .ref dq, .ref pq, .int pl, .int vx0, .int vx1])), (nq, .inr (8, [.int vx2, .ref tq, .ref zq, .ref wq])), (fq, .inr (4, [.int mc_fq, .ref tE, .int 0])), (sq, .inr (4, [.int mc_sq, .ref tE, .int 0])), (gq, .inr (4, [.int mc_gq, .ref tE, .int 0]))] t) (va_A [(h0, .inr (10, [.ref fq, .ref sq, .ref gq, .ref nq, .ref dq, .ref pq, .int pl, .int bl, .int tb])), (fq, .inr (4, [.int mc_fq, .ref tE, .int 0])), (sq, .inr (4, [.int mc_sq, .ref tE, .int 0])), (gq, .inr (4, [.int mc_gq, .ref tE, .int 0])), (nq, .inr (8, [.int hd, .ref tq, .ref zq, .ref wq]))] sz)) 0 0 (va_A [(h0, .inr (10, [.ref fq, .ref sq, .ref gq, .ref nq, .ref dq, .ref pq, .int pl, .int bl, .int tb])), (fq, .inr (4, [.int mc_fq, .ref tE, .int 0])), (sq, .inr (4, [.int mc_sq, .ref tE, .int 0])), (gq, .inr (4, [.int mc_gq, .ref tE, .int 0])), (nq, .inr (8, [.int hd, .ref tq, .ref zq, .ref wq]))] sz) := by
  refine Met.ofW (cc := cX5_play) (maxL := 5) (ret := (some .int)) (by decide) rfl ?_
  intro p e s m args below meth c s₁ B hml hv
  obtain ⟨rfl, hsz, hP, hK, hD0, hT⟩ := hv
  have hx := B.exec
  have hb := B.bytes
  have hr := B.returns
  have hts := atoms_spec (ws := v_c_play_1) B.pre
  have hown : s.vm.findClass RX5 = some m.cls := findClass_of_methodNamed B.named
  have hlocks := B.notSynchronized
  subst hsz
  have hD := hD0.self (sz := s.heap.size)
  generalize hAe : va_A [(h0, .inr (10, [.ref fq, .ref sq, .ref gq, .ref nq, .ref dq, .ref pq, .int pl, .int bl, .int tb])), (fq, .inr (4, [.int mc_fq, .ref tE, .int 0])), (sq, .inr (4, [.int mc_sq, .ref tE, .int 0])), (gq, .inr (4, [.int mc_gq, .ref tE, .int 0])), (nq, .inr (8, [.int hd, .ref tq, .ref zq, .ref wq]))] s.heap.size = A at hD hT ⊢
  have hA : ∀ q : Nat, s.heap.size ≤ q → A q := fun q h => by rw [← hAe]; exact Or.inr h
  have hS : va_S A s.heap s.heap [] := va_S.rf
  have hl := lv_entry ([.ref h0, .int p0]) (n := 5) (Nat.le_of_ble_eq_true rfl)
  rw [lg_entry_eq]
  generalize (lg_sl ([.ref h0, .int p0]) ++ List.replicate (5 - (lg_sl ([.ref h0, .int p0])).length) Slot.unset).toArray = ls at hl ⊢
  have hl : lv_has ls 5 [(0, .ref h0), (1, .int p0)] := hl
  refine lv_iload_n hx hb dX5_play_0 rfl (lv_at hl 1 rfl) ?_
  have hPc := hP.sub (ws' := []) [] rfl
  have hDc := hD.sub (ws' := []) [] (by decide) rfl
  have hKc := hK.sub (tys' := []) [] rfl
  have hFc := va_free (wc := []) hD hS hA [] rfl
  refine va_calli (va_runS (As := [.int p0]) (rest := []) ⟨hx, hb, hml, hown, hts⟩ (c_spanOf l hl9 dC dI tE p0 _ ) (va_cwS 1 hts (goodIn_app (goodIn_r _ [3, 4, 5] (by rfl) (by decide +kernel)) gg_c_play_1_c_spanOf) rfl rfl rfl (by decide +kernel) ⟨Nat.le_of_ble_eq_true rfl, Nat.le_of_ble_eq_true rfl⟩) ⟨Pre0.blind, Pre0.give hPc hKc hDc hT hS hFc⟩ rfl rfl hl.1 rfl (lv_room (Nat.le_of_ble_eq_true rfl)) dX5_play_1 ⟨Nat.le_of_ble_eq_true rfl, Nat.le_of_ble_eq_true rfl⟩) hS (fun q _ h => hFc q h) hFc (fun r_1 u t H1 locs ht hvm hw hB hz1 hk1 hS => ?_)
  obtain ⟨hP1, hK1, hD1⟩ := hB
  rw [ht] at hP1
  have hK1 := va_K.moved hvm.symm hK1
  obtain ⟨hP, hD⟩ := va_join (wr := [(h0, .inr (10, [.ref fq, .ref sq, .ref gq, .ref nq, .ref dq, .ref pq, .int pl, .int bl, .int tb])), (fq, .inr (4, [.int mc_fq, .ref tE, .int 0])), (sq, .inr (4, [.int mc_sq, .ref tE, .int 0])), (gq, .inr (4, [.int mc_gq, .ref tE, .int 0])), (nq, .inr (8, [.int hd, .ref tq, .ref zq, .ref wq]))]) (w1 := []) hP hD [] [0, 1, 2, 3, 4] rfl rfl (by decide) (by decide) hk1 hFc hP1 hD1
  generalize H1 = H at hP hS ⊢
  have hP : va_P (dC, dI) vwCl [(h0, .inr (10, [.ref fq, .ref sq, .ref gq, .ref nq, .ref dq, .ref pq, .int pl, .int bl, .int tb])), (fq, .inr (4, [.int mc_fq, .ref tE, .int 0])), (sq, .inr (4, [.int mc_sq, .ref tE, .int 0])), (gq, .inr (4, [.int mc_gq, .ref tE, .int 0])), (nq, .inr (8, [.int hd, .ref tq, .ref zq, .ref wq]))] H := hP
  have hD : va_D A [(h0, .inr (10, [.ref fq, .ref sq, .ref gq, .ref nq, .ref dq, .ref pq, .int pl, .int bl, .int tb])), (fq, .inr (4, [.int mc_fq, .ref tE, .int 0])), (sq, .inr (4, [.int mc_sq, .ref tE, .int 0])), (gq, .inr (4, [.int mc_gq, .ref tE, .int 0])), (nq, .inr (8, [.int hd, .ref tq, .ref zq, .ref wq]))] := hD
  refine W.widen (k := 0) (n := 0) (by omega) (by omega) ?_
  obtain rfl : r_1 = 10 := by rw [hw, hd0]; decide
  refine lv_istore_n (lv' := [(2, .int 10), (0, .ref h0), (1, .int p0)]) hx hb dX5_play_4 rfl hl (by decide) rfl (fun ls hl => ?_)
  refine lv_iload_n hx hb dX5_play_5 rfl (lv_at hl 0 rfl) ?_
  refine lv_if_ne (tgt := 19) hx hb dX5_play_6 (by decide) (fun _ => ?_) (fun c_2 => absurd c_2 (by decide))
  refine lv_iconst (v := 0) hx hb dX5_play_19 (by decide) ?_
  refine lv_istore_n (lv' := [(3, .int 0), (2, .int 10), (0, .ref h0), (1, .int p0)]) hx hb dX5_play_20 rfl hl (by decide) rfl (fun ls hl => ?_)
  refine lv_iload_n hx hb dX5_play_21 rfl (lv_at hl 1 rfl) ?_
  refine lv_bipush (v := 10) hx hb dX5_play_22 (by decide) ?_
  refine lv_idiv hx hb dX5_play_24 (by decide) ?_
  refine lv_topi (fun x_3 e_4 => ?_)
  obtain rfl : x_3 = 1 := e_4.trans (by decide)
  refine lv_istore (lv' := [(4, .int 1), (3, .int 0), (2, .int 10), (0, .ref h0), (1, .int p0)]) hx hb dX5_play_25 hl (by decide) rfl (fun ls hl => ?_)
  refine lv_iload hx hb dX5_play_27 (lv_at hl 0 rfl) ?_
  refine lv_if_le (tgt := 55) hx hb dX5_play_29 (by decide) (fun c_5 => absurd c_5 (by decide)) (fun _ => ?_)
  refine lv_iload_n hx hb dX5_play_32 rfl (lv_at hl 1 rfl) ?_
  refine lv_aload_n hx hb dX5_play_33 rfl (lv_at hl 3 rfl) ?_
  refine lv_iload_n hx hb dX5_play_34 rfl (lv_at hl 4 rfl) ?_
  refine lv_iload hx hb dX5_play_35 (lv_at hl 0 rfl) ?_
  have hPc := hP.sub (ws' := []) [] rfl
  have hDc := hD.sub (ws' := []) [] (by decide) rfl
  have hKc := hK.sub (tys' := []) [] rfl
  have hFc := va_free (wc := []) hD hS hA [] rfl
  refine va_calli (va_runS (As := [.int p0, .int 1]) (rest := [.ref h0, .int 0]) ⟨hx, hb, hml, hown, hts⟩ (c_toneAt l hl9 dC dI tE p0 1 _ (by first | assumption | decide | omega) (by first | assumption | decide | omega)) (va_cwS 2 hts (goodIn_app (goodIn_r _ [7, 8, 5] (by rfl) (by decide +kernel)) gg_c_play_1_c_toneAt) rfl rfl rfl (by decide +kernel) ⟨Nat.le_of_ble_eq_true rfl, Nat.le_of_ble_eq_true rfl⟩) ⟨Pre0.blind, Pre0.give hPc hKc hDc hT hS hFc⟩ rfl rfl hl.1 rfl (lv_room (Nat.le_of_ble_eq_true rfl)) dX5_play_37 ⟨Nat.le_of_ble_eq_true rfl, Nat.le_of_ble_eq_true rfl⟩) hS (fun q _ h => hFc q h) hFc (fun r_6 u t H1 locs ht hvm hw hB hz1 hk1 hS => ?_)
  obtain ⟨hP1, hK1, hD1⟩ := hB
  rw [ht] at hP1
  have hK1 := va_K.moved hvm.symm hK1
  obtain ⟨hP, hD⟩ := va_join (wr := [(h0, .inr (10, [.ref fq, .ref sq, .ref gq, .ref nq, .ref dq, .ref pq, .int pl, .int bl, .int tb])), (fq, .inr (4, [.int mc_fq, .ref tE, .int 0])), (sq, .inr (4, [.int mc_sq, .ref tE, .int 0])), (gq, .inr (4, [.int mc_gq, .ref tE, .int 0])), (nq, .inr (8, [.int hd, .ref tq, .ref zq, .ref wq]))]) (w1 := []) hP hD [] [0, 1, 2, 3, 4] rfl rfl (by decide) (by decide) hk1 hFc hP1 hD1
  generalize H1 = H at hP hS ⊢
  have hP : va_P (dC, dI) vwCl [(h0, .inr (10, [.ref fq, .ref sq, .ref gq, .ref nq, .ref dq, .ref pq, .int pl, .int bl, .int tb])), (fq, .inr (4, [.int mc_fq, .ref tE, .int 0])), (sq, .inr (4, [.int mc_sq, .ref tE, .int 0])), (gq, .inr (4, [.int mc_gq, .ref tE, .int 0])), (nq, .inr (8, [.int hd, .ref tq, .ref zq, .ref wq]))] H := hP
  have hD : va_D A [(h0, .inr (10, [.ref fq, .ref sq, .ref gq, .ref nq, .ref dq, .ref pq, .int pl, .int bl, .int tb])), (fq, .inr (4, [.int mc_fq, .ref tE, .int 0])), (sq, .inr (4, [.int mc_sq, .ref tE, .int 0])), (gq, .inr (4, [.int mc_gq, .ref tE, .int 0])), (nq, .inr (8, [.int hd, .ref tq, .ref zq, .ref wq]))] := hD
  refine W.widen (k := 0) (n := 0) (by omega) (by omega) ?_
  have hPc := hP.sub (ws' := [(h0, .inr (10, [.ref fq, .ref sq, .ref gq, .ref nq, .ref dq, .ref pq, .int pl, .int bl, .int tb])), (fq, .inr (4, [.int mc_fq, .ref tE, .int 0])), (sq, .inr (4, [.int mc_sq, .ref tE, .int 0])), (gq, .inr (4, [.int mc_gq, .ref tE, .int 0])), (nq, .inr (8, [.int hd, .ref tq, .ref zq, .ref wq]))]) [0, 1, 2, 3, 4] rfl
  have hDc := hD.sub (ws' := [(h0, .inr (10, [.ref fq, .ref sq, .ref gq, .ref nq, .ref dq, .ref pq, .int pl, .int bl, .int tb])), (fq, .inr (4, [.int mc_fq, .ref tE, .int 0])), (sq, .inr (4, [.int mc_sq, .ref tE, .int 0])), (gq, .inr (4, [.int mc_gq, .ref tE, .int 0])), (nq, .inr (8, [.int hd, .ref tq, .ref zq, .ref wq]))]) [0, 1, 2, 3, 4] (by decide) rfl
  have hKc := hK.sub (tys' := []) [] rfl
  have hFc := va_free (wc := [(h0, .inr (10, [.ref fq, .ref sq, .ref gq, .ref nq, .ref dq, .ref pq, .int pl, .int bl, .int tb])), (fq, .inr (4, [.int mc_fq, .ref tE, .int 0])), (sq, .inr (4, [.int mc_sq, .ref tE, .int 0])), (gq, .inr (4, [.int mc_gq, .ref tE, .int 0])), (nq, .inr (8, [.int hd, .ref tq, .ref zq, .ref wq]))]) hD hS hA [0, 1, 2, 3, 4] rfl
  refine va_calli (va_runV (As := [.int r_6]) (rest := [.int 0]) ⟨hx, hb, hml, hown, hts⟩ (c_toll l hl9 dC dI tE h0 fq sq gq nq dq pq pl bl tb mc_fq mc_sq mc_gq tq zq wq hd r_6 _ ) (cwV 1 hts (goodIn_app (goodIn_r _ [31, 32, 33, 5] (by rfl) (by decide +kernel)) gg_c_play_1_c_toll) rfl rfl rfl (by decide +kernel) ⟨Nat.le_of_ble_eq_true rfl, Nat.le_of_ble_eq_true rfl⟩) ⟨Pre0.blind, va_recv hKc hPc (ci := 10) (q0 := 0) rfl rfl, Pre0.give hPc hKc hDc hT hS hFc⟩ rfl rfl hl.1 rfl (lv_room (Nat.le_of_ble_eq_true rfl)) dX5_play_40 ⟨Nat.le_of_ble_eq_true rfl, Nat.le_of_ble_eq_true rfl⟩) hS (fun q _ h => hFc q h) hFc (fun r_7 u t H1 locs ht hvm hw hB hz1 hk1 hS => ?_)
  obtain ⟨vx_8, vx_9, vx_10, hP1, hK1, hD1⟩ := hB
  rw [ht] at hP1
  have hK1 := va_K.moved hvm.symm hK1
  obtain ⟨hP, hD⟩ := va_join (wr := []) (w1 := [(h0, .inr (10, [.ref fq, .ref sq, .ref gq, .ref nq, .ref dq, .ref pq, .int pl, .int vx_8, .int vx_9])), (nq, .inr (8, [.int vx_10, .ref tq, .ref zq, .ref wq])), (fq, .inr (4, [.int mc_fq, .ref tE, .int 0])), (sq, .inr (4, [.int mc_sq, .ref tE, .int 0])), (gq, .inr (4, [.int mc_gq, .ref tE, .int 0]))]) hP hD [0, 1, 2, 3, 4] [] rfl rfl (by decide) (by decide) hk1 hFc hP1 hD1
  generalize H1 = H at hP hS ⊢
  have hP : va_P (dC, dI) vwCl [(h0, .inr (10, [.ref fq, .ref sq, .ref gq, .ref nq, .ref dq, .ref pq, .int pl, .int vx_8, .int vx_9])), (nq, .inr (8, [.int vx_10, .ref tq, .ref zq, .ref wq])), (fq, .inr (4, [.int mc_fq, .ref tE, .int 0])), (sq, .inr (4, [.int mc_sq, .ref tE, .int 0])), (gq, .inr (4, [.int mc_gq, .ref tE, .int 0]))] H := hP
  have hD : va_D A [(h0, .inr (10, [.ref fq, .ref sq, .ref gq, .ref nq, .ref dq, .ref pq, .int pl, .int vx_8, .int vx_9])), (nq, .inr (8, [.int vx_10, .ref tq, .ref zq, .ref wq])), (fq, .inr (4, [.int mc_fq, .ref tE, .int 0])), (sq, .inr (4, [.int mc_sq, .ref tE, .int 0])), (gq, .inr (4, [.int mc_gq, .ref tE, .int 0]))] := hD
  refine W.widen (k := 0) (n := 0) (by omega) (by omega) ?_
  obtain rfl : r_7 = 0 := hw
  refine lv_iadd hx hb dX5_play_43 ?_
  refine lv_topi (fun x_11 e_12 => ?_)
  obtain rfl : x_11 = 0 := e_12.trans (by decide)
  refine lv_istore_n (lv' := [(3, .int 0), (4, .int 1), (2, .int 10), (0, .ref h0), (1, .int p0)]) hx hb dX5_play_44 rfl hl (by decide) rfl (fun ls hl => ?_)
  refine lv_iload hx hb dX5_play_45 (lv_at hl 1 rfl) ?_
  refine lv_bipush (v := 10) hx hb dX5_play_47 (by decide) ?_
  refine lv_idiv hx hb dX5_play_49 (by decide) ?_
  refine lv_topi (fun x_13 e_14 => ?_)
  obtain rfl : x_13 = 0 := e_14.trans (by decide)
  refine lv_istore (lv' := [(4, .int 0), (3, .int 0), (2, .int 10), (0, .ref h0), (1, .int p0)]) hx hb dX5_play_50 hl (by decide) rfl (fun ls hl => ?_)
  refine lv_goto (tgt := 27) hx hb dX5_play_52 (by decide) ?_
  refine lv_iload hx hb dX5_play_27 (lv_at hl 0 rfl) ?_
  refine lv_if_le (tgt := 55) hx hb dX5_play_29 (by decide) (fun _ => ?_) (fun c_15 => absurd (by decide) c_15)
  refine lv_iload_n hx hb dX5_play_55 rfl (lv_at hl 1 rfl) ?_
  have hP9 := hP.sub (ws' := [(h0, .inr (10, [.ref fq, .ref sq, .ref gq, .ref nq, .ref dq, .ref pq, .int pl, .int vx_8, .int vx_9])), (nq, .inr (8, [.int vx_10, .ref tq, .ref zq, .ref wq])), (fq, .inr (4, [.int mc_fq, .ref tE, .int 0])), (sq, .inr (4, [.int mc_sq, .ref tE, .int 0])), (gq, .inr (4, [.int mc_gq, .ref tE, .int 0]))]) [0, 1, 2, 3, 4] rfl
  have hD9 := hD.sub (ws' := [(h0, .inr (10, [.ref fq, .ref sq, .ref gq, .ref nq, .ref dq, .ref pq, .int pl, .int vx_8, .int vx_9])), (nq, .inr (8, [.int vx_10, .ref tq, .ref zq, .ref wq])), (fq, .inr (4, [.int mc_fq, .ref tE, .int 0])), (sq, .inr (4, [.int mc_sq, .ref tE, .int 0])), (gq, .inr (4, [.int mc_gq, .ref tE, .int 0]))]) [0, 1, 2, 3, 4] (by decide) rfl
  have hK9 := hK.sub (tys' := []) [] rfl
  exact W.iret (v := 0) hx hb hr (fun t ht hW => ⟨⟨0, (), rfl, rfl, vx_8, vx_9, vx_10, by rw [ht]; exact hP9, va_K.moved hW.alike hK9, hD9⟩, hS.F ht⟩) hS.2.2 dX5_play_56
def v_c_play_2 : List Cond := .code yX5_play cX5_play 5 (some .int) :: ([Cond.code yX5_spanOf cX5_spanOf 4 (some .int), Cond.constant RX5 284 (444444), Cond.methodLink RX5 76 yX5_spanOf, Cond.static yX5_spanOf, Cond.initialized RX5, Cond.code yX5_toneAt cX5_toneAt 2 (some .int), Cond.methodLink RX5 219 yX5_toneAt, Cond.static yX5_toneAt, Cond.code yX5_toll cX5_toll 4 (some .int), Cond.fieldLink RX5 19 "HotelOfBells" "guests" "Ljava/util/ArrayList;", Cond.code yJx4a65c_size_8abf5 cJx4a65c_size_8abf5 1 (some .int), Cond.fieldLink RJx4a65c 48 "java/util/ArrayList" "size" "I", Cond.methodLink RX5 49 yJx4a65c_size_8abf5, Cond.instanceMethod yJx4a65c_size_8abf5, Cond.selects RJx4a65c yJx4a65c_size_8abf5 yJx4a65c_size_8abf5, Cond.initialized RJx4a65c, Cond.fieldLink RX5 200 "HotelOfBells" "bells" "I", Cond.fieldLink RX5 203 "HotelOfBells" "turnsByBells" "I", Cond.fieldLink RX5 25 "HotelOfBells" "now" "LHotelOfBells$Moment;", Cond.code yX5_strike cX5_strike 6 (some .int), Cond.fieldLink RX5 156 "HotelOfBells$Moment" "heard" "I", Cond.code yX5_heardWith cX5_heardWith 2 (some .int), Cond.constant RX5 247 (100000), Cond.methodLink RX5 252 yX5_heardWith, Cond.static yX5_heardWith, Cond.fieldLink RX5 10 "HotelOfBells" "floors" "Ljava/util/ArrayList;", Cond.fieldLink RX5 16 "HotelOfBells" "shafts" "Ljava/util/ArrayList;", Cond.methodLink RX5 237 yX5_strike, Cond.instanceMethod yX5_strike, Cond.selects RX5 yX5_strike yX5_strike, Cond.methodLink RX5 216 yX5_toll, Cond.instanceMethod yX5_toll, Cond.selects RX5 yX5_toll yX5_toll] ++ (wsX50 ++ (wsJx4a65c0 ++ (wsX30 ++ []))))
theorem u_c_play_2_X5 : ∀ w ∈ wsX50, w ∈ v_c_play_2 := fun _ h => List.mem_cons_of_mem _ (List.mem_append_right _ (List.mem_append_left _ h))
theorem u_c_play_2_Jx4a65c : ∀ w ∈ wsJx4a65c0, w ∈ v_c_play_2 := fun _ h => List.mem_cons_of_mem _ (List.mem_append_right _ (List.mem_append_right _ (List.mem_append_left _ h)))
theorem u_c_play_2_X3 : ∀ w ∈ wsX30, w ∈ v_c_play_2 := fun _ h => List.mem_cons_of_mem _ (List.mem_append_right _ (List.mem_append_right _ (List.mem_append_right _ (List.mem_append_left _ h))))
theorem gg_c_play_2_c_spanOf : GoodIn v_c_play_2 v_c_spanOf := goodIn_r _ [1, 2] (by rfl) (by decide +kernel)
theorem gg_c_play_2_c_toneAt : GoodIn v_c_play_2 v_c_toneAt := goodIn_r _ [6] (by rfl) (by decide +kernel)
theorem gg_c_play_2_c_toll : GoodIn v_c_play_2 v_c_toll := goodIn_r _ [9, 10, 11, 12, 13, 14, 15, 16, 17, 18, 19, 20, 21, 22, 23, 24, 25, 5, 26, 27, 28, 29, 30, 34, 35, 36, 37, 38, 39, 40, 41, 42, 43, 44, 45, 46, 47, 48, 49] (by rfl) (by decide +kernel)
set_option maxHeartbeats 4000000 in
set_option maxRecDepth 100000 in
theorem c_play_2 (l : Launch) (hl9 : l.stackTraces = false) (dC : Nat → ClassId) (dI : Nat → Nat → Nat) (tE : Nat) (h0 : Nat) (fq : Nat) (sq : Nat) (gq : Nat) (nq : Nat) (dq : Nat) (pq : Nat) (pl : Int32) (bl : Int32) (tb : Int32) (mc_fq : Int32) (mc_sq : Int32) (mc_gq : Int32) (tq : Nat) (zq : Nat) (wq : Nat) (hd : Int32) (p0 : Int32) (sz : Nat) (hd0 : dgt p0 = 2) : Met l yX5_play v_c_play_2 ({ frames := 3, cells := 0, slots := 0, locals := 69 }) (va_Pc [.ref h0, .int p0] (Pre0 dC dI tE sz [] [(h0, .inr (10, [.ref fq, .ref sq, .ref gq, .ref nq, .ref dq, .ref pq, .int pl, .int bl, .int tb])), (fq, .inr (4, [.int mc_fq, .ref tE, .int 0])), (sq, .inr (4, [.int mc_sq, .ref tE, .int 0])), (gq, .inr (4, [.int mc_gq, .ref tE, .int 0])), (nq, .inr (8, [.int hd, .ref tq, .ref zq, .ref wq]))])) (va_Qi (fun (r : Int32) (_ : Unit) => r = 0) (fun _ t => ∃ (vx0 : Int32), ∃ (vx1 : Int32), ∃ (vx2 : Int32), Pst dC dI [] (va_A [(h0, .inr (10, [.ref fq, .ref sq, .ref gq, .ref nq, .ref dq, .ref pq, .int pl, .int bl, .int tb])), (fq, .inr (4, [.int mc_fq, .ref tE, .int 0])), (sq, .inr (4, [.int mc_sq, .ref tE, .int 0])), (gq, .inr (4, [.int mc_gq, .ref tE, .int 0])), (nq, .inr (8, [.int hd, .ref tq, .ref zq, .ref wq]))] sz) [(h0, .inr (10, [.ref fq, .ref sq, .ref gq, .ref nq, .ref dq, .ref pq, .int pl, .int vx0, .int vx1])), (nq, .inr (8, [.int vx2, .ref tq, .ref zq, .ref wq])), (fq, .inr (4, [.int mc_fq, .ref tE, .int 0])), (sq, .inr (4, [.int mc_sq, .ref tE, .int 0])), (gq, .inr (4, [.int mc_gq, .ref tE, .int 0]))] t) (va_A [(h0, .inr (10, [.ref fq, .ref sq, .ref gq, .ref nq, .ref dq, .ref pq, .int pl, .int bl, .int tb])), (fq, .inr (4, [.int mc_fq, .ref tE, .int 0])), (sq, .inr (4, [.int mc_sq, .ref tE, .int 0])), (gq, .inr (4, [.int mc_gq, .ref tE, .int 0])), (nq, .inr (8, [.int hd, .ref tq, .ref zq, .ref wq]))] sz)) 0 0 (va_A [(h0, .inr (10, [.ref fq, .ref sq, .ref gq, .ref nq, .ref dq, .ref pq, .int pl, .int bl, .int tb])), (fq, .inr (4, [.int mc_fq, .ref tE, .int 0])), (sq, .inr (4, [.int mc_sq, .ref tE, .int 0])), (gq, .inr (4, [.int mc_gq, .ref tE, .int 0])), (nq, .inr (8, [.int hd, .ref tq, .ref zq, .ref wq]))] sz) := by
  refine Met.ofW (cc := cX5_play) (maxL := 5) (ret := (some .int)) (by decide) rfl ?_
  intro p e s m args below meth c s₁ B hml hv
  obtain ⟨rfl, hsz, hP, hK, hD0, hT⟩ := hv
  have hx := B.exec
  have hb := B.bytes
  have hr := B.returns
  have hts := atoms_spec (ws := v_c_play_2) B.pre
  have hown : s.vm.findClass RX5 = some m.cls := findClass_of_methodNamed B.named
  have hlocks := B.notSynchronized
  subst hsz
  have hD := hD0.self (sz := s.heap.size)
  generalize hAe : va_A [(h0, .inr (10, [.ref fq, .ref sq, .ref gq, .ref nq, .ref dq, .ref pq, .int pl, .int bl, .int tb])), (fq, .inr (4, [.int mc_fq, .ref tE, .int 0])), (sq, .inr (4, [.int mc_sq, .ref tE, .int 0])), (gq, .inr (4, [.int mc_gq, .ref tE, .int 0])), (nq, .inr (8, [.int hd, .ref tq, .ref zq, .ref wq]))] s.heap.size = A at hD hT ⊢
  have hA : ∀ q : Nat, s.heap.size ≤ q → A q := fun q h => by rw [← hAe]; exact Or.inr h
  have hS : va_S A s.heap s.heap [] := va_S.rf
  have hl := lv_entry ([.ref h0, .int p0]) (n := 5) (Nat.le_of_ble_eq_true rfl)
  rw [lg_entry_eq]
  generalize (lg_sl ([.ref h0, .int p0]) ++ List.replicate (5 - (lg_sl ([.ref h0, .int p0])).length) Slot.unset).toArray = ls at hl ⊢
  have hl : lv_has ls 5 [(0, .ref h0), (1, .int p0)] := hl
  refine lv_iload_n hx hb dX5_play_0 rfl (lv_at hl 1 rfl) ?_
  have hPc := hP.sub (ws' := []) [] rfl
  have hDc := hD.sub (ws' := []) [] (by decide) rfl
  have hKc := hK.sub (tys' := []) [] rfl
  have hFc := va_free (wc := []) hD hS hA [] rfl
  refine va_calli (va_runS (As := [.int p0]) (rest := []) ⟨hx, hb, hml, hown, hts⟩ (c_spanOf l hl9 dC dI tE p0 _ ) (va_cwS 1 hts (goodIn_app (goodIn_r _ [3, 4, 5] (by rfl) (by decide +kernel)) gg_c_play_2_c_spanOf) rfl rfl rfl (by decide +kernel) ⟨Nat.le_of_ble_eq_true rfl, Nat.le_of_ble_eq_true rfl⟩) ⟨Pre0.blind, Pre0.give hPc hKc hDc hT hS hFc⟩ rfl rfl hl.1 rfl (lv_room (Nat.le_of_ble_eq_true rfl)) dX5_play_1 ⟨Nat.le_of_ble_eq_true rfl, Nat.le_of_ble_eq_true rfl⟩) hS (fun q _ h => hFc q h) hFc (fun r_1 u t H1 locs ht hvm hw hB hz1 hk1 hS => ?_)
  obtain ⟨hP1, hK1, hD1⟩ := hB
  rw [ht] at hP1
  have hK1 := va_K.moved hvm.symm hK1
  obtain ⟨hP, hD⟩ := va_join (wr := [(h0, .inr (10, [.ref fq, .ref sq, .ref gq, .ref nq, .ref dq, .ref pq, .int pl, .int bl, .int tb])), (fq, .inr (4, [.int mc_fq, .ref tE, .int 0])), (sq, .inr (4, [.int mc_sq, .ref tE, .int 0])), (gq, .inr (4, [.int mc_gq, .ref tE, .int 0])), (nq, .inr (8, [.int hd, .ref tq, .ref zq, .ref wq]))]) (w1 := []) hP hD [] [0, 1, 2, 3, 4] rfl rfl (by decide) (by decide) hk1 hFc hP1 hD1
  generalize H1 = H at hP hS ⊢
  have hP : va_P (dC, dI) vwCl [(h0, .inr (10, [.ref fq, .ref sq, .ref gq, .ref nq, .ref dq, .ref pq, .int pl, .int bl, .int tb])), (fq, .inr (4, [.int mc_fq, .ref tE, .int 0])), (sq, .inr (4, [.int mc_sq, .ref tE, .int 0])), (gq, .inr (4, [.int mc_gq, .ref tE, .int 0])), (nq, .inr (8, [.int hd, .ref tq, .ref zq, .ref wq]))] H := hP
  have hD : va_D A [(h0, .inr (10, [.ref fq, .ref sq, .ref gq, .ref nq, .ref dq, .ref pq, .int pl, .int bl, .int tb])), (fq, .inr (4, [.int mc_fq, .ref tE, .int 0])), (sq, .inr (4, [.int mc_sq, .ref tE, .int 0])), (gq, .inr (4, [.int mc_gq, .ref tE, .int 0])), (nq, .inr (8, [.int hd, .ref tq, .ref zq, .ref wq]))] := hD
  refine W.widen (k := 0) (n := 0) (by omega) (by omega) ?_
  obtain rfl : r_1 = 100 := by rw [hw, hd0]; decide
  refine lv_istore_n (lv' := [(2, .int 100), (0, .ref h0), (1, .int p0)]) hx hb dX5_play_4 rfl hl (by decide) rfl (fun ls hl => ?_)
  refine lv_iload_n hx hb dX5_play_5 rfl (lv_at hl 0 rfl) ?_
  refine lv_if_ne (tgt := 19) hx hb dX5_play_6 (by decide) (fun _ => ?_) (fun c_2 => absurd c_2 (by decide))
  refine lv_iconst (v := 0) hx hb dX5_play_19 (by decide) ?_
  refine lv_istore_n (lv' := [(3, .int 0), (2, .int 100), (0, .ref h0), (1, .int p0)]) hx hb dX5_play_20 rfl hl (by decide) rfl (fun ls hl => ?_)
  refine lv_iload_n hx hb dX5_play_21 rfl (lv_at hl 1 rfl) ?_
  refine lv_bipush (v := 10) hx hb dX5_play_22 (by decide) ?_
  refine lv_idiv hx hb dX5_play_24 (by decide) ?_
  refine lv_topi (fun x_3 e_4 => ?_)
  obtain rfl : x_3 = 10 := e_4.trans (by decide)
  refine lv_istore (lv' := [(4, .int 10), (3, .int 0), (2, .int 100), (0, .ref h0), (1, .int p0)]) hx hb dX5_play_25 hl (by decide) rfl (fun ls hl => ?_)
  refine lv_iload hx hb dX5_play_27 (lv_at hl 0 rfl) ?_
  refine lv_if_le (tgt := 55) hx hb dX5_play_29 (by decide) (fun c_5 => absurd c_5 (by decide)) (fun _ => ?_)
  refine lv_iload_n hx hb dX5_play_32 rfl (lv_at hl 1 rfl) ?_
  refine lv_aload_n hx hb dX5_play_33 rfl (lv_at hl 3 rfl) ?_
  refine lv_iload_n hx hb dX5_play_34 rfl (lv_at hl 4 rfl) ?_
  refine lv_iload hx hb dX5_play_35 (lv_at hl 0 rfl) ?_
  have hPc := hP.sub (ws' := []) [] rfl
  have hDc := hD.sub (ws' := []) [] (by decide) rfl
  have hKc := hK.sub (tys' := []) [] rfl
  have hFc := va_free (wc := []) hD hS hA [] rfl
  refine va_calli (va_runS (As := [.int p0, .int 10]) (rest := [.ref h0, .int 0]) ⟨hx, hb, hml, hown, hts⟩ (c_toneAt l hl9 dC dI tE p0 10 _ (by first | assumption | decide | omega) (by first | assumption | decide | omega)) (va_cwS 2 hts (goodIn_app (goodIn_r _ [7, 8, 5] (by rfl) (by decide +kernel)) gg_c_play_2_c_toneAt) rfl rfl rfl (by decide +kernel) ⟨Nat.le_of_ble_eq_true rfl, Nat.le_of_ble_eq_true rfl⟩) ⟨Pre0.blind, Pre0.give hPc hKc hDc hT hS hFc⟩ rfl rfl hl.1 rfl (lv_room (Nat.le_of_ble_eq_true rfl)) dX5_play_37 ⟨Nat.le_of_ble_eq_true rfl, Nat.le_of_ble_eq_true rfl⟩) hS (fun q _ h => hFc q h) hFc (fun r_6 u t H1 locs ht hvm hw hB hz1 hk1 hS => ?_)
  obtain ⟨hP1, hK1, hD1⟩ := hB
  rw [ht] at hP1
  have hK1 := va_K.moved hvm.symm hK1
  obtain ⟨hP, hD⟩ := va_join (wr := [(h0, .inr (10, [.ref fq, .ref sq, .ref gq, .ref nq, .ref dq, .ref pq, .int pl, .int bl, .int tb])), (fq, .inr (4, [.int mc_fq, .ref tE, .int 0])), (sq, .inr (4, [.int mc_sq, .ref tE, .int 0])), (gq, .inr (4, [.int mc_gq, .ref tE, .int 0])), (nq, .inr (8, [.int hd, .ref tq, .ref zq, .ref wq]))]) (w1 := []) hP hD [] [0, 1, 2, 3, 4] rfl rfl (by decide) (by decide) hk1 hFc hP1 hD1
  generalize H1 = H at hP hS ⊢
  have hP : va_P (dC, dI) vwCl [(h0, .inr (10, [.ref fq, .ref sq, .ref gq, .ref nq, .ref dq, .ref pq, .int pl, .int bl, .int tb])), (fq, .inr (4, [.int mc_fq, .ref tE, .int 0])), (sq, .inr (4, [.int mc_sq, .ref tE, .int 0])), (gq, .inr (4, [.int mc_gq, .ref tE, .int 0])), (nq, .inr (8, [.int hd, .ref tq, .ref zq, .ref wq]))] H := hP
  have hD : va_D A [(h0, .inr (10, [.ref fq, .ref sq, .ref gq, .ref nq, .ref dq, .ref pq, .int pl, .int bl, .int tb])), (fq, .inr (4, [.int mc_fq, .ref tE, .int 0])), (sq, .inr (4, [.int mc_sq, .ref tE, .int 0])), (gq, .inr (4, [.int mc_gq, .ref tE, .int 0])), (nq, .inr (8, [.int hd, .ref tq, .ref zq, .ref wq]))] := hD
  refine W.widen (k := 0) (n := 0) (by omega) (by omega) ?_
  have hPc := hP.sub (ws' := [(h0, .inr (10, [.ref fq, .ref sq, .ref gq, .ref nq, .ref dq, .ref pq, .int pl, .int bl, .int tb])), (fq, .inr (4, [.int mc_fq, .ref tE, .int 0])), (sq, .inr (4, [.int mc_sq, .ref tE, .int 0])), (gq, .inr (4, [.int mc_gq, .ref tE, .int 0])), (nq, .inr (8, [.int hd, .ref tq, .ref zq, .ref wq]))]) [0, 1, 2, 3, 4] rfl
  have hDc := hD.sub (ws' := [(h0, .inr (10, [.ref fq, .ref sq, .ref gq, .ref nq, .ref dq, .ref pq, .int pl, .int bl, .int tb])), (fq, .inr (4, [.int mc_fq, .ref tE, .int 0])), (sq, .inr (4, [.int mc_sq, .ref tE, .int 0])), (gq, .inr (4, [.int mc_gq, .ref tE, .int 0])), (nq, .inr (8, [.int hd, .ref tq, .ref zq, .ref wq]))]) [0, 1, 2, 3, 4] (by decide) rfl
  have hKc := hK.sub (tys' := []) [] rfl
  have hFc := va_free (wc := [(h0, .inr (10, [.ref fq, .ref sq, .ref gq, .ref nq, .ref dq, .ref pq, .int pl, .int bl, .int tb])), (fq, .inr (4, [.int mc_fq, .ref tE, .int 0])), (sq, .inr (4, [.int mc_sq, .ref tE, .int 0])), (gq, .inr (4, [.int mc_gq, .ref tE, .int 0])), (nq, .inr (8, [.int hd, .ref tq, .ref zq, .ref wq]))]) hD hS hA [0, 1, 2, 3, 4] rfl
  refine va_calli (va_runV (As := [.int r_6]) (rest := [.int 0]) ⟨hx, hb, hml, hown, hts⟩ (c_toll l hl9 dC dI tE h0 fq sq gq nq dq pq pl bl tb mc_fq mc_sq mc_gq tq zq wq hd r_6 _ ) (cwV 1 hts (goodIn_app (goodIn_r _ [31, 32, 33, 5] (by rfl) (by decide +kernel)) gg_c_play_2_c_toll) rfl rfl rfl (by decide +kernel) ⟨Nat.le_of_ble_eq_true rfl, Nat.le_of_ble_eq_true rfl⟩) ⟨Pre0.blind, va_recv hKc hPc (ci := 10) (q0 := 0) rfl rfl, Pre0.give hPc hKc hDc hT hS hFc⟩ rfl rfl hl.1 rfl (lv_room (Nat.le_of_ble_eq_true rfl)) dX5_play_40 ⟨Nat.le_of_ble_eq_true rfl, Nat.le_of_ble_eq_true rfl⟩) hS (fun q _ h => hFc q h) hFc (fun r_7 u t H1 locs ht hvm hw hB hz1 hk1 hS => ?_)
  obtain ⟨vx_8, vx_9, vx_10, hP1, hK1, hD1⟩ := hB
  rw [ht] at hP1
  have hK1 := va_K.moved hvm.symm hK1
  obtain ⟨hP, hD⟩ := va_join (wr := []) (w1 := [(h0, .inr (10, [.ref fq, .ref sq, .ref gq, .ref nq, .ref dq, .ref pq, .int pl, .int vx_8, .int vx_9])), (nq, .inr (8, [.int vx_10, .ref tq, .ref zq, .ref wq])), (fq, .inr (4, [.int mc_fq, .ref tE, .int 0])), (sq, .inr (4, [.int mc_sq, .ref tE, .int 0])), (gq, .inr (4, [.int mc_gq, .ref tE, .int 0]))]) hP hD [0, 1, 2, 3, 4] [] rfl rfl (by decide) (by decide) hk1 hFc hP1 hD1
  generalize H1 = H at hP hS ⊢
  have hP : va_P (dC, dI) vwCl [(h0, .inr (10, [.ref fq, .ref sq, .ref gq, .ref nq, .ref dq, .ref pq, .int pl, .int vx_8, .int vx_9])), (nq, .inr (8, [.int vx_10, .ref tq, .ref zq, .ref wq])), (fq, .inr (4, [.int mc_fq, .ref tE, .int 0])), (sq, .inr (4, [.int mc_sq, .ref tE, .int 0])), (gq, .inr (4, [.int mc_gq, .ref tE, .int 0]))] H := hP
  have hD : va_D A [(h0, .inr (10, [.ref fq, .ref sq, .ref gq, .ref nq, .ref dq, .ref pq, .int pl, .int vx_8, .int vx_9])), (nq, .inr (8, [.int vx_10, .ref tq, .ref zq, .ref wq])), (fq, .inr (4, [.int mc_fq, .ref tE, .int 0])), (sq, .inr (4, [.int mc_sq, .ref tE, .int 0])), (gq, .inr (4, [.int mc_gq, .ref tE, .int 0]))] := hD
  refine W.widen (k := 0) (n := 0) (by omega) (by omega) ?_
  obtain rfl : r_7 = 0 := hw
  refine lv_iadd hx hb dX5_play_43 ?_
  refine lv_topi (fun x_11 e_12 => ?_)
  obtain rfl : x_11 = 0 := e_12.trans (by decide)
  refine lv_istore_n (lv' := [(3, .int 0), (4, .int 10), (2, .int 100), (0, .ref h0), (1, .int p0)]) hx hb dX5_play_44 rfl hl (by decide) rfl (fun ls hl => ?_)
  refine lv_iload hx hb dX5_play_45 (lv_at hl 1 rfl) ?_
  refine lv_bipush (v := 10) hx hb dX5_play_47 (by decide) ?_
  refine lv_idiv hx hb dX5_play_49 (by decide) ?_
  refine lv_topi (fun x_13 e_14 => ?_)
  obtain rfl : x_13 = 1 := e_14.trans (by decide)
  refine lv_istore (lv' := [(4, .int 1), (3, .int 0), (2, .int 100), (0, .ref h0), (1, .int p0)]) hx hb dX5_play_50 hl (by decide) rfl (fun ls hl => ?_)
  refine lv_goto (tgt := 27) hx hb dX5_play_52 (by decide) ?_
  refine lv_iload hx hb dX5_play_27 (lv_at hl 0 rfl) ?_
  refine lv_if_le (tgt := 55) hx hb dX5_play_29 (by decide) (fun c_15 => absurd c_15 (by decide)) (fun _ => ?_)
  refine lv_iload_n hx hb dX5_play_32 rfl (lv_at hl 1 rfl) ?_
  refine lv_aload_n hx hb dX5_play_33 rfl (lv_at hl 3 rfl) ?_
  refine lv_iload_n hx hb dX5_play_34 rfl (lv_at hl 4 rfl) ?_
  refine lv_iload hx hb dX5_play_35 (lv_at hl 0 rfl) ?_
  have hPc := hP.sub (ws' := []) [] rfl
  have hDc := hD.sub (ws' := []) [] (by decide) rfl
  have hKc := hK.sub (tys' := []) [] rfl
  have hFc := va_free (wc := []) hD hS hA [] rfl
  refine va_calli (va_runS (As := [.int p0, .int 1]) (rest := [.ref h0, .int 0]) ⟨hx, hb, hml, hown, hts⟩ (c_toneAt l hl9 dC dI tE p0 1 _ (by first | assumption | decide | omega) (by first | assumption | decide | omega)) (va_cwS 2 hts (goodIn_app (goodIn_r _ [7, 8, 5] (by rfl) (by decide +kernel)) gg_c_play_2_c_toneAt) rfl rfl rfl (by decide +kernel) ⟨Nat.le_of_ble_eq_true rfl, Nat.le_of_ble_eq_true rfl⟩) ⟨Pre0.blind, Pre0.give hPc hKc hDc hT hS hFc⟩ rfl rfl hl.1 rfl (lv_room (Nat.le_of_ble_eq_true rfl)) dX5_play_37 ⟨Nat.le_of_ble_eq_true rfl, Nat.le_of_ble_eq_true rfl⟩) hS (fun q _ h => hFc q h) hFc (fun r_16 u t H1 locs ht hvm hw hB hz1 hk1 hS => ?_)
  obtain ⟨hP1, hK1, hD1⟩ := hB
  rw [ht] at hP1
  have hK1 := va_K.moved hvm.symm hK1
  obtain ⟨hP, hD⟩ := va_join (wr := [(h0, .inr (10, [.ref fq, .ref sq, .ref gq, .ref nq, .ref dq, .ref pq, .int pl, .int vx_8, .int vx_9])), (nq, .inr (8, [.int vx_10, .ref tq, .ref zq, .ref wq])), (fq, .inr (4, [.int mc_fq, .ref tE, .int 0])), (sq, .inr (4, [.int mc_sq, .ref tE, .int 0])), (gq, .inr (4, [.int mc_gq, .ref tE, .int 0]))]) (w1 := []) hP hD [] [0, 1, 2, 3, 4] rfl rfl (by decide) (by decide) hk1 hFc hP1 hD1
  generalize H1 = H at hP hS ⊢
  have hP : va_P (dC, dI) vwCl [(h0, .inr (10, [.ref fq, .ref sq, .ref gq, .ref nq, .ref dq, .ref pq, .int pl, .int vx_8, .int vx_9])), (nq, .inr (8, [.int vx_10, .ref tq, .ref zq, .ref wq])), (fq, .inr (4, [.int mc_fq, .ref tE, .int 0])), (sq, .inr (4, [.int mc_sq, .ref tE, .int 0])), (gq, .inr (4, [.int mc_gq, .ref tE, .int 0]))] H := hP
  have hD : va_D A [(h0, .inr (10, [.ref fq, .ref sq, .ref gq, .ref nq, .ref dq, .ref pq, .int pl, .int vx_8, .int vx_9])), (nq, .inr (8, [.int vx_10, .ref tq, .ref zq, .ref wq])), (fq, .inr (4, [.int mc_fq, .ref tE, .int 0])), (sq, .inr (4, [.int mc_sq, .ref tE, .int 0])), (gq, .inr (4, [.int mc_gq, .ref tE, .int 0]))] := hD
  refine W.widen (k := 0) (n := 0) (by omega) (by omega) ?_
  have hPc := hP.sub (ws' := [(h0, .inr (10, [.ref fq, .ref sq, .ref gq, .ref nq, .ref dq, .ref pq, .int pl, .int vx_8, .int vx_9])), (fq, .inr (4, [.int mc_fq, .ref tE, .int 0])), (sq, .inr (4, [.int mc_sq, .ref tE, .int 0])), (gq, .inr (4, [.int mc_gq, .ref tE, .int 0])), (nq, .inr (8, [.int vx_10, .ref tq, .ref zq, .ref wq]))]) [0, 2, 3, 4, 1] rfl
  have hDc := hD.sub (ws' := [(h0, .inr (10, [.ref fq, .ref sq, .ref gq, .ref nq, .ref dq, .ref pq, .int pl, .int vx_8, .int vx_9])), (fq, .inr (4, [.int mc_fq, .ref tE, .int 0])), (sq, .inr (4, [.int mc_sq, .ref tE, .int 0])), (gq, .inr (4, [.int mc_gq, .ref tE, .int 0])), (nq, .inr (8, [.int vx_10, .ref tq, .ref zq, .ref wq]))]) [0, 2, 3, 4, 1] (by decide) rfl
  have hKc := hK.sub (tys' := []) [] rfl
  have hFc := va_free (wc := [(h0, .inr (10, [.ref fq, .ref sq, .ref gq, .ref nq, .ref dq, .ref pq, .int pl, .int vx_8, .int vx_9])), (fq, .inr (4, [.int mc_fq, .ref tE, .int 0])), (sq, .inr (4, [.int mc_sq, .ref tE, .int 0])), (gq, .inr (4, [.int mc_gq, .ref tE, .int 0])), (nq, .inr (8, [.int vx_10, .ref tq, .ref zq, .ref wq]))]) hD hS hA [0, 2, 3, 4, 1] rfl
  refine va_calli (va_runV (As := [.int r_16]) (rest := [.int 0]) ⟨hx, hb, hml, hown, hts⟩ (c_toll l hl9 dC dI tE h0 fq sq gq nq dq pq pl vx_8 vx_9 mc_fq mc_sq mc_gq tq zq wq vx_10 r_16 _ ) (cwV 1 hts (goodIn_app (goodIn_r _ [31, 32, 33, 5] (by rfl) (by decide +kernel)) gg_c_play_2_c_toll) rfl rfl rfl (by decide +kernel) ⟨Nat.le_of_ble_eq_true rfl, Nat.le_of_ble_eq_true rfl⟩) ⟨Pre0.blind, va_recv hKc hPc (ci := 10) (q0 := 0) rfl rfl, Pre0.give hPc hKc hDc hT hS hFc⟩ rfl rfl hl.1 rfl (lv_room (Nat.le_of_ble_eq_true rfl)) dX5_play_40 ⟨Nat.le_of_ble_eq_true rfl, Nat.le_of_ble_eq_true rfl⟩) hS (fun q _ h => hFc q h) hFc (fun r_17 u t H1 locs ht hvm hw hB hz1 hk1 hS => ?_)
  obtain ⟨vx_18, vx_19, vx_20, hP1, hK1, hD1⟩ := hB
  rw [ht] at hP1
  have hK1 := va_K.moved hvm.symm hK1
  obtain ⟨hP, hD⟩ := va_join (wr := []) (w1 := [(h0, .inr (10, [.ref fq, .ref sq, .ref gq, .ref nq, .ref dq, .ref pq, .int pl, .int vx_18, .int vx_19])), (nq, .inr (8, [.int vx_20, .ref tq, .ref zq, .ref wq])), (fq, .inr (4, [.int mc_fq, .ref tE, .int 0])), (sq, .inr (4, [.int mc_sq, .ref tE, .int 0])), (gq, .inr (4, [.int mc_gq, .ref tE, .int 0]))]) hP hD [0, 2, 3, 4, 1] [] rfl rfl (by decide) (by decide) hk1 hFc hP1 hD1
  generalize H1 = H at hP hS ⊢
  have hP : va_P (dC, dI) vwCl [(h0, .inr (10, [.ref fq, .ref sq, .ref gq, .ref nq, .ref dq, .ref pq, .int pl, .int vx_18, .int vx_19])), (nq, .inr (8, [.int vx_20, .ref tq, .ref zq, .ref wq])), (fq, .inr (4, [.int mc_fq, .ref tE, .int 0])), (sq, .inr (4, [.int mc_sq, .ref tE, .int 0])), (gq, .inr (4, [.int mc_gq, .ref tE, .int 0]))] H := hP
  have hD : va_D A [(h0, .inr (10, [.ref fq, .ref sq, .ref gq, .ref nq, .ref dq, .ref pq, .int pl, .int vx_18, .int vx_19])), (nq, .inr (8, [.int vx_20, .ref tq, .ref zq, .ref wq])), (fq, .inr (4, [.int mc_fq, .ref tE, .int 0])), (sq, .inr (4, [.int mc_sq, .ref tE, .int 0])), (gq, .inr (4, [.int mc_gq, .ref tE, .int 0]))] := hD
  refine W.widen (k := 0) (n := 0) (by omega) (by omega) ?_
  obtain rfl : r_17 = 0 := hw
  refine lv_iadd hx hb dX5_play_43 ?_
  refine lv_topi (fun x_21 e_22 => ?_)
  obtain rfl : x_21 = 0 := e_22.trans (by decide)
  refine lv_istore_n (lv' := [(3, .int 0), (4, .int 1), (2, .int 100), (0, .ref h0), (1, .int p0)]) hx hb dX5_play_44 rfl hl (by decide) rfl (fun ls hl => ?_)
  refine lv_iload hx hb dX5_play_45 (lv_at hl 1 rfl) ?_
  refine lv_bipush (v := 10) hx hb dX5_play_47 (by decide) ?_
  refine lv_idiv hx hb dX5_play_49 (by decide) ?_
  refine lv_topi (fun x_23 e_24 => ?_)
  obtain rfl : x_23 = 0 := e_24.trans (by decide)
  refine lv_istore (lv' := [(4, .int 0), (3, .int 0), (2, .int 100), (0, .ref h0), (1, .int p0)]) hx hb dX5_play_50 hl (by decide) rfl (fun ls hl => ?_)
  refine lv_goto (tgt := 27) hx hb dX5_play_52 (by decide) ?_
  refine lv_iload hx hb dX5_play_27 (lv_at hl 0 rfl) ?_
  refine lv_if_le (tgt := 55) hx hb dX5_play_29 (by decide) (fun _ => ?_) (fun c_25 => absurd (by decide) c_25)
  refine lv_iload_n hx hb dX5_play_55 rfl (lv_at hl 1 rfl) ?_
  have hP9 := hP.sub (ws' := [(h0, .inr (10, [.ref fq, .ref sq, .ref gq, .ref nq, .ref dq, .ref pq, .int pl, .int vx_18, .int vx_19])), (nq, .inr (8, [.int vx_20, .ref tq, .ref zq, .ref wq])), (fq, .inr (4, [.int mc_fq, .ref tE, .int 0])), (sq, .inr (4, [.int mc_sq, .ref tE, .int 0])), (gq, .inr (4, [.int mc_gq, .ref tE, .int 0]))]) [0, 1, 2, 3, 4] rfl
  have hD9 := hD.sub (ws' := [(h0, .inr (10, [.ref fq, .ref sq, .ref gq, .ref nq, .ref dq, .ref pq, .int pl, .int vx_18, .int vx_19])), (nq, .inr (8, [.int vx_20, .ref tq, .ref zq, .ref wq])), (fq, .inr (4, [.int mc_fq, .ref tE, .int 0])), (sq, .inr (4, [.int mc_sq, .ref tE, .int 0])), (gq, .inr (4, [.int mc_gq, .ref tE, .int 0]))]) [0, 1, 2, 3, 4] (by decide) rfl
  have hK9 := hK.sub (tys' := []) [] rfl
  exact W.iret (v := 0) hx hb hr (fun t ht hW => ⟨⟨0, (), rfl, rfl, vx_18, vx_19, vx_20, by rw [ht]; exact hP9, va_K.moved hW.alike hK9, hD9⟩, hS.F ht⟩) hS.2.2 dX5_play_56
def v_c_play_3 : List Cond := .code yX5_play cX5_play 5 (some .int) :: ([Cond.code yX5_spanOf cX5_spanOf 4 (some .int), Cond.constant RX5 284 (444444), Cond.methodLink RX5 76 yX5_spanOf, Cond.static yX5_spanOf, Cond.initialized RX5, Cond.code yX5_toneAt cX5_toneAt 2 (some .int), Cond.methodLink RX5 219 yX5_toneAt, Cond.static yX5_toneAt, Cond.code yX5_toll cX5_toll 4 (some .int), Cond.fieldLink RX5 19 "HotelOfBells" "guests" "Ljava/util/ArrayList;", Cond.code yJx4a65c_size_8abf5 cJx4a65c_size_8abf5 1 (some .int), Cond.fieldLink RJx4a65c 48 "java/util/ArrayList" "size" "I", Cond.methodLink RX5 49 yJx4a65c_size_8abf5, Cond.instanceMethod yJx4a65c_size_8abf5, Cond.selects RJx4a65c yJx4a65c_size_8abf5 yJx4a65c_size_8abf5, Cond.initialized RJx4a65c, Cond.fieldLink RX5 200 "HotelOfBells" "bells" "I", Cond.fieldLink RX5 203 "HotelOfBells" "turnsByBells" "I", Cond.fieldLink RX5 25 "HotelOfBells" "now" "LHotelOfBells$Moment;", Cond.code yX5_strike cX5_strike 6 (some .int), Cond.fieldLink RX5 156 "HotelOfBells$Moment" "heard" "I", Cond.code yX5_heardWith cX5_heardWith 2 (some .int), Cond.constant RX5 247 (100000), Cond.methodLink RX5 252 yX5_heardWith, Cond.static yX5_heardWith, Cond.fieldLink RX5 10 "HotelOfBells" "floors" "Ljava/util/ArrayList;", Cond.fieldLink RX5 16 "HotelOfBells" "shafts" "Ljava/util/ArrayList;", Cond.methodLink RX5 237 yX5_strike, Cond.instanceMethod yX5_strike, Cond.selects RX5 yX5_strike yX5_strike, Cond.methodLink RX5 216 yX5_toll, Cond.instanceMethod yX5_toll, Cond.selects RX5 yX5_toll yX5_toll] ++ (wsX50 ++ (wsJx4a65c0 ++ (wsX30 ++ []))))
theorem u_c_play_3_X5 : ∀ w ∈ wsX50, w ∈ v_c_play_3 := fun _ h => List.mem_cons_of_mem _ (List.mem_append_right _ (List.mem_append_left _ h))
theorem u_c_play_3_Jx4a65c : ∀ w ∈ wsJx4a65c0, w ∈ v_c_play_3 := fun _ h => List.mem_cons_of_mem _ (List.mem_append_right _ (List.mem_append_right _ (List.mem_append_left _ h)))
theorem u_c_play_3_X3 : ∀ w ∈ wsX30, w ∈ v_c_play_3 := fun _ h => List.mem_cons_of_mem _ (List.mem_append_right _ (List.mem_append_right _ (List.mem_append_right _ (List.mem_append_left _ h))))
theorem gg_c_play_3_c_spanOf : GoodIn v_c_play_3 v_c_spanOf := goodIn_r _ [1, 2] (by rfl) (by decide +kernel)
theorem gg_c_play_3_c_toneAt : GoodIn v_c_play_3 v_c_toneAt := goodIn_r _ [6] (by rfl) (by decide +kernel)
theorem gg_c_play_3_c_toll : GoodIn v_c_play_3 v_c_toll := goodIn_r _ [9, 10, 11, 12, 13, 14, 15, 16, 17, 18, 19, 20, 21, 22, 23, 24, 25, 5, 26, 27, 28, 29, 30, 34, 35, 36, 37, 38, 39, 40, 41, 42, 43, 44, 45, 46, 47, 48, 49] (by rfl) (by decide +kernel)
set_option maxHeartbeats 4000000 in
set_option maxRecDepth 100000 in
theorem c_play_3 (l : Launch) (hl9 : l.stackTraces = false) (dC : Nat → ClassId) (dI : Nat → Nat → Nat) (tE : Nat) (h0 : Nat) (fq : Nat) (sq : Nat) (gq : Nat) (nq : Nat) (dq : Nat) (pq : Nat) (pl : Int32) (bl : Int32) (tb : Int32) (mc_fq : Int32) (mc_sq : Int32) (mc_gq : Int32) (tq : Nat) (zq : Nat) (wq : Nat) (hd : Int32) (p0 : Int32) (sz : Nat) (hd0 : dgt p0 = 3) : Met l yX5_play v_c_play_3 ({ frames := 3, cells := 0, slots := 0, locals := 69 }) (va_Pc [.ref h0, .int p0] (Pre0 dC dI tE sz [] [(h0, .inr (10, [.ref fq, .ref sq, .ref gq, .ref nq, .ref dq, .ref pq, .int pl, .int bl, .int tb])), (fq, .inr (4, [.int mc_fq, .ref tE, .int 0])), (sq, .inr (4, [.int mc_sq, .ref tE, .int 0])), (gq, .inr (4, [.int mc_gq, .ref tE, .int 0])), (nq, .inr (8, [.int hd, .ref tq, .ref zq, .ref wq]))])) (va_Qi (fun (r : Int32) (_ : Unit) => r = 0) (fun _ t => ∃ (vx0 : Int32), ∃ (vx1 : Int32), ∃ (vx2 : Int32), Pst dC dI [] (va_A [(h0, .inr (10, [.ref fq, .ref sq, .ref gq, .ref nq, .ref dq, .ref pq, .int pl, .int bl, .int tb])), (fq, .inr (4, [.int mc_fq, .ref tE, .int 0])), (sq, .inr (4, [.int mc_sq, .ref tE, .int 0])), (gq, .inr (4, [.int mc_gq, .ref tE, .int 0])), (nq, .inr (8, [.int hd, .ref tq, .ref zq, .ref wq]))] sz) [(h0, .inr (10, [.ref fq, .ref sq, .ref gq, .ref nq, .ref dq, .ref pq, .int pl, .int vx0, .int vx1])), (nq, .inr (8, [.int vx2, .ref tq, .ref zq, .ref wq])), (fq, .inr (4, [.int mc_fq, .ref tE, .int 0])), (sq, .inr (4, [.int mc_sq, .ref tE, .int 0])), (gq, .inr (4, [.int mc_gq, .ref tE, .int 0]))] t) (va_A [(h0, .inr (10, [.ref fq, .ref sq, .ref gq, .ref nq, .ref dq, .ref pq, .int pl, .int bl, .int tb])), (fq, .inr (4, [.int mc_fq, .ref tE, .int 0])), (sq, .inr (4, [.int mc_sq, .ref tE, .int 0])), (gq, .inr (4, [.int mc_gq, .ref tE, .int 0])), (nq, .inr (8, [.int hd, .ref tq, .ref zq, .ref wq]))] sz)) 0 0 (va_A [(h0, .inr (10, [.ref fq, .ref sq, .ref gq, .ref nq, .ref dq, .ref pq, .int pl, .int bl, .int tb])), (fq, .inr (4, [.int mc_fq, .ref tE, .int 0])), (sq, .inr (4, [.int mc_sq, .ref tE, .int 0])), (gq, .inr (4, [.int mc_gq, .ref tE, .int 0])), (nq, .inr (8, [.int hd, .ref tq, .ref zq, .ref wq]))] sz) := by
  refine Met.ofW (cc := cX5_play) (maxL := 5) (ret := (some .int)) (by decide) rfl ?_
  intro p e s m args below meth c s₁ B hml hv
  obtain ⟨rfl, hsz, hP, hK, hD0, hT⟩ := hv
  have hx := B.exec
  have hb := B.bytes
  have hr := B.returns
  have hts := atoms_spec (ws := v_c_play_3) B.pre
  have hown : s.vm.findClass RX5 = some m.cls := findClass_of_methodNamed B.named
  have hlocks := B.notSynchronized
  subst hsz
  have hD := hD0.self (sz := s.heap.size)
  generalize hAe : va_A [(h0, .inr (10, [.ref fq, .ref sq, .ref gq, .ref nq, .ref dq, .ref pq, .int pl, .int bl, .int tb])), (fq, .inr (4, [.int mc_fq, .ref tE, .int 0])), (sq, .inr (4, [.int mc_sq, .ref tE, .int 0])), (gq, .inr (4, [.int mc_gq, .ref tE, .int 0])), (nq, .inr (8, [.int hd, .ref tq, .ref zq, .ref wq]))] s.heap.size = A at hD hT ⊢
  have hA : ∀ q : Nat, s.heap.size ≤ q → A q := fun q h => by rw [← hAe]; exact Or.inr h
  have hS : va_S A s.heap s.heap [] := va_S.rf
  have hl := lv_entry ([.ref h0, .int p0]) (n := 5) (Nat.le_of_ble_eq_true rfl)
  rw [lg_entry_eq]
  generalize (lg_sl ([.ref h0, .int p0]) ++ List.replicate (5 - (lg_sl ([.ref h0, .int p0])).length) Slot.unset).toArray = ls at hl ⊢
  have hl : lv_has ls 5 [(0, .ref h0), (1, .int p0)] := hl
  refine lv_iload_n hx hb dX5_play_0 rfl (lv_at hl 1 rfl) ?_
  have hPc := hP.sub (ws' := []) [] rfl
  have hDc := hD.sub (ws' := []) [] (by decide) rfl
  have hKc := hK.sub (tys' := []) [] rfl
  have hFc := va_free (wc := []) hD hS hA [] rfl
  refine va_calli (va_runS (As := [.int p0]) (rest := []) ⟨hx, hb, hml, hown, hts⟩ (c_spanOf l hl9 dC dI tE p0 _ ) (va_cwS 1 hts (goodIn_app (goodIn_r _ [3, 4, 5] (by rfl) (by decide +kernel)) gg_c_play_3_c_spanOf) rfl rfl rfl (by decide +kernel) ⟨Nat.le_of_ble_eq_true rfl, Nat.le_of_ble_eq_true rfl⟩) ⟨Pre0.blind, Pre0.give hPc hKc hDc hT hS hFc⟩ rfl rfl hl.1 rfl (lv_room (Nat.le_of_ble_eq_true rfl)) dX5_play_1 ⟨Nat.le_of_ble_eq_true rfl, Nat.le_of_ble_eq_true rfl⟩) hS (fun q _ h => hFc q h) hFc (fun r_1 u t H1 locs ht hvm hw hB hz1 hk1 hS => ?_)
  obtain ⟨hP1, hK1, hD1⟩ := hB
  rw [ht] at hP1
  have hK1 := va_K.moved hvm.symm hK1
  obtain ⟨hP, hD⟩ := va_join (wr := [(h0, .inr (10, [.ref fq, .ref sq, .ref gq, .ref nq, .ref dq, .ref pq, .int pl, .int bl, .int tb])), (fq, .inr (4, [.int mc_fq, .ref tE, .int 0])), (sq, .inr (4, [.int mc_sq, .ref tE, .int 0])), (gq, .inr (4, [.int mc_gq, .ref tE, .int 0])), (nq, .inr (8, [.int hd, .ref tq, .ref zq, .ref wq]))]) (w1 := []) hP hD [] [0, 1, 2, 3, 4] rfl rfl (by decide) (by decide) hk1 hFc hP1 hD1
  generalize H1 = H at hP hS ⊢
  have hP : va_P (dC, dI) vwCl [(h0, .inr (10, [.ref fq, .ref sq, .ref gq, .ref nq, .ref dq, .ref pq, .int pl, .int bl, .int tb])), (fq, .inr (4, [.int mc_fq, .ref tE, .int 0])), (sq, .inr (4, [.int mc_sq, .ref tE, .int 0])), (gq, .inr (4, [.int mc_gq, .ref tE, .int 0])), (nq, .inr (8, [.int hd, .ref tq, .ref zq, .ref wq]))] H := hP
  have hD : va_D A [(h0, .inr (10, [.ref fq, .ref sq, .ref gq, .ref nq, .ref dq, .ref pq, .int pl, .int bl, .int tb])), (fq, .inr (4, [.int mc_fq, .ref tE, .int 0])), (sq, .inr (4, [.int mc_sq, .ref tE, .int 0])), (gq, .inr (4, [.int mc_gq, .ref tE, .int 0])), (nq, .inr (8, [.int hd, .ref tq, .ref zq, .ref wq]))] := hD
  refine W.widen (k := 0) (n := 0) (by omega) (by omega) ?_
  obtain rfl : r_1 = 1000 := by rw [hw, hd0]; decide
  refine lv_istore_n (lv' := [(2, .int 1000), (0, .ref h0), (1, .int p0)]) hx hb dX5_play_4 rfl hl (by decide) rfl (fun ls hl => ?_)
  refine lv_iload_n hx hb dX5_play_5 rfl (lv_at hl 0 rfl) ?_
  refine lv_if_ne (tgt := 19) hx hb dX5_play_6 (by decide) (fun _ => ?_) (fun c_2 => absurd c_2 (by decide))
  refine lv_iconst (v := 0) hx hb dX5_play_19 (by decide) ?_
  refine lv_istore_n (lv' := [(3, .int 0), (2, .int 1000), (0, .ref h0), (1, .int p0)]) hx hb dX5_play_20 rfl hl (by decide) rfl (fun ls hl => ?_)
  refine lv_iload_n hx hb dX5_play_21 rfl (lv_at hl 1 rfl) ?_
  refine lv_bipush (v := 10) hx hb dX5_play_22 (by decide) ?_
  refine lv_idiv hx hb dX5_play_24 (by decide) ?_
  refine lv_topi (fun x_3 e_4 => ?_)
  obtain rfl : x_3 = 100 := e_4.trans (by decide)
  refine lv_istore (lv' := [(4, .int 100), (3, .int 0), (2, .int 1000), (0, .ref h0), (1, .int p0)]) hx hb dX5_play_25 hl (by decide) rfl (fun ls hl => ?_)
  refine lv_iload hx hb dX5_play_27 (lv_at hl 0 rfl) ?_
  refine lv_if_le (tgt := 55) hx hb dX5_play_29 (by decide) (fun c_5 => absurd c_5 (by decide)) (fun _ => ?_)
  refine lv_iload_n hx hb dX5_play_32 rfl (lv_at hl 1 rfl) ?_
  refine lv_aload_n hx hb dX5_play_33 rfl (lv_at hl 3 rfl) ?_
  refine lv_iload_n hx hb dX5_play_34 rfl (lv_at hl 4 rfl) ?_
  refine lv_iload hx hb dX5_play_35 (lv_at hl 0 rfl) ?_
  have hPc := hP.sub (ws' := []) [] rfl
  have hDc := hD.sub (ws' := []) [] (by decide) rfl
  have hKc := hK.sub (tys' := []) [] rfl
  have hFc := va_free (wc := []) hD hS hA [] rfl
  refine va_calli (va_runS (As := [.int p0, .int 100]) (rest := [.ref h0, .int 0]) ⟨hx, hb, hml, hown, hts⟩ (c_toneAt l hl9 dC dI tE p0 100 _ (by first | assumption | decide | omega) (by first | assumption | decide | omega)) (va_cwS 2 hts (goodIn_app (goodIn_r _ [7, 8, 5] (by rfl) (by decide +kernel)) gg_c_play_3_c_toneAt) rfl rfl rfl (by decide +kernel) ⟨Nat.le_of_ble_eq_true rfl, Nat.le_of_ble_eq_true rfl⟩) ⟨Pre0.blind, Pre0.give hPc hKc hDc hT hS hFc⟩ rfl rfl hl.1 rfl (lv_room (Nat.le_of_ble_eq_true rfl)) dX5_play_37 ⟨Nat.le_of_ble_eq_true rfl, Nat.le_of_ble_eq_true rfl⟩) hS (fun q _ h => hFc q h) hFc (fun r_6 u t H1 locs ht hvm hw hB hz1 hk1 hS => ?_)
  obtain ⟨hP1, hK1, hD1⟩ := hB
  rw [ht] at hP1
  have hK1 := va_K.moved hvm.symm hK1
  obtain ⟨hP, hD⟩ := va_join (wr := [(h0, .inr (10, [.ref fq, .ref sq, .ref gq, .ref nq, .ref dq, .ref pq, .int pl, .int bl, .int tb])), (fq, .inr (4, [.int mc_fq, .ref tE, .int 0])), (sq, .inr (4, [.int mc_sq, .ref tE, .int 0])), (gq, .inr (4, [.int mc_gq, .ref tE, .int 0])), (nq, .inr (8, [.int hd, .ref tq, .ref zq, .ref wq]))]) (w1 := []) hP hD [] [0, 1, 2, 3, 4] rfl rfl (by decide) (by decide) hk1 hFc hP1 hD1
  generalize H1 = H at hP hS ⊢
  have hP : va_P (dC, dI) vwCl [(h0, .inr (10, [.ref fq, .ref sq, .ref gq, .ref nq, .ref dq, .ref pq, .int pl, .int bl, .int tb])), (fq, .inr (4, [.int mc_fq, .ref tE, .int 0])), (sq, .inr (4, [.int mc_sq, .ref tE, .int 0])), (gq, .inr (4, [.int mc_gq, .ref tE, .int 0])), (nq, .inr (8, [.int hd, .ref tq, .ref zq, .ref wq]))] H := hP
  have hD : va_D A [(h0, .inr (10, [.ref fq, .ref sq, .ref gq, .ref nq, .ref dq, .ref pq, .int pl, .int bl, .int tb])), (fq, .inr (4, [.int mc_fq, .ref tE, .int 0])), (sq, .inr (4, [.int mc_sq, .ref tE, .int 0])), (gq, .inr (4, [.int mc_gq, .ref tE, .int 0])), (nq, .inr (8, [.int hd, .ref tq, .ref zq, .ref wq]))] := hD
  refine W.widen (k := 0) (n := 0) (by omega) (by omega) ?_
  have hPc := hP.sub (ws' := [(h0, .inr (10, [.ref fq, .ref sq, .ref gq, .ref nq, .ref dq, .ref pq, .int pl, .int bl, .int tb])), (fq, .inr (4, [.int mc_fq, .ref tE, .int 0])), (sq, .inr (4, [.int mc_sq, .ref tE, .int 0])), (gq, .inr (4, [.int mc_gq, .ref tE, .int 0])), (nq, .inr (8, [.int hd, .ref tq, .ref zq, .ref wq]))]) [0, 1, 2, 3, 4] rfl
  have hDc := hD.sub (ws' := [(h0, .inr (10, [.ref fq, .ref sq, .ref gq, .ref nq, .ref dq, .ref pq, .int pl, .int bl, .int tb])), (fq, .inr (4, [.int mc_fq, .ref tE, .int 0])), (sq, .inr (4, [.int mc_sq, .ref tE, .int 0])), (gq, .inr (4, [.int mc_gq, .ref tE, .int 0])), (nq, .inr (8, [.int hd, .ref tq, .ref zq, .ref wq]))]) [0, 1, 2, 3, 4] (by decide) rfl
  have hKc := hK.sub (tys' := []) [] rfl
  have hFc := va_free (wc := [(h0, .inr (10, [.ref fq, .ref sq, .ref gq, .ref nq, .ref dq, .ref pq, .int pl, .int bl, .int tb])), (fq, .inr (4, [.int mc_fq, .ref tE, .int 0])), (sq, .inr (4, [.int mc_sq, .ref tE, .int 0])), (gq, .inr (4, [.int mc_gq, .ref tE, .int 0])), (nq, .inr (8, [.int hd, .ref tq, .ref zq, .ref wq]))]) hD hS hA [0, 1, 2, 3, 4] rfl
  refine va_calli (va_runV (As := [.int r_6]) (rest := [.int 0]) ⟨hx, hb, hml, hown, hts⟩ (c_toll l hl9 dC dI tE h0 fq sq gq nq dq pq pl bl tb mc_fq mc_sq mc_gq tq zq wq hd r_6 _ ) (cwV 1 hts (goodIn_app (goodIn_r _ [31, 32, 33, 5] (by rfl) (by decide +kernel)) gg_c_play_3_c_toll) rfl rfl rfl (by decide +kernel) ⟨Nat.le_of_ble_eq_true rfl, Nat.le_of_ble_eq_true rfl⟩) ⟨Pre0.blind, va_recv hKc hPc (ci := 10) (q0 := 0) rfl rfl, Pre0.give hPc hKc hDc hT hS hFc⟩ rfl rfl hl.1 rfl (lv_room (Nat.le_of_ble_eq_true rfl)) dX5_play_40 ⟨Nat.le_of_ble_eq_true rfl, Nat.le_of_ble_eq_true rfl⟩) hS (fun q _ h => hFc q h) hFc (fun r_7 u t H1 locs ht hvm hw hB hz1 hk1 hS => ?_)
  obtain ⟨vx_8, vx_9, vx_10, hP1, hK1, hD1⟩ := hB
  rw [ht] at hP1
  have hK1 := va_K.moved hvm.symm hK1
  obtain ⟨hP, hD⟩ := va_join (wr := []) (w1 := [(h0, .inr (10, [.ref fq, .ref sq, .ref gq, .ref nq, .ref dq, .ref pq, .int pl, .int vx_8, .int vx_9])), (nq, .inr (8, [.int vx_10, .ref tq, .ref zq, .ref wq])), (fq, .inr (4, [.int mc_fq, .ref tE, .int 0])), (sq, .inr (4, [.int mc_sq, .ref tE, .int 0])), (gq, .inr (4, [.int mc_gq, .ref tE, .int 0]))]) hP hD [0, 1, 2, 3, 4] [] rfl rfl (by decide) (by decide) hk1 hFc hP1 hD1
  generalize H1 = H at hP hS ⊢
  have hP : va_P (dC, dI) vwCl [(h0, .inr (10, [.ref fq, .ref sq, .ref gq, .ref nq, .ref dq, .ref pq, .int pl, .int vx_8, .int vx_9])), (nq, .inr (8, [.int vx_10, .ref tq, .ref zq, .ref wq])), (fq, .inr (4, [.int mc_fq, .ref tE, .int 0])), (sq, .inr (4, [.int mc_sq, .ref tE, .int 0])), (gq, .inr (4, [.int mc_gq, .ref tE, .int 0]))] H := hP
  have hD : va_D A [(h0, .inr (10, [.ref fq, .ref sq, .ref gq, .ref nq, .ref dq, .ref pq, .int pl, .int vx_8, .int vx_9])), (nq, .inr (8, [.int vx_10, .ref tq, .ref zq, .ref wq])), (fq, .inr (4, [.int mc_fq, .ref tE, .int 0])), (sq, .inr (4, [.int mc_sq, .ref tE, .int 0])), (gq, .inr (4, [.int mc_gq, .ref tE, .int 0]))] := hD
  refine W.widen (k := 0) (n := 0) (by omega) (by omega) ?_
  obtain rfl : r_7 = 0 := hw
  refine lv_iadd hx hb dX5_play_43 ?_
  refine lv_topi (fun x_11 e_12 => ?_)
  obtain rfl : x_11 = 0 := e_12.trans (by decide)
  refine lv_istore_n (lv' := [(3, .int 0), (4, .int 100), (2, .int 1000), (0, .ref h0), (1, .int p0)]) hx hb dX5_play_44 rfl hl (by decide) rfl (fun ls hl => ?_)
  refine lv_iload hx hb dX5_play_45 (lv_at hl 1 rfl) ?_
  refine lv_bipush (v := 10) hx hb dX5_play_47 (by decide) ?_
  refine lv_idiv hx hb dX5_play_49 (by decide) ?_
  refine lv_topi (fun x_13 e_14 => ?_)
  obtain rfl : x_13 = 10 := e_14.trans (by decide)
  refine lv_istore (lv' := [(4, .int 10), (3, .int 0), (2, .int 1000), (0, .ref h0), (1, .int p0)]) hx hb dX5_play_50 hl (by decide) rfl (fun ls hl => ?_)
  refine lv_goto (tgt := 27) hx hb dX5_play_52 (by decide) ?_
  refine lv_iload hx hb dX5_play_27 (lv_at hl 0 rfl) ?_
  refine lv_if_le (tgt := 55) hx hb dX5_play_29 (by decide) (fun c_15 => absurd c_15 (by decide)) (fun _ => ?_)
  refine lv_iload_n hx hb dX5_play_32 rfl (lv_at hl 1 rfl) ?_
  refine lv_aload_n hx hb dX5_play_33 rfl (lv_at hl 3 rfl) ?_
  refine lv_iload_n hx hb dX5_play_34 rfl (lv_at hl 4 rfl) ?_
  refine lv_iload hx hb dX5_play_35 (lv_at hl 0 rfl) ?_
  have hPc := hP.sub (ws' := []) [] rfl
  have hDc := hD.sub (ws' := []) [] (by decide) rfl
  have hKc := hK.sub (tys' := []) [] rfl
  have hFc := va_free (wc := []) hD hS hA [] rfl
  refine va_calli (va_runS (As := [.int p0, .int 10]) (rest := [.ref h0, .int 0]) ⟨hx, hb, hml, hown, hts⟩ (c_toneAt l hl9 dC dI tE p0 10 _ (by first | assumption | decide | omega) (by first | assumption | decide | omega)) (va_cwS 2 hts (goodIn_app (goodIn_r _ [7, 8, 5] (by rfl) (by decide +kernel)) gg_c_play_3_c_toneAt) rfl rfl rfl (by decide +kernel) ⟨Nat.le_of_ble_eq_true rfl, Nat.le_of_ble_eq_true rfl⟩) ⟨Pre0.blind, Pre0.give hPc hKc hDc hT hS hFc⟩ rfl rfl hl.1 rfl (lv_room (Nat.le_of_ble_eq_true rfl)) dX5_play_37 ⟨Nat.le_of_ble_eq_true rfl, Nat.le_of_ble_eq_true rfl⟩) hS (fun q _ h => hFc q h) hFc (fun r_16 u t H1 locs ht hvm hw hB hz1 hk1 hS => ?_)
  obtain ⟨hP1, hK1, hD1⟩ := hB
  rw [ht] at hP1
  have hK1 := va_K.moved hvm.symm hK1
  obtain ⟨hP, hD⟩ := va_join (wr := [(h0, .inr (10, [.ref fq, .ref sq, .ref gq, .ref nq, .ref dq, .ref pq, .int pl, .int vx_8, .int vx_9])), (nq, .inr (8, [.int vx_10, .ref tq, .ref zq, .ref wq])), (fq, .inr (4, [.int mc_fq, .ref tE, .int 0])), (sq, .inr (4, [.int mc_sq, .ref tE, .int 0])), (gq, .inr (4, [.int mc_gq, .ref tE, .int 0]))]) (w1 := []) hP hD [] [0, 1, 2, 3, 4] rfl rfl (by decide) (by decide) hk1 hFc hP1 hD1
  generalize H1 = H at hP hS ⊢
  have hP : va_P (dC, dI) vwCl [(h0, .inr (10, [.ref fq, .ref sq, .ref gq, .ref nq, .ref dq, .ref pq, .int pl, .int vx_8, .int vx_9])), (nq, .inr (8, [.int vx_10, .ref tq, .ref zq, .ref wq])), (fq, .inr (4, [.int mc_fq, .ref tE, .int 0])), (sq, .inr (4, [.int mc_sq, .ref tE, .int 0])), (gq, .inr (4, [.int mc_gq, .ref tE, .int 0]))] H := hP
  have hD : va_D A [(h0, .inr (10, [.ref fq, .ref sq, .ref gq, .ref nq, .ref dq, .ref pq, .int pl, .int vx_8, .int vx_9])), (nq, .inr (8, [.int vx_10, .ref tq, .ref zq, .ref wq])), (fq, .inr (4, [.int mc_fq, .ref tE, .int 0])), (sq, .inr (4, [.int mc_sq, .ref tE, .int 0])), (gq, .inr (4, [.int mc_gq, .ref tE, .int 0]))] := hD
  refine W.widen (k := 0) (n := 0) (by omega) (by omega) ?_
  have hPc := hP.sub (ws' := [(h0, .inr (10, [.ref fq, .ref sq, .ref gq, .ref nq, .ref dq, .ref pq, .int pl, .int vx_8, .int vx_9])), (fq, .inr (4, [.int mc_fq, .ref tE, .int 0])), (sq, .inr (4, [.int mc_sq, .ref tE, .int 0])), (gq, .inr (4, [.int mc_gq, .ref tE, .int 0])), (nq, .inr (8, [.int vx_10, .ref tq, .ref zq, .ref wq]))]) [0, 2, 3, 4, 1] rfl
  have hDc := hD.sub (ws' := [(h0, .inr (10, [.ref fq, .ref sq, .ref gq, .ref nq, .ref dq, .ref pq, .int pl, .int vx_8, .int vx_9])), (fq, .inr (4, [.int mc_fq, .ref tE, .int 0])), (sq, .inr (4, [.int mc_sq, .ref tE, .int 0])), (gq, .inr (4, [.int mc_gq, .ref tE, .int 0])), (nq, .inr (8, [.int vx_10, .ref tq, .ref zq, .ref wq]))]) [0, 2, 3, 4, 1] (by decide) rfl
  have hKc := hK.sub (tys' := []) [] rfl
  have hFc := va_free (wc := [(h0, .inr (10, [.ref fq, .ref sq, .ref gq, .ref nq, .ref dq, .ref pq, .int pl, .int vx_8, .int vx_9])), (fq, .inr (4, [.int mc_fq, .ref tE, .int 0])), (sq, .inr (4, [.int mc_sq, .ref tE, .int 0])), (gq, .inr (4, [.int mc_gq, .ref tE, .int 0])), (nq, .inr (8, [.int vx_10, .ref tq, .ref zq, .ref wq]))]) hD hS hA [0, 2, 3, 4, 1] rfl
  refine va_calli (va_runV (As := [.int r_16]) (rest := [.int 0]) ⟨hx, hb, hml, hown, hts⟩ (c_toll l hl9 dC dI tE h0 fq sq gq nq dq pq pl vx_8 vx_9 mc_fq mc_sq mc_gq tq zq wq vx_10 r_16 _ ) (cwV 1 hts (goodIn_app (goodIn_r _ [31, 32, 33, 5] (by rfl) (by decide +kernel)) gg_c_play_3_c_toll) rfl rfl rfl (by decide +kernel) ⟨Nat.le_of_ble_eq_true rfl, Nat.le_of_ble_eq_true rfl⟩) ⟨Pre0.blind, va_recv hKc hPc (ci := 10) (q0 := 0) rfl rfl, Pre0.give hPc hKc hDc hT hS hFc⟩ rfl rfl hl.1 rfl (lv_room (Nat.le_of_ble_eq_true rfl)) dX5_play_40 ⟨Nat.le_of_ble_eq_true rfl, Nat.le_of_ble_eq_true rfl⟩) hS (fun q _ h => hFc q h) hFc (fun r_17 u t H1 locs ht hvm hw hB hz1 hk1 hS => ?_)
  obtain ⟨vx_18, vx_19, vx_20, hP1, hK1, hD1⟩ := hB
  rw [ht] at hP1
  have hK1 := va_K.moved hvm.symm hK1
  obtain ⟨hP, hD⟩ := va_join (wr := []) (w1 := [(h0, .inr (10, [.ref fq, .ref sq, .ref gq, .ref nq, .ref dq, .ref pq, .int pl, .int vx_18, .int vx_19])), (nq, .inr (8, [.int vx_20, .ref tq, .ref zq, .ref wq])), (fq, .inr (4, [.int mc_fq, .ref tE, .int 0])), (sq, .inr (4, [.int mc_sq, .ref tE, .int 0])), (gq, .inr (4, [.int mc_gq, .ref tE, .int 0]))]) hP hD [0, 2, 3, 4, 1] [] rfl rfl (by decide) (by decide) hk1 hFc hP1 hD1
  generalize H1 = H at hP hS ⊢
  have hP : va_P (dC, dI) vwCl [(h0, .inr (10, [.ref fq, .ref sq, .ref gq, .ref nq, .ref dq, .ref pq, .int pl, .int vx_18, .int vx_19])), (nq, .inr (8, [.int vx_20, .ref tq, .ref zq, .ref wq])), (fq, .inr (4, [.int mc_fq, .ref tE, .int 0])), (sq, .inr (4, [.int mc_sq, .ref tE, .int 0])), (gq, .inr (4, [.int mc_gq, .ref tE, .int 0]))] H := hP
  have hD : va_D A [(h0, .inr (10, [.ref fq, .ref sq, .ref gq, .ref nq, .ref dq, .ref pq, .int pl, .int vx_18, .int vx_19])), (nq, .inr (8, [.int vx_20, .ref tq, .ref zq, .ref wq])), (fq, .inr (4, [.int mc_fq, .ref tE, .int 0])), (sq, .inr (4, [.int mc_sq, .ref tE, .int 0])), (gq, .inr (4, [.int mc_gq, .ref tE, .int 0]))] := hD
  refine W.widen (k := 0) (n := 0) (by omega) (by omega) ?_
  obtain rfl : r_17 = 0 := hw
  refine lv_iadd hx hb dX5_play_43 ?_
  refine lv_topi (fun x_21 e_22 => ?_)
  obtain rfl : x_21 = 0 := e_22.trans (by decide)
  refine lv_istore_n (lv' := [(3, .int 0), (4, .int 10), (2, .int 1000), (0, .ref h0), (1, .int p0)]) hx hb dX5_play_44 rfl hl (by decide) rfl (fun ls hl => ?_)
  refine lv_iload hx hb dX5_play_45 (lv_at hl 1 rfl) ?_
  refine lv_bipush (v := 10) hx hb dX5_play_47 (by decide) ?_
  refine lv_idiv hx hb dX5_play_49 (by decide) ?_
  refine lv_topi (fun x_23 e_24 => ?_)
  obtain rfl : x_23 = 1 := e_24.trans (by decide)
  refine lv_istore (lv' := [(4, .int 1), (3, .int 0), (2, .int 1000), (0, .ref h0), (1, .int p0)]) hx hb dX5_play_50 hl (by decide) rfl (fun ls hl => ?_)
  refine lv_goto (tgt := 27) hx hb dX5_play_52 (by decide) ?_
  refine lv_iload hx hb dX5_play_27 (lv_at hl 0 rfl) ?_
  refine lv_if_le (tgt := 55) hx hb dX5_play_29 (by decide) (fun c_25 => absurd c_25 (by decide)) (fun _ => ?_)
  refine lv_iload_n hx hb dX5_play_32 rfl (lv_at hl 1 rfl) ?_
  refine lv_aload_n hx hb dX5_play_33 rfl (lv_at hl 3 rfl) ?_
  refine lv_iload_n hx hb dX5_play_34 rfl (lv_at hl 4 rfl) ?_
  refine lv_iload hx hb dX5_play_35 (lv_at hl 0 rfl) ?_
  have hPc := hP.sub (ws' := []) [] rfl
  have hDc := hD.sub (ws' := []) [] (by decide) rfl
  have hKc := hK.sub (tys' := []) [] rfl
  have hFc := va_free (wc := []) hD hS hA [] rfl
  refine va_calli (va_runS (As := [.int p0, .int 1]) (rest := [.ref h0, .int 0]) ⟨hx, hb, hml, hown, hts⟩ (c_toneAt l hl9 dC dI tE p0 1 _ (by first | assumption | decide | omega) (by first | assumption | decide | omega)) (va_cwS 2 hts (goodIn_app (goodIn_r _ [7, 8, 5] (by rfl) (by decide +kernel)) gg_c_play_3_c_toneAt) rfl rfl rfl (by decide +kernel) ⟨Nat.le_of_ble_eq_true rfl, Nat.le_of_ble_eq_true rfl⟩) ⟨Pre0.blind, Pre0.give hPc hKc hDc hT hS hFc⟩ rfl rfl hl.1 rfl (lv_room (Nat.le_of_ble_eq_true rfl)) dX5_play_37 ⟨Nat.le_of_ble_eq_true rfl, Nat.le_of_ble_eq_true rfl⟩) hS (fun q _ h => hFc q h) hFc (fun r_26 u t H1 locs ht hvm hw hB hz1 hk1 hS => ?_)
  obtain ⟨hP1, hK1, hD1⟩ := hB
  rw [ht] at hP1
  have hK1 := va_K.moved hvm.symm hK1
  obtain ⟨hP, hD⟩ := va_join (wr := [(h0, .inr (10, [.ref fq, .ref sq, .ref gq, .ref nq, .ref dq, .ref pq, .int pl, .int vx_18, .int vx_19])), (nq, .inr (8, [.int vx_20, .ref tq, .ref zq, .ref wq])), (fq, .inr (4, [.int mc_fq, .ref tE, .int 0])), (sq, .inr (4, [.int mc_sq, .ref tE, .int 0])), (gq, .inr (4, [.int mc_gq, .ref tE, .int 0]))]) (w1 := []) hP hD [] [0, 1, 2, 3, 4] rfl rfl (by decide) (by decide) hk1 hFc hP1 hD1
  generalize H1 = H at hP hS ⊢
  have hP : va_P (dC, dI) vwCl [(h0, .inr (10, [.ref fq, .ref sq, .ref gq, .ref nq, .ref dq, .ref pq, .int pl, .int vx_18, .int vx_19])), (nq, .inr (8, [.int vx_20, .ref tq, .ref zq, .ref wq])), (fq, .inr (4, [.int mc_fq, .ref tE, .int 0])), (sq, .inr (4, [.int mc_sq, .ref tE, .int 0])), (gq, .inr (4, [.int mc_gq, .ref tE, .int 0]))] H := hP
  have hD : va_D A [(h0, .inr (10, [.ref fq, .ref sq, .ref gq, .ref nq, .ref dq, .ref pq, .int pl, .int vx_18, .int vx_19])), (nq, .inr (8, [.int vx_20, .ref tq, .ref zq, .ref wq])), (fq, .inr (4, [.int mc_fq, .ref tE, .int 0])), (sq, .inr (4, [.int mc_sq, .ref tE, .int 0])), (gq, .inr (4, [.int mc_gq, .ref tE, .int 0]))] := hD
  refine W.widen (k := 0) (n := 0) (by omega) (by omega) ?_
  have hPc := hP.sub (ws' := [(h0, .inr (10, [.ref fq, .ref sq, .ref gq, .ref nq, .ref dq, .ref pq, .int pl, .int vx_18, .int vx_19])), (fq, .inr (4, [.int mc_fq, .ref tE, .int 0])), (sq, .inr (4, [.int mc_sq, .ref tE, .int 0])), (gq, .inr (4, [.int mc_gq, .ref tE, .int 0])), (nq, .inr (8, [.int vx_20, .ref tq, .ref zq, .ref wq]))]) [0, 2, 3, 4, 1] rfl
  have hDc := hD.sub (ws' := [(h0, .inr (10, [.ref fq, .ref sq, .ref gq, .ref nq, .ref dq, .ref pq, .int pl, .int vx_18, .int vx_19])), (fq, .inr (4, [.int mc_fq, .ref tE, .int 0])), (sq, .inr (4, [.int mc_sq, .ref tE, .int 0])), (gq, .inr (4, [.int mc_gq, .ref tE, .int 0])), (nq, .inr (8, [.int vx_20, .ref tq, .ref zq, .ref wq]))]) [0, 2, 3, 4, 1] (by decide) rfl
  have hKc := hK.sub (tys' := []) [] rfl
  have hFc := va_free (wc := [(h0, .inr (10, [.ref fq, .ref sq, .ref gq, .ref nq, .ref dq, .ref pq, .int pl, .int vx_18, .int vx_19])), (fq, .inr (4, [.int mc_fq, .ref tE, .int 0])), (sq, .inr (4, [.int mc_sq, .ref tE, .int 0])), (gq, .inr (4, [.int mc_gq, .ref tE, .int 0])), (nq, .inr (8, [.int vx_20, .ref tq, .ref zq, .ref wq]))]) hD hS hA [0, 2, 3, 4, 1] rfl
  refine va_calli (va_runV (As := [.int r_26]) (rest := [.int 0]) ⟨hx, hb, hml, hown, hts⟩ (c_toll l hl9 dC dI tE h0 fq sq gq nq dq pq pl vx_18 vx_19 mc_fq mc_sq mc_gq tq zq wq vx_20 r_26 _ ) (cwV 1 hts (goodIn_app (goodIn_r _ [31, 32, 33, 5] (by rfl) (by decide +kernel)) gg_c_play_3_c_toll) rfl rfl rfl (by decide +kernel) ⟨Nat.le_of_ble_eq_true rfl, Nat.le_of_ble_eq_true rfl⟩) ⟨Pre0.blind, va_recv hKc hPc (ci := 10) (q0 := 0) rfl rfl, Pre0.give hPc hKc hDc hT hS hFc⟩ rfl rfl hl.1 rfl (lv_room (Nat.le_of_ble_eq_true rfl)) dX5_play_40 ⟨Nat.le_of_ble_eq_true rfl, Nat.le_of_ble_eq_true rfl⟩) hS (fun q _ h => hFc q h) hFc (fun r_27 u t H1 locs ht hvm hw hB hz1 hk1 hS => ?_)
  obtain ⟨vx_28, vx_29, vx_30, hP1, hK1, hD1⟩ := hB
  rw [ht] at hP1
  have hK1 := va_K.moved hvm.symm hK1
  obtain ⟨hP, hD⟩ := va_join (wr := []) (w1 := [(h0, .inr (10, [.ref fq, .ref sq, .ref gq, .ref nq, .ref dq, .ref pq, .int pl, .int vx_28, .int vx_29])), (nq, .inr (8, [.int vx_30, .ref tq, .ref zq, .ref wq])), (fq, .inr (4, [.int mc_fq, .ref tE, .int 0])), (sq, .inr (4, [.int mc_sq, .ref tE, .int 0])), (gq, .inr (4, [.int mc_gq, .ref tE, .int 0]))]) hP hD [0, 2, 3, 4, 1] [] rfl rfl (by decide) (by decide) hk1 hFc hP1 hD1
  generalize H1 = H at hP hS ⊢
  have hP : va_P (dC, dI) vwCl [(h0, .inr (10, [.ref fq, .ref sq, .ref gq, .ref nq, .ref dq, .ref pq, .int pl, .int vx_28, .int vx_29])), (nq, .inr (8, [.int vx_30, .ref tq, .ref zq, .ref wq])), (fq, .inr (4, [.int mc_fq, .ref tE, .int 0])), (sq, .inr (4, [.int mc_sq, .ref tE, .int 0])), (gq, .inr (4, [.int mc_gq, .ref tE, .int 0]))] H := hP
  have hD : va_D A [(h0, .inr (10, [.ref fq, .ref sq, .ref gq, .ref nq, .ref dq, .ref pq, .int pl, .int vx_28, .int vx_29])), (nq, .inr (8, [.int vx_30, .ref tq, .ref zq, .ref wq])), (fq, .inr (4, [.int mc_fq, .ref tE, .int 0])), (sq, .inr (4, [.int mc_sq, .ref tE, .int 0])), (gq, .inr (4, [.int mc_gq, .ref tE, .int 0]))] := hD
  refine W.widen (k := 0) (n := 0) (by omega) (by omega) ?_
  obtain rfl : r_27 = 0 := hw
  refine lv_iadd hx hb dX5_play_43 ?_
  refine lv_topi (fun x_31 e_32 => ?_)
  obtain rfl : x_31 = 0 := e_32.trans (by decide)
  refine lv_istore_n (lv' := [(3, .int 0), (4, .int 1), (2, .int 1000), (0, .ref h0), (1, .int p0)]) hx hb dX5_play_44 rfl hl (by decide) rfl (fun ls hl => ?_)
  refine lv_iload hx hb dX5_play_45 (lv_at hl 1 rfl) ?_
  refine lv_bipush (v := 10) hx hb dX5_play_47 (by decide) ?_
  refine lv_idiv hx hb dX5_play_49 (by decide) ?_
  refine lv_topi (fun x_33 e_34 => ?_)
  obtain rfl : x_33 = 0 := e_34.trans (by decide)
  refine lv_istore (lv' := [(4, .int 0), (3, .int 0), (2, .int 1000), (0, .ref h0), (1, .int p0)]) hx hb dX5_play_50 hl (by decide) rfl (fun ls hl => ?_)
  refine lv_goto (tgt := 27) hx hb dX5_play_52 (by decide) ?_
  refine lv_iload hx hb dX5_play_27 (lv_at hl 0 rfl) ?_
  refine lv_if_le (tgt := 55) hx hb dX5_play_29 (by decide) (fun _ => ?_) (fun c_35 => absurd (by decide) c_35)
  refine lv_iload_n hx hb dX5_play_55 rfl (lv_at hl 1 rfl) ?_
  have hP9 := hP.sub (ws' := [(h0, .inr (10, [.ref fq, .ref sq, .ref gq, .ref nq, .ref dq, .ref pq, .int pl, .int vx_28, .int vx_29])), (nq, .inr (8, [.int vx_30, .ref tq, .ref zq, .ref wq])), (fq, .inr (4, [.int mc_fq, .ref tE, .int 0])), (sq, .inr (4, [.int mc_sq, .ref tE, .int 0])), (gq, .inr (4, [.int mc_gq, .ref tE, .int 0]))]) [0, 1, 2, 3, 4] rfl
  have hD9 := hD.sub (ws' := [(h0, .inr (10, [.ref fq, .ref sq, .ref gq, .ref nq, .ref dq, .ref pq, .int pl, .int vx_28, .int vx_29])), (nq, .inr (8, [.int vx_30, .ref tq, .ref zq, .ref wq])), (fq, .inr (4, [.int mc_fq, .ref tE, .int 0])), (sq, .inr (4, [.int mc_sq, .ref tE, .int 0])), (gq, .inr (4, [.int mc_gq, .ref tE, .int 0]))]) [0, 1, 2, 3, 4] (by decide) rfl
  have hK9 := hK.sub (tys' := []) [] rfl
  exact W.iret (v := 0) hx hb hr (fun t ht hW => ⟨⟨0, (), rfl, rfl, vx_28, vx_29, vx_30, by rw [ht]; exact hP9, va_K.moved hW.alike hK9, hD9⟩, hS.F ht⟩) hS.2.2 dX5_play_56
def v_c_play_4 : List Cond := .code yX5_play cX5_play 5 (some .int) :: ([Cond.code yX5_spanOf cX5_spanOf 4 (some .int), Cond.constant RX5 284 (444444), Cond.methodLink RX5 76 yX5_spanOf, Cond.static yX5_spanOf, Cond.initialized RX5, Cond.code yX5_toneAt cX5_toneAt 2 (some .int), Cond.methodLink RX5 219 yX5_toneAt, Cond.static yX5_toneAt, Cond.code yX5_toll cX5_toll 4 (some .int), Cond.fieldLink RX5 19 "HotelOfBells" "guests" "Ljava/util/ArrayList;", Cond.code yJx4a65c_size_8abf5 cJx4a65c_size_8abf5 1 (some .int), Cond.fieldLink RJx4a65c 48 "java/util/ArrayList" "size" "I", Cond.methodLink RX5 49 yJx4a65c_size_8abf5, Cond.instanceMethod yJx4a65c_size_8abf5, Cond.selects RJx4a65c yJx4a65c_size_8abf5 yJx4a65c_size_8abf5, Cond.initialized RJx4a65c, Cond.fieldLink RX5 200 "HotelOfBells" "bells" "I", Cond.fieldLink RX5 203 "HotelOfBells" "turnsByBells" "I", Cond.fieldLink RX5 25 "HotelOfBells" "now" "LHotelOfBells$Moment;", Cond.code yX5_strike cX5_strike 6 (some .int), Cond.fieldLink RX5 156 "HotelOfBells$Moment" "heard" "I", Cond.code yX5_heardWith cX5_heardWith 2 (some .int), Cond.constant RX5 247 (100000), Cond.methodLink RX5 252 yX5_heardWith, Cond.static yX5_heardWith, Cond.fieldLink RX5 10 "HotelOfBells" "floors" "Ljava/util/ArrayList;", Cond.fieldLink RX5 16 "HotelOfBells" "shafts" "Ljava/util/ArrayList;", Cond.methodLink RX5 237 yX5_strike, Cond.instanceMethod yX5_strike, Cond.selects RX5 yX5_strike yX5_strike, Cond.methodLink RX5 216 yX5_toll, Cond.instanceMethod yX5_toll, Cond.selects RX5 yX5_toll yX5_toll] ++ (wsX50 ++ (wsJx4a65c0 ++ (wsX30 ++ []))))
theorem u_c_play_4_X5 : ∀ w ∈ wsX50, w ∈ v_c_play_4 := fun _ h => List.mem_cons_of_mem _ (List.mem_append_right _ (List.mem_append_left _ h))
theorem u_c_play_4_Jx4a65c : ∀ w ∈ wsJx4a65c0, w ∈ v_c_play_4 := fun _ h => List.mem_cons_of_mem _ (List.mem_append_right _ (List.mem_append_right _ (List.mem_append_left _ h)))
theorem u_c_play_4_X3 : ∀ w ∈ wsX30, w ∈ v_c_play_4 := fun _ h => List.mem_cons_of_mem _ (List.mem_append_right _ (List.mem_append_right _ (List.mem_append_right _ (List.mem_append_left _ h))))
theorem gg_c_play_4_c_spanOf : GoodIn v_c_play_4 v_c_spanOf := goodIn_r _ [1, 2] (by rfl) (by decide +kernel)
theorem gg_c_play_4_c_toneAt : GoodIn v_c_play_4 v_c_toneAt := goodIn_r _ [6] (by rfl) (by decide +kernel)
theorem gg_c_play_4_c_toll : GoodIn v_c_play_4 v_c_toll := goodIn_r _ [9, 10, 11, 12, 13, 14, 15, 16, 17, 18, 19, 20, 21, 22, 23, 24, 25, 5, 26, 27, 28, 29, 30, 34, 35, 36, 37, 38, 39, 40, 41, 42, 43, 44, 45, 46, 47, 48, 49] (by rfl) (by decide +kernel)
set_option maxHeartbeats 4000000 in
set_option maxRecDepth 100000 in
theorem c_play_4 (l : Launch) (hl9 : l.stackTraces = false) (dC : Nat → ClassId) (dI : Nat → Nat → Nat) (tE : Nat) (h0 : Nat) (fq : Nat) (sq : Nat) (gq : Nat) (nq : Nat) (dq : Nat) (pq : Nat) (pl : Int32) (bl : Int32) (tb : Int32) (mc_fq : Int32) (mc_sq : Int32) (mc_gq : Int32) (tq : Nat) (zq : Nat) (wq : Nat) (hd : Int32) (p0 : Int32) (sz : Nat) (hd0 : dgt p0 = 4) : Met l yX5_play v_c_play_4 ({ frames := 3, cells := 0, slots := 0, locals := 69 }) (va_Pc [.ref h0, .int p0] (Pre0 dC dI tE sz [] [(h0, .inr (10, [.ref fq, .ref sq, .ref gq, .ref nq, .ref dq, .ref pq, .int pl, .int bl, .int tb])), (fq, .inr (4, [.int mc_fq, .ref tE, .int 0])), (sq, .inr (4, [.int mc_sq, .ref tE, .int 0])), (gq, .inr (4, [.int mc_gq, .ref tE, .int 0])), (nq, .inr (8, [.int hd, .ref tq, .ref zq, .ref wq]))])) (va_Qi (fun (r : Int32) (_ : Unit) => r = 0) (fun _ t => ∃ (vx0 : Int32), ∃ (vx1 : Int32), ∃ (vx2 : Int32), Pst dC dI [] (va_A [(h0, .inr (10, [.ref fq, .ref sq, .ref gq, .ref nq, .ref dq, .ref pq, .int pl, .int bl, .int tb])), (fq, .inr (4, [.int mc_fq, .ref tE, .int 0])), (sq, .inr (4, [.int mc_sq, .ref tE, .int 0])), (gq, .inr (4, [.int mc_gq, .ref tE, .int 0])), (nq, .inr (8, [.int hd, .ref tq, .ref zq, .ref wq]))] sz) [(h0, .inr (10, [.ref fq, .ref sq, .ref gq, .ref nq, .ref dq, .ref pq, .int pl, .int vx0, .int vx1])), (nq, .inr (8, [.int vx2, .ref tq, .ref zq, .ref wq])), (fq, .inr (4, [.int mc_fq, .ref tE, .int 0])), (sq, .inr (4, [.int mc_sq, .ref tE, .int 0])), (gq, .inr (4, [.int mc_gq, .ref tE, .int 0]))] t) (va_A [(h0, .inr (10, [.ref fq, .ref sq, .ref gq, .ref nq, .ref dq, .ref pq, .int pl, .int bl, .int tb])), (fq, .inr (4, [.int mc_fq, .ref tE, .int 0])), (sq, .inr (4, [.int mc_sq, .ref tE, .int 0])), (gq, .inr (4, [.int mc_gq, .ref tE, .int 0])), (nq, .inr (8, [.int hd, .ref tq, .ref zq, .ref wq]))] sz)) 0 0 (va_A [(h0, .inr (10, [.ref fq, .ref sq, .ref gq, .ref nq, .ref dq, .ref pq, .int pl, .int bl, .int tb])), (fq, .inr (4, [.int mc_fq, .ref tE, .int 0])), (sq, .inr (4, [.int mc_sq, .ref tE, .int 0])), (gq, .inr (4, [.int mc_gq, .ref tE, .int 0])), (nq, .inr (8, [.int hd, .ref tq, .ref zq, .ref wq]))] sz) := by
  refine Met.ofW (cc := cX5_play) (maxL := 5) (ret := (some .int)) (by decide) rfl ?_
  intro p e s m args below meth c s₁ B hml hv
  obtain ⟨rfl, hsz, hP, hK, hD0, hT⟩ := hv
  have hx := B.exec
  have hb := B.bytes
  have hr := B.returns
  have hts := atoms_spec (ws := v_c_play_4) B.pre
  have hown : s.vm.findClass RX5 = some m.cls := findClass_of_methodNamed B.named
  have hlocks := B.notSynchronized
  subst hsz
  have hD := hD0.self (sz := s.heap.size)
  generalize hAe : va_A [(h0, .inr (10, [.ref fq, .ref sq, .ref gq, .ref nq, .ref dq, .ref pq, .int pl, .int bl, .int tb])), (fq, .inr (4, [.int mc_fq, .ref tE, .int 0])), (sq, .inr (4, [.int mc_sq, .ref tE, .int 0])), (gq, .inr (4, [.int mc_gq, .ref tE, .int 0])), (nq, .inr (8, [.int hd, .ref tq, .ref zq, .ref wq]))] s.heap.size = A at hD hT ⊢
  have hA : ∀ q : Nat, s.heap.size ≤ q → A q := fun q h => by rw [← hAe]; exact Or.inr h
  have hS : va_S A s.heap s.heap [] := va_S.rf
  have hl := lv_entry ([.ref h0, .int p0]) (n := 5) (Nat.le_of_ble_eq_true rfl)
  rw [lg_entry_eq]
  generalize (lg_sl ([.ref h0, .int p0]) ++ List.replicate (5 - (lg_sl ([.ref h0, .int p0])).length) Slot.unset).toArray = ls at hl ⊢
  have hl : lv_has ls 5 [(0, .ref h0), (1, .int p0)] := hl
  refine lv_iload_n hx hb dX5_play_0 rfl (lv_at hl 1 rfl) ?_
  have hPc := hP.sub (ws' := []) [] rfl
  have hDc := hD.sub (ws' := []) [] (by decide) rfl
  have hKc := hK.sub (tys' := []) [] rfl
  have hFc := va_free (wc := []) hD hS hA [] rfl
  refine va_calli (va_runS (As := [.int p0]) (rest := []) ⟨hx, hb, hml, hown, hts⟩ (c_spanOf l hl9 dC dI tE p0 _ ) (va_cwS 1 hts (goodIn_app (goodIn_r _ [3, 4, 5] (by rfl) (by decide +kernel)) gg_c_play_4_c_spanOf) rfl rfl rfl (by decide +kernel) ⟨Nat.le_of_ble_eq_true rfl, Nat.le_of_ble_eq_true rfl⟩) ⟨Pre0.blind, Pre0.give hPc hKc hDc hT hS hFc⟩ rfl rfl hl.1 rfl (lv_room (Nat.le_of_ble_eq_true rfl)) dX5_play_1 ⟨Nat.le_of_ble_eq_true rfl, Nat.le_of_ble_eq_true rfl⟩) hS (fun q _ h => hFc q h) hFc (fun r_1 u t H1 locs ht hvm hw hB hz1 hk1 hS => ?_)
  obtain ⟨hP1, hK1, hD1⟩ := hB
  rw [ht] at hP1
  have hK1 := va_K.moved hvm.symm hK1
  obtain ⟨hP, hD⟩ := va_join (wr := [(h0, .inr (10, [.ref fq, .ref sq, .ref gq, .ref nq, .ref dq, .ref pq, .int pl, .int bl, .int tb])), (fq, .inr (4, [.int mc_fq, .ref tE, .int 0])), (sq, .inr (4, [.int mc_sq, .ref tE, .int 0])), (gq, .inr (4, [.int mc_gq, .ref tE, .int 0])), (nq, .inr (8, [.int hd, .ref tq, .ref zq, .ref wq]))]) (w1 := []) hP hD [] [0, 1, 2, 3, 4] rfl rfl (by decide) (by decide) hk1 hFc hP1 hD1
  generalize H1 = H at hP hS ⊢
  have hP : va_P (dC, dI) vwCl [(h0, .inr (10, [.ref fq, .ref sq, .ref gq, .ref nq, .ref dq, .ref pq, .int pl, .int bl, .int tb])), (fq, .inr (4, [.int mc_fq, .ref tE, .int 0])), (sq, .inr (4, [.int mc_sq, .ref tE, .int 0])), (gq, .inr (4, [.int mc_gq, .ref tE, .int 0])), (nq, .inr (8, [.int hd, .ref tq, .ref zq, .ref wq]))] H := hP
  have hD : va_D A [(h0, .inr (10, [.ref fq, .ref sq, .ref gq, .ref nq, .ref dq, .ref pq, .int pl, .int bl, .int tb])), (fq, .inr (4, [.int mc_fq, .ref tE, .int 0])), (sq, .inr (4, [.int mc_sq, .ref tE, .int 0])), (gq, .inr (4, [.int mc_gq, .ref tE, .int 0])), (nq, .inr (8, [.int hd, .ref tq, .ref zq, .ref wq]))] := hD
  refine W.widen (k := 0) (n := 0) (by omega) (by omega) ?_
  obtain rfl : r_1 = 10000 := by rw [hw, hd0]; decide
  refine lv_istore_n (lv' := [(2, .int 10000), (0, .ref h0), (1, .int p0)]) hx hb dX5_play_4 rfl hl (by decide) rfl (fun ls hl => ?_)
  refine lv_iload_n hx hb dX5_play_5 rfl (lv_at hl 0 rfl) ?_
  refine lv_if_ne (tgt := 19) hx hb dX5_play_6 (by decide) (fun _ => ?_) (fun c_2 => absurd c_2 (by decide))
  refine lv_iconst (v := 0) hx hb dX5_play_19 (by decide) ?_
  refine lv_istore_n (lv' := [(3, .int 0), (2, .int 10000), (0, .ref h0), (1, .int p0)]) hx hb dX5_play_20 rfl hl (by decide) rfl (fun ls hl => ?_)
  refine lv_iload_n hx hb dX5_play_21 rfl (lv_at hl 1 rfl) ?_
  refine lv_bipush (v := 10) hx hb dX5_play_22 (by decide) ?_
  refine lv_idiv hx hb dX5_play_24 (by decide) ?_
  refine lv_topi (fun x_3 e_4 => ?_)
  obtain rfl : x_3 = 1000 := e_4.trans (by decide)
  refine lv_istore (lv' := [(4, .int 1000), (3, .int 0), (2, .int 10000), (0, .ref h0), (1, .int p0)]) hx hb dX5_play_25 hl (by decide) rfl (fun ls hl => ?_)
  refine lv_iload hx hb dX5_play_27 (lv_at hl 0 rfl) ?_
  refine lv_if_le (tgt := 55) hx hb dX5_play_29 (by decide) (fun c_5 => absurd c_5 (by decide)) (fun _ => ?_)
  refine lv_iload_n hx hb dX5_play_32 rfl (lv_at hl 1 rfl) ?_
  refine lv_aload_n hx hb dX5_play_33 rfl (lv_at hl 3 rfl) ?_
  refine lv_iload_n hx hb dX5_play_34 rfl (lv_at hl 4 rfl) ?_
  refine lv_iload hx hb dX5_play_35 (lv_at hl 0 rfl) ?_
  have hPc := hP.sub (ws' := []) [] rfl
  have hDc := hD.sub (ws' := []) [] (by decide) rfl
  have hKc := hK.sub (tys' := []) [] rfl
  have hFc := va_free (wc := []) hD hS hA [] rfl
  refine va_calli (va_runS (As := [.int p0, .int 1000]) (rest := [.ref h0, .int 0]) ⟨hx, hb, hml, hown, hts⟩ (c_toneAt l hl9 dC dI tE p0 1000 _ (by first | assumption | decide | omega) (by first | assumption | decide | omega)) (va_cwS 2 hts (goodIn_app (goodIn_r _ [7, 8, 5] (by rfl) (by decide +kernel)) gg_c_play_4_c_toneAt) rfl rfl rfl (by decide +kernel) ⟨Nat.le_of_ble_eq_true rfl, Nat.le_of_ble_eq_true rfl⟩) ⟨Pre0.blind, Pre0.give hPc hKc hDc hT hS hFc⟩ rfl rfl hl.1 rfl (lv_room (Nat.le_of_ble_eq_true rfl)) dX5_play_37 ⟨Nat.le_of_ble_eq_true rfl, Nat.le_of_ble_eq_true rfl⟩) hS (fun q _ h => hFc q h) hFc (fun r_6 u t H1 locs ht hvm hw hB hz1 hk1 hS => ?_)
  obtain ⟨hP1, hK1, hD1⟩ := hB
  rw [ht] at hP1
  have hK1 := va_K.moved hvm.symm hK1
  obtain ⟨hP, hD⟩ := va_join (wr := [(h0, .inr (10, [.ref fq, .ref sq, .ref gq, .ref nq, .ref dq, .ref pq, .int pl, .int bl, .int tb])), (fq, .inr (4, [.int mc_fq, .ref tE, .int 0])), (sq, .inr (4, [.int mc_sq, .ref tE, .int 0])), (gq, .inr (4, [.int mc_gq, .ref tE, .int 0])), (nq, .inr (8, [.int hd, .ref tq, .ref zq, .ref wq]))]) (w1 := []) hP hD [] [0, 1, 2, 3, 4] rfl rfl (by decide) (by decide) hk1 hFc hP1 hD1
  generalize H1 = H at hP hS ⊢
  have hP : va_P (dC, dI) vwCl [(h0, .inr (10, [.ref fq, .ref sq, .ref gq, .ref nq, .ref dq, .ref pq, .int pl, .int bl, .int tb])), (fq, .inr (4, [.int mc_fq, .ref tE, .int 0])), (sq, .inr (4, [.int mc_sq, .ref tE, .int 0])), (gq, .inr (4, [.int mc_gq, .ref tE, .int 0])), (nq, .inr (8, [.int hd, .ref tq, .ref zq, .ref wq]))] H := hP
  have hD : va_D A [(h0, .inr (10, [.ref fq, .ref sq, .ref gq, .ref nq, .ref dq, .ref pq, .int pl, .int bl, .int tb])), (fq, .inr (4, [.int mc_fq, .ref tE, .int 0])), (sq, .inr (4, [.int mc_sq, .ref tE, .int 0])), (gq, .inr (4, [.int mc_gq, .ref tE, .int 0])), (nq, .inr (8, [.int hd, .ref tq, .ref zq, .ref wq]))] := hD
  refine W.widen (k := 0) (n := 0) (by omega) (by omega) ?_
  have hPc := hP.sub (ws' := [(h0, .inr (10, [.ref fq, .ref sq, .ref gq, .ref nq, .ref dq, .ref pq, .int pl, .int bl, .int tb])), (fq, .inr (4, [.int mc_fq, .ref tE, .int 0])), (sq, .inr (4, [.int mc_sq, .ref tE, .int 0])), (gq, .inr (4, [.int mc_gq, .ref tE, .int 0])), (nq, .inr (8, [.int hd, .ref tq, .ref zq, .ref wq]))]) [0, 1, 2, 3, 4] rfl
  have hDc := hD.sub (ws' := [(h0, .inr (10, [.ref fq, .ref sq, .ref gq, .ref nq, .ref dq, .ref pq, .int pl, .int bl, .int tb])), (fq, .inr (4, [.int mc_fq, .ref tE, .int 0])), (sq, .inr (4, [.int mc_sq, .ref tE, .int 0])), (gq, .inr (4, [.int mc_gq, .ref tE, .int 0])), (nq, .inr (8, [.int hd, .ref tq, .ref zq, .ref wq]))]) [0, 1, 2, 3, 4] (by decide) rfl
  have hKc := hK.sub (tys' := []) [] rfl
  have hFc := va_free (wc := [(h0, .inr (10, [.ref fq, .ref sq, .ref gq, .ref nq, .ref dq, .ref pq, .int pl, .int bl, .int tb])), (fq, .inr (4, [.int mc_fq, .ref tE, .int 0])), (sq, .inr (4, [.int mc_sq, .ref tE, .int 0])), (gq, .inr (4, [.int mc_gq, .ref tE, .int 0])), (nq, .inr (8, [.int hd, .ref tq, .ref zq, .ref wq]))]) hD hS hA [0, 1, 2, 3, 4] rfl
  refine va_calli (va_runV (As := [.int r_6]) (rest := [.int 0]) ⟨hx, hb, hml, hown, hts⟩ (c_toll l hl9 dC dI tE h0 fq sq gq nq dq pq pl bl tb mc_fq mc_sq mc_gq tq zq wq hd r_6 _ ) (cwV 1 hts (goodIn_app (goodIn_r _ [31, 32, 33, 5] (by rfl) (by decide +kernel)) gg_c_play_4_c_toll) rfl rfl rfl (by decide +kernel) ⟨Nat.le_of_ble_eq_true rfl, Nat.le_of_ble_eq_true rfl⟩) ⟨Pre0.blind, va_recv hKc hPc (ci := 10) (q0 := 0) rfl rfl, Pre0.give hPc hKc hDc hT hS hFc⟩ rfl rfl hl.1 rfl (lv_room (Nat.le_of_ble_eq_true rfl)) dX5_play_40 ⟨Nat.le_of_ble_eq_true rfl, Nat.le_of_ble_eq_true rfl⟩) hS (fun q _ h => hFc q h) hFc (fun r_7 u t H1 locs ht hvm hw hB hz1 hk1 hS => ?_)
  obtain ⟨vx_8, vx_9, vx_10, hP1, hK1, hD1⟩ := hB
  rw [ht] at hP1
  have hK1 := va_K.moved hvm.symm hK1
  obtain ⟨hP, hD⟩ := va_join (wr := []) (w1 := [(h0, .inr (10, [.ref fq, .ref sq, .ref gq, .ref nq, .ref dq, .ref pq, .int pl, .int vx_8, .int vx_9])), (nq, .inr (8, [.int vx_10, .ref tq, .ref zq, .ref wq])), (fq, .inr (4, [.int mc_fq, .ref tE, .int 0])), (sq, .inr (4, [.int mc_sq, .ref tE, .int 0])), (gq, .inr (4, [.int mc_gq, .ref tE, .int 0]))]) hP hD [0, 1, 2, 3, 4] [] rfl rfl (by decide) (by decide) hk1 hFc hP1 hD1
  generalize H1 = H at hP hS ⊢
  have hP : va_P (dC, dI) vwCl [(h0, .inr (10, [.ref fq, .ref sq, .ref gq, .ref nq, .ref dq, .ref pq, .int pl, .int vx_8, .int vx_9])), (nq, .inr (8, [.int vx_10, .ref tq, .ref zq, .ref wq])), (fq, .inr (4, [.int mc_fq, .ref tE, .int 0])), (sq, .inr (4, [.int mc_sq, .ref tE, .int 0])), (gq, .inr (4, [.int mc_gq, .ref tE, .int 0]))] H := hP
  have hD : va_D A [(h0, .inr (10, [.ref fq, .ref sq, .ref gq, .ref nq, .ref dq, .ref pq, .int pl, .int vx_8, .int vx_9])), (nq, .inr (8, [.int vx_10, .ref tq, .ref zq, .ref wq])), (fq, .inr (4, [.int mc_fq, .ref tE, .int 0])), (sq, .inr (4, [.int mc_sq, .ref tE, .int 0])), (gq, .inr (4, [.int mc_gq, .ref tE, .int 0]))] := hD
  refine W.widen (k := 0) (n := 0) (by omega) (by omega) ?_
  obtain rfl : r_7 = 0 := hw
  refine lv_iadd hx hb dX5_play_43 ?_
  refine lv_topi (fun x_11 e_12 => ?_)
  obtain rfl : x_11 = 0 := e_12.trans (by decide)
  refine lv_istore_n (lv' := [(3, .int 0), (4, .int 1000), (2, .int 10000), (0, .ref h0), (1, .int p0)]) hx hb dX5_play_44 rfl hl (by decide) rfl (fun ls hl => ?_)
  refine lv_iload hx hb dX5_play_45 (lv_at hl 1 rfl) ?_
  refine lv_bipush (v := 10) hx hb dX5_play_47 (by decide) ?_
  refine lv_idiv hx hb dX5_play_49 (by decide) ?_
  refine lv_topi (fun x_13 e_14 => ?_)
  obtain rfl : x_13 = 100 := e_14.trans (by decide)
  refine lv_istore (lv' := [(4, .int 100), (3, .int 0), (2, .int 10000), (0, .ref h0), (1, .int p0)]) hx hb dX5_play_50 hl (by decide) rfl (fun ls hl => ?_)
  refine lv_goto (tgt := 27) hx hb dX5_play_52 (by decide) ?_
  refine lv_iload hx hb dX5_play_27 (lv_at hl 0 rfl) ?_
  refine lv_if_le (tgt := 55) hx hb dX5_play_29 (by decide) (fun c_15 => absurd c_15 (by decide)) (fun _ => ?_)
  refine lv_iload_n hx hb dX5_play_32 rfl (lv_at hl 1 rfl) ?_
  refine lv_aload_n hx hb dX5_play_33 rfl (lv_at hl 3 rfl) ?_
  refine lv_iload_n hx hb dX5_play_34 rfl (lv_at hl 4 rfl) ?_
  refine lv_iload hx hb dX5_play_35 (lv_at hl 0 rfl) ?_
  have hPc := hP.sub (ws' := []) [] rfl
  have hDc := hD.sub (ws' := []) [] (by decide) rfl
  have hKc := hK.sub (tys' := []) [] rfl
  have hFc := va_free (wc := []) hD hS hA [] rfl
  refine va_calli (va_runS (As := [.int p0, .int 100]) (rest := [.ref h0, .int 0]) ⟨hx, hb, hml, hown, hts⟩ (c_toneAt l hl9 dC dI tE p0 100 _ (by first | assumption | decide | omega) (by first | assumption | decide | omega)) (va_cwS 2 hts (goodIn_app (goodIn_r _ [7, 8, 5] (by rfl) (by decide +kernel)) gg_c_play_4_c_toneAt) rfl rfl rfl (by decide +kernel) ⟨Nat.le_of_ble_eq_true rfl, Nat.le_of_ble_eq_true rfl⟩) ⟨Pre0.blind, Pre0.give hPc hKc hDc hT hS hFc⟩ rfl rfl hl.1 rfl (lv_room (Nat.le_of_ble_eq_true rfl)) dX5_play_37 ⟨Nat.le_of_ble_eq_true rfl, Nat.le_of_ble_eq_true rfl⟩) hS (fun q _ h => hFc q h) hFc (fun r_16 u t H1 locs ht hvm hw hB hz1 hk1 hS => ?_)
  obtain ⟨hP1, hK1, hD1⟩ := hB
  rw [ht] at hP1
  have hK1 := va_K.moved hvm.symm hK1
  obtain ⟨hP, hD⟩ := va_join (wr := [(h0, .inr (10, [.ref fq, .ref sq, .ref gq, .ref nq, .ref dq, .ref pq, .int pl, .int vx_8, .int vx_9])), (nq, .inr (8, [.int vx_10, .ref tq, .ref zq, .ref wq])), (fq, .inr (4, [.int mc_fq, .ref tE, .int 0])), (sq, .inr (4, [.int mc_sq, .ref tE, .int 0])), (gq, .inr (4, [.int mc_gq, .ref tE, .int 0]))]) (w1 := []) hP hD [] [0, 1, 2, 3, 4] rfl rfl (by decide) (by decide) hk1 hFc hP1 hD1
  generalize H1 = H at hP hS ⊢
  have hP : va_P (dC, dI) vwCl [(h0, .inr (10, [.ref fq, .ref sq, .ref gq, .ref nq, .ref dq, .ref pq, .int pl, .int vx_8, .int vx_9])), (nq, .inr (8, [.int vx_10, .ref tq, .ref zq, .ref wq])), (fq, .inr (4, [.int mc_fq, .ref tE, .int 0])), (sq, .inr (4, [.int mc_sq, .ref tE, .int 0])), (gq, .inr (4, [.int mc_gq, .ref tE, .int 0]))] H := hP
  have hD : va_D A [(h0, .inr (10, [.ref fq, .ref sq, .ref gq, .ref nq, .ref dq, .ref pq, .int pl, .int vx_8, .int vx_9])), (nq, .inr (8, [.int vx_10, .ref tq, .ref zq, .ref wq])), (fq, .inr (4, [.int mc_fq, .ref tE, .int 0])), (sq, .inr (4, [.int mc_sq, .ref tE, .int 0])), (gq, .inr (4, [.int mc_gq, .ref tE, .int 0]))] := hD
  refine W.widen (k := 0) (n := 0) (by omega) (by omega) ?_
  have hPc := hP.sub (ws' := [(h0, .inr (10, [.ref fq, .ref sq, .ref gq, .ref nq, .ref dq, .ref pq, .int pl, .int vx_8, .int vx_9])), (fq, .inr (4, [.int mc_fq, .ref tE, .int 0])), (sq, .inr (4, [.int mc_sq, .ref tE, .int 0])), (gq, .inr (4, [.int mc_gq, .ref tE, .int 0])), (nq, .inr (8, [.int vx_10, .ref tq, .ref zq, .ref wq]))]) [0, 2, 3, 4, 1] rfl
  have hDc := hD.sub (ws' := [(h0, .inr (10, [.ref fq, .ref sq, .ref gq, .ref nq, .ref dq, .ref pq, .int pl, .int vx_8, .int vx_9])), (fq, .inr (4, [.int mc_fq, .ref tE, .int 0])), (sq, .inr (4, [.int mc_sq, .ref tE, .int 0])), (gq, .inr (4, [.int mc_gq, .ref tE, .int 0])), (nq, .inr (8, [.int vx_10, .ref tq, .ref zq, .ref wq]))]) [0, 2, 3, 4, 1] (by decide) rfl
  have hKc := hK.sub (tys' := []) [] rfl
  have hFc := va_free (wc := [(h0, .inr (10, [.ref fq, .ref sq, .ref gq, .ref nq, .ref dq, .ref pq, .int pl, .int vx_8, .int vx_9])), (fq, .inr (4, [.int mc_fq, .ref tE, .int 0])), (sq, .inr (4, [.int mc_sq, .ref tE, .int 0])), (gq, .inr (4, [.int mc_gq, .ref tE, .int 0])), (nq, .inr (8, [.int vx_10, .ref tq, .ref zq, .ref wq]))]) hD hS hA [0, 2, 3, 4, 1] rfl
  refine va_calli (va_runV (As := [.int r_16]) (rest := [.int 0]) ⟨hx, hb, hml, hown, hts⟩ (c_toll l hl9 dC dI tE h0 fq sq gq nq dq pq pl vx_8 vx_9 mc_fq mc_sq mc_gq tq zq wq vx_10 r_16 _ ) (cwV 1 hts (goodIn_app (goodIn_r _ [31, 32, 33, 5] (by rfl) (by decide +kernel)) gg_c_play_4_c_toll) rfl rfl rfl (by decide +kernel) ⟨Nat.le_of_ble_eq_true rfl, Nat.le_of_ble_eq_true rfl⟩) ⟨Pre0.blind, va_recv hKc hPc (ci := 10) (q0 := 0) rfl rfl, Pre0.give hPc hKc hDc hT hS hFc⟩ rfl rfl hl.1 rfl (lv_room (Nat.le_of_ble_eq_true rfl)) dX5_play_40 ⟨Nat.le_of_ble_eq_true rfl, Nat.le_of_ble_eq_true rfl⟩) hS (fun q _ h => hFc q h) hFc (fun r_17 u t H1 locs ht hvm hw hB hz1 hk1 hS => ?_)
  obtain ⟨vx_18, vx_19, vx_20, hP1, hK1, hD1⟩ := hB
  rw [ht] at hP1
  have hK1 := va_K.moved hvm.symm hK1
  obtain ⟨hP, hD⟩ := va_join (wr := []) (w1 := [(h0, .inr (10, [.ref fq, .ref sq, .ref gq, .ref nq, .ref dq, .ref pq, .int pl, .int vx_18, .int vx_19])), (nq, .inr (8, [.int vx_20, .ref tq, .ref zq, .ref wq])), (fq, .inr (4, [.int mc_fq, .ref tE, .int 0])), (sq, .inr (4, [.int mc_sq, .ref tE, .int 0])), (gq, .inr (4, [.int mc_gq, .ref tE, .int 0]))]) hP hD [0, 2, 3, 4, 1] [] rfl rfl (by decide) (by decide) hk1 hFc hP1 hD1
  generalize H1 = H at hP hS ⊢
  have hP : va_P (dC, dI) vwCl [(h0, .inr (10, [.ref fq, .ref sq, .ref gq, .ref nq, .ref dq, .ref pq, .int pl, .int vx_18, .int vx_19])), (nq, .inr (8, [.int vx_20, .ref tq, .ref zq, .ref wq])), (fq, .inr (4, [.int mc_fq, .ref tE, .int 0])), (sq, .inr (4, [.int mc_sq, .ref tE, .int 0])), (gq, .inr (4, [.int mc_gq, .ref tE, .int 0]))] H := hP
  have hD : va_D A [(h0, .inr (10, [.ref fq, .ref sq, .ref gq, .ref nq, .ref dq, .ref pq, .int pl, .int vx_18, .int vx_19])), (nq, .inr (8, [.int vx_20, .ref tq, .ref zq, .ref wq])), (fq, .inr (4, [.int mc_fq, .ref tE, .int 0])), (sq, .inr (4, [.int mc_sq, .ref tE, .int 0])), (gq, .inr (4, [.int mc_gq, .ref tE, .int 0]))] := hD
  refine W.widen (k := 0) (n := 0) (by omega) (by omega) ?_
  obtain rfl : r_17 = 0 := hw
  refine lv_iadd hx hb dX5_play_43 ?_
  refine lv_topi (fun x_21 e_22 => ?_)
  obtain rfl : x_21 = 0 := e_22.trans (by decide)
  refine lv_istore_n (lv' := [(3, .int 0), (4, .int 100), (2, .int 10000), (0, .ref h0), (1, .int p0)]) hx hb dX5_play_44 rfl hl (by decide) rfl (fun ls hl => ?_)
  refine lv_iload hx hb dX5_play_45 (lv_at hl 1 rfl) ?_
  refine lv_bipush (v := 10) hx hb dX5_play_47 (by decide) ?_
  refine lv_idiv hx hb dX5_play_49 (by decide) ?_
  refine lv_topi (fun x_23 e_24 => ?_)
  obtain rfl : x_23 = 10 := e_24.trans (by decide)
  refine lv_istore (lv' := [(4, .int 10), (3, .int 0), (2, .int 10000), (0, .ref h0), (1, .int p0)]) hx hb dX5_play_50 hl (by decide) rfl (fun ls hl => ?_)
  refine lv_goto (tgt := 27) hx hb dX5_play_52 (by decide) ?_
  refine lv_iload hx hb dX5_play_27 (lv_at hl 0 rfl) ?_
  refine lv_if_le (tgt := 55) hx hb dX5_play_29 (by decide) (fun c_25 => absurd c_25 (by decide)) (fun _ => ?_)
  refine lv_iload_n hx hb dX5_play_32 rfl (lv_at hl 1 rfl) ?_
  refine lv_aload_n hx hb dX5_play_33 rfl (lv_at hl 3 rfl) ?_
  refine lv_iload_n hx hb dX5_play_34 rfl (lv_at hl 4 rfl) ?_
  refine lv_iload hx hb dX5_play_35 (lv_at hl 0 rfl) ?_
  have hPc := hP.sub (ws' := []) [] rfl
  have hDc := hD.sub (ws' := []) [] (by decide) rfl
  have hKc := hK.sub (tys' := []) [] rfl
  have hFc := va_free (wc := []) hD hS hA [] rfl
  refine va_calli (va_runS (As := [.int p0, .int 10]) (rest := [.ref h0, .int 0]) ⟨hx, hb, hml, hown, hts⟩ (c_toneAt l hl9 dC dI tE p0 10 _ (by first | assumption | decide | omega) (by first | assumption | decide | omega)) (va_cwS 2 hts (goodIn_app (goodIn_r _ [7, 8, 5] (by rfl) (by decide +kernel)) gg_c_play_4_c_toneAt) rfl rfl rfl (by decide +kernel) ⟨Nat.le_of_ble_eq_true rfl, Nat.le_of_ble_eq_true rfl⟩) ⟨Pre0.blind, Pre0.give hPc hKc hDc hT hS hFc⟩ rfl rfl hl.1 rfl (lv_room (Nat.le_of_ble_eq_true rfl)) dX5_play_37 ⟨Nat.le_of_ble_eq_true rfl, Nat.le_of_ble_eq_true rfl⟩) hS (fun q _ h => hFc q h) hFc (fun r_26 u t H1 locs ht hvm hw hB hz1 hk1 hS => ?_)
  obtain ⟨hP1, hK1, hD1⟩ := hB
  rw [ht] at hP1
  have hK1 := va_K.moved hvm.symm hK1
  obtain ⟨hP, hD⟩ := va_join (wr := [(h0, .inr (10, [.ref fq, .ref sq, .ref gq, .ref nq, .ref dq, .ref pq, .int pl, .int vx_18, .int vx_19])), (nq, .inr (8, [.int vx_20, .ref tq, .ref zq, .ref wq])), (fq, .inr (4, [.int mc_fq, .ref tE, .int 0])), (sq, .inr (4, [.int mc_sq, .ref tE, .int 0])), (gq, .inr (4, [.int mc_gq, .ref tE, .int 0]))]) (w1 := []) hP hD [] [0, 1, 2, 3, 4] rfl rfl (by decide) (by decide) hk1 hFc hP1 hD1
  generalize H1 = H at hP hS ⊢
  have hP : va_P (dC, dI) vwCl [(h0, .inr (10, [.ref fq, .ref sq, .ref gq, .ref nq, .ref dq, .ref pq, .int pl, .int vx_18, .int vx_19])), (nq, .inr (8, [.int vx_20, .ref tq, .ref zq, .ref wq])), (fq, .inr (4, [.int mc_fq, .ref tE, .int 0])), (sq, .inr (4, [.int mc_sq, .ref tE, .int 0])), (gq, .inr (4, [.int mc_gq, .ref tE, .int 0]))] H := hP
  have hD : va_D A [(h0, .inr (10, [.ref fq, .ref sq, .ref gq, .ref nq, .ref dq, .ref pq, .int pl, .int vx_18, .int vx_19])), (nq, .inr (8, [.int vx_20, .ref tq, .ref zq, .ref wq])), (fq, .inr (4, [.int mc_fq, .ref tE, .int 0])), (sq, .inr (4, [.int mc_sq, .ref tE, .int 0])), (gq, .inr (4, [.int mc_gq, .ref tE, .int 0]))] := hD
  refine W.widen (k := 0) (n := 0) (by omega) (by omega) ?_
  have hPc := hP.sub (ws' := [(h0, .inr (10, [.ref fq, .ref sq, .ref gq, .ref nq, .ref dq, .ref pq, .int pl, .int vx_18, .int vx_19])), (fq, .inr (4, [.int mc_fq, .ref tE, .int 0])), (sq, .inr (4, [.int mc_sq, .ref tE, .int 0])), (gq, .inr (4, [.int mc_gq, .ref tE, .int 0])), (nq, .inr (8, [.int vx_20, .ref tq, .ref zq, .ref wq]))]) [0, 2, 3, 4, 1] rfl
  have hDc := hD.sub (ws' := [(h0, .inr (10, [.ref fq, .ref sq, .ref gq, .ref nq, .ref dq, .ref pq, .int pl, .int vx_18, .int vx_19])), (fq, .inr (4, [.int mc_fq, .ref tE, .int 0])), (sq, .inr (4, [.int mc_sq, .ref tE, .int 0])), (gq, .inr (4, [.int mc_gq, .ref tE, .int 0])), (nq, .inr (8, [.int vx_20, .ref tq, .ref zq, .ref wq]))]) [0, 2, 3, 4, 1] (by decide) rfl
  have hKc := hK.sub (tys' := []) [] rfl
  have hFc := va_free (wc := [(h0, .inr (10, [.ref fq, .ref sq, .ref gq, .ref nq, .ref dq, .ref pq, .int pl, .int vx_18, .int vx_19])), (fq, .inr (4, [.int mc_fq, .ref tE, .int 0])), (sq, .inr (4, [.int mc_sq, .ref tE, .int 0])), (gq, .inr (4, [.int mc_gq, .ref tE, .int 0])), (nq, .inr (8, [.int vx_20, .ref tq, .ref zq, .ref wq]))]) hD hS hA [0, 2, 3, 4, 1] rfl
  refine va_calli (va_runV (As := [.int r_26]) (rest := [.int 0]) ⟨hx, hb, hml, hown, hts⟩ (c_toll l hl9 dC dI tE h0 fq sq gq nq dq pq pl vx_18 vx_19 mc_fq mc_sq mc_gq tq zq wq vx_20 r_26 _ ) (cwV 1 hts (goodIn_app (goodIn_r _ [31, 32, 33, 5] (by rfl) (by decide +kernel)) gg_c_play_4_c_toll) rfl rfl rfl (by decide +kernel) ⟨Nat.le_of_ble_eq_true rfl, Nat.le_of_ble_eq_true rfl⟩) ⟨Pre0.blind, va_recv hKc hPc (ci := 10) (q0 := 0) rfl rfl, Pre0.give hPc hKc hDc hT hS hFc⟩ rfl rfl hl.1 rfl (lv_room (Nat.le_of_ble_eq_true rfl)) dX5_play_40 ⟨Nat.le_of_ble_eq_true rfl, Nat.le_of_ble_eq_true rfl⟩) hS (fun q _ h => hFc q h) hFc (fun r_27 u t H1 locs ht hvm hw hB hz1 hk1 hS => ?_)
  obtain ⟨vx_28, vx_29, vx_30, hP1, hK1, hD1⟩ := hB
  rw [ht] at hP1
  have hK1 := va_K.moved hvm.symm hK1
  obtain ⟨hP, hD⟩ := va_join (wr := []) (w1 := [(h0, .inr (10, [.ref fq, .ref sq, .ref gq, .ref nq, .ref dq, .ref pq, .int pl, .int vx_28, .int vx_29])), (nq, .inr (8, [.int vx_30, .ref tq, .ref zq, .ref wq])), (fq, .inr (4, [.int mc_fq, .ref tE, .int 0])), (sq, .inr (4, [.int mc_sq, .ref tE, .int 0])), (gq, .inr (4, [.int mc_gq, .ref tE, .int 0]))]) hP hD [0, 2, 3, 4, 1] [] rfl rfl (by decide) (by decide) hk1 hFc hP1 hD1
  generalize H1 = H at hP hS ⊢
  have hP : va_P (dC, dI) vwCl [(h0, .inr (10, [.ref fq, .ref sq, .ref gq, .ref nq, .ref dq, .ref pq, .int pl, .int vx_28, .int vx_29])), (nq, .inr (8, [.int vx_30, .ref tq, .ref zq, .ref wq])), (fq, .inr (4, [.int mc_fq, .ref tE, .int 0])), (sq, .inr (4, [.int mc_sq, .ref tE, .int 0])), (gq, .inr (4, [.int mc_gq, .ref tE, .int 0]))] H := hP
  have hD : va_D A [(h0, .inr (10, [.ref fq, .ref sq, .ref gq, .ref nq, .ref dq, .ref pq, .int pl, .int vx_28, .int vx_29])), (nq, .inr (8, [.int vx_30, .ref tq, .ref zq, .ref wq])), (fq, .inr (4, [.int mc_fq, .ref tE, .int 0])), (sq, .inr (4, [.int mc_sq, .ref tE, .int 0])), (gq, .inr (4, [.int mc_gq, .ref tE, .int 0]))] := hD
  refine W.widen (k := 0) (n := 0) (by omega) (by omega) ?_
  obtain rfl : r_27 = 0 := hw
  refine lv_iadd hx hb dX5_play_43 ?_
  refine lv_topi (fun x_31 e_32 => ?_)
  obtain rfl : x_31 = 0 := e_32.trans (by decide)
  refine lv_istore_n (lv' := [(3, .int 0), (4, .int 10), (2, .int 10000), (0, .ref h0), (1, .int p0)]) hx hb dX5_play_44 rfl hl (by decide) rfl (fun ls hl => ?_)
  refine lv_iload hx hb dX5_play_45 (lv_at hl 1 rfl) ?_
  refine lv_bipush (v := 10) hx hb dX5_play_47 (by decide) ?_
  refine lv_idiv hx hb dX5_play_49 (by decide) ?_
  refine lv_topi (fun x_33 e_34 => ?_)
  obtain rfl : x_33 = 1 := e_34.trans (by decide)
  refine lv_istore (lv' := [(4, .int 1), (3, .int 0), (2, .int 10000), (0, .ref h0), (1, .int p0)]) hx hb dX5_play_50 hl (by decide) rfl (fun ls hl => ?_)
  refine lv_goto (tgt := 27) hx hb dX5_play_52 (by decide) ?_
  refine lv_iload hx hb dX5_play_27 (lv_at hl 0 rfl) ?_
  refine lv_if_le (tgt := 55) hx hb dX5_play_29 (by decide) (fun c_35 => absurd c_35 (by decide)) (fun _ => ?_)
  refine lv_iload_n hx hb dX5_play_32 rfl (lv_at hl 1 rfl) ?_
  refine lv_aload_n hx hb dX5_play_33 rfl (lv_at hl 3 rfl) ?_
  refine lv_iload_n hx hb dX5_play_34 rfl (lv_at hl 4 rfl) ?_
  refine lv_iload hx hb dX5_play_35 (lv_at hl 0 rfl) ?_
  have hPc := hP.sub (ws' := []) [] rfl
  have hDc := hD.sub (ws' := []) [] (by decide) rfl
  have hKc := hK.sub (tys' := []) [] rfl
  have hFc := va_free (wc := []) hD hS hA [] rfl
  refine va_calli (va_runS (As := [.int p0, .int 1]) (rest := [.ref h0, .int 0]) ⟨hx, hb, hml, hown, hts⟩ (c_toneAt l hl9 dC dI tE p0 1 _ (by first | assumption | decide | omega) (by first | assumption | decide | omega)) (va_cwS 2 hts (goodIn_app (goodIn_r _ [7, 8, 5] (by rfl) (by decide +kernel)) gg_c_play_4_c_toneAt) rfl rfl rfl (by decide +kernel) ⟨Nat.le_of_ble_eq_true rfl, Nat.le_of_ble_eq_true rfl⟩) ⟨Pre0.blind, Pre0.give hPc hKc hDc hT hS hFc⟩ rfl rfl hl.1 rfl (lv_room (Nat.le_of_ble_eq_true rfl)) dX5_play_37 ⟨Nat.le_of_ble_eq_true rfl, Nat.le_of_ble_eq_true rfl⟩) hS (fun q _ h => hFc q h) hFc (fun r_36 u t H1 locs ht hvm hw hB hz1 hk1 hS => ?_)
  obtain ⟨hP1, hK1, hD1⟩ := hB
  rw [ht] at hP1
  have hK1 := va_K.moved hvm.symm hK1
  obtain ⟨hP, hD⟩ := va_join (wr := [(h0, .inr (10, [.ref fq, .ref sq, .ref gq, .ref nq, .ref dq, .ref pq, .int pl, .int vx_28, .int vx_29])), (nq, .inr (8, [.int vx_30, .ref tq, .ref zq, .ref wq])), (fq, .inr (4, [.int mc_fq, .ref tE, .int 0])), (sq, .inr (4, [.int mc_sq, .ref tE, .int 0])), (gq, .inr (4, [.int mc_gq, .ref tE, .int 0]))]) (w1 := []) hP hD [] [0, 1, 2, 3, 4] rfl rfl (by decide) (by decide) hk1 hFc hP1 hD1
  generalize H1 = H at hP hS ⊢
  have hP : va_P (dC, dI) vwCl [(h0, .inr (10, [.ref fq, .ref sq, .ref gq, .ref nq, .ref dq, .ref pq, .int pl, .int vx_28, .int vx_29])), (nq, .inr (8, [.int vx_30, .ref tq, .ref zq, .ref wq])), (fq, .inr (4, [.int mc_fq, .ref tE, .int 0])), (sq, .inr (4, [.int mc_sq, .ref tE, .int 0])), (gq, .inr (4, [.int mc_gq, .ref tE, .int 0]))] H := hP
  have hD : va_D A [(h0, .inr (10, [.ref fq, .ref sq, .ref gq, .ref nq, .ref dq, .ref pq, .int pl, .int vx_28, .int vx_29])), (nq, .inr (8, [.int vx_30, .ref tq, .ref zq, .ref wq])), (fq, .inr (4, [.int mc_fq, .ref tE, .int 0])), (sq, .inr (4, [.int mc_sq, .ref tE, .int 0])), (gq, .inr (4, [.int mc_gq, .ref tE, .int 0]))] := hD
  refine W.widen (k := 0) (n := 0) (by omega) (by omega) ?_
  have hPc := hP.sub (ws' := [(h0, .inr (10, [.ref fq, .ref sq, .ref gq, .ref nq, .ref dq, .ref pq, .int pl, .int vx_28, .int vx_29])), (fq, .inr (4, [.int mc_fq, .ref tE, .int 0])), (sq, .inr (4, [.int mc_sq, .ref tE, .int 0])), (gq, .inr (4, [.int mc_gq, .ref tE, .int 0])), (nq, .inr (8, [.int vx_30, .ref tq, .ref zq, .ref wq]))]) [0, 2, 3, 4, 1] rfl
  have hDc := hD.sub (ws' := [(h0, .inr (10, [.ref fq, .ref sq, .ref gq, .ref nq, .ref dq, .ref pq, .int pl, .int vx_28, .int vx_29])), (fq, .inr (4, [.int mc_fq, .ref tE, .int 0])), (sq, .inr (4, [.int mc_sq, .ref tE, .int 0])), (gq, .inr (4, [.int mc_gq, .ref tE, .int 0])), (nq, .inr (8, [.int vx_30, .ref tq, .ref zq, .ref wq]))]) [0, 2, 3, 4, 1] (by decide) rfl
  have hKc := hK.sub (tys' := []) [] rfl
  have hFc := va_free (wc := [(h0, .inr (10, [.ref fq, .ref sq, .ref gq, .ref nq, .ref dq, .ref pq, .int pl, .int vx_28, .int vx_29])), (fq, .inr (4, [.int mc_fq, .ref tE, .int 0])), (sq, .inr (4, [.int mc_sq, .ref tE, .int 0])), (gq, .inr (4, [.int mc_gq, .ref tE, .int 0])), (nq, .inr (8, [.int vx_30, .ref tq, .ref zq, .ref wq]))]) hD hS hA [0, 2, 3, 4, 1] rfl
  refine va_calli (va_runV (As := [.int r_36]) (rest := [.int 0]) ⟨hx, hb, hml, hown, hts⟩ (c_toll l hl9 dC dI tE h0 fq sq gq nq dq pq pl vx_28 vx_29 mc_fq mc_sq mc_gq tq zq wq vx_30 r_36 _ ) (cwV 1 hts (goodIn_app (goodIn_r _ [31, 32, 33, 5] (by rfl) (by decide +kernel)) gg_c_play_4_c_toll) rfl rfl rfl (by decide +kernel) ⟨Nat.le_of_ble_eq_true rfl, Nat.le_of_ble_eq_true rfl⟩) ⟨Pre0.blind, va_recv hKc hPc (ci := 10) (q0 := 0) rfl rfl, Pre0.give hPc hKc hDc hT hS hFc⟩ rfl rfl hl.1 rfl (lv_room (Nat.le_of_ble_eq_true rfl)) dX5_play_40 ⟨Nat.le_of_ble_eq_true rfl, Nat.le_of_ble_eq_true rfl⟩) hS (fun q _ h => hFc q h) hFc (fun r_37 u t H1 locs ht hvm hw hB hz1 hk1 hS => ?_)
  obtain ⟨vx_38, vx_39, vx_40, hP1, hK1, hD1⟩ := hB
  rw [ht] at hP1
  have hK1 := va_K.moved hvm.symm hK1
  obtain ⟨hP, hD⟩ := va_join (wr := []) (w1 := [(h0, .inr (10, [.ref fq, .ref sq, .ref gq, .ref nq, .ref dq, .ref pq, .int pl, .int vx_38, .int vx_39])), (nq, .inr (8, [.int vx_40, .ref tq, .ref zq, .ref wq])), (fq, .inr (4, [.int mc_fq, .ref tE, .int 0])), (sq, .inr (4, [.int mc_sq, .ref tE, .int 0])), (gq, .inr (4, [.int mc_gq, .ref tE, .int 0]))]) hP hD [0, 2, 3, 4, 1] [] rfl rfl (by decide) (by decide) hk1 hFc hP1 hD1
  generalize H1 = H at hP hS ⊢
  have hP : va_P (dC, dI) vwCl [(h0, .inr (10, [.ref fq, .ref sq, .ref gq, .ref nq, .ref dq, .ref pq, .int pl, .int vx_38, .int vx_39])), (nq, .inr (8, [.int vx_40, .ref tq, .ref zq, .ref wq])), (fq, .inr (4, [.int mc_fq, .ref tE, .int 0])), (sq, .inr (4, [.int mc_sq, .ref tE, .int 0])), (gq, .inr (4, [.int mc_gq, .ref tE, .int 0]))] H := hP
  have hD : va_D A [(h0, .inr (10, [.ref fq, .ref sq, .ref gq, .ref nq, .ref dq, .ref pq, .int pl, .int vx_38, .int vx_39])), (nq, .inr (8, [.int vx_40, .ref tq, .ref zq, .ref wq])), (fq, .inr (4, [.int mc_fq, .ref tE, .int 0])), (sq, .inr (4, [.int mc_sq, .ref tE, .int 0])), (gq, .inr (4, [.int mc_gq, .ref tE, .int 0]))] := hD
  refine W.widen (k := 0) (n := 0) (by omega) (by omega) ?_
  obtain rfl : r_37 = 0 := hw
  refine lv_iadd hx hb dX5_play_43 ?_
  refine lv_topi (fun x_41 e_42 => ?_)
  obtain rfl : x_41 = 0 := e_42.trans (by decide)
  refine lv_istore_n (lv' := [(3, .int 0), (4, .int 1), (2, .int 10000), (0, .ref h0), (1, .int p0)]) hx hb dX5_play_44 rfl hl (by decide) rfl (fun ls hl => ?_)
  refine lv_iload hx hb dX5_play_45 (lv_at hl 1 rfl) ?_
  refine lv_bipush (v := 10) hx hb dX5_play_47 (by decide) ?_
  refine lv_idiv hx hb dX5_play_49 (by decide) ?_
  refine lv_topi (fun x_43 e_44 => ?_)
  obtain rfl : x_43 = 0 := e_44.trans (by decide)
  refine lv_istore (lv' := [(4, .int 0), (3, .int 0), (2, .int 10000), (0, .ref h0), (1, .int p0)]) hx hb dX5_play_50 hl (by decide) rfl (fun ls hl => ?_)
  refine lv_goto (tgt := 27) hx hb dX5_play_52 (by decide) ?_
  refine lv_iload hx hb dX5_play_27 (lv_at hl 0 rfl) ?_
  refine lv_if_le (tgt := 55) hx hb dX5_play_29 (by decide) (fun _ => ?_) (fun c_45 => absurd (by decide) c_45)
  refine lv_iload_n hx hb dX5_play_55 rfl (lv_at hl 1 rfl) ?_
  have hP9 := hP.sub (ws' := [(h0, .inr (10, [.ref fq, .ref sq, .ref gq, .ref nq, .ref dq, .ref pq, .int pl, .int vx_38, .int vx_39])), (nq, .inr (8, [.int vx_40, .ref tq, .ref zq, .ref wq])), (fq, .inr (4, [.int mc_fq, .ref tE, .int 0])), (sq, .inr (4, [.int mc_sq, .ref tE, .int 0])), (gq, .inr (4, [.int mc_gq, .ref tE, .int 0]))]) [0, 1, 2, 3, 4] rfl
  have hD9 := hD.sub (ws' := [(h0, .inr (10, [.ref fq, .ref sq, .ref gq, .ref nq, .ref dq, .ref pq, .int pl, .int vx_38, .int vx_39])), (nq, .inr (8, [.int vx_40, .ref tq, .ref zq, .ref wq])), (fq, .inr (4, [.int mc_fq, .ref tE, .int 0])), (sq, .inr (4, [.int mc_sq, .ref tE, .int 0])), (gq, .inr (4, [.int mc_gq, .ref tE, .int 0]))]) [0, 1, 2, 3, 4] (by decide) rfl
  have hK9 := hK.sub (tys' := []) [] rfl
  exact W.iret (v := 0) hx hb hr (fun t ht hW => ⟨⟨0, (), rfl, rfl, vx_38, vx_39, vx_40, by rw [ht]; exact hP9, va_K.moved hW.alike hK9, hD9⟩, hS.F ht⟩) hS.2.2 dX5_play_56
def v_c_play_5 : List Cond := .code yX5_play cX5_play 5 (some .int) :: ([Cond.code yX5_spanOf cX5_spanOf 4 (some .int), Cond.constant RX5 284 (444444), Cond.methodLink RX5 76 yX5_spanOf, Cond.static yX5_spanOf, Cond.initialized RX5, Cond.code yX5_toneAt cX5_toneAt 2 (some .int), Cond.methodLink RX5 219 yX5_toneAt, Cond.static yX5_toneAt, Cond.code yX5_toll cX5_toll 4 (some .int), Cond.fieldLink RX5 19 "HotelOfBells" "guests" "Ljava/util/ArrayList;", Cond.code yJx4a65c_size_8abf5 cJx4a65c_size_8abf5 1 (some .int), Cond.fieldLink RJx4a65c 48 "java/util/ArrayList" "size" "I", Cond.methodLink RX5 49 yJx4a65c_size_8abf5, Cond.instanceMethod yJx4a65c_size_8abf5, Cond.selects RJx4a65c yJx4a65c_size_8abf5 yJx4a65c_size_8abf5, Cond.initialized RJx4a65c, Cond.fieldLink RX5 200 "HotelOfBells" "bells" "I", Cond.fieldLink RX5 203 "HotelOfBells" "turnsByBells" "I", Cond.fieldLink RX5 25 "HotelOfBells" "now" "LHotelOfBells$Moment;", Cond.code yX5_strike cX5_strike 6 (some .int), Cond.fieldLink RX5 156 "HotelOfBells$Moment" "heard" "I", Cond.code yX5_heardWith cX5_heardWith 2 (some .int), Cond.constant RX5 247 (100000), Cond.methodLink RX5 252 yX5_heardWith, Cond.static yX5_heardWith, Cond.fieldLink RX5 10 "HotelOfBells" "floors" "Ljava/util/ArrayList;", Cond.fieldLink RX5 16 "HotelOfBells" "shafts" "Ljava/util/ArrayList;", Cond.methodLink RX5 237 yX5_strike, Cond.instanceMethod yX5_strike, Cond.selects RX5 yX5_strike yX5_strike, Cond.methodLink RX5 216 yX5_toll, Cond.instanceMethod yX5_toll, Cond.selects RX5 yX5_toll yX5_toll] ++ (wsX50 ++ (wsJx4a65c0 ++ (wsX30 ++ []))))
theorem u_c_play_5_X5 : ∀ w ∈ wsX50, w ∈ v_c_play_5 := fun _ h => List.mem_cons_of_mem _ (List.mem_append_right _ (List.mem_append_left _ h))
theorem u_c_play_5_Jx4a65c : ∀ w ∈ wsJx4a65c0, w ∈ v_c_play_5 := fun _ h => List.mem_cons_of_mem _ (List.mem_append_right _ (List.mem_append_right _ (List.mem_append_left _ h)))
theorem u_c_play_5_X3 : ∀ w ∈ wsX30, w ∈ v_c_play_5 := fun _ h => List.mem_cons_of_mem _ (List.mem_append_right _ (List.mem_append_right _ (List.mem_append_right _ (List.mem_append_left _ h))))
theorem gg_c_play_5_c_spanOf : GoodIn v_c_play_5 v_c_spanOf := goodIn_r _ [1, 2] (by rfl) (by decide +kernel)
theorem gg_c_play_5_c_toneAt : GoodIn v_c_play_5 v_c_toneAt := goodIn_r _ [6] (by rfl) (by decide +kernel)
theorem gg_c_play_5_c_toll : GoodIn v_c_play_5 v_c_toll := goodIn_r _ [9, 10, 11, 12, 13, 14, 15, 16, 17, 18, 19, 20, 21, 22, 23, 24, 25, 5, 26, 27, 28, 29, 30, 34, 35, 36, 37, 38, 39, 40, 41, 42, 43, 44, 45, 46, 47, 48, 49] (by rfl) (by decide +kernel)
set_option maxHeartbeats 4000000 in
set_option maxRecDepth 100000 in
theorem c_play_5 (l : Launch) (hl9 : l.stackTraces = false) (dC : Nat → ClassId) (dI : Nat → Nat → Nat) (tE : Nat) (h0 : Nat) (fq : Nat) (sq : Nat) (gq : Nat) (nq : Nat) (dq : Nat) (pq : Nat) (pl : Int32) (bl : Int32) (tb : Int32) (mc_fq : Int32) (mc_sq : Int32) (mc_gq : Int32) (tq : Nat) (zq : Nat) (wq : Nat) (hd : Int32) (p0 : Int32) (sz : Nat) (hd0 : dgt p0 = 5) : Met l yX5_play v_c_play_5 ({ frames := 3, cells := 0, slots := 0, locals := 69 }) (va_Pc [.ref h0, .int p0] (Pre0 dC dI tE sz [] [(h0, .inr (10, [.ref fq, .ref sq, .ref gq, .ref nq, .ref dq, .ref pq, .int pl, .int bl, .int tb])), (fq, .inr (4, [.int mc_fq, .ref tE, .int 0])), (sq, .inr (4, [.int mc_sq, .ref tE, .int 0])), (gq, .inr (4, [.int mc_gq, .ref tE, .int 0])), (nq, .inr (8, [.int hd, .ref tq, .ref zq, .ref wq]))])) (va_Qi (fun (r : Int32) (_ : Unit) => r = 0) (fun _ t => ∃ (vx0 : Int32), ∃ (vx1 : Int32), ∃ (vx2 : Int32), Pst dC dI [] (va_A [(h0, .inr (10, [.ref fq, .ref sq, .ref gq, .ref nq, .ref dq, .ref pq, .int pl, .int bl, .int tb])), (fq, .inr (4, [.int mc_fq, .ref tE, .int 0])), (sq, .inr (4, [.int mc_sq, .ref tE, .int 0])), (gq, .inr (4, [.int mc_gq, .ref tE, .int 0])), (nq, .inr (8, [.int hd, .ref tq, .ref zq, .ref wq]))] sz) [(h0, .inr (10, [.ref fq, .ref sq, .ref gq, .ref nq, .ref dq, .ref pq, .int pl, .int vx0, .int vx1])), (nq, .inr (8, [.int vx2, .ref tq, .ref zq, .ref wq])), (fq, .inr (4, [.int mc_fq, .ref tE, .int 0])), (sq, .inr (4, [.int mc_sq, .ref tE, .int 0])), (gq, .inr (4, [.int mc_gq, .ref tE, .int 0]))] t) (va_A [(h0, .inr (10, [.ref fq, .ref sq, .ref gq, .ref nq, .ref dq, .ref pq, .int pl, .int bl, .int tb])), (fq, .inr (4, [.int mc_fq, .ref tE, .int 0])), (sq, .inr (4, [.int mc_sq, .ref tE, .int 0])), (gq, .inr (4, [.int mc_gq, .ref tE, .int 0])), (nq, .inr (8, [.int hd, .ref tq, .ref zq, .ref wq]))] sz)) 0 0 (va_A [(h0, .inr (10, [.ref fq, .ref sq, .ref gq, .ref nq, .ref dq, .ref pq, .int pl, .int bl, .int tb])), (fq, .inr (4, [.int mc_fq, .ref tE, .int 0])), (sq, .inr (4, [.int mc_sq, .ref tE, .int 0])), (gq, .inr (4, [.int mc_gq, .ref tE, .int 0])), (nq, .inr (8, [.int hd, .ref tq, .ref zq, .ref wq]))] sz) := by
  refine Met.ofW (cc := cX5_play) (maxL := 5) (ret := (some .int)) (by decide) rfl ?_
  intro p e s m args below meth c s₁ B hml hv
  obtain ⟨rfl, hsz, hP, hK, hD0, hT⟩ := hv
  have hx := B.exec
  have hb := B.bytes
  have hr := B.returns
  have hts := atoms_spec (ws := v_c_play_5) B.pre
  have hown : s.vm.findClass RX5 = some m.cls := findClass_of_methodNamed B.named
  have hlocks := B.notSynchronized
  subst hsz
  have hD := hD0.self (sz := s.heap.size)
  generalize hAe : va_A [(h0, .inr (10, [.ref fq, .ref sq, .ref gq, .ref nq, .ref dq, .ref pq, .int pl, .int bl, .int tb])), (fq, .inr (4, [.int mc_fq, .ref tE, .int 0])), (sq, .inr (4, [.int mc_sq, .ref tE, .int 0])), (gq, .inr (4, [.int mc_gq, .ref tE, .int 0])), (nq, .inr (8, [.int hd, .ref tq, .ref zq, .ref wq]))] s.heap.size = A at hD hT ⊢
  have hA : ∀ q : Nat, s.heap.size ≤ q → A q := fun q h => by rw [← hAe]; exact Or.inr h
  have hS : va_S A s.heap s.heap [] := va_S.rf
  have hl := lv_entry ([.ref h0, .int p0]) (n := 5) (Nat.le_of_ble_eq_true rfl)
  rw [lg_entry_eq]
  generalize (lg_sl ([.ref h0, .int p0]) ++ List.replicate (5 - (lg_sl ([.ref h0, .int p0])).length) Slot.unset).toArray = ls at hl ⊢
  have hl : lv_has ls 5 [(0, .ref h0), (1, .int p0)] := hl
  refine lv_iload_n hx hb dX5_play_0 rfl (lv_at hl 1 rfl) ?_
  have hPc := hP.sub (ws' := []) [] rfl
  have hDc := hD.sub (ws' := []) [] (by decide) rfl
  have hKc := hK.sub (tys' := []) [] rfl
  have hFc := va_free (wc := []) hD hS hA [] rfl
  refine va_calli (va_runS (As := [.int p0]) (rest := []) ⟨hx, hb, hml, hown, hts⟩ (c_spanOf l hl9 dC dI tE p0 _ ) (va_cwS 1 hts (goodIn_app (goodIn_r _ [3, 4, 5] (by rfl) (by decide +kernel)) gg_c_play_5_c_spanOf) rfl rfl rfl (by decide +kernel) ⟨Nat.le_of_ble_eq_true rfl, Nat.le_of_ble_eq_true rfl⟩) ⟨Pre0.blind, Pre0.give hPc hKc hDc hT hS hFc⟩ rfl rfl hl.1 rfl (lv_room (Nat.le_of_ble_eq_true rfl)) dX5_play_1 ⟨Nat.le_of_ble_eq_true rfl, Nat.le_of_ble_eq_true rfl⟩) hS (fun q _ h => hFc q h) hFc (fun r_1 u t H1 locs ht hvm hw hB hz1 hk1 hS => ?_)
  obtain ⟨hP1, hK1, hD1⟩ := hB
  rw [ht] at hP1
  have hK1 := va_K.moved hvm.symm hK1
  obtain ⟨hP, hD⟩ := va_join (wr := [(h0, .inr (10, [.ref fq, .ref sq, .ref gq, .ref nq, .ref dq, .ref pq, .int pl, .int bl, .int tb])), (fq, .inr (4, [.int mc_fq, .ref tE, .int 0])), (sq, .inr (4, [.int mc_sq, .ref tE, .int 0])), (gq, .inr (4, [.int mc_gq, .ref tE, .int 0])), (nq, .inr (8, [.int hd, .ref tq, .ref zq, .ref wq]))]) (w1 := []) hP hD [] [0, 1, 2, 3, 4] rfl rfl (by decide) (by decide) hk1 hFc hP1 hD1
  generalize H1 = H at hP hS ⊢
  have hP : va_P (dC, dI) vwCl [(h0, .inr (10, [.ref fq, .ref sq, .ref gq, .ref nq, .ref dq, .ref pq, .int pl, .int bl, .int tb])), (fq, .inr (4, [.int mc_fq, .ref tE, .int 0])), (sq, .inr (4, [.int mc_sq, .ref tE, .int 0])), (gq, .inr (4, [.int mc_gq, .ref tE, .int 0])), (nq, .inr (8, [.int hd, .ref tq, .ref zq, .ref wq]))] H := hP
  have hD : va_D A [(h0, .inr (10, [.ref fq, .ref sq, .ref gq, .ref nq, .ref dq, .ref pq, .int pl, .int bl, .int tb])), (fq, .inr (4, [.int mc_fq, .ref tE, .int 0])), (sq, .inr (4, [.int mc_sq, .ref tE, .int 0])), (gq, .inr (4, [.int mc_gq, .ref tE, .int 0])), (nq, .inr (8, [.int hd, .ref tq, .ref zq, .ref wq]))] := hD
  refine W.widen (k := 0) (n := 0) (by omega) (by omega) ?_
  obtain rfl : r_1 = 100000 := by rw [hw, hd0]; decide
  refine lv_istore_n (lv' := [(2, .int 100000), (0, .ref h0), (1, .int p0)]) hx hb dX5_play_4 rfl hl (by decide) rfl (fun ls hl => ?_)
  refine lv_iload_n hx hb dX5_play_5 rfl (lv_at hl 0 rfl) ?_
  refine lv_if_ne (tgt := 19) hx hb dX5_play_6 (by decide) (fun _ => ?_) (fun c_2 => absurd c_2 (by decide))
  refine lv_iconst (v := 0) hx hb dX5_play_19 (by decide) ?_
  refine lv_istore_n (lv' := [(3, .int 0), (2, .int 100000), (0, .ref h0), (1, .int p0)]) hx hb dX5_play_20 rfl hl (by decide) rfl (fun ls hl => ?_)
  refine lv_iload_n hx hb dX5_play_21 rfl (lv_at hl 1 rfl) ?_
  refine lv_bipush (v := 10) hx hb dX5_play_22 (by decide) ?_
  refine lv_idiv hx hb dX5_play_24 (by decide) ?_
  refine lv_topi (fun x_3 e_4 => ?_)
  obtain rfl : x_3 = 10000 := e_4.trans (by decide)
  refine lv_istore (lv' := [(4, .int 10000), (3, .int 0), (2, .int 100000), (0, .ref h0), (1, .int p0)]) hx hb dX5_play_25 hl (by decide) rfl (fun ls hl => ?_)
  refine lv_iload hx hb dX5_play_27 (lv_at hl 0 rfl) ?_
  refine lv_if_le (tgt := 55) hx hb dX5_play_29 (by decide) (fun c_5 => absurd c_5 (by decide)) (fun _ => ?_)
  refine lv_iload_n hx hb dX5_play_32 rfl (lv_at hl 1 rfl) ?_
  refine lv_aload_n hx hb dX5_play_33 rfl (lv_at hl 3 rfl) ?_
  refine lv_iload_n hx hb dX5_play_34 rfl (lv_at hl 4 rfl) ?_
  refine lv_iload hx hb dX5_play_35 (lv_at hl 0 rfl) ?_
  have hPc := hP.sub (ws' := []) [] rfl
  have hDc := hD.sub (ws' := []) [] (by decide) rfl
  have hKc := hK.sub (tys' := []) [] rfl
  have hFc := va_free (wc := []) hD hS hA [] rfl
  refine va_calli (va_runS (As := [.int p0, .int 10000]) (rest := [.ref h0, .int 0]) ⟨hx, hb, hml, hown, hts⟩ (c_toneAt l hl9 dC dI tE p0 10000 _ (by first | assumption | decide | omega) (by first | assumption | decide | omega)) (va_cwS 2 hts (goodIn_app (goodIn_r _ [7, 8, 5] (by rfl) (by decide +kernel)) gg_c_play_5_c_toneAt) rfl rfl rfl (by decide +kernel) ⟨Nat.le_of_ble_eq_true rfl, Nat.le_of_ble_eq_true rfl⟩) ⟨Pre0.blind, Pre0.give hPc hKc hDc hT hS hFc⟩ rfl rfl hl.1 rfl (lv_room (Nat.le_of_ble_eq_true rfl)) dX5_play_37 ⟨Nat.le_of_ble_eq_true rfl, Nat.le_of_ble_eq_true rfl⟩) hS (fun q _ h => hFc q h) hFc (fun r_6 u t H1 locs ht hvm hw hB hz1 hk1 hS => ?_)
  obtain ⟨hP1, hK1, hD1⟩ := hB
  rw [ht] at hP1
  have hK1 := va_K.moved hvm.symm hK1
  obtain ⟨hP, hD⟩ := va_join (wr := [(h0, .inr (10, [.ref fq, .ref sq, .ref gq, .ref nq, .ref dq, .ref pq, .int pl, .int bl, .int tb])), (fq, .inr (4, [.int mc_fq, .ref tE, .int 0])), (sq, .inr (4, [.int mc_sq, .ref tE, .int 0])), (gq, .inr (4, [.int mc_gq, .ref tE, .int 0])), (nq, .inr (8, [.int hd, .ref tq, .ref zq, .ref wq]))]) (w1 := []) hP hD [] [0, 1, 2, 3, 4] rfl rfl (by decide) (by decide) hk1 hFc hP1 hD1
  generalize H1 = H at hP hS ⊢
  have hP : va_P (dC, dI) vwCl [(h0, .inr (10, [.ref fq, .ref sq, .ref gq, .ref nq, .ref dq, .ref pq, .int pl, .int bl, .int tb])), (fq, .inr (4, [.int mc_fq, .ref tE, .int 0])), (sq, .inr (4, [.int mc_sq, .ref tE, .int 0])), (gq, .inr (4, [.int mc_gq, .ref tE, .int 0])), (nq, .inr (8, [.int hd, .ref tq, .ref zq, .ref wq]))] H := hP
  have hD : va_D A [(h0, .inr (10, [.ref fq, .ref sq, .ref gq, .ref nq, .ref dq, .ref pq, .int pl, .int bl, .int tb])), (fq, .inr (4, [.int mc_fq, .ref tE, .int 0])), (sq, .inr (4, [.int mc_sq, .ref tE, .int 0])), (gq, .inr (4, [.int mc_gq, .ref tE, .int 0])), (nq, .inr (8, [.int hd, .ref tq, .ref zq, .ref wq]))] := hD
  refine W.widen (k := 0) (n := 0) (by omega) (by omega) ?_
  have hPc := hP.sub (ws' := [(h0, .inr (10, [.ref fq, .ref sq, .ref gq, .ref nq, .ref dq, .ref pq, .int pl, .int bl, .int tb])), (fq, .inr (4, [.int mc_fq, .ref tE, .int 0])), (sq, .inr (4, [.int mc_sq, .ref tE, .int 0])), (gq, .inr (4, [.int mc_gq, .ref tE, .int 0])), (nq, .inr (8, [.int hd, .ref tq, .ref zq, .ref wq]))]) [0, 1, 2, 3, 4] rfl
  have hDc := hD.sub (ws' := [(h0, .inr (10, [.ref fq, .ref sq, .ref gq, .ref nq, .ref dq, .ref pq, .int pl, .int bl, .int tb])), (fq, .inr (4, [.int mc_fq, .ref tE, .int 0])), (sq, .inr (4, [.int mc_sq, .ref tE, .int 0])), (gq, .inr (4, [.int mc_gq, .ref tE, .int 0])), (nq, .inr (8, [.int hd, .ref tq, .ref zq, .ref wq]))]) [0, 1, 2, 3, 4] (by decide) rfl
  have hKc := hK.sub (tys' := []) [] rfl
  have hFc := va_free (wc := [(h0, .inr (10, [.ref fq, .ref sq, .ref gq, .ref nq, .ref dq, .ref pq, .int pl, .int bl, .int tb])), (fq, .inr (4, [.int mc_fq, .ref tE, .int 0])), (sq, .inr (4, [.int mc_sq, .ref tE, .int 0])), (gq, .inr (4, [.int mc_gq, .ref tE, .int 0])), (nq, .inr (8, [.int hd, .ref tq, .ref zq, .ref wq]))]) hD hS hA [0, 1, 2, 3, 4] rfl
  refine va_calli (va_runV (As := [.int r_6]) (rest := [.int 0]) ⟨hx, hb, hml, hown, hts⟩ (c_toll l hl9 dC dI tE h0 fq sq gq nq dq pq pl bl tb mc_fq mc_sq mc_gq tq zq wq hd r_6 _ ) (cwV 1 hts (goodIn_app (goodIn_r _ [31, 32, 33, 5] (by rfl) (by decide +kernel)) gg_c_play_5_c_toll) rfl rfl rfl (by decide +kernel) ⟨Nat.le_of_ble_eq_true rfl, Nat.le_of_ble_eq_true rfl⟩) ⟨Pre0.blind, va_recv hKc hPc (ci := 10) (q0 := 0) rfl rfl, Pre0.give hPc hKc hDc hT hS hFc⟩ rfl rfl hl.1 rfl (lv_room (Nat.le_of_ble_eq_true rfl)) dX5_play_40 ⟨Nat.le_of_ble_eq_true rfl, Nat.le_of_ble_eq_true rfl⟩) hS (fun q _ h => hFc q h) hFc (fun r_7 u t H1 locs ht hvm hw hB hz1 hk1 hS => ?_)
  obtain ⟨vx_8, vx_9, vx_10, hP1, hK1, hD1⟩ := hB
  rw [ht] at hP1
  have hK1 := va_K.moved hvm.symm hK1
  obtain ⟨hP, hD⟩ := va_join (wr := []) (w1 := [(h0, .inr (10, [.ref fq, .ref sq, .ref gq, .ref nq, .ref dq, .ref pq, .int pl, .int vx_8, .int vx_9])), (nq, .inr (8, [.int vx_10, .ref tq, .ref zq, .ref wq])), (fq, .inr (4, [.int mc_fq, .ref tE, .int 0])), (sq, .inr (4, [.int mc_sq, .ref tE, .int 0])), (gq, .inr (4, [.int mc_gq, .ref tE, .int 0]))]) hP hD [0, 1, 2, 3, 4] [] rfl rfl (by decide) (by decide) hk1 hFc hP1 hD1
  generalize H1 = H at hP hS ⊢
  have hP : va_P (dC, dI) vwCl [(h0, .inr (10, [.ref fq, .ref sq, .ref gq, .ref nq, .ref dq, .ref pq, .int pl, .int vx_8, .int vx_9])), (nq, .inr (8, [.int vx_10, .ref tq, .ref zq, .ref wq])), (fq, .inr (4, [.int mc_fq, .ref tE, .int 0])), (sq, .inr (4, [.int mc_sq, .ref tE, .int 0])), (gq, .inr (4, [.int mc_gq, .ref tE, .int 0]))] H := hP
  have hD : va_D A [(h0, .inr (10, [.ref fq, .ref sq, .ref gq, .ref nq, .ref dq, .ref pq, .int pl, .int vx_8, .int vx_9])), (nq, .inr (8, [.int vx_10, .ref tq, .ref zq, .ref wq])), (fq, .inr (4, [.int mc_fq, .ref tE, .int 0])), (sq, .inr (4, [.int mc_sq, .ref tE, .int 0])), (gq, .inr (4, [.int mc_gq, .ref tE, .int 0]))] := hD
  refine W.widen (k := 0) (n := 0) (by omega) (by omega) ?_
  obtain rfl : r_7 = 0 := hw
  refine lv_iadd hx hb dX5_play_43 ?_
  refine lv_topi (fun x_11 e_12 => ?_)
  obtain rfl : x_11 = 0 := e_12.trans (by decide)
  refine lv_istore_n (lv' := [(3, .int 0), (4, .int 10000), (2, .int 100000), (0, .ref h0), (1, .int p0)]) hx hb dX5_play_44 rfl hl (by decide) rfl (fun ls hl => ?_)
  refine lv_iload hx hb dX5_play_45 (lv_at hl 1 rfl) ?_
  refine lv_bipush (v := 10) hx hb dX5_play_47 (by decide) ?_
  refine lv_idiv hx hb dX5_play_49 (by decide) ?_
  refine lv_topi (fun x_13 e_14 => ?_)
  obtain rfl : x_13 = 1000 := e_14.trans (by decide)
  refine lv_istore (lv' := [(4, .int 1000), (3, .int 0), (2, .int 100000), (0, .ref h0), (1, .int p0)]) hx hb dX5_play_50 hl (by decide) rfl (fun ls hl => ?_)
  refine lv_goto (tgt := 27) hx hb dX5_play_52 (by decide) ?_
  refine lv_iload hx hb dX5_play_27 (lv_at hl 0 rfl) ?_
  refine lv_if_le (tgt := 55) hx hb dX5_play_29 (by decide) (fun c_15 => absurd c_15 (by decide)) (fun _ => ?_)
  refine lv_iload_n hx hb dX5_play_32 rfl (lv_at hl 1 rfl) ?_
  refine lv_aload_n hx hb dX5_play_33 rfl (lv_at hl 3 rfl) ?_
  refine lv_iload_n hx hb dX5_play_34 rfl (lv_at hl 4 rfl) ?_
  refine lv_iload hx hb dX5_play_35 (lv_at hl 0 rfl) ?_
  have hPc := hP.sub (ws' := []) [] rfl
  have hDc := hD.sub (ws' := []) [] (by decide) rfl
  have hKc := hK.sub (tys' := []) [] rfl
  have hFc := va_free (wc := []) hD hS hA [] rfl
  refine va_calli (va_runS (As := [.int p0, .int 1000]) (rest := [.ref h0, .int 0]) ⟨hx, hb, hml, hown, hts⟩ (c_toneAt l hl9 dC dI tE p0 1000 _ (by first | assumption | decide | omega) (by first | assumption | decide | omega)) (va_cwS 2 hts (goodIn_app (goodIn_r _ [7, 8, 5] (by rfl) (by decide +kernel)) gg_c_play_5_c_toneAt) rfl rfl rfl (by decide +kernel) ⟨Nat.le_of_ble_eq_true rfl, Nat.le_of_ble_eq_true rfl⟩) ⟨Pre0.blind, Pre0.give hPc hKc hDc hT hS hFc⟩ rfl rfl hl.1 rfl (lv_room (Nat.le_of_ble_eq_true rfl)) dX5_play_37 ⟨Nat.le_of_ble_eq_true rfl, Nat.le_of_ble_eq_true rfl⟩) hS (fun q _ h => hFc q h) hFc (fun r_16 u t H1 locs ht hvm hw hB hz1 hk1 hS => ?_)
  obtain ⟨hP1, hK1, hD1⟩ := hB
  rw [ht] at hP1
  have hK1 := va_K.moved hvm.symm hK1
  obtain ⟨hP, hD⟩ := va_join (wr := [(h0, .inr (10, [.ref fq, .ref sq, .ref gq, .ref nq, .ref dq, .ref pq, .int pl, .int vx_8, .int vx_9])), (nq, .inr (8, [.int vx_10, .ref tq, .ref zq, .ref wq])), (fq, .inr (4, [.int mc_fq, .ref tE, .int 0])), (sq, .inr (4, [.int mc_sq, .ref tE, .int 0])), (gq, .inr (4, [.int mc_gq, .ref tE, .int 0]))]) (w1 := []) hP hD [] [0, 1, 2, 3, 4] rfl rfl (by decide) (by decide) hk1 hFc hP1 hD1
  generalize H1 = H at hP hS ⊢
  have hP : va_P (dC, dI) vwCl [(h0, .inr (10, [.ref fq, .ref sq, .ref gq, .ref nq, .ref dq, .ref pq, .int pl, .int vx_8, .int vx_9])), (nq, .inr (8, [.int vx_10, .ref tq, .ref zq, .ref wq])), (fq, .inr (4, [.int mc_fq, .ref tE, .int 0])), (sq, .inr (4, [.int mc_sq, .ref tE, .int 0])), (gq, .inr (4, [.int mc_gq, .ref tE, .int 0]))] H := hP
  have hD : va_D A [(h0, .inr (10, [.ref fq, .ref sq, .ref gq, .ref nq, .ref dq, .ref pq, .int pl, .int vx_8, .int vx_9])), (nq, .inr (8, [.int vx_10, .ref tq, .ref zq, .ref wq])), (fq, .inr (4, [.int mc_fq, .ref tE, .int 0])), (sq, .inr (4, [.int mc_sq, .ref tE, .int 0])), (gq, .inr (4, [.int mc_gq, .ref tE, .int 0]))] := hD
  refine W.widen (k := 0) (n := 0) (by omega) (by omega) ?_
  have hPc := hP.sub (ws' := [(h0, .inr (10, [.ref fq, .ref sq, .ref gq, .ref nq, .ref dq, .ref pq, .int pl, .int vx_8, .int vx_9])), (fq, .inr (4, [.int mc_fq, .ref tE, .int 0])), (sq, .inr (4, [.int mc_sq, .ref tE, .int 0])), (gq, .inr (4, [.int mc_gq, .ref tE, .int 0])), (nq, .inr (8, [.int vx_10, .ref tq, .ref zq, .ref wq]))]) [0, 2, 3, 4, 1] rfl
  have hDc := hD.sub (ws' := [(h0, .inr (10, [.ref fq, .ref sq, .ref gq, .ref nq, .ref dq, .ref pq, .int pl, .int vx_8, .int vx_9])), (fq, .inr (4, [.int mc_fq, .ref tE, .int 0])), (sq, .inr (4, [.int mc_sq, .ref tE, .int 0])), (gq, .inr (4, [.int mc_gq, .ref tE, .int 0])), (nq, .inr (8, [.int vx_10, .ref tq, .ref zq, .ref wq]))]) [0, 2, 3, 4, 1] (by decide) rfl
  have hKc := hK.sub (tys' := []) [] rfl
  have hFc := va_free (wc := [(h0, .inr (10, [.ref fq, .ref sq, .ref gq, .ref nq, .ref dq, .ref pq, .int pl, .int vx_8, .int vx_9])), (fq, .inr (4, [.int mc_fq, .ref tE, .int 0])), (sq, .inr (4, [.int mc_sq, .ref tE, .int 0])), (gq, .inr (4, [.int mc_gq, .ref tE, .int 0])), (nq, .inr (8, [.int vx_10, .ref tq, .ref zq, .ref wq]))]) hD hS hA [0, 2, 3, 4, 1] rfl
  refine va_calli (va_runV (As := [.int r_16]) (rest := [.int 0]) ⟨hx, hb, hml, hown, hts⟩ (c_toll l hl9 dC dI tE h0 fq sq gq nq dq pq pl vx_8 vx_9 mc_fq mc_sq mc_gq tq zq wq vx_10 r_16 _ ) (cwV 1 hts (goodIn_app (goodIn_r _ [31, 32, 33, 5] (by rfl) (by decide +kernel)) gg_c_play_5_c_toll) rfl rfl rfl (by decide +kernel) ⟨Nat.le_of_ble_eq_true rfl, Nat.le_of_ble_eq_true rfl⟩) ⟨Pre0.blind, va_recv hKc hPc (ci := 10) (q0 := 0) rfl rfl, Pre0.give hPc hKc hDc hT hS hFc⟩ rfl rfl hl.1 rfl (lv_room (Nat.le_of_ble_eq_true rfl)) dX5_play_40 ⟨Nat.le_of_ble_eq_true rfl, Nat.le_of_ble_eq_true rfl⟩) hS (fun q _ h => hFc q h) hFc (fun r_17 u t H1 locs ht hvm hw hB hz1 hk1 hS => ?_)
  obtain ⟨vx_18, vx_19, vx_20, hP1, hK1, hD1⟩ := hB
  rw [ht] at hP1
  have hK1 := va_K.moved hvm.symm hK1
  obtain ⟨hP, hD⟩ := va_join (wr := []) (w1 := [(h0, .inr (10, [.ref fq, .ref sq, .ref gq, .ref nq, .ref dq, .ref pq, .int pl, .int vx_18, .int vx_19])), (nq, .inr (8, [.int vx_20, .ref tq, .ref zq, .ref wq])), (fq, .inr (4, [.int mc_fq, .ref tE, .int 0])), (sq, .inr (4, [.int mc_sq, .ref tE, .int 0])), (gq, .inr (4, [.int mc_gq, .ref tE, .int 0]))]) hP hD [0, 2, 3, 4, 1] [] rfl rfl (by decide) (by decide) hk1 hFc hP1 hD1
  generalize H1 = H at hP hS ⊢
  have hP : va_P (dC, dI) vwCl [(h0, .inr (10, [.ref fq, .ref sq, .ref gq, .ref nq, .ref dq, .ref pq, .int pl, .int vx_18, .int vx_19])), (nq, .inr (8, [.int vx_20, .ref tq, .ref zq, .ref wq])), (fq, .inr (4, [.int mc_fq, .ref tE, .int 0])), (sq, .inr (4, [.int mc_sq, .ref tE, .int 0])), (gq, .inr (4, [.int mc_gq, .ref tE, .int 0]))] H := hP
  have hD : va_D A [(h0, .inr (10, [.ref fq, .ref sq, .ref gq, .ref nq, .ref dq, .ref pq, .int pl, .int vx_18, .int vx_19])), (nq, .inr (8, [.int vx_20, .ref tq, .ref zq, .ref wq])), (fq, .inr (4, [.int mc_fq, .ref tE, .int 0])), (sq, .inr (4, [.int mc_sq, .ref tE, .int 0])), (gq, .inr (4, [.int mc_gq, .ref tE, .int 0]))] := hD
  refine W.widen (k := 0) (n := 0) (by omega) (by omega) ?_
  obtain rfl : r_17 = 0 := hw
  refine lv_iadd hx hb dX5_play_43 ?_
  refine lv_topi (fun x_21 e_22 => ?_)
  obtain rfl : x_21 = 0 := e_22.trans (by decide)
  refine lv_istore_n (lv' := [(3, .int 0), (4, .int 1000), (2, .int 100000), (0, .ref h0), (1, .int p0)]) hx hb dX5_play_44 rfl hl (by decide) rfl (fun ls hl => ?_)
  refine lv_iload hx hb dX5_play_45 (lv_at hl 1 rfl) ?_
  refine lv_bipush (v := 10) hx hb dX5_play_47 (by decide) ?_
  refine lv_idiv hx hb dX5_play_49 (by decide) ?_
  refine lv_topi (fun x_23 e_24 => ?_)
  obtain rfl : x_23 = 100 := e_24.trans (by decide)
  refine lv_istore (lv' := [(4, .int 100), (3, .int 0), (2, .int 100000), (0, .ref h0), (1, .int p0)]) hx hb dX5_play_50 hl (by decide) rfl (fun ls hl => ?_)
  refine lv_goto (tgt := 27) hx hb dX5_play_52 (by decide) ?_
  refine lv_iload hx hb dX5_play_27 (lv_at hl 0 rfl) ?_
  refine lv_if_le (tgt := 55) hx hb dX5_play_29 (by decide) (fun c_25 => absurd c_25 (by decide)) (fun _ => ?_)
  refine lv_iload_n hx hb dX5_play_32 rfl (lv_at hl 1 rfl) ?_
  refine lv_aload_n hx hb dX5_play_33 rfl (lv_at hl 3 rfl) ?_
  refine lv_iload_n hx hb dX5_play_34 rfl (lv_at hl 4 rfl) ?_
  refine lv_iload hx hb dX5_play_35 (lv_at hl 0 rfl) ?_
  have hPc := hP.sub (ws' := []) [] rfl
  have hDc := hD.sub (ws' := []) [] (by decide) rfl
  have hKc := hK.sub (tys' := []) [] rfl
  have hFc := va_free (wc := []) hD hS hA [] rfl
  refine va_calli (va_runS (As := [.int p0, .int 100]) (rest := [.ref h0, .int 0]) ⟨hx, hb, hml, hown, hts⟩ (c_toneAt l hl9 dC dI tE p0 100 _ (by first | assumption | decide | omega) (by first | assumption | decide | omega)) (va_cwS 2 hts (goodIn_app (goodIn_r _ [7, 8, 5] (by rfl) (by decide +kernel)) gg_c_play_5_c_toneAt) rfl rfl rfl (by decide +kernel) ⟨Nat.le_of_ble_eq_true rfl, Nat.le_of_ble_eq_true rfl⟩) ⟨Pre0.blind, Pre0.give hPc hKc hDc hT hS hFc⟩ rfl rfl hl.1 rfl (lv_room (Nat.le_of_ble_eq_true rfl)) dX5_play_37 ⟨Nat.le_of_ble_eq_true rfl, Nat.le_of_ble_eq_true rfl⟩) hS (fun q _ h => hFc q h) hFc (fun r_26 u t H1 locs ht hvm hw hB hz1 hk1 hS => ?_)
  obtain ⟨hP1, hK1, hD1⟩ := hB
  rw [ht] at hP1
  have hK1 := va_K.moved hvm.symm hK1
  obtain ⟨hP, hD⟩ := va_join (wr := [(h0, .inr (10, [.ref fq, .ref sq, .ref gq, .ref nq, .ref dq, .ref pq, .int pl, .int vx_18, .int vx_19])), (nq, .inr (8, [.int vx_20, .ref tq, .ref zq, .ref wq])), (fq, .inr (4, [.int mc_fq, .ref tE, .int 0])), (sq, .inr (4, [.int mc_sq, .ref tE, .int 0])), (gq, .inr (4, [.int mc_gq, .ref tE, .int 0]))]) (w1 := []) hP hD [] [0, 1, 2, 3, 4] rfl rfl (by decide) (by decide) hk1 hFc hP1 hD1
  generalize H1 = H at hP hS ⊢
  have hP : va_P (dC, dI) vwCl [(h0, .inr (10, [.ref fq, .ref sq, .ref gq, .ref nq, .ref dq, .ref pq, .int pl, .int vx_18, .int vx_19])), (nq, .inr (8, [.int vx_20, .ref tq, .ref zq, .ref wq])), (fq, .inr (4, [.int mc_fq, .ref tE, .int 0])), (sq, .inr (4, [.int mc_sq, .ref tE, .int 0])), (gq, .inr (4, [.int mc_gq, .ref tE, .int 0]))] H := hP
  have hD : va_D A [(h0, .inr (10, [.ref fq, .ref sq, .ref gq, .ref nq, .ref dq, .ref pq, .int pl, .int vx_18, .int vx_19])), (nq, .inr (8, [.int vx_20, .ref tq, .ref zq, .ref wq])), (fq, .inr (4, [.int mc_fq, .ref tE, .int 0])), (sq, .inr (4, [.int mc_sq, .ref tE, .int 0])), (gq, .inr (4, [.int mc_gq, .ref tE, .int 0]))] := hD
  refine W.widen (k := 0) (n := 0) (by omega) (by omega) ?_
  have hPc := hP.sub (ws' := [(h0, .inr (10, [.ref fq, .ref sq, .ref gq, .ref nq, .ref dq, .ref pq, .int pl, .int vx_18, .int vx_19])), (fq, .inr (4, [.int mc_fq, .ref tE, .int 0])), (sq, .inr (4, [.int mc_sq, .ref tE, .int 0])), (gq, .inr (4, [.int mc_gq, .ref tE, .int 0])), (nq, .inr (8, [.int vx_20, .ref tq, .ref zq, .ref wq]))]) [0, 2, 3, 4, 1] rfl
  have hDc := hD.sub (ws' := [(h0, .inr (10, [.ref fq, .ref sq, .ref gq, .ref nq, .ref dq, .ref pq, .int pl, .int vx_18, .int vx_19])), (fq, .inr (4, [.int mc_fq, .ref tE, .int 0])), (sq, .inr (4, [.int mc_sq, .ref tE, .int 0])), (gq, .inr (4, [.int mc_gq, .ref tE, .int 0])), (nq, .inr (8, [.int vx_20, .ref tq, .ref zq, .ref wq]))]) [0, 2, 3, 4, 1] (by decide) rfl
  have hKc := hK.sub (tys' := []) [] rfl
  have hFc := va_free (wc := [(h0, .inr (10, [.ref fq, .ref sq, .ref gq, .ref nq, .ref dq, .ref pq, .int pl, .int vx_18, .int vx_19])), (fq, .inr (4, [.int mc_fq, .ref tE, .int 0])), (sq, .inr (4, [.int mc_sq, .ref tE, .int 0])), (gq, .inr (4, [.int mc_gq, .ref tE, .int 0])), (nq, .inr (8, [.int vx_20, .ref tq, .ref zq, .ref wq]))]) hD hS hA [0, 2, 3, 4, 1] rfl
  refine va_calli (va_runV (As := [.int r_26]) (rest := [.int 0]) ⟨hx, hb, hml, hown, hts⟩ (c_toll l hl9 dC dI tE h0 fq sq gq nq dq pq pl vx_18 vx_19 mc_fq mc_sq mc_gq tq zq wq vx_20 r_26 _ ) (cwV 1 hts (goodIn_app (goodIn_r _ [31, 32, 33, 5] (by rfl) (by decide +kernel)) gg_c_play_5_c_toll) rfl rfl rfl (by decide +kernel) ⟨Nat.le_of_ble_eq_true rfl, Nat.le_of_ble_eq_true rfl⟩) ⟨Pre0.blind, va_recv hKc hPc (ci := 10) (q0 := 0) rfl rfl, Pre0.give hPc hKc hDc hT hS hFc⟩ rfl rfl hl.1 rfl (lv_room (Nat.le_of_ble_eq_true rfl)) dX5_play_40 ⟨Nat.le_of_ble_eq_true rfl, Nat.le_of_ble_eq_true rfl⟩) hS (fun q _ h => hFc q h) hFc (fun r_27 u t H1 locs ht hvm hw hB hz1 hk1 hS => ?_)
  obtain ⟨vx_28, vx_29, vx_30, hP1, hK1, hD1⟩ := hB
  rw [ht] at hP1
  have hK1 := va_K.moved hvm.symm hK1
  obtain ⟨hP, hD⟩ := va_join (wr := []) (w1 := [(h0, .inr (10, [.ref fq, .ref sq, .ref gq, .ref nq, .ref dq, .ref pq, .int pl, .int vx_28, .int vx_29])), (nq, .inr (8, [.int vx_30, .ref tq, .ref zq, .ref wq])), (fq, .inr (4, [.int mc_fq, .ref tE, .int 0])), (sq, .inr (4, [.int mc_sq, .ref tE, .int 0])), (gq, .inr (4, [.int mc_gq, .ref tE, .int 0]))]) hP hD [0, 2, 3, 4, 1] [] rfl rfl (by decide) (by decide) hk1 hFc hP1 hD1
  generalize H1 = H at hP hS ⊢
  have hP : va_P (dC, dI) vwCl [(h0, .inr (10, [.ref fq, .ref sq, .ref gq, .ref nq, .ref dq, .ref pq, .int pl, .int vx_28, .int vx_29])), (nq, .inr (8, [.int vx_30, .ref tq, .ref zq, .ref wq])), (fq, .inr (4, [.int mc_fq, .ref tE, .int 0])), (sq, .inr (4, [.int mc_sq, .ref tE, .int 0])), (gq, .inr (4, [.int mc_gq, .ref tE, .int 0]))] H := hP
  have hD : va_D A [(h0, .inr (10, [.ref fq, .ref sq, .ref gq, .ref nq, .ref dq, .ref pq, .int pl, .int vx_28, .int vx_29])), (nq, .inr (8, [.int vx_30, .ref tq, .ref zq, .ref wq])), (fq, .inr (4, [.int mc_fq, .ref tE, .int 0])), (sq, .inr (4, [.int mc_sq, .ref tE, .int 0])), (gq, .inr (4, [.int mc_gq, .ref tE, .int 0]))] := hD
  refine W.widen (k := 0) (n := 0) (by omega) (by omega) ?_
  obtain rfl : r_27 = 0 := hw
  refine lv_iadd hx hb dX5_play_43 ?_
  refine lv_topi (fun x_31 e_32 => ?_)
  obtain rfl : x_31 = 0 := e_32.trans (by decide)
  refine lv_istore_n (lv' := [(3, .int 0), (4, .int 100), (2, .int 100000), (0, .ref h0), (1, .int p0)]) hx hb dX5_play_44 rfl hl (by decide) rfl (fun ls hl => ?_)
  refine lv_iload hx hb dX5_play_45 (lv_at hl 1 rfl) ?_
  refine lv_bipush (v := 10) hx hb dX5_play_47 (by decide) ?_
  refine lv_idiv hx hb dX5_play_49 (by decide) ?_
  refine lv_topi (fun x_33 e_34 => ?_)
  obtain rfl : x_33 = 10 := e_34.trans (by decide)
  refine lv_istore (lv' := [(4, .int 10), (3, .int 0), (2, .int 100000), (0, .ref h0), (1, .int p0)]) hx hb dX5_play_50 hl (by decide) rfl (fun ls hl => ?_)
  refine lv_goto (tgt := 27) hx hb dX5_play_52 (by decide) ?_
  refine lv_iload hx hb dX5_play_27 (lv_at hl 0 rfl) ?_
  refine lv_if_le (tgt := 55) hx hb dX5_play_29 (by decide) (fun c_35 => absurd c_35 (by decide)) (fun _ => ?_)
  refine lv_iload_n hx hb dX5_play_32 rfl (lv_at hl 1 rfl) ?_
  refine lv_aload_n hx hb dX5_play_33 rfl (lv_at hl 3 rfl) ?_
  refine lv_iload_n hx hb dX5_play_34 rfl (lv_at hl 4 rfl) ?_
  refine lv_iload hx hb dX5_play_35 (lv_at hl 0 rfl) ?_
  have hPc := hP.sub (ws' := []) [] rfl
  have hDc := hD.sub (ws' := []) [] (by decide) rfl
  have hKc := hK.sub (tys' := []) [] rfl
  have hFc := va_free (wc := []) hD hS hA [] rfl
  refine va_calli (va_runS (As := [.int p0, .int 10]) (rest := [.ref h0, .int 0]) ⟨hx, hb, hml, hown, hts⟩ (c_toneAt l hl9 dC dI tE p0 10 _ (by first | assumption | decide | omega) (by first | assumption | decide | omega)) (va_cwS 2 hts (goodIn_app (goodIn_r _ [7, 8, 5] (by rfl) (by decide +kernel)) gg_c_play_5_c_toneAt) rfl rfl rfl (by decide +kernel) ⟨Nat.le_of_ble_eq_true rfl, Nat.le_of_ble_eq_true rfl⟩) ⟨Pre0.blind, Pre0.give hPc hKc hDc hT hS hFc⟩ rfl rfl hl.1 rfl (lv_room (Nat.le_of_ble_eq_true rfl)) dX5_play_37 ⟨Nat.le_of_ble_eq_true rfl, Nat.le_of_ble_eq_true rfl⟩) hS (fun q _ h => hFc q h) hFc (fun r_36 u t H1 locs ht hvm hw hB hz1 hk1 hS => ?_)
  obtain ⟨hP1, hK1, hD1⟩ := hB
  rw [ht] at hP1
  have hK1 := va_K.moved hvm.symm hK1
  obtain ⟨hP, hD⟩ := va_join (wr := [(h0, .inr (10, [.ref fq, .ref sq, .ref gq, .ref nq, .ref dq, .ref pq, .int pl, .int vx_28, .int vx_29])), (nq, .inr (8, [.int vx_30, .ref tq, .ref zq, .ref wq])), (fq, .inr (4, [.int mc_fq, .ref tE, .int 0])), (sq, .inr (4, [.int mc_sq, .ref tE, .int 0])), (gq, .inr (4, [.int mc_gq, .ref tE, .int 0]))]) (w1 := []) hP hD [] [0, 1, 2, 3, 4] rfl rfl (by decide) (by decide) hk1 hFc hP1 hD1
  generalize H1 = H at hP hS ⊢
  have hP : va_P (dC, dI) vwCl [(h0, .inr (10, [.ref fq, .ref sq, .ref gq, .ref nq, .ref dq, .ref pq, .int pl, .int vx_28, .int vx_29])), (nq, .inr (8, [.int vx_30, .ref tq, .ref zq, .ref wq])), (fq, .inr (4, [.int mc_fq, .ref tE, .int 0])), (sq, .inr (4, [.int mc_sq, .ref tE, .int 0])), (gq, .inr (4, [.int mc_gq, .ref tE, .int 0]))] H := hP
  have hD : va_D A [(h0, .inr (10, [.ref fq, .ref sq, .ref gq, .ref nq, .ref dq, .ref pq, .int pl, .int vx_28, .int vx_29])), (nq, .inr (8, [.int vx_30, .ref tq, .ref zq, .ref wq])), (fq, .inr (4, [.int mc_fq, .ref tE, .int 0])), (sq, .inr (4, [.int mc_sq, .ref tE, .int 0])), (gq, .inr (4, [.int mc_gq, .ref tE, .int 0]))] := hD
  refine W.widen (k := 0) (n := 0) (by omega) (by omega) ?_
  have hPc := hP.sub (ws' := [(h0, .inr (10, [.ref fq, .ref sq, .ref gq, .ref nq, .ref dq, .ref pq, .int pl, .int vx_28, .int vx_29])), (fq, .inr (4, [.int mc_fq, .ref tE, .int 0])), (sq, .inr (4, [.int mc_sq, .ref tE, .int 0])), (gq, .inr (4, [.int mc_gq, .ref tE, .int 0])), (nq, .inr (8, [.int vx_30, .ref tq, .ref zq, .ref wq]))]) [0, 2, 3, 4, 1] rfl
  have hDc := hD.sub (ws' := [(h0, .inr (10, [.ref fq, .ref sq, .ref gq, .ref nq, .ref dq, .ref pq, .int pl, .int vx_28, .int vx_29])), (fq, .inr (4, [.int mc_fq, .ref tE, .int 0])), (sq, .inr (4, [.int mc_sq, .ref tE, .int 0])), (gq, .inr (4, [.int mc_gq, .ref tE, .int 0])), (nq, .inr (8, [.int vx_30, .ref tq, .ref zq, .ref wq]))]) [0, 2, 3, 4, 1] (by decide) rfl
  have hKc := hK.sub (tys' := []) [] rfl
  have hFc := va_free (wc := [(h0, .inr (10, [.ref fq, .ref sq, .ref gq, .ref nq, .ref dq, .ref pq, .int pl, .int vx_28, .int vx_29])), (fq, .inr (4, [.int mc_fq, .ref tE, .int 0])), (sq, .inr (4, [.int mc_sq, .ref tE, .int 0])), (gq, .inr (4, [.int mc_gq, .ref tE, .int 0])), (nq, .inr (8, [.int vx_30, .ref tq, .ref zq, .ref wq]))]) hD hS hA [0, 2, 3, 4, 1] rfl
  refine va_calli (va_runV (As := [.int r_36]) (rest := [.int 0]) ⟨hx, hb, hml, hown, hts⟩ (c_toll l hl9 dC dI tE h0 fq sq gq nq dq pq pl vx_28 vx_29 mc_fq mc_sq mc_gq tq zq wq vx_30 r_36 _ ) (cwV 1 hts (goodIn_app (goodIn_r _ [31, 32, 33, 5] (by rfl) (by decide +kernel)) gg_c_play_5_c_toll) rfl rfl rfl (by decide +kernel) ⟨Nat.le_of_ble_eq_true rfl, Nat.le_of_ble_eq_true rfl⟩) ⟨Pre0.blind, va_recv hKc hPc (ci := 10) (q0 := 0) rfl rfl, Pre0.give hPc hKc hDc hT hS hFc⟩ rfl rfl hl.1 rfl (lv_room (Nat.le_of_ble_eq_true rfl)) dX5_play_40 ⟨Nat.le_of_ble_eq_true rfl, Nat.le_of_ble_eq_true rfl⟩) hS (fun q _ h => hFc q h) hFc (fun r_37 u t H1 locs ht hvm hw hB hz1 hk1 hS => ?_)
  obtain ⟨vx_38, vx_39, vx_40, hP1, hK1, hD1⟩ := hB
  rw [ht] at hP1
  have hK1 := va_K.moved hvm.symm hK1
  obtain ⟨hP, hD⟩ := va_join (wr := []) (w1 := [(h0, .inr (10, [.ref fq, .ref sq, .ref gq, .ref nq, .ref dq, .ref pq, .int pl, .int vx_38, .int vx_39])), (nq, .inr (8, [.int vx_40, .ref tq, .ref zq, .ref wq])), (fq, .inr (4, [.int mc_fq, .ref tE, .int 0])), (sq, .inr (4, [.int mc_sq, .ref tE, .int 0])), (gq, .inr (4, [.int mc_gq, .ref tE, .int 0]))]) hP hD [0, 2, 3, 4, 1] [] rfl rfl (by decide) (by decide) hk1 hFc hP1 hD1
  generalize H1 = H at hP hS ⊢
  have hP : va_P (dC, dI) vwCl [(h0, .inr (10, [.ref fq, .ref sq, .ref gq, .ref nq, .ref dq, .ref pq, .int pl, .int vx_38, .int vx_39])), (nq, .inr (8, [.int vx_40, .ref tq, .ref zq, .ref wq])), (fq, .inr (4, [.int mc_fq, .ref tE, .int 0])), (sq, .inr (4, [.int mc_sq, .ref tE, .int 0])), (gq, .inr (4, [.int mc_gq, .ref tE, .int 0]))] H := hP
  have hD : va_D A [(h0, .inr (10, [.ref fq, .ref sq, .ref gq, .ref nq, .ref dq, .ref pq, .int pl, .int vx_38, .int vx_39])), (nq, .inr (8, [.int vx_40, .ref tq, .ref zq, .ref wq])), (fq, .inr (4, [.int mc_fq, .ref tE, .int 0])), (sq, .inr (4, [.int mc_sq, .ref tE, .int 0])), (gq, .inr (4, [.int mc_gq, .ref tE, .int 0]))] := hD
  refine W.widen (k := 0) (n := 0) (by omega) (by omega) ?_
  obtain rfl : r_37 = 0 := hw
  refine lv_iadd hx hb dX5_play_43 ?_
  refine lv_topi (fun x_41 e_42 => ?_)
  obtain rfl : x_41 = 0 := e_42.trans (by decide)
  refine lv_istore_n (lv' := [(3, .int 0), (4, .int 10), (2, .int 100000), (0, .ref h0), (1, .int p0)]) hx hb dX5_play_44 rfl hl (by decide) rfl (fun ls hl => ?_)
  refine lv_iload hx hb dX5_play_45 (lv_at hl 1 rfl) ?_
  refine lv_bipush (v := 10) hx hb dX5_play_47 (by decide) ?_
  refine lv_idiv hx hb dX5_play_49 (by decide) ?_
  refine lv_topi (fun x_43 e_44 => ?_)
  obtain rfl : x_43 = 1 := e_44.trans (by decide)
  refine lv_istore (lv' := [(4, .int 1), (3, .int 0), (2, .int 100000), (0, .ref h0), (1, .int p0)]) hx hb dX5_play_50 hl (by decide) rfl (fun ls hl => ?_)
  refine lv_goto (tgt := 27) hx hb dX5_play_52 (by decide) ?_
  refine lv_iload hx hb dX5_play_27 (lv_at hl 0 rfl) ?_
  refine lv_if_le (tgt := 55) hx hb dX5_play_29 (by decide) (fun c_45 => absurd c_45 (by decide)) (fun _ => ?_)
  refine lv_iload_n hx hb dX5_play_32 rfl (lv_at hl 1 rfl) ?_
  refine lv_aload_n hx hb dX5_play_33 rfl (lv_at hl 3 rfl) ?_
  refine lv_iload_n hx hb dX5_play_34 rfl (lv_at hl 4 rfl) ?_
  refine lv_iload hx hb dX5_play_35 (lv_at hl 0 rfl) ?_
  have hPc := hP.sub (ws' := []) [] rfl
  have hDc := hD.sub (ws' := []) [] (by decide) rfl
  have hKc := hK.sub (tys' := []) [] rfl
  have hFc := va_free (wc := []) hD hS hA [] rfl
  refine va_calli (va_runS (As := [.int p0, .int 1]) (rest := [.ref h0, .int 0]) ⟨hx, hb, hml, hown, hts⟩ (c_toneAt l hl9 dC dI tE p0 1 _ (by first | assumption | decide | omega) (by first | assumption | decide | omega)) (va_cwS 2 hts (goodIn_app (goodIn_r _ [7, 8, 5] (by rfl) (by decide +kernel)) gg_c_play_5_c_toneAt) rfl rfl rfl (by decide +kernel) ⟨Nat.le_of_ble_eq_true rfl, Nat.le_of_ble_eq_true rfl⟩) ⟨Pre0.blind, Pre0.give hPc hKc hDc hT hS hFc⟩ rfl rfl hl.1 rfl (lv_room (Nat.le_of_ble_eq_true rfl)) dX5_play_37 ⟨Nat.le_of_ble_eq_true rfl, Nat.le_of_ble_eq_true rfl⟩) hS (fun q _ h => hFc q h) hFc (fun r_46 u t H1 locs ht hvm hw hB hz1 hk1 hS => ?_)
  obtain ⟨hP1, hK1, hD1⟩ := hB
  rw [ht] at hP1
  have hK1 := va_K.moved hvm.symm hK1
  obtain ⟨hP, hD⟩ := va_join (wr := [(h0, .inr (10, [.ref fq, .ref sq, .ref gq, .ref nq, .ref dq, .ref pq, .int pl, .int vx_38, .int vx_39])), (nq, .inr (8, [.int vx_40, .ref tq, .ref zq, .ref wq])), (fq, .inr (4, [.int mc_fq, .ref tE, .int 0])), (sq, .inr (4, [.int mc_sq, .ref tE, .int 0])), (gq, .inr (4, [.int mc_gq, .ref tE, .int 0]))]) (w1 := []) hP hD [] [0, 1, 2, 3, 4] rfl rfl (by decide) (by decide) hk1 hFc hP1 hD1
  generalize H1 = H at hP hS ⊢
  have hP : va_P (dC, dI) vwCl [(h0, .inr (10, [.ref fq, .ref sq, .ref gq, .ref nq, .ref dq, .ref pq, .int pl, .int vx_38, .int vx_39])), (nq, .inr (8, [.int vx_40, .ref tq, .ref zq, .ref wq])), (fq, .inr (4, [.int mc_fq, .ref tE, .int 0])), (sq, .inr (4, [.int mc_sq, .ref tE, .int 0])), (gq, .inr (4, [.int mc_gq, .ref tE, .int 0]))] H := hP
  have hD : va_D A [(h0, .inr (10, [.ref fq, .ref sq, .ref gq, .ref nq, .ref dq, .ref pq, .int pl, .int vx_38, .int vx_39])), (nq, .inr (8, [.int vx_40, .ref tq, .ref zq, .ref wq])), (fq, .inr (4, [.int mc_fq, .ref tE, .int 0])), (sq, .inr (4, [.int mc_sq, .ref tE, .int 0])), (gq, .inr (4, [.int mc_gq, .ref tE, .int 0]))] := hD
  refine W.widen (k := 0) (n := 0) (by omega) (by omega) ?_
  have hPc := hP.sub (ws' := [(h0, .inr (10, [.ref fq, .ref sq, .ref gq, .ref nq, .ref dq, .ref pq, .int pl, .int vx_38, .int vx_39])), (fq, .inr (4, [.int mc_fq, .ref tE, .int 0])), (sq, .inr (4, [.int mc_sq, .ref tE, .int 0])), (gq, .inr (4, [.int mc_gq, .ref tE, .int 0])), (nq, .inr (8, [.int vx_40, .ref tq, .ref zq, .ref wq]))]) [0, 2, 3, 4, 1] rfl
  have hDc := hD.sub (ws' := [(h0, .inr (10, [.ref fq, .ref sq, .ref gq, .ref nq, .ref dq, .ref pq, .int pl, .int vx_38, .int vx_39])), (fq, .inr (4, [.int mc_fq, .ref tE, .int 0])), (sq, .inr (4, [.int mc_sq, .ref tE, .int 0])), (gq, .inr (4, [.int mc_gq, .ref tE, .int 0])), (nq, .inr (8, [.int vx_40, .ref tq, .ref zq, .ref wq]))]) [0, 2, 3, 4, 1] (by decide) rfl
  have hKc := hK.sub (tys' := []) [] rfl
  have hFc := va_free (wc := [(h0, .inr (10, [.ref fq, .ref sq, .ref gq, .ref nq, .ref dq, .ref pq, .int pl, .int vx_38, .int vx_39])), (fq, .inr (4, [.int mc_fq, .ref tE, .int 0])), (sq, .inr (4, [.int mc_sq, .ref tE, .int 0])), (gq, .inr (4, [.int mc_gq, .ref tE, .int 0])), (nq, .inr (8, [.int vx_40, .ref tq, .ref zq, .ref wq]))]) hD hS hA [0, 2, 3, 4, 1] rfl
  refine va_calli (va_runV (As := [.int r_46]) (rest := [.int 0]) ⟨hx, hb, hml, hown, hts⟩ (c_toll l hl9 dC dI tE h0 fq sq gq nq dq pq pl vx_38 vx_39 mc_fq mc_sq mc_gq tq zq wq vx_40 r_46 _ ) (cwV 1 hts (goodIn_app (goodIn_r _ [31, 32, 33, 5] (by rfl) (by decide +kernel)) gg_c_play_5_c_toll) rfl rfl rfl (by decide +kernel) ⟨Nat.le_of_ble_eq_true rfl, Nat.le_of_ble_eq_true rfl⟩) ⟨Pre0.blind, va_recv hKc hPc (ci := 10) (q0 := 0) rfl rfl, Pre0.give hPc hKc hDc hT hS hFc⟩ rfl rfl hl.1 rfl (lv_room (Nat.le_of_ble_eq_true rfl)) dX5_play_40 ⟨Nat.le_of_ble_eq_true rfl, Nat.le_of_ble_eq_true rfl⟩) hS (fun q _ h => hFc q h) hFc (fun r_47 u t H1 locs ht hvm hw hB hz1 hk1 hS => ?_)
  obtain ⟨vx_48, vx_49, vx_50, hP1, hK1, hD1⟩ := hB
  rw [ht] at hP1
  have hK1 := va_K.moved hvm.symm hK1
  obtain ⟨hP, hD⟩ := va_join (wr := []) (w1 := [(h0, .inr (10, [.ref fq, .ref sq, .ref gq, .ref nq, .ref dq, .ref pq, .int pl, .int vx_48, .int vx_49])), (nq, .inr (8, [.int vx_50, .ref tq, .ref zq, .ref wq])), (fq, .inr (4, [.int mc_fq, .ref tE, .int 0])), (sq, .inr (4, [.int mc_sq, .ref tE, .int 0])), (gq, .inr (4, [.int mc_gq, .ref tE, .int 0]))]) hP hD [0, 2, 3, 4, 1] [] rfl rfl (by decide) (by decide) hk1 hFc hP1 hD1
  generalize H1 = H at hP hS ⊢
  have hP : va_P (dC, dI) vwCl [(h0, .inr (10, [.ref fq, .ref sq, .ref gq, .ref nq, .ref dq, .ref pq, .int pl, .int vx_48, .int vx_49])), (nq, .inr (8, [.int vx_50, .ref tq, .ref zq, .ref wq])), (fq, .inr (4, [.int mc_fq, .ref tE, .int 0])), (sq, .inr (4, [.int mc_sq, .ref tE, .int 0])), (gq, .inr (4, [.int mc_gq, .ref tE, .int 0]))] H := hP
  have hD : va_D A [(h0, .inr (10, [.ref fq, .ref sq, .ref gq, .ref nq, .ref dq, .ref pq, .int pl, .int vx_48, .int vx_49])), (nq, .inr (8, [.int vx_50, .ref tq, .ref zq, .ref wq])), (fq, .inr (4, [.int mc_fq, .ref tE, .int 0])), (sq, .inr (4, [.int mc_sq, .ref tE, .int 0])), (gq, .inr (4, [.int mc_gq, .ref tE, .int 0]))] := hD
  refine W.widen (k := 0) (n := 0) (by omega) (by omega) ?_
  obtain rfl : r_47 = 0 := hw
  refine lv_iadd hx hb dX5_play_43 ?_
  refine lv_topi (fun x_51 e_52 => ?_)
  obtain rfl : x_51 = 0 := e_52.trans (by decide)
  refine lv_istore_n (lv' := [(3, .int 0), (4, .int 1), (2, .int 100000), (0, .ref h0), (1, .int p0)]) hx hb dX5_play_44 rfl hl (by decide) rfl (fun ls hl => ?_)
  refine lv_iload hx hb dX5_play_45 (lv_at hl 1 rfl) ?_
  refine lv_bipush (v := 10) hx hb dX5_play_47 (by decide) ?_
  refine lv_idiv hx hb dX5_play_49 (by decide) ?_
  refine lv_topi (fun x_53 e_54 => ?_)
  obtain rfl : x_53 = 0 := e_54.trans (by decide)
  refine lv_istore (lv' := [(4, .int 0), (3, .int 0), (2, .int 100000), (0, .ref h0), (1, .int p0)]) hx hb dX5_play_50 hl (by decide) rfl (fun ls hl => ?_)
  refine lv_goto (tgt := 27) hx hb dX5_play_52 (by decide) ?_
  refine lv_iload hx hb dX5_play_27 (lv_at hl 0 rfl) ?_
  refine lv_if_le (tgt := 55) hx hb dX5_play_29 (by decide) (fun _ => ?_) (fun c_55 => absurd (by decide) c_55)
  refine lv_iload_n hx hb dX5_play_55 rfl (lv_at hl 1 rfl) ?_
  have hP9 := hP.sub (ws' := [(h0, .inr (10, [.ref fq, .ref sq, .ref gq, .ref nq, .ref dq, .ref pq, .int pl, .int vx_48, .int vx_49])), (nq, .inr (8, [.int vx_50, .ref tq, .ref zq, .ref wq])), (fq, .inr (4, [.int mc_fq, .ref tE, .int 0])), (sq, .inr (4, [.int mc_sq, .ref tE, .int 0])), (gq, .inr (4, [.int mc_gq, .ref tE, .int 0]))]) [0, 1, 2, 3, 4] rfl
  have hD9 := hD.sub (ws' := [(h0, .inr (10, [.ref fq, .ref sq, .ref gq, .ref nq, .ref dq, .ref pq, .int pl, .int vx_48, .int vx_49])), (nq, .inr (8, [.int vx_50, .ref tq, .ref zq, .ref wq])), (fq, .inr (4, [.int mc_fq, .ref tE, .int 0])), (sq, .inr (4, [.int mc_sq, .ref tE, .int 0])), (gq, .inr (4, [.int mc_gq, .ref tE, .int 0]))]) [0, 1, 2, 3, 4] (by decide) rfl
  have hK9 := hK.sub (tys' := []) [] rfl
  exact W.iret (v := 0) hx hb hr (fun t ht hW => ⟨⟨0, (), rfl, rfl, vx_48, vx_49, vx_50, by rw [ht]; exact hP9, va_K.moved hW.alike hK9, hD9⟩, hS.F ht⟩) hS.2.2 dX5_play_56
def v_c_play_6 : List Cond := .code yX5_play cX5_play 5 (some .int) :: ([Cond.code yX5_spanOf cX5_spanOf 4 (some .int), Cond.constant RX5 284 (444444), Cond.methodLink RX5 76 yX5_spanOf, Cond.static yX5_spanOf, Cond.initialized RX5, Cond.code yX5_toneAt cX5_toneAt 2 (some .int), Cond.methodLink RX5 219 yX5_toneAt, Cond.static yX5_toneAt, Cond.code yX5_toll cX5_toll 4 (some .int), Cond.fieldLink RX5 19 "HotelOfBells" "guests" "Ljava/util/ArrayList;", Cond.code yJx4a65c_size_8abf5 cJx4a65c_size_8abf5 1 (some .int), Cond.fieldLink RJx4a65c 48 "java/util/ArrayList" "size" "I", Cond.methodLink RX5 49 yJx4a65c_size_8abf5, Cond.instanceMethod yJx4a65c_size_8abf5, Cond.selects RJx4a65c yJx4a65c_size_8abf5 yJx4a65c_size_8abf5, Cond.initialized RJx4a65c, Cond.fieldLink RX5 200 "HotelOfBells" "bells" "I", Cond.fieldLink RX5 203 "HotelOfBells" "turnsByBells" "I", Cond.fieldLink RX5 25 "HotelOfBells" "now" "LHotelOfBells$Moment;", Cond.code yX5_strike cX5_strike 6 (some .int), Cond.fieldLink RX5 156 "HotelOfBells$Moment" "heard" "I", Cond.code yX5_heardWith cX5_heardWith 2 (some .int), Cond.constant RX5 247 (100000), Cond.methodLink RX5 252 yX5_heardWith, Cond.static yX5_heardWith, Cond.fieldLink RX5 10 "HotelOfBells" "floors" "Ljava/util/ArrayList;", Cond.fieldLink RX5 16 "HotelOfBells" "shafts" "Ljava/util/ArrayList;", Cond.methodLink RX5 237 yX5_strike, Cond.instanceMethod yX5_strike, Cond.selects RX5 yX5_strike yX5_strike, Cond.methodLink RX5 216 yX5_toll, Cond.instanceMethod yX5_toll, Cond.selects RX5 yX5_toll yX5_toll] ++ (wsX50 ++ (wsJx4a65c0 ++ (wsX30 ++ []))))
theorem u_c_play_6_X5 : ∀ w ∈ wsX50, w ∈ v_c_play_6 := fun _ h => List.mem_cons_of_mem _ (List.mem_append_right _ (List.mem_append_left _ h))
theorem u_c_play_6_Jx4a65c : ∀ w ∈ wsJx4a65c0, w ∈ v_c_play_6 := fun _ h => List.mem_cons_of_mem _ (List.mem_append_right _ (List.mem_append_right _ (List.mem_append_left _ h)))
theorem u_c_play_6_X3 : ∀ w ∈ wsX30, w ∈ v_c_play_6 := fun _ h => List.mem_cons_of_mem _ (List.mem_append_right _ (List.mem_append_right _ (List.mem_append_right _ (List.mem_append_left _ h))))
theorem gg_c_play_6_c_spanOf : GoodIn v_c_play_6 v_c_spanOf := goodIn_r _ [1, 2] (by rfl) (by decide +kernel)
theorem gg_c_play_6_c_toneAt : GoodIn v_c_play_6 v_c_toneAt := goodIn_r _ [6] (by rfl) (by decide +kernel)
theorem gg_c_play_6_c_toll : GoodIn v_c_play_6 v_c_toll := goodIn_r _ [9, 10, 11, 12, 13, 14, 15, 16, 17, 18, 19, 20, 21, 22, 23, 24, 25, 5, 26, 27, 28, 29, 30, 34, 35, 36, 37, 38, 39, 40, 41, 42, 43, 44, 45, 46, 47, 48, 49] (by rfl) (by decide +kernel)
set_option maxHeartbeats 4000000 in
set_option maxRecDepth 100000 in
theorem c_play_6 (l : Launch) (hl9 : l.stackTraces = false) (dC : Nat → ClassId) (dI : Nat → Nat → Nat) (tE : Nat) (h0 : Nat) (fq : Nat) (sq : Nat) (gq : Nat) (nq : Nat) (dq : Nat) (pq : Nat) (pl : Int32) (bl : Int32) (tb : Int32) (mc_fq : Int32) (mc_sq : Int32) (mc_gq : Int32) (tq : Nat) (zq : Nat) (wq : Nat) (hd : Int32) (p0 : Int32) (sz : Nat) (hd0 : dgt p0 = 6) : Met l yX5_play v_c_play_6 ({ frames := 3, cells := 0, slots := 0, locals := 69 }) (va_Pc [.ref h0, .int p0] (Pre0 dC dI tE sz [] [(h0, .inr (10, [.ref fq, .ref sq, .ref gq, .ref nq, .ref dq, .ref pq, .int pl, .int bl, .int tb])), (fq, .inr (4, [.int mc_fq, .ref tE, .int 0])), (sq, .inr (4, [.int mc_sq, .ref tE, .int 0])), (gq, .inr (4, [.int mc_gq, .ref tE, .int 0])), (nq, .inr (8, [.int hd, .ref tq, .ref zq, .ref wq]))])) (va_Qi (fun (r : Int32) (_ : Unit) => r = 0) (fun _ t => ∃ (vx0 : Int32), ∃ (vx1 : Int32), ∃ (vx2 : Int32), Pst dC dI [] (va_A [(h0, .inr (10, [.ref fq, .ref sq, .ref gq, .ref nq, .ref dq, .ref pq, .int pl, .int bl, .int tb])), (fq, .inr (4, [.int mc_fq, .ref tE, .int 0])), (sq, .inr (4, [.int mc_sq, .ref tE, .int 0])), (gq, .inr (4, [.int mc_gq, .ref tE, .int 0])), (nq, .inr (8, [.int hd, .ref tq, .ref zq, .ref wq]))] sz) [(h0, .inr (10, [.ref fq, .ref sq, .ref gq, .ref nq, .ref dq, .ref pq, .int pl, .int vx0, .int vx1])), (nq, .inr (8, [.int vx2, .ref tq, .ref zq, .ref wq])), (fq, .inr (4, [.int mc_fq, .ref tE, .int 0])), (sq, .inr (4, [.int mc_sq, .ref tE, .int 0])), (gq, .inr (4, [.int mc_gq, .ref tE, .int 0]))] t) (va_A [(h0, .inr (10, [.ref fq, .ref sq, .ref gq, .ref nq, .ref dq, .ref pq, .int pl, .int bl, .int tb])), (fq, .inr (4, [.int mc_fq, .ref tE, .int 0])), (sq, .inr (4, [.int mc_sq, .ref tE, .int 0])), (gq, .inr (4, [.int mc_gq, .ref tE, .int 0])), (nq, .inr (8, [.int hd, .ref tq, .ref zq, .ref wq]))] sz)) 0 0 (va_A [(h0, .inr (10, [.ref fq, .ref sq, .ref gq, .ref nq, .ref dq, .ref pq, .int pl, .int bl, .int tb])), (fq, .inr (4, [.int mc_fq, .ref tE, .int 0])), (sq, .inr (4, [.int mc_sq, .ref tE, .int 0])), (gq, .inr (4, [.int mc_gq, .ref tE, .int 0])), (nq, .inr (8, [.int hd, .ref tq, .ref zq, .ref wq]))] sz) := by
  refine Met.ofW (cc := cX5_play) (maxL := 5) (ret := (some .int)) (by decide) rfl ?_
  intro p e s m args below meth c s₁ B hml hv
  obtain ⟨rfl, hsz, hP, hK, hD0, hT⟩ := hv
  have hx := B.exec
  have hb := B.bytes
  have hr := B.returns
  have hts := atoms_spec (ws := v_c_play_6) B.pre
  have hown : s.vm.findClass RX5 = some m.cls := findClass_of_methodNamed B.named
  have hlocks := B.notSynchronized
  subst hsz
  have hD := hD0.self (sz := s.heap.size)
  generalize hAe : va_A [(h0, .inr (10, [.ref fq, .ref sq, .ref gq, .ref nq, .ref dq, .ref pq, .int pl, .int bl, .int tb])), (fq, .inr (4, [.int mc_fq, .ref tE, .int 0])), (sq, .inr (4, [.int mc_sq, .ref tE, .int 0])), (gq, .inr (4, [.int mc_gq, .ref tE, .int 0])), (nq, .inr (8, [.int hd, .ref tq, .ref zq, .ref wq]))] s.heap.size = A at hD hT ⊢
  have hA : ∀ q : Nat, s.heap.size ≤ q → A q := fun q h => by rw [← hAe]; exact Or.inr h
  have hS : va_S A s.heap s.heap [] := va_S.rf
  have hl := lv_entry ([.ref h0, .int p0]) (n := 5) (Nat.le_of_ble_eq_true rfl)
  rw [lg_entry_eq]
  generalize (lg_sl ([.ref h0, .int p0]) ++ List.replicate (5 - (lg_sl ([.ref h0, .int p0])).length) Slot.unset).toArray = ls at hl ⊢
  have hl : lv_has ls 5 [(0, .ref h0), (1, .int p0)] := hl
  refine lv_iload_n hx hb dX5_play_0 rfl (lv_at hl 1 rfl) ?_
  have hPc := hP.sub (ws' := []) [] rfl
  have hDc := hD.sub (ws' := []) [] (by decide) rfl
  have hKc := hK.sub (tys' := []) [] rfl
  have hFc := va_free (wc := []) hD hS hA [] rfl
  refine va_calli (va_runS (As := [.int p0]) (rest := []) ⟨hx, hb, hml, hown, hts⟩ (c_spanOf l hl9 dC dI tE p0 _ ) (va_cwS 1 hts (goodIn_app (goodIn_r _ [3, 4, 5] (by rfl) (by decide +kernel)) gg_c_play_6_c_spanOf) rfl rfl rfl (by decide +kernel) ⟨Nat.le_of_ble_eq_true rfl, Nat.le_of_ble_eq_true rfl⟩) ⟨Pre0.blind, Pre0.give hPc hKc hDc hT hS hFc⟩ rfl rfl hl.1 rfl (lv_room (Nat.le_of_ble_eq_true rfl)) dX5_play_1 ⟨Nat.le_of_ble_eq_true rfl, Nat.le_of_ble_eq_true rfl⟩) hS (fun q _ h => hFc q h) hFc (fun r_1 u t H1 locs ht hvm hw hB hz1 hk1 hS => ?_)
  obtain ⟨hP1, hK1, hD1⟩ := hB
  rw [ht] at hP1
  have hK1 := va_K.moved hvm.symm hK1
  obtain ⟨hP, hD⟩ := va_join (wr := [(h0, .inr (10, [.ref fq, .ref sq, .ref gq, .ref nq, .ref dq, .ref pq, .int pl, .int bl, .int tb])), (fq, .inr (4, [.int mc_fq, .ref tE, .int 0])), (sq, .inr (4, [.int mc_sq, .ref tE, .int 0])), (gq, .inr (4, [.int mc_gq, .ref tE, .int 0])), (nq, .inr (8, [.int hd, .ref tq, .ref zq, .ref wq]))]) (w1 := []) hP hD [] [0, 1, 2, 3, 4] rfl rfl (by decide) (by decide) hk1 hFc hP1 hD1
  generalize H1 = H at hP hS ⊢
  have hP : va_P (dC, dI) vwCl [(h0, .inr (10, [.ref fq, .ref sq, .ref gq, .ref nq, .ref dq, .ref pq, .int pl, .int bl, .int tb])), (fq, .inr (4, [.int mc_fq, .ref tE, .int 0])), (sq, .inr (4, [.int mc_sq, .ref tE, .int 0])), (gq, .inr (4, [.int mc_gq, .ref tE, .int 0])), (nq, .inr (8, [.int hd, .ref tq, .ref zq, .ref wq]))] H := hP
  have hD : va_D A [(h0, .inr (10, [.ref fq, .ref sq, .ref gq, .ref nq, .ref dq, .ref pq, .int pl, .int bl, .int tb])), (fq, .inr (4, [.int mc_fq, .ref tE, .int 0])), (sq, .inr (4, [.int mc_sq, .ref tE, .int 0])), (gq, .inr (4, [.int mc_gq, .ref tE, .int 0])), (nq, .inr (8, [.int hd, .ref tq, .ref zq, .ref wq]))] := hD
  refine W.widen (k := 0) (n := 0) (by omega) (by omega) ?_
  obtain rfl : r_1 = 1000000 := by rw [hw, hd0]; decide
  refine lv_istore_n (lv' := [(2, .int 1000000), (0, .ref h0), (1, .int p0)]) hx hb dX5_play_4 rfl hl (by decide) rfl (fun ls hl => ?_)
  refine lv_iload_n hx hb dX5_play_5 rfl (lv_at hl 0 rfl) ?_
  refine lv_if_ne (tgt := 19) hx hb dX5_play_6 (by decide) (fun _ => ?_) (fun c_2 => absurd c_2 (by decide))
  refine lv_iconst (v := 0) hx hb dX5_play_19 (by decide) ?_
  refine lv_istore_n (lv' := [(3, .int 0), (2, .int 1000000), (0, .ref h0), (1, .int p0)]) hx hb dX5_play_20 rfl hl (by decide) rfl (fun ls hl => ?_)
  refine lv_iload_n hx hb dX5_play_21 rfl (lv_at hl 1 rfl) ?_
  refine lv_bipush (v := 10) hx hb dX5_play_22 (by decide) ?_
  refine lv_idiv hx hb dX5_play_24 (by decide) ?_
  refine lv_topi (fun x_3 e_4 => ?_)
  obtain rfl : x_3 = 100000 := e_4.trans (by decide)
  refine lv_istore (lv' := [(4, .int 100000), (3, .int 0), (2, .int 1000000), (0, .ref h0), (1, .int p0)]) hx hb dX5_play_25 hl (by decide) rfl (fun ls hl => ?_)
  refine lv_iload hx hb dX5_play_27 (lv_at hl 0 rfl) ?_
  refine lv_if_le (tgt := 55) hx hb dX5_play_29 (by decide) (fun c_5 => absurd c_5 (by decide)) (fun _ => ?_)
  refine lv_iload_n hx hb dX5_play_32 rfl (lv_at hl 1 rfl) ?_
  refine lv_aload_n hx hb dX5_play_33 rfl (lv_at hl 3 rfl) ?_
  refine lv_iload_n hx hb dX5_play_34 rfl (lv_at hl 4 rfl) ?_
  refine lv_iload hx hb dX5_play_35 (lv_at hl 0 rfl) ?_
  have hPc := hP.sub (ws' := []) [] rfl
  have hDc := hD.sub (ws' := []) [] (by decide) rfl
  have hKc := hK.sub (tys' := []) [] rfl
  have hFc := va_free (wc := []) hD hS hA [] rfl
  refine va_calli (va_runS (As := [.int p0, .int 100000]) (rest := [.ref h0, .int 0]) ⟨hx, hb, hml, hown, hts⟩ (c_toneAt l hl9 dC dI tE p0 100000 _ (by first | assumption | decide | omega) (by first | assumption | decide | omega)) (va_cwS 2 hts (goodIn_app (goodIn_r _ [7, 8, 5] (by rfl) (by decide +kernel)) gg_c_play_6_c_toneAt) rfl rfl rfl (by decide +kernel) ⟨Nat.le_of_ble_eq_true rfl, Nat.le_of_ble_eq_true rfl⟩) ⟨Pre0.blind, Pre0.give hPc hKc hDc hT hS hFc⟩ rfl rfl hl.1 rfl (lv_room (Nat.le_of_ble_eq_true rfl)) dX5_play_37 ⟨Nat.le_of_ble_eq_true rfl, Nat.le_of_ble_eq_true rfl⟩) hS (fun q _ h => hFc q h) hFc (fun r_6 u t H1 locs ht hvm hw hB hz1 hk1 hS => ?_)
  obtain ⟨hP1, hK1, hD1⟩ := hB
  rw [ht] at hP1
  have hK1 := va_K.moved hvm.symm hK1
  obtain ⟨hP, hD⟩ := va_join (wr := [(h0, .inr (10, [.ref fq, .ref sq, .ref gq, .ref nq, .ref dq, .ref pq, .int pl, .int bl, .int tb])), (fq, .inr (4, [.int mc_fq, .ref tE, .int 0])), (sq, .inr (4, [.int mc_sq, .ref tE, .int 0])), (gq, .inr (4, [.int mc_gq, .ref tE, .int 0])), (nq, .inr (8, [.int hd, .ref tq, .ref zq, .ref wq]))]) (w1 := []) hP hD [] [0, 1, 2, 3, 4] rfl rfl (by decide) (by decide) hk1 hFc hP1 hD1
  generalize H1 = H at hP hS ⊢
  have hP : va_P (dC, dI) vwCl [(h0, .inr (10, [.ref fq, .ref sq, .ref gq, .ref nq, .ref dq, .ref pq, .int pl, .int bl, .int tb])), (fq, .inr (4, [.int mc_fq, .ref tE, .int 0])), (sq, .inr (4, [.int mc_sq, .ref tE, .int 0])), (gq, .inr (4, [.int mc_gq, .ref tE, .int 0])), (nq, .inr (8, [.int hd, .ref tq, .ref zq, .ref wq]))] H := hP
  have hD : va_D A [(h0, .inr (10, [.ref fq, .ref sq, .ref gq, .ref nq, .ref dq, .ref pq, .int pl, .int bl, .int tb])), (fq, .inr (4, [.int mc_fq, .ref tE, .int 0])), (sq, .inr (4, [.int mc_sq, .ref tE, .int 0])), (gq, .inr (4, [.int mc_gq, .ref tE, .int 0])), (nq, .inr (8, [.int hd, .ref tq, .ref zq, .ref wq]))] := hD
  refine W.widen (k := 0) (n := 0) (by omega) (by omega) ?_
  have hPc := hP.sub (ws' := [(h0, .inr (10, [.ref fq, .ref sq, .ref gq, .ref nq, .ref dq, .ref pq, .int pl, .int bl, .int tb])), (fq, .inr (4, [.int mc_fq, .ref tE, .int 0])), (sq, .inr (4, [.int mc_sq, .ref tE, .int 0])), (gq, .inr (4, [.int mc_gq, .ref tE, .int 0])), (nq, .inr (8, [.int hd, .ref tq, .ref zq, .ref wq]))]) [0, 1, 2, 3, 4] rfl
  have hDc := hD.sub (ws' := [(h0, .inr (10, [.ref fq, .ref sq, .ref gq, .ref nq, .ref dq, .ref pq, .int pl, .int bl, .int tb])), (fq, .inr (4, [.int mc_fq, .ref tE, .int 0])), (sq, .inr (4, [.int mc_sq, .ref tE, .int 0])), (gq, .inr (4, [.int mc_gq, .ref tE, .int 0])), (nq, .inr (8, [.int hd, .ref tq, .ref zq, .ref wq]))]) [0, 1, 2, 3, 4] (by decide) rfl
  have hKc := hK.sub (tys' := []) [] rfl
  have hFc := va_free (wc := [(h0, .inr (10, [.ref fq, .ref sq, .ref gq, .ref nq, .ref dq, .ref pq, .int pl, .int bl, .int tb])), (fq, .inr (4, [.int mc_fq, .ref tE, .int 0])), (sq, .inr (4, [.int mc_sq, .ref tE, .int 0])), (gq, .inr (4, [.int mc_gq, .ref tE, .int 0])), (nq, .inr (8, [.int hd, .ref tq, .ref zq, .ref wq]))]) hD hS hA [0, 1, 2, 3, 4] rfl
  refine va_calli (va_runV (As := [.int r_6]) (rest := [.int 0]) ⟨hx, hb, hml, hown, hts⟩ (c_toll l hl9 dC dI tE h0 fq sq gq nq dq pq pl bl tb mc_fq mc_sq mc_gq tq zq wq hd r_6 _ ) (cwV 1 hts (goodIn_app (goodIn_r _ [31, 32, 33, 5] (by rfl) (by decide +kernel)) gg_c_play_6_c_toll) rfl rfl rfl (by decide +kernel) ⟨Nat.le_of_ble_eq_true rfl, Nat.le_of_ble_eq_true rfl⟩) ⟨Pre0.blind, va_recv hKc hPc (ci := 10) (q0 := 0) rfl rfl, Pre0.give hPc hKc hDc hT hS hFc⟩ rfl rfl hl.1 rfl (lv_room (Nat.le_of_ble_eq_true rfl)) dX5_play_40 ⟨Nat.le_of_ble_eq_true rfl, Nat.le_of_ble_eq_true rfl⟩) hS (fun q _ h => hFc q h) hFc (fun r_7 u t H1 locs ht hvm hw hB hz1 hk1 hS => ?_)
  obtain ⟨vx_8, vx_9, vx_10, hP1, hK1, hD1⟩ := hB
  rw [ht] at hP1
  have hK1 := va_K.moved hvm.symm hK1
  obtain ⟨hP, hD⟩ := va_join (wr := []) (w1 := [(h0, .inr (10, [.ref fq, .ref sq, .ref gq, .ref nq, .ref dq, .ref pq, .int pl, .int vx_8, .int vx_9])), (nq, .inr (8, [.int vx_10, .ref tq, .ref zq, .ref wq])), (fq, .inr (4, [.int mc_fq, .ref tE, .int 0])), (sq, .inr (4, [.int mc_sq, .ref tE, .int 0])), (gq, .inr (4, [.int mc_gq, .ref tE, .int 0]))]) hP hD [0, 1, 2, 3, 4] [] rfl rfl (by decide) (by decide) hk1 hFc hP1 hD1
  generalize H1 = H at hP hS ⊢
  have hP : va_P (dC, dI) vwCl [(h0, .inr (10, [.ref fq, .ref sq, .ref gq, .ref nq, .ref dq, .ref pq, .int pl, .int vx_8, .int vx_9])), (nq, .inr (8, [.int vx_10, .ref tq, .ref zq, .ref wq])), (fq, .inr (4, [.int mc_fq, .ref tE, .int 0])), (sq, .inr (4, [.int mc_sq, .ref tE, .int 0])), (gq, .inr (4, [.int mc_gq, .ref tE, .int 0]))] H := hP
  have hD : va_D A [(h0, .inr (10, [.ref fq, .ref sq, .ref gq, .ref nq, .ref dq, .ref pq, .int pl, .int vx_8, .int vx_9])), (nq, .inr (8, [.int vx_10, .ref tq, .ref zq, .ref wq])), (fq, .inr (4, [.int mc_fq, .ref tE, .int 0])), (sq, .inr (4, [.int mc_sq, .ref tE, .int 0])), (gq, .inr (4, [.int mc_gq, .ref tE, .int 0]))] := hD
  refine W.widen (k := 0) (n := 0) (by omega) (by omega) ?_
  obtain rfl : r_7 = 0 := hw
  refine lv_iadd hx hb dX5_play_43 ?_
  refine lv_topi (fun x_11 e_12 => ?_)
  obtain rfl : x_11 = 0 := e_12.trans (by decide)
  refine lv_istore_n (lv' := [(3, .int 0), (4, .int 100000), (2, .int 1000000), (0, .ref h0), (1, .int p0)]) hx hb dX5_play_44 rfl hl (by decide) rfl (fun ls hl => ?_)
  refine lv_iload hx hb dX5_play_45 (lv_at hl 1 rfl) ?_
  refine lv_bipush (v := 10) hx hb dX5_play_47 (by decide) ?_
  refine lv_idiv hx hb dX5_play_49 (by decide) ?_
  refine lv_topi (fun x_13 e_14 => ?_)
  obtain rfl : x_13 = 10000 := e_14.trans (by decide)
  refine lv_istore (lv' := [(4, .int 10000), (3, .int 0), (2, .int 1000000), (0, .ref h0), (1, .int p0)]) hx hb dX5_play_50 hl (by decide) rfl (fun ls hl => ?_)
  refine lv_goto (tgt := 27) hx hb dX5_play_52 (by decide) ?_
  refine lv_iload hx hb dX5_play_27 (lv_at hl 0 rfl) ?_
  refine lv_if_le (tgt := 55) hx hb dX5_play_29 (by decide) (fun c_15 => absurd c_15 (by decide)) (fun _ => ?_)
  refine lv_iload_n hx hb dX5_play_32 rfl (lv_at hl 1 rfl) ?_
  refine lv_aload_n hx hb dX5_play_33 rfl (lv_at hl 3 rfl) ?_
  refine lv_iload_n hx hb dX5_play_34 rfl (lv_at hl 4 rfl) ?_
  refine lv_iload hx hb dX5_play_35 (lv_at hl 0 rfl) ?_
  have hPc := hP.sub (ws' := []) [] rfl
  have hDc := hD.sub (ws' := []) [] (by decide) rfl
  have hKc := hK.sub (tys' := []) [] rfl
  have hFc := va_free (wc := []) hD hS hA [] rfl
  refine va_calli (va_runS (As := [.int p0, .int 10000]) (rest := [.ref h0, .int 0]) ⟨hx, hb, hml, hown, hts⟩ (c_toneAt l hl9 dC dI tE p0 10000 _ (by first | assumption | decide | omega) (by first | assumption | decide | omega)) (va_cwS 2 hts (goodIn_app (goodIn_r _ [7, 8, 5] (by rfl) (by decide +kernel)) gg_c_play_6_c_toneAt) rfl rfl rfl (by decide +kernel) ⟨Nat.le_of_ble_eq_true rfl, Nat.le_of_ble_eq_true rfl⟩) ⟨Pre0.blind, Pre0.give hPc hKc hDc hT hS hFc⟩ rfl rfl hl.1 rfl (lv_room (Nat.le_of_ble_eq_true rfl)) dX5_play_37 ⟨Nat.le_of_ble_eq_true rfl, Nat.le_of_ble_eq_true rfl⟩) hS (fun q _ h => hFc q h) hFc (fun r_16 u t H1 locs ht hvm hw hB hz1 hk1 hS => ?_)
  obtain ⟨hP1, hK1, hD1⟩ := hB
  rw [ht] at hP1
  have hK1 := va_K.moved hvm.symm hK1
  obtain ⟨hP, hD⟩ := va_join (wr := [(h0, .inr (10, [.ref fq, .ref sq, .ref gq, .ref nq, .ref dq, .ref pq, .int pl, .int vx_8, .int vx_9])), (nq, .inr (8, [.int vx_10, .ref tq, .ref zq, .ref wq])), (fq, .inr (4, [.int mc_fq, .ref tE, .int 0])), (sq, .inr (4, [.int mc_sq, .ref tE, .int 0])), (gq, .inr (4, [.int mc_gq, .ref tE, .int 0]))]) (w1 := []) hP hD [] [0, 1, 2, 3, 4] rfl rfl (by decide) (by decide) hk1 hFc hP1 hD1
  generalize H1 = H at hP hS ⊢
  have hP : va_P (dC, dI) vwCl [(h0, .inr (10, [.ref fq, .ref sq, .ref gq, .ref nq, .ref dq, .ref pq, .int pl, .int vx_8, .int vx_9])), (nq, .inr (8, [.int vx_10, .ref tq, .ref zq, .ref wq])), (fq, .inr (4, [.int mc_fq, .ref tE, .int 0])), (sq, .inr (4, [.int mc_sq, .ref tE, .int 0])), (gq, .inr (4, [.int mc_gq, .ref tE, .int 0]))] H := hP
  have hD : va_D A [(h0, .inr (10, [.ref fq, .ref sq, .ref gq, .ref nq, .ref dq, .ref pq, .int pl, .int vx_8, .int vx_9])), (nq, .inr (8, [.int vx_10, .ref tq, .ref zq, .ref wq])), (fq, .inr (4, [.int mc_fq, .ref tE, .int 0])), (sq, .inr (4, [.int mc_sq, .ref tE, .int 0])), (gq, .inr (4, [.int mc_gq, .ref tE, .int 0]))] := hD
  refine W.widen (k := 0) (n := 0) (by omega) (by omega) ?_
  have hPc := hP.sub (ws' := [(h0, .inr (10, [.ref fq, .ref sq, .ref gq, .ref nq, .ref dq, .ref pq, .int pl, .int vx_8, .int vx_9])), (fq, .inr (4, [.int mc_fq, .ref tE, .int 0])), (sq, .inr (4, [.int mc_sq, .ref tE, .int 0])), (gq, .inr (4, [.int mc_gq, .ref tE, .int 0])), (nq, .inr (8, [.int vx_10, .ref tq, .ref zq, .ref wq]))]) [0, 2, 3, 4, 1] rfl
  have hDc := hD.sub (ws' := [(h0, .inr (10, [.ref fq, .ref sq, .ref gq, .ref nq, .ref dq, .ref pq, .int pl, .int vx_8, .int vx_9])), (fq, .inr (4, [.int mc_fq, .ref tE, .int 0])), (sq, .inr (4, [.int mc_sq, .ref tE, .int 0])), (gq, .inr (4, [.int mc_gq, .ref tE, .int 0])), (nq, .inr (8, [.int vx_10, .ref tq, .ref zq, .ref wq]))]) [0, 2, 3, 4, 1] (by decide) rfl
  have hKc := hK.sub (tys' := []) [] rfl
  have hFc := va_free (wc := [(h0, .inr (10, [.ref fq, .ref sq, .ref gq, .ref nq, .ref dq, .ref pq, .int pl, .int vx_8, .int vx_9])), (fq, .inr (4, [.int mc_fq, .ref tE, .int 0])), (sq, .inr (4, [.int mc_sq, .ref tE, .int 0])), (gq, .inr (4, [.int mc_gq, .ref tE, .int 0])), (nq, .inr (8, [.int vx_10, .ref tq, .ref zq, .ref wq]))]) hD hS hA [0, 2, 3, 4, 1] rfl
  refine va_calli (va_runV (As := [.int r_16]) (rest := [.int 0]) ⟨hx, hb, hml, hown, hts⟩ (c_toll l hl9 dC dI tE h0 fq sq gq nq dq pq pl vx_8 vx_9 mc_fq mc_sq mc_gq tq zq wq vx_10 r_16 _ ) (cwV 1 hts (goodIn_app (goodIn_r _ [31, 32, 33, 5] (by rfl) (by decide +kernel)) gg_c_play_6_c_toll) rfl rfl rfl (by decide +kernel) ⟨Nat.le_of_ble_eq_true rfl, Nat.le_of_ble_eq_true rfl⟩) ⟨Pre0.blind, va_recv hKc hPc (ci := 10) (q0 := 0) rfl rfl, Pre0.give hPc hKc hDc hT hS hFc⟩ rfl rfl hl.1 rfl (lv_room (Nat.le_of_ble_eq_true rfl)) dX5_play_40 ⟨Nat.le_of_ble_eq_true rfl, Nat.le_of_ble_eq_true rfl⟩) hS (fun q _ h => hFc q h) hFc (fun r_17 u t H1 locs ht hvm hw hB hz1 hk1 hS => ?_)
  obtain ⟨vx_18, vx_19, vx_20, hP1, hK1, hD1⟩ := hB
  rw [ht] at hP1
  have hK1 := va_K.moved hvm.symm hK1
  obtain ⟨hP, hD⟩ := va_join (wr := []) (w1 := [(h0, .inr (10, [.ref fq, .ref sq, .ref gq, .ref nq, .ref dq, .ref pq, .int pl, .int vx_18, .int vx_19])), (nq, .inr (8, [.int vx_20, .ref tq, .ref zq, .ref wq])), (fq, .inr (4, [.int mc_fq, .ref tE, .int 0])), (sq, .inr (4, [.int mc_sq, .ref tE, .int 0])), (gq, .inr (4, [.int mc_gq, .ref tE, .int 0]))]) hP hD [0, 2, 3, 4, 1] [] rfl rfl (by decide) (by decide) hk1 hFc hP1 hD1
  generalize H1 = H at hP hS ⊢
  have hP : va_P (dC, dI) vwCl [(h0, .inr (10, [.ref fq, .ref sq, .ref gq, .ref nq, .ref dq, .ref pq, .int pl, .int vx_18, .int vx_19])), (nq, .inr (8, [.int vx_20, .ref tq, .ref zq, .ref wq])), (fq, .inr (4, [.int mc_fq, .ref tE, .int 0])), (sq, .inr (4, [.int mc_sq, .ref tE, .int 0])), (gq, .inr (4, [.int mc_gq, .ref tE, .int 0]))] H := hP
  have hD : va_D A [(h0, .inr (10, [.ref fq, .ref sq, .ref gq, .ref nq, .ref dq, .ref pq, .int pl, .int vx_18, .int vx_19])), (nq, .inr (8, [.int vx_20, .ref tq, .ref zq, .ref wq])), (fq, .inr (4, [.int mc_fq, .ref tE, .int 0])), (sq, .inr (4, [.int mc_sq, .ref tE, .int 0])), (gq, .inr (4, [.int mc_gq, .ref tE, .int 0]))] := hD
  refine W.widen (k := 0) (n := 0) (by omega) (by omega) ?_
  obtain rfl : r_17 = 0 := hw
  refine lv_iadd hx hb dX5_play_43 ?_
  refine lv_topi (fun x_21 e_22 => ?_)
  obtain rfl : x_21 = 0 := e_22.trans (by decide)
  refine lv_istore_n (lv' := [(3, .int 0), (4, .int 10000), (2, .int 1000000), (0, .ref h0), (1, .int p0)]) hx hb dX5_play_44 rfl hl (by decide) rfl (fun ls hl => ?_)
  refine lv_iload hx hb dX5_play_45 (lv_at hl 1 rfl) ?_
  refine lv_bipush (v := 10) hx hb dX5_play_47 (by decide) ?_
  refine lv_idiv hx hb dX5_play_49 (by decide) ?_
  refine lv_topi (fun x_23 e_24 => ?_)
  obtain rfl : x_23 = 1000 := e_24.trans (by decide)
  refine lv_istore (lv' := [(4, .int 1000), (3, .int 0), (2, .int 1000000), (0, .ref h0), (1, .int p0)]) hx hb dX5_play_50 hl (by decide) rfl (fun ls hl => ?_)
  refine lv_goto (tgt := 27) hx hb dX5_play_52 (by decide) ?_
  refine lv_iload hx hb dX5_play_27 (lv_at hl 0 rfl) ?_
  refine lv_if_le (tgt := 55) hx hb dX5_play_29 (by decide) (fun c_25 => absurd c_25 (by decide)) (fun _ => ?_)
  refine lv_iload_n hx hb dX5_play_32 rfl (lv_at hl 1 rfl) ?_
  refine lv_aload_n hx hb dX5_play_33 rfl (lv_at hl 3 rfl) ?_
  refine lv_iload_n hx hb dX5_play_34 rfl (lv_at hl 4 rfl) ?_
  refine lv_iload hx hb dX5_play_35 (lv_at hl 0 rfl) ?_
  have hPc := hP.sub (ws' := []) [] rfl
  have hDc := hD.sub (ws' := []) [] (by decide) rfl
  have hKc := hK.sub (tys' := []) [] rfl
  have hFc := va_free (wc := []) hD hS hA [] rfl
  refine va_calli (va_runS (As := [.int p0, .int 1000]) (rest := [.ref h0, .int 0]) ⟨hx, hb, hml, hown, hts⟩ (c_toneAt l hl9 dC dI tE p0 1000 _ (by first | assumption | decide | omega) (by first | assumption | decide | omega)) (va_cwS 2 hts (goodIn_app (goodIn_r _ [7, 8, 5] (by rfl) (by decide +kernel)) gg_c_play_6_c_toneAt) rfl rfl rfl (by decide +kernel) ⟨Nat.le_of_ble_eq_true rfl, Nat.le_of_ble_eq_true rfl⟩) ⟨Pre0.blind, Pre0.give hPc hKc hDc hT hS hFc⟩ rfl rfl hl.1 rfl (lv_room (Nat.le_of_ble_eq_true rfl)) dX5_play_37 ⟨Nat.le_of_ble_eq_true rfl, Nat.le_of_ble_eq_true rfl⟩) hS (fun q _ h => hFc q h) hFc (fun r_26 u t H1 locs ht hvm hw hB hz1 hk1 hS => ?_)
  obtain ⟨hP1, hK1, hD1⟩ := hB
  rw [ht] at hP1
  have hK1 := va_K.moved hvm.symm hK1
  obtain ⟨hP, hD⟩ := va_join (wr := [(h0, .inr (10, [.ref fq, .ref sq, .ref gq, .ref nq, .ref dq, .ref pq, .int pl, .int vx_18, .int vx_19])), (nq, .inr (8, [.int vx_20, .ref tq, .ref zq, .ref wq])), (fq, .inr (4, [.int mc_fq, .ref tE, .int 0])), (sq, .inr (4, [.int mc_sq, .ref tE, .int 0])), (gq, .inr (4, [.int mc_gq, .ref tE, .int 0]))]) (w1 := []) hP hD [] [0, 1, 2, 3, 4] rfl rfl (by decide) (by decide) hk1 hFc hP1 hD1
  generalize H1 = H at hP hS ⊢
  have hP : va_P (dC, dI) vwCl [(h0, .inr (10, [.ref fq, .ref sq, .ref gq, .ref nq, .ref dq, .ref pq, .int pl, .int vx_18, .int vx_19])), (nq, .inr (8, [.int vx_20, .ref tq, .ref zq, .ref wq])), (fq, .inr (4, [.int mc_fq, .ref tE, .int 0])), (sq, .inr (4, [.int mc_sq, .ref tE, .int 0])), (gq, .inr (4, [.int mc_gq, .ref tE, .int 0]))] H := hP
  have hD : va_D A [(h0, .inr (10, [.ref fq, .ref sq, .ref gq, .ref nq, .ref dq, .ref pq, .int pl, .int vx_18, .int vx_19])), (nq, .inr (8, [.int vx_20, .ref tq, .ref zq, .ref wq])), (fq, .inr (4, [.int mc_fq, .ref tE, .int 0])), (sq, .inr (4, [.int mc_sq, .ref tE, .int 0])), (gq, .inr (4, [.int mc_gq, .ref tE, .int 0]))] := hD
  refine W.widen (k := 0) (n := 0) (by omega) (by omega) ?_
  have hPc := hP.sub (ws' := [(h0, .inr (10, [.ref fq, .ref sq, .ref gq, .ref nq, .ref dq, .ref pq, .int pl, .int vx_18, .int vx_19])), (fq, .inr (4, [.int mc_fq, .ref tE, .int 0])), (sq, .inr (4, [.int mc_sq, .ref tE, .int 0])), (gq, .inr (4, [.int mc_gq, .ref tE, .int 0])), (nq, .inr (8, [.int vx_20, .ref tq, .ref zq, .ref wq]))]) [0, 2, 3, 4, 1] rfl
  have hDc := hD.sub (ws' := [(h0, .inr (10, [.ref fq, .ref sq, .ref gq, .ref nq, .ref dq, .ref pq, .int pl, .int vx_18, .int vx_19])), (fq, .inr (4, [.int mc_fq, .ref tE, .int 0])), (sq, .inr (4, [.int mc_sq, .ref tE, .int 0])), (gq, .inr (4, [.int mc_gq, .ref tE, .int 0])), (nq, .inr (8, [.int vx_20, .ref tq, .ref zq, .ref wq]))]) [0, 2, 3, 4, 1] (by decide) rfl
  have hKc := hK.sub (tys' := []) [] rfl
  have hFc := va_free (wc := [(h0, .inr (10, [.ref fq, .ref sq, .ref gq, .ref nq, .ref dq, .ref pq, .int pl, .int vx_18, .int vx_19])), (fq, .inr (4, [.int mc_fq, .ref tE, .int 0])), (sq, .inr (4, [.int mc_sq, .ref tE, .int 0])), (gq, .inr (4, [.int mc_gq, .ref tE, .int 0])), (nq, .inr (8, [.int vx_20, .ref tq, .ref zq, .ref wq]))]) hD hS hA [0, 2, 3, 4, 1] rfl
  refine va_calli (va_runV (As := [.int r_26]) (rest := [.int 0]) ⟨hx, hb, hml, hown, hts⟩ (c_toll l hl9 dC dI tE h0 fq sq gq nq dq pq pl vx_18 vx_19 mc_fq mc_sq mc_gq tq zq wq vx_20 r_26 _ ) (cwV 1 hts (goodIn_app (goodIn_r _ [31, 32, 33, 5] (by rfl) (by decide +kernel)) gg_c_play_6_c_toll) rfl rfl rfl (by decide +kernel) ⟨Nat.le_of_ble_eq_true rfl, Nat.le_of_ble_eq_true rfl⟩) ⟨Pre0.blind, va_recv hKc hPc (ci := 10) (q0 := 0) rfl rfl, Pre0.give hPc hKc hDc hT hS hFc⟩ rfl rfl hl.1 rfl (lv_room (Nat.le_of_ble_eq_true rfl)) dX5_play_40 ⟨Nat.le_of_ble_eq_true rfl, Nat.le_of_ble_eq_true rfl⟩) hS (fun q _ h => hFc q h) hFc (fun r_27 u t H1 locs ht hvm hw hB hz1 hk1 hS => ?_)
  obtain ⟨vx_28, vx_29, vx_30, hP1, hK1, hD1⟩ := hB
  rw [ht] at hP1
  have hK1 := va_K.moved hvm.symm hK1
  obtain ⟨hP, hD⟩ := va_join (wr := []) (w1 := [(h0, .inr (10, [.ref fq, .ref sq, .ref gq, .ref nq, .ref dq, .ref pq, .int pl, .int vx_28, .int vx_29])), (nq, .inr (8, [.int vx_30, .ref tq, .ref zq, .ref wq])), (fq, .inr (4, [.int mc_fq, .ref tE, .int 0])), (sq, .inr (4, [.int mc_sq, .ref tE, .int 0])), (gq, .inr (4, [.int mc_gq, .ref tE, .int 0]))]) hP hD [0, 2, 3, 4, 1] [] rfl rfl (by decide) (by decide) hk1 hFc hP1 hD1
  generalize H1 = H at hP hS ⊢
  have hP : va_P (dC, dI) vwCl [(h0, .inr (10, [.ref fq, .ref sq, .ref gq, .ref nq, .ref dq, .ref pq, .int pl, .int vx_28, .int vx_29])), (nq, .inr (8, [.int vx_30, .ref tq, .ref zq, .ref wq])), (fq, .inr (4, [.int mc_fq, .ref tE, .int 0])), (sq, .inr (4, [.int mc_sq, .ref tE, .int 0])), (gq, .inr (4, [.int mc_gq, .ref tE, .int 0]))] H := hP
  have hD : va_D A [(h0, .inr (10, [.ref fq, .ref sq, .ref gq, .ref nq, .ref dq, .ref pq, .int pl, .int vx_28, .int vx_29])), (nq, .inr (8, [.int vx_30, .ref tq, .ref zq, .ref wq])), (fq, .inr (4, [.int mc_fq, .ref tE, .int 0])), (sq, .inr (4, [.int mc_sq, .ref tE, .int 0])), (gq, .inr (4, [.int mc_gq, .ref tE, .int 0]))] := hD
  refine W.widen (k := 0) (n := 0) (by omega) (by omega) ?_
  obtain rfl : r_27 = 0 := hw
  refine lv_iadd hx hb dX5_play_43 ?_
  refine lv_topi (fun x_31 e_32 => ?_)
  obtain rfl : x_31 = 0 := e_32.trans (by decide)
  refine lv_istore_n (lv' := [(3, .int 0), (4, .int 1000), (2, .int 1000000), (0, .ref h0), (1, .int p0)]) hx hb dX5_play_44 rfl hl (by decide) rfl (fun ls hl => ?_)
  refine lv_iload hx hb dX5_play_45 (lv_at hl 1 rfl) ?_
  refine lv_bipush (v := 10) hx hb dX5_play_47 (by decide) ?_
  refine lv_idiv hx hb dX5_play_49 (by decide) ?_
  refine lv_topi (fun x_33 e_34 => ?_)
  obtain rfl : x_33 = 100 := e_34.trans (by decide)
  refine lv_istore (lv' := [(4, .int 100), (3, .int 0), (2, .int 1000000), (0, .ref h0), (1, .int p0)]) hx hb dX5_play_50 hl (by decide) rfl (fun ls hl => ?_)
  refine lv_goto (tgt := 27) hx hb dX5_play_52 (by decide) ?_
  refine lv_iload hx hb dX5_play_27 (lv_at hl 0 rfl) ?_
  refine lv_if_le (tgt := 55) hx hb dX5_play_29 (by decide) (fun c_35 => absurd c_35 (by decide)) (fun _ => ?_)
  refine lv_iload_n hx hb dX5_play_32 rfl (lv_at hl 1 rfl) ?_
  refine lv_aload_n hx hb dX5_play_33 rfl (lv_at hl 3 rfl) ?_
  refine lv_iload_n hx hb dX5_play_34 rfl (lv_at hl 4 rfl) ?_
  refine lv_iload hx hb dX5_play_35 (lv_at hl 0 rfl) ?_
  have hPc := hP.sub (ws' := []) [] rfl
  have hDc := hD.sub (ws' := []) [] (by decide) rfl
  have hKc := hK.sub (tys' := []) [] rfl
  have hFc := va_free (wc := []) hD hS hA [] rfl
  refine va_calli (va_runS (As := [.int p0, .int 100]) (rest := [.ref h0, .int 0]) ⟨hx, hb, hml, hown, hts⟩ (c_toneAt l hl9 dC dI tE p0 100 _ (by first | assumption | decide | omega) (by first | assumption | decide | omega)) (va_cwS 2 hts (goodIn_app (goodIn_r _ [7, 8, 5] (by rfl) (by decide +kernel)) gg_c_play_6_c_toneAt) rfl rfl rfl (by decide +kernel) ⟨Nat.le_of_ble_eq_true rfl, Nat.le_of_ble_eq_true rfl⟩) ⟨Pre0.blind, Pre0.give hPc hKc hDc hT hS hFc⟩ rfl rfl hl.1 rfl (lv_room (Nat.le_of_ble_eq_true rfl)) dX5_play_37 ⟨Nat.le_of_ble_eq_true rfl, Nat.le_of_ble_eq_true rfl⟩) hS (fun q _ h => hFc q h) hFc (fun r_36 u t H1 locs ht hvm hw hB hz1 hk1 hS => ?_)
  obtain ⟨hP1, hK1, hD1⟩ := hB
  rw [ht] at hP1
  have hK1 := va_K.moved hvm.symm hK1
  obtain ⟨hP, hD⟩ := va_join (wr := [(h0, .inr (10, [.ref fq, .ref sq, .ref gq, .ref nq, .ref dq, .ref pq, .int pl, .int vx_28, .int vx_29])), (nq, .inr (8, [.int vx_30, .ref tq, .ref zq, .ref wq])), (fq, .inr (4, [.int mc_fq, .ref tE, .int 0])), (sq, .inr (4, [.int mc_sq, .ref tE, .int 0])), (gq, .inr (4, [.int mc_gq, .ref tE, .int 0]))]) (w1 := []) hP hD [] [0, 1, 2, 3, 4] rfl rfl (by decide) (by decide) hk1 hFc hP1 hD1
  generalize H1 = H at hP hS ⊢
  have hP : va_P (dC, dI) vwCl [(h0, .inr (10, [.ref fq, .ref sq, .ref gq, .ref nq, .ref dq, .ref pq, .int pl, .int vx_28, .int vx_29])), (nq, .inr (8, [.int vx_30, .ref tq, .ref zq, .ref wq])), (fq, .inr (4, [.int mc_fq, .ref tE, .int 0])), (sq, .inr (4, [.int mc_sq, .ref tE, .int 0])), (gq, .inr (4, [.int mc_gq, .ref tE, .int 0]))] H := hP
  have hD : va_D A [(h0, .inr (10, [.ref fq, .ref sq, .ref gq, .ref nq, .ref dq, .ref pq, .int pl, .int vx_28, .int vx_29])), (nq, .inr (8, [.int vx_30, .ref tq, .ref zq, .ref wq])), (fq, .inr (4, [.int mc_fq, .ref tE, .int 0])), (sq, .inr (4, [.int mc_sq, .ref tE, .int 0])), (gq, .inr (4, [.int mc_gq, .ref tE, .int 0]))] := hD
  refine W.widen (k := 0) (n := 0) (by omega) (by omega) ?_
  have hPc := hP.sub (ws' := [(h0, .inr (10, [.ref fq, .ref sq, .ref gq, .ref nq, .ref dq, .ref pq, .int pl, .int vx_28, .int vx_29])), (fq, .inr (4, [.int mc_fq, .ref tE, .int 0])), (sq, .inr (4, [.int mc_sq, .ref tE, .int 0])), (gq, .inr (4, [.int mc_gq, .ref tE, .int 0])), (nq, .inr (8, [.int vx_30, .ref tq, .ref zq, .ref wq]))]) [0, 2, 3, 4, 1] rfl
  have hDc := hD.sub (ws' := [(h0, .inr (10, [.ref fq, .ref sq, .ref gq, .ref nq, .ref dq, .ref pq, .int pl, .int vx_28, .int vx_29])), (fq, .inr (4, [.int mc_fq, .ref tE, .int 0])), (sq, .inr (4, [.int mc_sq, .ref tE, .int 0])), (gq, .inr (4, [.int mc_gq, .ref tE, .int 0])), (nq, .inr (8, [.int vx_30, .ref tq, .ref zq, .ref wq]))]) [0, 2, 3, 4, 1] (by decide) rfl
  have hKc := hK.sub (tys' := []) [] rfl
  have hFc := va_free (wc := [(h0, .inr (10, [.ref fq, .ref sq, .ref gq, .ref nq, .ref dq, .ref pq, .int pl, .int vx_28, .int vx_29])), (fq, .inr (4, [.int mc_fq, .ref tE, .int 0])), (sq, .inr (4, [.int mc_sq, .ref tE, .int 0])), (gq, .inr (4, [.int mc_gq, .ref tE, .int 0])), (nq, .inr (8, [.int vx_30, .ref tq, .ref zq, .ref wq]))]) hD hS hA [0, 2, 3, 4, 1] rfl
  refine va_calli (va_runV (As := [.int r_36]) (rest := [.int 0]) ⟨hx, hb, hml, hown, hts⟩ (c_toll l hl9 dC dI tE h0 fq sq gq nq dq pq pl vx_28 vx_29 mc_fq mc_sq mc_gq tq zq wq vx_30 r_36 _ ) (cwV 1 hts (goodIn_app (goodIn_r _ [31, 32, 33, 5] (by rfl) (by decide +kernel)) gg_c_play_6_c_toll) rfl rfl rfl (by decide +kernel) ⟨Nat.le_of_ble_eq_true rfl, Nat.le_of_ble_eq_true rfl⟩) ⟨Pre0.blind, va_recv hKc hPc (ci := 10) (q0 := 0) rfl rfl, Pre0.give hPc hKc hDc hT hS hFc⟩ rfl rfl hl.1 rfl (lv_room (Nat.le_of_ble_eq_true rfl)) dX5_play_40 ⟨Nat.le_of_ble_eq_true rfl, Nat.le_of_ble_eq_true rfl⟩) hS (fun q _ h => hFc q h) hFc (fun r_37 u t H1 locs ht hvm hw hB hz1 hk1 hS => ?_)
  obtain ⟨vx_38, vx_39, vx_40, hP1, hK1, hD1⟩ := hB
  rw [ht] at hP1
  have hK1 := va_K.moved hvm.symm hK1
  obtain ⟨hP, hD⟩ := va_join (wr := []) (w1 := [(h0, .inr (10, [.ref fq, .ref sq, .ref gq, .ref nq, .ref dq, .ref pq, .int pl, .int vx_38, .int vx_39])), (nq, .inr (8, [.int vx_40, .ref tq, .ref zq, .ref wq])), (fq, .inr (4, [.int mc_fq, .ref tE, .int 0])), (sq, .inr (4, [.int mc_sq, .ref tE, .int 0])), (gq, .inr (4, [.int mc_gq, .ref tE, .int 0]))]) hP hD [0, 2, 3, 4, 1] [] rfl rfl (by decide) (by decide) hk1 hFc hP1 hD1
  generalize H1 = H at hP hS ⊢
  have hP : va_P (dC, dI) vwCl [(h0, .inr (10, [.ref fq, .ref sq, .ref gq, .ref nq, .ref dq, .ref pq, .int pl, .int vx_38, .int vx_39])), (nq, .inr (8, [.int vx_40, .ref tq, .ref zq, .ref wq])), (fq, .inr (4, [.int mc_fq, .ref tE, .int 0])), (sq, .inr (4, [.int mc_sq, .ref tE, .int 0])), (gq, .inr (4, [.int mc_gq, .ref tE, .int 0]))] H := hP
  have hD : va_D A [(h0, .inr (10, [.ref fq, .ref sq, .ref gq, .ref nq, .ref dq, .ref pq, .int pl, .int vx_38, .int vx_39])), (nq, .inr (8, [.int vx_40, .ref tq, .ref zq, .ref wq])), (fq, .inr (4, [.int mc_fq, .ref tE, .int 0])), (sq, .inr (4, [.int mc_sq, .ref tE, .int 0])), (gq, .inr (4, [.int mc_gq, .ref tE, .int 0]))] := hD
  refine W.widen (k := 0) (n := 0) (by omega) (by omega) ?_
  obtain rfl : r_37 = 0 := hw
  refine lv_iadd hx hb dX5_play_43 ?_
  refine lv_topi (fun x_41 e_42 => ?_)
  obtain rfl : x_41 = 0 := e_42.trans (by decide)
  refine lv_istore_n (lv' := [(3, .int 0), (4, .int 100), (2, .int 1000000), (0, .ref h0), (1, .int p0)]) hx hb dX5_play_44 rfl hl (by decide) rfl (fun ls hl => ?_)
  refine lv_iload hx hb dX5_play_45 (lv_at hl 1 rfl) ?_
  refine lv_bipush (v := 10) hx hb dX5_play_47 (by decide) ?_
  refine lv_idiv hx hb dX5_play_49 (by decide) ?_
  refine lv_topi (fun x_43 e_44 => ?_)
  obtain rfl : x_43 = 10 := e_44.trans (by decide)
  refine lv_istore (lv' := [(4, .int 10), (3, .int 0), (2, .int 1000000), (0, .ref h0), (1, .int p0)]) hx hb dX5_play_50 hl (by decide) rfl (fun ls hl => ?_)
  refine lv_goto (tgt := 27) hx hb dX5_play_52 (by decide) ?_
  refine lv_iload hx hb dX5_play_27 (lv_at hl 0 rfl) ?_
  refine lv_if_le (tgt := 55) hx hb dX5_play_29 (by decide) (fun c_45 => absurd c_45 (by decide)) (fun _ => ?_)
  refine lv_iload_n hx hb dX5_play_32 rfl (lv_at hl 1 rfl) ?_
  refine lv_aload_n hx hb dX5_play_33 rfl (lv_at hl 3 rfl) ?_
  refine lv_iload_n hx hb dX5_play_34 rfl (lv_at hl 4 rfl) ?_
  refine lv_iload hx hb dX5_play_35 (lv_at hl 0 rfl) ?_
  have hPc := hP.sub (ws' := []) [] rfl
  have hDc := hD.sub (ws' := []) [] (by decide) rfl
  have hKc := hK.sub (tys' := []) [] rfl
  have hFc := va_free (wc := []) hD hS hA [] rfl
  refine va_calli (va_runS (As := [.int p0, .int 10]) (rest := [.ref h0, .int 0]) ⟨hx, hb, hml, hown, hts⟩ (c_toneAt l hl9 dC dI tE p0 10 _ (by first | assumption | decide | omega) (by first | assumption | decide | omega)) (va_cwS 2 hts (goodIn_app (goodIn_r _ [7, 8, 5] (by rfl) (by decide +kernel)) gg_c_play_6_c_toneAt) rfl rfl rfl (by decide +kernel) ⟨Nat.le_of_ble_eq_true rfl, Nat.le_of_ble_eq_true rfl⟩) ⟨Pre0.blind, Pre0.give hPc hKc hDc hT hS hFc⟩ rfl rfl hl.1 rfl (lv_room (Nat.le_of_ble_eq_true rfl)) dX5_play_37 ⟨Nat.le_of_ble_eq_true rfl, Nat.le_of_ble_eq_true rfl⟩) hS (fun q _ h => hFc q h) hFc (fun r_46 u t H1 locs ht hvm hw hB hz1 hk1 hS => ?_)
  obtain ⟨hP1, hK1, hD1⟩ := hB
  rw [ht] at hP1
  have hK1 := va_K.moved hvm.symm hK1
  obtain ⟨hP, hD⟩ := va_join (wr := [(h0, .inr (10, [.ref fq, .ref sq, .ref gq, .ref nq, .ref dq, .ref pq, .int pl, .int vx_38, .int vx_39])), (nq, .inr (8, [.int vx_40, .ref tq, .ref zq, .ref wq])), (fq, .inr (4, [.int mc_fq, .ref tE, .int 0])), (sq, .inr (4, [.int mc_sq, .ref tE, .int 0])), (gq, .inr (4, [.int mc_gq, .ref tE, .int 0]))]) (w1 := []) hP hD [] [0, 1, 2, 3, 4] rfl rfl (by decide) (by decide) hk1 hFc hP1 hD1
  generalize H1 = H at hP hS ⊢
  have hP : va_P (dC, dI) vwCl [(h0, .inr (10, [.ref fq, .ref sq, .ref gq, .ref nq, .ref dq, .ref pq, .int pl, .int vx_38, .int vx_39])), (nq, .inr (8, [.int vx_40, .ref tq, .ref zq, .ref wq])), (fq, .inr (4, [.int mc_fq, .ref tE, .int 0])), (sq, .inr (4, [.int mc_sq, .ref tE, .int 0])), (gq, .inr (4, [.int mc_gq, .ref tE, .int 0]))] H := hP
  have hD : va_D A [(h0, .inr (10, [.ref fq, .ref sq, .ref gq, .ref nq, .ref dq, .ref pq, .int pl, .int vx_38, .int vx_39])), (nq, .inr (8, [.int vx_40, .ref tq, .ref zq, .ref wq])), (fq, .inr (4, [.int mc_fq, .ref tE, .int 0])), (sq, .inr (4, [.int mc_sq, .ref tE, .int 0])), (gq, .inr (4, [.int mc_gq, .ref tE, .int 0]))] := hD
  refine W.widen (k := 0) (n := 0) (by omega) (by omega) ?_
  have hPc := hP.sub (ws' := [(h0, .inr (10, [.ref fq, .ref sq, .ref gq, .ref nq, .ref dq, .ref pq, .int pl, .int vx_38, .int vx_39])), (fq, .inr (4, [.int mc_fq, .ref tE, .int 0])), (sq, .inr (4, [.int mc_sq, .ref tE, .int 0])), (gq, .inr (4, [.int mc_gq, .ref tE, .int 0])), (nq, .inr (8, [.int vx_40, .ref tq, .ref zq, .ref wq]))]) [0, 2, 3, 4, 1] rfl
  have hDc := hD.sub (ws' := [(h0, .inr (10, [.ref fq, .ref sq, .ref gq, .ref nq, .ref dq, .ref pq, .int pl, .int vx_38, .int vx_39])), (fq, .inr (4, [.int mc_fq, .ref tE, .int 0])), (sq, .inr (4, [.int mc_sq, .ref tE, .int 0])), (gq, .inr (4, [.int mc_gq, .ref tE, .int 0])), (nq, .inr (8, [.int vx_40, .ref tq, .ref zq, .ref wq]))]) [0, 2, 3, 4, 1] (by decide) rfl
  have hKc := hK.sub (tys' := []) [] rfl
  have hFc := va_free (wc := [(h0, .inr (10, [.ref fq, .ref sq, .ref gq, .ref nq, .ref dq, .ref pq, .int pl, .int vx_38, .int vx_39])), (fq, .inr (4, [.int mc_fq, .ref tE, .int 0])), (sq, .inr (4, [.int mc_sq, .ref tE, .int 0])), (gq, .inr (4, [.int mc_gq, .ref tE, .int 0])), (nq, .inr (8, [.int vx_40, .ref tq, .ref zq, .ref wq]))]) hD hS hA [0, 2, 3, 4, 1] rfl
  refine va_calli (va_runV (As := [.int r_46]) (rest := [.int 0]) ⟨hx, hb, hml, hown, hts⟩ (c_toll l hl9 dC dI tE h0 fq sq gq nq dq pq pl vx_38 vx_39 mc_fq mc_sq mc_gq tq zq wq vx_40 r_46 _ ) (cwV 1 hts (goodIn_app (goodIn_r _ [31, 32, 33, 5] (by rfl) (by decide +kernel)) gg_c_play_6_c_toll) rfl rfl rfl (by decide +kernel) ⟨Nat.le_of_ble_eq_true rfl, Nat.le_of_ble_eq_true rfl⟩) ⟨Pre0.blind, va_recv hKc hPc (ci := 10) (q0 := 0) rfl rfl, Pre0.give hPc hKc hDc hT hS hFc⟩ rfl rfl hl.1 rfl (lv_room (Nat.le_of_ble_eq_true rfl)) dX5_play_40 ⟨Nat.le_of_ble_eq_true rfl, Nat.le_of_ble_eq_true rfl⟩) hS (fun q _ h => hFc q h) hFc (fun r_47 u t H1 locs ht hvm hw hB hz1 hk1 hS => ?_)
  obtain ⟨vx_48, vx_49, vx_50, hP1, hK1, hD1⟩ := hB
  rw [ht] at hP1
  have hK1 := va_K.moved hvm.symm hK1
  obtain ⟨hP, hD⟩ := va_join (wr := []) (w1 := [(h0, .inr (10, [.ref fq, .ref sq, .ref gq, .ref nq, .ref dq, .ref pq, .int pl, .int vx_48, .int vx_49])), (nq, .inr (8, [.int vx_50, .ref tq, .ref zq, .ref wq])), (fq, .inr (4, [.int mc_fq, .ref tE, .int 0])), (sq, .inr (4, [.int mc_sq, .ref tE, .int 0])), (gq, .inr (4, [.int mc_gq, .ref tE, .int 0]))]) hP hD [0, 2, 3, 4, 1] [] rfl rfl (by decide) (by decide) hk1 hFc hP1 hD1
  generalize H1 = H at hP hS ⊢
  have hP : va_P (dC, dI) vwCl [(h0, .inr (10, [.ref fq, .ref sq, .ref gq, .ref nq, .ref dq, .ref pq, .int pl, .int vx_48, .int vx_49])), (nq, .inr (8, [.int vx_50, .ref tq, .ref zq, .ref wq])), (fq, .inr (4, [.int mc_fq, .ref tE, .int 0])), (sq, .inr (4, [.int mc_sq, .ref tE, .int 0])), (gq, .inr (4, [.int mc_gq, .ref tE, .int 0]))] H := hP
  have hD : va_D A [(h0, .inr (10, [.ref fq, .ref sq, .ref gq, .ref nq, .ref dq, .ref pq, .int pl, .int vx_48, .int vx_49])), (nq, .inr (8, [.int vx_50, .ref tq, .ref zq, .ref wq])), (fq, .inr (4, [.int mc_fq, .ref tE, .int 0])), (sq, .inr (4, [.int mc_sq, .ref tE, .int 0])), (gq, .inr (4, [.int mc_gq, .ref tE, .int 0]))] := hD
  refine W.widen (k := 0) (n := 0) (by omega) (by omega) ?_
  obtain rfl : r_47 = 0 := hw
  refine lv_iadd hx hb dX5_play_43 ?_
  refine lv_topi (fun x_51 e_52 => ?_)
  obtain rfl : x_51 = 0 := e_52.trans (by decide)
  refine lv_istore_n (lv' := [(3, .int 0), (4, .int 10), (2, .int 1000000), (0, .ref h0), (1, .int p0)]) hx hb dX5_play_44 rfl hl (by decide) rfl (fun ls hl => ?_)
  refine lv_iload hx hb dX5_play_45 (lv_at hl 1 rfl) ?_
  refine lv_bipush (v := 10) hx hb dX5_play_47 (by decide) ?_
  refine lv_idiv hx hb dX5_play_49 (by decide) ?_
  refine lv_topi (fun x_53 e_54 => ?_)
  obtain rfl : x_53 = 1 := e_54.trans (by decide)
  refine lv_istore (lv' := [(4, .int 1), (3, .int 0), (2, .int 1000000), (0, .ref h0), (1, .int p0)]) hx hb dX5_play_50 hl (by decide) rfl (fun ls hl => ?_)
  refine lv_goto (tgt := 27) hx hb dX5_play_52 (by decide) ?_
  refine lv_iload hx hb dX5_play_27 (lv_at hl 0 rfl) ?_
  refine lv_if_le (tgt := 55) hx hb dX5_play_29 (by decide) (fun c_55 => absurd c_55 (by decide)) (fun _ => ?_)
  refine lv_iload_n hx hb dX5_play_32 rfl (lv_at hl 1 rfl) ?_
  refine lv_aload_n hx hb dX5_play_33 rfl (lv_at hl 3 rfl) ?_
  refine lv_iload_n hx hb dX5_play_34 rfl (lv_at hl 4 rfl) ?_
  refine lv_iload hx hb dX5_play_35 (lv_at hl 0 rfl) ?_
  have hPc := hP.sub (ws' := []) [] rfl
  have hDc := hD.sub (ws' := []) [] (by decide) rfl
  have hKc := hK.sub (tys' := []) [] rfl
  have hFc := va_free (wc := []) hD hS hA [] rfl
  refine va_calli (va_runS (As := [.int p0, .int 1]) (rest := [.ref h0, .int 0]) ⟨hx, hb, hml, hown, hts⟩ (c_toneAt l hl9 dC dI tE p0 1 _ (by first | assumption | decide | omega) (by first | assumption | decide | omega)) (va_cwS 2 hts (goodIn_app (goodIn_r _ [7, 8, 5] (by rfl) (by decide +kernel)) gg_c_play_6_c_toneAt) rfl rfl rfl (by decide +kernel) ⟨Nat.le_of_ble_eq_true rfl, Nat.le_of_ble_eq_true rfl⟩) ⟨Pre0.blind, Pre0.give hPc hKc hDc hT hS hFc⟩ rfl rfl hl.1 rfl (lv_room (Nat.le_of_ble_eq_true rfl)) dX5_play_37 ⟨Nat.le_of_ble_eq_true rfl, Nat.le_of_ble_eq_true rfl⟩) hS (fun q _ h => hFc q h) hFc (fun r_56 u t H1 locs ht hvm hw hB hz1 hk1 hS => ?_)
  obtain ⟨hP1, hK1, hD1⟩ := hB
  rw [ht] at hP1
  have hK1 := va_K.moved hvm.symm hK1
  obtain ⟨hP, hD⟩ := va_join (wr := [(h0, .inr (10, [.ref fq, .ref sq, .ref gq, .ref nq, .ref dq, .ref pq, .int pl, .int vx_48, .int vx_49])), (nq, .inr (8, [.int vx_50, .ref tq, .ref zq, .ref wq])), (fq, .inr (4, [.int mc_fq, .ref tE, .int 0])), (sq, .inr (4, [.int mc_sq, .ref tE, .int 0])), (gq, .inr (4, [.int mc_gq, .ref tE, .int 0]))]) (w1 := []) hP hD [] [0, 1, 2, 3, 4] rfl rfl (by decide) (by decide) hk1 hFc hP1 hD1
  generalize H1 = H at hP hS ⊢
  have hP : va_P (dC, dI) vwCl [(h0, .inr (10, [.ref fq, .ref sq, .ref gq, .ref nq, .ref dq, .ref pq, .int pl, .int vx_48, .int vx_49])), (nq, .inr (8, [.int vx_50, .ref tq, .ref zq, .ref wq])), (fq, .inr (4, [.int mc_fq, .ref tE, .int 0])), (sq, .inr (4, [.int mc_sq, .ref tE, .int 0])), (gq, .inr (4, [.int mc_gq, .ref tE, .int 0]))] H := hP
  have hD : va_D A [(h0, .inr (10, [.ref fq, .ref sq, .ref gq, .ref nq, .ref dq, .ref pq, .int pl, .int vx_48, .int vx_49])), (nq, .inr (8, [.int vx_50, .ref tq, .ref zq, .ref wq])), (fq, .inr (4, [.int mc_fq, .ref tE, .int 0])), (sq, .inr (4, [.int mc_sq, .ref tE, .int 0])), (gq, .inr (4, [.int mc_gq, .ref tE, .int 0]))] := hD
  refine W.widen (k := 0) (n := 0) (by omega) (by omega) ?_
  have hPc := hP.sub (ws' := [(h0, .inr (10, [.ref fq, .ref sq, .ref gq, .ref nq, .ref dq, .ref pq, .int pl, .int vx_48, .int vx_49])), (fq, .inr (4, [.int mc_fq, .ref tE, .int 0])), (sq, .inr (4, [.int mc_sq, .ref tE, .int 0])), (gq, .inr (4, [.int mc_gq, .ref tE, .int 0])), (nq, .inr (8, [.int vx_50, .ref tq, .ref zq, .ref wq]))]) [0, 2, 3, 4, 1] rfl
  have hDc := hD.sub (ws' := [(h0, .inr (10, [.ref fq, .ref sq, .ref gq, .ref nq, .ref dq, .ref pq, .int pl, .int vx_48, .int vx_49])), (fq, .inr (4, [.int mc_fq, .ref tE, .int 0])), (sq, .inr (4, [.int mc_sq, .ref tE, .int 0])), (gq, .inr (4, [.int mc_gq, .ref tE, .int 0])), (nq, .inr (8, [.int vx_50, .ref tq, .ref zq, .ref wq]))]) [0, 2, 3, 4, 1] (by decide) rfl
  have hKc := hK.sub (tys' := []) [] rfl
  have hFc := va_free (wc := [(h0, .inr (10, [.ref fq, .ref sq, .ref gq, .ref nq, .ref dq, .ref pq, .int pl, .int vx_48, .int vx_49])), (fq, .inr (4, [.int mc_fq, .ref tE, .int 0])), (sq, .inr (4, [.int mc_sq, .ref tE, .int 0])), (gq, .inr (4, [.int mc_gq, .ref tE, .int 0])), (nq, .inr (8, [.int vx_50, .ref tq, .ref zq, .ref wq]))]) hD hS hA [0, 2, 3, 4, 1] rfl
  refine va_calli (va_runV (As := [.int r_56]) (rest := [.int 0]) ⟨hx, hb, hml, hown, hts⟩ (c_toll l hl9 dC dI tE h0 fq sq gq nq dq pq pl vx_48 vx_49 mc_fq mc_sq mc_gq tq zq wq vx_50 r_56 _ ) (cwV 1 hts (goodIn_app (goodIn_r _ [31, 32, 33, 5] (by rfl) (by decide +kernel)) gg_c_play_6_c_toll) rfl rfl rfl (by decide +kernel) ⟨Nat.le_of_ble_eq_true rfl, Nat.le_of_ble_eq_true rfl⟩) ⟨Pre0.blind, va_recv hKc hPc (ci := 10) (q0 := 0) rfl rfl, Pre0.give hPc hKc hDc hT hS hFc⟩ rfl rfl hl.1 rfl (lv_room (Nat.le_of_ble_eq_true rfl)) dX5_play_40 ⟨Nat.le_of_ble_eq_true rfl, Nat.le_of_ble_eq_true rfl⟩) hS (fun q _ h => hFc q h) hFc (fun r_57 u t H1 locs ht hvm hw hB hz1 hk1 hS => ?_)
  obtain ⟨vx_58, vx_59, vx_60, hP1, hK1, hD1⟩ := hB
  rw [ht] at hP1
  have hK1 := va_K.moved hvm.symm hK1
  obtain ⟨hP, hD⟩ := va_join (wr := []) (w1 := [(h0, .inr (10, [.ref fq, .ref sq, .ref gq, .ref nq, .ref dq, .ref pq, .int pl, .int vx_58, .int vx_59])), (nq, .inr (8, [.int vx_60, .ref tq, .ref zq, .ref wq])), (fq, .inr (4, [.int mc_fq, .ref tE, .int 0])), (sq, .inr (4, [.int mc_sq, .ref tE, .int 0])), (gq, .inr (4, [.int mc_gq, .ref tE, .int 0]))]) hP hD [0, 2, 3, 4, 1] [] rfl rfl (by decide) (by decide) hk1 hFc hP1 hD1
  generalize H1 = H at hP hS ⊢
  have hP : va_P (dC, dI) vwCl [(h0, .inr (10, [.ref fq, .ref sq, .ref gq, .ref nq, .ref dq, .ref pq, .int pl, .int vx_58, .int vx_59])), (nq, .inr (8, [.int vx_60, .ref tq, .ref zq, .ref wq])), (fq, .inr (4, [.int mc_fq, .ref tE, .int 0])), (sq, .inr (4, [.int mc_sq, .ref tE, .int 0])), (gq, .inr (4, [.int mc_gq, .ref tE, .int 0]))] H := hP
  have hD : va_D A [(h0, .inr (10, [.ref fq, .ref sq, .ref gq, .ref nq, .ref dq, .ref pq, .int pl, .int vx_58, .int vx_59])), (nq, .inr (8, [.int vx_60, .ref tq, .ref zq, .ref wq])), (fq, .inr (4, [.int mc_fq, .ref tE, .int 0])), (sq, .inr (4, [.int mc_sq, .ref tE, .int 0])), (gq, .inr (4, [.int mc_gq, .ref tE, .int 0]))] := hD
  refine W.widen (k := 0) (n := 0) (by omega) (by omega) ?_
  obtain rfl : r_57 = 0 := hw
  refine lv_iadd hx hb dX5_play_43 ?_
  refine lv_topi (fun x_61 e_62 => ?_)
  obtain rfl : x_61 = 0 := e_62.trans (by decide)
  refine lv_istore_n (lv' := [(3, .int 0), (4, .int 1), (2, .int 1000000), (0, .ref h0), (1, .int p0)]) hx hb dX5_play_44 rfl hl (by decide) rfl (fun ls hl => ?_)
  refine lv_iload hx hb dX5_play_45 (lv_at hl 1 rfl) ?_
  refine lv_bipush (v := 10) hx hb dX5_play_47 (by decide) ?_
  refine lv_idiv hx hb dX5_play_49 (by decide) ?_
  refine lv_topi (fun x_63 e_64 => ?_)
  obtain rfl : x_63 = 0 := e_64.trans (by decide)
  refine lv_istore (lv' := [(4, .int 0), (3, .int 0), (2, .int 1000000), (0, .ref h0), (1, .int p0)]) hx hb dX5_play_50 hl (by decide) rfl (fun ls hl => ?_)
  refine lv_goto (tgt := 27) hx hb dX5_play_52 (by decide) ?_
  refine lv_iload hx hb dX5_play_27 (lv_at hl 0 rfl) ?_
  refine lv_if_le (tgt := 55) hx hb dX5_play_29 (by decide) (fun _ => ?_) (fun c_65 => absurd (by decide) c_65)
  refine lv_iload_n hx hb dX5_play_55 rfl (lv_at hl 1 rfl) ?_
  have hP9 := hP.sub (ws' := [(h0, .inr (10, [.ref fq, .ref sq, .ref gq, .ref nq, .ref dq, .ref pq, .int pl, .int vx_58, .int vx_59])), (nq, .inr (8, [.int vx_60, .ref tq, .ref zq, .ref wq])), (fq, .inr (4, [.int mc_fq, .ref tE, .int 0])), (sq, .inr (4, [.int mc_sq, .ref tE, .int 0])), (gq, .inr (4, [.int mc_gq, .ref tE, .int 0]))]) [0, 1, 2, 3, 4] rfl
  have hD9 := hD.sub (ws' := [(h0, .inr (10, [.ref fq, .ref sq, .ref gq, .ref nq, .ref dq, .ref pq, .int pl, .int vx_58, .int vx_59])), (nq, .inr (8, [.int vx_60, .ref tq, .ref zq, .ref wq])), (fq, .inr (4, [.int mc_fq, .ref tE, .int 0])), (sq, .inr (4, [.int mc_sq, .ref tE, .int 0])), (gq, .inr (4, [.int mc_gq, .ref tE, .int 0]))]) [0, 1, 2, 3, 4] (by decide) rfl
  have hK9 := hK.sub (tys' := []) [] rfl
  exact W.iret (v := 0) hx hb hr (fun t ht hW => ⟨⟨0, (), rfl, rfl, vx_58, vx_59, vx_60, by rw [ht]; exact hP9, va_K.moved hW.alike hK9, hD9⟩, hS.F ht⟩) hS.2.2 dX5_play_56
def vh_c_play_0 : List Cond := .code yX5_play cX5_play 5 (some .int) :: ([Cond.code yX5_spanOf cX5_spanOf 4 (some .int), Cond.constant RX5 284 (444444), Cond.methodLink RX5 76 yX5_spanOf, Cond.static yX5_spanOf, Cond.initialized RX5, Cond.classLink RX5 42 "java/lang/IllegalArgumentException", Cond.initialized "java/lang/IllegalArgumentException"] ++ [])
def v_c_play_0 : List Cond := vh_c_play_0 ++ (thrI)
theorem gg_c_play_0_c_spanOf : GoodIn v_c_play_0 v_c_spanOf := goodIn_r _ [1, 2] (by rfl) (by decide +kernel)
set_option maxHeartbeats 4000000 in
set_option maxRecDepth 100000 in
theorem c_play_0 (l : Launch) (hl9 : l.stackTraces = false) (dC : Nat → ClassId) (dI : Nat → Nat → Nat) (tE : Nat) (h0 : Nat) (fq : Nat) (sq : Nat) (gq : Nat) (nq : Nat) (dq : Nat) (pq : Nat) (pl : Int32) (bl : Int32) (tb : Int32) (p0 : Int32) (sz : Nat) (hd0 : dgt p0 = 0) : vx_Met l yX5_play v_c_play_0 ({ frames := 6, cells := 1, slots := 6, locals := 90 }) (va_Pc [.ref h0, .int p0] (Pre0 dC dI tE sz [] [(h0, .inr (10, [.ref fq, .ref sq, .ref gq, .ref nq, .ref dq, .ref pq, .int pl, .int bl, .int tb]))])) (va_Qi (fun (r : Int32) (_ : Unit) => False) (fun _ t => Pst dC dI [] (va_A [(h0, .inr (10, [.ref fq, .ref sq, .ref gq, .ref nq, .ref dq, .ref pq, .int pl, .int bl, .int tb]))] sz) [(h0, .inr (10, [.ref fq, .ref sq, .ref gq, .ref nq, .ref dq, .ref pq, .int pl, .int bl, .int tb]))] t) (va_A [(h0, .inr (10, [.ref fq, .ref sq, .ref gq, .ref nq, .ref dq, .ref pq, .int pl, .int bl, .int tb]))] sz)) (vx_X (fun _ : Unit => True) (fun E _ t => E = "java/lang/IllegalArgumentException" ∧ Pst dC dI [] (va_A [(h0, .inr (10, [.ref fq, .ref sq, .ref gq, .ref nq, .ref dq, .ref pq, .int pl, .int bl, .int tb]))] sz) [(h0, .inr (10, [.ref fq, .ref sq, .ref gq, .ref nq, .ref dq, .ref pq, .int pl, .int bl, .int tb]))] t) (va_A [(h0, .inr (10, [.ref fq, .ref sq, .ref gq, .ref nq, .ref dq, .ref pq, .int pl, .int bl, .int tb]))] sz)) 1 6 (va_A [(h0, .inr (10, [.ref fq, .ref sq, .ref gq, .ref nq, .ref dq, .ref pq, .int pl, .int bl, .int tb]))] sz) := by
  refine vx_ofW (cc := cX5_play) (maxL := 5) (ret := (some .int)) (by decide) rfl ?_
  intro p e s m args below meth c s₁ B hml hEx hv
  obtain ⟨rfl, hsz, hP, hK, hD0, hT⟩ := hv
  have hx := B.exec
  have hb := B.bytes
  have hr := B.returns
  have hts := atoms_spec (ws := v_c_play_0) B.pre
  have hown : s.vm.findClass RX5 = some m.cls := findClass_of_methodNamed B.named
  have hlocks := B.notSynchronized
  subst hsz
  have hD := hD0.self (sz := s.heap.size)
  generalize hAe : va_A [(h0, .inr (10, [.ref fq, .ref sq, .ref gq, .ref nq, .ref dq, .ref pq, .int pl, .int bl, .int tb]))] s.heap.size = A at hD hT ⊢
  have hA : ∀ q : Nat, s.heap.size ≤ q → A q := fun q h => by rw [← hAe]; exact Or.inr h
  have hS : va_S A s.heap s.heap [] := va_S.rf
  have hl := lv_entry ([.ref h0, .int p0]) (n := 5) (Nat.le_of_ble_eq_true rfl)
  rw [lg_entry_eq]
  generalize (lg_sl ([.ref h0, .int p0]) ++ List.replicate (5 - (lg_sl ([.ref h0, .int p0])).length) Slot.unset).toArray = ls at hl ⊢
  have hl : lv_has ls 5 [(0, .ref h0), (1, .int p0)] := hl
  refine lv_iload_n hx hb dX5_play_0 rfl (lv_at hl 1 rfl) ?_
  have hPc := hP.sub (ws' := []) [] rfl
  have hDc := hD.sub (ws' := []) [] (by decide) rfl
  have hKc := hK.sub (tys' := []) [] rfl
  have hFc := va_free (wc := []) hD hS hA [] rfl
  refine va_calli (va_runS (As := [.int p0]) (rest := []) ⟨hx, hb, hml, hown, hts⟩ (c_spanOf l hl9 dC dI tE p0 _ ) (va_cwS 1 hts (goodIn_app (goodIn_r _ [3, 4, 5] (by rfl) (by decide +kernel)) gg_c_play_0_c_spanOf) rfl rfl rfl (by decide +kernel) ⟨Nat.le_of_ble_eq_true rfl, Nat.le_of_ble_eq_true rfl⟩) ⟨Pre0.blind, Pre0.give hPc hKc hDc hT hS hFc⟩ rfl rfl hl.1 rfl (lv_room (Nat.le_of_ble_eq_true rfl)) dX5_play_1 ⟨Nat.le_of_ble_eq_true rfl, Nat.le_of_ble_eq_true rfl⟩) hS (fun q _ h => hFc q h) hFc (fun r_1 u t H1 locs ht hvm hw hB hz1 hk1 hS => ?_)
  obtain ⟨hP1, hK1, hD1⟩ := hB
  rw [ht] at hP1
  have hK1 := va_K.moved hvm.symm hK1
  obtain ⟨hP, hD⟩ := va_join (wr := [(h0, .inr (10, [.ref fq, .ref sq, .ref gq, .ref nq, .ref dq, .ref pq, .int pl, .int bl, .int tb]))]) (w1 := []) hP hD [] [0] rfl rfl (by decide) (by decide) hk1 hFc hP1 hD1
  generalize H1 = H at hP hS ⊢
  have hP : va_P (dC, dI) vwCl [(h0, .inr (10, [.ref fq, .ref sq, .ref gq, .ref nq, .ref dq, .ref pq, .int pl, .int bl, .int tb]))] H := hP
  have hD : va_D A [(h0, .inr (10, [.ref fq, .ref sq, .ref gq, .ref nq, .ref dq, .ref pq, .int pl, .int bl, .int tb]))] := hD
  refine W.widen (k := 0) (n := 0) (by omega) (by omega) ?_
  obtain rfl : r_1 = 0 := by rw [hw, hd0]; decide
  refine lv_istore_n (lv' := [(2, .int 0), (0, .ref h0), (1, .int p0)]) hx hb dX5_play_4 rfl hl (by decide) rfl (fun ls hl => ?_)
  refine lv_iload_n hx hb dX5_play_5 rfl (lv_at hl 0 rfl) ?_
  refine lv_if_ne (tgt := 19) hx hb dX5_play_6 (by decide) (fun c_2 => absurd (by decide) c_2) (fun _ => ?_)
  have hP9 := hP.sub (ws' := [(h0, .inr (10, [.ref fq, .ref sq, .ref gq, .ref nq, .ref dq, .ref pq, .int pl, .int bl, .int tb]))]) [0] rfl
  have hD9 := hD.sub (ws' := [(h0, .inr (10, [.ref fq, .ref sq, .ref gq, .ref nq, .ref dq, .ref pq, .int pl, .int bl, .int tb]))]) [0] (by decide) rfl
  have hK9 := hK.sub (tys' := []) [] rfl
  obtain ⟨sa, hstr⟩ := hT.s80
  exact vx_throwS (own := RX5) (cls := "java/lang/IllegalArgumentException") (names := ["java/lang/RuntimeException", "java/lang/Exception"]) hx hb hl9 hown (by decide +kernel) (by decide +kernel) (hts (.classLink RX5 42 "java/lang/IllegalArgumentException") (List.mem_of_getElem? (i := 6) rfl)) (hts (.initialized "java/lang/IllegalArgumentException") (List.mem_of_getElem? (i := 7) rfl)) hstr (vx_hat (L := vx_atS RX5 46 "java/lang/IllegalArgumentException" ["java/lang/RuntimeException", "java/lang/Exception"]) (B := [.castable "java/lang/IllegalArgumentException" "java/lang/IllegalArgumentException", .declares ⟨"java/lang/RuntimeException", "<init>", "(Ljava/lang/String;)V"⟩, .declares ⟨"java/lang/Exception", "<init>", "(Ljava/lang/String;)V"⟩, .declares ⟨"java/lang/Throwable", "<init>", "(Ljava/lang/String;)V"⟩]) (fun w hw => hts w (List.mem_append_right _ hw)) (by decide +kernel) (vx_c (va_Nw.use rfl hT.eI) (vx_c (va_Nw.use rfl hT.d1) (vx_c (va_Nw.use rfl hT.d2) (vx_c (va_Nw.use rfl hT.d3) (vx_n)))))) (by decide +kernel) hT.zU hT.zS hS (hl.1.trans hml.symm) dX5_play_9 dX5_play_12 dX5_play_13 dX5_play_15 dX5_play_18 (fun x hx => (hEx x hx).elim) (Nat.le_of_ble_eq_true rfl) (Nat.le_of_ble_eq_true rfl) (Nat.le_of_ble_eq_true rfl) (Nat.le_of_ble_eq_true rfl) hlocks (fun t ha hsz hk => ⟨(), trivial, ⟨rfl, hP9.kept (fun k q hq => hk q.1 (hP9 k q hq).lt), va_K.moved ha hK9, hD9⟩, Nat.le_trans hS.1 hsz, fun q h1 h2 => (hk q (Nat.lt_of_lt_of_le h1 hS.1)).trans (hS.2.1 q h1 h2)⟩) hS.2.2 (Nat.le_of_ble_eq_true rfl) (Nat.le_of_ble_eq_true rfl)
def v_c_M_play_1 : List Cond := .code yX6_play cX6_play 4 (some .int) :: ([Cond.fieldLink RX6 20 "HotelOfBellsModel" "thrown" "I", Cond.code yX6_digits cX6_digits 3 (some .int), Cond.code yX6_isIn cX6_isIn 3 (some .boolean), Cond.methodLink RX6 27 yX6_isIn, Cond.static yX6_isIn, Cond.initialized RX6, Cond.methodLink RX6 53 yX6_digits, Cond.static yX6_digits, Cond.code yX6_power cX6_power 3 (some .int), Cond.methodLink RX6 90 yX6_power, Cond.static yX6_power, Cond.code yX6_ringOne cX6_ringOne 4 (some .int), Cond.fieldLink RX6 34 "HotelOfBellsModel" "guests" "I", Cond.fieldLink RX6 9 "HotelOfBellsModel" "row" "[I", Cond.fieldLink RX6 24 "HotelOfBellsModel" "floors" "I", Cond.fieldLink RX6 31 "HotelOfBellsModel" "lifts" "I", Cond.methodLink RX6 130 yX6_ringOne, Cond.instanceMethod yX6_ringOne, Cond.selects RX6 yX6_ringOne yX6_ringOne] ++ (wsX60 ++ []))
theorem u_c_M_play_1_X6 : ∀ w ∈ wsX60, w ∈ v_c_M_play_1 := fun _ h => List.mem_cons_of_mem _ (List.mem_append_right _ (List.mem_append_left _ h))
theorem gg_c_M_play_1_c_digits : GoodIn v_c_M_play_1 v_c_digits := goodIn_r _ [2, 3, 4, 5, 6] (by rfl) (by decide +kernel)
theorem gg_c_M_play_1_c_power_0 : GoodIn v_c_M_play_1 v_c_power_0 := goodIn_r _ [9] (by rfl) (by decide +kernel)
theorem gg_c_M_play_1_c_ringOne : GoodIn v_c_M_play_1 v_c_ringOne := goodIn_r _ [12, 13, 14, 9, 10, 11, 6, 15, 16, 20, 21, 22, 23, 24, 25] (by rfl) (by decide +kernel)
set_option maxHeartbeats 4000000 in
set_option maxRecDepth 100000 in
theorem c_M_play_1 (l : Launch) (hl9 : l.stackTraces = false) (dC : Nat → ClassId) (dI : Nat → Nat → Nat) (tE : Nat) (h0 : Nat) (rq : Nat) (sbq : Nat) (th : Int32) (ci : ClassId) (fr : Nat → Int32) (p0 : Int32) (sz : Nat) (hd0 : dgt p0 = 1) : Met l yX6_play v_c_M_play_1 ({ frames := 2, cells := 0, slots := 0, locals := 45 }) (va_Pc [.ref h0, .int p0] (Pre0 dC dI tE sz [(ci, .int)] [(h0, .inr (11, [.int th, .int 0, .int 0, .int 0, .ref rq, .ref sbq])), (rq, .inl (ci, 119, .inl fr))])) (va_Qi (fun (r : Int32) (_ : Unit) => r = 0) (fun _ t => ∃ (fx0 : Nat → Int32), Pst dC dI [(ci, .int)] (va_A [(h0, .inr (11, [.int th, .int 0, .int 0, .int 0, .ref rq, .ref sbq])), (rq, .inl (ci, 119, .inl fr))] sz) [(h0, .inr (11, [.int 0, .int 0, .int 0, .int 0, .ref rq, .ref sbq])), (rq, .inl (ci, 119, .inl fx0))] t) (va_A [(h0, .inr (11, [.int th, .int 0, .int 0, .int 0, .ref rq, .ref sbq])), (rq, .inl (ci, 119, .inl fr))] sz)) 0 0 (va_A [(h0, .inr (11, [.int th, .int 0, .int 0, .int 0, .ref rq, .ref sbq])), (rq, .inl (ci, 119, .inl fr))] sz) := by
  refine Met.ofW (cc := cX6_play) (maxL := 4) (ret := (some .int)) (by decide) rfl ?_
  intro p e s m args below meth c s₁ B hml hv
  obtain ⟨rfl, hsz, hP, hK, hD0, hT⟩ := hv
  have hx := B.exec
  have hb := B.bytes
  have hr := B.returns
  have hts := atoms_spec (ws := v_c_M_play_1) B.pre
  have hown : s.vm.findClass RX6 = some m.cls := findClass_of_methodNamed B.named
  have hlocks := B.notSynchronized
  subst hsz
  have hD := hD0.self (sz := s.heap.size)
  generalize hAe : va_A [(h0, .inr (11, [.int th, .int 0, .int 0, .int 0, .ref rq, .ref sbq])), (rq, .inl (ci, 119, .inl fr))] s.heap.size = A at hD hT ⊢
  have hA : ∀ q : Nat, s.heap.size ≤ q → A q := fun q h => by rw [← hAe]; exact Or.inr h
  have hS : va_S A s.heap s.heap [] := va_S.rf
  have hl := lv_entry ([.ref h0, .int p0]) (n := 4) (Nat.le_of_ble_eq_true rfl)
  rw [lg_entry_eq]
  generalize (lg_sl ([.ref h0, .int p0]) ++ List.replicate (4 - (lg_sl ([.ref h0, .int p0])).length) Slot.unset).toArray = ls at hl ⊢
  have hl : lv_has ls 4 [(0, .ref h0), (1, .int p0)] := hl
  refine lv_aload_n hx hb dX6_play_0 rfl (lv_at hl 0 rfl) ?_
  refine lv_iconst (v := 0) hx hb dX6_play_1 (by decide) ?_
  refine va_put (D := (dC, dI)) (ci := 11) (v := .int 0) (ty := .int) (C := RX6) (T := TX6) (N := 6) hx hb hts u_c_M_play_1_X6 tyX6 tyX6_ok nmX6 hown hK hP hD hS 0 rfl rfl 0 (by decide) (hts (.fieldLink RX6 20 "HotelOfBellsModel" "thrown" "I") (List.mem_of_getElem? (i := 1) rfl)) (fun _ h9 => h9) rfl (by decide +kernel) rfl rfl (Nat.le_of_ble_eq_true rfl) dX6_play_2 (fun H locs hP hD hS => ?_)
  have hP : va_P (dC, dI) vwCl [(h0, .inr (11, [.int 0, .int 0, .int 0, .int 0, .ref rq, .ref sbq])), (rq, .inl (ci, 119, .inl fr))] H := hP
  have hD : va_D A [(h0, .inr (11, [.int 0, .int 0, .int 0, .int 0, .ref rq, .ref sbq])), (rq, .inl (ci, 119, .inl fr))] := hD
  refine lv_iload_n hx hb dX6_play_5 rfl (lv_at hl 1 rfl) ?_
  have hPc := hP.sub (ws' := []) [] rfl
  have hDc := hD.sub (ws' := []) [] (by decide) rfl
  have hKc := hK.sub (tys' := []) [] rfl
  have hFc := va_free (wc := []) hD hS hA [] rfl
  refine va_calli (va_runS (As := [.int p0]) (rest := []) ⟨hx, hb, hml, hown, hts⟩ (c_digits l hl9 dC dI tE p0 _ ) (va_cwS 1 hts (goodIn_app (goodIn_r _ [7, 8, 6] (by rfl) (by decide +kernel)) gg_c_M_play_1_c_digits) rfl rfl rfl (by decide +kernel) ⟨Nat.le_of_ble_eq_true rfl, Nat.le_of_ble_eq_true rfl⟩) ⟨Pre0.blind, Pre0.give hPc hKc hDc hT hS hFc⟩ rfl rfl hl.1 rfl (lv_room (Nat.le_of_ble_eq_true rfl)) dX6_play_6 ⟨Nat.le_of_ble_eq_true rfl, Nat.le_of_ble_eq_true rfl⟩) hS (fun q _ h => hFc q h) hFc (fun r_1 u t H1 locs ht hvm hw hB hz1 hk1 hS => ?_)
  obtain ⟨hP1, hK1, hD1⟩ := hB
  rw [ht] at hP1
  have hK1 := va_K.moved hvm.symm hK1
  obtain ⟨hP, hD⟩ := va_join (wr := [(h0, .inr (11, [.int 0, .int 0, .int 0, .int 0, .ref rq, .ref sbq])), (rq, .inl (ci, 119, .inl fr))]) (w1 := []) hP hD [] [0, 1] rfl rfl (by decide) (by decide) hk1 hFc hP1 hD1
  generalize H1 = H at hP hS ⊢
  have hP : va_P (dC, dI) vwCl [(h0, .inr (11, [.int 0, .int 0, .int 0, .int 0, .ref rq, .ref sbq])), (rq, .inl (ci, 119, .inl fr))] H := hP
  have hD : va_D A [(h0, .inr (11, [.int 0, .int 0, .int 0, .int 0, .ref rq, .ref sbq])), (rq, .inl (ci, 119, .inl fr))] := hD
  refine W.widen (k := 0) (n := 0) (by omega) (by omega) ?_
  obtain rfl : r_1 = 1 := hw.trans hd0
  refine lv_if_ne (tgt := 18) hx hb dX6_play_9 (by decide) (fun _ => ?_) (fun c_2 => absurd c_2 (by decide))
  refine lv_iconst (v := 0) hx hb dX6_play_18 (by decide) ?_
  refine lv_istore_n (lv' := [(2, .int 0), (0, .ref h0), (1, .int p0)]) hx hb dX6_play_19 rfl hl (by decide) rfl (fun ls hl => ?_)
  refine lv_iload_n hx hb dX6_play_20 rfl (lv_at hl 2 rfl) ?_
  have hPc := hP.sub (ws' := []) [] rfl
  have hDc := hD.sub (ws' := []) [] (by decide) rfl
  have hKc := hK.sub (tys' := []) [] rfl
  have hFc := va_free (wc := []) hD hS hA [] rfl
  refine va_calli (va_runS (As := [.int p0]) (rest := []) ⟨hx, hb, hml, hown, hts⟩ (c_digits l hl9 dC dI tE p0 _ ) (va_cwS 1 hts (goodIn_app (goodIn_r _ [7, 8, 6] (by rfl) (by decide +kernel)) gg_c_M_play_1_c_digits) rfl rfl rfl (by decide +kernel) ⟨Nat.le_of_ble_eq_true rfl, Nat.le_of_ble_eq_true rfl⟩) ⟨Pre0.blind, Pre0.give hPc hKc hDc hT hS hFc⟩ rfl rfl hl.1 rfl (lv_room (Nat.le_of_ble_eq_true rfl)) dX6_play_21 ⟨Nat.le_of_ble_eq_true rfl, Nat.le_of_ble_eq_true rfl⟩) hS (fun q _ h => hFc q h) hFc (fun r_3 u t H1 locs ht hvm hw hB hz1 hk1 hS => ?_)
  obtain ⟨hP1, hK1, hD1⟩ := hB
  rw [ht] at hP1
  have hK1 := va_K.moved hvm.symm hK1
  obtain ⟨hP, hD⟩ := va_join (wr := [(h0, .inr (11, [.int 0, .int 0, .int 0, .int 0, .ref rq, .ref sbq])), (rq, .inl (ci, 119, .inl fr))]) (w1 := []) hP hD [] [0, 1] rfl rfl (by decide) (by decide) hk1 hFc hP1 hD1
  generalize H1 = H at hP hS ⊢
  have hP : va_P (dC, dI) vwCl [(h0, .inr (11, [.int 0, .int 0, .int 0, .int 0, .ref rq, .ref sbq])), (rq, .inl (ci, 119, .inl fr))] H := hP
  have hD : va_D A [(h0, .inr (11, [.int 0, .int 0, .int 0, .int 0, .ref rq, .ref sbq])), (rq, .inl (ci, 119, .inl fr))] := hD
  refine W.widen (k := 0) (n := 0) (by omega) (by omega) ?_
  obtain rfl : r_3 = 1 := hw.trans hd0
  refine lv_iconst (v := 1) hx hb dX6_play_24 (by decide) ?_
  refine lv_isub hx hb dX6_play_25 ?_
  refine lv_topi (fun x_4 e_5 => ?_)
  obtain rfl : x_4 = 0 := e_5.trans (by decide)
  refine lv_istore_n (lv' := [(3, .int 0), (2, .int 0), (0, .ref h0), (1, .int p0)]) hx hb dX6_play_26 rfl hl (by decide) rfl (fun ls hl => ?_)
  refine lv_iload_n hx hb dX6_play_27 rfl (lv_at hl 0 rfl) ?_
  refine lv_if_lt (tgt := 53) hx hb dX6_play_28 (by decide) (fun c_6 => absurd c_6 (by decide)) (fun _ => ?_)
  refine lv_iload_n hx hb dX6_play_31 rfl (lv_at hl 1 rfl) ?_
  refine lv_aload_n hx hb dX6_play_32 rfl (lv_at hl 2 rfl) ?_
  refine lv_iload_n hx hb dX6_play_33 rfl (lv_at hl 3 rfl) ?_
  refine lv_iload_n hx hb dX6_play_34 rfl (lv_at hl 0 rfl) ?_
  have hPc := hP.sub (ws' := []) [] rfl
  have hDc := hD.sub (ws' := []) [] (by decide) rfl
  have hKc := hK.sub (tys' := []) [] rfl
  have hFc := va_free (wc := []) hD hS hA [] rfl
  refine va_calli (va_runS (As := [.int 0]) (rest := [.int p0, .ref h0, .int 0]) ⟨hx, hb, hml, hown, hts⟩ (c_power_0 l hl9 dC dI tE  _ ) (va_cwS 1 hts (goodIn_app (goodIn_r _ [10, 11, 6] (by rfl) (by decide +kernel)) gg_c_M_play_1_c_power_0) rfl rfl rfl (by decide +kernel) ⟨Nat.le_of_ble_eq_true rfl, Nat.le_of_ble_eq_true rfl⟩) ⟨Pre0.blind, Pre0.give hPc hKc hDc hT hS hFc⟩ rfl rfl hl.1 rfl (lv_room (Nat.le_of_ble_eq_true rfl)) dX6_play_35 ⟨Nat.le_of_ble_eq_true rfl, Nat.le_of_ble_eq_true rfl⟩) hS (fun q _ h => hFc q h) hFc (fun r_7 u t H1 locs ht hvm hw hB hz1 hk1 hS => ?_)
  obtain ⟨hP1, hK1, hD1⟩ := hB
  rw [ht] at hP1
  have hK1 := va_K.moved hvm.symm hK1
  obtain ⟨hP, hD⟩ := va_join (wr := [(h0, .inr (11, [.int 0, .int 0, .int 0, .int 0, .ref rq, .ref sbq])), (rq, .inl (ci, 119, .inl fr))]) (w1 := []) hP hD [] [0, 1] rfl rfl (by decide) (by decide) hk1 hFc hP1 hD1
  generalize H1 = H at hP hS ⊢
  have hP : va_P (dC, dI) vwCl [(h0, .inr (11, [.int 0, .int 0, .int 0, .int 0, .ref rq, .ref sbq])), (rq, .inl (ci, 119, .inl fr))] H := hP
  have hD : va_D A [(h0, .inr (11, [.int 0, .int 0, .int 0, .int 0, .ref rq, .ref sbq])), (rq, .inl (ci, 119, .inl fr))] := hD
  refine W.widen (k := 0) (n := 0) (by omega) (by omega) ?_
  obtain rfl : r_7 = 1 := hw
  refine lv_idiv hx hb dX6_play_38 (by decide) ?_
  refine lv_topi (fun x_8 e_9 => ?_)
  refine lv_bipush (v := 10) hx hb dX6_play_39 (by decide) ?_
  refine lv_irem hx hb dX6_play_41 (by decide) ?_
  refine lv_topi (fun x_10 e_11 => ?_)
  have hPc := hP.sub (ws' := [(h0, .inr (11, [.int 0, .int 0, .int 0, .int 0, .ref rq, .ref sbq])), (rq, .inl (ci, 119, .inl fr))]) [0, 1] rfl
  have hDc := hD.sub (ws' := [(h0, .inr (11, [.int 0, .int 0, .int 0, .int 0, .ref rq, .ref sbq])), (rq, .inl (ci, 119, .inl fr))]) [0, 1] (by decide) rfl
  have hKc := hK.sub (tys' := [(ci, .int)]) [0] rfl
  have hFc := va_free (wc := [(h0, .inr (11, [.int 0, .int 0, .int 0, .int 0, .ref rq, .ref sbq])), (rq, .inl (ci, 119, .inl fr))]) hD hS hA [0, 1] rfl
  refine va_calli (va_runV (As := [.int x_10]) (rest := [.int 0]) ⟨hx, hb, hml, hown, hts⟩ (c_ringOne l hl9 dC dI tE h0 rq sbq 0 ci fr x_10 _ ) (cwV 1 hts (goodIn_app (goodIn_r _ [17, 18, 19, 6] (by rfl) (by decide +kernel)) gg_c_M_play_1_c_ringOne) rfl rfl rfl (by decide +kernel) ⟨Nat.le_of_ble_eq_true rfl, Nat.le_of_ble_eq_true rfl⟩) ⟨Pre0.blind, va_recv hKc hPc (ci := 11) (q0 := 0) rfl rfl, Pre0.give hPc hKc hDc hT hS hFc⟩ rfl rfl hl.1 rfl (lv_room (Nat.le_of_ble_eq_true rfl)) dX6_play_42 ⟨Nat.le_of_ble_eq_true rfl, Nat.le_of_ble_eq_true rfl⟩) hS (fun q _ h => hFc q h) hFc (fun r_12 u t H1 locs ht hvm hw hB hz1 hk1 hS => ?_)
  obtain ⟨fx_13, hP1, hK1, hD1⟩ := hB
  rw [ht] at hP1
  have hK1 := va_K.moved hvm.symm hK1
  obtain ⟨hP, hD⟩ := va_join (wr := []) (w1 := [(h0, .inr (11, [.int 0, .int 0, .int 0, .int 0, .ref rq, .ref sbq])), (rq, .inl (ci, 119, .inl fx_13))]) hP hD [0, 1] [] rfl rfl (by decide) (by decide) hk1 hFc hP1 hD1
  generalize H1 = H at hP hS ⊢
  have hP : va_P (dC, dI) vwCl [(h0, .inr (11, [.int 0, .int 0, .int 0, .int 0, .ref rq, .ref sbq])), (rq, .inl (ci, 119, .inl fx_13))] H := hP
  have hD : va_D A [(h0, .inr (11, [.int 0, .int 0, .int 0, .int 0, .ref rq, .ref sbq])), (rq, .inl (ci, 119, .inl fx_13))] := hD
  refine W.widen (k := 0) (n := 0) (by omega) (by omega) ?_
  obtain rfl : r_12 = 0 := hw
  refine lv_iadd hx hb dX6_play_45 ?_
  refine lv_topi (fun x_14 e_15 => ?_)
  obtain rfl : x_14 = 0 := e_15.trans (by decide)
  refine lv_istore_n (lv' := [(2, .int 0), (3, .int 0), (0, .ref h0), (1, .int p0)]) hx hb dX6_play_46 rfl hl (by decide) rfl (fun ls hl => ?_)
  refine lv_iinc (v := (-1)) (lv' := [(3, .int (-1)), (2, .int 0), (0, .ref h0), (1, .int p0)]) hx hb dX6_play_47 hl (k := 1) rfl (by decide) (by decide) rfl (fun ls hl => ?_)
  refine lv_goto (tgt := 27) hx hb dX6_play_50 (by decide) ?_
  refine lv_iload_n hx hb dX6_play_27 rfl (lv_at hl 0 rfl) ?_
  refine lv_if_lt (tgt := 53) hx hb dX6_play_28 (by decide) (fun _ => ?_) (fun c_16 => absurd (by decide) c_16)
  refine lv_iload_n hx hb dX6_play_53 rfl (lv_at hl 1 rfl) ?_
  have hP9 := hP.sub (ws' := [(h0, .inr (11, [.int 0, .int 0, .int 0, .int 0, .ref rq, .ref sbq])), (rq, .inl (ci, 119, .inl fx_13))]) [0, 1] rfl
  have hD9 := hD.sub (ws' := [(h0, .inr (11, [.int 0, .int 0, .int 0, .int 0, .ref rq, .ref sbq])), (rq, .inl (ci, 119, .inl fx_13))]) [0, 1] (by decide) rfl
  have hK9 := hK.sub (tys' := [(ci, .int)]) [0] rfl
  exact W.iret (v := 0) hx hb hr (fun t ht hW => ⟨⟨0, (), rfl, rfl, fx_13, by rw [ht]; exact hP9, va_K.moved hW.alike hK9, hD9⟩, hS.F ht⟩) hS.2.2 dX6_play_54
def v_c_M_play_2 : List Cond := .code yX6_play cX6_play 4 (some .int) :: ([Cond.fieldLink RX6 20 "HotelOfBellsModel" "thrown" "I", Cond.code yX6_digits cX6_digits 3 (some .int), Cond.code yX6_isIn cX6_isIn 3 (some .boolean), Cond.methodLink RX6 27 yX6_isIn, Cond.static yX6_isIn, Cond.initialized RX6, Cond.methodLink RX6 53 yX6_digits, Cond.static yX6_digits, Cond.code yX6_power cX6_power 3 (some .int), Cond.methodLink RX6 90 yX6_power, Cond.static yX6_power, Cond.code yX6_ringOne cX6_ringOne 4 (some .int), Cond.fieldLink RX6 34 "HotelOfBellsModel" "guests" "I", Cond.fieldLink RX6 9 "HotelOfBellsModel" "row" "[I", Cond.fieldLink RX6 24 "HotelOfBellsModel" "floors" "I", Cond.fieldLink RX6 31 "HotelOfBellsModel" "lifts" "I", Cond.methodLink RX6 130 yX6_ringOne, Cond.instanceMethod yX6_ringOne, Cond.selects RX6 yX6_ringOne yX6_ringOne] ++ (wsX60 ++ []))
theorem u_c_M_play_2_X6 : ∀ w ∈ wsX60, w ∈ v_c_M_play_2 := fun _ h => List.mem_cons_of_mem _ (List.mem_append_right _ (List.mem_append_left _ h))
theorem gg_c_M_play_2_c_digits : GoodIn v_c_M_play_2 v_c_digits := goodIn_r _ [2, 3, 4, 5, 6] (by rfl) (by decide +kernel)
theorem gg_c_M_play_2_c_power_1 : GoodIn v_c_M_play_2 v_c_power_1 := goodIn_r _ [9] (by rfl) (by decide +kernel)
theorem gg_c_M_play_2_c_ringOne : GoodIn v_c_M_play_2 v_c_ringOne := goodIn_r _ [12, 13, 14, 9, 10, 11, 6, 15, 16, 20, 21, 22, 23, 24, 25] (by rfl) (by decide +kernel)
theorem gg_c_M_play_2_c_power_0 : GoodIn v_c_M_play_2 v_c_power_0 := goodIn_r _ [9] (by rfl) (by decide +kernel)
set_option maxHeartbeats 4000000 in
set_option maxRecDepth 100000 in
theorem c_M_play_2 (l : Launch) (hl9 : l.stackTraces = false) (dC : Nat → ClassId) (dI : Nat → Nat → Nat) (tE : Nat) (h0 : Nat) (rq : Nat) (sbq : Nat) (th : Int32) (ci : ClassId) (fr : Nat → Int32) (p0 : Int32) (sz : Nat) (hd0 : dgt p0 = 2) : Met l yX6_play v_c_M_play_2 ({ frames := 2, cells := 0, slots := 0, locals := 45 }) (va_Pc [.ref h0, .int p0] (Pre0 dC dI tE sz [(ci, .int)] [(h0, .inr (11, [.int th, .int 0, .int 0, .int 0, .ref rq, .ref sbq])), (rq, .inl (ci, 119, .inl fr))])) (va_Qi (fun (r : Int32) (_ : Unit) => r = 0) (fun _ t => ∃ (fx0 : Nat → Int32), Pst dC dI [(ci, .int)] (va_A [(h0, .inr (11, [.int th, .int 0, .int 0, .int 0, .ref rq, .ref sbq])), (rq, .inl (ci, 119, .inl fr))] sz) [(h0, .inr (11, [.int 0, .int 0, .int 0, .int 0, .ref rq, .ref sbq])), (rq, .inl (ci, 119, .inl fx0))] t) (va_A [(h0, .inr (11, [.int th, .int 0, .int 0, .int 0, .ref rq, .ref sbq])), (rq, .inl (ci, 119, .inl fr))] sz)) 0 0 (va_A [(h0, .inr (11, [.int th, .int 0, .int 0, .int 0, .ref rq, .ref sbq])), (rq, .inl (ci, 119, .inl fr))] sz) := by
  refine Met.ofW (cc := cX6_play) (maxL := 4) (ret := (some .int)) (by decide) rfl ?_
  intro p e s m args below meth c s₁ B hml hv
  obtain ⟨rfl, hsz, hP, hK, hD0, hT⟩ := hv
  have hx := B.exec
  have hb := B.bytes
  have hr := B.returns
  have hts := atoms_spec (ws := v_c_M_play_2) B.pre
  have hown : s.vm.findClass RX6 = some m.cls := findClass_of_methodNamed B.named
  have hlocks := B.notSynchronized
  subst hsz
  have hD := hD0.self (sz := s.heap.size)
  generalize hAe : va_A [(h0, .inr (11, [.int th, .int 0, .int 0, .int 0, .ref rq, .ref sbq])), (rq, .inl (ci, 119, .inl fr))] s.heap.size = A at hD hT ⊢
  have hA : ∀ q : Nat, s.heap.size ≤ q → A q := fun q h => by rw [← hAe]; exact Or.inr h
  have hS : va_S A s.heap s.heap [] := va_S.rf
  have hl := lv_entry ([.ref h0, .int p0]) (n := 4) (Nat.le_of_ble_eq_true rfl)
  rw [lg_entry_eq]
  generalize (lg_sl ([.ref h0, .int p0]) ++ List.replicate (4 - (lg_sl ([.ref h0, .int p0])).length) Slot.unset).toArray = ls at hl ⊢
  have hl : lv_has ls 4 [(0, .ref h0), (1, .int p0)] := hl
  refine lv_aload_n hx hb dX6_play_0 rfl (lv_at hl 0 rfl) ?_
  refine lv_iconst (v := 0) hx hb dX6_play_1 (by decide) ?_
  refine va_put (D := (dC, dI)) (ci := 11) (v := .int 0) (ty := .int) (C := RX6) (T := TX6) (N := 6) hx hb hts u_c_M_play_2_X6 tyX6 tyX6_ok nmX6 hown hK hP hD hS 0 rfl rfl 0 (by decide) (hts (.fieldLink RX6 20 "HotelOfBellsModel" "thrown" "I") (List.mem_of_getElem? (i := 1) rfl)) (fun _ h9 => h9) rfl (by decide +kernel) rfl rfl (Nat.le_of_ble_eq_true rfl) dX6_play_2 (fun H locs hP hD hS => ?_)
  have hP : va_P (dC, dI) vwCl [(h0, .inr (11, [.int 0, .int 0, .int 0, .int 0, .ref rq, .ref sbq])), (rq, .inl (ci, 119, .inl fr))] H := hP
  have hD : va_D A [(h0, .inr (11, [.int 0, .int 0, .int 0, .int 0, .ref rq, .ref sbq])), (rq, .inl (ci, 119, .inl fr))] := hD
  refine lv_iload_n hx hb dX6_play_5 rfl (lv_at hl 1 rfl) ?_
  have hPc := hP.sub (ws' := []) [] rfl
  have hDc := hD.sub (ws' := []) [] (by decide) rfl
  have hKc := hK.sub (tys' := []) [] rfl
  have hFc := va_free (wc := []) hD hS hA [] rfl
  refine va_calli (va_runS (As := [.int p0]) (rest := []) ⟨hx, hb, hml, hown, hts⟩ (c_digits l hl9 dC dI tE p0 _ ) (va_cwS 1 hts (goodIn_app (goodIn_r _ [7, 8, 6] (by rfl) (by decide +kernel)) gg_c_M_play_2_c_digits) rfl rfl rfl (by decide +kernel) ⟨Nat.le_of_ble_eq_true rfl, Nat.le_of_ble_eq_true rfl⟩) ⟨Pre0.blind, Pre0.give hPc hKc hDc hT hS hFc⟩ rfl rfl hl.1 rfl (lv_room (Nat.le_of_ble_eq_true rfl)) dX6_play_6 ⟨Nat.le_of_ble_eq_true rfl, Nat.le_of_ble_eq_true rfl⟩) hS (fun q _ h => hFc q h) hFc (fun r_1 u t H1 locs ht hvm hw hB hz1 hk1 hS => ?_)
  obtain ⟨hP1, hK1, hD1⟩ := hB
  rw [ht] at hP1
  have hK1 := va_K.moved hvm.symm hK1
  obtain ⟨hP, hD⟩ := va_join (wr := [(h0, .inr (11, [.int 0, .int 0, .int 0, .int 0, .ref rq, .ref sbq])), (rq, .inl (ci, 119, .inl fr))]) (w1 := []) hP hD [] [0, 1] rfl rfl (by decide) (by decide) hk1 hFc hP1 hD1
  generalize H1 = H at hP hS ⊢
  have hP : va_P (dC, dI) vwCl [(h0, .inr (11, [.int 0, .int 0, .int 0, .int 0, .ref rq, .ref sbq])), (rq, .inl (ci, 119, .inl fr))] H := hP
  have hD : va_D A [(h0, .inr (11, [.int 0, .int 0, .int 0, .int 0, .ref rq, .ref sbq])), (rq, .inl (ci, 119, .inl fr))] := hD
  refine W.widen (k := 0) (n := 0) (by omega) (by omega) ?_
  obtain rfl : r_1 = 2 := hw.trans hd0
  refine lv_if_ne (tgt := 18) hx hb dX6_play_9 (by decide) (fun _ => ?_) (fun c_2 => absurd c_2 (by decide))
  refine lv_iconst (v := 0) hx hb dX6_play_18 (by decide) ?_
  refine lv_istore_n (lv' := [(2, .int 0), (0, .ref h0), (1, .int p0)]) hx hb dX6_play_19 rfl hl (by decide) rfl (fun ls hl => ?_)
  refine lv_iload_n hx hb dX6_play_20 rfl (lv_at hl 2 rfl) ?_
  have hPc := hP.sub (ws' := []) [] rfl
  have hDc := hD.sub (ws' := []) [] (by decide) rfl
  have hKc := hK.sub (tys' := []) [] rfl
  have hFc := va_free (wc := []) hD hS hA [] rfl
  refine va_calli (va_runS (As := [.int p0]) (rest := []) ⟨hx, hb, hml, hown, hts⟩ (c_digits l hl9 dC dI tE p0 _ ) (va_cwS 1 hts (goodIn_app (goodIn_r _ [7, 8, 6] (by rfl) (by decide +kernel)) gg_c_M_play_2_c_digits) rfl rfl rfl (by decide +kernel) ⟨Nat.le_of_ble_eq_true rfl, Nat.le_of_ble_eq_true rfl⟩) ⟨Pre0.blind, Pre0.give hPc hKc hDc hT hS hFc⟩ rfl rfl hl.1 rfl (lv_room (Nat.le_of_ble_eq_true rfl)) dX6_play_21 ⟨Nat.le_of_ble_eq_true rfl, Nat.le_of_ble_eq_true rfl⟩) hS (fun q _ h => hFc q h) hFc (fun r_3 u t H1 locs ht hvm hw hB hz1 hk1 hS => ?_)
  obtain ⟨hP1, hK1, hD1⟩ := hB
  rw [ht] at hP1
  have hK1 := va_K.moved hvm.symm hK1
  obtain ⟨hP, hD⟩ := va_join (wr := [(h0, .inr (11, [.int 0, .int 0, .int 0, .int 0, .ref rq, .ref sbq])), (rq, .inl (ci, 119, .inl fr))]) (w1 := []) hP hD [] [0, 1] rfl rfl (by decide) (by decide) hk1 hFc hP1 hD1
  generalize H1 = H at hP hS ⊢
  have hP : va_P (dC, dI) vwCl [(h0, .inr (11, [.int 0, .int 0, .int 0, .int 0, .ref rq, .ref sbq])), (rq, .inl (ci, 119, .inl fr))] H := hP
  have hD : va_D A [(h0, .inr (11, [.int 0, .int 0, .int 0, .int 0, .ref rq, .ref sbq])), (rq, .inl (ci, 119, .inl fr))] := hD
  refine W.widen (k := 0) (n := 0) (by omega) (by omega) ?_
  obtain rfl : r_3 = 2 := hw.trans hd0
  refine lv_iconst (v := 1) hx hb dX6_play_24 (by decide) ?_
  refine lv_isub hx hb dX6_play_25 ?_
  refine lv_topi (fun x_4 e_5 => ?_)
  obtain rfl : x_4 = 1 := e_5.trans (by decide)
  refine lv_istore_n (lv' := [(3, .int 1), (2, .int 0), (0, .ref h0), (1, .int p0)]) hx hb dX6_play_26 rfl hl (by decide) rfl (fun ls hl => ?_)
  refine lv_iload_n hx hb dX6_play_27 rfl (lv_at hl 0 rfl) ?_
  refine lv_if_lt (tgt := 53) hx hb dX6_play_28 (by decide) (fun c_6 => absurd c_6 (by decide)) (fun _ => ?_)
  refine lv_iload_n hx hb dX6_play_31 rfl (lv_at hl 1 rfl) ?_
  refine lv_aload_n hx hb dX6_play_32 rfl (lv_at hl 2 rfl) ?_
  refine lv_iload_n hx hb dX6_play_33 rfl (lv_at hl 3 rfl) ?_
  refine lv_iload_n hx hb dX6_play_34 rfl (lv_at hl 0 rfl) ?_
  have hPc := hP.sub (ws' := []) [] rfl
  have hDc := hD.sub (ws' := []) [] (by decide) rfl
  have hKc := hK.sub (tys' := []) [] rfl
  have hFc := va_free (wc := []) hD hS hA [] rfl
  refine va_calli (va_runS (As := [.int 1]) (rest := [.int p0, .ref h0, .int 0]) ⟨hx, hb, hml, hown, hts⟩ (c_power_1 l hl9 dC dI tE  _ ) (va_cwS 1 hts (goodIn_app (goodIn_r _ [10, 11, 6] (by rfl) (by decide +kernel)) gg_c_M_play_2_c_power_1) rfl rfl rfl (by decide +kernel) ⟨Nat.le_of_ble_eq_true rfl, Nat.le_of_ble_eq_true rfl⟩) ⟨Pre0.blind, Pre0.give hPc hKc hDc hT hS hFc⟩ rfl rfl hl.1 rfl (lv_room (Nat.le_of_ble_eq_true rfl)) dX6_play_35 ⟨Nat.le_of_ble_eq_true rfl, Nat.le_of_ble_eq_true rfl⟩) hS (fun q _ h => hFc q h) hFc (fun r_7 u t H1 locs ht hvm hw hB hz1 hk1 hS => ?_)
  obtain ⟨hP1, hK1, hD1⟩ := hB
  rw [ht] at hP1
  have hK1 := va_K.moved hvm.symm hK1
  obtain ⟨hP, hD⟩ := va_join (wr := [(h0, .inr (11, [.int 0, .int 0, .int 0, .int 0, .ref rq, .ref sbq])), (rq, .inl (ci, 119, .inl fr))]) (w1 := []) hP hD [] [0, 1] rfl rfl (by decide) (by decide) hk1 hFc hP1 hD1
  generalize H1 = H at hP hS ⊢
  have hP : va_P (dC, dI) vwCl [(h0, .inr (11, [.int 0, .int 0, .int 0, .int 0, .ref rq, .ref sbq])), (rq, .inl (ci, 119, .inl fr))] H := hP
  have hD : va_D A [(h0, .inr (11, [.int 0, .int 0, .int 0, .int 0, .ref rq, .ref sbq])), (rq, .inl (ci, 119, .inl fr))] := hD
  refine W.widen (k := 0) (n := 0) (by omega) (by omega) ?_
  obtain rfl : r_7 = 10 := hw
  refine lv_idiv hx hb dX6_play_38 (by decide) ?_
  refine lv_topi (fun x_8 e_9 => ?_)
  refine lv_bipush (v := 10) hx hb dX6_play_39 (by decide) ?_
  refine lv_irem hx hb dX6_play_41 (by decide) ?_
  refine lv_topi (fun x_10 e_11 => ?_)
  have hPc := hP.sub (ws' := [(h0, .inr (11, [.int 0, .int 0, .int 0, .int 0, .ref rq, .ref sbq])), (rq, .inl (ci, 119, .inl fr))]) [0, 1] rfl
  have hDc := hD.sub (ws' := [(h0, .inr (11, [.int 0, .int 0, .int 0, .int 0, .ref rq, .ref sbq])), (rq, .inl (ci, 119, .inl fr))]) [0, 1] (by decide) rfl
  have hKc := hK.sub (tys' := [(ci, .int)]) [0] rfl
  have hFc := va_free (wc := [(h0, .inr (11, [.int 0, .int 0, .int 0, .int 0, .ref rq, .ref sbq])), (rq, .inl (ci, 119, .inl fr))]) hD hS hA [0, 1] rfl
  refine va_calli (va_runV (As := [.int x_10]) (rest := [.int 0]) ⟨hx, hb, hml, hown, hts⟩ (c_ringOne l hl9 dC dI tE h0 rq sbq 0 ci fr x_10 _ ) (cwV 1 hts (goodIn_app (goodIn_r _ [17, 18, 19, 6] (by rfl) (by decide +kernel)) gg_c_M_play_2_c_ringOne) rfl rfl rfl (by decide +kernel) ⟨Nat.le_of_ble_eq_true rfl, Nat.le_of_ble_eq_true rfl⟩) ⟨Pre0.blind, va_recv hKc hPc (ci := 11) (q0 := 0) rfl rfl, Pre0.give hPc hKc hDc hT hS hFc⟩ rfl rfl hl.1 rfl (lv_room (Nat.le_of_ble_eq_true rfl)) dX6_play_42 ⟨Nat.le_of_ble_eq_true rfl, Nat.le_of_ble_eq_true rfl⟩) hS (fun q _ h => hFc q h) hFc (fun r_12 u t H1 locs ht hvm hw hB hz1 hk1 hS => ?_)
  obtain ⟨fx_13, hP1, hK1, hD1⟩ := hB
  rw [ht] at hP1
  have hK1 := va_K.moved hvm.symm hK1
  obtain ⟨hP, hD⟩ := va_join (wr := []) (w1 := [(h0, .inr (11, [.int 0, .int 0, .int 0, .int 0, .ref rq, .ref sbq])), (rq, .inl (ci, 119, .inl fx_13))]) hP hD [0, 1] [] rfl rfl (by decide) (by decide) hk1 hFc hP1 hD1
  generalize H1 = H at hP hS ⊢
  have hP : va_P (dC, dI) vwCl [(h0, .inr (11, [.int 0, .int 0, .int 0, .int 0, .ref rq, .ref sbq])), (rq, .inl (ci, 119, .inl fx_13))] H := hP
  have hD : va_D A [(h0, .inr (11, [.int 0, .int 0, .int 0, .int 0, .ref rq, .ref sbq])), (rq, .inl (ci, 119, .inl fx_13))] := hD
  refine W.widen (k := 0) (n := 0) (by omega) (by omega) ?_
  obtain rfl : r_12 = 0 := hw
  refine lv_iadd hx hb dX6_play_45 ?_
  refine lv_topi (fun x_14 e_15 => ?_)
  obtain rfl : x_14 = 0 := e_15.trans (by decide)
  refine lv_istore_n (lv' := [(2, .int 0), (3, .int 1), (0, .ref h0), (1, .int p0)]) hx hb dX6_play_46 rfl hl (by decide) rfl (fun ls hl => ?_)
  refine lv_iinc (v := 0) (lv' := [(3, .int 0), (2, .int 0), (0, .ref h0), (1, .int p0)]) hx hb dX6_play_47 hl (k := 1) rfl (by decide) (by decide) rfl (fun ls hl => ?_)
  refine lv_goto (tgt := 27) hx hb dX6_play_50 (by decide) ?_
  refine lv_iload_n hx hb dX6_play_27 rfl (lv_at hl 0 rfl) ?_
  refine lv_if_lt (tgt := 53) hx hb dX6_play_28 (by decide) (fun c_16 => absurd c_16 (by decide)) (fun _ => ?_)
  refine lv_iload_n hx hb dX6_play_31 rfl (lv_at hl 1 rfl) ?_
  refine lv_aload_n hx hb dX6_play_32 rfl (lv_at hl 2 rfl) ?_
  refine lv_iload_n hx hb dX6_play_33 rfl (lv_at hl 3 rfl) ?_
  refine lv_iload_n hx hb dX6_play_34 rfl (lv_at hl 0 rfl) ?_
  have hPc := hP.sub (ws' := []) [] rfl
  have hDc := hD.sub (ws' := []) [] (by decide) rfl
  have hKc := hK.sub (tys' := []) [] rfl
  have hFc := va_free (wc := []) hD hS hA [] rfl
  refine va_calli (va_runS (As := [.int 0]) (rest := [.int p0, .ref h0, .int 0]) ⟨hx, hb, hml, hown, hts⟩ (c_power_0 l hl9 dC dI tE  _ ) (va_cwS 1 hts (goodIn_app (goodIn_r _ [10, 11, 6] (by rfl) (by decide +kernel)) gg_c_M_play_2_c_power_0) rfl rfl rfl (by decide +kernel) ⟨Nat.le_of_ble_eq_true rfl, Nat.le_of_ble_eq_true rfl⟩) ⟨Pre0.blind, Pre0.give hPc hKc hDc hT hS hFc⟩ rfl rfl hl.1 rfl (lv_room (Nat.le_of_ble_eq_true rfl)) dX6_play_35 ⟨Nat.le_of_ble_eq_true rfl, Nat.le_of_ble_eq_true rfl⟩) hS (fun q _ h => hFc q h) hFc (fun r_17 u t H1 locs ht hvm hw hB hz1 hk1 hS => ?_)
  obtain ⟨hP1, hK1, hD1⟩ := hB
  rw [ht] at hP1
  have hK1 := va_K.moved hvm.symm hK1
  obtain ⟨hP, hD⟩ := va_join (wr := [(h0, .inr (11, [.int 0, .int 0, .int 0, .int 0, .ref rq, .ref sbq])), (rq, .inl (ci, 119, .inl fx_13))]) (w1 := []) hP hD [] [0, 1] rfl rfl (by decide) (by decide) hk1 hFc hP1 hD1
  generalize H1 = H at hP hS ⊢
  have hP : va_P (dC, dI) vwCl [(h0, .inr (11, [.int 0, .int 0, .int 0, .int 0, .ref rq, .ref sbq])), (rq, .inl (ci, 119, .inl fx_13))] H := hP
  have hD : va_D A [(h0, .inr (11, [.int 0, .int 0, .int 0, .int 0, .ref rq, .ref sbq])), (rq, .inl (ci, 119, .inl fx_13))] := hD
  refine W.widen (k := 0) (n := 0) (by omega) (by omega) ?_
  obtain rfl : r_17 = 1 := hw
  refine lv_idiv hx hb dX6_play_38 (by decide) ?_
  refine lv_topi (fun x_18 e_19 => ?_)
  refine lv_bipush (v := 10) hx hb dX6_play_39 (by decide) ?_
  refine lv_irem hx hb dX6_play_41 (by decide) ?_
  refine lv_topi (fun x_20 e_21 => ?_)
  have hPc := hP.sub (ws' := [(h0, .inr (11, [.int 0, .int 0, .int 0, .int 0, .ref rq, .ref sbq])), (rq, .inl (ci, 119, .inl fx_13))]) [0, 1] rfl
  have hDc := hD.sub (ws' := [(h0, .inr (11, [.int 0, .int 0, .int 0, .int 0, .ref rq, .ref sbq])), (rq, .inl (ci, 119, .inl fx_13))]) [0, 1] (by decide) rfl
  have hKc := hK.sub (tys' := [(ci, .int)]) [0] rfl
  have hFc := va_free (wc := [(h0, .inr (11, [.int 0, .int 0, .int 0, .int 0, .ref rq, .ref sbq])), (rq, .inl (ci, 119, .inl fx_13))]) hD hS hA [0, 1] rfl
  refine va_calli (va_runV (As := [.int x_20]) (rest := [.int 0]) ⟨hx, hb, hml, hown, hts⟩ (c_ringOne l hl9 dC dI tE h0 rq sbq 0 ci fx_13 x_20 _ ) (cwV 1 hts (goodIn_app (goodIn_r _ [17, 18, 19, 6] (by rfl) (by decide +kernel)) gg_c_M_play_2_c_ringOne) rfl rfl rfl (by decide +kernel) ⟨Nat.le_of_ble_eq_true rfl, Nat.le_of_ble_eq_true rfl⟩) ⟨Pre0.blind, va_recv hKc hPc (ci := 11) (q0 := 0) rfl rfl, Pre0.give hPc hKc hDc hT hS hFc⟩ rfl rfl hl.1 rfl (lv_room (Nat.le_of_ble_eq_true rfl)) dX6_play_42 ⟨Nat.le_of_ble_eq_true rfl, Nat.le_of_ble_eq_true rfl⟩) hS (fun q _ h => hFc q h) hFc (fun r_22 u t H1 locs ht hvm hw hB hz1 hk1 hS => ?_)
  obtain ⟨fx_23, hP1, hK1, hD1⟩ := hB
  rw [ht] at hP1
  have hK1 := va_K.moved hvm.symm hK1
  obtain ⟨hP, hD⟩ := va_join (wr := []) (w1 := [(h0, .inr (11, [.int 0, .int 0, .int 0, .int 0, .ref rq, .ref sbq])), (rq, .inl (ci, 119, .inl fx_23))]) hP hD [0, 1] [] rfl rfl (by decide) (by decide) hk1 hFc hP1 hD1
  generalize H1 = H at hP hS ⊢
  have hP : va_P (dC, dI) vwCl [(h0, .inr (11, [.int 0, .int 0, .int 0, .int 0, .ref rq, .ref sbq])), (rq, .inl (ci, 119, .inl fx_23))] H := hP
  have hD : va_D A [(h0, .inr (11, [.int 0, .int 0, .int 0, .int 0, .ref rq, .ref sbq])), (rq, .inl (ci, 119, .inl fx_23))] := hD
  refine W.widen (k := 0) (n := 0) (by omega) (by omega) ?_
  obtain rfl : r_22 = 0 := hw
  refine lv_iadd hx hb dX6_play_45 ?_
  refine lv_topi (fun x_24 e_25 => ?_)
  obtain rfl : x_24 = 0 := e_25.trans (by decide)
  refine lv_istore_n (lv' := [(2, .int 0), (3, .int 0), (0, .ref h0), (1, .int p0)]) hx hb dX6_play_46 rfl hl (by decide) rfl (fun ls hl => ?_)
  refine lv_iinc (v := (-1)) (lv' := [(3, .int (-1)), (2, .int 0), (0, .ref h0), (1, .int p0)]) hx hb dX6_play_47 hl (k := 1) rfl (by decide) (by decide) rfl (fun ls hl => ?_)
  refine lv_goto (tgt := 27) hx hb dX6_play_50 (by decide) ?_
  refine lv_iload_n hx hb dX6_play_27 rfl (lv_at hl 0 rfl) ?_
  refine lv_if_lt (tgt := 53) hx hb dX6_play_28 (by decide) (fun _ => ?_) (fun c_26 => absurd (by decide) c_26)
  refine lv_iload_n hx hb dX6_play_53 rfl (lv_at hl 1 rfl) ?_
  have hP9 := hP.sub (ws' := [(h0, .inr (11, [.int 0, .int 0, .int 0, .int 0, .ref rq, .ref sbq])), (rq, .inl (ci, 119, .inl fx_23))]) [0, 1] rfl
  have hD9 := hD.sub (ws' := [(h0, .inr (11, [.int 0, .int 0, .int 0, .int 0, .ref rq, .ref sbq])), (rq, .inl (ci, 119, .inl fx_23))]) [0, 1] (by decide) rfl
  have hK9 := hK.sub (tys' := [(ci, .int)]) [0] rfl
  exact W.iret (v := 0) hx hb hr (fun t ht hW => ⟨⟨0, (), rfl, rfl, fx_23, by rw [ht]; exact hP9, va_K.moved hW.alike hK9, hD9⟩, hS.F ht⟩) hS.2.2 dX6_play_54
def v_c_M_play_3 : List Cond := .code yX6_play cX6_play 4 (some .int) :: ([Cond.fieldLink RX6 20 "HotelOfBellsModel" "thrown" "I", Cond.code yX6_digits cX6_digits 3 (some .int), Cond.code yX6_isIn cX6_isIn 3 (some .boolean), Cond.methodLink RX6 27 yX6_isIn, Cond.static yX6_isIn, Cond.initialized RX6, Cond.methodLink RX6 53 yX6_digits, Cond.static yX6_digits, Cond.code yX6_power cX6_power 3 (some .int), Cond.methodLink RX6 90 yX6_power, Cond.static yX6_power, Cond.code yX6_ringOne cX6_ringOne 4 (some .int), Cond.fieldLink RX6 34 "HotelOfBellsModel" "guests" "I", Cond.fieldLink RX6 9 "HotelOfBellsModel" "row" "[I", Cond.fieldLink RX6 24 "HotelOfBellsModel" "floors" "I", Cond.fieldLink RX6 31 "HotelOfBellsModel" "lifts" "I", Cond.methodLink RX6 130 yX6_ringOne, Cond.instanceMethod yX6_ringOne, Cond.selects RX6 yX6_ringOne yX6_ringOne] ++ (wsX60 ++ []))
theorem u_c_M_play_3_X6 : ∀ w ∈ wsX60, w ∈ v_c_M_play_3 := fun _ h => List.mem_cons_of_mem _ (List.mem_append_right _ (List.mem_append_left _ h))
theorem gg_c_M_play_3_c_digits : GoodIn v_c_M_play_3 v_c_digits := goodIn_r _ [2, 3, 4, 5, 6] (by rfl) (by decide +kernel)
theorem gg_c_M_play_3_c_power_2 : GoodIn v_c_M_play_3 v_c_power_2 := goodIn_r _ [9] (by rfl) (by decide +kernel)
theorem gg_c_M_play_3_c_ringOne : GoodIn v_c_M_play_3 v_c_ringOne := goodIn_r _ [12, 13, 14, 9, 10, 11, 6, 15, 16, 20, 21, 22, 23, 24, 25] (by rfl) (by decide +kernel)
theorem gg_c_M_play_3_c_power_1 : GoodIn v_c_M_play_3 v_c_power_1 := goodIn_r _ [9] (by rfl) (by decide +kernel)
theorem gg_c_M_play_3_c_power_0 : GoodIn v_c_M_play_3 v_c_power_0 := goodIn_r _ [9] (by rfl) (by decide +kernel)
set_option maxHeartbeats 4000000 in
set_option maxRecDepth 100000 in
theorem c_M_play_3 (l : Launch) (hl9 : l.stackTraces = false) (dC : Nat → ClassId) (dI : Nat → Nat → Nat) (tE : Nat) (h0 : Nat) (rq : Nat) (sbq : Nat) (th : Int32) (ci : ClassId) (fr : Nat → Int32) (p0 : Int32) (sz : Nat) (hd0 : dgt p0 = 3) : Met l yX6_play v_c_M_play_3 ({ frames := 2, cells := 0, slots := 0, locals := 45 }) (va_Pc [.ref h0, .int p0] (Pre0 dC dI tE sz [(ci, .int)] [(h0, .inr (11, [.int th, .int 0, .int 0, .int 0, .ref rq, .ref sbq])), (rq, .inl (ci, 119, .inl fr))])) (va_Qi (fun (r : Int32) (_ : Unit) => r = 0) (fun _ t => ∃ (fx0 : Nat → Int32), Pst dC dI [(ci, .int)] (va_A [(h0, .inr (11, [.int th, .int 0, .int 0, .int 0, .ref rq, .ref sbq])), (rq, .inl (ci, 119, .inl fr))] sz) [(h0, .inr (11, [.int 0, .int 0, .int 0, .int 0, .ref rq, .ref sbq])), (rq, .inl (ci, 119, .inl fx0))] t) (va_A [(h0, .inr (11, [.int th, .int 0, .int 0, .int 0, .ref rq, .ref sbq])), (rq, .inl (ci, 119, .inl fr))] sz)) 0 0 (va_A [(h0, .inr (11, [.int th, .int 0, .int 0, .int 0, .ref rq, .ref sbq])), (rq, .inl (ci, 119, .inl fr))] sz) := by
  refine Met.ofW (cc := cX6_play) (maxL := 4) (ret := (some .int)) (by decide) rfl ?_
  intro p e s m args below meth c s₁ B hml hv
  obtain ⟨rfl, hsz, hP, hK, hD0, hT⟩ := hv
  have hx := B.exec
  have hb := B.bytes
  have hr := B.returns
  have hts := atoms_spec (ws := v_c_M_play_3) B.pre
  have hown : s.vm.findClass RX6 = some m.cls := findClass_of_methodNamed B.named
  have hlocks := B.notSynchronized
  subst hsz
  have hD := hD0.self (sz := s.heap.size)
  generalize hAe : va_A [(h0, .inr (11, [.int th, .int 0, .int 0, .int 0, .ref rq, .ref sbq])), (rq, .inl (ci, 119, .inl fr))] s.heap.size = A at hD hT ⊢
  have hA : ∀ q : Nat, s.heap.size ≤ q → A q := fun q h => by rw [← hAe]; exact Or.inr h
  have hS : va_S A s.heap s.heap [] := va_S.rf
  have hl := lv_entry ([.ref h0, .int p0]) (n := 4) (Nat.le_of_ble_eq_true rfl)
  rw [lg_entry_eq]
  generalize (lg_sl ([.ref h0, .int p0]) ++ List.replicate (4 - (lg_sl ([.ref h0, .int p0])).length) Slot.unset).toArray = ls at hl ⊢
  have hl : lv_has ls 4 [(0, .ref h0), (1, .int p0)] := hl
  refine lv_aload_n hx hb dX6_play_0 rfl (lv_at hl 0 rfl) ?_
  refine lv_iconst (v := 0) hx hb dX6_play_1 (by decide) ?_
  refine va_put (D := (dC, dI)) (ci := 11) (v := .int 0) (ty := .int) (C := RX6) (T := TX6) (N := 6) hx hb hts u_c_M_play_3_X6 tyX6 tyX6_ok nmX6 hown hK hP hD hS 0 rfl rfl 0 (by decide) (hts (.fieldLink RX6 20 "HotelOfBellsModel" "thrown" "I") (List.mem_of_getElem? (i := 1) rfl)) (fun _ h9 => h9) rfl (by decide +kernel) rfl rfl (Nat.le_of_ble_eq_true rfl) dX6_play_2 (fun H locs hP hD hS => ?_)
  have hP : va_P (dC, dI) vwCl [(h0, .inr (11, [.int 0, .int 0, .int 0, .int 0, .ref rq, .ref sbq])), (rq, .inl (ci, 119, .inl fr))] H := hP
  have hD : va_D A [(h0, .inr (11, [.int 0, .int 0, .int 0, .int 0, .ref rq, .ref sbq])), (rq, .inl (ci, 119, .inl fr))] := hD
  refine lv_iload_n hx hb dX6_play_5 rfl (lv_at hl 1 rfl) ?_
  have hPc := hP.sub (ws' := []) [] rfl
  have hDc := hD.sub (ws' := []) [] (by decide) rfl
  have hKc := hK.sub (tys' := []) [] rfl
  have hFc := va_free (wc := []) hD hS hA [] rfl
  refine va_calli (va_runS (As := [.int p0]) (rest := []) ⟨hx, hb, hml, hown, hts⟩ (c_digits l hl9 dC dI tE p0 _ ) (va_cwS 1 hts (goodIn_app (goodIn_r _ [7, 8, 6] (by rfl) (by decide +kernel)) gg_c_M_play_3_c_digits) rfl rfl rfl (by decide +kernel) ⟨Nat.le_of_ble_eq_true rfl, Nat.le_of_ble_eq_true rfl⟩) ⟨Pre0.blind, Pre0.give hPc hKc hDc hT hS hFc⟩ rfl rfl hl.1 rfl (lv_room (Nat.le_of_ble_eq_true rfl)) dX6_play_6 ⟨Nat.le_of_ble_eq_true rfl, Nat.le_of_ble_eq_true rfl⟩) hS (fun q _ h => hFc q h) hFc (fun r_1 u t H1 locs ht hvm hw hB hz1 hk1 hS => ?_)
  obtain ⟨hP1, hK1, hD1⟩ := hB
  rw [ht] at hP1
  have hK1 := va_K.moved hvm.symm hK1
  obtain ⟨hP, hD⟩ := va_join (wr := [(h0, .inr (11, [.int 0, .int 0, .int 0, .int 0, .ref rq, .ref sbq])), (rq, .inl (ci, 119, .inl fr))]) (w1 := []) hP hD [] [0, 1] rfl rfl (by decide) (by decide) hk1 hFc hP1 hD1
  generalize H1 = H at hP hS ⊢
  have hP : va_P (dC, dI) vwCl [(h0, .inr (11, [.int 0, .int 0, .int 0, .int 0, .ref rq, .ref sbq])), (rq, .inl (ci, 119, .inl fr))] H := hP
  have hD : va_D A [(h0, .inr (11, [.int 0, .int 0, .int 0, .int 0, .ref rq, .ref sbq])), (rq, .inl (ci, 119, .inl fr))] := hD
  refine W.widen (k := 0) (n := 0) (by omega) (by omega) ?_
  obtain rfl : r_1 = 3 := hw.trans hd0
  refine lv_if_ne (tgt := 18) hx hb dX6_play_9 (by decide) (fun _ => ?_) (fun c_2 => absurd c_2 (by decide))
  refine lv_iconst (v := 0) hx hb dX6_play_18 (by decide) ?_
  refine lv_istore_n (lv' := [(2, .int 0), (0, .ref h0), (1, .int p0)]) hx hb dX6_play_19 rfl hl (by decide) rfl (fun ls hl => ?_)
  refine lv_iload_n hx hb dX6_play_20 rfl (lv_at hl 2 rfl) ?_
  have hPc := hP.sub (ws' := []) [] rfl
  have hDc := hD.sub (ws' := []) [] (by decide) rfl
  have hKc := hK.sub (tys' := []) [] rfl
  have hFc := va_free (wc := []) hD hS hA [] rfl
  refine va_calli (va_runS (As := [.int p0]) (rest := []) ⟨hx, hb, hml, hown, hts⟩ (c_digits l hl9 dC dI tE p0 _ ) (va_cwS 1 hts (goodIn_app (goodIn_r _ [7, 8, 6] (by rfl) (by decide +kernel)) gg_c_M_play_3_c_digits) rfl rfl rfl (by decide +kernel) ⟨Nat.le_of_ble_eq_true rfl, Nat.le_of_ble_eq_true rfl⟩) ⟨Pre0.blind, Pre0.give hPc hKc hDc hT hS hFc⟩ rfl rfl hl.1 rfl (lv_room (Nat.le_of_ble_eq_true rfl)) dX6_play_21 ⟨Nat.le_of_ble_eq_true rfl, Nat.le_of_ble_eq_true rfl⟩) hS (fun q _ h => hFc q h) hFc (fun r_3 u t H1 locs ht hvm hw hB hz1 hk1 hS => ?_)
  obtain ⟨hP1, hK1, hD1⟩ := hB
  rw [ht] at hP1
  have hK1 := va_K.moved hvm.symm hK1
  obtain ⟨hP, hD⟩ := va_join (wr := [(h0, .inr (11, [.int 0, .int 0, .int 0, .int 0, .ref rq, .ref sbq])), (rq, .inl (ci, 119, .inl fr))]) (w1 := []) hP hD [] [0, 1] rfl rfl (by decide) (by decide) hk1 hFc hP1 hD1
  generalize H1 = H at hP hS ⊢
  have hP : va_P (dC, dI) vwCl [(h0, .inr (11, [.int 0, .int 0, .int 0, .int 0, .ref rq, .ref sbq])), (rq, .inl (ci, 119, .inl fr))] H := hP
  have hD : va_D A [(h0, .inr (11, [.int 0, .int 0, .int 0, .int 0, .ref rq, .ref sbq])), (rq, .inl (ci, 119, .inl fr))] := hD
  refine W.widen (k := 0) (n := 0) (by omega) (by omega) ?_
  obtain rfl : r_3 = 3 := hw.trans hd0
  refine lv_iconst (v := 1) hx hb dX6_play_24 (by decide) ?_
  refine lv_isub hx hb dX6_play_25 ?_
  refine lv_topi (fun x_4 e_5 => ?_)
  obtain rfl : x_4 = 2 := e_5.trans (by decide)
  refine lv_istore_n (lv' := [(3, .int 2), (2, .int 0), (0, .ref h0), (1, .int p0)]) hx hb dX6_play_26 rfl hl (by decide) rfl (fun ls hl => ?_)
  refine lv_iload_n hx hb dX6_play_27 rfl (lv_at hl 0 rfl) ?_
  refine lv_if_lt (tgt := 53) hx hb dX6_play_28 (by decide) (fun c_6 => absurd c_6 (by decide)) (fun _ => ?_)
  refine lv_iload_n hx hb dX6_play_31 rfl (lv_at hl 1 rfl) ?_
  refine lv_aload_n hx hb dX6_play_32 rfl (lv_at hl 2 rfl) ?_
  refine lv_iload_n hx hb dX6_play_33 rfl (lv_at hl 3 rfl) ?_
  refine lv_iload_n hx hb dX6_play_34 rfl (lv_at hl 0 rfl) ?_
  have hPc := hP.sub (ws' := []) [] rfl
  have hDc := hD.sub (ws' := []) [] (by decide) rfl
  have hKc := hK.sub (tys' := []) [] rfl
  have hFc := va_free (wc := []) hD hS hA [] rfl
  refine va_calli (va_runS (As := [.int 2]) (rest := [.int p0, .ref h0, .int 0]) ⟨hx, hb, hml, hown, hts⟩ (c_power_2 l hl9 dC dI tE  _ ) (va_cwS 1 hts (goodIn_app (goodIn_r _ [10, 11, 6] (by rfl) (by decide +kernel)) gg_c_M_play_3_c_power_2) rfl rfl rfl (by decide +kernel) ⟨Nat.le_of_ble_eq_true rfl, Nat.le_of_ble_eq_true rfl⟩) ⟨Pre0.blind, Pre0.give hPc hKc hDc hT hS hFc⟩ rfl rfl hl.1 rfl (lv_room (Nat.le_of_ble_eq_true rfl)) dX6_play_35 ⟨Nat.le_of_ble_eq_true rfl, Nat.le_of_ble_eq_true rfl⟩) hS (fun q _ h => hFc q h) hFc (fun r_7 u t H1 locs ht hvm hw hB hz1 hk1 hS => ?_)
  obtain ⟨hP1, hK1, hD1⟩ := hB
  rw [ht] at hP1
  have hK1 := va_K.moved hvm.symm hK1
  obtain ⟨hP, hD⟩ := va_join (wr := [(h0, .inr (11, [.int 0, .int 0, .int 0, .int 0, .ref rq, .ref sbq])), (rq, .inl (ci, 119, .inl fr))]) (w1 := []) hP hD [] [0, 1] rfl rfl (by decide) (by decide) hk1 hFc hP1 hD1
  generalize H1 = H at hP hS ⊢
  have hP : va_P (dC, dI) vwCl [(h0, .inr (11, [.int 0, .int 0, .int 0, .int 0, .ref rq, .ref sbq])), (rq, .inl (ci, 119, .inl fr))] H := hP
  have hD : va_D A [(h0, .inr (11, [.int 0, .int 0, .int 0, .int 0, .ref rq, .ref sbq])), (rq, .inl (ci, 119, .inl fr))] := hD
  refine W.widen (k := 0) (n := 0) (by omega) (by omega) ?_
  obtain rfl : r_7 = 100 := hw
  refine lv_idiv hx hb dX6_play_38 (by decide) ?_
  refine lv_topi (fun x_8 e_9 => ?_)
  refine lv_bipush (v := 10) hx hb dX6_play_39 (by decide) ?_
  refine lv_irem hx hb dX6_play_41 (by decide) ?_
  refine lv_topi (fun x_10 e_11 => ?_)
  have hPc := hP.sub (ws' := [(h0, .inr (11, [.int 0, .int 0, .int 0, .int 0, .ref rq, .ref sbq])), (rq, .inl (ci, 119, .inl fr))]) [0, 1] rfl
  have hDc := hD.sub (ws' := [(h0, .inr (11, [.int 0, .int 0, .int 0, .int 0, .ref rq, .ref sbq])), (rq, .inl (ci, 119, .inl fr))]) [0, 1] (by decide) rfl
  have hKc := hK.sub (tys' := [(ci, .int)]) [0] rfl
  have hFc := va_free (wc := [(h0, .inr (11, [.int 0, .int 0, .int 0, .int 0, .ref rq, .ref sbq])), (rq, .inl (ci, 119, .inl fr))]) hD hS hA [0, 1] rfl
  refine va_calli (va_runV (As := [.int x_10]) (rest := [.int 0]) ⟨hx, hb, hml, hown, hts⟩ (c_ringOne l hl9 dC dI tE h0 rq sbq 0 ci fr x_10 _ ) (cwV 1 hts (goodIn_app (goodIn_r _ [17, 18, 19, 6] (by rfl) (by decide +kernel)) gg_c_M_play_3_c_ringOne) rfl rfl rfl (by decide +kernel) ⟨Nat.le_of_ble_eq_true rfl, Nat.le_of_ble_eq_true rfl⟩) ⟨Pre0.blind, va_recv hKc hPc (ci := 11) (q0 := 0) rfl rfl, Pre0.give hPc hKc hDc hT hS hFc⟩ rfl rfl hl.1 rfl (lv_room (Nat.le_of_ble_eq_true rfl)) dX6_play_42 ⟨Nat.le_of_ble_eq_true rfl, Nat.le_of_ble_eq_true rfl⟩) hS (fun q _ h => hFc q h) hFc (fun r_12 u t H1 locs ht hvm hw hB hz1 hk1 hS => ?_)
  obtain ⟨fx_13, hP1, hK1, hD1⟩ := hB
  rw [ht] at hP1
  have hK1 := va_K.moved hvm.symm hK1
  obtain ⟨hP, hD⟩ := va_join (wr := []) (w1 := [(h0, .inr (11, [.int 0, .int 0, .int 0, .int 0, .ref rq, .ref sbq])), (rq, .inl (ci, 119, .inl fx_13))]) hP hD [0, 1] [] rfl rfl (by decide) (by decide) hk1 hFc hP1 hD1
  generalize H1 = H at hP hS ⊢
  have hP : va_P (dC, dI) vwCl [(h0, .inr (11, [.int 0, .int 0, .int 0, .int 0, .ref rq, .ref sbq])), (rq, .inl (ci, 119, .inl fx_13))] H := hP
  have hD : va_D A [(h0, .inr (11, [.int 0, .int 0, .int 0, .int 0, .ref rq, .ref sbq])), (rq, .inl (ci, 119, .inl fx_13))] := hD
  refine W.widen (k := 0) (n := 0) (by omega) (by omega) ?_
  obtain rfl : r_12 = 0 := hw
  refine lv_iadd hx hb dX6_play_45 ?_
  refine lv_topi (fun x_14 e_15 => ?_)
  obtain rfl : x_14 = 0 := e_15.trans (by decide)
  refine lv_istore_n (lv' := [(2, .int 0), (3, .int 2), (0, .ref h0), (1, .int p0)]) hx hb dX6_play_46 rfl hl (by decide) rfl (fun ls hl => ?_)
  refine lv_iinc (v := 1) (lv' := [(3, .int 1), (2, .int 0), (0, .ref h0), (1, .int p0)]) hx hb dX6_play_47 hl (k := 1) rfl (by decide) (by decide) rfl (fun ls hl => ?_)
  refine lv_goto (tgt := 27) hx hb dX6_play_50 (by decide) ?_
  refine lv_iload_n hx hb dX6_play_27 rfl (lv_at hl 0 rfl) ?_
  refine lv_if_lt (tgt := 53) hx hb dX6_play_28 (by decide) (fun c_16 => absurd c_16 (by decide)) (fun _ => ?_)
  refine lv_iload_n hx hb dX6_play_31 rfl (lv_at hl 1 rfl) ?_
  refine lv_aload_n hx hb dX6_play_32 rfl (lv_at hl 2 rfl) ?_
  refine lv_iload_n hx hb dX6_play_33 rfl (lv_at hl 3 rfl) ?_
  refine lv_iload_n hx hb dX6_play_34 rfl (lv_at hl 0 rfl) ?_
  have hPc := hP.sub (ws' := []) [] rfl
  have hDc := hD.sub (ws' := []) [] (by decide) rfl
  have hKc := hK.sub (tys' := []) [] rfl
  have hFc := va_free (wc := []) hD hS hA [] rfl
  refine va_calli (va_runS (As := [.int 1]) (rest := [.int p0, .ref h0, .int 0]) ⟨hx, hb, hml, hown, hts⟩ (c_power_1 l hl9 dC dI tE  _ ) (va_cwS 1 hts (goodIn_app (goodIn_r _ [10, 11, 6] (by rfl) (by decide +kernel)) gg_c_M_play_3_c_power_1) rfl rfl rfl (by decide +kernel) ⟨Nat.le_of_ble_eq_true rfl, Nat.le_of_ble_eq_true rfl⟩) ⟨Pre0.blind, Pre0.give hPc hKc hDc hT hS hFc⟩ rfl rfl hl.1 rfl (lv_room (Nat.le_of_ble_eq_true rfl)) dX6_play_35 ⟨Nat.le_of_ble_eq_true rfl, Nat.le_of_ble_eq_true rfl⟩) hS (fun q _ h => hFc q h) hFc (fun r_17 u t H1 locs ht hvm hw hB hz1 hk1 hS => ?_)
  obtain ⟨hP1, hK1, hD1⟩ := hB
  rw [ht] at hP1
  have hK1 := va_K.moved hvm.symm hK1
  obtain ⟨hP, hD⟩ := va_join (wr := [(h0, .inr (11, [.int 0, .int 0, .int 0, .int 0, .ref rq, .ref sbq])), (rq, .inl (ci, 119, .inl fx_13))]) (w1 := []) hP hD [] [0, 1] rfl rfl (by decide) (by decide) hk1 hFc hP1 hD1
  generalize H1 = H at hP hS ⊢
  have hP : va_P (dC, dI) vwCl [(h0, .inr (11, [.int 0, .int 0, .int 0, .int 0, .ref rq, .ref sbq])), (rq, .inl (ci, 119, .inl fx_13))] H := hP
  have hD : va_D A [(h0, .inr (11, [.int 0, .int 0, .int 0, .int 0, .ref rq, .ref sbq])), (rq, .inl (ci, 119, .inl fx_13))] := hD
  refine W.widen (k := 0) (n := 0) (by omega) (by omega) ?_
  obtain rfl : r_17 = 10 := hw
  refine lv_idiv hx hb dX6_play_38 (by decide) ?_
  refine lv_topi (fun x_18 e_19 => ?_)
  refine lv_bipush (v := 10) hx hb dX6_play_39 (by decide) ?_
  refine lv_irem hx hb dX6_play_41 (by decide) ?_
  refine lv_topi (fun x_20 e_21 => ?_)
  have hPc := hP.sub (ws' := [(h0, .inr (11, [.int 0, .int 0, .int 0, .int 0, .ref rq, .ref sbq])), (rq, .inl (ci, 119, .inl fx_13))]) [0, 1] rfl
  have hDc := hD.sub (ws' := [(h0, .inr (11, [.int 0, .int 0, .int 0, .int 0, .ref rq, .ref sbq])), (rq, .inl (ci, 119, .inl fx_13))]) [0, 1] (by decide) rfl
  have hKc := hK.sub (tys' := [(ci, .int)]) [0] rfl
  have hFc := va_free (wc := [(h0, .inr (11, [.int 0, .int 0, .int 0, .int 0, .ref rq, .ref sbq])), (rq, .inl (ci, 119, .inl fx_13))]) hD hS hA [0, 1] rfl
  refine va_calli (va_runV (As := [.int x_20]) (rest := [.int 0]) ⟨hx, hb, hml, hown, hts⟩ (c_ringOne l hl9 dC dI tE h0 rq sbq 0 ci fx_13 x_20 _ ) (cwV 1 hts (goodIn_app (goodIn_r _ [17, 18, 19, 6] (by rfl) (by decide +kernel)) gg_c_M_play_3_c_ringOne) rfl rfl rfl (by decide +kernel) ⟨Nat.le_of_ble_eq_true rfl, Nat.le_of_ble_eq_true rfl⟩) ⟨Pre0.blind, va_recv hKc hPc (ci := 11) (q0 := 0) rfl rfl, Pre0.give hPc hKc hDc hT hS hFc⟩ rfl rfl hl.1 rfl (lv_room (Nat.le_of_ble_eq_true rfl)) dX6_play_42 ⟨Nat.le_of_ble_eq_true rfl, Nat.le_of_ble_eq_true rfl⟩) hS (fun q _ h => hFc q h) hFc (fun r_22 u t H1 locs ht hvm hw hB hz1 hk1 hS => ?_)
  obtain ⟨fx_23, hP1, hK1, hD1⟩ := hB
  rw [ht] at hP1
  have hK1 := va_K.moved hvm.symm hK1
  obtain ⟨hP, hD⟩ := va_join (wr := []) (w1 := [(h0, .inr (11, [.int 0, .int 0, .int 0, .int 0, .ref rq, .ref sbq])), (rq, .inl (ci, 119, .inl fx_23))]) hP hD [0, 1] [] rfl rfl (by decide) (by decide) hk1 hFc hP1 hD1
  generalize H1 = H at hP hS ⊢
  have hP : va_P (dC, dI) vwCl [(h0, .inr (11, [.int 0, .int 0, .int 0, .int 0, .ref rq, .ref sbq])), (rq, .inl (ci, 119, .inl fx_23))] H := hP
  have hD : va_D A [(h0, .inr (11, [.int 0, .int 0, .int 0, .int 0, .ref rq, .ref sbq])), (rq, .inl (ci, 119, .inl fx_23))] := hD
  refine W.widen (k := 0) (n := 0) (by omega) (by omega) ?_
  obtain rfl : r_22 = 0 := hw
  refine lv_iadd hx hb dX6_play_45 ?_
  refine lv_topi (fun x_24 e_25 => ?_)
  obtain rfl : x_24 = 0 := e_25.trans (by decide)
  refine lv_istore_n (lv' := [(2, .int 0), (3, .int 1), (0, .ref h0), (1, .int p0)]) hx hb dX6_play_46 rfl hl (by decide) rfl (fun ls hl => ?_)
  refine lv_iinc (v := 0) (lv' := [(3, .int 0), (2, .int 0), (0, .ref h0), (1, .int p0)]) hx hb dX6_play_47 hl (k := 1) rfl (by decide) (by decide) rfl (fun ls hl => ?_)
  refine lv_goto (tgt := 27) hx hb dX6_play_50 (by decide) ?_
  refine lv_iload_n hx hb dX6_play_27 rfl (lv_at hl 0 rfl) ?_
  refine lv_if_lt (tgt := 53) hx hb dX6_play_28 (by decide) (fun c_26 => absurd c_26 (by decide)) (fun _ => ?_)
  refine lv_iload_n hx hb dX6_play_31 rfl (lv_at hl 1 rfl) ?_
  refine lv_aload_n hx hb dX6_play_32 rfl (lv_at hl 2 rfl) ?_
  refine lv_iload_n hx hb dX6_play_33 rfl (lv_at hl 3 rfl) ?_
  refine lv_iload_n hx hb dX6_play_34 rfl (lv_at hl 0 rfl) ?_
  have hPc := hP.sub (ws' := []) [] rfl
  have hDc := hD.sub (ws' := []) [] (by decide) rfl
  have hKc := hK.sub (tys' := []) [] rfl
  have hFc := va_free (wc := []) hD hS hA [] rfl
  refine va_calli (va_runS (As := [.int 0]) (rest := [.int p0, .ref h0, .int 0]) ⟨hx, hb, hml, hown, hts⟩ (c_power_0 l hl9 dC dI tE  _ ) (va_cwS 1 hts (goodIn_app (goodIn_r _ [10, 11, 6] (by rfl) (by decide +kernel)) gg_c_M_play_3_c_power_0) rfl rfl rfl (by decide +kernel) ⟨Nat.le_of_ble_eq_true rfl, Nat.le_of_ble_eq_true rfl⟩) ⟨Pre0.blind, Pre0.give hPc hKc hDc hT hS hFc⟩ rfl rfl hl.1 rfl (lv_room (Nat.le_of_ble_eq_true rfl)) dX6_play_35 ⟨Nat.le_of_ble_eq_true rfl, Nat.le_of_ble_eq_true rfl⟩) hS (fun q _ h => hFc q h) hFc (fun r_27 u t H1 locs ht hvm hw hB hz1 hk1 hS => ?_)
  obtain ⟨hP1, hK1, hD1⟩ := hB
  rw [ht] at hP1
  have hK1 := va_K.moved hvm.symm hK1
  obtain ⟨hP, hD⟩ := va_join (wr := [(h0, .inr (11, [.int 0, .int 0, .int 0, .int 0, .ref rq, .ref sbq])), (rq, .inl (ci, 119, .inl fx_23))]) (w1 := []) hP hD [] [0, 1] rfl rfl (by decide) (by decide) hk1 hFc hP1 hD1
  generalize H1 = H at hP hS ⊢
  have hP : va_P (dC, dI) vwCl [(h0, .inr (11, [.int 0, .int 0, .int 0, .int 0, .ref rq, .ref sbq])), (rq, .inl (ci, 119, .inl fx_23))] H := hP
  have hD : va_D A [(h0, .inr (11, [.int 0, .int 0, .int 0, .int 0, .ref rq, .ref sbq])), (rq, .inl (ci, 119, .inl fx_23))] := hD
  refine W.widen (k := 0) (n := 0) (by omega) (by omega) ?_
  obtain rfl : r_27 = 1 := hw
  refine lv_idiv hx hb dX6_play_38 (by decide) ?_
  refine lv_topi (fun x_28 e_29 => ?_)
  refine lv_bipush (v := 10) hx hb dX6_play_39 (by decide) ?_
  refine lv_irem hx hb dX6_play_41 (by decide) ?_
  refine lv_topi (fun x_30 e_31 => ?_)
  have hPc := hP.sub (ws' := [(h0, .inr (11, [.int 0, .int 0, .int 0, .int 0, .ref rq, .ref sbq])), (rq, .inl (ci, 119, .inl fx_23))]) [0, 1] rfl
  have hDc := hD.sub (ws' := [(h0, .inr (11, [.int 0, .int 0, .int 0, .int 0, .ref rq, .ref sbq])), (rq, .inl (ci, 119, .inl fx_23))]) [0, 1] (by decide) rfl
  have hKc := hK.sub (tys' := [(ci, .int)]) [0] rfl
  have hFc := va_free (wc := [(h0, .inr (11, [.int 0, .int 0, .int 0, .int 0, .ref rq, .ref sbq])), (rq, .inl (ci, 119, .inl fx_23))]) hD hS hA [0, 1] rfl
  refine va_calli (va_runV (As := [.int x_30]) (rest := [.int 0]) ⟨hx, hb, hml, hown, hts⟩ (c_ringOne l hl9 dC dI tE h0 rq sbq 0 ci fx_23 x_30 _ ) (cwV 1 hts (goodIn_app (goodIn_r _ [17, 18, 19, 6] (by rfl) (by decide +kernel)) gg_c_M_play_3_c_ringOne) rfl rfl rfl (by decide +kernel) ⟨Nat.le_of_ble_eq_true rfl, Nat.le_of_ble_eq_true rfl⟩) ⟨Pre0.blind, va_recv hKc hPc (ci := 11) (q0 := 0) rfl rfl, Pre0.give hPc hKc hDc hT hS hFc⟩ rfl rfl hl.1 rfl (lv_room (Nat.le_of_ble_eq_true rfl)) dX6_play_42 ⟨Nat.le_of_ble_eq_true rfl, Nat.le_of_ble_eq_true rfl⟩) hS (fun q _ h => hFc q h) hFc (fun r_32 u t H1 locs ht hvm hw hB hz1 hk1 hS => ?_)
  obtain ⟨fx_33, hP1, hK1, hD1⟩ := hB
  rw [ht] at hP1
  have hK1 := va_K.moved hvm.symm hK1
  obtain ⟨hP, hD⟩ := va_join (wr := []) (w1 := [(h0, .inr (11, [.int 0, .int 0, .int 0, .int 0, .ref rq, .ref sbq])), (rq, .inl (ci, 119, .inl fx_33))]) hP hD [0, 1] [] rfl rfl (by decide) (by decide) hk1 hFc hP1 hD1
  generalize H1 = H at hP hS ⊢
  have hP : va_P (dC, dI) vwCl [(h0, .inr (11, [.int 0, .int 0, .int 0, .int 0, .ref rq, .ref sbq])), (rq, .inl (ci, 119, .inl fx_33))] H := hP
  have hD : va_D A [(h0, .inr (11, [.int 0, .int 0, .int 0, .int 0, .ref rq, .ref sbq])), (rq, .inl (ci, 119, .inl fx_33))] := hD
  refine W.widen (k := 0) (n := 0) (by omega) (by omega) ?_
  obtain rfl : r_32 = 0 := hw
  refine lv_iadd hx hb dX6_play_45 ?_
  refine lv_topi (fun x_34 e_35 => ?_)
  obtain rfl : x_34 = 0 := e_35.trans (by decide)
  refine lv_istore_n (lv' := [(2, .int 0), (3, .int 0), (0, .ref h0), (1, .int p0)]) hx hb dX6_play_46 rfl hl (by decide) rfl (fun ls hl => ?_)
  refine lv_iinc (v := (-1)) (lv' := [(3, .int (-1)), (2, .int 0), (0, .ref h0), (1, .int p0)]) hx hb dX6_play_47 hl (k := 1) rfl (by decide) (by decide) rfl (fun ls hl => ?_)
  refine lv_goto (tgt := 27) hx hb dX6_play_50 (by decide) ?_
  refine lv_iload_n hx hb dX6_play_27 rfl (lv_at hl 0 rfl) ?_
  refine lv_if_lt (tgt := 53) hx hb dX6_play_28 (by decide) (fun _ => ?_) (fun c_36 => absurd (by decide) c_36)
  refine lv_iload_n hx hb dX6_play_53 rfl (lv_at hl 1 rfl) ?_
  have hP9 := hP.sub (ws' := [(h0, .inr (11, [.int 0, .int 0, .int 0, .int 0, .ref rq, .ref sbq])), (rq, .inl (ci, 119, .inl fx_33))]) [0, 1] rfl
  have hD9 := hD.sub (ws' := [(h0, .inr (11, [.int 0, .int 0, .int 0, .int 0, .ref rq, .ref sbq])), (rq, .inl (ci, 119, .inl fx_33))]) [0, 1] (by decide) rfl
  have hK9 := hK.sub (tys' := [(ci, .int)]) [0] rfl
  exact W.iret (v := 0) hx hb hr (fun t ht hW => ⟨⟨0, (), rfl, rfl, fx_33, by rw [ht]; exact hP9, va_K.moved hW.alike hK9, hD9⟩, hS.F ht⟩) hS.2.2 dX6_play_54
def v_c_M_play_4 : List Cond := .code yX6_play cX6_play 4 (some .int) :: ([Cond.fieldLink RX6 20 "HotelOfBellsModel" "thrown" "I", Cond.code yX6_digits cX6_digits 3 (some .int), Cond.code yX6_isIn cX6_isIn 3 (some .boolean), Cond.methodLink RX6 27 yX6_isIn, Cond.static yX6_isIn, Cond.initialized RX6, Cond.methodLink RX6 53 yX6_digits, Cond.static yX6_digits, Cond.code yX6_power cX6_power 3 (some .int), Cond.methodLink RX6 90 yX6_power, Cond.static yX6_power, Cond.code yX6_ringOne cX6_ringOne 4 (some .int), Cond.fieldLink RX6 34 "HotelOfBellsModel" "guests" "I", Cond.fieldLink RX6 9 "HotelOfBellsModel" "row" "[I", Cond.fieldLink RX6 24 "HotelOfBellsModel" "floors" "I", Cond.fieldLink RX6 31 "HotelOfBellsModel" "lifts" "I", Cond.methodLink RX6 130 yX6_ringOne, Cond.instanceMethod yX6_ringOne, Cond.selects RX6 yX6_ringOne yX6_ringOne] ++ (wsX60 ++ []))
theorem u_c_M_play_4_X6 : ∀ w ∈ wsX60, w ∈ v_c_M_play_4 := fun _ h => List.mem_cons_of_mem _ (List.mem_append_right _ (List.mem_append_left _ h))
theorem gg_c_M_play_4_c_digits : GoodIn v_c_M_play_4 v_c_digits := goodIn_r _ [2, 3, 4, 5, 6] (by rfl) (by decide +kernel)
theorem gg_c_M_play_4_c_power_3 : GoodIn v_c_M_play_4 v_c_power_3 := goodIn_r _ [9] (by rfl) (by decide +kernel)
theorem gg_c_M_play_4_c_ringOne : GoodIn v_c_M_play_4 v_c_ringOne := goodIn_r _ [12, 13, 14, 9, 10, 11, 6, 15, 16, 20, 21, 22, 23, 24, 25] (by rfl) (by decide +kernel)
theorem gg_c_M_play_4_c_power_2 : GoodIn v_c_M_play_4 v_c_power_2 := goodIn_r _ [9] (by rfl) (by decide +kernel)
theorem gg_c_M_play_4_c_power_1 : GoodIn v_c_M_play_4 v_c_power_1 := goodIn_r _ [9] (by rfl) (by decide +kernel)
theorem gg_c_M_play_4_c_power_0 : GoodIn v_c_M_play_4 v_c_power_0 := goodIn_r _ [9] (by rfl) (by decide +kernel)
set_option maxHeartbeats 4000000 in
set_option maxRecDepth 100000 in
theorem c_M_play_4 (l : Launch) (hl9 : l.stackTraces = false) (dC : Nat → ClassId) (dI : Nat → Nat → Nat) (tE : Nat) (h0 : Nat) (rq : Nat) (sbq : Nat) (th : Int32) (ci : ClassId) (fr : Nat → Int32) (p0 : Int32) (sz : Nat) (hd0 : dgt p0 = 4) : Met l yX6_play v_c_M_play_4 ({ frames := 2, cells := 0, slots := 0, locals := 45 }) (va_Pc [.ref h0, .int p0] (Pre0 dC dI tE sz [(ci, .int)] [(h0, .inr (11, [.int th, .int 0, .int 0, .int 0, .ref rq, .ref sbq])), (rq, .inl (ci, 119, .inl fr))])) (va_Qi (fun (r : Int32) (_ : Unit) => r = 0) (fun _ t => ∃ (fx0 : Nat → Int32), Pst dC dI [(ci, .int)] (va_A [(h0, .inr (11, [.int th, .int 0, .int 0, .int 0, .ref rq, .ref sbq])), (rq, .inl (ci, 119, .inl fr))] sz) [(h0, .inr (11, [.int 0, .int 0, .int 0, .int 0, .ref rq, .ref sbq])), (rq, .inl (ci, 119, .inl fx0))] t) (va_A [(h0, .inr (11, [.int th, .int 0, .int 0, .int 0, .ref rq, .ref sbq])), (rq, .inl (ci, 119, .inl fr))] sz)) 0 0 (va_A [(h0, .inr (11, [.int th, .int 0, .int 0, .int 0, .ref rq, .ref sbq])), (rq, .inl (ci, 119, .inl fr))] sz) := by
  refine Met.ofW (cc := cX6_play) (maxL := 4) (ret := (some .int)) (by decide) rfl ?_
  intro p e s m args below meth c s₁ B hml hv
  obtain ⟨rfl, hsz, hP, hK, hD0, hT⟩ := hv
  have hx := B.exec
  have hb := B.bytes
  have hr := B.returns
  have hts := atoms_spec (ws := v_c_M_play_4) B.pre
  have hown : s.vm.findClass RX6 = some m.cls := findClass_of_methodNamed B.named
  have hlocks := B.notSynchronized
  subst hsz
  have hD := hD0.self (sz := s.heap.size)
  generalize hAe : va_A [(h0, .inr (11, [.int th, .int 0, .int 0, .int 0, .ref rq, .ref sbq])), (rq, .inl (ci, 119, .inl fr))] s.heap.size = A at hD hT ⊢
  have hA : ∀ q : Nat, s.heap.size ≤ q → A q := fun q h => by rw [← hAe]; exact Or.inr h
  have hS : va_S A s.heap s.heap [] := va_S.rf
  have hl := lv_entry ([.ref h0, .int p0]) (n := 4) (Nat.le_of_ble_eq_true rfl)
  rw [lg_entry_eq]
  generalize (lg_sl ([.ref h0, .int p0]) ++ List.replicate (4 - (lg_sl ([.ref h0, .int p0])).length) Slot.unset).toArray = ls at hl ⊢
  have hl : lv_has ls 4 [(0, .ref h0), (1, .int p0)] := hl
  refine lv_aload_n hx hb dX6_play_0 rfl (lv_at hl 0 rfl) ?_
  refine lv_iconst (v := 0) hx hb dX6_play_1 (by decide) ?_
  refine va_put (D := (dC, dI)) (ci := 11) (v := .int 0) (ty := .int) (C := RX6) (T := TX6) (N := 6) hx hb hts u_c_M_play_4_X6 tyX6 tyX6_ok nmX6 hown hK hP hD hS 0 rfl rfl 0 (by decide) (hts (.fieldLink RX6 20 "HotelOfBellsModel" "thrown" "I") (List.mem_of_getElem? (i := 1) rfl)) (fun _ h9 => h9) rfl (by decide +kernel) rfl rfl (Nat.le_of_ble_eq_true rfl) dX6_play_2 (fun H locs hP hD hS => ?_)
  have hP : va_P (dC, dI) vwCl [(h0, .inr (11, [.int 0, .int 0, .int 0, .int 0, .ref rq, .ref sbq])), (rq, .inl (ci, 119, .inl fr))] H := hP
  have hD : va_D A [(h0, .inr (11, [.int 0, .int 0, .int 0, .int 0, .ref rq, .ref sbq])), (rq, .inl (ci, 119, .inl fr))] := hD
  refine lv_iload_n hx hb dX6_play_5 rfl (lv_at hl 1 rfl) ?_
  have hPc := hP.sub (ws' := []) [] rfl
  have hDc := hD.sub (ws' := []) [] (by decide) rfl
  have hKc := hK.sub (tys' := []) [] rfl
  have hFc := va_free (wc := []) hD hS hA [] rfl
  refine va_calli (va_runS (As := [.int p0]) (rest := []) ⟨hx, hb, hml, hown, hts⟩ (c_digits l hl9 dC dI tE p0 _ ) (va_cwS 1 hts (goodIn_app (goodIn_r _ [7, 8, 6] (by rfl) (by decide +kernel)) gg_c_M_play_4_c_digits) rfl rfl rfl (by decide +kernel) ⟨Nat.le_of_ble_eq_true rfl, Nat.le_of_ble_eq_true rfl⟩) ⟨Pre0.blind, Pre0.give hPc hKc hDc hT hS hFc⟩ rfl rfl hl.1 rfl (lv_room (Nat.le_of_ble_eq_true rfl)) dX6_play_6 ⟨Nat.le_of_ble_eq_true rfl, Nat.le_of_ble_eq_true rfl⟩) hS (fun q _ h => hFc q h) hFc (fun r_1 u t H1 locs ht hvm hw hB hz1 hk1 hS => ?_)
  obtain ⟨hP1, hK1, hD1⟩ := hB
  rw [ht] at hP1
  have hK1 := va_K.moved hvm.symm hK1
  obtain ⟨hP, hD⟩ := va_join (wr := [(h0, .inr (11, [.int 0, .int 0, .int 0, .int 0, .ref rq, .ref sbq])), (rq, .inl (ci, 119, .inl fr))]) (w1 := []) hP hD [] [0, 1] rfl rfl (by decide) (by decide) hk1 hFc hP1 hD1
  generalize H1 = H at hP hS ⊢
  have hP : va_P (dC, dI) vwCl [(h0, .inr (11, [.int 0, .int 0, .int 0, .int 0, .ref rq, .ref sbq])), (rq, .inl (ci, 119, .inl fr))] H := hP
  have hD : va_D A [(h0, .inr (11, [.int 0, .int 0, .int 0, .int 0, .ref rq, .ref sbq])), (rq, .inl (ci, 119, .inl fr))] := hD
  refine W.widen (k := 0) (n := 0) (by omega) (by omega) ?_
  obtain rfl : r_1 = 4 := hw.trans hd0
  refine lv_if_ne (tgt := 18) hx hb dX6_play_9 (by decide) (fun _ => ?_) (fun c_2 => absurd c_2 (by decide))
  refine lv_iconst (v := 0) hx hb dX6_play_18 (by decide) ?_
  refine lv_istore_n (lv' := [(2, .int 0), (0, .ref h0), (1, .int p0)]) hx hb dX6_play_19 rfl hl (by decide) rfl (fun ls hl => ?_)
  refine lv_iload_n hx hb dX6_play_20 rfl (lv_at hl 2 rfl) ?_
  have hPc := hP.sub (ws' := []) [] rfl
  have hDc := hD.sub (ws' := []) [] (by decide) rfl
  have hKc := hK.sub (tys' := []) [] rfl
  have hFc := va_free (wc := []) hD hS hA [] rfl
  refine va_calli (va_runS (As := [.int p0]) (rest := []) ⟨hx, hb, hml, hown, hts⟩ (c_digits l hl9 dC dI tE p0 _ ) (va_cwS 1 hts (goodIn_app (goodIn_r _ [7, 8, 6] (by rfl) (by decide +kernel)) gg_c_M_play_4_c_digits) rfl rfl rfl (by decide +kernel) ⟨Nat.le_of_ble_eq_true rfl, Nat.le_of_ble_eq_true rfl⟩) ⟨Pre0.blind, Pre0.give hPc hKc hDc hT hS hFc⟩ rfl rfl hl.1 rfl (lv_room (Nat.le_of_ble_eq_true rfl)) dX6_play_21 ⟨Nat.le_of_ble_eq_true rfl, Nat.le_of_ble_eq_true rfl⟩) hS (fun q _ h => hFc q h) hFc (fun r_3 u t H1 locs ht hvm hw hB hz1 hk1 hS => ?_)
  obtain ⟨hP1, hK1, hD1⟩ := hB
  rw [ht] at hP1
  have hK1 := va_K.moved hvm.symm hK1
  obtain ⟨hP, hD⟩ := va_join (wr := [(h0, .inr (11, [.int 0, .int 0, .int 0, .int 0, .ref rq, .ref sbq])), (rq, .inl (ci, 119, .inl fr))]) (w1 := []) hP hD [] [0, 1] rfl rfl (by decide) (by decide) hk1 hFc hP1 hD1
  generalize H1 = H at hP hS ⊢
  have hP : va_P (dC, dI) vwCl [(h0, .inr (11, [.int 0, .int 0, .int 0, .int 0, .ref rq, .ref sbq])), (rq, .inl (ci, 119, .inl fr))] H := hP
  have hD : va_D A [(h0, .inr (11, [.int 0, .int 0, .int 0, .int 0, .ref rq, .ref sbq])), (rq, .inl (ci, 119, .inl fr))] := hD
  refine W.widen (k := 0) (n := 0) (by omega) (by omega) ?_
  obtain rfl : r_3 = 4 := hw.trans hd0
  refine lv_iconst (v := 1) hx hb dX6_play_24 (by decide) ?_
  refine lv_isub hx hb dX6_play_25 ?_
  refine lv_topi (fun x_4 e_5 => ?_)
  obtain rfl : x_4 = 3 := e_5.trans (by decide)
  refine lv_istore_n (lv' := [(3, .int 3), (2, .int 0), (0, .ref h0), (1, .int p0)]) hx hb dX6_play_26 rfl hl (by decide) rfl (fun ls hl => ?_)
  refine lv_iload_n hx hb dX6_play_27 rfl (lv_at hl 0 rfl) ?_
  refine lv_if_lt (tgt := 53) hx hb dX6_play_28 (by decide) (fun c_6 => absurd c_6 (by decide)) (fun _ => ?_)
  refine lv_iload_n hx hb dX6_play_31 rfl (lv_at hl 1 rfl) ?_
  refine lv_aload_n hx hb dX6_play_32 rfl (lv_at hl 2 rfl) ?_
  refine lv_iload_n hx hb dX6_play_33 rfl (lv_at hl 3 rfl) ?_
  refine lv_iload_n hx hb dX6_play_34 rfl (lv_at hl 0 rfl) ?_
  have hPc := hP.sub (ws' := []) [] rfl
  have hDc := hD.sub (ws' := []) [] (by decide) rfl
  have hKc := hK.sub (tys' := []) [] rfl
  have hFc := va_free (wc := []) hD hS hA [] rfl
  refine va_calli (va_runS (As := [.int 3]) (rest := [.int p0, .ref h0, .int 0]) ⟨hx, hb, hml, hown, hts⟩ (c_power_3 l hl9 dC dI tE  _ ) (va_cwS 1 hts (goodIn_app (goodIn_r _ [10, 11, 6] (by rfl) (by decide +kernel)) gg_c_M_play_4_c_power_3) rfl rfl rfl (by decide +kernel) ⟨Nat.le_of_ble_eq_true rfl, Nat.le_of_ble_eq_true rfl⟩) ⟨Pre0.blind, Pre0.give hPc hKc hDc hT hS hFc⟩ rfl rfl hl.1 rfl (lv_room (Nat.le_of_ble_eq_true rfl)) dX6_play_35 ⟨Nat.le_of_ble_eq_true rfl, Nat.le_of_ble_eq_true rfl⟩) hS (fun q _ h => hFc q h) hFc (fun r_7 u t H1 locs ht hvm hw hB hz1 hk1 hS => ?_)
  obtain ⟨hP1, hK1, hD1⟩ := hB
  rw [ht] at hP1
  have hK1 := va_K.moved hvm.symm hK1
  obtain ⟨hP, hD⟩ := va_join (wr := [(h0, .inr (11, [.int 0, .int 0, .int 0, .int 0, .ref rq, .ref sbq])), (rq, .inl (ci, 119, .inl fr))]) (w1 := []) hP hD [] [0, 1] rfl rfl (by decide) (by decide) hk1 hFc hP1 hD1
  generalize H1 = H at hP hS ⊢
  have hP : va_P (dC, dI) vwCl [(h0, .inr (11, [.int 0, .int 0, .int 0, .int 0, .ref rq, .ref sbq])), (rq, .inl (ci, 119, .inl fr))] H := hP
  have hD : va_D A [(h0, .inr (11, [.int 0, .int 0, .int 0, .int 0, .ref rq, .ref sbq])), (rq, .inl (ci, 119, .inl fr))] := hD
  refine W.widen (k := 0) (n := 0) (by omega) (by omega) ?_
  obtain rfl : r_7 = 1000 := hw
  refine lv_idiv hx hb dX6_play_38 (by decide) ?_
  refine lv_topi (fun x_8 e_9 => ?_)
  refine lv_bipush (v := 10) hx hb dX6_play_39 (by decide) ?_
  refine lv_irem hx hb dX6_play_41 (by decide) ?_
  refine lv_topi (fun x_10 e_11 => ?_)
  have hPc := hP.sub (ws' := [(h0, .inr (11, [.int 0, .int 0, .int 0, .int 0, .ref rq, .ref sbq])), (rq, .inl (ci, 119, .inl fr))]) [0, 1] rfl
  have hDc := hD.sub (ws' := [(h0, .inr (11, [.int 0, .int 0, .int 0, .int 0, .ref rq, .ref sbq])), (rq, .inl (ci, 119, .inl fr))]) [0, 1] (by decide) rfl
  have hKc := hK.sub (tys' := [(ci, .int)]) [0] rfl
  have hFc := va_free (wc := [(h0, .inr (11, [.int 0, .int 0, .int 0, .int 0, .ref rq, .ref sbq])), (rq, .inl (ci, 119, .inl fr))]) hD hS hA [0, 1] rfl
  refine va_calli (va_runV (As := [.int x_10]) (rest := [.int 0]) ⟨hx, hb, hml, hown, hts⟩ (c_ringOne l hl9 dC dI tE h0 rq sbq 0 ci fr x_10 _ ) (cwV 1 hts (goodIn_app (goodIn_r _ [17, 18, 19, 6] (by rfl) (by decide +kernel)) gg_c_M_play_4_c_ringOne) rfl rfl rfl (by decide +kernel) ⟨Nat.le_of_ble_eq_true rfl, Nat.le_of_ble_eq_true rfl⟩) ⟨Pre0.blind, va_recv hKc hPc (ci := 11) (q0 := 0) rfl rfl, Pre0.give hPc hKc hDc hT hS hFc⟩ rfl rfl hl.1 rfl (lv_room (Nat.le_of_ble_eq_true rfl)) dX6_play_42 ⟨Nat.le_of_ble_eq_true rfl, Nat.le_of_ble_eq_true rfl⟩) hS (fun q _ h => hFc q h) hFc (fun r_12 u t H1 locs ht hvm hw hB hz1 hk1 hS => ?_)
  obtain ⟨fx_13, hP1, hK1, hD1⟩ := hB
  rw [ht] at hP1
  have hK1 := va_K.moved hvm.symm hK1
  obtain ⟨hP, hD⟩ := va_join (wr := []) (w1 := [(h0, .inr (11, [.int 0, .int 0, .int 0, .int 0, .ref rq, .ref sbq])), (rq, .inl (ci, 119, .inl fx_13))]) hP hD [0, 1] [] rfl rfl (by decide) (by decide) hk1 hFc hP1 hD1
  generalize H1 = H at hP hS ⊢
  have hP : va_P (dC, dI) vwCl [(h0, .inr (11, [.int 0, .int 0, .int 0, .int 0, .ref rq, .ref sbq])), (rq, .inl (ci, 119, .inl fx_13))] H := hP
  have hD : va_D A [(h0, .inr (11, [.int 0, .int 0, .int 0, .int 0, .ref rq, .ref sbq])), (rq, .inl (ci, 119, .inl fx_13))] := hD
  refine W.widen (k := 0) (n := 0) (by omega) (by omega) ?_
  obtain rfl : r_12 = 0 := hw
  refine lv_iadd hx hb dX6_play_45 ?_
  refine lv_topi (fun x_14 e_15 => ?_)
  obtain rfl : x_14 = 0 := e_15.trans (by decide)
  refine lv_istore_n (lv' := [(2, .int 0), (3, .int 3), (0, .ref h0), (1, .int p0)]) hx hb dX6_play_46 rfl hl (by decide) rfl (fun ls hl => ?_)
  refine lv_iinc (v := 2) (lv' := [(3, .int 2), (2, .int 0), (0, .ref h0), (1, .int p0)]) hx hb dX6_play_47 hl (k := 1) rfl (by decide) (by decide) rfl (fun ls hl => ?_)
  refine lv_goto (tgt := 27) hx hb dX6_play_50 (by decide) ?_
  refine lv_iload_n hx hb dX6_play_27 rfl (lv_at hl 0 rfl) ?_
  refine lv_if_lt (tgt := 53) hx hb dX6_play_28 (by decide) (fun c_16 => absurd c_16 (by decide)) (fun _ => ?_)
  refine lv_iload_n hx hb dX6_play_31 rfl (lv_at hl 1 rfl) ?_
  refine lv_aload_n hx hb dX6_play_32 rfl (lv_at hl 2 rfl) ?_
  refine lv_iload_n hx hb dX6_play_33 rfl (lv_at hl 3 rfl) ?_
  refine lv_iload_n hx hb dX6_play_34 rfl (lv_at hl 0 rfl) ?_
  have hPc := hP.sub (ws' := []) [] rfl
  have hDc := hD.sub (ws' := []) [] (by decide) rfl
  have hKc := hK.sub (tys' := []) [] rfl
  have hFc := va_free (wc := []) hD hS hA [] rfl
  refine va_calli (va_runS (As := [.int 2]) (rest := [.int p0, .ref h0, .int 0]) ⟨hx, hb, hml, hown, hts⟩ (c_power_2 l hl9 dC dI tE  _ ) (va_cwS 1 hts (goodIn_app (goodIn_r _ [10, 11, 6] (by rfl) (by decide +kernel)) gg_c_M_play_4_c_power_2) rfl rfl rfl (by decide +kernel) ⟨Nat.le_of_ble_eq_true rfl, Nat.le_of_ble_eq_true rfl⟩) ⟨Pre0.blind, Pre0.give hPc hKc hDc hT hS hFc⟩ rfl rfl hl.1 rfl (lv_room (Nat.le_of_ble_eq_true rfl)) dX6_play_35 ⟨Nat.le_of_ble_eq_true rfl, Nat.le_of_ble_eq_true rfl⟩) hS (fun q _ h => hFc q h) hFc (fun r_17 u t H1 locs ht hvm hw hB hz1 hk1 hS => ?_)
  obtain ⟨hP1, hK1, hD1⟩ := hB
  rw [ht] at hP1
  have hK1 := va_K.moved hvm.symm hK1
  obtain ⟨hP, hD⟩ := va_join (wr := [(h0, .inr (11, [.int 0, .int 0, .int 0, .int 0, .ref rq, .ref sbq])), (rq, .inl (ci, 119, .inl fx_13))]) (w1 := []) hP hD [] [0, 1] rfl rfl (by decide) (by decide) hk1 hFc hP1 hD1
  generalize H1 = H at hP hS ⊢
  have hP : va_P (dC, dI) vwCl [(h0, .inr (11, [.int 0, .int 0, .int 0, .int 0, .ref rq, .ref sbq])), (rq, .inl (ci, 119, .inl fx_13))] H := hP
  have hD : va_D A [(h0, .inr (11, [.int 0, .int 0, .int 0, .int 0, .ref rq, .ref sbq])), (rq, .inl (ci, 119, .inl fx_13))] := hD
  refine W.widen (k := 0) (n := 0) (by omega) (by omega) ?_
  obtain rfl : r_17 = 100 := hw
  refine lv_idiv hx hb dX6_play_38 (by decide) ?_
  refine lv_topi (fun x_18 e_19 => ?_)
  refine lv_bipush (v := 10) hx hb dX6_play_39 (by decide) ?_
  refine lv_irem hx hb dX6_play_41 (by decide) ?_
  refine lv_topi (fun x_20 e_21 => ?_)
  have hPc := hP.sub (ws' := [(h0, .inr (11, [.int 0, .int 0, .int 0, .int 0, .ref rq, .ref sbq])), (rq, .inl (ci, 119, .inl fx_13))]) [0, 1] rfl
  have hDc := hD.sub (ws' := [(h0, .inr (11, [.int 0, .int 0, .int 0, .int 0, .ref rq, .ref sbq])), (rq, .inl (ci, 119, .inl fx_13))]) [0, 1] (by decide) rfl
  have hKc := hK.sub (tys' := [(ci, .int)]) [0] rfl
  have hFc := va_free (wc := [(h0, .inr (11, [.int 0, .int 0, .int 0, .int 0, .ref rq, .ref sbq])), (rq, .inl (ci, 119, .inl fx_13))]) hD hS hA [0, 1] rfl
  refine va_calli (va_runV (As := [.int x_20]) (rest := [.int 0]) ⟨hx, hb, hml, hown, hts⟩ (c_ringOne l hl9 dC dI tE h0 rq sbq 0 ci fx_13 x_20 _ ) (cwV 1 hts (goodIn_app (goodIn_r _ [17, 18, 19, 6] (by rfl) (by decide +kernel)) gg_c_M_play_4_c_ringOne) rfl rfl rfl (by decide +kernel) ⟨Nat.le_of_ble_eq_true rfl, Nat.le_of_ble_eq_true rfl⟩) ⟨Pre0.blind, va_recv hKc hPc (ci := 11) (q0 := 0) rfl rfl, Pre0.give hPc hKc hDc hT hS hFc⟩ rfl rfl hl.1 rfl (lv_room (Nat.le_of_ble_eq_true rfl)) dX6_play_42 ⟨Nat.le_of_ble_eq_true rfl, Nat.le_of_ble_eq_true rfl⟩) hS (fun q _ h => hFc q h) hFc (fun r_22 u t H1 locs ht hvm hw hB hz1 hk1 hS => ?_)
  obtain ⟨fx_23, hP1, hK1, hD1⟩ := hB
  rw [ht] at hP1
  have hK1 := va_K.moved hvm.symm hK1
  obtain ⟨hP, hD⟩ := va_join (wr := []) (w1 := [(h0, .inr (11, [.int 0, .int 0, .int 0, .int 0, .ref rq, .ref sbq])), (rq, .inl (ci, 119, .inl fx_23))]) hP hD [0, 1] [] rfl rfl (by decide) (by decide) hk1 hFc hP1 hD1
  generalize H1 = H at hP hS ⊢
  have hP : va_P (dC, dI) vwCl [(h0, .inr (11, [.int 0, .int 0, .int 0, .int 0, .ref rq, .ref sbq])), (rq, .inl (ci, 119, .inl fx_23))] H := hP
  have hD : va_D A [(h0, .inr (11, [.int 0, .int 0, .int 0, .int 0, .ref rq, .ref sbq])), (rq, .inl (ci, 119, .inl fx_23))] := hD
  refine W.widen (k := 0) (n := 0) (by omega) (by omega) ?_
  obtain rfl : r_22 = 0 := hw
  refine lv_iadd hx hb dX6_play_45 ?_
  refine lv_topi (fun x_24 e_25 => ?_)
  obtain rfl : x_24 = 0 := e_25.trans (by decide)
  refine lv_istore_n (lv' := [(2, .int 0), (3, .int 2), (0, .ref h0), (1, .int p0)]) hx hb dX6_play_46 rfl hl (by decide) rfl (fun ls hl => ?_)
  refine lv_iinc (v := 1) (lv' := [(3, .int 1), (2, .int 0), (0, .ref h0), (1, .int p0)]) hx hb dX6_play_47 hl (k := 1) rfl (by decide) (by decide) rfl (fun ls hl => ?_)
  refine lv_goto (tgt := 27) hx hb dX6_play_50 (by decide) ?_
  refine lv_iload_n hx hb dX6_play_27 rfl (lv_at hl 0 rfl) ?_
  refine lv_if_lt (tgt := 53) hx hb dX6_play_28 (by decide) (fun c_26 => absurd c_26 (by decide)) (fun _ => ?_)
  refine lv_iload_n hx hb dX6_play_31 rfl (lv_at hl 1 rfl) ?_
  refine lv_aload_n hx hb dX6_play_32 rfl (lv_at hl 2 rfl) ?_
  refine lv_iload_n hx hb dX6_play_33 rfl (lv_at hl 3 rfl) ?_
  refine lv_iload_n hx hb dX6_play_34 rfl (lv_at hl 0 rfl) ?_
  have hPc := hP.sub (ws' := []) [] rfl
  have hDc := hD.sub (ws' := []) [] (by decide) rfl
  have hKc := hK.sub (tys' := []) [] rfl
  have hFc := va_free (wc := []) hD hS hA [] rfl
  refine va_calli (va_runS (As := [.int 1]) (rest := [.int p0, .ref h0, .int 0]) ⟨hx, hb, hml, hown, hts⟩ (c_power_1 l hl9 dC dI tE  _ ) (va_cwS 1 hts (goodIn_app (goodIn_r _ [10, 11, 6] (by rfl) (by decide +kernel)) gg_c_M_play_4_c_power_1) rfl rfl rfl (by decide +kernel) ⟨Nat.le_of_ble_eq_true rfl, Nat.le_of_ble_eq_true rfl⟩) ⟨Pre0.blind, Pre0.give hPc hKc hDc hT hS hFc⟩ rfl rfl hl.1 rfl (lv_room (Nat.le_of_ble_eq_true rfl)) dX6_play_35 ⟨Nat.le_of_ble_eq_true rfl, Nat.le_of_ble_eq_true rfl⟩) hS (fun q _ h => hFc q h) hFc (fun r_27 u t H1 locs ht hvm hw hB hz1 hk1 hS => ?_)
  obtain ⟨hP1, hK1, hD1⟩ := hB
  rw [ht] at hP1
  have hK1 := va_K.moved hvm.symm hK1
  obtain ⟨hP, hD⟩ := va_join (wr := [(h0, .inr (11, [.int 0, .int 0, .int 0, .int 0, .ref rq, .ref sbq])), (rq, .inl (ci, 119, .inl fx_23))]) (w1 := []) hP hD [] [0, 1] rfl rfl (by decide) (by decide) hk1 hFc hP1 hD1
  generalize H1 = H at hP hS ⊢
  have hP : va_P (dC, dI) vwCl [(h0, .inr (11, [.int 0, .int 0, .int 0, .int 0, .ref rq, .ref sbq])), (rq, .inl (ci, 119, .inl fx_23))] H := hP
  have hD : va_D A [(h0, .inr (11, [.int 0, .int 0, .int 0, .int 0, .ref rq, .ref sbq])), (rq, .inl (ci, 119, .inl fx_23))] := hD
  refine W.widen (k := 0) (n := 0) (by omega) (by omega) ?_
  obtain rfl : r_27 = 10 := hw
  refine lv_idiv hx hb dX6_play_38 (by decide) ?_
  refine lv_topi (fun x_28 e_29 => ?_)
  refine lv_bipush (v := 10) hx hb dX6_play_39 (by decide) ?_
  refine lv_irem hx hb dX6_play_41 (by decide) ?_
  refine lv_topi (fun x_30 e_31 => ?_)
  have hPc := hP.sub (ws' := [(h0, .inr (11, [.int 0, .int 0, .int 0, .int 0, .ref rq, .ref sbq])), (rq, .inl (ci, 119, .inl fx_23))]) [0, 1] rfl
  have hDc := hD.sub (ws' := [(h0, .inr (11, [.int 0, .int 0, .int 0, .int 0, .ref rq, .ref sbq])), (rq, .inl (ci, 119, .inl fx_23))]) [0, 1] (by decide) rfl
  have hKc := hK.sub (tys' := [(ci, .int)]) [0] rfl
  have hFc := va_free (wc := [(h0, .inr (11, [.int 0, .int 0, .int 0, .int 0, .ref rq, .ref sbq])), (rq, .inl (ci, 119, .inl fx_23))]) hD hS hA [0, 1] rfl
  refine va_calli (va_runV (As := [.int x_30]) (rest := [.int 0]) ⟨hx, hb, hml, hown, hts⟩ (c_ringOne l hl9 dC dI tE h0 rq sbq 0 ci fx_23 x_30 _ ) (cwV 1 hts (goodIn_app (goodIn_r _ [17, 18, 19, 6] (by rfl) (by decide +kernel)) gg_c_M_play_4_c_ringOne) rfl rfl rfl (by decide +kernel) ⟨Nat.le_of_ble_eq_true rfl, Nat.le_of_ble_eq_true rfl⟩) ⟨Pre0.blind, va_recv hKc hPc (ci := 11) (q0 := 0) rfl rfl, Pre0.give hPc hKc hDc hT hS hFc⟩ rfl rfl hl.1 rfl (lv_room (Nat.le_of_ble_eq_true rfl)) dX6_play_42 ⟨Nat.le_of_ble_eq_true rfl, Nat.le_of_ble_eq_true rfl⟩) hS (fun q _ h => hFc q h) hFc (fun r_32 u t H1 locs ht hvm hw hB hz1 hk1 hS => ?_)
  obtain ⟨fx_33, hP1, hK1, hD1⟩ := hB
  rw [ht] at hP1
  have hK1 := va_K.moved hvm.symm hK1
  obtain ⟨hP, hD⟩ := va_join (wr := []) (w1 := [(h0, .inr (11, [.int 0, .int 0, .int 0, .int 0, .ref rq, .ref sbq])), (rq, .inl (ci, 119, .inl fx_33))]) hP hD [0, 1] [] rfl rfl (by decide) (by decide) hk1 hFc hP1 hD1
  generalize H1 = H at hP hS ⊢
  have hP : va_P (dC, dI) vwCl [(h0, .inr (11, [.int 0, .int 0, .int 0, .int 0, .ref rq, .ref sbq])), (rq, .inl (ci, 119, .inl fx_33))] H := hP
  have hD : va_D A [(h0, .inr (11, [.int 0, .int 0, .int 0, .int 0, .ref rq, .ref sbq])), (rq, .inl (ci, 119, .inl fx_33))] := hD
  refine W.widen (k := 0) (n := 0) (by omega) (by omega) ?_
  obtain rfl : r_32 = 0 := hw
  refine lv_iadd hx hb dX6_play_45 ?_
  refine lv_topi (fun x_34 e_35 => ?_)
  obtain rfl : x_34 = 0 := e_35.trans (by decide)
  refine lv_istore_n (lv' := [(2, .int 0), (3, .int 1), (0, .ref h0), (1, .int p0)]) hx hb dX6_play_46 rfl hl (by decide) rfl (fun ls hl => ?_)
  refine lv_iinc (v := 0) (lv' := [(3, .int 0), (2, .int 0), (0, .ref h0), (1, .int p0)]) hx hb dX6_play_47 hl (k := 1) rfl (by decide) (by decide) rfl (fun ls hl => ?_)
  refine lv_goto (tgt := 27) hx hb dX6_play_50 (by decide) ?_
  refine lv_iload_n hx hb dX6_play_27 rfl (lv_at hl 0 rfl) ?_
  refine lv_if_lt (tgt := 53) hx hb dX6_play_28 (by decide) (fun c_36 => absurd c_36 (by decide)) (fun _ => ?_)
  refine lv_iload_n hx hb dX6_play_31 rfl (lv_at hl 1 rfl) ?_
  refine lv_aload_n hx hb dX6_play_32 rfl (lv_at hl 2 rfl) ?_
  refine lv_iload_n hx hb dX6_play_33 rfl (lv_at hl 3 rfl) ?_
  refine lv_iload_n hx hb dX6_play_34 rfl (lv_at hl 0 rfl) ?_
  have hPc := hP.sub (ws' := []) [] rfl
  have hDc := hD.sub (ws' := []) [] (by decide) rfl
  have hKc := hK.sub (tys' := []) [] rfl
  have hFc := va_free (wc := []) hD hS hA [] rfl
  refine va_calli (va_runS (As := [.int 0]) (rest := [.int p0, .ref h0, .int 0]) ⟨hx, hb, hml, hown, hts⟩ (c_power_0 l hl9 dC dI tE  _ ) (va_cwS 1 hts (goodIn_app (goodIn_r _ [10, 11, 6] (by rfl) (by decide +kernel)) gg_c_M_play_4_c_power_0) rfl rfl rfl (by decide +kernel) ⟨Nat.le_of_ble_eq_true rfl, Nat.le_of_ble_eq_true rfl⟩) ⟨Pre0.blind, Pre0.give hPc hKc hDc hT hS hFc⟩ rfl rfl hl.1 rfl (lv_room (Nat.le_of_ble_eq_true rfl)) dX6_play_35 ⟨Nat.le_of_ble_eq_true rfl, Nat.le_of_ble_eq_true rfl⟩) hS (fun q _ h => hFc q h) hFc (fun r_37 u t H1 locs ht hvm hw hB hz1 hk1 hS => ?_)
  obtain ⟨hP1, hK1, hD1⟩ := hB
  rw [ht] at hP1
  have hK1 := va_K.moved hvm.symm hK1
  obtain ⟨hP, hD⟩ := va_join (wr := [(h0, .inr (11, [.int 0, .int 0, .int 0, .int 0, .ref rq, .ref sbq])), (rq, .inl (ci, 119, .inl fx_33))]) (w1 := []) hP hD [] [0, 1] rfl rfl (by decide) (by decide) hk1 hFc hP1 hD1
  generalize H1 = H at hP hS ⊢
  have hP : va_P (dC, dI) vwCl [(h0, .inr (11, [.int 0, .int 0, .int 0, .int 0, .ref rq, .ref sbq])), (rq, .inl (ci, 119, .inl fx_33))] H := hP
  have hD : va_D A [(h0, .inr (11, [.int 0, .int 0, .int 0, .int 0, .ref rq, .ref sbq])), (rq, .inl (ci, 119, .inl fx_33))] := hD
  refine W.widen (k := 0) (n := 0) (by omega) (by omega) ?_
  obtain rfl : r_37 = 1 := hw
  refine lv_idiv hx hb dX6_play_38 (by decide) ?_
  refine lv_topi (fun x_38 e_39 => ?_)
  refine lv_bipush (v := 10) hx hb dX6_play_39 (by decide) ?_
  refine lv_irem hx hb dX6_play_41 (by decide) ?_
  refine lv_topi (fun x_40 e_41 => ?_)
  have hPc := hP.sub (ws' := [(h0, .inr (11, [.int 0, .int 0, .int 0, .int 0, .ref rq, .ref sbq])), (rq, .inl (ci, 119, .inl fx_33))]) [0, 1] rfl
  have hDc := hD.sub (ws' := [(h0, .inr (11, [.int 0, .int 0, .int 0, .int 0, .ref rq, .ref sbq])), (rq, .inl (ci, 119, .inl fx_33))]) [0, 1] (by decide) rfl
  have hKc := hK.sub (tys' := [(ci, .int)]) [0] rfl
  have hFc := va_free (wc := [(h0, .inr (11, [.int 0, .int 0, .int 0, .int 0, .ref rq, .ref sbq])), (rq, .inl (ci, 119, .inl fx_33))]) hD hS hA [0, 1] rfl
  refine va_calli (va_runV (As := [.int x_40]) (rest := [.int 0]) ⟨hx, hb, hml, hown, hts⟩ (c_ringOne l hl9 dC dI tE h0 rq sbq 0 ci fx_33 x_40 _ ) (cwV 1 hts (goodIn_app (goodIn_r _ [17, 18, 19, 6] (by rfl) (by decide +kernel)) gg_c_M_play_4_c_ringOne) rfl rfl rfl (by decide +kernel) ⟨Nat.le_of_ble_eq_true rfl, Nat.le_of_ble_eq_true rfl⟩) ⟨Pre0.blind, va_recv hKc hPc (ci := 11) (q0 := 0) rfl rfl, Pre0.give hPc hKc hDc hT hS hFc⟩ rfl rfl hl.1 rfl (lv_room (Nat.le_of_ble_eq_true rfl)) dX6_play_42 ⟨Nat.le_of_ble_eq_true rfl, Nat.le_of_ble_eq_true rfl⟩) hS (fun q _ h => hFc q h) hFc (fun r_42 u t H1 locs ht hvm hw hB hz1 hk1 hS => ?_)
  obtain ⟨fx_43, hP1, hK1, hD1⟩ := hB
  rw [ht] at hP1
  have hK1 := va_K.moved hvm.symm hK1
  obtain ⟨hP, hD⟩ := va_join (wr := []) (w1 := [(h0, .inr (11, [.int 0, .int 0, .int 0, .int 0, .ref rq, .ref sbq])), (rq, .inl (ci, 119, .inl fx_43))]) hP hD [0, 1] [] rfl rfl (by decide) (by decide) hk1 hFc hP1 hD1
  generalize H1 = H at hP hS ⊢
  have hP : va_P (dC, dI) vwCl [(h0, .inr (11, [.int 0, .int 0, .int 0, .int 0, .ref rq, .ref sbq])), (rq, .inl (ci, 119, .inl fx_43))] H := hP
  have hD : va_D A [(h0, .inr (11, [.int 0, .int 0, .int 0, .int 0, .ref rq, .ref sbq])), (rq, .inl (ci, 119, .inl fx_43))] := hD
  refine W.widen (k := 0) (n := 0) (by omega) (by omega) ?_
  obtain rfl : r_42 = 0 := hw
  refine lv_iadd hx hb dX6_play_45 ?_
  refine lv_topi (fun x_44 e_45 => ?_)
  obtain rfl : x_44 = 0 := e_45.trans (by decide)
  refine lv_istore_n (lv' := [(2, .int 0), (3, .int 0), (0, .ref h0), (1, .int p0)]) hx hb dX6_play_46 rfl hl (by decide) rfl (fun ls hl => ?_)
  refine lv_iinc (v := (-1)) (lv' := [(3, .int (-1)), (2, .int 0), (0, .ref h0), (1, .int p0)]) hx hb dX6_play_47 hl (k := 1) rfl (by decide) (by decide) rfl (fun ls hl => ?_)
  refine lv_goto (tgt := 27) hx hb dX6_play_50 (by decide) ?_
  refine lv_iload_n hx hb dX6_play_27 rfl (lv_at hl 0 rfl) ?_
  refine lv_if_lt (tgt := 53) hx hb dX6_play_28 (by decide) (fun _ => ?_) (fun c_46 => absurd (by decide) c_46)
  refine lv_iload_n hx hb dX6_play_53 rfl (lv_at hl 1 rfl) ?_
  have hP9 := hP.sub (ws' := [(h0, .inr (11, [.int 0, .int 0, .int 0, .int 0, .ref rq, .ref sbq])), (rq, .inl (ci, 119, .inl fx_43))]) [0, 1] rfl
  have hD9 := hD.sub (ws' := [(h0, .inr (11, [.int 0, .int 0, .int 0, .int 0, .ref rq, .ref sbq])), (rq, .inl (ci, 119, .inl fx_43))]) [0, 1] (by decide) rfl
  have hK9 := hK.sub (tys' := [(ci, .int)]) [0] rfl
  exact W.iret (v := 0) hx hb hr (fun t ht hW => ⟨⟨0, (), rfl, rfl, fx_43, by rw [ht]; exact hP9, va_K.moved hW.alike hK9, hD9⟩, hS.F ht⟩) hS.2.2 dX6_play_54
def v_c_M_play_5 : List Cond := .code yX6_play cX6_play 4 (some .int) :: ([Cond.fieldLink RX6 20 "HotelOfBellsModel" "thrown" "I", Cond.code yX6_digits cX6_digits 3 (some .int), Cond.code yX6_isIn cX6_isIn 3 (some .boolean), Cond.methodLink RX6 27 yX6_isIn, Cond.static yX6_isIn, Cond.initialized RX6, Cond.methodLink RX6 53 yX6_digits, Cond.static yX6_digits, Cond.code yX6_power cX6_power 3 (some .int), Cond.methodLink RX6 90 yX6_power, Cond.static yX6_power, Cond.code yX6_ringOne cX6_ringOne 4 (some .int), Cond.fieldLink RX6 34 "HotelOfBellsModel" "guests" "I", Cond.fieldLink RX6 9 "HotelOfBellsModel" "row" "[I", Cond.fieldLink RX6 24 "HotelOfBellsModel" "floors" "I", Cond.fieldLink RX6 31 "HotelOfBellsModel" "lifts" "I", Cond.methodLink RX6 130 yX6_ringOne, Cond.instanceMethod yX6_ringOne, Cond.selects RX6 yX6_ringOne yX6_ringOne] ++ (wsX60 ++ []))
theorem u_c_M_play_5_X6 : ∀ w ∈ wsX60, w ∈ v_c_M_play_5 := fun _ h => List.mem_cons_of_mem _ (List.mem_append_right _ (List.mem_append_left _ h))
theorem gg_c_M_play_5_c_digits : GoodIn v_c_M_play_5 v_c_digits := goodIn_r _ [2, 3, 4, 5, 6] (by rfl) (by decide +kernel)
theorem gg_c_M_play_5_c_power_4 : GoodIn v_c_M_play_5 v_c_power_4 := goodIn_r _ [9] (by rfl) (by decide +kernel)
theorem gg_c_M_play_5_c_ringOne : GoodIn v_c_M_play_5 v_c_ringOne := goodIn_r _ [12, 13, 14, 9, 10, 11, 6, 15, 16, 20, 21, 22, 23, 24, 25] (by rfl) (by decide +kernel)
theorem gg_c_M_play_5_c_power_3 : GoodIn v_c_M_play_5 v_c_power_3 := goodIn_r _ [9] (by rfl) (by decide +kernel)
theorem gg_c_M_play_5_c_power_2 : GoodIn v_c_M_play_5 v_c_power_2 := goodIn_r _ [9] (by rfl) (by decide +kernel)
theorem gg_c_M_play_5_c_power_1 : GoodIn v_c_M_play_5 v_c_power_1 := goodIn_r _ [9] (by rfl) (by decide +kernel)
theorem gg_c_M_play_5_c_power_0 : GoodIn v_c_M_play_5 v_c_power_0 := goodIn_r _ [9] (by rfl) (by decide +kernel)
set_option maxHeartbeats 4000000 in
set_option maxRecDepth 100000 in
theorem c_M_play_5 (l : Launch) (hl9 : l.stackTraces = false) (dC : Nat → ClassId) (dI : Nat → Nat → Nat) (tE : Nat) (h0 : Nat) (rq : Nat) (sbq : Nat) (th : Int32) (ci : ClassId) (fr : Nat → Int32) (p0 : Int32) (sz : Nat) (hd0 : dgt p0 = 5) : Met l yX6_play v_c_M_play_5 ({ frames := 2, cells := 0, slots := 0, locals := 45 }) (va_Pc [.ref h0, .int p0] (Pre0 dC dI tE sz [(ci, .int)] [(h0, .inr (11, [.int th, .int 0, .int 0, .int 0, .ref rq, .ref sbq])), (rq, .inl (ci, 119, .inl fr))])) (va_Qi (fun (r : Int32) (_ : Unit) => r = 0) (fun _ t => ∃ (fx0 : Nat → Int32), Pst dC dI [(ci, .int)] (va_A [(h0, .inr (11, [.int th, .int 0, .int 0, .int 0, .ref rq, .ref sbq])), (rq, .inl (ci, 119, .inl fr))] sz) [(h0, .inr (11, [.int 0, .int 0, .int 0, .int 0, .ref rq, .ref sbq])), (rq, .inl (ci, 119, .inl fx0))] t) (va_A [(h0, .inr (11, [.int th, .int 0, .int 0, .int 0, .ref rq, .ref sbq])), (rq, .inl (ci, 119, .inl fr))] sz)) 0 0 (va_A [(h0, .inr (11, [.int th, .int 0, .int 0, .int 0, .ref rq, .ref sbq])), (rq, .inl (ci, 119, .inl fr))] sz) := by
  refine Met.ofW (cc := cX6_play) (maxL := 4) (ret := (some .int)) (by decide) rfl ?_
  intro p e s m args below meth c s₁ B hml hv
  obtain ⟨rfl, hsz, hP, hK, hD0, hT⟩ := hv
  have hx := B.exec
  have hb := B.bytes
  have hr := B.returns
  have hts := atoms_spec (ws := v_c_M_play_5) B.pre
  have hown : s.vm.findClass RX6 = some m.cls := findClass_of_methodNamed B.named
  have hlocks := B.notSynchronized
  subst hsz
  have hD := hD0.self (sz := s.heap.size)
  generalize hAe : va_A [(h0, .inr (11, [.int th, .int 0, .int 0, .int 0, .ref rq, .ref sbq])), (rq, .inl (ci, 119, .inl fr))] s.heap.size = A at hD hT ⊢
  have hA : ∀ q : Nat, s.heap.size ≤ q → A q := fun q h => by rw [← hAe]; exact Or.inr h
  have hS : va_S A s.heap s.heap [] := va_S.rf
  have hl := lv_entry ([.ref h0, .int p0]) (n := 4) (Nat.le_of_ble_eq_true rfl)
  rw [lg_entry_eq]
  generalize (lg_sl ([.ref h0, .int p0]) ++ List.replicate (4 - (lg_sl ([.ref h0, .int p0])).length) Slot.unset).toArray = ls at hl ⊢
  have hl : lv_has ls 4 [(0, .ref h0), (1, .int p0)] := hl
  refine lv_aload_n hx hb dX6_play_0 rfl (lv_at hl 0 rfl) ?_
  refine lv_iconst (v := 0) hx hb dX6_play_1 (by decide) ?_
  refine va_put (D := (dC, dI)) (ci := 11) (v := .int 0) (ty := .int) (C := RX6) (T := TX6) (N := 6) hx hb hts u_c_M_play_5_X6 tyX6 tyX6_ok nmX6 hown hK hP hD hS 0 rfl rfl 0 (by decide) (hts (.fieldLink RX6 20 "HotelOfBellsModel" "thrown" "I") (List.mem_of_getElem? (i := 1) rfl)) (fun _ h9 => h9) rfl (by decide +kernel) rfl rfl (Nat.le_of_ble_eq_true rfl) dX6_play_2 (fun H locs hP hD hS => ?_)
  have hP : va_P (dC, dI) vwCl [(h0, .inr (11, [.int 0, .int 0, .int 0, .int 0, .ref rq, .ref sbq])), (rq, .inl (ci, 119, .inl fr))] H := hP
  have hD : va_D A [(h0, .inr (11, [.int 0, .int 0, .int 0, .int 0, .ref rq, .ref sbq])), (rq, .inl (ci, 119, .inl fr))] := hD
  refine lv_iload_n hx hb dX6_play_5 rfl (lv_at hl 1 rfl) ?_
  have hPc := hP.sub (ws' := []) [] rfl
  have hDc := hD.sub (ws' := []) [] (by decide) rfl
  have hKc := hK.sub (tys' := []) [] rfl
  have hFc := va_free (wc := []) hD hS hA [] rfl
  refine va_calli (va_runS (As := [.int p0]) (rest := []) ⟨hx, hb, hml, hown, hts⟩ (c_digits l hl9 dC dI tE p0 _ ) (va_cwS 1 hts (goodIn_app (goodIn_r _ [7, 8, 6] (by rfl) (by decide +kernel)) gg_c_M_play_5_c_digits) rfl rfl rfl (by decide +kernel) ⟨Nat.le_of_ble_eq_true rfl, Nat.le_of_ble_eq_true rfl⟩) ⟨Pre0.blind, Pre0.give hPc hKc hDc hT hS hFc⟩ rfl rfl hl.1 rfl (lv_room (Nat.le_of_ble_eq_true rfl)) dX6_play_6 ⟨Nat.le_of_ble_eq_true rfl, Nat.le_of_ble_eq_true rfl⟩) hS (fun q _ h => hFc q h) hFc (fun r_1 u t H1 locs ht hvm hw hB hz1 hk1 hS => ?_)
  obtain ⟨hP1, hK1, hD1⟩ := hB
  rw [ht] at hP1
  have hK1 := va_K.moved hvm.symm hK1
  obtain ⟨hP, hD⟩ := va_join (wr := [(h0, .inr (11, [.int 0, .int 0, .int 0, .int 0, .ref rq, .ref sbq])), (rq, .inl (ci, 119, .inl fr))]) (w1 := []) hP hD [] [0, 1] rfl rfl (by decide) (by decide) hk1 hFc hP1 hD1
  generalize H1 = H at hP hS ⊢
  have hP : va_P (dC, dI) vwCl [(h0, .inr (11, [.int 0, .int 0, .int 0, .int 0, .ref rq, .ref sbq])), (rq, .inl (ci, 119, .inl fr))] H := hP
  have hD : va_D A [(h0, .inr (11, [.int 0, .int 0, .int 0, .int 0, .ref rq, .ref sbq])), (rq, .inl (ci, 119, .inl fr))] := hD
  refine W.widen (k := 0) (n := 0) (by omega) (by omega) ?_
  obtain rfl : r_1 = 5 := hw.trans hd0
  refine lv_if_ne (tgt := 18) hx hb dX6_play_9 (by decide) (fun _ => ?_) (fun c_2 => absurd c_2 (by decide))
  refine lv_iconst (v := 0) hx hb dX6_play_18 (by decide) ?_
  refine lv_istore_n (lv' := [(2, .int 0), (0, .ref h0), (1, .int p0)]) hx hb dX6_play_19 rfl hl (by decide) rfl (fun ls hl => ?_)
  refine lv_iload_n hx hb dX6_play_20 rfl (lv_at hl 2 rfl) ?_
  have hPc := hP.sub (ws' := []) [] rfl
  have hDc := hD.sub (ws' := []) [] (by decide) rfl
  have hKc := hK.sub (tys' := []) [] rfl
  have hFc := va_free (wc := []) hD hS hA [] rfl
  refine va_calli (va_runS (As := [.int p0]) (rest := []) ⟨hx, hb, hml, hown, hts⟩ (c_digits l hl9 dC dI tE p0 _ ) (va_cwS 1 hts (goodIn_app (goodIn_r _ [7, 8, 6] (by rfl) (by decide +kernel)) gg_c_M_play_5_c_digits) rfl rfl rfl (by decide +kernel) ⟨Nat.le_of_ble_eq_true rfl, Nat.le_of_ble_eq_true rfl⟩) ⟨Pre0.blind, Pre0.give hPc hKc hDc hT hS hFc⟩ rfl rfl hl.1 rfl (lv_room (Nat.le_of_ble_eq_true rfl)) dX6_play_21 ⟨Nat.le_of_ble_eq_true rfl, Nat.le_of_ble_eq_true rfl⟩) hS (fun q _ h => hFc q h) hFc (fun r_3 u t H1 locs ht hvm hw hB hz1 hk1 hS => ?_)
  obtain ⟨hP1, hK1, hD1⟩ := hB
  rw [ht] at hP1
  have hK1 := va_K.moved hvm.symm hK1
  obtain ⟨hP, hD⟩ := va_join (wr := [(h0, .inr (11, [.int 0, .int 0, .int 0, .int 0, .ref rq, .ref sbq])), (rq, .inl (ci, 119, .inl fr))]) (w1 := []) hP hD [] [0, 1] rfl rfl (by decide) (by decide) hk1 hFc hP1 hD1
  generalize H1 = H at hP hS ⊢
  have hP : va_P (dC, dI) vwCl [(h0, .inr (11, [.int 0, .int 0, .int 0, .int 0, .ref rq, .ref sbq])), (rq, .inl (ci, 119, .inl fr))] H := hP
  have hD : va_D A [(h0, .inr (11, [.int 0, .int 0, .int 0, .int 0, .ref rq, .ref sbq])), (rq, .inl (ci, 119, .inl fr))] := hD
  refine W.widen (k := 0) (n := 0) (by omega) (by omega) ?_
  obtain rfl : r_3 = 5 := hw.trans hd0
  refine lv_iconst (v := 1) hx hb dX6_play_24 (by decide) ?_
  refine lv_isub hx hb dX6_play_25 ?_
  refine lv_topi (fun x_4 e_5 => ?_)
  obtain rfl : x_4 = 4 := e_5.trans (by decide)
  refine lv_istore_n (lv' := [(3, .int 4), (2, .int 0), (0, .ref h0), (1, .int p0)]) hx hb dX6_play_26 rfl hl (by decide) rfl (fun ls hl => ?_)
  refine lv_iload_n hx hb dX6_play_27 rfl (lv_at hl 0 rfl) ?_
  refine lv_if_lt (tgt := 53) hx hb dX6_play_28 (by decide) (fun c_6 => absurd c_6 (by decide)) (fun _ => ?_)
  refine lv_iload_n hx hb dX6_play_31 rfl (lv_at hl 1 rfl) ?_
  refine lv_aload_n hx hb dX6_play_32 rfl (lv_at hl 2 rfl) ?_
  refine lv_iload_n hx hb dX6_play_33 rfl (lv_at hl 3 rfl) ?_
  refine lv_iload_n hx hb dX6_play_34 rfl (lv_at hl 0 rfl) ?_
  have hPc := hP.sub (ws' := []) [] rfl
  have hDc := hD.sub (ws' := []) [] (by decide) rfl
  have hKc := hK.sub (tys' := []) [] rfl
  have hFc := va_free (wc := []) hD hS hA [] rfl
  refine va_calli (va_runS (As := [.int 4]) (rest := [.int p0, .ref h0, .int 0]) ⟨hx, hb, hml, hown, hts⟩ (c_power_4 l hl9 dC dI tE  _ ) (va_cwS 1 hts (goodIn_app (goodIn_r _ [10, 11, 6] (by rfl) (by decide +kernel)) gg_c_M_play_5_c_power_4) rfl rfl rfl (by decide +kernel) ⟨Nat.le_of_ble_eq_true rfl, Nat.le_of_ble_eq_true rfl⟩) ⟨Pre0.blind, Pre0.give hPc hKc hDc hT hS hFc⟩ rfl rfl hl.1 rfl (lv_room (Nat.le_of_ble_eq_true rfl)) dX6_play_35 ⟨Nat.le_of_ble_eq_true rfl, Nat.le_of_ble_eq_true rfl⟩) hS (fun q _ h => hFc q h) hFc (fun r_7 u t H1 locs ht hvm hw hB hz1 hk1 hS => ?_)
  obtain ⟨hP1, hK1, hD1⟩ := hB
  rw [ht] at hP1
  have hK1 := va_K.moved hvm.symm hK1
  obtain ⟨hP, hD⟩ := va_join (wr := [(h0, .inr (11, [.int 0, .int 0, .int 0, .int 0, .ref rq, .ref sbq])), (rq, .inl (ci, 119, .inl fr))]) (w1 := []) hP hD [] [0, 1] rfl rfl (by decide) (by decide) hk1 hFc hP1 hD1
  generalize H1 = H at hP hS ⊢
  have hP : va_P (dC, dI) vwCl [(h0, .inr (11, [.int 0, .int 0, .int 0, .int 0, .ref rq, .ref sbq])), (rq, .inl (ci, 119, .inl fr))] H := hP
  have hD : va_D A [(h0, .inr (11, [.int 0, .int 0, .int 0, .int 0, .ref rq, .ref sbq])), (rq, .inl (ci, 119, .inl fr))] := hD
  refine W.widen (k := 0) (n := 0) (by omega) (by omega) ?_
  obtain rfl : r_7 = 10000 := hw
  refine lv_idiv hx hb dX6_play_38 (by decide) ?_
  refine lv_topi (fun x_8 e_9 => ?_)
  refine lv_bipush (v := 10) hx hb dX6_play_39 (by decide) ?_
  refine lv_irem hx hb dX6_play_41 (by decide) ?_
  refine lv_topi (fun x_10 e_11 => ?_)
  have hPc := hP.sub (ws' := [(h0, .inr (11, [.int 0, .int 0, .int 0, .int 0, .ref rq, .ref sbq])), (rq, .inl (ci, 119, .inl fr))]) [0, 1] rfl
  have hDc := hD.sub (ws' := [(h0, .inr (11, [.int 0, .int 0, .int 0, .int 0, .ref rq, .ref sbq])), (rq, .inl (ci, 119, .inl fr))]) [0, 1] (by decide) rfl
  have hKc := hK.sub (tys' := [(ci, .int)]) [0] rfl
  have hFc := va_free (wc := [(h0, .inr (11, [.int 0, .int 0, .int 0, .int 0, .ref rq, .ref sbq])), (rq, .inl (ci, 119, .inl fr))]) hD hS hA [0, 1] rfl
  refine va_calli (va_runV (As := [.int x_10]) (rest := [.int 0]) ⟨hx, hb, hml, hown, hts⟩ (c_ringOne l hl9 dC dI tE h0 rq sbq 0 ci fr x_10 _ ) (cwV 1 hts (goodIn_app (goodIn_r _ [17, 18, 19, 6] (by rfl) (by decide +kernel)) gg_c_M_play_5_c_ringOne) rfl rfl rfl (by decide +kernel) ⟨Nat.le_of_ble_eq_true rfl, Nat.le_of_ble_eq_true rfl⟩) ⟨Pre0.blind, va_recv hKc hPc (ci := 11) (q0 := 0) rfl rfl, Pre0.give hPc hKc hDc hT hS hFc⟩ rfl rfl hl.1 rfl (lv_room (Nat.le_of_ble_eq_true rfl)) dX6_play_42 ⟨Nat.le_of_ble_eq_true rfl, Nat.le_of_ble_eq_true rfl⟩) hS (fun q _ h => hFc q h) hFc (fun r_12 u t H1 locs ht hvm hw hB hz1 hk1 hS => ?_)
  obtain ⟨fx_13, hP1, hK1, hD1⟩ := hB
  rw [ht] at hP1
  have hK1 := va_K.moved hvm.symm hK1
  obtain ⟨hP, hD⟩ := va_join (wr := []) (w1 := [(h0, .inr (11, [.int 0, .int 0, .int 0, .int 0, .ref rq, .ref sbq])), (rq, .inl (ci, 119, .inl fx_13))]) hP hD [0, 1] [] rfl rfl (by decide) (by decide) hk1 hFc hP1 hD1
  generalize H1 = H at hP hS ⊢
  have hP : va_P (dC, dI) vwCl [(h0, .inr (11, [.int 0, .int 0, .int 0, .int 0, .ref rq, .ref sbq])), (rq, .inl (ci, 119, .inl fx_13))] H := hP
  have hD : va_D A [(h0, .inr (11, [.int 0, .int 0, .int 0, .int 0, .ref rq, .ref sbq])), (rq, .inl (ci, 119, .inl fx_13))] := hD
  refine W.widen (k := 0) (n := 0) (by omega) (by omega) ?_
  obtain rfl : r_12 = 0 := hw
  refine lv_iadd hx hb dX6_play_45 ?_
  refine lv_topi (fun x_14 e_15 => ?_)
  obtain rfl : x_14 = 0 := e_15.trans (by decide)
  refine lv_istore_n (lv' := [(2, .int 0), (3, .int 4), (0, .ref h0), (1, .int p0)]) hx hb dX6_play_46 rfl hl (by decide) rfl (fun ls hl => ?_)
  refine lv_iinc (v := 3) (lv' := [(3, .int 3), (2, .int 0), (0, .ref h0), (1, .int p0)]) hx hb dX6_play_47 hl (k := 1) rfl (by decide) (by decide) rfl (fun ls hl => ?_)
  refine lv_goto (tgt := 27) hx hb dX6_play_50 (by decide) ?_
  refine lv_iload_n hx hb dX6_play_27 rfl (lv_at hl 0 rfl) ?_
  refine lv_if_lt (tgt := 53) hx hb dX6_play_28 (by decide) (fun c_16 => absurd c_16 (by decide)) (fun _ => ?_)
  refine lv_iload_n hx hb dX6_play_31 rfl (lv_at hl 1 rfl) ?_
  refine lv_aload_n hx hb dX6_play_32 rfl (lv_at hl 2 rfl) ?_
  refine lv_iload_n hx hb dX6_play_33 rfl (lv_at hl 3 rfl) ?_
  refine lv_iload_n hx hb dX6_play_34 rfl (lv_at hl 0 rfl) ?_
  have hPc := hP.sub (ws' := []) [] rfl
  have hDc := hD.sub (ws' := []) [] (by decide) rfl
  have hKc := hK.sub (tys' := []) [] rfl
  have hFc := va_free (wc := []) hD hS hA [] rfl
  refine va_calli (va_runS (As := [.int 3]) (rest := [.int p0, .ref h0, .int 0]) ⟨hx, hb, hml, hown, hts⟩ (c_power_3 l hl9 dC dI tE  _ ) (va_cwS 1 hts (goodIn_app (goodIn_r _ [10, 11, 6] (by rfl) (by decide +kernel)) gg_c_M_play_5_c_power_3) rfl rfl rfl (by decide +kernel) ⟨Nat.le_of_ble_eq_true rfl, Nat.le_of_ble_eq_true rfl⟩) ⟨Pre0.blind, Pre0.give hPc hKc hDc hT hS hFc⟩ rfl rfl hl.1 rfl (lv_room (Nat.le_of_ble_eq_true rfl)) dX6_play_35 ⟨Nat.le_of_ble_eq_true rfl, Nat.le_of_ble_eq_true rfl⟩) hS (fun q _ h => hFc q h) hFc (fun r_17 u t H1 locs ht hvm hw hB hz1 hk1 hS => ?_)
  obtain ⟨hP1, hK1, hD1⟩ := hB
  rw [ht] at hP1
  have hK1 := va_K.moved hvm.symm hK1
  obtain ⟨hP, hD⟩ := va_join (wr := [(h0, .inr (11, [.int 0, .int 0, .int 0, .int 0, .ref rq, .ref sbq])), (rq, .inl (ci, 119, .inl fx_13))]) (w1 := []) hP hD [] [0, 1] rfl rfl (by decide) (by decide) hk1 hFc hP1 hD1
  generalize H1 = H at hP hS ⊢
  have hP : va_P (dC, dI) vwCl [(h0, .inr (11, [.int 0, .int 0, .int 0, .int 0, .ref rq, .ref sbq])), (rq, .inl (ci, 119, .inl fx_13))] H := hP
  have hD : va_D A [(h0, .inr (11, [.int 0, .int 0, .int 0, .int 0, .ref rq, .ref sbq])), (rq, .inl (ci, 119, .inl fx_13))] := hD
  refine W.widen (k := 0) (n := 0) (by omega) (by omega) ?_
  obtain rfl : r_17 = 1000 := hw
  refine lv_idiv hx hb dX6_play_38 (by decide) ?_
  refine lv_topi (fun x_18 e_19 => ?_)
  refine lv_bipush (v := 10) hx hb dX6_play_39 (by decide) ?_
  refine lv_irem hx hb dX6_play_41 (by decide) ?_
  refine lv_topi (fun x_20 e_21 => ?_)
  have hPc := hP.sub (ws' := [(h0, .inr (11, [.int 0, .int 0, .int 0, .int 0, .ref rq, .ref sbq])), (rq, .inl (ci, 119, .inl fx_13))]) [0, 1] rfl
  have hDc := hD.sub (ws' := [(h0, .inr (11, [.int 0, .int 0, .int 0, .int 0, .ref rq, .ref sbq])), (rq, .inl (ci, 119, .inl fx_13))]) [0, 1] (by decide) rfl
  have hKc := hK.sub (tys' := [(ci, .int)]) [0] rfl
  have hFc := va_free (wc := [(h0, .inr (11, [.int 0, .int 0, .int 0, .int 0, .ref rq, .ref sbq])), (rq, .inl (ci, 119, .inl fx_13))]) hD hS hA [0, 1] rfl
  refine va_calli (va_runV (As := [.int x_20]) (rest := [.int 0]) ⟨hx, hb, hml, hown, hts⟩ (c_ringOne l hl9 dC dI tE h0 rq sbq 0 ci fx_13 x_20 _ ) (cwV 1 hts (goodIn_app (goodIn_r _ [17, 18, 19, 6] (by rfl) (by decide +kernel)) gg_c_M_play_5_c_ringOne) rfl rfl rfl (by decide +kernel) ⟨Nat.le_of_ble_eq_true rfl, Nat.le_of_ble_eq_true rfl⟩) ⟨Pre0.blind, va_recv hKc hPc (ci := 11) (q0 := 0) rfl rfl, Pre0.give hPc hKc hDc hT hS hFc⟩ rfl rfl hl.1 rfl (lv_room (Nat.le_of_ble_eq_true rfl)) dX6_play_42 ⟨Nat.le_of_ble_eq_true rfl, Nat.le_of_ble_eq_true rfl⟩) hS (fun q _ h => hFc q h) hFc (fun r_22 u t H1 locs ht hvm hw hB hz1 hk1 hS => ?_)
  obtain ⟨fx_23, hP1, hK1, hD1⟩ := hB
  rw [ht] at hP1
  have hK1 := va_K.moved hvm.symm hK1
  obtain ⟨hP, hD⟩ := va_join (wr := []) (w1 := [(h0, .inr (11, [.int 0, .int 0, .int 0, .int 0, .ref rq, .ref sbq])), (rq, .inl (ci, 119, .inl fx_23))]) hP hD [0, 1] [] rfl rfl (by decide) (by decide) hk1 hFc hP1 hD1
  generalize H1 = H at hP hS ⊢
  have hP : va_P (dC, dI) vwCl [(h0, .inr (11, [.int 0, .int 0, .int 0, .int 0, .ref rq, .ref sbq])), (rq, .inl (ci, 119, .inl fx_23))] H := hP
  have hD : va_D A [(h0, .inr (11, [.int 0, .int 0, .int 0, .int 0, .ref rq, .ref sbq])), (rq, .inl (ci, 119, .inl fx_23))] := hD
  refine W.widen (k := 0) (n := 0) (by omega) (by omega) ?_
  obtain rfl : r_22 = 0 := hw
  refine lv_iadd hx hb dX6_play_45 ?_
  refine lv_topi (fun x_24 e_25 => ?_)
  obtain rfl : x_24 = 0 := e_25.trans (by decide)
  refine lv_istore_n (lv' := [(2, .int 0), (3, .int 3), (0, .ref h0), (1, .int p0)]) hx hb dX6_play_46 rfl hl (by decide) rfl (fun ls hl => ?_)
  refine lv_iinc (v := 2) (lv' := [(3, .int 2), (2, .int 0), (0, .ref h0), (1, .int p0)]) hx hb dX6_play_47 hl (k := 1) rfl (by decide) (by decide) rfl (fun ls hl => ?_)
  refine lv_goto (tgt := 27) hx hb dX6_play_50 (by decide) ?_
  refine lv_iload_n hx hb dX6_play_27 rfl (lv_at hl 0 rfl) ?_
  refine lv_if_lt (tgt := 53) hx hb dX6_play_28 (by decide) (fun c_26 => absurd c_26 (by decide)) (fun _ => ?_)
  refine lv_iload_n hx hb dX6_play_31 rfl (lv_at hl 1 rfl) ?_
  refine lv_aload_n hx hb dX6_play_32 rfl (lv_at hl 2 rfl) ?_
  refine lv_iload_n hx hb dX6_play_33 rfl (lv_at hl 3 rfl) ?_
  refine lv_iload_n hx hb dX6_play_34 rfl (lv_at hl 0 rfl) ?_
  have hPc := hP.sub (ws' := []) [] rfl
  have hDc := hD.sub (ws' := []) [] (by decide) rfl
  have hKc := hK.sub (tys' := []) [] rfl
  have hFc := va_free (wc := []) hD hS hA [] rfl
  refine va_calli (va_runS (As := [.int 2]) (rest := [.int p0, .ref h0, .int 0]) ⟨hx, hb, hml, hown, hts⟩ (c_power_2 l hl9 dC dI tE  _ ) (va_cwS 1 hts (goodIn_app (goodIn_r _ [10, 11, 6] (by rfl) (by decide +kernel)) gg_c_M_play_5_c_power_2) rfl rfl rfl (by decide +kernel) ⟨Nat.le_of_ble_eq_true rfl, Nat.le_of_ble_eq_true rfl⟩) ⟨Pre0.blind, Pre0.give hPc hKc hDc hT hS hFc⟩ rfl rfl hl.1 rfl (lv_room (Nat.le_of_ble_eq_true rfl)) dX6_play_35 ⟨Nat.le_of_ble_eq_true rfl, Nat.le_of_ble_eq_true rfl⟩) hS (fun q _ h => hFc q h) hFc (fun r_27 u t H1 locs ht hvm hw hB hz1 hk1 hS => ?_)
  obtain ⟨hP1, hK1, hD1⟩ := hB
  rw [ht] at hP1
  have hK1 := va_K.moved hvm.symm hK1
  obtain ⟨hP, hD⟩ := va_join (wr := [(h0, .inr (11, [.int 0, .int 0, .int 0, .int 0, .ref rq, .ref sbq])), (rq, .inl (ci, 119, .inl fx_23))]) (w1 := []) hP hD [] [0, 1] rfl rfl (by decide) (by decide) hk1 hFc hP1 hD1
  generalize H1 = H at hP hS ⊢
  have hP : va_P (dC, dI) vwCl [(h0, .inr (11, [.int 0, .int 0, .int 0, .int 0, .ref rq, .ref sbq])), (rq, .inl (ci, 119, .inl fx_23))] H := hP
  have hD : va_D A [(h0, .inr (11, [.int 0, .int 0, .int 0, .int 0, .ref rq, .ref sbq])), (rq, .inl (ci, 119, .inl fx_23))] := hD
  refine W.widen (k := 0) (n := 0) (by omega) (by omega) ?_
  obtain rfl : r_27 = 100 := hw
  refine lv_idiv hx hb dX6_play_38 (by decide) ?_
  refine lv_topi (fun x_28 e_29 => ?_)
  refine lv_bipush (v := 10) hx hb dX6_play_39 (by decide) ?_
  refine lv_irem hx hb dX6_play_41 (by decide) ?_
  refine lv_topi (fun x_30 e_31 => ?_)
  have hPc := hP.sub (ws' := [(h0, .inr (11, [.int 0, .int 0, .int 0, .int 0, .ref rq, .ref sbq])), (rq, .inl (ci, 119, .inl fx_23))]) [0, 1] rfl
  have hDc := hD.sub (ws' := [(h0, .inr (11, [.int 0, .int 0, .int 0, .int 0, .ref rq, .ref sbq])), (rq, .inl (ci, 119, .inl fx_23))]) [0, 1] (by decide) rfl
  have hKc := hK.sub (tys' := [(ci, .int)]) [0] rfl
  have hFc := va_free (wc := [(h0, .inr (11, [.int 0, .int 0, .int 0, .int 0, .ref rq, .ref sbq])), (rq, .inl (ci, 119, .inl fx_23))]) hD hS hA [0, 1] rfl
  refine va_calli (va_runV (As := [.int x_30]) (rest := [.int 0]) ⟨hx, hb, hml, hown, hts⟩ (c_ringOne l hl9 dC dI tE h0 rq sbq 0 ci fx_23 x_30 _ ) (cwV 1 hts (goodIn_app (goodIn_r _ [17, 18, 19, 6] (by rfl) (by decide +kernel)) gg_c_M_play_5_c_ringOne) rfl rfl rfl (by decide +kernel) ⟨Nat.le_of_ble_eq_true rfl, Nat.le_of_ble_eq_true rfl⟩) ⟨Pre0.blind, va_recv hKc hPc (ci := 11) (q0 := 0) rfl rfl, Pre0.give hPc hKc hDc hT hS hFc⟩ rfl rfl hl.1 rfl (lv_room (Nat.le_of_ble_eq_true rfl)) dX6_play_42 ⟨Nat.le_of_ble_eq_true rfl, Nat.le_of_ble_eq_true rfl⟩) hS (fun q _ h => hFc q h) hFc (fun r_32 u t H1 locs ht hvm hw hB hz1 hk1 hS => ?_)
  obtain ⟨fx_33, hP1, hK1, hD1⟩ := hB
  rw [ht] at hP1
  have hK1 := va_K.moved hvm.symm hK1
  obtain ⟨hP, hD⟩ := va_join (wr := []) (w1 := [(h0, .inr (11, [.int 0, .int 0, .int 0, .int 0, .ref rq, .ref sbq])), (rq, .inl (ci, 119, .inl fx_33))]) hP hD [0, 1] [] rfl rfl (by decide) (by decide) hk1 hFc hP1 hD1
  generalize H1 = H at hP hS ⊢
  have hP : va_P (dC, dI) vwCl [(h0, .inr (11, [.int 0, .int 0, .int 0, .int 0, .ref rq, .ref sbq])), (rq, .inl (ci, 119, .inl fx_33))] H := hP
  have hD : va_D A [(h0, .inr (11, [.int 0, .int 0, .int 0, .int 0, .ref rq, .ref sbq])), (rq, .inl (ci, 119, .inl fx_33))] := hD
  refine W.widen (k := 0) (n := 0) (by omega) (by omega) ?_
  obtain rfl : r_32 = 0 := hw
  refine lv_iadd hx hb dX6_play_45 ?_
  refine lv_topi (fun x_34 e_35 => ?_)
  obtain rfl : x_34 = 0 := e_35.trans (by decide)
  refine lv_istore_n (lv' := [(2, .int 0), (3, .int 2), (0, .ref h0), (1, .int p0)]) hx hb dX6_play_46 rfl hl (by decide) rfl (fun ls hl => ?_)
  refine lv_iinc (v := 1) (lv' := [(3, .int 1), (2, .int 0), (0, .ref h0), (1, .int p0)]) hx hb dX6_play_47 hl (k := 1) rfl (by decide) (by decide) rfl (fun ls hl => ?_)
  refine lv_goto (tgt := 27) hx hb dX6_play_50 (by decide) ?_
  refine lv_iload_n hx hb dX6_play_27 rfl (lv_at hl 0 rfl) ?_
  refine lv_if_lt (tgt := 53) hx hb dX6_play_28 (by decide) (fun c_36 => absurd c_36 (by decide)) (fun _ => ?_)
  refine lv_iload_n hx hb dX6_play_31 rfl (lv_at hl 1 rfl) ?_
  refine lv_aload_n hx hb dX6_play_32 rfl (lv_at hl 2 rfl) ?_
  refine lv_iload_n hx hb dX6_play_33 rfl (lv_at hl 3 rfl) ?_
  refine lv_iload_n hx hb dX6_play_34 rfl (lv_at hl 0 rfl) ?_
  have hPc := hP.sub (ws' := []) [] rfl
  have hDc := hD.sub (ws' := []) [] (by decide) rfl
  have hKc := hK.sub (tys' := []) [] rfl
  have hFc := va_free (wc := []) hD hS hA [] rfl
  refine va_calli (va_runS (As := [.int 1]) (rest := [.int p0, .ref h0, .int 0]) ⟨hx, hb, hml, hown, hts⟩ (c_power_1 l hl9 dC dI tE  _ ) (va_cwS 1 hts (goodIn_app (goodIn_r _ [10, 11, 6] (by rfl) (by decide +kernel)) gg_c_M_play_5_c_power_1) rfl rfl rfl (by decide +kernel) ⟨Nat.le_of_ble_eq_true rfl, Nat.le_of_ble_eq_true rfl⟩) ⟨Pre0.blind, Pre0.give hPc hKc hDc hT hS hFc⟩ rfl rfl hl.1 rfl (lv_room (Nat.le_of_ble_eq_true rfl)) dX6_play_35 ⟨Nat.le_of_ble_eq_true rfl, Nat.le_of_ble_eq_true rfl⟩) hS (fun q _ h => hFc q h) hFc (fun r_37 u t H1 locs ht hvm hw hB hz1 hk1 hS => ?_)
  obtain ⟨hP1, hK1, hD1⟩ := hB
  rw [ht] at hP1
  have hK1 := va_K.moved hvm.symm hK1
  obtain ⟨hP, hD⟩ := va_join (wr := [(h0, .inr (11, [.int 0, .int 0, .int 0, .int 0, .ref rq, .ref sbq])), (rq, .inl (ci, 119, .inl fx_33))]) (w1 := []) hP hD [] [0, 1] rfl rfl (by decide) (by decide) hk1 hFc hP1 hD1
  generalize H1 = H at hP hS ⊢
  have hP : va_P (dC, dI) vwCl [(h0, .inr (11, [.int 0, .int 0, .int 0, .int 0, .ref rq, .ref sbq])), (rq, .inl (ci, 119, .inl fx_33))] H := hP
  have hD : va_D A [(h0, .inr (11, [.int 0, .int 0, .int 0, .int 0, .ref rq, .ref sbq])), (rq, .inl (ci, 119, .inl fx_33))] := hD
  refine W.widen (k := 0) (n := 0) (by omega) (by omega) ?_
  obtain rfl : r_37 = 10 := hw
  refine lv_idiv hx hb dX6_play_38 (by decide) ?_
  refine lv_topi (fun x_38 e_39 => ?_)
  refine lv_bipush (v := 10) hx hb dX6_play_39 (by decide) ?_
  refine lv_irem hx hb dX6_play_41 (by decide) ?_
  refine lv_topi (fun x_40 e_41 => ?_)
  have hPc := hP.sub (ws' := [(h0, .inr (11, [.int 0, .int 0, .int 0, .int 0, .ref rq, .ref sbq])), (rq, .inl (ci, 119, .inl fx_33))]) [0, 1] rfl
  have hDc := hD.sub (ws' := [(h0, .inr (11, [.int 0, .int 0, .int 0, .int 0, .ref rq, .ref sbq])), (rq, .inl (ci, 119, .inl fx_33))]) [0, 1] (by decide) rfl
  have hKc := hK.sub (tys' := [(ci, .int)]) [0] rfl
  have hFc := va_free (wc := [(h0, .inr (11, [.int 0, .int 0, .int 0, .int 0, .ref rq, .ref sbq])), (rq, .inl (ci, 119, .inl fx_33))]) hD hS hA [0, 1] rfl
  refine va_calli (va_runV (As := [.int x_40]) (rest := [.int 0]) ⟨hx, hb, hml, hown, hts⟩ (c_ringOne l hl9 dC dI tE h0 rq sbq 0 ci fx_33 x_40 _ ) (cwV 1 hts (goodIn_app (goodIn_r _ [17, 18, 19, 6] (by rfl) (by decide +kernel)) gg_c_M_play_5_c_ringOne) rfl rfl rfl (by decide +kernel) ⟨Nat.le_of_ble_eq_true rfl, Nat.le_of_ble_eq_true rfl⟩) ⟨Pre0.blind, va_recv hKc hPc (ci := 11) (q0 := 0) rfl rfl, Pre0.give hPc hKc hDc hT hS hFc⟩ rfl rfl hl.1 rfl (lv_room (Nat.le_of_ble_eq_true rfl)) dX6_play_42 ⟨Nat.le_of_ble_eq_true rfl, Nat.le_of_ble_eq_true rfl⟩) hS (fun q _ h => hFc q h) hFc (fun r_42 u t H1 locs ht hvm hw hB hz1 hk1 hS => ?_)
  obtain ⟨fx_43, hP1, hK1, hD1⟩ := hB
  rw [ht] at hP1
  have hK1 := va_K.moved hvm.symm hK1
  obtain ⟨hP, hD⟩ := va_join (wr := []) (w1 := [(h0, .inr (11, [.int 0, .int 0, .int 0, .int 0, .ref rq, .ref sbq])), (rq, .inl (ci, 119, .inl fx_43))]) hP hD [0, 1] [] rfl rfl (by decide) (by decide) hk1 hFc hP1 hD1
  generalize H1 = H at hP hS ⊢
  have hP : va_P (dC, dI) vwCl [(h0, .inr (11, [.int 0, .int 0, .int 0, .int 0, .ref rq, .ref sbq])), (rq, .inl (ci, 119, .inl fx_43))] H := hP
  have hD : va_D A [(h0, .inr (11, [.int 0, .int 0, .int 0, .int 0, .ref rq, .ref sbq])), (rq, .inl (ci, 119, .inl fx_43))] := hD
  refine W.widen (k := 0) (n := 0) (by omega) (by omega) ?_
  obtain rfl : r_42 = 0 := hw
  refine lv_iadd hx hb dX6_play_45 ?_
  refine lv_topi (fun x_44 e_45 => ?_)
  obtain rfl : x_44 = 0 := e_45.trans (by decide)
  refine lv_istore_n (lv' := [(2, .int 0), (3, .int 1), (0, .ref h0), (1, .int p0)]) hx hb dX6_play_46 rfl hl (by decide) rfl (fun ls hl => ?_)
  refine lv_iinc (v := 0) (lv' := [(3, .int 0), (2, .int 0), (0, .ref h0), (1, .int p0)]) hx hb dX6_play_47 hl (k := 1) rfl (by decide) (by decide) rfl (fun ls hl => ?_)
  refine lv_goto (tgt := 27) hx hb dX6_play_50 (by decide) ?_
  refine lv_iload_n hx hb dX6_play_27 rfl (lv_at hl 0 rfl) ?_
  refine lv_if_lt (tgt := 53) hx hb dX6_play_28 (by decide) (fun c_46 => absurd c_46 (by decide)) (fun _ => ?_)
  refine lv_iload_n hx hb dX6_play_31 rfl (lv_at hl 1 rfl) ?_
  refine lv_aload_n hx hb dX6_play_32 rfl (lv_at hl 2 rfl) ?_
  refine lv_iload_n hx hb dX6_play_33 rfl (lv_at hl 3 rfl) ?_
  refine lv_iload_n hx hb dX6_play_34 rfl (lv_at hl 0 rfl) ?_
  have hPc := hP.sub (ws' := []) [] rfl
  have hDc := hD.sub (ws' := []) [] (by decide) rfl
  have hKc := hK.sub (tys' := []) [] rfl
  have hFc := va_free (wc := []) hD hS hA [] rfl
  refine va_calli (va_runS (As := [.int 0]) (rest := [.int p0, .ref h0, .int 0]) ⟨hx, hb, hml, hown, hts⟩ (c_power_0 l hl9 dC dI tE  _ ) (va_cwS 1 hts (goodIn_app (goodIn_r _ [10, 11, 6] (by rfl) (by decide +kernel)) gg_c_M_play_5_c_power_0) rfl rfl rfl (by decide +kernel) ⟨Nat.le_of_ble_eq_true rfl, Nat.le_of_ble_eq_true rfl⟩) ⟨Pre0.blind, Pre0.give hPc hKc hDc hT hS hFc⟩ rfl rfl hl.1 rfl (lv_room (Nat.le_of_ble_eq_true rfl)) dX6_play_35 ⟨Nat.le_of_ble_eq_true rfl, Nat.le_of_ble_eq_true rfl⟩) hS (fun q _ h => hFc q h) hFc (fun r_47 u t H1 locs ht hvm hw hB hz1 hk1 hS => ?_)
  obtain ⟨hP1, hK1, hD1⟩ := hB
  rw [ht] at hP1
  have hK1 := va_K.moved hvm.symm hK1
  obtain ⟨hP, hD⟩ := va_join (wr := [(h0, .inr (11, [.int 0, .int 0, .int 0, .int 0, .ref rq, .ref sbq])), (rq, .inl (ci, 119, .inl fx_43))]) (w1 := []) hP hD [] [0, 1] rfl rfl (by decide) (by decide) hk1 hFc hP1 hD1
  generalize H1 = H at hP hS ⊢
  have hP : va_P (dC, dI) vwCl [(h0, .inr (11, [.int 0, .int 0, .int 0, .int 0, .ref rq, .ref sbq])), (rq, .inl (ci, 119, .inl fx_43))] H := hP
  have hD : va_D A [(h0, .inr (11, [.int 0, .int 0, .int 0, .int 0, .ref rq, .ref sbq])), (rq, .inl (ci, 119, .inl fx_43))] := hD
  refine W.widen (k := 0) (n := 0) (by omega) (by omega) ?_
  obtain rfl : r_47 = 1 := hw
  refine lv_idiv hx hb dX6_play_38 (by decide) ?_
  refine lv_topi (fun x_48 e_49 => ?_)
  refine lv_bipush (v := 10) hx hb dX6_play_39 (by decide) ?_
  refine lv_irem hx hb dX6_play_41 (by decide) ?_
  refine lv_topi (fun x_50 e_51 => ?_)
  have hPc := hP.sub (ws' := [(h0, .inr (11, [.int 0, .int 0, .int 0, .int 0, .ref rq, .ref sbq])), (rq, .inl (ci, 119, .inl fx_43))]) [0, 1] rfl
  have hDc := hD.sub (ws' := [(h0, .inr (11, [.int 0, .int 0, .int 0, .int 0, .ref rq, .ref sbq])), (rq, .inl (ci, 119, .inl fx_43))]) [0, 1] (by decide) rfl
  have hKc := hK.sub (tys' := [(ci, .int)]) [0] rfl
  have hFc := va_free (wc := [(h0, .inr (11, [.int 0, .int 0, .int 0, .int 0, .ref rq, .ref sbq])), (rq, .inl (ci, 119, .inl fx_43))]) hD hS hA [0, 1] rfl
  refine va_calli (va_runV (As := [.int x_50]) (rest := [.int 0]) ⟨hx, hb, hml, hown, hts⟩ (c_ringOne l hl9 dC dI tE h0 rq sbq 0 ci fx_43 x_50 _ ) (cwV 1 hts (goodIn_app (goodIn_r _ [17, 18, 19, 6] (by rfl) (by decide +kernel)) gg_c_M_play_5_c_ringOne) rfl rfl rfl (by decide +kernel) ⟨Nat.le_of_ble_eq_true rfl, Nat.le_of_ble_eq_true rfl⟩) ⟨Pre0.blind, va_recv hKc hPc (ci := 11) (q0 := 0) rfl rfl, Pre0.give hPc hKc hDc hT hS hFc⟩ rfl rfl hl.1 rfl (lv_room (Nat.le_of_ble_eq_true rfl)) dX6_play_42 ⟨Nat.le_of_ble_eq_true rfl, Nat.le_of_ble_eq_true rfl⟩) hS (fun q _ h => hFc q h) hFc (fun r_52 u t H1 locs ht hvm hw hB hz1 hk1 hS => ?_)
  obtain ⟨fx_53, hP1, hK1, hD1⟩ := hB
  rw [ht] at hP1
  have hK1 := va_K.moved hvm.symm hK1
  obtain ⟨hP, hD⟩ := va_join (wr := []) (w1 := [(h0, .inr (11, [.int 0, .int 0, .int 0, .int 0, .ref rq, .ref sbq])), (rq, .inl (ci, 119, .inl fx_53))]) hP hD [0, 1] [] rfl rfl (by decide) (by decide) hk1 hFc hP1 hD1
  generalize H1 = H at hP hS ⊢
  have hP : va_P (dC, dI) vwCl [(h0, .inr (11, [.int 0, .int 0, .int 0, .int 0, .ref rq, .ref sbq])), (rq, .inl (ci, 119, .inl fx_53))] H := hP
  have hD : va_D A [(h0, .inr (11, [.int 0, .int 0, .int 0, .int 0, .ref rq, .ref sbq])), (rq, .inl (ci, 119, .inl fx_53))] := hD
  refine W.widen (k := 0) (n := 0) (by omega) (by omega) ?_
  obtain rfl : r_52 = 0 := hw
  refine lv_iadd hx hb dX6_play_45 ?_
  refine lv_topi (fun x_54 e_55 => ?_)
  obtain rfl : x_54 = 0 := e_55.trans (by decide)
  refine lv_istore_n (lv' := [(2, .int 0), (3, .int 0), (0, .ref h0), (1, .int p0)]) hx hb dX6_play_46 rfl hl (by decide) rfl (fun ls hl => ?_)
  refine lv_iinc (v := (-1)) (lv' := [(3, .int (-1)), (2, .int 0), (0, .ref h0), (1, .int p0)]) hx hb dX6_play_47 hl (k := 1) rfl (by decide) (by decide) rfl (fun ls hl => ?_)
  refine lv_goto (tgt := 27) hx hb dX6_play_50 (by decide) ?_
  refine lv_iload_n hx hb dX6_play_27 rfl (lv_at hl 0 rfl) ?_
  refine lv_if_lt (tgt := 53) hx hb dX6_play_28 (by decide) (fun _ => ?_) (fun c_56 => absurd (by decide) c_56)
  refine lv_iload_n hx hb dX6_play_53 rfl (lv_at hl 1 rfl) ?_
  have hP9 := hP.sub (ws' := [(h0, .inr (11, [.int 0, .int 0, .int 0, .int 0, .ref rq, .ref sbq])), (rq, .inl (ci, 119, .inl fx_53))]) [0, 1] rfl
  have hD9 := hD.sub (ws' := [(h0, .inr (11, [.int 0, .int 0, .int 0, .int 0, .ref rq, .ref sbq])), (rq, .inl (ci, 119, .inl fx_53))]) [0, 1] (by decide) rfl
  have hK9 := hK.sub (tys' := [(ci, .int)]) [0] rfl
  exact W.iret (v := 0) hx hb hr (fun t ht hW => ⟨⟨0, (), rfl, rfl, fx_53, by rw [ht]; exact hP9, va_K.moved hW.alike hK9, hD9⟩, hS.F ht⟩) hS.2.2 dX6_play_54
def v_c_M_play_6 : List Cond := .code yX6_play cX6_play 4 (some .int) :: ([Cond.fieldLink RX6 20 "HotelOfBellsModel" "thrown" "I", Cond.code yX6_digits cX6_digits 3 (some .int), Cond.code yX6_isIn cX6_isIn 3 (some .boolean), Cond.methodLink RX6 27 yX6_isIn, Cond.static yX6_isIn, Cond.initialized RX6, Cond.methodLink RX6 53 yX6_digits, Cond.static yX6_digits, Cond.code yX6_power cX6_power 3 (some .int), Cond.methodLink RX6 90 yX6_power, Cond.static yX6_power, Cond.code yX6_ringOne cX6_ringOne 4 (some .int), Cond.fieldLink RX6 34 "HotelOfBellsModel" "guests" "I", Cond.fieldLink RX6 9 "HotelOfBellsModel" "row" "[I", Cond.fieldLink RX6 24 "HotelOfBellsModel" "floors" "I", Cond.fieldLink RX6 31 "HotelOfBellsModel" "lifts" "I", Cond.methodLink RX6 130 yX6_ringOne, Cond.instanceMethod yX6_ringOne, Cond.selects RX6 yX6_ringOne yX6_ringOne] ++ (wsX60 ++ []))
theorem u_c_M_play_6_X6 : ∀ w ∈ wsX60, w ∈ v_c_M_play_6 := fun _ h => List.mem_cons_of_mem _ (List.mem_append_right _ (List.mem_append_left _ h))
theorem gg_c_M_play_6_c_digits : GoodIn v_c_M_play_6 v_c_digits := goodIn_r _ [2, 3, 4, 5, 6] (by rfl) (by decide +kernel)
theorem gg_c_M_play_6_c_power_5 : GoodIn v_c_M_play_6 v_c_power_5 := goodIn_r _ [9] (by rfl) (by decide +kernel)
theorem gg_c_M_play_6_c_ringOne : GoodIn v_c_M_play_6 v_c_ringOne := goodIn_r _ [12, 13, 14, 9, 10, 11, 6, 15, 16, 20, 21, 22, 23, 24, 25] (by rfl) (by decide +kernel)
theorem gg_c_M_play_6_c_power_4 : GoodIn v_c_M_play_6 v_c_power_4 := goodIn_r _ [9] (by rfl) (by decide +kernel)
theorem gg_c_M_play_6_c_power_3 : GoodIn v_c_M_play_6 v_c_power_3 := goodIn_r _ [9] (by rfl) (by decide +kernel)
theorem gg_c_M_play_6_c_power_2 : GoodIn v_c_M_play_6 v_c_power_2 := goodIn_r _ [9] (by rfl) (by decide +kernel)
theorem gg_c_M_play_6_c_power_1 : GoodIn v_c_M_play_6 v_c_power_1 := goodIn_r _ [9] (by rfl) (by decide +kernel)
theorem gg_c_M_play_6_c_power_0 : GoodIn v_c_M_play_6 v_c_power_0 := goodIn_r _ [9] (by rfl) (by decide +kernel)
set_option maxHeartbeats 4000000 in
set_option maxRecDepth 100000 in
theorem c_M_play_6 (l : Launch) (hl9 : l.stackTraces = false) (dC : Nat → ClassId) (dI : Nat → Nat → Nat) (tE : Nat) (h0 : Nat) (rq : Nat) (sbq : Nat) (th : Int32) (ci : ClassId) (fr : Nat → Int32) (p0 : Int32) (sz : Nat) (hd0 : dgt p0 = 6) : Met l yX6_play v_c_M_play_6 ({ frames := 2, cells := 0, slots := 0, locals := 45 }) (va_Pc [.ref h0, .int p0] (Pre0 dC dI tE sz [(ci, .int)] [(h0, .inr (11, [.int th, .int 0, .int 0, .int 0, .ref rq, .ref sbq])), (rq, .inl (ci, 119, .inl fr))])) (va_Qi (fun (r : Int32) (_ : Unit) => r = 0) (fun _ t => ∃ (fx0 : Nat → Int32), Pst dC dI [(ci, .int)] (va_A [(h0, .inr (11, [.int th, .int 0, .int 0, .int 0, .ref rq, .ref sbq])), (rq, .inl (ci, 119, .inl fr))] sz) [(h0, .inr (11, [.int 0, .int 0, .int 0, .int 0, .ref rq, .ref sbq])), (rq, .inl (ci, 119, .inl fx0))] t) (va_A [(h0, .inr (11, [.int th, .int 0, .int 0, .int 0, .ref rq, .ref sbq])), (rq, .inl (ci, 119, .inl fr))] sz)) 0 0 (va_A [(h0, .inr (11, [.int th, .int 0, .int 0, .int 0, .ref rq, .ref sbq])), (rq, .inl (ci, 119, .inl fr))] sz) := by
  refine Met.ofW (cc := cX6_play) (maxL := 4) (ret := (some .int)) (by decide) rfl ?_
  intro p e s m args below meth c s₁ B hml hv
  obtain ⟨rfl, hsz, hP, hK, hD0, hT⟩ := hv
  have hx := B.exec
  have hb := B.bytes
  have hr := B.returns
  have hts := atoms_spec (ws := v_c_M_play_6) B.pre
  have hown : s.vm.findClass RX6 = some m.cls := findClass_of_methodNamed B.named
  have hlocks := B.notSynchronized
  subst hsz
  have hD := hD0.self (sz := s.heap.size)
  generalize hAe : va_A [(h0, .inr (11, [.int th, .int 0, .int 0, .int 0, .ref rq, .ref sbq])), (rq, .inl (ci, 119, .inl fr))] s.heap.size = A at hD hT ⊢
  have hA : ∀ q : Nat, s.heap.size ≤ q → A q := fun q h => by rw [← hAe]; exact Or.inr h
  have hS : va_S A s.heap s.heap [] := va_S.rf
  have hl := lv_entry ([.ref h0, .int p0]) (n := 4) (Nat.le_of_ble_eq_true rfl)
  rw [lg_entry_eq]
  generalize (lg_sl ([.ref h0, .int p0]) ++ List.replicate (4 - (lg_sl ([.ref h0, .int p0])).length) Slot.unset).toArray = ls at hl ⊢
  have hl : lv_has ls 4 [(0, .ref h0), (1, .int p0)] := hl
  refine lv_aload_n hx hb dX6_play_0 rfl (lv_at hl 0 rfl) ?_
  refine lv_iconst (v := 0) hx hb dX6_play_1 (by decide) ?_
  refine va_put (D := (dC, dI)) (ci := 11) (v := .int 0) (ty := .int) (C := RX6) (T := TX6) (N := 6) hx hb hts u_c_M_play_6_X6 tyX6 tyX6_ok nmX6 hown hK hP hD hS 0 rfl rfl 0 (by decide) (hts (.fieldLink RX6 20 "HotelOfBellsModel" "thrown" "I") (List.mem_of_getElem? (i := 1) rfl)) (fun _ h9 => h9) rfl (by decide +kernel) rfl rfl (Nat.le_of_ble_eq_true rfl) dX6_play_2 (fun H locs hP hD hS => ?_)
  have hP : va_P (dC, dI) vwCl [(h0, .inr (11, [.int 0, .int 0, .int 0, .int 0, .ref rq, .ref sbq])), (rq, .inl (ci, 119, .inl fr))] H := hP
  have hD : va_D A [(h0, .inr (11, [.int 0, .int 0, .int 0, .int 0, .ref rq, .ref sbq])), (rq, .inl (ci, 119, .inl fr))] := hD
  refine lv_iload_n hx hb dX6_play_5 rfl (lv_at hl 1 rfl) ?_
  have hPc := hP.sub (ws' := []) [] rfl
  have hDc := hD.sub (ws' := []) [] (by decide) rfl
  have hKc := hK.sub (tys' := []) [] rfl
  have hFc := va_free (wc := []) hD hS hA [] rfl
  refine va_calli (va_runS (As := [.int p0]) (rest := []) ⟨hx, hb, hml, hown, hts⟩ (c_digits l hl9 dC dI tE p0 _ ) (va_cwS 1 hts (goodIn_app (goodIn_r _ [7, 8, 6] (by rfl) (by decide +kernel)) gg_c_M_play_6_c_digits) rfl rfl rfl (by decide +kernel) ⟨Nat.le_of_ble_eq_true rfl, Nat.le_of_ble_eq_true rfl⟩) ⟨Pre0.blind, Pre0.give hPc hKc hDc hT hS hFc⟩ rfl rfl hl.1 rfl (lv_room (Nat.le_of_ble_eq_true rfl)) dX6_play_6 ⟨Nat.le_of_ble_eq_true rfl, Nat.le_of_ble_eq_true rfl⟩) hS (fun q _ h => hFc q h) hFc (fun r_1 u t H1 locs ht hvm hw hB hz1 hk1 hS => ?_)
  obtain ⟨hP1, hK1, hD1⟩ := hB
  rw [ht] at hP1
  have hK1 := va_K.moved hvm.symm hK1
  obtain ⟨hP, hD⟩ := va_join (wr := [(h0, .inr (11, [.int 0, .int 0, .int 0, .int 0, .ref rq, .ref sbq])), (rq, .inl (ci, 119, .inl fr))]) (w1 := []) hP hD [] [0, 1] rfl rfl (by decide) (by decide) hk1 hFc hP1 hD1
  generalize H1 = H at hP hS ⊢
  have hP : va_P (dC, dI) vwCl [(h0, .inr (11, [.int 0, .int 0, .int 0, .int 0, .ref rq, .ref sbq])), (rq, .inl (ci, 119, .inl fr))] H := hP
  have hD : va_D A [(h0, .inr (11, [.int 0, .int 0, .int 0, .int 0, .ref rq, .ref sbq])), (rq, .inl (ci, 119, .inl fr))] := hD
  refine W.widen (k := 0) (n := 0) (by omega) (by omega) ?_
  obtain rfl : r_1 = 6 := hw.trans hd0
  refine lv_if_ne (tgt := 18) hx hb dX6_play_9 (by decide) (fun _ => ?_) (fun c_2 => absurd c_2 (by decide))
  refine lv_iconst (v := 0) hx hb dX6_play_18 (by decide) ?_
  refine lv_istore_n (lv' := [(2, .int 0), (0, .ref h0), (1, .int p0)]) hx hb dX6_play_19 rfl hl (by decide) rfl (fun ls hl => ?_)
  refine lv_iload_n hx hb dX6_play_20 rfl (lv_at hl 2 rfl) ?_
  have hPc := hP.sub (ws' := []) [] rfl
  have hDc := hD.sub (ws' := []) [] (by decide) rfl
  have hKc := hK.sub (tys' := []) [] rfl
  have hFc := va_free (wc := []) hD hS hA [] rfl
  refine va_calli (va_runS (As := [.int p0]) (rest := []) ⟨hx, hb, hml, hown, hts⟩ (c_digits l hl9 dC dI tE p0 _ ) (va_cwS 1 hts (goodIn_app (goodIn_r _ [7, 8, 6] (by rfl) (by decide +kernel)) gg_c_M_play_6_c_digits) rfl rfl rfl (by decide +kernel) ⟨Nat.le_of_ble_eq_true rfl, Nat.le_of_ble_eq_true rfl⟩) ⟨Pre0.blind, Pre0.give hPc hKc hDc hT hS hFc⟩ rfl rfl hl.1 rfl (lv_room (Nat.le_of_ble_eq_true rfl)) dX6_play_21 ⟨Nat.le_of_ble_eq_true rfl, Nat.le_of_ble_eq_true rfl⟩) hS (fun q _ h => hFc q h) hFc (fun r_3 u t H1 locs ht hvm hw hB hz1 hk1 hS => ?_)
  obtain ⟨hP1, hK1, hD1⟩ := hB
  rw [ht] at hP1
  have hK1 := va_K.moved hvm.symm hK1
  obtain ⟨hP, hD⟩ := va_join (wr := [(h0, .inr (11, [.int 0, .int 0, .int 0, .int 0, .ref rq, .ref sbq])), (rq, .inl (ci, 119, .inl fr))]) (w1 := []) hP hD [] [0, 1] rfl rfl (by decide) (by decide) hk1 hFc hP1 hD1
  generalize H1 = H at hP hS ⊢
  have hP : va_P (dC, dI) vwCl [(h0, .inr (11, [.int 0, .int 0, .int 0, .int 0, .ref rq, .ref sbq])), (rq, .inl (ci, 119, .inl fr))] H := hP
  have hD : va_D A [(h0, .inr (11, [.int 0, .int 0, .int 0, .int 0, .ref rq, .ref sbq])), (rq, .inl (ci, 119, .inl fr))] := hD
  refine W.widen (k := 0) (n := 0) (by omega) (by omega) ?_
  obtain rfl : r_3 = 6 := hw.trans hd0
  refine lv_iconst (v := 1) hx hb dX6_play_24 (by decide) ?_
  refine lv_isub hx hb dX6_play_25 ?_
  refine lv_topi (fun x_4 e_5 => ?_)
  obtain rfl : x_4 = 5 := e_5.trans (by decide)
  refine lv_istore_n (lv' := [(3, .int 5), (2, .int 0), (0, .ref h0), (1, .int p0)]) hx hb dX6_play_26 rfl hl (by decide) rfl (fun ls hl => ?_)
  refine lv_iload_n hx hb dX6_play_27 rfl (lv_at hl 0 rfl) ?_
  refine lv_if_lt (tgt := 53) hx hb dX6_play_28 (by decide) (fun c_6 => absurd c_6 (by decide)) (fun _ => ?_)
  refine lv_iload_n hx hb dX6_play_31 rfl (lv_at hl 1 rfl) ?_
  refine lv_aload_n hx hb dX6_play_32 rfl (lv_at hl 2 rfl) ?_
  refine lv_iload_n hx hb dX6_play_33 rfl (lv_at hl 3 rfl) ?_
  refine lv_iload_n hx hb dX6_play_34 rfl (lv_at hl 0 rfl) ?_
  have hPc := hP.sub (ws' := []) [] rfl
  have hDc := hD.sub (ws' := []) [] (by decide) rfl
  have hKc := hK.sub (tys' := []) [] rfl
  have hFc := va_free (wc := []) hD hS hA [] rfl
  refine va_calli (va_runS (As := [.int 5]) (rest := [.int p0, .ref h0, .int 0]) ⟨hx, hb, hml, hown, hts⟩ (c_power_5 l hl9 dC dI tE  _ ) (va_cwS 1 hts (goodIn_app (goodIn_r _ [10, 11, 6] (by rfl) (by decide +kernel)) gg_c_M_play_6_c_power_5) rfl rfl rfl (by decide +kernel) ⟨Nat.le_of_ble_eq_true rfl, Nat.le_of_ble_eq_true rfl⟩) ⟨Pre0.blind, Pre0.give hPc hKc hDc hT hS hFc⟩ rfl rfl hl.1 rfl (lv_room (Nat.le_of_ble_eq_true rfl)) dX6_play_35 ⟨Nat.le_of_ble_eq_true rfl, Nat.le_of_ble_eq_true rfl⟩) hS (fun q _ h => hFc q h) hFc (fun r_7 u t H1 locs ht hvm hw hB hz1 hk1 hS => ?_)
  obtain ⟨hP1, hK1, hD1⟩ := hB
  rw [ht] at hP1
  have hK1 := va_K.moved hvm.symm hK1
  obtain ⟨hP, hD⟩ := va_join (wr := [(h0, .inr (11, [.int 0, .int 0, .int 0, .int 0, .ref rq, .ref sbq])), (rq, .inl (ci, 119, .inl fr))]) (w1 := []) hP hD [] [0, 1] rfl rfl (by decide) (by decide) hk1 hFc hP1 hD1
  generalize H1 = H at hP hS ⊢
  have hP : va_P (dC, dI) vwCl [(h0, .inr (11, [.int 0, .int 0, .int 0, .int 0, .ref rq, .ref sbq])), (rq, .inl (ci, 119, .inl fr))] H := hP
  have hD : va_D A [(h0, .inr (11, [.int 0, .int 0, .int 0, .int 0, .ref rq, .ref sbq])), (rq, .inl (ci, 119, .inl fr))] := hD
  refine W.widen (k := 0) (n := 0) (by omega) (by omega) ?_
  obtain rfl : r_7 = 100000 := hw
  refine lv_idiv hx hb dX6_play_38 (by decide) ?_
  refine lv_topi (fun x_8 e_9 => ?_)
  refine lv_bipush (v := 10) hx hb dX6_play_39 (by decide) ?_
  refine lv_irem hx hb dX6_play_41 (by decide) ?_
  refine lv_topi (fun x_10 e_11 => ?_)
  have hPc := hP.sub (ws' := [(h0, .inr (11, [.int 0, .int 0, .int 0, .int 0, .ref rq, .ref sbq])), (rq, .inl (ci, 119, .inl fr))]) [0, 1] rfl
  have hDc := hD.sub (ws' := [(h0, .inr (11, [.int 0, .int 0, .int 0, .int 0, .ref rq, .ref sbq])), (rq, .inl (ci, 119, .inl fr))]) [0, 1] (by decide) rfl
  have hKc := hK.sub (tys' := [(ci, .int)]) [0] rfl
  have hFc := va_free (wc := [(h0, .inr (11, [.int 0, .int 0, .int 0, .int 0, .ref rq, .ref sbq])), (rq, .inl (ci, 119, .inl fr))]) hD hS hA [0, 1] rfl
  refine va_calli (va_runV (As := [.int x_10]) (rest := [.int 0]) ⟨hx, hb, hml, hown, hts⟩ (c_ringOne l hl9 dC dI tE h0 rq sbq 0 ci fr x_10 _ ) (cwV 1 hts (goodIn_app (goodIn_r _ [17, 18, 19, 6] (by rfl) (by decide +kernel)) gg_c_M_play_6_c_ringOne) rfl rfl rfl (by decide +kernel) ⟨Nat.le_of_ble_eq_true rfl, Nat.le_of_ble_eq_true rfl⟩) ⟨Pre0.blind, va_recv hKc hPc (ci := 11) (q0 := 0) rfl rfl, Pre0.give hPc hKc hDc hT hS hFc⟩ rfl rfl hl.1 rfl (lv_room (Nat.le_of_ble_eq_true rfl)) dX6_play_42 ⟨Nat.le_of_ble_eq_true rfl, Nat.le_of_ble_eq_true rfl⟩) hS (fun q _ h => hFc q h) hFc (fun r_12 u t H1 locs ht hvm hw hB hz1 hk1 hS => ?_)
  obtain ⟨fx_13, hP1, hK1, hD1⟩ := hB
  rw [ht] at hP1
  have hK1 := va_K.moved hvm.symm hK1
  obtain ⟨hP, hD⟩ := va_join (wr := []) (w1 := [(h0, .inr (11, [.int 0, .int 0, .int 0, .int 0, .ref rq, .ref sbq])), (rq, .inl (ci, 119, .inl fx_13))]) hP hD [0, 1] [] rfl rfl (by decide) (by decide) hk1 hFc hP1 hD1
  generalize H1 = H at hP hS ⊢
  have hP : va_P (dC, dI) vwCl [(h0, .inr (11, [.int 0, .int 0, .int 0, .int 0, .ref rq, .ref sbq])), (rq, .inl (ci, 119, .inl fx_13))] H := hP
  have hD : va_D A [(h0, .inr (11, [.int 0, .int 0, .int 0, .int 0, .ref rq, .ref sbq])), (rq, .inl (ci, 119, .inl fx_13))] := hD
  refine W.widen (k := 0) (n := 0) (by omega) (by omega) ?_
  obtain rfl : r_12 = 0 := hw
  refine lv_iadd hx hb dX6_play_45 ?_
  refine lv_topi (fun x_14 e_15 => ?_)
  obtain rfl : x_14 = 0 := e_15.trans (by decide)
  refine lv_istore_n (lv' := [(2, .int 0), (3, .int 5), (0, .ref h0), (1, .int p0)]) hx hb dX6_play_46 rfl hl (by decide) rfl (fun ls hl => ?_)
  refine lv_iinc (v := 4) (lv' := [(3, .int 4), (2, .int 0), (0, .ref h0), (1, .int p0)]) hx hb dX6_play_47 hl (k := 1) rfl (by decide) (by decide) rfl (fun ls hl => ?_)
  refine lv_goto (tgt := 27) hx hb dX6_play_50 (by decide) ?_
  refine lv_iload_n hx hb dX6_play_27 rfl (lv_at hl 0 rfl) ?_
  refine lv_if_lt (tgt := 53) hx hb dX6_play_28 (by decide) (fun c_16 => absurd c_16 (by decide)) (fun _ => ?_)
  refine lv_iload_n hx hb dX6_play_31 rfl (lv_at hl 1 rfl) ?_
  refine lv_aload_n hx hb dX6_play_32 rfl (lv_at hl 2 rfl) ?_
  refine lv_iload_n hx hb dX6_play_33 rfl (lv_at hl 3 rfl) ?_
  refine lv_iload_n hx hb dX6_play_34 rfl (lv_at hl 0 rfl) ?_
  have hPc := hP.sub (ws' := []) [] rfl
  have hDc := hD.sub (ws' := []) [] (by decide) rfl
  have hKc := hK.sub (tys' := []) [] rfl
  have hFc := va_free (wc := []) hD hS hA [] rfl
  refine va_calli (va_runS (As := [.int 4]) (rest := [.int p0, .ref h0, .int 0]) ⟨hx, hb, hml, hown, hts⟩ (c_power_4 l hl9 dC dI tE  _ ) (va_cwS 1 hts (goodIn_app (goodIn_r _ [10, 11, 6] (by rfl) (by decide +kernel)) gg_c_M_play_6_c_power_4) rfl rfl rfl (by decide +kernel) ⟨Nat.le_of_ble_eq_true rfl, Nat.le_of_ble_eq_true rfl⟩) ⟨Pre0.blind, Pre0.give hPc hKc hDc hT hS hFc⟩ rfl rfl hl.1 rfl (lv_room (Nat.le_of_ble_eq_true rfl)) dX6_play_35 ⟨Nat.le_of_ble_eq_true rfl, Nat.le_of_ble_eq_true rfl⟩) hS (fun q _ h => hFc q h) hFc (fun r_17 u t H1 locs ht hvm hw hB hz1 hk1 hS => ?_)
  obtain ⟨hP1, hK1, hD1⟩ := hB
  rw [ht] at hP1
  have hK1 := va_K.moved hvm.symm hK1
  obtain ⟨hP, hD⟩ := va_join (wr := [(h0, .inr (11, [.int 0, .int 0, .int 0, .int 0, .ref rq, .ref sbq])), (rq, .inl (ci, 119, .inl fx_13))]) (w1 := []) hP hD [] [0, 1] rfl rfl (by decide) (by decide) hk1 hFc hP1 hD1
  generalize H1 = H at hP hS ⊢
  have hP : va_P (dC, dI) vwCl [(h0, .inr (11, [.int 0, .int 0, .int 0, .int 0, .ref rq, .ref sbq])), (rq, .inl (ci, 119, .inl fx_13))] H := hP
  have hD : va_D A [(h0, .inr (11, [.int 0, .int 0, .int 0, .int 0, .ref rq, .ref sbq])), (rq, .inl (ci, 119, .inl fx_13))] := hD
  refine W.widen (k := 0) (n := 0) (by omega) (by omega) ?_
  obtain rfl : r_17 = 10000 := hw
  refine lv_idiv hx hb dX6_play_38 (by decide) ?_
  refine lv_topi (fun x_18 e_19 => ?_)
  refine lv_bipush (v := 10) hx hb dX6_play_39 (by decide) ?_
  refine lv_irem hx hb dX6_play_41 (by decide) ?_
  refine lv_topi (fun x_20 e_21 => ?_)
  have hPc := hP.sub (ws' := [(h0, .inr (11, [.int 0, .int 0, .int 0, .int 0, .ref rq, .ref sbq])), (rq, .inl (ci, 119, .inl fx_13))]) [0, 1] rfl
  have hDc := hD.sub (ws' := [(h0, .inr (11, [.int 0, .int 0, .int 0, .int 0, .ref rq, .ref sbq])), (rq, .inl (ci, 119, .inl fx_13))]) [0, 1] (by decide) rfl
  have hKc := hK.sub (tys' := [(ci, .int)]) [0] rfl
  have hFc := va_free (wc := [(h0, .inr (11, [.int 0, .int 0, .int 0, .int 0, .ref rq, .ref sbq])), (rq, .inl (ci, 119, .inl fx_13))]) hD hS hA [0, 1] rfl
  refine va_calli (va_runV (As := [.int x_20]) (rest := [.int 0]) ⟨hx, hb, hml, hown, hts⟩ (c_ringOne l hl9 dC dI tE h0 rq sbq 0 ci fx_13 x_20 _ ) (cwV 1 hts (goodIn_app (goodIn_r _ [17, 18, 19, 6] (by rfl) (by decide +kernel)) gg_c_M_play_6_c_ringOne) rfl rfl rfl (by decide +kernel) ⟨Nat.le_of_ble_eq_true rfl, Nat.le_of_ble_eq_true rfl⟩) ⟨Pre0.blind, va_recv hKc hPc (ci := 11) (q0 := 0) rfl rfl, Pre0.give hPc hKc hDc hT hS hFc⟩ rfl rfl hl.1 rfl (lv_room (Nat.le_of_ble_eq_true rfl)) dX6_play_42 ⟨Nat.le_of_ble_eq_true rfl, Nat.le_of_ble_eq_true rfl⟩) hS (fun q _ h => hFc q h) hFc (fun r_22 u t H1 locs ht hvm hw hB hz1 hk1 hS => ?_)
  obtain ⟨fx_23, hP1, hK1, hD1⟩ := hB
  rw [ht] at hP1
  have hK1 := va_K.moved hvm.symm hK1
  obtain ⟨hP, hD⟩ := va_join (wr := []) (w1 := [(h0, .inr (11, [.int 0, .int 0, .int 0, .int 0, .ref rq, .ref sbq])), (rq, .inl (ci, 119, .inl fx_23))]) hP hD [0, 1] [] rfl rfl (by decide) (by decide) hk1 hFc hP1 hD1
  generalize H1 = H at hP hS ⊢
  have hP : va_P (dC, dI) vwCl [(h0, .inr (11, [.int 0, .int 0, .int 0, .int 0, .ref rq, .ref sbq])), (rq, .inl (ci, 119, .inl fx_23))] H := hP
  have hD : va_D A [(h0, .inr (11, [.int 0, .int 0, .int 0, .int 0, .ref rq, .ref sbq])), (rq, .inl (ci, 119, .inl fx_23))] := hD
  refine W.widen (k := 0) (n := 0) (by omega) (by omega) ?_
  obtain rfl : r_22 = 0 := hw
  refine lv_iadd hx hb dX6_play_45 ?_
  refine lv_topi (fun x_24 e_25 => ?_)
  obtain rfl : x_24 = 0 := e_25.trans (by decide)
  refine lv_istore_n (lv' := [(2, .int 0), (3, .int 4), (0, .ref h0), (1, .int p0)]) hx hb dX6_play_46 rfl hl (by decide) rfl (fun ls hl => ?_)
  refine lv_iinc (v := 3) (lv' := [(3, .int 3), (2, .int 0), (0, .ref h0), (1, .int p0)]) hx hb dX6_play_47 hl (k := 1) rfl (by decide) (by decide) rfl (fun ls hl => ?_)
  refine lv_goto (tgt := 27) hx hb dX6_play_50 (by decide) ?_
  refine lv_iload_n hx hb dX6_play_27 rfl (lv_at hl 0 rfl) ?_
  refine lv_if_lt (tgt := 53) hx hb dX6_play_28 (by decide) (fun c_26 => absurd c_26 (by decide)) (fun _ => ?_)
  refine lv_iload_n hx hb dX6_play_31 rfl (lv_at hl 1 rfl) ?_
  refine lv_aload_n hx hb dX6_play_32 rfl (lv_at hl 2 rfl) ?_
  refine lv_iload_n hx hb dX6_play_33 rfl (lv_at hl 3 rfl) ?_
  refine lv_iload_n hx hb dX6_play_34 rfl (lv_at hl 0 rfl) ?_
  have hPc := hP.sub (ws' := []) [] rfl
  have hDc := hD.sub (ws' := []) [] (by decide) rfl
  have hKc := hK.sub (tys' := []) [] rfl
  have hFc := va_free (wc := []) hD hS hA [] rfl
  refine va_calli (va_runS (As := [.int 3]) (rest := [.int p0, .ref h0, .int 0]) ⟨hx, hb, hml, hown, hts⟩ (c_power_3 l hl9 dC dI tE  _ ) (va_cwS 1 hts (goodIn_app (goodIn_r _ [10, 11, 6] (by rfl) (by decide +kernel)) gg_c_M_play_6_c_power_3) rfl rfl rfl (by decide +kernel) ⟨Nat.le_of_ble_eq_true rfl, Nat.le_of_ble_eq_true rfl⟩) ⟨Pre0.blind, Pre0.give hPc hKc hDc hT hS hFc⟩ rfl rfl hl.1 rfl (lv_room (Nat.le_of_ble_eq_true rfl)) dX6_play_35 ⟨Nat.le_of_ble_eq_true rfl, Nat.le_of_ble_eq_true rfl⟩) hS (fun q _ h => hFc q h) hFc (fun r_27 u t H1 locs ht hvm hw hB hz1 hk1 hS => ?_)
  obtain ⟨hP1, hK1, hD1⟩ := hB
  rw [ht] at hP1
  have hK1 := va_K.moved hvm.symm hK1
  obtain ⟨hP, hD⟩ := va_join (wr := [(h0, .inr (11, [.int 0, .int 0, .int 0, .int 0, .ref rq, .ref sbq])), (rq, .inl (ci, 119, .inl fx_23))]) (w1 := []) hP hD [] [0, 1] rfl rfl (by decide) (by decide) hk1 hFc hP1 hD1
  generalize H1 = H at hP hS ⊢
  have hP : va_P (dC, dI) vwCl [(h0, .inr (11, [.int 0, .int 0, .int 0, .int 0, .ref rq, .ref sbq])), (rq, .inl (ci, 119, .inl fx_23))] H := hP
  have hD : va_D A [(h0, .inr (11, [.int 0, .int 0, .int 0, .int 0, .ref rq, .ref sbq])), (rq, .inl (ci, 119, .inl fx_23))] := hD
  refine W.widen (k := 0) (n := 0) (by omega) (by omega) ?_
  obtain rfl : r_27 = 1000 := hw
  refine lv_idiv hx hb dX6_play_38 (by decide) ?_
  refine lv_topi (fun x_28 e_29 => ?_)
  refine lv_bipush (v := 10) hx hb dX6_play_39 (by decide) ?_
  refine lv_irem hx hb dX6_play_41 (by decide) ?_
  refine lv_topi (fun x_30 e_31 => ?_)
  have hPc := hP.sub (ws' := [(h0, .inr (11, [.int 0, .int 0, .int 0, .int 0, .ref rq, .ref sbq])), (rq, .inl (ci, 119, .inl fx_23))]) [0, 1] rfl
  have hDc := hD.sub (ws' := [(h0, .inr (11, [.int 0, .int 0, .int 0, .int 0, .ref rq, .ref sbq])), (rq, .inl (ci, 119, .inl fx_23))]) [0, 1] (by decide) rfl
  have hKc := hK.sub (tys' := [(ci, .int)]) [0] rfl
  have hFc := va_free (wc := [(h0, .inr (11, [.int 0, .int 0, .int 0, .int 0, .ref rq, .ref sbq])), (rq, .inl (ci, 119, .inl fx_23))]) hD hS hA [0, 1] rfl
  refine va_calli (va_runV (As := [.int x_30]) (rest := [.int 0]) ⟨hx, hb, hml, hown, hts⟩ (c_ringOne l hl9 dC dI tE h0 rq sbq 0 ci fx_23 x_30 _ ) (cwV 1 hts (goodIn_app (goodIn_r _ [17, 18, 19, 6] (by rfl) (by decide +kernel)) gg_c_M_play_6_c_ringOne) rfl rfl rfl (by decide +kernel) ⟨Nat.le_of_ble_eq_true rfl, Nat.le_of_ble_eq_true rfl⟩) ⟨Pre0.blind, va_recv hKc hPc (ci := 11) (q0 := 0) rfl rfl, Pre0.give hPc hKc hDc hT hS hFc⟩ rfl rfl hl.1 rfl (lv_room (Nat.le_of_ble_eq_true rfl)) dX6_play_42 ⟨Nat.le_of_ble_eq_true rfl, Nat.le_of_ble_eq_true rfl⟩) hS (fun q _ h => hFc q h) hFc (fun r_32 u t H1 locs ht hvm hw hB hz1 hk1 hS => ?_)
  obtain ⟨fx_33, hP1, hK1, hD1⟩ := hB
  rw [ht] at hP1
  have hK1 := va_K.moved hvm.symm hK1
  obtain ⟨hP, hD⟩ := va_join (wr := []) (w1 := [(h0, .inr (11, [.int 0, .int 0, .int 0, .int 0, .ref rq, .ref sbq])), (rq, .inl (ci, 119, .inl fx_33))]) hP hD [0, 1] [] rfl rfl (by decide) (by decide) hk1 hFc hP1 hD1
  generalize H1 = H at hP hS ⊢
  have hP : va_P (dC, dI) vwCl [(h0, .inr (11, [.int 0, .int 0, .int 0, .int 0, .ref rq, .ref sbq])), (rq, .inl (ci, 119, .inl fx_33))] H := hP
  have hD : va_D A [(h0, .inr (11, [.int 0, .int 0, .int 0, .int 0, .ref rq, .ref sbq])), (rq, .inl (ci, 119, .inl fx_33))] := hD
  refine W.widen (k := 0) (n := 0) (by omega) (by omega) ?_
  obtain rfl : r_32 = 0 := hw
  refine lv_iadd hx hb dX6_play_45 ?_
  refine lv_topi (fun x_34 e_35 => ?_)
  obtain rfl : x_34 = 0 := e_35.trans (by decide)
  refine lv_istore_n (lv' := [(2, .int 0), (3, .int 3), (0, .ref h0), (1, .int p0)]) hx hb dX6_play_46 rfl hl (by decide) rfl (fun ls hl => ?_)
  refine lv_iinc (v := 2) (lv' := [(3, .int 2), (2, .int 0), (0, .ref h0), (1, .int p0)]) hx hb dX6_play_47 hl (k := 1) rfl (by decide) (by decide) rfl (fun ls hl => ?_)
  refine lv_goto (tgt := 27) hx hb dX6_play_50 (by decide) ?_
  refine lv_iload_n hx hb dX6_play_27 rfl (lv_at hl 0 rfl) ?_
  refine lv_if_lt (tgt := 53) hx hb dX6_play_28 (by decide) (fun c_36 => absurd c_36 (by decide)) (fun _ => ?_)
  refine lv_iload_n hx hb dX6_play_31 rfl (lv_at hl 1 rfl) ?_
  refine lv_aload_n hx hb dX6_play_32 rfl (lv_at hl 2 rfl) ?_
  refine lv_iload_n hx hb dX6_play_33 rfl (lv_at hl 3 rfl) ?_
  refine lv_iload_n hx hb dX6_play_34 rfl (lv_at hl 0 rfl) ?_
  have hPc := hP.sub (ws' := []) [] rfl
  have hDc := hD.sub (ws' := []) [] (by decide) rfl
  have hKc := hK.sub (tys' := []) [] rfl
  have hFc := va_free (wc := []) hD hS hA [] rfl
  refine va_calli (va_runS (As := [.int 2]) (rest := [.int p0, .ref h0, .int 0]) ⟨hx, hb, hml, hown, hts⟩ (c_power_2 l hl9 dC dI tE  _ ) (va_cwS 1 hts (goodIn_app (goodIn_r _ [10, 11, 6] (by rfl) (by decide +kernel)) gg_c_M_play_6_c_power_2) rfl rfl rfl (by decide +kernel) ⟨Nat.le_of_ble_eq_true rfl, Nat.le_of_ble_eq_true rfl⟩) ⟨Pre0.blind, Pre0.give hPc hKc hDc hT hS hFc⟩ rfl rfl hl.1 rfl (lv_room (Nat.le_of_ble_eq_true rfl)) dX6_play_35 ⟨Nat.le_of_ble_eq_true rfl, Nat.le_of_ble_eq_true rfl⟩) hS (fun q _ h => hFc q h) hFc (fun r_37 u t H1 locs ht hvm hw hB hz1 hk1 hS => ?_)
  obtain ⟨hP1, hK1, hD1⟩ := hB
  rw [ht] at hP1
  have hK1 := va_K.moved hvm.symm hK1
  obtain ⟨hP, hD⟩ := va_join (wr := [(h0, .inr (11, [.int 0, .int 0, .int 0, .int 0, .ref rq, .ref sbq])), (rq, .inl (ci, 119, .inl fx_33))]) (w1 := []) hP hD [] [0, 1] rfl rfl (by decide) (by decide) hk1 hFc hP1 hD1
  generalize H1 = H at hP hS ⊢
  have hP : va_P (dC, dI) vwCl [(h0, .inr (11, [.int 0, .int 0, .int 0, .int 0, .ref rq, .ref sbq])), (rq, .inl (ci, 119, .inl fx_33))] H := hP
  have hD : va_D A [(h0, .inr (11, [.int 0, .int 0, .int 0, .int 0, .ref rq, .ref sbq])), (rq, .inl (ci, 119, .inl fx_33))] := hD
  refine W.widen (k := 0) (n := 0) (by omega) (by omega) ?_
  obtain rfl : r_37 = 100 := hw
  refine lv_idiv hx hb dX6_play_38 (by decide) ?_
  refine lv_topi (fun x_38 e_39 => ?_)
  refine lv_bipush (v := 10) hx hb dX6_play_39 (by decide) ?_
  refine lv_irem hx hb dX6_play_41 (by decide) ?_
  refine lv_topi (fun x_40 e_41 => ?_)
  have hPc := hP.sub (ws' := [(h0, .inr (11, [.int 0, .int 0, .int 0, .int 0, .ref rq, .ref sbq])), (rq, .inl (ci, 119, .inl fx_33))]) [0, 1] rfl
  have hDc := hD.sub (ws' := [(h0, .inr (11, [.int 0, .int 0, .int 0, .int 0, .ref rq, .ref sbq])), (rq, .inl (ci, 119, .inl fx_33))]) [0, 1] (by decide) rfl
  have hKc := hK.sub (tys' := [(ci, .int)]) [0] rfl
  have hFc := va_free (wc := [(h0, .inr (11, [.int 0, .int 0, .int 0, .int 0, .ref rq, .ref sbq])), (rq, .inl (ci, 119, .inl fx_33))]) hD hS hA [0, 1] rfl
  refine va_calli (va_runV (As := [.int x_40]) (rest := [.int 0]) ⟨hx, hb, hml, hown, hts⟩ (c_ringOne l hl9 dC dI tE h0 rq sbq 0 ci fx_33 x_40 _ ) (cwV 1 hts (goodIn_app (goodIn_r _ [17, 18, 19, 6] (by rfl) (by decide +kernel)) gg_c_M_play_6_c_ringOne) rfl rfl rfl (by decide +kernel) ⟨Nat.le_of_ble_eq_true rfl, Nat.le_of_ble_eq_true rfl⟩) ⟨Pre0.blind, va_recv hKc hPc (ci := 11) (q0 := 0) rfl rfl, Pre0.give hPc hKc hDc hT hS hFc⟩ rfl rfl hl.1 rfl (lv_room (Nat.le_of_ble_eq_true rfl)) dX6_play_42 ⟨Nat.le_of_ble_eq_true rfl, Nat.le_of_ble_eq_true rfl⟩) hS (fun q _ h => hFc q h) hFc (fun r_42 u t H1 locs ht hvm hw hB hz1 hk1 hS => ?_)
  obtain ⟨fx_43, hP1, hK1, hD1⟩ := hB
  rw [ht] at hP1
  have hK1 := va_K.moved hvm.symm hK1
  obtain ⟨hP, hD⟩ := va_join (wr := []) (w1 := [(h0, .inr (11, [.int 0, .int 0, .int 0, .int 0, .ref rq, .ref sbq])), (rq, .inl (ci, 119, .inl fx_43))]) hP hD [0, 1] [] rfl rfl (by decide) (by decide) hk1 hFc hP1 hD1
  generalize H1 = H at hP hS ⊢
  have hP : va_P (dC, dI) vwCl [(h0, .inr (11, [.int 0, .int 0, .int 0, .int 0, .ref rq, .ref sbq])), (rq, .inl (ci, 119, .inl fx_43))] H := hP
  have hD : va_D A [(h0, .inr (11, [.int 0, .int 0, .int 0, .int 0, .ref rq, .ref sbq])), (rq, .inl (ci, 119, .inl fx_43))] := hD
  refine W.widen (k := 0) (n := 0) (by omega) (by omega) ?_
  obtain rfl : r_42 = 0 := hw
  refine lv_iadd hx hb dX6_play_45 ?_
  refine lv_topi (fun x_44 e_45 => ?_)
  obtain rfl : x_44 = 0 := e_45.trans (by decide)
  refine lv_istore_n (lv' := [(2, .int 0), (3, .int 2), (0, .ref h0), (1, .int p0)]) hx hb dX6_play_46 rfl hl (by decide) rfl (fun ls hl => ?_)
  refine lv_iinc (v := 1) (lv' := [(3, .int 1), (2, .int 0), (0, .ref h0), (1, .int p0)]) hx hb dX6_play_47 hl (k := 1) rfl (by decide) (by decide) rfl (fun ls hl => ?_)
  refine lv_goto (tgt := 27) hx hb dX6_play_50 (by decide) ?_
  refine lv_iload_n hx hb dX6_play_27 rfl (lv_at hl 0 rfl) ?_
  refine lv_if_lt (tgt := 53) hx hb dX6_play_28 (by decide) (fun c_46 => absurd c_46 (by decide)) (fun _ => ?_)
  refine lv_iload_n hx hb dX6_play_31 rfl (lv_at hl 1 rfl) ?_
  refine lv_aload_n hx hb dX6_play_32 rfl (lv_at hl 2 rfl) ?_
  refine lv_iload_n hx hb dX6_play_33 rfl (lv_at hl 3 rfl) ?_
  refine lv_iload_n hx hb dX6_play_34 rfl (lv_at hl 0 rfl) ?_
  have hPc := hP.sub (ws' := []) [] rfl
  have hDc := hD.sub (ws' := []) [] (by decide) rfl
  have hKc := hK.sub (tys' := []) [] rfl
  have hFc := va_free (wc := []) hD hS hA [] rfl
  refine va_calli (va_runS (As := [.int 1]) (rest := [.int p0, .ref h0, .int 0]) ⟨hx, hb, hml, hown, hts⟩ (c_power_1 l hl9 dC dI tE  _ ) (va_cwS 1 hts (goodIn_app (goodIn_r _ [10, 11, 6] (by rfl) (by decide +kernel)) gg_c_M_play_6_c_power_1) rfl rfl rfl (by decide +kernel) ⟨Nat.le_of_ble_eq_true rfl, Nat.le_of_ble_eq_true rfl⟩) ⟨Pre0.blind, Pre0.give hPc hKc hDc hT hS hFc⟩ rfl rfl hl.1 rfl (lv_room (Nat.le_of_ble_eq_true rfl)) dX6_play_35 ⟨Nat.le_of_ble_eq_true rfl, Nat.le_of_ble_eq_true rfl⟩) hS (fun q _ h => hFc q h) hFc (fun r_47 u t H1 locs ht hvm hw hB hz1 hk1 hS => ?_)
  obtain ⟨hP1, hK1, hD1⟩ := hB
  rw [ht] at hP1
  have hK1 := va_K.moved hvm.symm hK1
  obtain ⟨hP, hD⟩ := va_join (wr := [(h0, .inr (11, [.int 0, .int 0, .int 0, .int 0, .ref rq, .ref sbq])), (rq, .inl (ci, 119, .inl fx_43))]) (w1 := []) hP hD [] [0, 1] rfl rfl (by decide) (by decide) hk1 hFc hP1 hD1
  generalize H1 = H at hP hS ⊢
  have hP : va_P (dC, dI) vwCl [(h0, .inr (11, [.int 0, .int 0, .int 0, .int 0, .ref rq, .ref sbq])), (rq, .inl (ci, 119, .inl fx_43))] H := hP
  have hD : va_D A [(h0, .inr (11, [.int 0, .int 0, .int 0, .int 0, .ref rq, .ref sbq])), (rq, .inl (ci, 119, .inl fx_43))] := hD
  refine W.widen (k := 0) (n := 0) (by omega) (by omega) ?_
  obtain rfl : r_47 = 10 := hw
  refine lv_idiv hx hb dX6_play_38 (by decide) ?_
  refine lv_topi (fun x_48 e_49 => ?_)
  refine lv_bipush (v := 10) hx hb dX6_play_39 (by decide) ?_
  refine lv_irem hx hb dX6_play_41 (by decide) ?_
  refine lv_topi (fun x_50 e_51 => ?_)
  have hPc := hP.sub (ws' := [(h0, .inr (11, [.int 0, .int 0, .int 0, .int 0, .ref rq, .ref sbq])), (rq, .inl (ci, 119, .inl fx_43))]) [0, 1] rfl
  have hDc := hD.sub (ws' := [(h0, .inr (11, [.int 0, .int 0, .int 0, .int 0, .ref rq, .ref sbq])), (rq, .inl (ci, 119, .inl fx_43))]) [0, 1] (by decide) rfl
  have hKc := hK.sub (tys' := [(ci, .int)]) [0] rfl
  have hFc := va_free (wc := [(h0, .inr (11, [.int 0, .int 0, .int 0, .int 0, .ref rq, .ref sbq])), (rq, .inl (ci, 119, .inl fx_43))]) hD hS hA [0, 1] rfl
  refine va_calli (va_runV (As := [.int x_50]) (rest := [.int 0]) ⟨hx, hb, hml, hown, hts⟩ (c_ringOne l hl9 dC dI tE h0 rq sbq 0 ci fx_43 x_50 _ ) (cwV 1 hts (goodIn_app (goodIn_r _ [17, 18, 19, 6] (by rfl) (by decide +kernel)) gg_c_M_play_6_c_ringOne) rfl rfl rfl (by decide +kernel) ⟨Nat.le_of_ble_eq_true rfl, Nat.le_of_ble_eq_true rfl⟩) ⟨Pre0.blind, va_recv hKc hPc (ci := 11) (q0 := 0) rfl rfl, Pre0.give hPc hKc hDc hT hS hFc⟩ rfl rfl hl.1 rfl (lv_room (Nat.le_of_ble_eq_true rfl)) dX6_play_42 ⟨Nat.le_of_ble_eq_true rfl, Nat.le_of_ble_eq_true rfl⟩) hS (fun q _ h => hFc q h) hFc (fun r_52 u t H1 locs ht hvm hw hB hz1 hk1 hS => ?_)
  obtain ⟨fx_53, hP1, hK1, hD1⟩ := hB
  rw [ht] at hP1
  have hK1 := va_K.moved hvm.symm hK1
  obtain ⟨hP, hD⟩ := va_join (wr := []) (w1 := [(h0, .inr (11, [.int 0, .int 0, .int 0, .int 0, .ref rq, .ref sbq])), (rq, .inl (ci, 119, .inl fx_53))]) hP hD [0, 1] [] rfl rfl (by decide) (by decide) hk1 hFc hP1 hD1
  generalize H1 = H at hP hS ⊢
  have hP : va_P (dC, dI) vwCl [(h0, .inr (11, [.int 0, .int 0, .int 0, .int 0, .ref rq, .ref sbq])), (rq, .inl (ci, 119, .inl fx_53))] H := hP
  have hD : va_D A [(h0, .inr (11, [.int 0, .int 0, .int 0, .int 0, .ref rq, .ref sbq])), (rq, .inl (ci, 119, .inl fx_53))] := hD
  refine W.widen (k := 0) (n := 0) (by omega) (by omega) ?_
  obtain rfl : r_52 = 0 := hw
  refine lv_iadd hx hb dX6_play_45 ?_
  refine lv_topi (fun x_54 e_55 => ?_)
  obtain rfl : x_54 = 0 := e_55.trans (by decide)
  refine lv_istore_n (lv' := [(2, .int 0), (3, .int 1), (0, .ref h0), (1, .int p0)]) hx hb dX6_play_46 rfl hl (by decide) rfl (fun ls hl => ?_)
  refine lv_iinc (v := 0) (lv' := [(3, .int 0), (2, .int 0), (0, .ref h0), (1, .int p0)]) hx hb dX6_play_47 hl (k := 1) rfl (by decide) (by decide) rfl (fun ls hl => ?_)
  refine lv_goto (tgt := 27) hx hb dX6_play_50 (by decide) ?_
  refine lv_iload_n hx hb dX6_play_27 rfl (lv_at hl 0 rfl) ?_
  refine lv_if_lt (tgt := 53) hx hb dX6_play_28 (by decide) (fun c_56 => absurd c_56 (by decide)) (fun _ => ?_)
  refine lv_iload_n hx hb dX6_play_31 rfl (lv_at hl 1 rfl) ?_
  refine lv_aload_n hx hb dX6_play_32 rfl (lv_at hl 2 rfl) ?_
  refine lv_iload_n hx hb dX6_play_33 rfl (lv_at hl 3 rfl) ?_
  refine lv_iload_n hx hb dX6_play_34 rfl (lv_at hl 0 rfl) ?_
  have hPc := hP.sub (ws' := []) [] rfl
  have hDc := hD.sub (ws' := []) [] (by decide) rfl
  have hKc := hK.sub (tys' := []) [] rfl
  have hFc := va_free (wc := []) hD hS hA [] rfl
  refine va_calli (va_runS (As := [.int 0]) (rest := [.int p0, .ref h0, .int 0]) ⟨hx, hb, hml, hown, hts⟩ (c_power_0 l hl9 dC dI tE  _ ) (va_cwS 1 hts (goodIn_app (goodIn_r _ [10, 11, 6] (by rfl) (by decide +kernel)) gg_c_M_play_6_c_power_0) rfl rfl rfl (by decide +kernel) ⟨Nat.le_of_ble_eq_true rfl, Nat.le_of_ble_eq_true rfl⟩) ⟨Pre0.blind, Pre0.give hPc hKc hDc hT hS hFc⟩ rfl rfl hl.1 rfl (lv_room (Nat.le_of_ble_eq_true rfl)) dX6_play_35 ⟨Nat.le_of_ble_eq_true rfl, Nat.le_of_ble_eq_true rfl⟩) hS (fun q _ h => hFc q h) hFc (fun r_57 u t H1 locs ht hvm hw hB hz1 hk1 hS => ?_)
  obtain ⟨hP1, hK1, hD1⟩ := hB
  rw [ht] at hP1
  have hK1 := va_K.moved hvm.symm hK1
  obtain ⟨hP, hD⟩ := va_join (wr := [(h0, .inr (11, [.int 0, .int 0, .int 0, .int 0, .ref rq, .ref sbq])), (rq, .inl (ci, 119, .inl fx_53))]) (w1 := []) hP hD [] [0, 1] rfl rfl (by decide) (by decide) hk1 hFc hP1 hD1
  generalize H1 = H at hP hS ⊢
  have hP : va_P (dC, dI) vwCl [(h0, .inr (11, [.int 0, .int 0, .int 0, .int 0, .ref rq, .ref sbq])), (rq, .inl (ci, 119, .inl fx_53))] H := hP
  have hD : va_D A [(h0, .inr (11, [.int 0, .int 0, .int 0, .int 0, .ref rq, .ref sbq])), (rq, .inl (ci, 119, .inl fx_53))] := hD
  refine W.widen (k := 0) (n := 0) (by omega) (by omega) ?_
  obtain rfl : r_57 = 1 := hw
  refine lv_idiv hx hb dX6_play_38 (by decide) ?_
  refine lv_topi (fun x_58 e_59 => ?_)
  refine lv_bipush (v := 10) hx hb dX6_play_39 (by decide) ?_
  refine lv_irem hx hb dX6_play_41 (by decide) ?_
  refine lv_topi (fun x_60 e_61 => ?_)
  have hPc := hP.sub (ws' := [(h0, .inr (11, [.int 0, .int 0, .int 0, .int 0, .ref rq, .ref sbq])), (rq, .inl (ci, 119, .inl fx_53))]) [0, 1] rfl
  have hDc := hD.sub (ws' := [(h0, .inr (11, [.int 0, .int 0, .int 0, .int 0, .ref rq, .ref sbq])), (rq, .inl (ci, 119, .inl fx_53))]) [0, 1] (by decide) rfl
  have hKc := hK.sub (tys' := [(ci, .int)]) [0] rfl
  have hFc := va_free (wc := [(h0, .inr (11, [.int 0, .int 0, .int 0, .int 0, .ref rq, .ref sbq])), (rq, .inl (ci, 119, .inl fx_53))]) hD hS hA [0, 1] rfl
  refine va_calli (va_runV (As := [.int x_60]) (rest := [.int 0]) ⟨hx, hb, hml, hown, hts⟩ (c_ringOne l hl9 dC dI tE h0 rq sbq 0 ci fx_53 x_60 _ ) (cwV 1 hts (goodIn_app (goodIn_r _ [17, 18, 19, 6] (by rfl) (by decide +kernel)) gg_c_M_play_6_c_ringOne) rfl rfl rfl (by decide +kernel) ⟨Nat.le_of_ble_eq_true rfl, Nat.le_of_ble_eq_true rfl⟩) ⟨Pre0.blind, va_recv hKc hPc (ci := 11) (q0 := 0) rfl rfl, Pre0.give hPc hKc hDc hT hS hFc⟩ rfl rfl hl.1 rfl (lv_room (Nat.le_of_ble_eq_true rfl)) dX6_play_42 ⟨Nat.le_of_ble_eq_true rfl, Nat.le_of_ble_eq_true rfl⟩) hS (fun q _ h => hFc q h) hFc (fun r_62 u t H1 locs ht hvm hw hB hz1 hk1 hS => ?_)
  obtain ⟨fx_63, hP1, hK1, hD1⟩ := hB
  rw [ht] at hP1
  have hK1 := va_K.moved hvm.symm hK1
  obtain ⟨hP, hD⟩ := va_join (wr := []) (w1 := [(h0, .inr (11, [.int 0, .int 0, .int 0, .int 0, .ref rq, .ref sbq])), (rq, .inl (ci, 119, .inl fx_63))]) hP hD [0, 1] [] rfl rfl (by decide) (by decide) hk1 hFc hP1 hD1
  generalize H1 = H at hP hS ⊢
  have hP : va_P (dC, dI) vwCl [(h0, .inr (11, [.int 0, .int 0, .int 0, .int 0, .ref rq, .ref sbq])), (rq, .inl (ci, 119, .inl fx_63))] H := hP
  have hD : va_D A [(h0, .inr (11, [.int 0, .int 0, .int 0, .int 0, .ref rq, .ref sbq])), (rq, .inl (ci, 119, .inl fx_63))] := hD
  refine W.widen (k := 0) (n := 0) (by omega) (by omega) ?_
  obtain rfl : r_62 = 0 := hw
  refine lv_iadd hx hb dX6_play_45 ?_
  refine lv_topi (fun x_64 e_65 => ?_)
  obtain rfl : x_64 = 0 := e_65.trans (by decide)
  refine lv_istore_n (lv' := [(2, .int 0), (3, .int 0), (0, .ref h0), (1, .int p0)]) hx hb dX6_play_46 rfl hl (by decide) rfl (fun ls hl => ?_)
  refine lv_iinc (v := (-1)) (lv' := [(3, .int (-1)), (2, .int 0), (0, .ref h0), (1, .int p0)]) hx hb dX6_play_47 hl (k := 1) rfl (by decide) (by decide) rfl (fun ls hl => ?_)
  refine lv_goto (tgt := 27) hx hb dX6_play_50 (by decide) ?_
  refine lv_iload_n hx hb dX6_play_27 rfl (lv_at hl 0 rfl) ?_
  refine lv_if_lt (tgt := 53) hx hb dX6_play_28 (by decide) (fun _ => ?_) (fun c_66 => absurd (by decide) c_66)
  refine lv_iload_n hx hb dX6_play_53 rfl (lv_at hl 1 rfl) ?_
  have hP9 := hP.sub (ws' := [(h0, .inr (11, [.int 0, .int 0, .int 0, .int 0, .ref rq, .ref sbq])), (rq, .inl (ci, 119, .inl fx_63))]) [0, 1] rfl
  have hD9 := hD.sub (ws' := [(h0, .inr (11, [.int 0, .int 0, .int 0, .int 0, .ref rq, .ref sbq])), (rq, .inl (ci, 119, .inl fx_63))]) [0, 1] (by decide) rfl
  have hK9 := hK.sub (tys' := [(ci, .int)]) [0] rfl
  exact W.iret (v := 0) hx hb hr (fun t ht hW => ⟨⟨0, (), rfl, rfl, fx_63, by rw [ht]; exact hP9, va_K.moved hW.alike hK9, hD9⟩, hS.F ht⟩) hS.2.2 dX6_play_54
def v_c_M_play_0 : List Cond := .code yX6_play cX6_play 4 (some .int) :: ([Cond.fieldLink RX6 20 "HotelOfBellsModel" "thrown" "I", Cond.code yX6_digits cX6_digits 3 (some .int), Cond.code yX6_isIn cX6_isIn 3 (some .boolean), Cond.methodLink RX6 27 yX6_isIn, Cond.static yX6_isIn, Cond.initialized RX6, Cond.methodLink RX6 53 yX6_digits, Cond.static yX6_digits, Cond.code yX6_fail cX6_fail 2 (some .int), Cond.methodLink RX6 45 yX6_fail, Cond.instanceMethod yX6_fail, Cond.selects RX6 yX6_fail yX6_fail] ++ (wsX60 ++ []))
theorem u_c_M_play_0_X6 : ∀ w ∈ wsX60, w ∈ v_c_M_play_0 := fun _ h => List.mem_cons_of_mem _ (List.mem_append_right _ (List.mem_append_left _ h))
theorem gg_c_M_play_0_c_digits : GoodIn v_c_M_play_0 v_c_digits := goodIn_r _ [2, 3, 4, 5, 6] (by rfl) (by decide +kernel)
theorem gg_c_M_play_0_c_M_fail : GoodIn v_c_M_play_0 v_c_M_fail := goodIn_r _ [9, 1, 13, 14, 15, 16, 17, 18] (by rfl) (by decide +kernel)
set_option maxHeartbeats 4000000 in
set_option maxRecDepth 100000 in
theorem c_M_play_0 (l : Launch) (hl9 : l.stackTraces = false) (dC : Nat → ClassId) (dI : Nat → Nat → Nat) (tE : Nat) (h0 : Nat) (rq : Nat) (sbq : Nat) (th : Int32) (p0 : Int32) (sz : Nat) (hd0 : dgt p0 = 0) : Met l yX6_play v_c_M_play_0 ({ frames := 2, cells := 0, slots := 0, locals := 44 }) (va_Pc [.ref h0, .int p0] (Pre0 dC dI tE sz [] [(h0, .inr (11, [.int th, .int 0, .int 0, .int 0, .ref rq, .ref sbq]))])) (va_Qi (fun (r : Int32) (_ : Unit) => r = 0) (fun _ t => Pst dC dI [] (va_A [(h0, .inr (11, [.int th, .int 0, .int 0, .int 0, .ref rq, .ref sbq]))] sz) [(h0, .inr (11, [.int 1, .int 0, .int 0, .int 0, .ref rq, .ref sbq]))] t) (va_A [(h0, .inr (11, [.int th, .int 0, .int 0, .int 0, .ref rq, .ref sbq]))] sz)) 0 0 (va_A [(h0, .inr (11, [.int th, .int 0, .int 0, .int 0, .ref rq, .ref sbq]))] sz) := by
  refine Met.ofW (cc := cX6_play) (maxL := 4) (ret := (some .int)) (by decide) rfl ?_
  intro p e s m args below meth c s₁ B hml hv
  obtain ⟨rfl, hsz, hP, hK, hD0, hT⟩ := hv
  have hx := B.exec
  have hb := B.bytes
  have hr := B.returns
  have hts := atoms_spec (ws := v_c_M_play_0) B.pre
  have hown : s.vm.findClass RX6 = some m.cls := findClass_of_methodNamed B.named
  have hlocks := B.notSynchronized
  subst hsz
  have hD := hD0.self (sz := s.heap.size)
  generalize hAe : va_A [(h0, .inr (11, [.int th, .int 0, .int 0, .int 0, .ref rq, .ref sbq]))] s.heap.size = A at hD hT ⊢
  have hA : ∀ q : Nat, s.heap.size ≤ q → A q := fun q h => by rw [← hAe]; exact Or.inr h
  have hS : va_S A s.heap s.heap [] := va_S.rf
  have hl := lv_entry ([.ref h0, .int p0]) (n := 4) (Nat.le_of_ble_eq_true rfl)
  rw [lg_entry_eq]
  generalize (lg_sl ([.ref h0, .int p0]) ++ List.replicate (4 - (lg_sl ([.ref h0, .int p0])).length) Slot.unset).toArray = ls at hl ⊢
  have hl : lv_has ls 4 [(0, .ref h0), (1, .int p0)] := hl
  refine lv_aload_n hx hb dX6_play_0 rfl (lv_at hl 0 rfl) ?_
  refine lv_iconst (v := 0) hx hb dX6_play_1 (by decide) ?_
  refine va_put (D := (dC, dI)) (ci := 11) (v := .int 0) (ty := .int) (C := RX6) (T := TX6) (N := 6) hx hb hts u_c_M_play_0_X6 tyX6 tyX6_ok nmX6 hown hK hP hD hS 0 rfl rfl 0 (by decide) (hts (.fieldLink RX6 20 "HotelOfBellsModel" "thrown" "I") (List.mem_of_getElem? (i := 1) rfl)) (fun _ h9 => h9) rfl (by decide +kernel) rfl rfl (Nat.le_of_ble_eq_true rfl) dX6_play_2 (fun H locs hP hD hS => ?_)
  have hP : va_P (dC, dI) vwCl [(h0, .inr (11, [.int 0, .int 0, .int 0, .int 0, .ref rq, .ref sbq]))] H := hP
  have hD : va_D A [(h0, .inr (11, [.int 0, .int 0, .int 0, .int 0, .ref rq, .ref sbq]))] := hD
  refine lv_iload_n hx hb dX6_play_5 rfl (lv_at hl 1 rfl) ?_
  have hPc := hP.sub (ws' := []) [] rfl
  have hDc := hD.sub (ws' := []) [] (by decide) rfl
  have hKc := hK.sub (tys' := []) [] rfl
  have hFc := va_free (wc := []) hD hS hA [] rfl
  refine va_calli (va_runS (As := [.int p0]) (rest := []) ⟨hx, hb, hml, hown, hts⟩ (c_digits l hl9 dC dI tE p0 _ ) (va_cwS 1 hts (goodIn_app (goodIn_r _ [7, 8, 6] (by rfl) (by decide +kernel)) gg_c_M_play_0_c_digits) rfl rfl rfl (by decide +kernel) ⟨Nat.le_of_ble_eq_true rfl, Nat.le_of_ble_eq_true rfl⟩) ⟨Pre0.blind, Pre0.give hPc hKc hDc hT hS hFc⟩ rfl rfl hl.1 rfl (lv_room (Nat.le_of_ble_eq_true rfl)) dX6_play_6 ⟨Nat.le_of_ble_eq_true rfl, Nat.le_of_ble_eq_true rfl⟩) hS (fun q _ h => hFc q h) hFc (fun r_1 u t H1 locs ht hvm hw hB hz1 hk1 hS => ?_)
  obtain ⟨hP1, hK1, hD1⟩ := hB
  rw [ht] at hP1
  have hK1 := va_K.moved hvm.symm hK1
  obtain ⟨hP, hD⟩ := va_join (wr := [(h0, .inr (11, [.int 0, .int 0, .int 0, .int 0, .ref rq, .ref sbq]))]) (w1 := []) hP hD [] [0] rfl rfl (by decide) (by decide) hk1 hFc hP1 hD1
  generalize H1 = H at hP hS ⊢
  have hP : va_P (dC, dI) vwCl [(h0, .inr (11, [.int 0, .int 0, .int 0, .int 0, .ref rq, .ref sbq]))] H := hP
  have hD : va_D A [(h0, .inr (11, [.int 0, .int 0, .int 0, .int 0, .ref rq, .ref sbq]))] := hD
  refine W.widen (k := 0) (n := 0) (by omega) (by omega) ?_
  obtain rfl : r_1 = 0 := hw.trans hd0
  refine lv_if_ne (tgt := 18) hx hb dX6_play_9 (by decide) (fun c_2 => absurd (by decide) c_2) (fun _ => ?_)
  refine lv_aload_n hx hb dX6_play_12 rfl (lv_at hl 0 rfl) ?_
  refine lv_iconst (v := 1) hx hb dX6_play_13 (by decide) ?_
  have hPc := hP.sub (ws' := [(h0, .inr (11, [.int 0, .int 0, .int 0, .int 0, .ref rq, .ref sbq]))]) [0] rfl
  have hDc := hD.sub (ws' := [(h0, .inr (11, [.int 0, .int 0, .int 0, .int 0, .ref rq, .ref sbq]))]) [0] (by decide) rfl
  have hKc := hK.sub (tys' := []) [] rfl
  have hFc := va_free (wc := [(h0, .inr (11, [.int 0, .int 0, .int 0, .int 0, .ref rq, .ref sbq]))]) hD hS hA [0] rfl
  refine va_calli (va_runV (As := [.int 1]) (rest := []) ⟨hx, hb, hml, hown, hts⟩ (c_M_fail l hl9 dC dI tE h0 rq sbq 0 0 0 0 1 _ ) (cwV 1 hts (goodIn_app (goodIn_r _ [10, 11, 12, 6] (by rfl) (by decide +kernel)) gg_c_M_play_0_c_M_fail) rfl rfl rfl (by decide +kernel) ⟨Nat.le_of_ble_eq_true rfl, Nat.le_of_ble_eq_true rfl⟩) ⟨Pre0.blind, va_recv hKc hPc (ci := 11) (q0 := 0) rfl rfl, Pre0.give hPc hKc hDc hT hS hFc⟩ rfl rfl hl.1 rfl (lv_room (Nat.le_of_ble_eq_true rfl)) dX6_play_14 ⟨Nat.le_of_ble_eq_true rfl, Nat.le_of_ble_eq_true rfl⟩) hS (fun q _ h => hFc q h) hFc (fun r_3 u t H1 locs ht hvm hw hB hz1 hk1 hS => ?_)
  obtain ⟨hP1, hK1, hD1⟩ := hB
  rw [ht] at hP1
  have hK1 := va_K.moved hvm.symm hK1
  obtain ⟨hP, hD⟩ := va_join (wr := []) (w1 := [(h0, .inr (11, [.int 1, .int 0, .int 0, .int 0, .ref rq, .ref sbq]))]) hP hD [0] [] rfl rfl (by decide) (by decide) hk1 hFc hP1 hD1
  generalize H1 = H at hP hS ⊢
  have hP : va_P (dC, dI) vwCl [(h0, .inr (11, [.int 1, .int 0, .int 0, .int 0, .ref rq, .ref sbq]))] H := hP
  have hD : va_D A [(h0, .inr (11, [.int 1, .int 0, .int 0, .int 0, .ref rq, .ref sbq]))] := hD
  refine W.widen (k := 0) (n := 0) (by omega) (by omega) ?_
  obtain rfl : r_3 = 0 := hw
  have hP9 := hP.sub (ws' := [(h0, .inr (11, [.int 1, .int 0, .int 0, .int 0, .ref rq, .ref sbq]))]) [0] rfl
  have hD9 := hD.sub (ws' := [(h0, .inr (11, [.int 1, .int 0, .int 0, .int 0, .ref rq, .ref sbq]))]) [0] (by decide) rfl
  have hK9 := hK.sub (tys' := []) [] rfl
  exact W.iret (v := 0) hx hb hr (fun t ht hW => ⟨⟨0, (), rfl, rfl, by rw [ht]; exact hP9, va_K.moved hW.alike hK9, hD9⟩, hS.F ht⟩) hS.2.2 dX6_play_17
