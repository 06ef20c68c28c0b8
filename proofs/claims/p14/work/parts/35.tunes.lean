theorem dX6_digits_0 : decode cX6_digits 0 = .ok (.iconst 0, 1) := by decide +kernel
theorem dX6_digits_1 : decode cX6_digits 1 = .ok (.istore_n 1, 1) := by decide +kernel
theorem dX6_digits_11 : decode cX6_digits 11 = .ok (.irem, 1) := by decide +kernel
theorem dX6_digits_12 : decode cX6_digits 12 = .ok (.iconst 1, 1) := by decide +kernel
theorem dX6_digits_13 : decode cX6_digits 13 = .ok (.iconst 4, 1) := by decide +kernel
theorem dX6_digits_14 : decode cX6_digits 14 = .ok (.invokestatic 27, 3) := by decide +kernel
theorem dX6_digits_17 : decode cX6_digits 17 = .ok (.ifCond .ne 5, 3) := by decide +kernel
theorem dX6_digits_2 : decode cX6_digits 2 = .ok (.iload_n 0, 1) := by decide +kernel
theorem dX6_digits_20 : decode cX6_digits 20 = .ok (.iconst 0, 1) := by decide +kernel
theorem dX6_digits_21 : decode cX6_digits 21 = .ok (.ireturn, 1) := by decide +kernel
theorem dX6_digits_22 : decode cX6_digits 22 = .ok (.iinc 1 1, 3) := by decide +kernel
theorem dX6_digits_25 : decode cX6_digits 25 = .ok (.iload_n 2, 1) := by decide +kernel
theorem dX6_digits_26 : decode cX6_digits 26 = .ok (.bipush 10, 2) := by decide +kernel
theorem dX6_digits_28 : decode cX6_digits 28 = .ok (.idiv, 1) := by decide +kernel
theorem dX6_digits_29 : decode cX6_digits 29 = .ok (.istore_n 2, 1) := by decide +kernel
theorem dX6_digits_3 : decode cX6_digits 3 = .ok (.istore_n 2, 1) := by decide +kernel
theorem dX6_digits_30 : decode cX6_digits 30 = .ok (.goto (-26), 3) := by decide +kernel
theorem dX6_digits_33 : decode cX6_digits 33 = .ok (.iload_n 1, 1) := by decide +kernel
theorem dX6_digits_34 : decode cX6_digits 34 = .ok (.bipush 6, 2) := by decide +kernel
theorem dX6_digits_36 : decode cX6_digits 36 = .ok (.if_icmp .le 7, 3) := by decide +kernel
theorem dX6_digits_39 : decode cX6_digits 39 = .ok (.iconst 0, 1) := by decide +kernel
theorem dX6_digits_4 : decode cX6_digits 4 = .ok (.iload_n 2, 1) := by decide +kernel
theorem dX6_digits_40 : decode cX6_digits 40 = .ok (.goto 4, 3) := by decide +kernel
theorem dX6_digits_43 : decode cX6_digits 43 = .ok (.iload_n 1, 1) := by decide +kernel
theorem dX6_digits_44 : decode cX6_digits 44 = .ok (.ireturn, 1) := by decide +kernel
theorem dX6_digits_5 : decode cX6_digits 5 = .ok (.ifCond .eq 28, 3) := by decide +kernel
theorem dX6_digits_8 : decode cX6_digits 8 = .ok (.iload_n 2, 1) := by decide +kernel
theorem dX6_digits_9 : decode cX6_digits 9 = .ok (.bipush 10, 2) := by decide +kernel
def v_c_digits : List Cond := .code yX6_digits cX6_digits 3 (some .int) :: ([Cond.code yX6_isIn cX6_isIn 3 (some .boolean), Cond.methodLink RX6 27 yX6_isIn, Cond.static yX6_isIn, Cond.initialized RX6] ++ [])
theorem gg_c_digits_c_isIn_f : GoodIn v_c_digits v_c_isIn_f := goodIn_r _ [1] (by rfl) (by decide +kernel)
theorem gg_c_digits_c_isIn_t : GoodIn v_c_digits v_c_isIn_t := goodIn_r _ [1] (by rfl) (by decide +kernel)
set_option maxHeartbeats 4000000 in
set_option maxRecDepth 100000 in
theorem c_digits (l : Launch) (hl9 : l.stackTraces = false) (dC : Nat → ClassId) (dI : Nat → Nat → Nat) (tE : Nat) (p0 : Int32) (sz : Nat) : Met l yX6_digits v_c_digits ({ frames := 1, cells := 0, slots := 0, locals := 22 }) (va_Pc [.int p0] (Pre0 dC dI tE sz [] [])) (va_Qi (fun (r : Int32) (_ : Unit) => r = dgt p0) (fun _ t => Pst dC dI [] (va_A [] sz) [] t) (va_A [] sz)) 0 0 (va_A [] sz) := by
  refine Met.ofW (cc := cX6_digits) (maxL := 3) (ret := (some .int)) (by decide) rfl ?_
  intro p e s m args below meth c s₁ B hml hv
  obtain ⟨rfl, hsz, hP, hK, hD0, hT⟩ := hv
  have hx := B.exec
  have hb := B.bytes
  have hr := B.returns
  have hts := atoms_spec (ws := v_c_digits) B.pre
  have hown : s.vm.findClass RX6 = some m.cls := findClass_of_methodNamed B.named
  have hlocks := B.notSynchronized
  subst hsz
  have hD := hD0.self (sz := s.heap.size)
  generalize hAe : va_A [] s.heap.size = A at hD hT ⊢
  have hA : ∀ q : Nat, s.heap.size ≤ q → A q := fun q h => by rw [← hAe]; exact Or.inr h
  have hS : va_S A s.heap s.heap [] := va_S.rf
  have hl := lv_entry ([.int p0]) (n := 3) (Nat.le_of_ble_eq_true rfl)
  rw [lg_entry_eq]
  generalize (lg_sl ([.int p0]) ++ List.replicate (3 - (lg_sl ([.int p0])).length) Slot.unset).toArray = ls at hl ⊢
  have hl : lv_has ls 3 [(0, .int p0)] := hl
  refine lv_iconst (v := 0) hx hb dX6_digits_0 (by decide) ?_
  refine lv_istore_n (lv' := [(1, .int 0), (0, .int p0)]) hx hb dX6_digits_1 rfl hl (by decide) rfl (fun ls hl => ?_)
  refine lv_iload_n hx hb dX6_digits_2 rfl (lv_at hl 1 rfl) ?_
  refine lv_istore_n (lv' := [(2, .int p0), (1, .int 0), (0, .int p0)]) hx hb dX6_digits_3 rfl hl (by decide) rfl (fun ls hl => ?_)
  obtain ⟨left, hleft⟩ : ∃ z : Int32, z = p0 := ⟨_, rfl⟩
  obtain ⟨many, hmany⟩ : ∃ z : Int32, z = 0 := ⟨_, rfl⟩
  replace hl : lv_has ls 3 [(2, .int left), (1, .int many), (0, .int p0)] := by rw [hleft, hmany]; exact hl
  obtain ⟨n, hn, hI⟩ : ∃ n : Nat, left.toInt.natAbs < 10 ^ n ∧ dgL n many left = dgt p0 := ⟨10, i32_10 _, by rw [hleft, hmany]; rfl⟩
  clear hleft hmany
  obtain ⟨H, hH⟩ : ∃ z : Heap, z = s.heap := ⟨_, rfl⟩
  obtain ⟨locs, hlo⟩ : ∃ z : List Loc, z = [] := ⟨_, rfl⟩
  replace hP : va_P (dC, dI) vwCl [] H := by rw [hH]; exact hP
  replace hS : va_S A s.heap H locs := by rw [hH, hlo]; exact hS
  rw [← hH, ← hlo]
  clear hH hlo
  revert hl hn hI hP hS
  revert ls
  revert many
  revert left
  revert locs
  revert H
  induction n using Nat.strongRecOn
  rename_i n ih
  intro H locs left many ls hl hn hI hP hS
  refine lv_iload_n hx hb dX6_digits_4 rfl (lv_at hl 0 rfl) ?_
  refine lv_if_eq (tgt := 33) hx hb dX6_digits_5 (by decide) (fun c_1 => ?_) (fun c_1 => ?_)
  · refine lv_iload_n hx hb dX6_digits_33 rfl (lv_at hl 1 rfl) ?_
    refine lv_bipush (v := 6) hx hb dX6_digits_34 (by decide) ?_
    refine lv_icmp_le (tgt := 43) hx hb dX6_digits_36 (by decide) (fun c_2 => ?_) (fun c_2 => ?_)
    · refine lv_iload_n hx hb dX6_digits_43 rfl (lv_at hl 1 rfl) ?_
      have hP9 := hP.sub (ws' := []) [] rfl
      have hD9 := hD.sub (ws' := []) [] (by decide) rfl
      have hK9 := hK.sub (tys' := []) [] rfl
      exact W.iret (v := many) hx hb hr (fun t ht hW => ⟨⟨many, (), rfl, (by rw [← hI]; subst_vars; rw [dgL_zero]; simp [*]), by rw [ht]; exact hP9, va_K.moved hW.alike hK9, hD9⟩, hS.F ht⟩) hS.2.2 dX6_digits_44
    · refine lv_iconst (v := 0) hx hb dX6_digits_39 (by decide) ?_
      refine lv_goto (tgt := 44) hx hb dX6_digits_40 (by decide) ?_
      have hP9 := hP.sub (ws' := []) [] rfl
      have hD9 := hD.sub (ws' := []) [] (by decide) rfl
      have hK9 := hK.sub (tys' := []) [] rfl
      exact W.iret (v := 0) hx hb hr (fun t ht hW => ⟨⟨0, (), rfl, (by rw [← hI]; subst_vars; rw [dgL_zero]; simp [*]), by rw [ht]; exact hP9, va_K.moved hW.alike hK9, hD9⟩, hS.F ht⟩) hS.2.2 dX6_digits_44
  · refine lv_iload_n hx hb dX6_digits_8 rfl (lv_at hl 0 rfl) ?_
    refine lv_bipush (v := 10) hx hb dX6_digits_9 (by decide) ?_
    refine lv_irem hx hb dX6_digits_11 (by decide) ?_
    refine lv_topi (fun x_3 e_4 => ?_)
    obtain rfl : x_3 = dgO left := e_4
    refine lv_iconst (v := 1) hx hb dX6_digits_12 (by decide) ?_
    refine lv_iconst (v := 4) hx hb dX6_digits_13 (by decide) ?_
    rcases Decidable.em (dgO left < 1 ∨ 4 < dgO left) with hd | hd
    · have hPc := hP.sub (ws' := []) [] rfl
      have hDc := hD.sub (ws' := []) [] (by decide) rfl
      have hKc := hK.sub (tys' := []) [] rfl
      have hFc := va_free (wc := []) hD hS hA [] rfl
      refine va_calli (va_runS (As := [.int (dgO left), .int 1, .int 4]) (rest := []) ⟨hx, hb, hml, hown, hts⟩ (c_isIn_f l hl9 dC dI tE (dgO left) 1 4 _ hd) (va_cwS 3 hts (goodIn_app (goodIn_r _ [2, 3, 4] (by rfl) (by decide +kernel)) gg_c_digits_c_isIn_f) rfl rfl rfl (by decide +kernel) ⟨Nat.le_of_ble_eq_true rfl, Nat.le_of_ble_eq_true rfl⟩) ⟨Pre0.blind, Pre0.give hPc hKc hDc hT hS hFc⟩ rfl rfl hl.1 rfl (lv_room (Nat.le_of_ble_eq_true rfl)) dX6_digits_14 ⟨Nat.le_of_ble_eq_true rfl, Nat.le_of_ble_eq_true rfl⟩) hS (fun q _ h => hFc q h) hFc (fun r_5 u t H1 locs ht hvm hw hB hz1 hk1 hS => ?_)
      obtain ⟨hP1, hK1, hD1⟩ := hB
      rw [ht] at hP1
      have hK1 := va_K.moved hvm.symm hK1
      obtain ⟨hP, hD⟩ := va_join (wr := []) (w1 := []) hP hD [] [] rfl rfl (by decide) (by decide) hk1 hFc hP1 hD1
      generalize H1 = H at hP hS ⊢
      have hP : va_P (dC, dI) vwCl [] H := hP
      have hD : va_D A [] := hD
      refine W.widen (k := 0) (n := 0) (by omega) (by omega) ?_
      obtain rfl : r_5 = 0 := hw
      refine lv_if_ne (tgt := 22) hx hb dX6_digits_17 (by decide) (fun c_6 => absurd (by decide) c_6) (fun _ => ?_)
      refine lv_iconst (v := 0) hx hb dX6_digits_20 (by decide) ?_
      have hP9 := hP.sub (ws' := []) [] rfl
      have hD9 := hD.sub (ws' := []) [] (by decide) rfl
      have hK9 := hK.sub (tys' := []) [] rfl
      exact W.iret (v := 0) hx hb hr (fun t ht hW => ⟨⟨0, (), rfl, (by obtain ⟨k, rfl⟩ := fuel_pos hn (by assumption); rw [← hI]; exact (dg_bad (by assumption) hd).symm), by rw [ht]; exact hP9, va_K.moved hW.alike hK9, hD9⟩, hS.F ht⟩) hS.2.2 dX6_digits_21
    · have hPc := hP.sub (ws' := []) [] rfl
      have hDc := hD.sub (ws' := []) [] (by decide) rfl
      have hKc := hK.sub (tys' := []) [] rfl
      have hFc := va_free (wc := []) hD hS hA [] rfl
      refine va_calli (va_runS (As := [.int (dgO left), .int 1, .int 4]) (rest := []) ⟨hx, hb, hml, hown, hts⟩ (c_isIn_t l hl9 dC dI tE (dgO left) 1 4 _ (fun h => hd (Or.inl h)) (fun h => hd (Or.inr h))) (va_cwS 3 hts (goodIn_app (goodIn_r _ [2, 3, 4] (by rfl) (by decide +kernel)) gg_c_digits_c_isIn_t) rfl rfl rfl (by decide +kernel) ⟨Nat.le_of_ble_eq_true rfl, Nat.le_of_ble_eq_true rfl⟩) ⟨Pre0.blind, Pre0.give hPc hKc hDc hT hS hFc⟩ rfl rfl hl.1 rfl (lv_room (Nat.le_of_ble_eq_true rfl)) dX6_digits_14 ⟨Nat.le_of_ble_eq_true rfl, Nat.le_of_ble_eq_true rfl⟩) hS (fun q _ h => hFc q h) hFc (fun r_7 u t H1 locs ht hvm hw hB hz1 hk1 hS => ?_)
      obtain ⟨hP1, hK1, hD1⟩ := hB
      rw [ht] at hP1
      have hK1 := va_K.moved hvm.symm hK1
      obtain ⟨hP, hD⟩ := va_join (wr := []) (w1 := []) hP hD [] [] rfl rfl (by decide) (by decide) hk1 hFc hP1 hD1
      generalize H1 = H at hP hS ⊢
      have hP : va_P (dC, dI) vwCl [] H := hP
      have hD : va_D A [] := hD
      refine W.widen (k := 0) (n := 0) (by omega) (by omega) ?_
      obtain rfl : r_7 = 1 := hw
      refine lv_if_ne (tgt := 22) hx hb dX6_digits_17 (by decide) (fun _ => ?_) (fun c_8 => absurd c_8 (by decide))
      refine lv_iinc (v := many + 1) (lv' := [(1, .int (many + 1)), (2, .int left), (0, .int p0)]) hx hb dX6_digits_22 hl (k := 1) rfl rfl (by decide) rfl (fun ls hl => ?_)
      refine lv_iload_n hx hb dX6_digits_25 rfl (lv_at hl 1 rfl) ?_
      refine lv_bipush (v := 10) hx hb dX6_digits_26 (by decide) ?_
      refine lv_idiv hx hb dX6_digits_28 (by decide) ?_
      refine lv_topi (fun x_9 e_10 => ?_)
      obtain rfl : x_9 = left / 10 := e_10
      refine lv_istore_n (lv' := [(2, .int (left / 10)), (1, .int (many + 1)), (0, .int p0)]) hx hb dX6_digits_29 rfl hl (by decide) rfl (fun ls hl => ?_)
      refine lv_goto (tgt := 4) hx hb dX6_digits_30 (by decide) ?_
      obtain ⟨k, rfl⟩ := fuel_pos hn (by assumption)
      exact ih k (Nat.lt_succ_self k) _ _ _ _ ls (lv_sub hl [0, 1, 2] rfl) (i10_lt hn) (by rw [← hI]; exact (dg_step (by assumption) hd).symm) hP hS
