set_option maxHeartbeats 4000000 in
set_option maxRecDepth 100000 in
theorem whole_start {p : Program} {e : Env} {s : State} {m : MethodId} {below : List Frame} {meth : Method} {c : Code} (l : Launch) (hflags : l.flags = flags0) {b L : Nat} {xs : Nat → Int32} (hL : L ≤ 4) (C0 : lw_At p s m meth c b L xs) : W p l e room_1 s m #[Value.ref b] below meth c s.heap [] 0 0 (lw_Z below #[Value.ref b] s) (entryFrame m ([Value.ref b] : List Value).toArray 9) := by
  obtain ⟨hx, hb, hr, hml, hown, hts, hX, hbl, hlocks, hgv⟩ := id C0
  have hts := law_hts hts
  have hA : ∀ q : Nat, s.heap.size ≤ q → (fun q : Nat => s.heap.size ≤ q) q := fun _ h => h
  have hbA : ¬ (fun q : Nat => s.heap.size ≤ q) b := Nat.not_le.mpr hbl
  have hl9 : l.stackTraces = false := by unfold Launch.stackTraces; rw [hflags]; decide
  obtain ⟨c0, iS0, hKn0⟩ := u_known (C := RJ0) (T := TJ0) (N := 4) (n := 4) hts u_law_J0 (hts (.instantiable RJ0 4) (List.mem_of_getElem? (i := 491) rfl))
  obtain ⟨c1, iS1, hKn1⟩ := u_known (C := RJ4) (T := TJ4) (N := 4) (n := 4) hts u_law_J4 (hts (.instantiable RJ4 4) (List.mem_of_getElem? (i := 479) rfl))
  obtain ⟨c2, iS2, hKn2⟩ := u_known (C := RJx00060) (T := TJx00060) (N := 6) (n := 6) hts u_law_Jx00060 (hts (.instantiable RJx00060 6) (List.mem_of_getElem? (i := 492) rfl))
  obtain ⟨c3, iS3, hKn3⟩ := u_known (C := RJx7c733) (T := TJx7c733) (N := 6) (n := 6) hts u_law_Jx7c733 (hts (.instantiable RJx7c733 6) (List.mem_of_getElem? (i := 493) rfl))
  obtain ⟨c4, iS4, hKn4⟩ := u_known (C := RJx4a65c) (T := TJx4a65c) (N := 3) (n := 3) hts u_law_Jx4a65c (hts (.instantiable RJx4a65c 3) (List.mem_of_getElem? (i := 422) rfl))
  obtain ⟨c5, iS5, hKn5⟩ := u_known (C := RX0) (T := TX0) (N := 3) (n := 3) hts u_law_X0 (hts (.instantiable RX0 3) (List.mem_of_getElem? (i := 449) rfl))
  obtain ⟨c6, iS6, hKn6⟩ := u_known (C := RX1) (T := TX1) (N := 4) (n := 4) hts u_law_X1 (hts (.instantiable RX1 4) (List.mem_of_getElem? (i := 10) rfl))
  obtain ⟨c7, iS7, hKn7⟩ := u_known (C := RX2) (T := TX2) (N := 6) (n := 6) hts u_law_X2 (hts (.instantiable RX2 6) (List.mem_of_getElem? (i := 456) rfl))
  obtain ⟨c8, iS8, hKn8⟩ := u_known (C := RX3) (T := TX3) (N := 4) (n := 4) hts u_law_X3 (hts (.instantiable RX3 4) (List.mem_of_getElem? (i := 437) rfl))
  obtain ⟨c9, iS9, hKn9⟩ := u_known (C := RX4) (T := TX4) (N := 1) (n := 1) hts u_law_X4 (hts (.instantiable RX4 1) (List.mem_of_getElem? (i := 105) rfl))
  obtain ⟨c10, iS10, hKn10⟩ := u_known (C := RX5) (T := TX5) (N := 9) (n := 9) hts u_law_X5 (hts (.instantiable RX5 9) (List.mem_of_getElem? (i := 418) rfl))
  obtain ⟨c11, iS11, hKn11⟩ := u_known (C := RX6) (T := TX6) (N := 6) (n := 6) hts u_law_X6 (hts (.instantiable RX6 6) (List.mem_of_getElem? (i := 475) rfl))
  obtain ⟨dC, dI, hKc⟩ : ∃ (dC : Nat → ClassId) (dI : Nat → Nat → Nat), ∀ (k : Nat) (q : vw_C), vwCl[k]? = some q → u_Kn s q.1 q.2.1 q.2.2 (dC k) (dI k) := by
    refine ⟨fun k => if k = 0 then c0 else if k = 1 then c1 else if k = 2 then c2 else if k = 3 then c3 else if k = 4 then c4 else if k = 5 then c5 else if k = 6 then c6 else if k = 7 then c7 else if k = 8 then c8 else if k = 9 then c9 else if k = 10 then c10 else c11, fun k => if k = 0 then iS0 else if k = 1 then iS1 else if k = 2 then iS2 else if k = 3 then iS3 else if k = 4 then iS4 else if k = 5 then iS5 else if k = 6 then iS6 else if k = 7 then iS7 else if k = 8 then iS8 else if k = 9 then iS9 else if k = 10 then iS10 else iS11, ?_⟩
    intro k q hq
    match k, hq with
    | 0, hq => cases hq; exact hKn0
    | 1, hq => cases hq; exact hKn1
    | 2, hq => cases hq; exact hKn2
    | 3, hq => cases hq; exact hKn3
    | 4, hq => cases hq; exact hKn4
    | 5, hq => cases hq; exact hKn5
    | 6, hq => cases hq; exact hKn6
    | 7, hq => cases hq; exact hKn7
    | 8, hq => cases hq; exact hKn8
    | 9, hq => cases hq; exact hKn9
    | 10, hq => cases hq; exact hKn10
    | 11, hq => cases hq; exact hKn11
    | k + 12, hq => simp [vwCl] at hq
  obtain ⟨tE, hT⟩ := law_tK C0
  have hS : va_S (fun q : Nat => s.heap.size ≤ q) s.heap s.heap [] := va_S.rf
  have hK : va_K (dC, dI) vwCl [] s := ⟨hKc, fun k q h => by simp at h⟩
  have hP : va_P (dC, dI) vwCl [] s.heap := fun k q h => by simp at h
  have hD : va_D (fun q : Nat => s.heap.size ≤ q) [] := ⟨fun i j p q h => by simp at h, fun k q h => by simp at h⟩
  have hl := lv_entry ([.ref b]) (n := 9) (Nat.le_of_ble_eq_true rfl)
  rw [lg_entry_eq]
  generalize (lg_sl ([.ref b]) ++ List.replicate (9 - (lg_sl ([.ref b])).length) Slot.unset).toArray = ls at hl ⊢
  have hl : lv_has ls 9 [(0, .ref b)] := hl
  refine va_new (ci := 10) (fs := [.null, .null, .null, .null, .null, .null, .int 0, .int 0, .int 0]) (C := RX5) (T := TX5) (N := 9) hx hb hts u_law_X5 tyX5 tyX5_ok hown (hts (.classLink RL 8 RX5) (List.mem_of_getElem? (i := 417) rfl)) (hts (.instantiable RX5 9) (List.mem_of_getElem? (i := 418) rfl)) (hts (.initialized RX5) (List.mem_of_getElem? (i := 49) rfl)) hK hP hD hS hA rfl (fun j hj => by rcases (show j = 0 ∨ j = 1 ∨ j = 2 ∨ j = 3 ∨ j = 4 ∨ j = 5 ∨ j = 6 ∨ j = 7 ∨ j = 8 by omega) with rfl | rfl | rfl | rfl | rfl | rfl | rfl | rfl | rfl <;> rfl) (Nat.le_of_ble_eq_true rfl) (Nat.le_of_ble_eq_true rfl) dL_law_0 (fun q_1 H hP hD hS => ?_)
  have hP : va_P (dC, dI) vwCl [(q_1, .inr (10, [.null, .null, .null, .null, .null, .null, .int 0, .int 0, .int 0]))] H := hP
  have hD : va_D (fun q : Nat => s.heap.size ≤ q) [(q_1, .inr (10, [.null, .null, .null, .null, .null, .null, .int 0, .int 0, .int 0]))] := hD
  refine W.widen (k := 1) (n := 9) (by omega) (by omega) ?_
  refine lv_dup hx hb dL_law_3 rfl ?_
  have hPc := hP.sub (ws' := [(q_1, .inr (10, [.null, .null, .null, .null, .null, .null, .int 0, .int 0, .int 0]))]) [0] rfl
  have hDc := hD.sub (ws' := [(q_1, .inr (10, [.null, .null, .null, .null, .null, .null, .int 0, .int 0, .int 0]))]) [0] (by decide) rfl
  have hKc := hK.sub (tys' := []) [] rfl
  have hFc := va_free (wc := [(q_1, .inr (10, [.null, .null, .null, .null, .null, .null, .int 0, .int 0, .int 0]))]) hD hS hA [0] rfl
  refine va_callv (va_runI (As := []) (rest := [.ref q_1]) ⟨hx, hb, hml, hown, hts⟩ (c_init l hl9 dC dI tE q_1 _ ) (cwI 0 hts gg_law_c_init rfl rfl rfl (hts (.initialized RX5) (List.mem_of_getElem? (i := 49) rfl)) (hts (.methodLink RL 71 yX5_init) (List.mem_of_getElem? (i := 472) rfl)) (hts (.instanceMethod yX5_init) (List.mem_of_getElem? (i := 473) rfl)) rfl (by decide +kernel) ⟨Nat.le_of_ble_eq_true rfl, Nat.le_of_ble_eq_true rfl⟩) ⟨Pre0.blind, Pre0.give hPc hKc hDc hT hS hFc⟩ rfl rfl hl.1 rfl (lv_room (Nat.le_of_ble_eq_true rfl)) dL_law_4 ⟨Nat.le_of_ble_eq_true rfl, Nat.le_of_ble_eq_true rfl⟩) hS (fun q _ h => hFc q h) hFc (fun u t H1 locs ht hvm hw hB hz1 hk1 hS => ?_)
  obtain ⟨qx_3, qx_4, qx_5, qx_6, qd_7, qd_8, qd_9, qd_10, qd_11, hP1, hK1, hD1⟩ := hB
  rw [ht] at hP1
  have hK1 := va_K.moved hvm.symm hK1
  obtain ⟨hP, hD⟩ := va_join (wr := []) (w1 := [(q_1, .inr (10, [.ref qx_3, .ref qx_4, .ref qx_5, .ref qx_6, .ref qd_7, .ref qd_8, .int 0, .int 0, .int 0])), (qx_3, .inr (4, [.int 0, .ref tE, .int 0])), (qx_4, .inr (4, [.int 0, .ref tE, .int 0])), (qx_5, .inr (4, [.int 0, .ref tE, .int 0])), (qx_6, .inr (8, [.int 0, .ref qd_9, .ref qd_10, .ref qd_11]))]) hP hD [0] [] rfl rfl (by decide) (by decide) hk1 hFc hP1 hD1
  generalize H1 = H at hP hS ⊢
  have hP : va_P (dC, dI) vwCl [(q_1, .inr (10, [.ref qx_3, .ref qx_4, .ref qx_5, .ref qx_6, .ref qd_7, .ref qd_8, .int 0, .int 0, .int 0])), (qx_3, .inr (4, [.int 0, .ref tE, .int 0])), (qx_4, .inr (4, [.int 0, .ref tE, .int 0])), (qx_5, .inr (4, [.int 0, .ref tE, .int 0])), (qx_6, .inr (8, [.int 0, .ref qd_9, .ref qd_10, .ref qd_11]))] H := hP
  have hD : va_D (fun q : Nat => s.heap.size ≤ q) [(q_1, .inr (10, [.ref qx_3, .ref qx_4, .ref qx_5, .ref qx_6, .ref qd_7, .ref qd_8, .int 0, .int 0, .int 0])), (qx_3, .inr (4, [.int 0, .ref tE, .int 0])), (qx_4, .inr (4, [.int 0, .ref tE, .int 0])), (qx_5, .inr (4, [.int 0, .ref tE, .int 0])), (qx_6, .inr (8, [.int 0, .ref qd_9, .ref qd_10, .ref qd_11]))] := hD
  refine W.widen (k := 45) (n := 710) (by omega) (by omega) ?_
  refine lv_astore_n (lv' := [(1, .ref q_1), (0, .ref b)]) hx hb dL_law_7 rfl hl (by decide) rfl (fun ls hl => ?_)
  refine va_new (ci := 11) (fs := [.int 0, .int 0, .int 0, .int 0, .null, .null]) (C := RX6) (T := TX6) (N := 6) hx hb hts u_law_X6 tyX6 tyX6_ok hown (hts (.classLink RL 72 RX6) (List.mem_of_getElem? (i := 474) rfl)) (hts (.instantiable RX6 6) (List.mem_of_getElem? (i := 475) rfl)) (hts (.initialized RX6) (List.mem_of_getElem? (i := 58) rfl)) hK hP hD hS hA rfl (fun j hj => by rcases (show j = 0 ∨ j = 1 ∨ j = 2 ∨ j = 3 ∨ j = 4 ∨ j = 5 by omega) with rfl | rfl | rfl | rfl | rfl | rfl <;> rfl) (Nat.le_of_ble_eq_true rfl) (Nat.le_of_ble_eq_true rfl) dL_law_8 (fun q_12 H hP hD hS => ?_)
  have hP : va_P (dC, dI) vwCl [(q_1, .inr (10, [.ref qx_3, .ref qx_4, .ref qx_5, .ref qx_6, .ref qd_7, .ref qd_8, .int 0, .int 0, .int 0])), (qx_3, .inr (4, [.int 0, .ref tE, .int 0])), (qx_4, .inr (4, [.int 0, .ref tE, .int 0])), (qx_5, .inr (4, [.int 0, .ref tE, .int 0])), (qx_6, .inr (8, [.int 0, .ref qd_9, .ref qd_10, .ref qd_11])), (q_12, .inr (11, [.int 0, .int 0, .int 0, .int 0, .null, .null]))] H := hP
  have hD : va_D (fun q : Nat => s.heap.size ≤ q) [(q_1, .inr (10, [.ref qx_3, .ref qx_4, .ref qx_5, .ref qx_6, .ref qd_7, .ref qd_8, .int 0, .int 0, .int 0])), (qx_3, .inr (4, [.int 0, .ref tE, .int 0])), (qx_4, .inr (4, [.int 0, .ref tE, .int 0])), (qx_5, .inr (4, [.int 0, .ref tE, .int 0])), (qx_6, .inr (8, [.int 0, .ref qd_9, .ref qd_10, .ref qd_11])), (q_12, .inr (11, [.int 0, .int 0, .int 0, .int 0, .null, .null]))] := hD
  refine W.widen (k := 46) (n := 716) (by omega) (by omega) ?_
  refine lv_dup hx hb dL_law_11 rfl ?_
  have hPc := hP.sub (ws' := [(q_12, .inr (11, [.int 0, .int 0, .int 0, .int 0, .null, .null]))]) [5] rfl
  have hDc := hD.sub (ws' := [(q_12, .inr (11, [.int 0, .int 0, .int 0, .int 0, .null, .null]))]) [5] (by decide) rfl
  have hKc := hK.sub (tys' := []) [] rfl
  have hFc := va_free (wc := [(q_12, .inr (11, [.int 0, .int 0, .int 0, .int 0, .null, .null]))]) hD hS hA [5] rfl
  refine va_callv (va_runI (As := []) (rest := [.ref q_12]) ⟨hx, hb, hml, hown, hts⟩ (c_M_init l hl9 dC dI tE q_12 _ ) (cwI 0 hts gg_law_c_M_init rfl rfl rfl (hts (.initialized RX6) (List.mem_of_getElem? (i := 58) rfl)) (hts (.methodLink RL 74 yX6_init) (List.mem_of_getElem? (i := 488) rfl)) (hts (.instanceMethod yX6_init) (List.mem_of_getElem? (i := 489) rfl)) rfl (by decide +kernel) ⟨Nat.le_of_ble_eq_true rfl, Nat.le_of_ble_eq_true rfl⟩) ⟨Pre0.blind, Pre0.give hPc hKc hDc hT hS hFc⟩ rfl rfl hl.1 rfl (lv_room (Nat.le_of_ble_eq_true rfl)) dL_law_12 ⟨Nat.le_of_ble_eq_true rfl, Nat.le_of_ble_eq_true rfl⟩) hS (fun q _ h => hFc q h) hFc (fun u t H1 locs ht hvm hw hB hz1 hk1 hS => ?_)
  obtain ⟨qx_14, qx_15, qx_16, cx_17, cx_18, hP1, hK1, hD1⟩ := hB
  rw [ht] at hP1
  have hK1 := va_K.moved hvm.symm hK1
  obtain ⟨hP, hD⟩ := va_join (wr := [(q_1, .inr (10, [.ref qx_3, .ref qx_4, .ref qx_5, .ref qx_6, .ref qd_7, .ref qd_8, .int 0, .int 0, .int 0])), (qx_3, .inr (4, [.int 0, .ref tE, .int 0])), (qx_4, .inr (4, [.int 0, .ref tE, .int 0])), (qx_5, .inr (4, [.int 0, .ref tE, .int 0])), (qx_6, .inr (8, [.int 0, .ref qd_9, .ref qd_10, .ref qd_11]))]) (w1 := [(q_12, .inr (11, [.int 0, .int 0, .int 0, .int 0, .ref qx_14, .ref qx_15])), (qx_14, .inl (cx_17, 119, .inl (fun _ => 0))), (qx_15, .inr (1, [.ref qx_16, .int 0, .int 0, .int 0])), (qx_16, .inl (cx_18, 16, .inl (fun _ => 0)))]) hP hD [5] [0, 1, 2, 3, 4] rfl rfl (by decide) (by decide) hk1 hFc hP1 hD1
  have hK := hK.app (hK1.sub (tys' := [(cx_17, .int), (cx_18, .byte)]) [0, 1] rfl)
  have hK : va_K (dC, dI) vwCl [(cx_17, .int), (cx_18, .byte)] s := hK
  generalize H1 = H at hP hS ⊢
  have hP : va_P (dC, dI) vwCl [(q_1, .inr (10, [.ref qx_3, .ref qx_4, .ref qx_5, .ref qx_6, .ref qd_7, .ref qd_8, .int 0, .int 0, .int 0])), (qx_3, .inr (4, [.int 0, .ref tE, .int 0])), (qx_4, .inr (4, [.int 0, .ref tE, .int 0])), (qx_5, .inr (4, [.int 0, .ref tE, .int 0])), (qx_6, .inr (8, [.int 0, .ref qd_9, .ref qd_10, .ref qd_11])), (q_12, .inr (11, [.int 0, .int 0, .int 0, .int 0, .ref qx_14, .ref qx_15])), (qx_14, .inl (cx_17, 119, .inl (fun _ => 0))), (qx_15, .inr (1, [.ref qx_16, .int 0, .int 0, .int 0])), (qx_16, .inl (cx_18, 16, .inl (fun _ => 0)))] H := hP
  have hD : va_D (fun q : Nat => s.heap.size ≤ q) [(q_1, .inr (10, [.ref qx_3, .ref qx_4, .ref qx_5, .ref qx_6, .ref qd_7, .ref qd_8, .int 0, .int 0, .int 0])), (qx_3, .inr (4, [.int 0, .ref tE, .int 0])), (qx_4, .inr (4, [.int 0, .ref tE, .int 0])), (qx_5, .inr (4, [.int 0, .ref tE, .int 0])), (qx_6, .inr (8, [.int 0, .ref qd_9, .ref qd_10, .ref qd_11])), (q_12, .inr (11, [.int 0, .int 0, .int 0, .int 0, .ref qx_14, .ref qx_15])), (qx_14, .inl (cx_17, 119, .inl (fun _ => 0))), (qx_15, .inr (1, [.ref qx_16, .int 0, .int 0, .int 0])), (qx_16, .inl (cx_18, 16, .inl (fun _ => 0)))] := hD
  refine W.widen (k := 49) (n := 855) (by omega) (by omega) ?_
  refine lv_astore_n (lv' := [(2, .ref q_12), (1, .ref q_1), (0, .ref b)]) hx hb dL_law_15 rfl hl (by decide) rfl (fun ls hl => ?_)
  refine lv_iconst (v := 1) hx hb dL_law_16 (by decide) ?_
  refine va_newa (atype := .long) (ty := .long) (N' := 1) (a0 := (1, .inr (.inl (fun _ => 0)))) hx hb (hts (.arrayClass .long) (List.mem_of_getElem? (i := 490) rfl)) rfl hK hP hD hS hA (fun _ => rfl) (by decide) (by decide) (Nat.le_of_ble_eq_true rfl) (Nat.le_of_ble_eq_true rfl) (Nat.le_of_ble_eq_true rfl) dL_law_17 (fun q_19 cA_20 H hK hP hD hS => ?_)
  have hP : va_P (dC, dI) vwCl [(q_1, .inr (10, [.ref qx_3, .ref qx_4, .ref qx_5, .ref qx_6, .ref qd_7, .ref qd_8, .int 0, .int 0, .int 0])), (qx_3, .inr (4, [.int 0, .ref tE, .int 0])), (qx_4, .inr (4, [.int 0, .ref tE, .int 0])), (qx_5, .inr (4, [.int 0, .ref tE, .int 0])), (qx_6, .inr (8, [.int 0, .ref qd_9, .ref qd_10, .ref qd_11])), (q_12, .inr (11, [.int 0, .int 0, .int 0, .int 0, .ref qx_14, .ref qx_15])), (qx_14, .inl (cx_17, 119, .inl (fun _ => 0))), (qx_15, .inr (1, [.ref qx_16, .int 0, .int 0, .int 0])), (qx_16, .inl (cx_18, 16, .inl (fun _ => 0))), (q_19, .inl (cA_20, 1, .inr (.inl (fun _ => 0))))] H := hP
  have hD : va_D (fun q : Nat => s.heap.size ≤ q) [(q_1, .inr (10, [.ref qx_3, .ref qx_4, .ref qx_5, .ref qx_6, .ref qd_7, .ref qd_8, .int 0, .int 0, .int 0])), (qx_3, .inr (4, [.int 0, .ref tE, .int 0])), (qx_4, .inr (4, [.int 0, .ref tE, .int 0])), (qx_5, .inr (4, [.int 0, .ref tE, .int 0])), (qx_6, .inr (8, [.int 0, .ref qd_9, .ref qd_10, .ref qd_11])), (q_12, .inr (11, [.int 0, .int 0, .int 0, .int 0, .ref qx_14, .ref qx_15])), (qx_14, .inl (cx_17, 119, .inl (fun _ => 0))), (qx_15, .inr (1, [.ref qx_16, .int 0, .int 0, .int 0])), (qx_16, .inl (cx_18, 16, .inl (fun _ => 0))), (q_19, .inl (cA_20, 1, .inr (.inl (fun _ => 0))))] := hD
  have hK : va_K (dC, dI) vwCl [(cx_17, .int), (cx_18, .byte), (cA_20, .long)] s := hK
  refine W.widen (k := 50) (n := 856) (by omega) (by omega) ?_
  refine lv_astore_n (lv' := [(3, .ref q_19), (2, .ref q_12), (1, .ref q_1), (0, .ref b)]) hx hb dL_law_19 rfl hl (by decide) rfl (fun ls hl => ?_)
  refine lv_iconst (v := 0) hx hb dL_law_20 (by decide) ?_
  refine lv_istore (lv' := [(4, .int 0), (3, .ref q_19), (2, .ref q_12), (1, .ref q_1), (0, .ref b)]) hx hb dL_law_21 hl (by decide) rfl (fun ls hl => ?_)
  rcases Nat.lt_or_ge L 4 with hL4 | hL4
  · exact law_short l hL4 C0 (by omega) (by omega) hS ls (lv_sub hl [0, 4] rfl)
  · obtain rfl : L = 4 := by omega
    have hP9 := hP.sub (ws' := [(q_1, .inr (10, [.ref qx_3, .ref qx_4, .ref qx_5, .ref qx_6, .ref qd_7, .ref qd_8, .int 0, .int 0, .int 0])), (qx_3, .inr (4, [.int 0, .ref tE, .int 0])), (qx_4, .inr (4, [.int 0, .ref tE, .int 0])), (qx_5, .inr (4, [.int 0, .ref tE, .int 0])), (qx_6, .inr (8, [.int 0, .ref qd_9, .ref qd_10, .ref qd_11])), (q_12, .inr (11, [.int 0, .int 0, .int 0, .int 0, .ref qx_14, .ref qx_15])), (qx_14, .inl (cx_17, 119, .inl (fun _ => 0))), (qx_15, .inr (1, [.ref qx_16, .int 0, .int 0, .int 0])), (qx_16, .inl (cx_18, 16, .inl (fun _ => 0))), (q_19, .inl (cA_20, 1, .inr (.inl (fun _ => 0))))]) [0, 1, 2, 3, 4, 5, 6, 7, 8, 9] rfl
    have hD9 := hD.sub (ws' := [(q_1, .inr (10, [.ref qx_3, .ref qx_4, .ref qx_5, .ref qx_6, .ref qd_7, .ref qd_8, .int 0, .int 0, .int 0])), (qx_3, .inr (4, [.int 0, .ref tE, .int 0])), (qx_4, .inr (4, [.int 0, .ref tE, .int 0])), (qx_5, .inr (4, [.int 0, .ref tE, .int 0])), (qx_6, .inr (8, [.int 0, .ref qd_9, .ref qd_10, .ref qd_11])), (q_12, .inr (11, [.int 0, .int 0, .int 0, .int 0, .ref qx_14, .ref qx_15])), (qx_14, .inl (cx_17, 119, .inl (fun _ => 0))), (qx_15, .inr (1, [.ref qx_16, .int 0, .int 0, .int 0])), (qx_16, .inl (cx_18, 16, .inl (fun _ => 0))), (q_19, .inl (cA_20, 1, .inr (.inl (fun _ => 0))))]) [0, 1, 2, 3, 4, 5, 6, 7, 8, 9] (by decide) rfl
    have hK9 := hK.sub (tys' := [(cx_17, .int), (cx_18, .byte), (cA_20, .long)]) [0, 1, 2] rfl
    exact law_turn l hl9 C0 dC dI tE q_1 qx_3 qx_4 qx_5 qx_6 qd_9 qd_10 qd_11 qd_7 qd_8 q_12 qx_14 qx_15 qx_16 q_19 cx_17 cx_18 cA_20 hT hK9 hP9 hD9 hS ls (lv_sub hl [0, 1, 2, 3, 4] rfl)
