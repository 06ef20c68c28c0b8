set_option maxHeartbeats 4000000 in
set_option maxRecDepth 100000 in
theorem law_next {p : Program} {e : Env} {s : State} {m : MethodId} {below : List Frame} {meth : Method} {c : Code} (l : Launch) {b : Nat} {xs : Nat → Int32} (C0 : lw_At p s m meth c b 4 xs) {H : Heap} {locs : List Loc} {cells slots : Nat} (hcc : cells ≤ 600002) (hss : slots ≤ 7302232) (hS : va_S (fun q : Nat => s.heap.size ≤ q) s.heap H locs) (ls : Array Slot) (hl : lv_has ls 9 [(4, .int 0), (0, .ref b)]) : W p l e room_1 s m #[Value.ref b] below meth c H locs cells slots (lw_Z below #[Value.ref b] s) (F0 m 1303 ls []) := by
  obtain ⟨hx, hb, hr, hml, hown, hts, hX, hbl, hlocks, hgv⟩ := id C0
  have hts := law_hts hts
  have hA : ∀ q : Nat, s.heap.size ≤ q → (fun q : Nat => s.heap.size ≤ q) q := fun _ h => h
  have hbA : ¬ (fun q : Nat => s.heap.size ≤ q) b := Nat.not_le.mpr hbl
  refine lv_iinc (v := 4) (lv' := [(4, .int 4), (0, .ref b)]) hx hb dL_law_1303 hl (k := 0) rfl (by decide) (by decide) rfl (fun ls hl => ?_)
  refine lv_goto (tgt := 23) hx hb dL_law_1306 (by decide) ?_
  refine lv_iload hx hb dL_law_23 (lv_at hl 0 rfl) ?_
  refine lv_aload_n hx hb dL_law_25 rfl (lv_at hl 1 rfl) ?_
  refine va_slen hx hb hX hbl hbA hS dL_law_26 ?_
  refine lv_topi (fun x_1 e_2 => ?_)
  obtain rfl : x_1 = 4 := e_2
  refine lv_iconst (v := 4) hx hb dL_law_27 (by decide) ?_
  refine lv_isub hx hb dL_law_28 ?_
  refine lv_topi (fun x_3 e_4 => ?_)
  obtain rfl : x_3 = 0 := e_4.trans (by decide)
  refine lv_icmp_gt (tgt := 1309) hx hb dL_law_29 (by decide) (fun _ => ?_) (fun c_5 => absurd (by decide) c_5)
  refine lv_iconst (v := 1) hx hb dL_law_1309 (by decide) ?_
  refine va_forget (fun q hq => hS.2.2 q hq) ?_
  refine W.widen (k := 600002) (n := 7302232) hcc hss ?_
  refine W.base ?_
  exact lw_ret (Drawn.sameBut.refl s.drawn lw_cs) hx hb hr hlocks dL_law_1310
set_option maxHeartbeats 4000000 in
set_option maxRecDepth 100000 in
theorem law_short {p : Program} {e : Env} {s : State} {m : MethodId} {below : List Frame} {meth : Method} {c : Code} (l : Launch) {b L : Nat} {xs : Nat → Int32} (hL : L < 4) (C0 : lw_At p s m meth c b L xs) {H : Heap} {locs : List Loc} {cells slots : Nat} (hcc : cells ≤ 600002) (hss : slots ≤ 7302232) (hS : va_S (fun q : Nat => s.heap.size ≤ q) s.heap H locs) (ls : Array Slot) (hl : lv_has ls 9 [(4, .int 0), (0, .ref b)]) : W p l e room_1 s m #[Value.ref b] below meth c H locs cells slots (lw_Z below #[Value.ref b] s) (F0 m 23 ls []) := by
  obtain ⟨hx, hb, hr, hml, hown, hts, hX, hbl, hlocks, hgv⟩ := id C0
  have hts := law_hts hts
  have hA : ∀ q : Nat, s.heap.size ≤ q → (fun q : Nat => s.heap.size ≤ q) q := fun _ h => h
  have hbA : ¬ (fun q : Nat => s.heap.size ≤ q) b := Nat.not_le.mpr hbl
  refine lv_iload hx hb dL_law_23 (lv_at hl 0 rfl) ?_
  refine lv_aload_n hx hb dL_law_25 rfl (lv_at hl 1 rfl) ?_
  refine va_slen hx hb hX hbl hbA hS dL_law_26 ?_
  refine lv_iconst (v := 4) hx hb dL_law_27 (by decide) ?_
  refine lv_isub hx hb dL_law_28 ?_
  refine lv_topi (fun x_3 e_4 => ?_)
  refine lv_icmp_gt (tgt := 1309) hx hb dL_law_29 (by decide) (fun _ => ?_) (fun c_5 => absurd (by subst_vars; exact short_lt hL) c_5)
  refine lv_iconst (v := 1) hx hb dL_law_1309 (by decide) ?_
  refine va_forget (fun q hq => hS.2.2 q hq) ?_
  refine W.widen (k := 600002) (n := 7302232) hcc hss ?_
  refine W.base ?_
  exact lw_ret (Drawn.sameBut.refl s.drawn lw_cs) hx hb hr hlocks dL_law_1310
set_option maxHeartbeats 4000000 in
set_option maxRecDepth 100000 in
theorem law_addFloor {p : Program} {e : Env} {s : State} {m : MethodId} {below : List Frame} {meth : Method} {c : Code} (l : Launch) (hl9 : l.stackTraces = false) {b : Nat} {xs : Nat → Int32} (C0 : lw_At p s m meth c b 4 xs) (dC : Nat → ClassId) (dI : Nat → Nat → Nat) (tE : Nat) (h0 fq sq gq nq tq zq wq dq pq mq rq sbq vq oq : Nat) (ci cv co : ClassId) (hT : tK tE (fun q : Nat => s.heap.size ≤ q) s s.heap) (hK : va_K (dC, dI) vwCl [(ci, .int), (cv, .byte), (co, .long)] s) {H : Heap} {locs : List Loc} (hP : va_P (dC, dI) vwCl [(h0, .inr (10, [.ref fq, .ref sq, .ref gq, .ref nq, .ref dq, .ref pq, .int 0, .int 0, .int 0])), (fq, .inr (4, [.int 0, .ref tE, .int 0])), (sq, .inr (4, [.int 0, .ref tE, .int 0])), (gq, .inr (4, [.int 0, .ref tE, .int 0])), (nq, .inr (8, [.int 0, .ref tq, .ref zq, .ref wq])), (mq, .inr (11, [.int 0, .int 0, .int 0, .int 0, .ref rq, .ref sbq])), (rq, .inl (ci, 119, .inl (fun _ => 0))), (sbq, .inr (1, [.ref vq, .int 0, .int 0, .int 0])), (vq, .inl (cv, 16, .inl (fun _ => 0))), (oq, .inl (co, 1, .inr (.inl (fun _ => 0))))] H) (hD : va_D (fun q : Nat => s.heap.size ≤ q) [(h0, .inr (10, [.ref fq, .ref sq, .ref gq, .ref nq, .ref dq, .ref pq, .int 0, .int 0, .int 0])), (fq, .inr (4, [.int 0, .ref tE, .int 0])), (sq, .inr (4, [.int 0, .ref tE, .int 0])), (gq, .inr (4, [.int 0, .ref tE, .int 0])), (nq, .inr (8, [.int 0, .ref tq, .ref zq, .ref wq])), (mq, .inr (11, [.int 0, .int 0, .int 0, .int 0, .ref rq, .ref sbq])), (rq, .inl (ci, 119, .inl (fun _ => 0))), (sbq, .inr (1, [.ref vq, .int 0, .int 0, .int 0])), (vq, .inl (cv, 16, .inl (fun _ => 0))), (oq, .inl (co, 1, .inr (.inl (fun _ => 0))))]) (hS : va_S (fun q : Nat => s.heap.size ≤ q) s.heap H locs) (ls : Array Slot) (hl : lv_has ls 9 [(4, .int 0), (3, .ref oq), (2, .ref mq), (1, .ref h0), (0, .ref b)]) : W p l e room_1 s m #[Value.ref b] below meth c H locs 50 856 (lw_Z below #[Value.ref b] s) (F0 m 132 ls []) := by
  obtain ⟨hx, hb, hr, hml, hown, hts, hX, hbl, hlocks, hgv⟩ := id C0
  have hts := law_hts hts
  have hA : ∀ q : Nat, s.heap.size ≤ q → (fun q : Nat => s.heap.size ≤ q) q := fun _ h => h
  have hbA : ¬ (fun q : Nat => s.heap.size ≤ q) b := Nat.not_le.mpr hbl
  refine lv_aload_n hx hb dL_law_132 rfl (lv_at hl 3 rfl) ?_
  refine lv_aload_n hx hb dL_law_133 rfl (lv_at hl 4 rfl) ?_
  refine lv_iload hx hb dL_law_134 (lv_at hl 0 rfl) ?_
  refine lv_iconst (v := 1) hx hb dL_law_136 (by decide) ?_
  refine lv_iadd hx hb dL_law_137 ?_
  refine lv_topi (fun x_1 e_2 => ?_)
  obtain rfl : x_1 = 1 := e_2.trans (by decide)
  refine va_sld hx hb hX hbl hbA hS (by unfold vp_in; decide) dL_law_138 ?_
  refine lv_topi (fun y1 ey1 => ?_)
  refine lv_aload_n hx hb dL_law_139 rfl (lv_at hl 1 rfl) ?_
  rcases cs12 y1 with ⟨h1, h2⟩ | h
  · have hPc := hP.sub (ws' := [(h0, .inr (10, [.ref fq, .ref sq, .ref gq, .ref nq, .ref dq, .ref pq, .int 0, .int 0, .int 0])), (fq, .inr (4, [.int 0, .ref tE, .int 0])), (oq, .inl (co, 1, .inr (.inl (fun _ => 0))))]) [0, 1, 9] rfl
    have hDc := hD.sub (ws' := [(h0, .inr (10, [.ref fq, .ref sq, .ref gq, .ref nq, .ref dq, .ref pq, .int 0, .int 0, .int 0])), (fq, .inr (4, [.int 0, .ref tE, .int 0])), (oq, .inl (co, 1, .inr (.inl (fun _ => 0))))]) [0, 1, 9] (by decide) rfl
    have hKc := hK.sub (tys' := [(co, .long)]) [2] rfl
    have hFc := va_free (wc := [(h0, .inr (10, [.ref fq, .ref sq, .ref gq, .ref nq, .ref dq, .ref pq, .int 0, .int 0, .int 0])), (fq, .inr (4, [.int 0, .ref tE, .int 0])), (oq, .inl (co, 1, .inr (.inl (fun _ => 0))))]) hD hS hA [0, 1, 9] rfl
    refine va_calli (vx_runSW (As := [.ref h0, .int y1, .ref oq]) (rest := []) ⟨hx, hb, hml, hown, hts⟩ (w_addFloor_t l hl9 dC dI tE h0 fq sq gq nq dq pq 0 0 0 0 y1 oq co (fun _ => 0) _ h1 h2) (vx_cwSW 3 hts (goodIn_app (goodIn_r _ [50, 51, 52] (by rfl) (by decide +kernel)) gg_law_w_addFloor_t) rfl rfl rfl (by decide +kernel) ⟨Nat.le_of_ble_eq_true rfl, Nat.le_of_ble_eq_true rfl⟩) ⟨Pre0.blind, Pre0.give hPc hKc hDc hT hS hFc⟩ rfl rfl hl.1 rfl (lv_room (Nat.le_of_ble_eq_true rfl)) dL_law_140 ⟨Nat.le_of_ble_eq_true rfl, Nat.le_of_ble_eq_true rfl⟩) hS (fun q _ h => hFc q h) hFc (fun r_5 u t H1 locs ht hvm hw hB hz1 hk1 hS => ?_)
    obtain ⟨vx_6, qd_7, hP1, hK1, hD1⟩ := hB
    rw [ht] at hP1
    have hK1 := va_K.moved hvm.symm hK1
    obtain ⟨hP, hD⟩ := va_join (wr := [(sq, .inr (4, [.int 0, .ref tE, .int 0])), (gq, .inr (4, [.int 0, .ref tE, .int 0])), (nq, .inr (8, [.int 0, .ref tq, .ref zq, .ref wq])), (mq, .inr (11, [.int 0, .int 0, .int 0, .int 0, .ref rq, .ref sbq])), (rq, .inl (ci, 119, .inl (fun _ => 0))), (sbq, .inr (1, [.ref vq, .int 0, .int 0, .int 0])), (vq, .inl (cv, 16, .inl (fun _ => 0)))]) (w1 := [(oq, .inl (co, 1, .inr (.inl (vp_updL (fun _ => 0) (0 : Int32).toNatClampNeg 0)))), (h0, .inr (10, [.ref fq, .ref sq, .ref gq, .ref nq, .ref dq, .ref pq, .int 0, .int 0, .int 0])), (fq, .inr (4, [.int vx_6, .ref qd_7, .int 1]))]) hP hD [0, 1, 9] [2, 3, 4, 5, 6, 7, 8] rfl rfl (by decide) (by decide) hk1 hFc hP1 hD1
    generalize H1 = H at hP hS ⊢
    have hP : va_P (dC, dI) vwCl [(sq, .inr (4, [.int 0, .ref tE, .int 0])), (gq, .inr (4, [.int 0, .ref tE, .int 0])), (nq, .inr (8, [.int 0, .ref tq, .ref zq, .ref wq])), (mq, .inr (11, [.int 0, .int 0, .int 0, .int 0, .ref rq, .ref sbq])), (rq, .inl (ci, 119, .inl (fun _ => 0))), (sbq, .inr (1, [.ref vq, .int 0, .int 0, .int 0])), (vq, .inl (cv, 16, .inl (fun _ => 0))), (oq, .inl (co, 1, .inr (.inl (vp_updL (fun _ => 0) (0 : Int32).toNatClampNeg 0)))), (h0, .inr (10, [.ref fq, .ref sq, .ref gq, .ref nq, .ref dq, .ref pq, .int 0, .int 0, .int 0])), (fq, .inr (4, [.int vx_6, .ref qd_7, .int 1]))] H := hP
    have hD : va_D (fun q : Nat => s.heap.size ≤ q) [(sq, .inr (4, [.int 0, .ref tE, .int 0])), (gq, .inr (4, [.int 0, .ref tE, .int 0])), (nq, .inr (8, [.int 0, .ref tq, .ref zq, .ref wq])), (mq, .inr (11, [.int 0, .int 0, .int 0, .int 0, .ref rq, .ref sbq])), (rq, .inl (ci, 119, .inl (fun _ => 0))), (sbq, .inr (1, [.ref vq, .int 0, .int 0, .int 0])), (vq, .inl (cv, 16, .inl (fun _ => 0))), (oq, .inl (co, 1, .inr (.inl (vp_updL (fun _ => 0) (0 : Int32).toNatClampNeg 0)))), (h0, .inr (10, [.ref fq, .ref sq, .ref gq, .ref nq, .ref dq, .ref pq, .int 0, .int 0, .int 0])), (fq, .inr (4, [.int vx_6, .ref qd_7, .int 1]))] := hD
    refine W.widen (k := 52) (n := 870) (by omega) (by omega) ?_
    obtain rfl : r_5 = 0 := hw
    refine lv_istore (lv' := [(5, .int 0), (4, .int 0), (3, .ref oq), (2, .ref mq), (1, .ref h0), (0, .ref b)]) hx hb dL_law_143 hl (by decide) rfl (fun ls hl => ?_)
    refine lv_aload_n hx hb dL_law_145 rfl (lv_at hl 3 rfl) ?_
    refine lv_aload_n hx hb dL_law_146 rfl (lv_at hl 5 rfl) ?_
    refine lv_iload hx hb dL_law_147 (lv_at hl 1 rfl) ?_
    refine lv_iconst (v := 1) hx hb dL_law_149 (by decide) ?_
    refine lv_iadd hx hb dL_law_150 ?_
    refine lv_topi (fun x_8 e_9 => ?_)
    obtain rfl : x_8 = 1 := e_9.trans (by decide)
    refine va_sld hx hb hX hbl hbA hS (by unfold vp_in; decide) dL_law_151 ?_
    refine lv_topi (fun x_10 e_11 => ?_)
    obtain rfl : y1 = x_10 := ey1.trans e_11.symm
    have hPc := hP.sub (ws' := [(mq, .inr (11, [.int 0, .int 0, .int 0, .int 0, .ref rq, .ref sbq])), (rq, .inl (ci, 119, .inl (fun _ => 0)))]) [3, 4] rfl
    have hDc := hD.sub (ws' := [(mq, .inr (11, [.int 0, .int 0, .int 0, .int 0, .ref rq, .ref sbq])), (rq, .inl (ci, 119, .inl (fun _ => 0)))]) [3, 4] (by decide) rfl
    have hKc := hK.sub (tys' := [(ci, .int)]) [0] rfl
    have hFc := va_free (wc := [(mq, .inr (11, [.int 0, .int 0, .int 0, .int 0, .ref rq, .ref sbq])), (rq, .inl (ci, 119, .inl (fun _ => 0)))]) hD hS hA [3, 4] rfl
    refine va_calli (va_runV (As := [.int y1]) (rest := []) ⟨hx, hb, hml, hown, hts⟩ (c_M_addFloor_t l hl9 dC dI tE mq rq sbq 0 ci (fun _ => 0) y1 _ (by first | assumption | decide | omega) (by first | assumption | decide | omega)) (cwV 1 hts (goodIn_app (goodIn_r _ [65, 66, 67, 58] (by rfl) (by decide +kernel)) gg_law_c_M_addFloor_t) rfl rfl rfl (by decide +kernel) ⟨Nat.le_of_ble_eq_true rfl, Nat.le_of_ble_eq_true rfl⟩) ⟨Pre0.blind, va_recv hKc hPc (ci := 11) (q0 := 0) rfl rfl, Pre0.give hPc hKc hDc hT hS hFc⟩ rfl rfl hl.1 rfl (lv_room (Nat.le_of_ble_eq_true rfl)) dL_law_152 ⟨Nat.le_of_ble_eq_true rfl, Nat.le_of_ble_eq_true rfl⟩) hS (fun q _ h => hFc q h) hFc (fun r_12 u t H1 locs ht hvm hw hB hz1 hk1 hS => ?_)
    obtain ⟨fx_13, hP1, hK1, hD1⟩ := hB
    rw [ht] at hP1
    have hK1 := va_K.moved hvm.symm hK1
    obtain ⟨hP, hD⟩ := va_join (wr := [(sq, .inr (4, [.int 0, .ref tE, .int 0])), (gq, .inr (4, [.int 0, .ref tE, .int 0])), (nq, .inr (8, [.int 0, .ref tq, .ref zq, .ref wq])), (sbq, .inr (1, [.ref vq, .int 0, .int 0, .int 0])), (vq, .inl (cv, 16, .inl (fun _ => 0))), (oq, .inl (co, 1, .inr (.inl (vp_updL (fun _ => 0) (0 : Int32).toNatClampNeg 0)))), (h0, .inr (10, [.ref fq, .ref sq, .ref gq, .ref nq, .ref dq, .ref pq, .int 0, .int 0, .int 0])), (fq, .inr (4, [.int vx_6, .ref qd_7, .int 1]))]) (w1 := [(mq, .inr (11, [.int 0, .int 1, .int 0, .int 0, .ref rq, .ref sbq])), (rq, .inl (ci, 119, .inl fx_13))]) hP hD [3, 4] [0, 1, 2, 5, 6, 7, 8, 9] rfl rfl (by decide) (by decide) hk1 hFc hP1 hD1
    generalize H1 = H at hP hS ⊢
    have hP : va_P (dC, dI) vwCl [(sq, .inr (4, [.int 0, .ref tE, .int 0])), (gq, .inr (4, [.int 0, .ref tE, .int 0])), (nq, .inr (8, [.int 0, .ref tq, .ref zq, .ref wq])), (sbq, .inr (1, [.ref vq, .int 0, .int 0, .int 0])), (vq, .inl (cv, 16, .inl (fun _ => 0))), (oq, .inl (co, 1, .inr (.inl (vp_updL (fun _ => 0) (0 : Int32).toNatClampNeg 0)))), (h0, .inr (10, [.ref fq, .ref sq, .ref gq, .ref nq, .ref dq, .ref pq, .int 0, .int 0, .int 0])), (fq, .inr (4, [.int vx_6, .ref qd_7, .int 1])), (mq, .inr (11, [.int 0, .int 1, .int 0, .int 0, .ref rq, .ref sbq])), (rq, .inl (ci, 119, .inl fx_13))] H := hP
    have hD : va_D (fun q : Nat => s.heap.size ≤ q) [(sq, .inr (4, [.int 0, .ref tE, .int 0])), (gq, .inr (4, [.int 0, .ref tE, .int 0])), (nq, .inr (8, [.int 0, .ref tq, .ref zq, .ref wq])), (sbq, .inr (1, [.ref vq, .int 0, .int 0, .int 0])), (vq, .inl (cv, 16, .inl (fun _ => 0))), (oq, .inl (co, 1, .inr (.inl (vp_updL (fun _ => 0) (0 : Int32).toNatClampNeg 0)))), (h0, .inr (10, [.ref fq, .ref sq, .ref gq, .ref nq, .ref dq, .ref pq, .int 0, .int 0, .int 0])), (fq, .inr (4, [.int vx_6, .ref qd_7, .int 1])), (mq, .inr (11, [.int 0, .int 1, .int 0, .int 0, .ref rq, .ref sbq])), (rq, .inl (ci, 119, .inl fx_13))] := hD
    refine W.widen (k := 52) (n := 870) (by omega) (by omega) ?_
    obtain rfl : r_12 = 0 := hw
    refine lv_istore (lv' := [(6, .int 0), (5, .int 0), (4, .int 0), (3, .ref oq), (2, .ref mq), (1, .ref h0), (0, .ref b)]) hx hb dL_law_155 hl (by decide) rfl (fun ls hl => ?_)
    refine lv_aload_n hx hb dL_law_157 rfl (lv_at hl 4 rfl) ?_
    have hPc := hP.sub (ws' := [(mq, .inr (11, [.int 0, .int 1, .int 0, .int 0, .ref rq, .ref sbq]))]) [8] rfl
    have hDc := hD.sub (ws' := [(mq, .inr (11, [.int 0, .int 1, .int 0, .int 0, .ref rq, .ref sbq]))]) [8] (by decide) rfl
    have hKc := hK.sub (tys' := []) [] rfl
    have hFc := va_free (wc := [(mq, .inr (11, [.int 0, .int 1, .int 0, .int 0, .ref rq, .ref sbq]))]) hD hS hA [8] rfl
    refine va_calli (va_runV (As := []) (rest := []) ⟨hx, hb, hml, hown, hts⟩ (c_M_thrown l hl9 dC dI tE mq rq sbq 0 1 0 0 _ ) (cwV 0 hts (goodIn_app (goodIn_r _ [69, 70, 71, 58] (by rfl) (by decide +kernel)) gg_law_c_M_thrown) rfl rfl rfl (by decide +kernel) ⟨Nat.le_of_ble_eq_true rfl, Nat.le_of_ble_eq_true rfl⟩) ⟨Pre0.blind, va_recv hKc hPc (ci := 11) (q0 := 0) rfl rfl, Pre0.give hPc hKc hDc hT hS hFc⟩ rfl rfl hl.1 rfl (lv_room (Nat.le_of_ble_eq_true rfl)) dL_law_158 ⟨Nat.le_of_ble_eq_true rfl, Nat.le_of_ble_eq_true rfl⟩) hS (fun q _ h => hFc q h) hFc (fun r_14 u t H1 locs ht hvm hw hB hz1 hk1 hS => ?_)
    obtain ⟨hP1, hK1, hD1⟩ := hB
    rw [ht] at hP1
    have hK1 := va_K.moved hvm.symm hK1
    obtain ⟨hP, hD⟩ := va_join (wr := [(sq, .inr (4, [.int 0, .ref tE, .int 0])), (gq, .inr (4, [.int 0, .ref tE, .int 0])), (nq, .inr (8, [.int 0, .ref tq, .ref zq, .ref wq])), (sbq, .inr (1, [.ref vq, .int 0, .int 0, .int 0])), (vq, .inl (cv, 16, .inl (fun _ => 0))), (oq, .inl (co, 1, .inr (.inl (vp_updL (fun _ => 0) (0 : Int32).toNatClampNeg 0)))), (h0, .inr (10, [.ref fq, .ref sq, .ref gq, .ref nq, .ref dq, .ref pq, .int 0, .int 0, .int 0])), (fq, .inr (4, [.int vx_6, .ref qd_7, .int 1])), (rq, .inl (ci, 119, .inl fx_13))]) (w1 := [(mq, .inr (11, [.int 0, .int 1, .int 0, .int 0, .ref rq, .ref sbq]))]) hP hD [8] [0, 1, 2, 3, 4, 5, 6, 7, 9] rfl rfl (by decide) (by decide) hk1 hFc hP1 hD1
    generalize H1 = H at hP hS ⊢
    have hP : va_P (dC, dI) vwCl [(sq, .inr (4, [.int 0, .ref tE, .int 0])), (gq, .inr (4, [.int 0, .ref tE, .int 0])), (nq, .inr (8, [.int 0, .ref tq, .ref zq, .ref wq])), (sbq, .inr (1, [.ref vq, .int 0, .int 0, .int 0])), (vq, .inl (cv, 16, .inl (fun _ => 0))), (oq, .inl (co, 1, .inr (.inl (vp_updL (fun _ => 0) (0 : Int32).toNatClampNeg 0)))), (h0, .inr (10, [.ref fq, .ref sq, .ref gq, .ref nq, .ref dq, .ref pq, .int 0, .int 0, .int 0])), (fq, .inr (4, [.int vx_6, .ref qd_7, .int 1])), (rq, .inl (ci, 119, .inl fx_13)), (mq, .inr (11, [.int 0, .int 1, .int 0, .int 0, .ref rq, .ref sbq]))] H := hP
    have hD : va_D (fun q : Nat => s.heap.size ≤ q) [(sq, .inr (4, [.int 0, .ref tE, .int 0])), (gq, .inr (4, [.int 0, .ref tE, .int 0])), (nq, .inr (8, [.int 0, .ref tq, .ref zq, .ref wq])), (sbq, .inr (1, [.ref vq, .int 0, .int 0, .int 0])), (vq, .inl (cv, 16, .inl (fun _ => 0))), (oq, .inl (co, 1, .inr (.inl (vp_updL (fun _ => 0) (0 : Int32).toNatClampNeg 0)))), (h0, .inr (10, [.ref fq, .ref sq, .ref gq, .ref nq, .ref dq, .ref pq, .int 0, .int 0, .int 0])), (fq, .inr (4, [.int vx_6, .ref qd_7, .int 1])), (rq, .inl (ci, 119, .inl fx_13)), (mq, .inr (11, [.int 0, .int 1, .int 0, .int 0, .ref rq, .ref sbq]))] := hD
    refine W.widen (k := 52) (n := 870) (by omega) (by omega) ?_
    obtain rfl : r_14 = 0 := hw
    refine lv_iload hx hb dL_law_161 (lv_at hl 1 rfl) ?_
    refine lv_icmp_eq (tgt := 168) hx hb dL_law_163 (by decide) (fun _ => ?_) (fun c_15 => absurd (by decide) c_15)
    refine lv_iload hx hb dL_law_168 (lv_at hl 1 rfl) ?_
    refine lv_if_ne (tgt := 185) hx hb dL_law_170 (by decide) (fun c_16 => absurd (by decide) c_16) (fun _ => ?_)
    refine lv_aload_n hx hb dL_law_173 rfl (lv_at hl 3 rfl) ?_
    refine lv_iconst (v := 0) hx hb dL_law_174 (by decide) ?_
    refine va_lald hx hb hK hP 5 2 rfl rfl (by unfold vp_in; decide) dL_law_175 ?_
    refine lv_topl (fun x_17 e_18 => ?_)
    obtain rfl : x_17 = 0 := e_18.trans (by simp [vp_updL])
    refine lv_iload hx hb dL_law_176 (lv_at hl 0 rfl) ?_
    refine lv_i2l (v := 0) hx hb dL_law_178 (by decide) ?_
    refine W.lcmp hx hb dL_law_179 ?_
    refine lv_topi (fun x_19 e_20 => ?_)
    obtain rfl : x_19 = 0 := e_20.trans (cmp_self _)
    refine lv_if_eq (tgt := 185) hx hb dL_law_180 (by decide) (fun _ => ?_) (fun c_21 => absurd (by decide) c_21)
    refine lv_goto (tgt := 1303) hx hb dL_law_185 (by decide) ?_
    exact law_next l C0 (by omega) (by omega) hS ls (lv_sub hl [2, 6] rfl)
  · have hPc := hP.sub (ws' := [(h0, .inr (10, [.ref fq, .ref sq, .ref gq, .ref nq, .ref dq, .ref pq, .int 0, .int 0, .int 0])), (fq, .inr (4, [.int 0, .ref tE, .int 0]))]) [0, 1] rfl
    have hDc := hD.sub (ws' := [(h0, .inr (10, [.ref fq, .ref sq, .ref gq, .ref nq, .ref dq, .ref pq, .int 0, .int 0, .int 0])), (fq, .inr (4, [.int 0, .ref tE, .int 0]))]) [0, 1] (by decide) rfl
    have hKc := hK.sub (tys' := []) [] rfl
    have hFc := va_free (wc := [(h0, .inr (10, [.ref fq, .ref sq, .ref gq, .ref nq, .ref dq, .ref pq, .int 0, .int 0, .int 0])), (fq, .inr (4, [.int 0, .ref tE, .int 0]))]) hD hS hA [0, 1] rfl
    refine va_calli (vx_runSW (As := [.ref h0, .int y1, .ref oq]) (rest := []) ⟨hx, hb, hml, hown, hts⟩ (w_addFloor_f l hl9 dC dI tE h0 fq sq gq nq dq pq 0 0 0 0 y1 oq _ h) (vx_cwSW 3 hts (goodIn_app (goodIn_r _ [50, 51, 52] (by rfl) (by decide +kernel)) gt_law_w_addFloor_f) rfl rfl rfl (by decide +kernel) ⟨Nat.le_of_ble_eq_true rfl, Nat.le_of_ble_eq_true rfl⟩) ⟨Pre0.blind, Pre0.give hPc hKc hDc hT hS hFc⟩ rfl rfl hl.1 rfl (lv_room (Nat.le_of_ble_eq_true rfl)) dL_law_140 ⟨Nat.le_of_ble_eq_true rfl, Nat.le_of_ble_eq_true rfl⟩) hS (fun q _ h => hFc q h) hFc (fun r_22 u t H1 locs ht hvm hw hB hz1 hk1 hS => ?_)
    obtain ⟨hP1, hK1, hD1⟩ := hB
    rw [ht] at hP1
    have hK1 := va_K.moved hvm.symm hK1
    obtain ⟨hP, hD⟩ := va_join (wr := [(sq, .inr (4, [.int 0, .ref tE, .int 0])), (gq, .inr (4, [.int 0, .ref tE, .int 0])), (nq, .inr (8, [.int 0, .ref tq, .ref zq, .ref wq])), (mq, .inr (11, [.int 0, .int 0, .int 0, .int 0, .ref rq, .ref sbq])), (rq, .inl (ci, 119, .inl (fun _ => 0))), (sbq, .inr (1, [.ref vq, .int 0, .int 0, .int 0])), (vq, .inl (cv, 16, .inl (fun _ => 0))), (oq, .inl (co, 1, .inr (.inl (fun _ => 0))))]) (w1 := [(h0, .inr (10, [.ref fq, .ref sq, .ref gq, .ref nq, .ref dq, .ref pq, .int 0, .int 0, .int 0])), (fq, .inr (4, [.int 0, .ref tE, .int 0]))]) hP hD [0, 1] [2, 3, 4, 5, 6, 7, 8, 9] rfl rfl (by decide) (by decide) hk1 hFc hP1 hD1
    generalize H1 = H at hP hS ⊢
    have hP : va_P (dC, dI) vwCl [(sq, .inr (4, [.int 0, .ref tE, .int 0])), (gq, .inr (4, [.int 0, .ref tE, .int 0])), (nq, .inr (8, [.int 0, .ref tq, .ref zq, .ref wq])), (mq, .inr (11, [.int 0, .int 0, .int 0, .int 0, .ref rq, .ref sbq])), (rq, .inl (ci, 119, .inl (fun _ => 0))), (sbq, .inr (1, [.ref vq, .int 0, .int 0, .int 0])), (vq, .inl (cv, 16, .inl (fun _ => 0))), (oq, .inl (co, 1, .inr (.inl (fun _ => 0)))), (h0, .inr (10, [.ref fq, .ref sq, .ref gq, .ref nq, .ref dq, .ref pq, .int 0, .int 0, .int 0])), (fq, .inr (4, [.int 0, .ref tE, .int 0]))] H := hP
    have hD : va_D (fun q : Nat => s.heap.size ≤ q) [(sq, .inr (4, [.int 0, .ref tE, .int 0])), (gq, .inr (4, [.int 0, .ref tE, .int 0])), (nq, .inr (8, [.int 0, .ref tq, .ref zq, .ref wq])), (mq, .inr (11, [.int 0, .int 0, .int 0, .int 0, .ref rq, .ref sbq])), (rq, .inl (ci, 119, .inl (fun _ => 0))), (sbq, .inr (1, [.ref vq, .int 0, .int 0, .int 0])), (vq, .inl (cv, 16, .inl (fun _ => 0))), (oq, .inl (co, 1, .inr (.inl (fun _ => 0)))), (h0, .inr (10, [.ref fq, .ref sq, .ref gq, .ref nq, .ref dq, .ref pq, .int 0, .int 0, .int 0])), (fq, .inr (4, [.int 0, .ref tE, .int 0]))] := hD
    refine W.widen (k := 51) (n := 862) (by omega) (by omega) ?_
    obtain rfl : r_22 = 1 := hw
    refine lv_istore (lv' := [(5, .int 1), (4, .int 0), (3, .ref oq), (2, .ref mq), (1, .ref h0), (0, .ref b)]) hx hb dL_law_143 hl (by decide) rfl (fun ls hl => ?_)
    refine lv_aload_n hx hb dL_law_145 rfl (lv_at hl 3 rfl) ?_
    refine lv_aload_n hx hb dL_law_146 rfl (lv_at hl 5 rfl) ?_
    refine lv_iload hx hb dL_law_147 (lv_at hl 1 rfl) ?_
    refine lv_iconst (v := 1) hx hb dL_law_149 (by decide) ?_
    refine lv_iadd hx hb dL_law_150 ?_
    refine lv_topi (fun x_23 e_24 => ?_)
    obtain rfl : x_23 = 1 := e_24.trans (by decide)
    refine va_sld hx hb hX hbl hbA hS (by unfold vp_in; decide) dL_law_151 ?_
    refine lv_topi (fun x_25 e_26 => ?_)
    obtain rfl : y1 = x_25 := ey1.trans e_26.symm
    have hPc := hP.sub (ws' := [(mq, .inr (11, [.int 0, .int 0, .int 0, .int 0, .ref rq, .ref sbq]))]) [3] rfl
    have hDc := hD.sub (ws' := [(mq, .inr (11, [.int 0, .int 0, .int 0, .int 0, .ref rq, .ref sbq]))]) [3] (by decide) rfl
    have hKc := hK.sub (tys' := []) [] rfl
    have hFc := va_free (wc := [(mq, .inr (11, [.int 0, .int 0, .int 0, .int 0, .ref rq, .ref sbq]))]) hD hS hA [3] rfl
    refine va_calli (va_runV (As := [.int y1]) (rest := []) ⟨hx, hb, hml, hown, hts⟩ (c_M_addFloor_f l hl9 dC dI tE mq rq sbq 0 y1 _ (by first | assumption | decide | omega)) (cwV 1 hts (goodIn_app (goodIn_r _ [65, 66, 67, 58] (by rfl) (by decide +kernel)) gg_law_c_M_addFloor_f) rfl rfl rfl (by decide +kernel) ⟨Nat.le_of_ble_eq_true rfl, Nat.le_of_ble_eq_true rfl⟩) ⟨Pre0.blind, va_recv hKc hPc (ci := 11) (q0 := 0) rfl rfl, Pre0.give hPc hKc hDc hT hS hFc⟩ rfl rfl hl.1 rfl (lv_room (Nat.le_of_ble_eq_true rfl)) dL_law_152 ⟨Nat.le_of_ble_eq_true rfl, Nat.le_of_ble_eq_true rfl⟩) hS (fun q _ h => hFc q h) hFc (fun r_27 u t H1 locs ht hvm hw hB hz1 hk1 hS => ?_)
    obtain ⟨hP1, hK1, hD1⟩ := hB
    rw [ht] at hP1
    have hK1 := va_K.moved hvm.symm hK1
    obtain ⟨hP, hD⟩ := va_join (wr := [(sq, .inr (4, [.int 0, .ref tE, .int 0])), (gq, .inr (4, [.int 0, .ref tE, .int 0])), (nq, .inr (8, [.int 0, .ref tq, .ref zq, .ref wq])), (rq, .inl (ci, 119, .inl (fun _ => 0))), (sbq, .inr (1, [.ref vq, .int 0, .int 0, .int 0])), (vq, .inl (cv, 16, .inl (fun _ => 0))), (oq, .inl (co, 1, .inr (.inl (fun _ => 0)))), (h0, .inr (10, [.ref fq, .ref sq, .ref gq, .ref nq, .ref dq, .ref pq, .int 0, .int 0, .int 0])), (fq, .inr (4, [.int 0, .ref tE, .int 0]))]) (w1 := [(mq, .inr (11, [.int 1, .int 0, .int 0, .int 0, .ref rq, .ref sbq]))]) hP hD [3] [0, 1, 2, 4, 5, 6, 7, 8, 9] rfl rfl (by decide) (by decide) hk1 hFc hP1 hD1
    generalize H1 = H at hP hS ⊢
    have hP : va_P (dC, dI) vwCl [(sq, .inr (4, [.int 0, .ref tE, .int 0])), (gq, .inr (4, [.int 0, .ref tE, .int 0])), (nq, .inr (8, [.int 0, .ref tq, .ref zq, .ref wq])), (rq, .inl (ci, 119, .inl (fun _ => 0))), (sbq, .inr (1, [.ref vq, .int 0, .int 0, .int 0])), (vq, .inl (cv, 16, .inl (fun _ => 0))), (oq, .inl (co, 1, .inr (.inl (fun _ => 0)))), (h0, .inr (10, [.ref fq, .ref sq, .ref gq, .ref nq, .ref dq, .ref pq, .int 0, .int 0, .int 0])), (fq, .inr (4, [.int 0, .ref tE, .int 0])), (mq, .inr (11, [.int 1, .int 0, .int 0, .int 0, .ref rq, .ref sbq]))] H := hP
    have hD : va_D (fun q : Nat => s.heap.size ≤ q) [(sq, .inr (4, [.int 0, .ref tE, .int 0])), (gq, .inr (4, [.int 0, .ref tE, .int 0])), (nq, .inr (8, [.int 0, .ref tq, .ref zq, .ref wq])), (rq, .inl (ci, 119, .inl (fun _ => 0))), (sbq, .inr (1, [.ref vq, .int 0, .int 0, .int 0])), (vq, .inl (cv, 16, .inl (fun _ => 0))), (oq, .inl (co, 1, .inr (.inl (fun _ => 0)))), (h0, .inr (10, [.ref fq, .ref sq, .ref gq, .ref nq, .ref dq, .ref pq, .int 0, .int 0, .int 0])), (fq, .inr (4, [.int 0, .ref tE, .int 0])), (mq, .inr (11, [.int 1, .int 0, .int 0, .int 0, .ref rq, .ref sbq]))] := hD
    refine W.widen (k := 51) (n := 862) (by omega) (by omega) ?_
    obtain rfl : r_27 = 0 := hw
    refine lv_istore (lv' := [(6, .int 0), (5, .int 1), (4, .int 0), (3, .ref oq), (2, .ref mq), (1, .ref h0), (0, .ref b)]) hx hb dL_law_155 hl (by decide) rfl (fun ls hl => ?_)
    refine lv_aload_n hx hb dL_law_157 rfl (lv_at hl 4 rfl) ?_
    have hPc := hP.sub (ws' := [(mq, .inr (11, [.int 1, .int 0, .int 0, .int 0, .ref rq, .ref sbq]))]) [9] rfl
    have hDc := hD.sub (ws' := [(mq, .inr (11, [.int 1, .int 0, .int 0, .int 0, .ref rq, .ref sbq]))]) [9] (by decide) rfl
    have hKc := hK.sub (tys' := []) [] rfl
    have hFc := va_free (wc := [(mq, .inr (11, [.int 1, .int 0, .int 0, .int 0, .ref rq, .ref sbq]))]) hD hS hA [9] rfl
    refine va_calli (va_runV (As := []) (rest := []) ⟨hx, hb, hml, hown, hts⟩ (c_M_thrown l hl9 dC dI tE mq rq sbq 1 0 0 0 _ ) (cwV 0 hts (goodIn_app (goodIn_r _ [69, 70, 71, 58] (by rfl) (by decide +kernel)) gg_law_c_M_thrown) rfl rfl rfl (by decide +kernel) ⟨Nat.le_of_ble_eq_true rfl, Nat.le_of_ble_eq_true rfl⟩) ⟨Pre0.blind, va_recv hKc hPc (ci := 11) (q0 := 0) rfl rfl, Pre0.give hPc hKc hDc hT hS hFc⟩ rfl rfl hl.1 rfl (lv_room (Nat.le_of_ble_eq_true rfl)) dL_law_158 ⟨Nat.le_of_ble_eq_true rfl, Nat.le_of_ble_eq_true rfl⟩) hS (fun q _ h => hFc q h) hFc (fun r_28 u t H1 locs ht hvm hw hB hz1 hk1 hS => ?_)
    obtain ⟨hP1, hK1, hD1⟩ := hB
    rw [ht] at hP1
    have hK1 := va_K.moved hvm.symm hK1
    obtain ⟨hP, hD⟩ := va_join (wr := [(sq, .inr (4, [.int 0, .ref tE, .int 0])), (gq, .inr (4, [.int 0, .ref tE, .int 0])), (nq, .inr (8, [.int 0, .ref tq, .ref zq, .ref wq])), (rq, .inl (ci, 119, .inl (fun _ => 0))), (sbq, .inr (1, [.ref vq, .int 0, .int 0, .int 0])), (vq, .inl (cv, 16, .inl (fun _ => 0))), (oq, .inl (co, 1, .inr (.inl (fun _ => 0)))), (h0, .inr (10, [.ref fq, .ref sq, .ref gq, .ref nq, .ref dq, .ref pq, .int 0, .int 0, .int 0])), (fq, .inr (4, [.int 0, .ref tE, .int 0]))]) (w1 := [(mq, .inr (11, [.int 1, .int 0, .int 0, .int 0, .ref rq, .ref sbq]))]) hP hD [9] [0, 1, 2, 3, 4, 5, 6, 7, 8] rfl rfl (by decide) (by decide) hk1 hFc hP1 hD1
    generalize H1 = H at hP hS ⊢
    have hP : va_P (dC, dI) vwCl [(sq, .inr (4, [.int 0, .ref tE, .int 0])), (gq, .inr (4, [.int 0, .ref tE, .int 0])), (nq, .inr (8, [.int 0, .ref tq, .ref zq, .ref wq])), (rq, .inl (ci, 119, .inl (fun _ => 0))), (sbq, .inr (1, [.ref vq, .int 0, .int 0, .int 0])), (vq, .inl (cv, 16, .inl (fun _ => 0))), (oq, .inl (co, 1, .inr (.inl (fun _ => 0)))), (h0, .inr (10, [.ref fq, .ref sq, .ref gq, .ref nq, .ref dq, .ref pq, .int 0, .int 0, .int 0])), (fq, .inr (4, [.int 0, .ref tE, .int 0])), (mq, .inr (11, [.int 1, .int 0, .int 0, .int 0, .ref rq, .ref sbq]))] H := hP
    have hD : va_D (fun q : Nat => s.heap.size ≤ q) [(sq, .inr (4, [.int 0, .ref tE, .int 0])), (gq, .inr (4, [.int 0, .ref tE, .int 0])), (nq, .inr (8, [.int 0, .ref tq, .ref zq, .ref wq])), (rq, .inl (ci, 119, .inl (fun _ => 0))), (sbq, .inr (1, [.ref vq, .int 0, .int 0, .int 0])), (vq, .inl (cv, 16, .inl (fun _ => 0))), (oq, .inl (co, 1, .inr (.inl (fun _ => 0)))), (h0, .inr (10, [.ref fq, .ref sq, .ref gq, .ref nq, .ref dq, .ref pq, .int 0, .int 0, .int 0])), (fq, .inr (4, [.int 0, .ref tE, .int 0])), (mq, .inr (11, [.int 1, .int 0, .int 0, .int 0, .ref rq, .ref sbq]))] := hD
    refine W.widen (k := 51) (n := 862) (by omega) (by omega) ?_
    obtain rfl : r_28 = 1 := hw
    refine lv_iload hx hb dL_law_161 (lv_at hl 1 rfl) ?_
    refine lv_icmp_eq (tgt := 168) hx hb dL_law_163 (by decide) (fun _ => ?_) (fun c_29 => absurd (by decide) c_29)
    refine lv_iload hx hb dL_law_168 (lv_at hl 1 rfl) ?_
    refine lv_if_ne (tgt := 185) hx hb dL_law_170 (by decide) (fun _ => ?_) (fun c_30 => absurd c_30 (by decide))
    refine lv_goto (tgt := 1303) hx hb dL_law_185 (by decide) ?_
    exact law_next l C0 (by omega) (by omega) hS ls (lv_sub hl [2, 6] rfl)
set_option maxHeartbeats 4000000 in
set_option maxRecDepth 100000 in
theorem law_setTune {p : Program} {e : Env} {s : State} {m : MethodId} {below : List Frame} {meth : Method} {c : Code} (l : Launch) (hl9 : l.stackTraces = false) {b : Nat} {xs : Nat → Int32} (C0 : lw_At p s m meth c b 4 xs) (dC : Nat → ClassId) (dI : Nat → Nat → Nat) (tE : Nat) (h0 fq sq gq nq tq zq wq dq pq mq rq sbq vq oq : Nat) (ci cv co : ClassId) (hT : tK tE (fun q : Nat => s.heap.size ≤ q) s s.heap) (hK : va_K (dC, dI) vwCl [(ci, .int), (cv, .byte), (co, .long)] s) {H : Heap} {locs : List Loc} (hP : va_P (dC, dI) vwCl [(h0, .inr (10, [.ref fq, .ref sq, .ref gq, .ref nq, .ref dq, .ref pq, .int 0, .int 0, .int 0])), (fq, .inr (4, [.int 0, .ref tE, .int 0])), (sq, .inr (4, [.int 0, .ref tE, .int 0])), (gq, .inr (4, [.int 0, .ref tE, .int 0])), (nq, .inr (8, [.int 0, .ref tq, .ref zq, .ref wq])), (mq, .inr (11, [.int 0, .int 0, .int 0, .int 0, .ref rq, .ref sbq])), (rq, .inl (ci, 119, .inl (fun _ => 0))), (sbq, .inr (1, [.ref vq, .int 0, .int 0, .int 0])), (vq, .inl (cv, 16, .inl (fun _ => 0))), (oq, .inl (co, 1, .inr (.inl (fun _ => 0))))] H) (hD : va_D (fun q : Nat => s.heap.size ≤ q) [(h0, .inr (10, [.ref fq, .ref sq, .ref gq, .ref nq, .ref dq, .ref pq, .int 0, .int 0, .int 0])), (fq, .inr (4, [.int 0, .ref tE, .int 0])), (sq, .inr (4, [.int 0, .ref tE, .int 0])), (gq, .inr (4, [.int 0, .ref tE, .int 0])), (nq, .inr (8, [.int 0, .ref tq, .ref zq, .ref wq])), (mq, .inr (11, [.int 0, .int 0, .int 0, .int 0, .ref rq, .ref sbq])), (rq, .inl (ci, 119, .inl (fun _ => 0))), (sbq, .inr (1, [.ref vq, .int 0, .int 0, .int 0])), (vq, .inl (cv, 16, .inl (fun _ => 0))), (oq, .inl (co, 1, .inr (.inl (fun _ => 0))))]) (hS : va_S (fun q : Nat => s.heap.size ≤ q) s.heap H locs) (ls : Array Slot) (hl : lv_has ls 9 [(4, .int 0), (3, .ref oq), (2, .ref mq), (1, .ref h0), (0, .ref b)]) : W p l e room_1 s m #[Value.ref b] below meth c H locs 50 856 (lw_Z below #[Value.ref b] s) (F0 m 188 ls []) := by
  obtain ⟨hx, hb, hr, hml, hown, hts, hX, hbl, hlocks, hgv⟩ := id C0
  have hts := law_hts hts
  have hA : ∀ q : Nat, s.heap.size ≤ q → (fun q : Nat => s.heap.size ≤ q) q := fun _ h => h
  have hbA : ¬ (fun q : Nat => s.heap.size ≤ q) b := Nat.not_le.mpr hbl
  refine lv_aload_n hx hb dL_law_188 rfl (lv_at hl 3 rfl) ?_
  refine lv_aload_n hx hb dL_law_189 rfl (lv_at hl 4 rfl) ?_
  refine lv_iload hx hb dL_law_190 (lv_at hl 0 rfl) ?_
  refine lv_iconst (v := 1) hx hb dL_law_192 (by decide) ?_
  refine lv_iadd hx hb dL_law_193 ?_
  refine lv_topi (fun x_1 e_2 => ?_)
  obtain rfl : x_1 = 1 := e_2.trans (by decide)
  refine va_sld hx hb hX hbl hbA hS (by unfold vp_in; decide) dL_law_194 ?_
  refine lv_topi (fun y1 ey1 => ?_)
  refine lv_aload_n hx hb dL_law_195 rfl (lv_at hl 4 rfl) ?_
  refine lv_iload hx hb dL_law_196 (lv_at hl 0 rfl) ?_
  refine lv_iconst (v := 2) hx hb dL_law_198 (by decide) ?_
  refine lv_iadd hx hb dL_law_199 ?_
  refine lv_topi (fun x_5 e_6 => ?_)
  obtain rfl : x_5 = 2 := e_6.trans (by decide)
  refine va_sld hx hb hX hbl hbA hS (by unfold vp_in; decide) dL_law_200 ?_
  refine lv_topi (fun y2 ey2 => ?_)
  refine lv_aload_n hx hb dL_law_201 rfl (lv_at hl 4 rfl) ?_
  refine lv_iload hx hb dL_law_202 (lv_at hl 0 rfl) ?_
  refine lv_iconst (v := 3) hx hb dL_law_204 (by decide) ?_
  refine lv_iadd hx hb dL_law_205 ?_
  refine lv_topi (fun x_9 e_10 => ?_)
  obtain rfl : x_9 = 3 := e_10.trans (by decide)
  refine va_sld hx hb hX hbl hbA hS (by unfold vp_in; decide) dL_law_206 ?_
  refine lv_topi (fun y3 ey3 => ?_)
  refine lv_aload_n hx hb dL_law_207 rfl (lv_at hl 1 rfl) ?_
  have hPc := hP.sub (ws' := [(h0, .inr (10, [.ref fq, .ref sq, .ref gq, .ref nq, .ref dq, .ref pq, .int 0, .int 0, .int 0])), (fq, .inr (4, [.int 0, .ref tE, .int 0]))]) [0, 1] rfl
  have hDc := hD.sub (ws' := [(h0, .inr (10, [.ref fq, .ref sq, .ref gq, .ref nq, .ref dq, .ref pq, .int 0, .int 0, .int 0])), (fq, .inr (4, [.int 0, .ref tE, .int 0]))]) [0, 1] (by decide) rfl
  have hKc := hK.sub (tys' := []) [] rfl
  have hFc := va_free (wc := [(h0, .inr (10, [.ref fq, .ref sq, .ref gq, .ref nq, .ref dq, .ref pq, .int 0, .int 0, .int 0])), (fq, .inr (4, [.int 0, .ref tE, .int 0]))]) hD hS hA [0, 1] rfl
  refine va_calli (vx_runSW (As := [.ref h0, .int y1, .int y2, .int y3, .ref oq]) (rest := []) ⟨hx, hb, hml, hown, hts⟩ (w_setTune l hl9 dC dI tE h0 fq sq gq nq dq pq 0 0 0 0 y1 y2 y3 oq _ ) (vx_cwSW 5 hts (goodIn_app (goodIn_r _ [91, 92, 52] (by rfl) (by decide +kernel)) gt_law_w_setTune) rfl rfl rfl (by decide +kernel) ⟨Nat.le_of_ble_eq_true rfl, Nat.le_of_ble_eq_true rfl⟩) ⟨Pre0.blind, Pre0.give hPc hKc hDc hT hS hFc⟩ rfl rfl hl.1 rfl (lv_room (Nat.le_of_ble_eq_true rfl)) dL_law_208 ⟨Nat.le_of_ble_eq_true rfl, Nat.le_of_ble_eq_true rfl⟩) hS (fun q _ h => hFc q h) hFc (fun r_13 u t H1 locs ht hvm hw hB hz1 hk1 hS => ?_)
  obtain ⟨hP1, hK1, hD1⟩ := hB
  rw [ht] at hP1
  have hK1 := va_K.moved hvm.symm hK1
  obtain ⟨hP, hD⟩ := va_join (wr := [(sq, .inr (4, [.int 0, .ref tE, .int 0])), (gq, .inr (4, [.int 0, .ref tE, .int 0])), (nq, .inr (8, [.int 0, .ref tq, .ref zq, .ref wq])), (mq, .inr (11, [.int 0, .int 0, .int 0, .int 0, .ref rq, .ref sbq])), (rq, .inl (ci, 119, .inl (fun _ => 0))), (sbq, .inr (1, [.ref vq, .int 0, .int 0, .int 0])), (vq, .inl (cv, 16, .inl (fun _ => 0))), (oq, .inl (co, 1, .inr (.inl (fun _ => 0))))]) (w1 := [(h0, .inr (10, [.ref fq, .ref sq, .ref gq, .ref nq, .ref dq, .ref pq, .int 0, .int 0, .int 0])), (fq, .inr (4, [.int 0, .ref tE, .int 0]))]) hP hD [0, 1] [2, 3, 4, 5, 6, 7, 8, 9] rfl rfl (by decide) (by decide) hk1 hFc hP1 hD1
  generalize H1 = H at hP hS ⊢
  have hP : va_P (dC, dI) vwCl [(sq, .inr (4, [.int 0, .ref tE, .int 0])), (gq, .inr (4, [.int 0, .ref tE, .int 0])), (nq, .inr (8, [.int 0, .ref tq, .ref zq, .ref wq])), (mq, .inr (11, [.int 0, .int 0, .int 0, .int 0, .ref rq, .ref sbq])), (rq, .inl (ci, 119, .inl (fun _ => 0))), (sbq, .inr (1, [.ref vq, .int 0, .int 0, .int 0])), (vq, .inl (cv, 16, .inl (fun _ => 0))), (oq, .inl (co, 1, .inr (.inl (fun _ => 0)))), (h0, .inr (10, [.ref fq, .ref sq, .ref gq, .ref nq, .ref dq, .ref pq, .int 0, .int 0, .int 0])), (fq, .inr (4, [.int 0, .ref tE, .int 0]))] H := hP
  have hD : va_D (fun q : Nat => s.heap.size ≤ q) [(sq, .inr (4, [.int 0, .ref tE, .int 0])), (gq, .inr (4, [.int 0, .ref tE, .int 0])), (nq, .inr (8, [.int 0, .ref tq, .ref zq, .ref wq])), (mq, .inr (11, [.int 0, .int 0, .int 0, .int 0, .ref rq, .ref sbq])), (rq, .inl (ci, 119, .inl (fun _ => 0))), (sbq, .inr (1, [.ref vq, .int 0, .int 0, .int 0])), (vq, .inl (cv, 16, .inl (fun _ => 0))), (oq, .inl (co, 1, .inr (.inl (fun _ => 0)))), (h0, .inr (10, [.ref fq, .ref sq, .ref gq, .ref nq, .ref dq, .ref pq, .int 0, .int 0, .int 0])), (fq, .inr (4, [.int 0, .ref tE, .int 0]))] := hD
  refine W.widen (k := 51) (n := 862) (by omega) (by omega) ?_
  obtain rfl : r_13 = 1 := hw
  refine lv_istore (lv' := [(5, .int 1), (4, .int 0), (3, .ref oq), (2, .ref mq), (1, .ref h0), (0, .ref b)]) hx hb dL_law_211 hl (by decide) rfl (fun ls hl => ?_)
  refine lv_aload_n hx hb dL_law_213 rfl (lv_at hl 3 rfl) ?_
  refine lv_aload_n hx hb dL_law_214 rfl (lv_at hl 5 rfl) ?_
  refine lv_iload hx hb dL_law_215 (lv_at hl 1 rfl) ?_
  refine lv_iconst (v := 1) hx hb dL_law_217 (by decide) ?_
  refine lv_iadd hx hb dL_law_218 ?_
  refine lv_topi (fun x_14 e_15 => ?_)
  obtain rfl : x_14 = 1 := e_15.trans (by decide)
  refine va_sld hx hb hX hbl hbA hS (by unfold vp_in; decide) dL_law_219 ?_
  refine lv_topi (fun x_16 e_17 => ?_)
  obtain rfl : y1 = x_16 := ey1.trans e_17.symm
  refine lv_aload_n hx hb dL_law_220 rfl (lv_at hl 5 rfl) ?_
  refine lv_iload hx hb dL_law_221 (lv_at hl 1 rfl) ?_
  refine lv_iconst (v := 2) hx hb dL_law_223 (by decide) ?_
  refine lv_iadd hx hb dL_law_224 ?_
  refine lv_topi (fun x_18 e_19 => ?_)
  obtain rfl : x_18 = 2 := e_19.trans (by decide)
  refine va_sld hx hb hX hbl hbA hS (by unfold vp_in; decide) dL_law_225 ?_
  refine lv_topi (fun x_20 e_21 => ?_)
  obtain rfl : y2 = x_20 := ey2.trans e_21.symm
  refine lv_aload_n hx hb dL_law_226 rfl (lv_at hl 5 rfl) ?_
  refine lv_iload hx hb dL_law_227 (lv_at hl 1 rfl) ?_
  refine lv_iconst (v := 3) hx hb dL_law_229 (by decide) ?_
  refine lv_iadd hx hb dL_law_230 ?_
  refine lv_topi (fun x_22 e_23 => ?_)
  obtain rfl : x_22 = 3 := e_23.trans (by decide)
  refine va_sld hx hb hX hbl hbA hS (by unfold vp_in; decide) dL_law_231 ?_
  refine lv_topi (fun x_24 e_25 => ?_)
  obtain rfl : y3 = x_24 := ey3.trans e_25.symm
  have hPc := hP.sub (ws' := [(mq, .inr (11, [.int 0, .int 0, .int 0, .int 0, .ref rq, .ref sbq]))]) [3] rfl
  have hDc := hD.sub (ws' := [(mq, .inr (11, [.int 0, .int 0, .int 0, .int 0, .ref rq, .ref sbq]))]) [3] (by decide) rfl
  have hKc := hK.sub (tys' := []) [] rfl
  have hFc := va_free (wc := [(mq, .inr (11, [.int 0, .int 0, .int 0, .int 0, .ref rq, .ref sbq]))]) hD hS hA [3] rfl
  refine va_calli (va_runV (As := [.int y1, .int y2, .int y3]) (rest := []) ⟨hx, hb, hml, hown, hts⟩ (c_M_setTune l hl9 dC dI tE mq rq sbq 0 y1 y2 y3 _ ) (cwV 3 hts (goodIn_app (goodIn_r _ [98, 99, 100, 58] (by rfl) (by decide +kernel)) gg_law_c_M_setTune) rfl rfl rfl (by decide +kernel) ⟨Nat.le_of_ble_eq_true rfl, Nat.le_of_ble_eq_true rfl⟩) ⟨Pre0.blind, va_recv hKc hPc (ci := 11) (q0 := 0) rfl rfl, Pre0.give hPc hKc hDc hT hS hFc⟩ rfl rfl hl.1 rfl (lv_room (Nat.le_of_ble_eq_true rfl)) dL_law_232 ⟨Nat.le_of_ble_eq_true rfl, Nat.le_of_ble_eq_true rfl⟩) hS (fun q _ h => hFc q h) hFc (fun r_26 u t H1 locs ht hvm hw hB hz1 hk1 hS => ?_)
  obtain ⟨hP1, hK1, hD1⟩ := hB
  rw [ht] at hP1
  have hK1 := va_K.moved hvm.symm hK1
  obtain ⟨hP, hD⟩ := va_join (wr := [(sq, .inr (4, [.int 0, .ref tE, .int 0])), (gq, .inr (4, [.int 0, .ref tE, .int 0])), (nq, .inr (8, [.int 0, .ref tq, .ref zq, .ref wq])), (rq, .inl (ci, 119, .inl (fun _ => 0))), (sbq, .inr (1, [.ref vq, .int 0, .int 0, .int 0])), (vq, .inl (cv, 16, .inl (fun _ => 0))), (oq, .inl (co, 1, .inr (.inl (fun _ => 0)))), (h0, .inr (10, [.ref fq, .ref sq, .ref gq, .ref nq, .ref dq, .ref pq, .int 0, .int 0, .int 0])), (fq, .inr (4, [.int 0, .ref tE, .int 0]))]) (w1 := [(mq, .inr (11, [.int 1, .int 0, .int 0, .int 0, .ref rq, .ref sbq]))]) hP hD [3] [0, 1, 2, 4, 5, 6, 7, 8, 9] rfl rfl (by decide) (by decide) hk1 hFc hP1 hD1
  generalize H1 = H at hP hS ⊢
  have hP : va_P (dC, dI) vwCl [(sq, .inr (4, [.int 0, .ref tE, .int 0])), (gq, .inr (4, [.int 0, .ref tE, .int 0])), (nq, .inr (8, [.int 0, .ref tq, .ref zq, .ref wq])), (rq, .inl (ci, 119, .inl (fun _ => 0))), (sbq, .inr (1, [.ref vq, .int 0, .int 0, .int 0])), (vq, .inl (cv, 16, .inl (fun _ => 0))), (oq, .inl (co, 1, .inr (.inl (fun _ => 0)))), (h0, .inr (10, [.ref fq, .ref sq, .ref gq, .ref nq, .ref dq, .ref pq, .int 0, .int 0, .int 0])), (fq, .inr (4, [.int 0, .ref tE, .int 0])), (mq, .inr (11, [.int 1, .int 0, .int 0, .int 0, .ref rq, .ref sbq]))] H := hP
  have hD : va_D (fun q : Nat => s.heap.size ≤ q) [(sq, .inr (4, [.int 0, .ref tE, .int 0])), (gq, .inr (4, [.int 0, .ref tE, .int 0])), (nq, .inr (8, [.int 0, .ref tq, .ref zq, .ref wq])), (rq, .inl (ci, 119, .inl (fun _ => 0))), (sbq, .inr (1, [.ref vq, .int 0, .int 0, .int 0])), (vq, .inl (cv, 16, .inl (fun _ => 0))), (oq, .inl (co, 1, .inr (.inl (fun _ => 0)))), (h0, .inr (10, [.ref fq, .ref sq, .ref gq, .ref nq, .ref dq, .ref pq, .int 0, .int 0, .int 0])), (fq, .inr (4, [.int 0, .ref tE, .int 0])), (mq, .inr (11, [.int 1, .int 0, .int 0, .int 0, .ref rq, .ref sbq]))] := hD
  refine W.widen (k := 51) (n := 862) (by omega) (by omega) ?_
  obtain rfl : r_26 = 0 := hw
  refine lv_istore (lv' := [(6, .int 0), (5, .int 1), (4, .int 0), (3, .ref oq), (2, .ref mq), (1, .ref h0), (0, .ref b)]) hx hb dL_law_235 hl (by decide) rfl (fun ls hl => ?_)
  refine lv_aload_n hx hb dL_law_237 rfl (lv_at hl 4 rfl) ?_
  have hPc := hP.sub (ws' := [(mq, .inr (11, [.int 1, .int 0, .int 0, .int 0, .ref rq, .ref sbq]))]) [9] rfl
  have hDc := hD.sub (ws' := [(mq, .inr (11, [.int 1, .int 0, .int 0, .int 0, .ref rq, .ref sbq]))]) [9] (by decide) rfl
  have hKc := hK.sub (tys' := []) [] rfl
  have hFc := va_free (wc := [(mq, .inr (11, [.int 1, .int 0, .int 0, .int 0, .ref rq, .ref sbq]))]) hD hS hA [9] rfl
  refine va_calli (va_runV (As := []) (rest := []) ⟨hx, hb, hml, hown, hts⟩ (c_M_thrown l hl9 dC dI tE mq rq sbq 1 0 0 0 _ ) (cwV 0 hts (goodIn_app (goodIn_r _ [69, 70, 71, 58] (by rfl) (by decide +kernel)) gg_law_c_M_thrown) rfl rfl rfl (by decide +kernel) ⟨Nat.le_of_ble_eq_true rfl, Nat.le_of_ble_eq_true rfl⟩) ⟨Pre0.blind, va_recv hKc hPc (ci := 11) (q0 := 0) rfl rfl, Pre0.give hPc hKc hDc hT hS hFc⟩ rfl rfl hl.1 rfl (lv_room (Nat.le_of_ble_eq_true rfl)) dL_law_238 ⟨Nat.le_of_ble_eq_true rfl, Nat.le_of_ble_eq_true rfl⟩) hS (fun q _ h => hFc q h) hFc (fun r_27 u t H1 locs ht hvm hw hB hz1 hk1 hS => ?_)
  obtain ⟨hP1, hK1, hD1⟩ := hB
  rw [ht] at hP1
  have hK1 := va_K.moved hvm.symm hK1
  obtain ⟨hP, hD⟩ := va_join (wr := [(sq, .inr (4, [.int 0, .ref tE, .int 0])), (gq, .inr (4, [.int 0, .ref tE, .int 0])), (nq, .inr (8, [.int 0, .ref tq, .ref zq, .ref wq])), (rq, .inl (ci, 119, .inl (fun _ => 0))), (sbq, .inr (1, [.ref vq, .int 0, .int 0, .int 0])), (vq, .inl (cv, 16, .inl (fun _ => 0))), (oq, .inl (co, 1, .inr (.inl (fun _ => 0)))), (h0, .inr (10, [.ref fq, .ref sq, .ref gq, .ref nq, .ref dq, .ref pq, .int 0, .int 0, .int 0])), (fq, .inr (4, [.int 0, .ref tE, .int 0]))]) (w1 := [(mq, .inr (11, [.int 1, .int 0, .int 0, .int 0, .ref rq, .ref sbq]))]) hP hD [9] [0, 1, 2, 3, 4, 5, 6, 7, 8] rfl rfl (by decide) (by decide) hk1 hFc hP1 hD1
  generalize H1 = H at hP hS ⊢
  have hP : va_P (dC, dI) vwCl [(sq, .inr (4, [.int 0, .ref tE, .int 0])), (gq, .inr (4, [.int 0, .ref tE, .int 0])), (nq, .inr (8, [.int 0, .ref tq, .ref zq, .ref wq])), (rq, .inl (ci, 119, .inl (fun _ => 0))), (sbq, .inr (1, [.ref vq, .int 0, .int 0, .int 0])), (vq, .inl (cv, 16, .inl (fun _ => 0))), (oq, .inl (co, 1, .inr (.inl (fun _ => 0)))), (h0, .inr (10, [.ref fq, .ref sq, .ref gq, .ref nq, .ref dq, .ref pq, .int 0, .int 0, .int 0])), (fq, .inr (4, [.int 0, .ref tE, .int 0])), (mq, .inr (11, [.int 1, .int 0, .int 0, .int 0, .ref rq, .ref sbq]))] H := hP
  have hD : va_D (fun q : Nat => s.heap.size ≤ q) [(sq, .inr (4, [.int 0, .ref tE, .int 0])), (gq, .inr (4, [.int 0, .ref tE, .int 0])), (nq, .inr (8, [.int 0, .ref tq, .ref zq, .ref wq])), (rq, .inl (ci, 119, .inl (fun _ => 0))), (sbq, .inr (1, [.ref vq, .int 0, .int 0, .int 0])), (vq, .inl (cv, 16, .inl (fun _ => 0))), (oq, .inl (co, 1, .inr (.inl (fun _ => 0)))), (h0, .inr (10, [.ref fq, .ref sq, .ref gq, .ref nq, .ref dq, .ref pq, .int 0, .int 0, .int 0])), (fq, .inr (4, [.int 0, .ref tE, .int 0])), (mq, .inr (11, [.int 1, .int 0, .int 0, .int 0, .ref rq, .ref sbq]))] := hD
  refine W.widen (k := 51) (n := 862) (by omega) (by omega) ?_
  obtain rfl : r_27 = 1 := hw
  refine lv_iload hx hb dL_law_241 (lv_at hl 1 rfl) ?_
  refine lv_icmp_eq (tgt := 248) hx hb dL_law_243 (by decide) (fun _ => ?_) (fun c_28 => absurd (by decide) c_28)
  refine lv_iload hx hb dL_law_248 (lv_at hl 1 rfl) ?_
  refine lv_if_ne (tgt := 265) hx hb dL_law_250 (by decide) (fun _ => ?_) (fun c_29 => absurd c_29 (by decide))
  refine lv_goto (tgt := 1303) hx hb dL_law_265 (by decide) ?_
  exact law_next l C0 (by omega) (by omega) hS ls (lv_sub hl [2, 6] rfl)
set_option maxHeartbeats 4000000 in
set_option maxRecDepth 100000 in
theorem law_addLift {p : Program} {e : Env} {s : State} {m : MethodId} {below : List Frame} {meth : Method} {c : Code} (l : Launch) (hl9 : l.stackTraces = false) {b : Nat} {xs : Nat → Int32} (C0 : lw_At p s m meth c b 4 xs) (dC : Nat → ClassId) (dI : Nat → Nat → Nat) (tE : Nat) (h0 fq sq gq nq tq zq wq dq pq mq rq sbq vq oq : Nat) (ci cv co : ClassId) (hT : tK tE (fun q : Nat => s.heap.size ≤ q) s s.heap) (hK : va_K (dC, dI) vwCl [(ci, .int), (cv, .byte), (co, .long)] s) {H : Heap} {locs : List Loc} (hP : va_P (dC, dI) vwCl [(h0, .inr (10, [.ref fq, .ref sq, .ref gq, .ref nq, .ref dq, .ref pq, .int 0, .int 0, .int 0])), (fq, .inr (4, [.int 0, .ref tE, .int 0])), (sq, .inr (4, [.int 0, .ref tE, .int 0])), (gq, .inr (4, [.int 0, .ref tE, .int 0])), (nq, .inr (8, [.int 0, .ref tq, .ref zq, .ref wq])), (mq, .inr (11, [.int 0, .int 0, .int 0, .int 0, .ref rq, .ref sbq])), (rq, .inl (ci, 119, .inl (fun _ => 0))), (sbq, .inr (1, [.ref vq, .int 0, .int 0, .int 0])), (vq, .inl (cv, 16, .inl (fun _ => 0))), (oq, .inl (co, 1, .inr (.inl (fun _ => 0))))] H) (hD : va_D (fun q : Nat => s.heap.size ≤ q) [(h0, .inr (10, [.ref fq, .ref sq, .ref gq, .ref nq, .ref dq, .ref pq, .int 0, .int 0, .int 0])), (fq, .inr (4, [.int 0, .ref tE, .int 0])), (sq, .inr (4, [.int 0, .ref tE, .int 0])), (gq, .inr (4, [.int 0, .ref tE, .int 0])), (nq, .inr (8, [.int 0, .ref tq, .ref zq, .ref wq])), (mq, .inr (11, [.int 0, .int 0, .int 0, .int 0, .ref rq, .ref sbq])), (rq, .inl (ci, 119, .inl (fun _ => 0))), (sbq, .inr (1, [.ref vq, .int 0, .int 0, .int 0])), (vq, .inl (cv, 16, .inl (fun _ => 0))), (oq, .inl (co, 1, .inr (.inl (fun _ => 0))))]) (hS : va_S (fun q : Nat => s.heap.size ≤ q) s.heap H locs) (ls : Array Slot) (hl : lv_has ls 9 [(4, .int 0), (3, .ref oq), (2, .ref mq), (1, .ref h0), (0, .ref b)]) : W p l e room_1 s m #[Value.ref b] below meth c H locs 50 856 (lw_Z below #[Value.ref b] s) (F0 m 268 ls []) := by
  obtain ⟨hx, hb, hr, hml, hown, hts, hX, hbl, hlocks, hgv⟩ := id C0
  have hts := law_hts hts
  have hA : ∀ q : Nat, s.heap.size ≤ q → (fun q : Nat => s.heap.size ≤ q) q := fun _ h => h
  have hbA : ¬ (fun q : Nat => s.heap.size ≤ q) b := Nat.not_le.mpr hbl
  refine lv_aload_n hx hb dL_law_268 rfl (lv_at hl 3 rfl) ?_
  refine lv_aload_n hx hb dL_law_269 rfl (lv_at hl 1 rfl) ?_
  have hPc := hP.sub (ws' := [(h0, .inr (10, [.ref fq, .ref sq, .ref gq, .ref nq, .ref dq, .ref pq, .int 0, .int 0, .int 0])), (sq, .inr (4, [.int 0, .ref tE, .int 0])), (oq, .inl (co, 1, .inr (.inl (fun _ => 0))))]) [0, 2, 9] rfl
  have hDc := hD.sub (ws' := [(h0, .inr (10, [.ref fq, .ref sq, .ref gq, .ref nq, .ref dq, .ref pq, .int 0, .int 0, .int 0])), (sq, .inr (4, [.int 0, .ref tE, .int 0])), (oq, .inl (co, 1, .inr (.inl (fun _ => 0))))]) [0, 2, 9] (by decide) rfl
  have hKc := hK.sub (tys' := [(co, .long)]) [2] rfl
  have hFc := va_free (wc := [(h0, .inr (10, [.ref fq, .ref sq, .ref gq, .ref nq, .ref dq, .ref pq, .int 0, .int 0, .int 0])), (sq, .inr (4, [.int 0, .ref tE, .int 0])), (oq, .inl (co, 1, .inr (.inl (fun _ => 0))))]) hD hS hA [0, 2, 9] rfl
  refine va_calli (vx_runSW (As := [.ref h0, .ref oq]) (rest := []) ⟨hx, hb, hml, hown, hts⟩ (w_addLift l hl9 dC dI tE h0 fq sq gq nq dq pq 0 0 0 0 oq co (fun _ => 0) _ ) (vx_cwSW 2 hts (goodIn_app (goodIn_r _ [116, 117, 52] (by rfl) (by decide +kernel)) gg_law_w_addLift) rfl rfl rfl (by decide +kernel) ⟨Nat.le_of_ble_eq_true rfl, Nat.le_of_ble_eq_true rfl⟩) ⟨Pre0.blind, Pre0.give hPc hKc hDc hT hS hFc⟩ rfl rfl hl.1 rfl (lv_room (Nat.le_of_ble_eq_true rfl)) dL_law_270 ⟨Nat.le_of_ble_eq_true rfl, Nat.le_of_ble_eq_true rfl⟩) hS (fun q _ h => hFc q h) hFc (fun r_1 u t H1 locs ht hvm hw hB hz1 hk1 hS => ?_)
  obtain ⟨vx_2, qd_3, hP1, hK1, hD1⟩ := hB
  rw [ht] at hP1
  have hK1 := va_K.moved hvm.symm hK1
  obtain ⟨hP, hD⟩ := va_join (wr := [(fq, .inr (4, [.int 0, .ref tE, .int 0])), (gq, .inr (4, [.int 0, .ref tE, .int 0])), (nq, .inr (8, [.int 0, .ref tq, .ref zq, .ref wq])), (mq, .inr (11, [.int 0, .int 0, .int 0, .int 0, .ref rq, .ref sbq])), (rq, .inl (ci, 119, .inl (fun _ => 0))), (sbq, .inr (1, [.ref vq, .int 0, .int 0, .int 0])), (vq, .inl (cv, 16, .inl (fun _ => 0)))]) (w1 := [(oq, .inl (co, 1, .inr (.inl (vp_updL (fun _ => 0) (0 : Int32).toNatClampNeg 0)))), (h0, .inr (10, [.ref fq, .ref sq, .ref gq, .ref nq, .ref dq, .ref pq, .int 0, .int 0, .int 0])), (sq, .inr (4, [.int vx_2, .ref qd_3, .int 1]))]) hP hD [0, 2, 9] [1, 3, 4, 5, 6, 7, 8] rfl rfl (by decide) (by decide) hk1 hFc hP1 hD1
  generalize H1 = H at hP hS ⊢
  have hP : va_P (dC, dI) vwCl [(fq, .inr (4, [.int 0, .ref tE, .int 0])), (gq, .inr (4, [.int 0, .ref tE, .int 0])), (nq, .inr (8, [.int 0, .ref tq, .ref zq, .ref wq])), (mq, .inr (11, [.int 0, .int 0, .int 0, .int 0, .ref rq, .ref sbq])), (rq, .inl (ci, 119, .inl (fun _ => 0))), (sbq, .inr (1, [.ref vq, .int 0, .int 0, .int 0])), (vq, .inl (cv, 16, .inl (fun _ => 0))), (oq, .inl (co, 1, .inr (.inl (vp_updL (fun _ => 0) (0 : Int32).toNatClampNeg 0)))), (h0, .inr (10, [.ref fq, .ref sq, .ref gq, .ref nq, .ref dq, .ref pq, .int 0, .int 0, .int 0])), (sq, .inr (4, [.int vx_2, .ref qd_3, .int 1]))] H := hP
  have hD : va_D (fun q : Nat => s.heap.size ≤ q) [(fq, .inr (4, [.int 0, .ref tE, .int 0])), (gq, .inr (4, [.int 0, .ref tE, .int 0])), (nq, .inr (8, [.int 0, .ref tq, .ref zq, .ref wq])), (mq, .inr (11, [.int 0, .int 0, .int 0, .int 0, .ref rq, .ref sbq])), (rq, .inl (ci, 119, .inl (fun _ => 0))), (sbq, .inr (1, [.ref vq, .int 0, .int 0, .int 0])), (vq, .inl (cv, 16, .inl (fun _ => 0))), (oq, .inl (co, 1, .inr (.inl (vp_updL (fun _ => 0) (0 : Int32).toNatClampNeg 0)))), (h0, .inr (10, [.ref fq, .ref sq, .ref gq, .ref nq, .ref dq, .ref pq, .int 0, .int 0, .int 0])), (sq, .inr (4, [.int vx_2, .ref qd_3, .int 1]))] := hD
  refine W.widen (k := 53) (n := 873) (by omega) (by omega) ?_
  obtain rfl : r_1 = 0 := hw
  refine lv_istore (lv' := [(5, .int 0), (4, .int 0), (3, .ref oq), (2, .ref mq), (1, .ref h0), (0, .ref b)]) hx hb dL_law_273 hl (by decide) rfl (fun ls hl => ?_)
  refine lv_aload_n hx hb dL_law_275 rfl (lv_at hl 3 rfl) ?_
  have hPc := hP.sub (ws' := [(mq, .inr (11, [.int 0, .int 0, .int 0, .int 0, .ref rq, .ref sbq])), (rq, .inl (ci, 119, .inl (fun _ => 0)))]) [3, 4] rfl
  have hDc := hD.sub (ws' := [(mq, .inr (11, [.int 0, .int 0, .int 0, .int 0, .ref rq, .ref sbq])), (rq, .inl (ci, 119, .inl (fun _ => 0)))]) [3, 4] (by decide) rfl
  have hKc := hK.sub (tys' := [(ci, .int)]) [0] rfl
  have hFc := va_free (wc := [(mq, .inr (11, [.int 0, .int 0, .int 0, .int 0, .ref rq, .ref sbq])), (rq, .inl (ci, 119, .inl (fun _ => 0)))]) hD hS hA [3, 4] rfl
  refine va_calli (va_runV (As := []) (rest := []) ⟨hx, hb, hml, hown, hts⟩ (c_M_addLift l hl9 dC dI tE mq rq sbq 0 ci (fun _ => 0) _ ) (cwV 0 hts (goodIn_app (goodIn_r _ [124, 125, 126, 58] (by rfl) (by decide +kernel)) gg_law_c_M_addLift) rfl rfl rfl (by decide +kernel) ⟨Nat.le_of_ble_eq_true rfl, Nat.le_of_ble_eq_true rfl⟩) ⟨Pre0.blind, va_recv hKc hPc (ci := 11) (q0 := 0) rfl rfl, Pre0.give hPc hKc hDc hT hS hFc⟩ rfl rfl hl.1 rfl (lv_room (Nat.le_of_ble_eq_true rfl)) dL_law_276 ⟨Nat.le_of_ble_eq_true rfl, Nat.le_of_ble_eq_true rfl⟩) hS (fun q _ h => hFc q h) hFc (fun r_4 u t H1 locs ht hvm hw hB hz1 hk1 hS => ?_)
  obtain ⟨fx_5, hP1, hK1, hD1⟩ := hB
  rw [ht] at hP1
  have hK1 := va_K.moved hvm.symm hK1
  obtain ⟨hP, hD⟩ := va_join (wr := [(fq, .inr (4, [.int 0, .ref tE, .int 0])), (gq, .inr (4, [.int 0, .ref tE, .int 0])), (nq, .inr (8, [.int 0, .ref tq, .ref zq, .ref wq])), (sbq, .inr (1, [.ref vq, .int 0, .int 0, .int 0])), (vq, .inl (cv, 16, .inl (fun _ => 0))), (oq, .inl (co, 1, .inr (.inl (vp_updL (fun _ => 0) (0 : Int32).toNatClampNeg 0)))), (h0, .inr (10, [.ref fq, .ref sq, .ref gq, .ref nq, .ref dq, .ref pq, .int 0, .int 0, .int 0])), (sq, .inr (4, [.int vx_2, .ref qd_3, .int 1]))]) (w1 := [(mq, .inr (11, [.int 0, .int 0, .int 1, .int 0, .ref rq, .ref sbq])), (rq, .inl (ci, 119, .inl fx_5))]) hP hD [3, 4] [0, 1, 2, 5, 6, 7, 8, 9] rfl rfl (by decide) (by decide) hk1 hFc hP1 hD1
  generalize H1 = H at hP hS ⊢
  have hP : va_P (dC, dI) vwCl [(fq, .inr (4, [.int 0, .ref tE, .int 0])), (gq, .inr (4, [.int 0, .ref tE, .int 0])), (nq, .inr (8, [.int 0, .ref tq, .ref zq, .ref wq])), (sbq, .inr (1, [.ref vq, .int 0, .int 0, .int 0])), (vq, .inl (cv, 16, .inl (fun _ => 0))), (oq, .inl (co, 1, .inr (.inl (vp_updL (fun _ => 0) (0 : Int32).toNatClampNeg 0)))), (h0, .inr (10, [.ref fq, .ref sq, .ref gq, .ref nq, .ref dq, .ref pq, .int 0, .int 0, .int 0])), (sq, .inr (4, [.int vx_2, .ref qd_3, .int 1])), (mq, .inr (11, [.int 0, .int 0, .int 1, .int 0, .ref rq, .ref sbq])), (rq, .inl (ci, 119, .inl fx_5))] H := hP
  have hD : va_D (fun q : Nat => s.heap.size ≤ q) [(fq, .inr (4, [.int 0, .ref tE, .int 0])), (gq, .inr (4, [.int 0, .ref tE, .int 0])), (nq, .inr (8, [.int 0, .ref tq, .ref zq, .ref wq])), (sbq, .inr (1, [.ref vq, .int 0, .int 0, .int 0])), (vq, .inl (cv, 16, .inl (fun _ => 0))), (oq, .inl (co, 1, .inr (.inl (vp_updL (fun _ => 0) (0 : Int32).toNatClampNeg 0)))), (h0, .inr (10, [.ref fq, .ref sq, .ref gq, .ref nq, .ref dq, .ref pq, .int 0, .int 0, .int 0])), (sq, .inr (4, [.int vx_2, .ref qd_3, .int 1])), (mq, .inr (11, [.int 0, .int 0, .int 1, .int 0, .ref rq, .ref sbq])), (rq, .inl (ci, 119, .inl fx_5))] := hD
  refine W.widen (k := 53) (n := 873) (by omega) (by omega) ?_
  obtain rfl : r_4 = 0 := hw
  refine lv_istore (lv' := [(6, .int 0), (5, .int 0), (4, .int 0), (3, .ref oq), (2, .ref mq), (1, .ref h0), (0, .ref b)]) hx hb dL_law_279 hl (by decide) rfl (fun ls hl => ?_)
  refine lv_aload_n hx hb dL_law_281 rfl (lv_at hl 4 rfl) ?_
  have hPc := hP.sub (ws' := [(mq, .inr (11, [.int 0, .int 0, .int 1, .int 0, .ref rq, .ref sbq]))]) [8] rfl
  have hDc := hD.sub (ws' := [(mq, .inr (11, [.int 0, .int 0, .int 1, .int 0, .ref rq, .ref sbq]))]) [8] (by decide) rfl
  have hKc := hK.sub (tys' := []) [] rfl
  have hFc := va_free (wc := [(mq, .inr (11, [.int 0, .int 0, .int 1, .int 0, .ref rq, .ref sbq]))]) hD hS hA [8] rfl
  refine va_calli (va_runV (As := []) (rest := []) ⟨hx, hb, hml, hown, hts⟩ (c_M_thrown l hl9 dC dI tE mq rq sbq 0 0 1 0 _ ) (cwV 0 hts (goodIn_app (goodIn_r _ [69, 70, 71, 58] (by rfl) (by decide +kernel)) gg_law_c_M_thrown) rfl rfl rfl (by decide +kernel) ⟨Nat.le_of_ble_eq_true rfl, Nat.le_of_ble_eq_true rfl⟩) ⟨Pre0.blind, va_recv hKc hPc (ci := 11) (q0 := 0) rfl rfl, Pre0.give hPc hKc hDc hT hS hFc⟩ rfl rfl hl.1 rfl (lv_room (Nat.le_of_ble_eq_true rfl)) dL_law_282 ⟨Nat.le_of_ble_eq_true rfl, Nat.le_of_ble_eq_true rfl⟩) hS (fun q _ h => hFc q h) hFc (fun r_6 u t H1 locs ht hvm hw hB hz1 hk1 hS => ?_)
  obtain ⟨hP1, hK1, hD1⟩ := hB
  rw [ht] at hP1
  have hK1 := va_K.moved hvm.symm hK1
  obtain ⟨hP, hD⟩ := va_join (wr := [(fq, .inr (4, [.int 0, .ref tE, .int 0])), (gq, .inr (4, [.int 0, .ref tE, .int 0])), (nq, .inr (8, [.int 0, .ref tq, .ref zq, .ref wq])), (sbq, .inr (1, [.ref vq, .int 0, .int 0, .int 0])), (vq, .inl (cv, 16, .inl (fun _ => 0))), (oq, .inl (co, 1, .inr (.inl (vp_updL (fun _ => 0) (0 : Int32).toNatClampNeg 0)))), (h0, .inr (10, [.ref fq, .ref sq, .ref gq, .ref nq, .ref dq, .ref pq, .int 0, .int 0, .int 0])), (sq, .inr (4, [.int vx_2, .ref qd_3, .int 1])), (rq, .inl (ci, 119, .inl fx_5))]) (w1 := [(mq, .inr (11, [.int 0, .int 0, .int 1, .int 0, .ref rq, .ref sbq]))]) hP hD [8] [0, 1, 2, 3, 4, 5, 6, 7, 9] rfl rfl (by decide) (by decide) hk1 hFc hP1 hD1
  generalize H1 = H at hP hS ⊢
  have hP : va_P (dC, dI) vwCl [(fq, .inr (4, [.int 0, .ref tE, .int 0])), (gq, .inr (4, [.int 0, .ref tE, .int 0])), (nq, .inr (8, [.int 0, .ref tq, .ref zq, .ref wq])), (sbq, .inr (1, [.ref vq, .int 0, .int 0, .int 0])), (vq, .inl (cv, 16, .inl (fun _ => 0))), (oq, .inl (co, 1, .inr (.inl (vp_updL (fun _ => 0) (0 : Int32).toNatClampNeg 0)))), (h0, .inr (10, [.ref fq, .ref sq, .ref gq, .ref nq, .ref dq, .ref pq, .int 0, .int 0, .int 0])), (sq, .inr (4, [.int vx_2, .ref qd_3, .int 1])), (rq, .inl (ci, 119, .inl fx_5)), (mq, .inr (11, [.int 0, .int 0, .int 1, .int 0, .ref rq, .ref sbq]))] H := hP
  have hD : va_D (fun q : Nat => s.heap.size ≤ q) [(fq, .inr (4, [.int 0, .ref tE, .int 0])), (gq, .inr (4, [.int 0, .ref tE, .int 0])), (nq, .inr (8, [.int 0, .ref tq, .ref zq, .ref wq])), (sbq, .inr (1, [.ref vq, .int 0, .int 0, .int 0])), (vq, .inl (cv, 16, .inl (fun _ => 0))), (oq, .inl (co, 1, .inr (.inl (vp_updL (fun _ => 0) (0 : Int32).toNatClampNeg 0)))), (h0, .inr (10, [.ref fq, .ref sq, .ref gq, .ref nq, .ref dq, .ref pq, .int 0, .int 0, .int 0])), (sq, .inr (4, [.int vx_2, .ref qd_3, .int 1])), (rq, .inl (ci, 119, .inl fx_5)), (mq, .inr (11, [.int 0, .int 0, .int 1, .int 0, .ref rq, .ref sbq]))] := hD
  refine W.widen (k := 53) (n := 873) (by omega) (by omega) ?_
  obtain rfl : r_6 = 0 := hw
  refine lv_iload hx hb dL_law_285 (lv_at hl 1 rfl) ?_
  refine lv_icmp_eq (tgt := 292) hx hb dL_law_287 (by decide) (fun _ => ?_) (fun c_7 => absurd (by decide) c_7)
  refine lv_iload hx hb dL_law_292 (lv_at hl 1 rfl) ?_
  refine lv_if_ne (tgt := 309) hx hb dL_law_294 (by decide) (fun c_8 => absurd (by decide) c_8) (fun _ => ?_)
  refine lv_aload_n hx hb dL_law_297 rfl (lv_at hl 3 rfl) ?_
  refine lv_iconst (v := 0) hx hb dL_law_298 (by decide) ?_
  refine va_lald hx hb hK hP 5 2 rfl rfl (by unfold vp_in; decide) dL_law_299 ?_
  refine lv_topl (fun x_9 e_10 => ?_)
  obtain rfl : x_9 = 0 := e_10.trans (by simp [vp_updL])
  refine lv_iload hx hb dL_law_300 (lv_at hl 0 rfl) ?_
  refine lv_i2l (v := 0) hx hb dL_law_302 (by decide) ?_
  refine W.lcmp hx hb dL_law_303 ?_
  refine lv_topi (fun x_11 e_12 => ?_)
  obtain rfl : x_11 = 0 := e_12.trans (cmp_self _)
  refine lv_if_eq (tgt := 309) hx hb dL_law_304 (by decide) (fun _ => ?_) (fun c_13 => absurd (by decide) c_13)
  refine lv_goto (tgt := 1303) hx hb dL_law_309 (by decide) ?_
  exact law_next l C0 (by omega) (by omega) hS ls (lv_sub hl [2, 6] rfl)
set_option maxHeartbeats 4000000 in
set_option maxRecDepth 100000 in
theorem law_setDoor {p : Program} {e : Env} {s : State} {m : MethodId} {below : List Frame} {meth : Method} {c : Code} (l : Launch) (hl9 : l.stackTraces = false) {b : Nat} {xs : Nat → Int32} (C0 : lw_At p s m meth c b 4 xs) (dC : Nat → ClassId) (dI : Nat → Nat → Nat) (tE : Nat) (h0 fq sq gq nq tq zq wq dq pq mq rq sbq vq oq : Nat) (ci cv co : ClassId) (hT : tK tE (fun q : Nat => s.heap.size ≤ q) s s.heap) (hK : va_K (dC, dI) vwCl [(ci, .int), (cv, .byte), (co, .long)] s) {H : Heap} {locs : List Loc} (hP : va_P (dC, dI) vwCl [(h0, .inr (10, [.ref fq, .ref sq, .ref gq, .ref nq, .ref dq, .ref pq, .int 0, .int 0, .int 0])), (fq, .inr (4, [.int 0, .ref tE, .int 0])), (sq, .inr (4, [.int 0, .ref tE, .int 0])), (gq, .inr (4, [.int 0, .ref tE, .int 0])), (nq, .inr (8, [.int 0, .ref tq, .ref zq, .ref wq])), (mq, .inr (11, [.int 0, .int 0, .int 0, .int 0, .ref rq, .ref sbq])), (rq, .inl (ci, 119, .inl (fun _ => 0))), (sbq, .inr (1, [.ref vq, .int 0, .int 0, .int 0])), (vq, .inl (cv, 16, .inl (fun _ => 0))), (oq, .inl (co, 1, .inr (.inl (fun _ => 0))))] H) (hD : va_D (fun q : Nat => s.heap.size ≤ q) [(h0, .inr (10, [.ref fq, .ref sq, .ref gq, .ref nq, .ref dq, .ref pq, .int 0, .int 0, .int 0])), (fq, .inr (4, [.int 0, .ref tE, .int 0])), (sq, .inr (4, [.int 0, .ref tE, .int 0])), (gq, .inr (4, [.int 0, .ref tE, .int 0])), (nq, .inr (8, [.int 0, .ref tq, .ref zq, .ref wq])), (mq, .inr (11, [.int 0, .int 0, .int 0, .int 0, .ref rq, .ref sbq])), (rq, .inl (ci, 119, .inl (fun _ => 0))), (sbq, .inr (1, [.ref vq, .int 0, .int 0, .int 0])), (vq, .inl (cv, 16, .inl (fun _ => 0))), (oq, .inl (co, 1, .inr (.inl (fun _ => 0))))]) (hS : va_S (fun q : Nat => s.heap.size ≤ q) s.heap H locs) (ls : Array Slot) (hl : lv_has ls 9 [(4, .int 0), (3, .ref oq), (2, .ref mq), (1, .ref h0), (0, .ref b)]) : W p l e room_1 s m #[Value.ref b] below meth c H locs 50 856 (lw_Z below #[Value.ref b] s) (F0 m 312 ls []) := by
  obtain ⟨hx, hb, hr, hml, hown, hts, hX, hbl, hlocks, hgv⟩ := id C0
  have hts := law_hts hts
  have hA : ∀ q : Nat, s.heap.size ≤ q → (fun q : Nat => s.heap.size ≤ q) q := fun _ h => h
  have hbA : ¬ (fun q : Nat => s.heap.size ≤ q) b := Nat.not_le.mpr hbl
  refine lv_aload_n hx hb dL_law_312 rfl (lv_at hl 3 rfl) ?_
  refine lv_aload_n hx hb dL_law_313 rfl (lv_at hl 4 rfl) ?_
  refine lv_iload hx hb dL_law_314 (lv_at hl 0 rfl) ?_
  refine lv_iconst (v := 1) hx hb dL_law_316 (by decide) ?_
  refine lv_iadd hx hb dL_law_317 ?_
  refine lv_topi (fun x_1 e_2 => ?_)
  obtain rfl : x_1 = 1 := e_2.trans (by decide)
  refine va_sld hx hb hX hbl hbA hS (by unfold vp_in; decide) dL_law_318 ?_
  refine lv_topi (fun y1 ey1 => ?_)
  refine lv_aload_n hx hb dL_law_319 rfl (lv_at hl 4 rfl) ?_
  refine lv_iload hx hb dL_law_320 (lv_at hl 0 rfl) ?_
  refine lv_iconst (v := 2) hx hb dL_law_322 (by decide) ?_
  refine lv_iadd hx hb dL_law_323 ?_
  refine lv_topi (fun x_5 e_6 => ?_)
  obtain rfl : x_5 = 2 := e_6.trans (by decide)
  refine va_sld hx hb hX hbl hbA hS (by unfold vp_in; decide) dL_law_324 ?_
  refine lv_topi (fun y2 ey2 => ?_)
  refine lv_aload_n hx hb dL_law_325 rfl (lv_at hl 4 rfl) ?_
  refine lv_iload hx hb dL_law_326 (lv_at hl 0 rfl) ?_
  refine lv_iconst (v := 3) hx hb dL_law_328 (by decide) ?_
  refine lv_iadd hx hb dL_law_329 ?_
  refine lv_topi (fun x_9 e_10 => ?_)
  obtain rfl : x_9 = 3 := e_10.trans (by decide)
  refine va_sld hx hb hX hbl hbA hS (by unfold vp_in; decide) dL_law_330 ?_
  refine lv_topi (fun y3 ey3 => ?_)
  refine lv_aload_n hx hb dL_law_331 rfl (lv_at hl 1 rfl) ?_
  have hPc := hP.sub (ws' := [(h0, .inr (10, [.ref fq, .ref sq, .ref gq, .ref nq, .ref dq, .ref pq, .int 0, .int 0, .int 0])), (sq, .inr (4, [.int 0, .ref tE, .int 0]))]) [0, 2] rfl
  have hDc := hD.sub (ws' := [(h0, .inr (10, [.ref fq, .ref sq, .ref gq, .ref nq, .ref dq, .ref pq, .int 0, .int 0, .int 0])), (sq, .inr (4, [.int 0, .ref tE, .int 0]))]) [0, 2] (by decide) rfl
  have hKc := hK.sub (tys' := []) [] rfl
  have hFc := va_free (wc := [(h0, .inr (10, [.ref fq, .ref sq, .ref gq, .ref nq, .ref dq, .ref pq, .int 0, .int 0, .int 0])), (sq, .inr (4, [.int 0, .ref tE, .int 0]))]) hD hS hA [0, 2] rfl
  refine va_calli (vx_runSW (As := [.ref h0, .int y1, .int y2, .int y3, .ref oq]) (rest := []) ⟨hx, hb, hml, hown, hts⟩ (w_setDoor l hl9 dC dI tE h0 fq sq gq nq dq pq 0 0 0 0 y1 y2 y3 oq _ ) (vx_cwSW 5 hts (goodIn_app (goodIn_r _ [136, 137, 52] (by rfl) (by decide +kernel)) gt_law_w_setDoor) rfl rfl rfl (by decide +kernel) ⟨Nat.le_of_ble_eq_true rfl, Nat.le_of_ble_eq_true rfl⟩) ⟨Pre0.blind, Pre0.give hPc hKc hDc hT hS hFc⟩ rfl rfl hl.1 rfl (lv_room (Nat.le_of_ble_eq_true rfl)) dL_law_332 ⟨Nat.le_of_ble_eq_true rfl, Nat.le_of_ble_eq_true rfl⟩) hS (fun q _ h => hFc q h) hFc (fun r_13 u t H1 locs ht hvm hw hB hz1 hk1 hS => ?_)
  obtain ⟨hP1, hK1, hD1⟩ := hB
  rw [ht] at hP1
  have hK1 := va_K.moved hvm.symm hK1
  obtain ⟨hP, hD⟩ := va_join (wr := [(fq, .inr (4, [.int 0, .ref tE, .int 0])), (gq, .inr (4, [.int 0, .ref tE, .int 0])), (nq, .inr (8, [.int 0, .ref tq, .ref zq, .ref wq])), (mq, .inr (11, [.int 0, .int 0, .int 0, .int 0, .ref rq, .ref sbq])), (rq, .inl (ci, 119, .inl (fun _ => 0))), (sbq, .inr (1, [.ref vq, .int 0, .int 0, .int 0])), (vq, .inl (cv, 16, .inl (fun _ => 0))), (oq, .inl (co, 1, .inr (.inl (fun _ => 0))))]) (w1 := [(h0, .inr (10, [.ref fq, .ref sq, .ref gq, .ref nq, .ref dq, .ref pq, .int 0, .int 0, .int 0])), (sq, .inr (4, [.int 0, .ref tE, .int 0]))]) hP hD [0, 2] [1, 3, 4, 5, 6, 7, 8, 9] rfl rfl (by decide) (by decide) hk1 hFc hP1 hD1
  generalize H1 = H at hP hS ⊢
  have hP : va_P (dC, dI) vwCl [(fq, .inr (4, [.int 0, .ref tE, .int 0])), (gq, .inr (4, [.int 0, .ref tE, .int 0])), (nq, .inr (8, [.int 0, .ref tq, .ref zq, .ref wq])), (mq, .inr (11, [.int 0, .int 0, .int 0, .int 0, .ref rq, .ref sbq])), (rq, .inl (ci, 119, .inl (fun _ => 0))), (sbq, .inr (1, [.ref vq, .int 0, .int 0, .int 0])), (vq, .inl (cv, 16, .inl (fun _ => 0))), (oq, .inl (co, 1, .inr (.inl (fun _ => 0)))), (h0, .inr (10, [.ref fq, .ref sq, .ref gq, .ref nq, .ref dq, .ref pq, .int 0, .int 0, .int 0])), (sq, .inr (4, [.int 0, .ref tE, .int 0]))] H := hP
  have hD : va_D (fun q : Nat => s.heap.size ≤ q) [(fq, .inr (4, [.int 0, .ref tE, .int 0])), (gq, .inr (4, [.int 0, .ref tE, .int 0])), (nq, .inr (8, [.int 0, .ref tq, .ref zq, .ref wq])), (mq, .inr (11, [.int 0, .int 0, .int 0, .int 0, .ref rq, .ref sbq])), (rq, .inl (ci, 119, .inl (fun _ => 0))), (sbq, .inr (1, [.ref vq, .int 0, .int 0, .int 0])), (vq, .inl (cv, 16, .inl (fun _ => 0))), (oq, .inl (co, 1, .inr (.inl (fun _ => 0)))), (h0, .inr (10, [.ref fq, .ref sq, .ref gq, .ref nq, .ref dq, .ref pq, .int 0, .int 0, .int 0])), (sq, .inr (4, [.int 0, .ref tE, .int 0]))] := hD
  refine W.widen (k := 51) (n := 862) (by omega) (by omega) ?_
  obtain rfl : r_13 = 1 := hw
  refine lv_istore (lv' := [(5, .int 1), (4, .int 0), (3, .ref oq), (2, .ref mq), (1, .ref h0), (0, .ref b)]) hx hb dL_law_335 hl (by decide) rfl (fun ls hl => ?_)
  refine lv_aload_n hx hb dL_law_337 rfl (lv_at hl 3 rfl) ?_
  refine lv_aload_n hx hb dL_law_338 rfl (lv_at hl 5 rfl) ?_
  refine lv_iload hx hb dL_law_339 (lv_at hl 1 rfl) ?_
  refine lv_iconst (v := 1) hx hb dL_law_341 (by decide) ?_
  refine lv_iadd hx hb dL_law_342 ?_
  refine lv_topi (fun x_14 e_15 => ?_)
  obtain rfl : x_14 = 1 := e_15.trans (by decide)
  refine va_sld hx hb hX hbl hbA hS (by unfold vp_in; decide) dL_law_343 ?_
  refine lv_topi (fun x_16 e_17 => ?_)
  obtain rfl : y1 = x_16 := ey1.trans e_17.symm
  refine lv_aload_n hx hb dL_law_344 rfl (lv_at hl 5 rfl) ?_
  refine lv_iload hx hb dL_law_345 (lv_at hl 1 rfl) ?_
  refine lv_iconst (v := 2) hx hb dL_law_347 (by decide) ?_
  refine lv_iadd hx hb dL_law_348 ?_
  refine lv_topi (fun x_18 e_19 => ?_)
  obtain rfl : x_18 = 2 := e_19.trans (by decide)
  refine va_sld hx hb hX hbl hbA hS (by unfold vp_in; decide) dL_law_349 ?_
  refine lv_topi (fun x_20 e_21 => ?_)
  obtain rfl : y2 = x_20 := ey2.trans e_21.symm
  refine lv_aload_n hx hb dL_law_350 rfl (lv_at hl 5 rfl) ?_
  refine lv_iload hx hb dL_law_351 (lv_at hl 1 rfl) ?_
  refine lv_iconst (v := 3) hx hb dL_law_353 (by decide) ?_
  refine lv_iadd hx hb dL_law_354 ?_
  refine lv_topi (fun x_22 e_23 => ?_)
  obtain rfl : x_22 = 3 := e_23.trans (by decide)
  refine va_sld hx hb hX hbl hbA hS (by unfold vp_in; decide) dL_law_355 ?_
  refine lv_topi (fun x_24 e_25 => ?_)
  obtain rfl : y3 = x_24 := ey3.trans e_25.symm
  have hPc := hP.sub (ws' := [(mq, .inr (11, [.int 0, .int 0, .int 0, .int 0, .ref rq, .ref sbq]))]) [3] rfl
  have hDc := hD.sub (ws' := [(mq, .inr (11, [.int 0, .int 0, .int 0, .int 0, .ref rq, .ref sbq]))]) [3] (by decide) rfl
  have hKc := hK.sub (tys' := []) [] rfl
  have hFc := va_free (wc := [(mq, .inr (11, [.int 0, .int 0, .int 0, .int 0, .ref rq, .ref sbq]))]) hD hS hA [3] rfl
  refine va_calli (va_runV (As := [.int y1, .int y2, .int y3]) (rest := []) ⟨hx, hb, hml, hown, hts⟩ (c_M_setDoor l hl9 dC dI tE mq rq sbq 0 y1 y2 y3 _ ) (cwV 3 hts (goodIn_app (goodIn_r _ [143, 144, 145, 58] (by rfl) (by decide +kernel)) gg_law_c_M_setDoor) rfl rfl rfl (by decide +kernel) ⟨Nat.le_of_ble_eq_true rfl, Nat.le_of_ble_eq_true rfl⟩) ⟨Pre0.blind, va_recv hKc hPc (ci := 11) (q0 := 0) rfl rfl, Pre0.give hPc hKc hDc hT hS hFc⟩ rfl rfl hl.1 rfl (lv_room (Nat.le_of_ble_eq_true rfl)) dL_law_356 ⟨Nat.le_of_ble_eq_true rfl, Nat.le_of_ble_eq_true rfl⟩) hS (fun q _ h => hFc q h) hFc (fun r_26 u t H1 locs ht hvm hw hB hz1 hk1 hS => ?_)
  obtain ⟨hP1, hK1, hD1⟩ := hB
  rw [ht] at hP1
  have hK1 := va_K.moved hvm.symm hK1
  obtain ⟨hP, hD⟩ := va_join (wr := [(fq, .inr (4, [.int 0, .ref tE, .int 0])), (gq, .inr (4, [.int 0, .ref tE, .int 0])), (nq, .inr (8, [.int 0, .ref tq, .ref zq, .ref wq])), (rq, .inl (ci, 119, .inl (fun _ => 0))), (sbq, .inr (1, [.ref vq, .int 0, .int 0, .int 0])), (vq, .inl (cv, 16, .inl (fun _ => 0))), (oq, .inl (co, 1, .inr (.inl (fun _ => 0)))), (h0, .inr (10, [.ref fq, .ref sq, .ref gq, .ref nq, .ref dq, .ref pq, .int 0, .int 0, .int 0])), (sq, .inr (4, [.int 0, .ref tE, .int 0]))]) (w1 := [(mq, .inr (11, [.int 1, .int 0, .int 0, .int 0, .ref rq, .ref sbq]))]) hP hD [3] [0, 1, 2, 4, 5, 6, 7, 8, 9] rfl rfl (by decide) (by decide) hk1 hFc hP1 hD1
  generalize H1 = H at hP hS ⊢
  have hP : va_P (dC, dI) vwCl [(fq, .inr (4, [.int 0, .ref tE, .int 0])), (gq, .inr (4, [.int 0, .ref tE, .int 0])), (nq, .inr (8, [.int 0, .ref tq, .ref zq, .ref wq])), (rq, .inl (ci, 119, .inl (fun _ => 0))), (sbq, .inr (1, [.ref vq, .int 0, .int 0, .int 0])), (vq, .inl (cv, 16, .inl (fun _ => 0))), (oq, .inl (co, 1, .inr (.inl (fun _ => 0)))), (h0, .inr (10, [.ref fq, .ref sq, .ref gq, .ref nq, .ref dq, .ref pq, .int 0, .int 0, .int 0])), (sq, .inr (4, [.int 0, .ref tE, .int 0])), (mq, .inr (11, [.int 1, .int 0, .int 0, .int 0, .ref rq, .ref sbq]))] H := hP
  have hD : va_D (fun q : Nat => s.heap.size ≤ q) [(fq, .inr (4, [.int 0, .ref tE, .int 0])), (gq, .inr (4, [.int 0, .ref tE, .int 0])), (nq, .inr (8, [.int 0, .ref tq, .ref zq, .ref wq])), (rq, .inl (ci, 119, .inl (fun _ => 0))), (sbq, .inr (1, [.ref vq, .int 0, .int 0, .int 0])), (vq, .inl (cv, 16, .inl (fun _ => 0))), (oq, .inl (co, 1, .inr (.inl (fun _ => 0)))), (h0, .inr (10, [.ref fq, .ref sq, .ref gq, .ref nq, .ref dq, .ref pq, .int 0, .int 0, .int 0])), (sq, .inr (4, [.int 0, .ref tE, .int 0])), (mq, .inr (11, [.int 1, .int 0, .int 0, .int 0, .ref rq, .ref sbq]))] := hD
  refine W.widen (k := 51) (n := 862) (by omega) (by omega) ?_
  obtain rfl : r_26 = 0 := hw
  refine lv_istore (lv' := [(6, .int 0), (5, .int 1), (4, .int 0), (3, .ref oq), (2, .ref mq), (1, .ref h0), (0, .ref b)]) hx hb dL_law_359 hl (by decide) rfl (fun ls hl => ?_)
  refine lv_aload_n hx hb dL_law_361 rfl (lv_at hl 4 rfl) ?_
  have hPc := hP.sub (ws' := [(mq, .inr (11, [.int 1, .int 0, .int 0, .int 0, .ref rq, .ref sbq]))]) [9] rfl
  have hDc := hD.sub (ws' := [(mq, .inr (11, [.int 1, .int 0, .int 0, .int 0, .ref rq, .ref sbq]))]) [9] (by decide) rfl
  have hKc := hK.sub (tys' := []) [] rfl
  have hFc := va_free (wc := [(mq, .inr (11, [.int 1, .int 0, .int 0, .int 0, .ref rq, .ref sbq]))]) hD hS hA [9] rfl
  refine va_calli (va_runV (As := []) (rest := []) ⟨hx, hb, hml, hown, hts⟩ (c_M_thrown l hl9 dC dI tE mq rq sbq 1 0 0 0 _ ) (cwV 0 hts (goodIn_app (goodIn_r _ [69, 70, 71, 58] (by rfl) (by decide +kernel)) gg_law_c_M_thrown) rfl rfl rfl (by decide +kernel) ⟨Nat.le_of_ble_eq_true rfl, Nat.le_of_ble_eq_true rfl⟩) ⟨Pre0.blind, va_recv hKc hPc (ci := 11) (q0 := 0) rfl rfl, Pre0.give hPc hKc hDc hT hS hFc⟩ rfl rfl hl.1 rfl (lv_room (Nat.le_of_ble_eq_true rfl)) dL_law_362 ⟨Nat.le_of_ble_eq_true rfl, Nat.le_of_ble_eq_true rfl⟩) hS (fun q _ h => hFc q h) hFc (fun r_27 u t H1 locs ht hvm hw hB hz1 hk1 hS => ?_)
  obtain ⟨hP1, hK1, hD1⟩ := hB
  rw [ht] at hP1
  have hK1 := va_K.moved hvm.symm hK1
  obtain ⟨hP, hD⟩ := va_join (wr := [(fq, .inr (4, [.int 0, .ref tE, .int 0])), (gq, .inr (4, [.int 0, .ref tE, .int 0])), (nq, .inr (8, [.int 0, .ref tq, .ref zq, .ref wq])), (rq, .inl (ci, 119, .inl (fun _ => 0))), (sbq, .inr (1, [.ref vq, .int 0, .int 0, .int 0])), (vq, .inl (cv, 16, .inl (fun _ => 0))), (oq, .inl (co, 1, .inr (.inl (fun _ => 0)))), (h0, .inr (10, [.ref fq, .ref sq, .ref gq, .ref nq, .ref dq, .ref pq, .int 0, .int 0, .int 0])), (sq, .inr (4, [.int 0, .ref tE, .int 0]))]) (w1 := [(mq, .inr (11, [.int 1, .int 0, .int 0, .int 0, .ref rq, .ref sbq]))]) hP hD [9] [0, 1, 2, 3, 4, 5, 6, 7, 8] rfl rfl (by decide) (by decide) hk1 hFc hP1 hD1
  generalize H1 = H at hP hS ⊢
  have hP : va_P (dC, dI) vwCl [(fq, .inr (4, [.int 0, .ref tE, .int 0])), (gq, .inr (4, [.int 0, .ref tE, .int 0])), (nq, .inr (8, [.int 0, .ref tq, .ref zq, .ref wq])), (rq, .inl (ci, 119, .inl (fun _ => 0))), (sbq, .inr (1, [.ref vq, .int 0, .int 0, .int 0])), (vq, .inl (cv, 16, .inl (fun _ => 0))), (oq, .inl (co, 1, .inr (.inl (fun _ => 0)))), (h0, .inr (10, [.ref fq, .ref sq, .ref gq, .ref nq, .ref dq, .ref pq, .int 0, .int 0, .int 0])), (sq, .inr (4, [.int 0, .ref tE, .int 0])), (mq, .inr (11, [.int 1, .int 0, .int 0, .int 0, .ref rq, .ref sbq]))] H := hP
  have hD : va_D (fun q : Nat => s.heap.size ≤ q) [(fq, .inr (4, [.int 0, .ref tE, .int 0])), (gq, .inr (4, [.int 0, .ref tE, .int 0])), (nq, .inr (8, [.int 0, .ref tq, .ref zq, .ref wq])), (rq, .inl (ci, 119, .inl (fun _ => 0))), (sbq, .inr (1, [.ref vq, .int 0, .int 0, .int 0])), (vq, .inl (cv, 16, .inl (fun _ => 0))), (oq, .inl (co, 1, .inr (.inl (fun _ => 0)))), (h0, .inr (10, [.ref fq, .ref sq, .ref gq, .ref nq, .ref dq, .ref pq, .int 0, .int 0, .int 0])), (sq, .inr (4, [.int 0, .ref tE, .int 0])), (mq, .inr (11, [.int 1, .int 0, .int 0, .int 0, .ref rq, .ref sbq]))] := hD
  refine W.widen (k := 51) (n := 862) (by omega) (by omega) ?_
  obtain rfl : r_27 = 1 := hw
  refine lv_iload hx hb dL_law_365 (lv_at hl 1 rfl) ?_
  refine lv_icmp_eq (tgt := 372) hx hb dL_law_367 (by decide) (fun _ => ?_) (fun c_28 => absurd (by decide) c_28)
  refine lv_iload hx hb dL_law_372 (lv_at hl 1 rfl) ?_
  refine lv_if_ne (tgt := 389) hx hb dL_law_374 (by decide) (fun _ => ?_) (fun c_29 => absurd c_29 (by decide))
  refine lv_goto (tgt := 1303) hx hb dL_law_389 (by decide) ?_
  exact law_next l C0 (by omega) (by omega) hS ls (lv_sub hl [2, 6] rfl)
set_option maxHeartbeats 4000000 in
set_option maxRecDepth 100000 in
theorem law_addGuest {p : Program} {e : Env} {s : State} {m : MethodId} {below : List Frame} {meth : Method} {c : Code} (l : Launch) (hl9 : l.stackTraces = false) {b : Nat} {xs : Nat → Int32} (C0 : lw_At p s m meth c b 4 xs) (dC : Nat → ClassId) (dI : Nat → Nat → Nat) (tE : Nat) (h0 fq sq gq nq tq zq wq dq pq mq rq sbq vq oq : Nat) (ci cv co : ClassId) (hT : tK tE (fun q : Nat => s.heap.size ≤ q) s s.heap) (hK : va_K (dC, dI) vwCl [(ci, .int), (cv, .byte), (co, .long)] s) {H : Heap} {locs : List Loc} (hP : va_P (dC, dI) vwCl [(h0, .inr (10, [.ref fq, .ref sq, .ref gq, .ref nq, .ref dq, .ref pq, .int 0, .int 0, .int 0])), (fq, .inr (4, [.int 0, .ref tE, .int 0])), (sq, .inr (4, [.int 0, .ref tE, .int 0])), (gq, .inr (4, [.int 0, .ref tE, .int 0])), (nq, .inr (8, [.int 0, .ref tq, .ref zq, .ref wq])), (mq, .inr (11, [.int 0, .int 0, .int 0, .int 0, .ref rq, .ref sbq])), (rq, .inl (ci, 119, .inl (fun _ => 0))), (sbq, .inr (1, [.ref vq, .int 0, .int 0, .int 0])), (vq, .inl (cv, 16, .inl (fun _ => 0))), (oq, .inl (co, 1, .inr (.inl (fun _ => 0))))] H) (hD : va_D (fun q : Nat => s.heap.size ≤ q) [(h0, .inr (10, [.ref fq, .ref sq, .ref gq, .ref nq, .ref dq, .ref pq, .int 0, .int 0, .int 0])), (fq, .inr (4, [.int 0, .ref tE, .int 0])), (sq, .inr (4, [.int 0, .ref tE, .int 0])), (gq, .inr (4, [.int 0, .ref tE, .int 0])), (nq, .inr (8, [.int 0, .ref tq, .ref zq, .ref wq])), (mq, .inr (11, [.int 0, .int 0, .int 0, .int 0, .ref rq, .ref sbq])), (rq, .inl (ci, 119, .inl (fun _ => 0))), (sbq, .inr (1, [.ref vq, .int 0, .int 0, .int 0])), (vq, .inl (cv, 16, .inl (fun _ => 0))), (oq, .inl (co, 1, .inr (.inl (fun _ => 0))))]) (hS : va_S (fun q : Nat => s.heap.size ≤ q) s.heap H locs) (ls : Array Slot) (hl : lv_has ls 9 [(4, .int 0), (3, .ref oq), (2, .ref mq), (1, .ref h0), (0, .ref b)]) : W p l e room_1 s m #[Value.ref b] below meth c H locs 50 856 (lw_Z below #[Value.ref b] s) (F0 m 392 ls []) := by
  obtain ⟨hx, hb, hr, hml, hown, hts, hX, hbl, hlocks, hgv⟩ := id C0
  have hts := law_hts hts
  have hA : ∀ q : Nat, s.heap.size ≤ q → (fun q : Nat => s.heap.size ≤ q) q := fun _ h => h
  have hbA : ¬ (fun q : Nat => s.heap.size ≤ q) b := Nat.not_le.mpr hbl
  refine lv_aload_n hx hb dL_law_392 rfl (lv_at hl 3 rfl) ?_
  refine lv_aload_n hx hb dL_law_393 rfl (lv_at hl 4 rfl) ?_
  refine lv_iload hx hb dL_law_394 (lv_at hl 0 rfl) ?_
  refine lv_iconst (v := 1) hx hb dL_law_396 (by decide) ?_
  refine lv_iadd hx hb dL_law_397 ?_
  refine lv_topi (fun x_1 e_2 => ?_)
  obtain rfl : x_1 = 1 := e_2.trans (by decide)
  refine va_sld hx hb hX hbl hbA hS (by unfold vp_in; decide) dL_law_398 ?_
  refine lv_topi (fun y1 ey1 => ?_)
  refine lv_aload_n hx hb dL_law_399 rfl (lv_at hl 4 rfl) ?_
  refine lv_iload hx hb dL_law_400 (lv_at hl 0 rfl) ?_
  refine lv_iconst (v := 2) hx hb dL_law_402 (by decide) ?_
  refine lv_iadd hx hb dL_law_403 ?_
  refine lv_topi (fun x_5 e_6 => ?_)
  obtain rfl : x_5 = 2 := e_6.trans (by decide)
  refine va_sld hx hb hX hbl hbA hS (by unfold vp_in; decide) dL_law_404 ?_
  refine lv_topi (fun y2 ey2 => ?_)
  refine lv_aload_n hx hb dL_law_405 rfl (lv_at hl 1 rfl) ?_
  have hPc := hP.sub (ws' := [(h0, .inr (10, [.ref fq, .ref sq, .ref gq, .ref nq, .ref dq, .ref pq, .int 0, .int 0, .int 0])), (fq, .inr (4, [.int 0, .ref tE, .int 0]))]) [0, 1] rfl
  have hDc := hD.sub (ws' := [(h0, .inr (10, [.ref fq, .ref sq, .ref gq, .ref nq, .ref dq, .ref pq, .int 0, .int 0, .int 0])), (fq, .inr (4, [.int 0, .ref tE, .int 0]))]) [0, 1] (by decide) rfl
  have hKc := hK.sub (tys' := []) [] rfl
  have hFc := va_free (wc := [(h0, .inr (10, [.ref fq, .ref sq, .ref gq, .ref nq, .ref dq, .ref pq, .int 0, .int 0, .int 0])), (fq, .inr (4, [.int 0, .ref tE, .int 0]))]) hD hS hA [0, 1] rfl
  refine va_calli (vx_runSW (As := [.ref h0, .int y1, .int y2, .ref oq]) (rest := []) ⟨hx, hb, hml, hown, hts⟩ (w_addGuest l hl9 dC dI tE h0 fq sq gq nq dq pq 0 0 0 0 y1 y2 oq _ ) (vx_cwSW 4 hts (goodIn_app (goodIn_r _ [155, 156, 52] (by rfl) (by decide +kernel)) gt_law_w_addGuest) rfl rfl rfl (by decide +kernel) ⟨Nat.le_of_ble_eq_true rfl, Nat.le_of_ble_eq_true rfl⟩) ⟨Pre0.blind, Pre0.give hPc hKc hDc hT hS hFc⟩ rfl rfl hl.1 rfl (lv_room (Nat.le_of_ble_eq_true rfl)) dL_law_406 ⟨Nat.le_of_ble_eq_true rfl, Nat.le_of_ble_eq_true rfl⟩) hS (fun q _ h => hFc q h) hFc (fun r_9 u t H1 locs ht hvm hw hB hz1 hk1 hS => ?_)
  obtain ⟨hP1, hK1, hD1⟩ := hB
  rw [ht] at hP1
  have hK1 := va_K.moved hvm.symm hK1
  obtain ⟨hP, hD⟩ := va_join (wr := [(sq, .inr (4, [.int 0, .ref tE, .int 0])), (gq, .inr (4, [.int 0, .ref tE, .int 0])), (nq, .inr (8, [.int 0, .ref tq, .ref zq, .ref wq])), (mq, .inr (11, [.int 0, .int 0, .int 0, .int 0, .ref rq, .ref sbq])), (rq, .inl (ci, 119, .inl (fun _ => 0))), (sbq, .inr (1, [.ref vq, .int 0, .int 0, .int 0])), (vq, .inl (cv, 16, .inl (fun _ => 0))), (oq, .inl (co, 1, .inr (.inl (fun _ => 0))))]) (w1 := [(h0, .inr (10, [.ref fq, .ref sq, .ref gq, .ref nq, .ref dq, .ref pq, .int 0, .int 0, .int 0])), (fq, .inr (4, [.int 0, .ref tE, .int 0]))]) hP hD [0, 1] [2, 3, 4, 5, 6, 7, 8, 9] rfl rfl (by decide) (by decide) hk1 hFc hP1 hD1
  generalize H1 = H at hP hS ⊢
  have hP : va_P (dC, dI) vwCl [(sq, .inr (4, [.int 0, .ref tE, .int 0])), (gq, .inr (4, [.int 0, .ref tE, .int 0])), (nq, .inr (8, [.int 0, .ref tq, .ref zq, .ref wq])), (mq, .inr (11, [.int 0, .int 0, .int 0, .int 0, .ref rq, .ref sbq])), (rq, .inl (ci, 119, .inl (fun _ => 0))), (sbq, .inr (1, [.ref vq, .int 0, .int 0, .int 0])), (vq, .inl (cv, 16, .inl (fun _ => 0))), (oq, .inl (co, 1, .inr (.inl (fun _ => 0)))), (h0, .inr (10, [.ref fq, .ref sq, .ref gq, .ref nq, .ref dq, .ref pq, .int 0, .int 0, .int 0])), (fq, .inr (4, [.int 0, .ref tE, .int 0]))] H := hP
  have hD : va_D (fun q : Nat => s.heap.size ≤ q) [(sq, .inr (4, [.int 0, .ref tE, .int 0])), (gq, .inr (4, [.int 0, .ref tE, .int 0])), (nq, .inr (8, [.int 0, .ref tq, .ref zq, .ref wq])), (mq, .inr (11, [.int 0, .int 0, .int 0, .int 0, .ref rq, .ref sbq])), (rq, .inl (ci, 119, .inl (fun _ => 0))), (sbq, .inr (1, [.ref vq, .int 0, .int 0, .int 0])), (vq, .inl (cv, 16, .inl (fun _ => 0))), (oq, .inl (co, 1, .inr (.inl (fun _ => 0)))), (h0, .inr (10, [.ref fq, .ref sq, .ref gq, .ref nq, .ref dq, .ref pq, .int 0, .int 0, .int 0])), (fq, .inr (4, [.int 0, .ref tE, .int 0]))] := hD
  refine W.widen (k := 51) (n := 862) (by omega) (by omega) ?_
  obtain rfl : r_9 = 1 := hw
  refine lv_istore (lv' := [(5, .int 1), (4, .int 0), (3, .ref oq), (2, .ref mq), (1, .ref h0), (0, .ref b)]) hx hb dL_law_409 hl (by decide) rfl (fun ls hl => ?_)
  refine lv_aload_n hx hb dL_law_411 rfl (lv_at hl 3 rfl) ?_
  refine lv_aload_n hx hb dL_law_412 rfl (lv_at hl 5 rfl) ?_
  refine lv_iload hx hb dL_law_413 (lv_at hl 1 rfl) ?_
  refine lv_iconst (v := 1) hx hb dL_law_415 (by decide) ?_
  refine lv_iadd hx hb dL_law_416 ?_
  refine lv_topi (fun x_10 e_11 => ?_)
  obtain rfl : x_10 = 1 := e_11.trans (by decide)
  refine va_sld hx hb hX hbl hbA hS (by unfold vp_in; decide) dL_law_417 ?_
  refine lv_topi (fun x_12 e_13 => ?_)
  obtain rfl : y1 = x_12 := ey1.trans e_13.symm
  refine lv_aload_n hx hb dL_law_418 rfl (lv_at hl 5 rfl) ?_
  refine lv_iload hx hb dL_law_419 (lv_at hl 1 rfl) ?_
  refine lv_iconst (v := 2) hx hb dL_law_421 (by decide) ?_
  refine lv_iadd hx hb dL_law_422 ?_
  refine lv_topi (fun x_14 e_15 => ?_)
  obtain rfl : x_14 = 2 := e_15.trans (by decide)
  refine va_sld hx hb hX hbl hbA hS (by unfold vp_in; decide) dL_law_423 ?_
  refine lv_topi (fun x_16 e_17 => ?_)
  obtain rfl : y2 = x_16 := ey2.trans e_17.symm
  have hPc := hP.sub (ws' := [(mq, .inr (11, [.int 0, .int 0, .int 0, .int 0, .ref rq, .ref sbq]))]) [3] rfl
  have hDc := hD.sub (ws' := [(mq, .inr (11, [.int 0, .int 0, .int 0, .int 0, .ref rq, .ref sbq]))]) [3] (by decide) rfl
  have hKc := hK.sub (tys' := []) [] rfl
  have hFc := va_free (wc := [(mq, .inr (11, [.int 0, .int 0, .int 0, .int 0, .ref rq, .ref sbq]))]) hD hS hA [3] rfl
  refine va_calli (va_runV (As := [.int y1, .int y2]) (rest := []) ⟨hx, hb, hml, hown, hts⟩ (c_M_addGuest l hl9 dC dI tE mq rq sbq 0 y1 y2 _ ) (cwV 2 hts (goodIn_app (goodIn_r _ [162, 163, 164, 58] (by rfl) (by decide +kernel)) gg_law_c_M_addGuest) rfl rfl rfl (by decide +kernel) ⟨Nat.le_of_ble_eq_true rfl, Nat.le_of_ble_eq_true rfl⟩) ⟨Pre0.blind, va_recv hKc hPc (ci := 11) (q0 := 0) rfl rfl, Pre0.give hPc hKc hDc hT hS hFc⟩ rfl rfl hl.1 rfl (lv_room (Nat.le_of_ble_eq_true rfl)) dL_law_424 ⟨Nat.le_of_ble_eq_true rfl, Nat.le_of_ble_eq_true rfl⟩) hS (fun q _ h => hFc q h) hFc (fun r_18 u t H1 locs ht hvm hw hB hz1 hk1 hS => ?_)
  obtain ⟨hP1, hK1, hD1⟩ := hB
  rw [ht] at hP1
  have hK1 := va_K.moved hvm.symm hK1
  obtain ⟨hP, hD⟩ := va_join (wr := [(sq, .inr (4, [.int 0, .ref tE, .int 0])), (gq, .inr (4, [.int 0, .ref tE, .int 0])), (nq, .inr (8, [.int 0, .ref tq, .ref zq, .ref wq])), (rq, .inl (ci, 119, .inl (fun _ => 0))), (sbq, .inr (1, [.ref vq, .int 0, .int 0, .int 0])), (vq, .inl (cv, 16, .inl (fun _ => 0))), (oq, .inl (co, 1, .inr (.inl (fun _ => 0)))), (h0, .inr (10, [.ref fq, .ref sq, .ref gq, .ref nq, .ref dq, .ref pq, .int 0, .int 0, .int 0])), (fq, .inr (4, [.int 0, .ref tE, .int 0]))]) (w1 := [(mq, .inr (11, [.int 1, .int 0, .int 0, .int 0, .ref rq, .ref sbq]))]) hP hD [3] [0, 1, 2, 4, 5, 6, 7, 8, 9] rfl rfl (by decide) (by decide) hk1 hFc hP1 hD1
  generalize H1 = H at hP hS ⊢
  have hP : va_P (dC, dI) vwCl [(sq, .inr (4, [.int 0, .ref tE, .int 0])), (gq, .inr (4, [.int 0, .ref tE, .int 0])), (nq, .inr (8, [.int 0, .ref tq, .ref zq, .ref wq])), (rq, .inl (ci, 119, .inl (fun _ => 0))), (sbq, .inr (1, [.ref vq, .int 0, .int 0, .int 0])), (vq, .inl (cv, 16, .inl (fun _ => 0))), (oq, .inl (co, 1, .inr (.inl (fun _ => 0)))), (h0, .inr (10, [.ref fq, .ref sq, .ref gq, .ref nq, .ref dq, .ref pq, .int 0, .int 0, .int 0])), (fq, .inr (4, [.int 0, .ref tE, .int 0])), (mq, .inr (11, [.int 1, .int 0, .int 0, .int 0, .ref rq, .ref sbq]))] H := hP
  have hD : va_D (fun q : Nat => s.heap.size ≤ q) [(sq, .inr (4, [.int 0, .ref tE, .int 0])), (gq, .inr (4, [.int 0, .ref tE, .int 0])), (nq, .inr (8, [.int 0, .ref tq, .ref zq, .ref wq])), (rq, .inl (ci, 119, .inl (fun _ => 0))), (sbq, .inr (1, [.ref vq, .int 0, .int 0, .int 0])), (vq, .inl (cv, 16, .inl (fun _ => 0))), (oq, .inl (co, 1, .inr (.inl (fun _ => 0)))), (h0, .inr (10, [.ref fq, .ref sq, .ref gq, .ref nq, .ref dq, .ref pq, .int 0, .int 0, .int 0])), (fq, .inr (4, [.int 0, .ref tE, .int 0])), (mq, .inr (11, [.int 1, .int 0, .int 0, .int 0, .ref rq, .ref sbq]))] := hD
  refine W.widen (k := 51) (n := 862) (by omega) (by omega) ?_
  obtain rfl : r_18 = 0 := hw
  refine lv_istore (lv' := [(6, .int 0), (5, .int 1), (4, .int 0), (3, .ref oq), (2, .ref mq), (1, .ref h0), (0, .ref b)]) hx hb dL_law_427 hl (by decide) rfl (fun ls hl => ?_)
  refine lv_aload_n hx hb dL_law_429 rfl (lv_at hl 4 rfl) ?_
  have hPc := hP.sub (ws' := [(mq, .inr (11, [.int 1, .int 0, .int 0, .int 0, .ref rq, .ref sbq]))]) [9] rfl
  have hDc := hD.sub (ws' := [(mq, .inr (11, [.int 1, .int 0, .int 0, .int 0, .ref rq, .ref sbq]))]) [9] (by decide) rfl
  have hKc := hK.sub (tys' := []) [] rfl
  have hFc := va_free (wc := [(mq, .inr (11, [.int 1, .int 0, .int 0, .int 0, .ref rq, .ref sbq]))]) hD hS hA [9] rfl
  refine va_calli (va_runV (As := []) (rest := []) ⟨hx, hb, hml, hown, hts⟩ (c_M_thrown l hl9 dC dI tE mq rq sbq 1 0 0 0 _ ) (cwV 0 hts (goodIn_app (goodIn_r _ [69, 70, 71, 58] (by rfl) (by decide +kernel)) gg_law_c_M_thrown) rfl rfl rfl (by decide +kernel) ⟨Nat.le_of_ble_eq_true rfl, Nat.le_of_ble_eq_true rfl⟩) ⟨Pre0.blind, va_recv hKc hPc (ci := 11) (q0 := 0) rfl rfl, Pre0.give hPc hKc hDc hT hS hFc⟩ rfl rfl hl.1 rfl (lv_room (Nat.le_of_ble_eq_true rfl)) dL_law_430 ⟨Nat.le_of_ble_eq_true rfl, Nat.le_of_ble_eq_true rfl⟩) hS (fun q _ h => hFc q h) hFc (fun r_19 u t H1 locs ht hvm hw hB hz1 hk1 hS => ?_)
  obtain ⟨hP1, hK1, hD1⟩ := hB
  rw [ht] at hP1
  have hK1 := va_K.moved hvm.symm hK1
  obtain ⟨hP, hD⟩ := va_join (wr := [(sq, .inr (4, [.int 0, .ref tE, .int 0])), (gq, .inr (4, [.int 0, .ref tE, .int 0])), (nq, .inr (8, [.int 0, .ref tq, .ref zq, .ref wq])), (rq, .inl (ci, 119, .inl (fun _ => 0))), (sbq, .inr (1, [.ref vq, .int 0, .int 0, .int 0])), (vq, .inl (cv, 16, .inl (fun _ => 0))), (oq, .inl (co, 1, .inr (.inl (fun _ => 0)))), (h0, .inr (10, [.ref fq, .ref sq, .ref gq, .ref nq, .ref dq, .ref pq, .int 0, .int 0, .int 0])), (fq, .inr (4, [.int 0, .ref tE, .int 0]))]) (w1 := [(mq, .inr (11, [.int 1, .int 0, .int 0, .int 0, .ref rq, .ref sbq]))]) hP hD [9] [0, 1, 2, 3, 4, 5, 6, 7, 8] rfl rfl (by decide) (by decide) hk1 hFc hP1 hD1
  generalize H1 = H at hP hS ⊢
  have hP : va_P (dC, dI) vwCl [(sq, .inr (4, [.int 0, .ref tE, .int 0])), (gq, .inr (4, [.int 0, .ref tE, .int 0])), (nq, .inr (8, [.int 0, .ref tq, .ref zq, .ref wq])), (rq, .inl (ci, 119, .inl (fun _ => 0))), (sbq, .inr (1, [.ref vq, .int 0, .int 0, .int 0])), (vq, .inl (cv, 16, .inl (fun _ => 0))), (oq, .inl (co, 1, .inr (.inl (fun _ => 0)))), (h0, .inr (10, [.ref fq, .ref sq, .ref gq, .ref nq, .ref dq, .ref pq, .int 0, .int 0, .int 0])), (fq, .inr (4, [.int 0, .ref tE, .int 0])), (mq, .inr (11, [.int 1, .int 0, .int 0, .int 0, .ref rq, .ref sbq]))] H := hP
  have hD : va_D (fun q : Nat => s.heap.size ≤ q) [(sq, .inr (4, [.int 0, .ref tE, .int 0])), (gq, .inr (4, [.int 0, .ref tE, .int 0])), (nq, .inr (8, [.int 0, .ref tq, .ref zq, .ref wq])), (rq, .inl (ci, 119, .inl (fun _ => 0))), (sbq, .inr (1, [.ref vq, .int 0, .int 0, .int 0])), (vq, .inl (cv, 16, .inl (fun _ => 0))), (oq, .inl (co, 1, .inr (.inl (fun _ => 0)))), (h0, .inr (10, [.ref fq, .ref sq, .ref gq, .ref nq, .ref dq, .ref pq, .int 0, .int 0, .int 0])), (fq, .inr (4, [.int 0, .ref tE, .int 0])), (mq, .inr (11, [.int 1, .int 0, .int 0, .int 0, .ref rq, .ref sbq]))] := hD
  refine W.widen (k := 51) (n := 862) (by omega) (by omega) ?_
  obtain rfl : r_19 = 1 := hw
  refine lv_iload hx hb dL_law_433 (lv_at hl 1 rfl) ?_
  refine lv_icmp_eq (tgt := 440) hx hb dL_law_435 (by decide) (fun _ => ?_) (fun c_20 => absurd (by decide) c_20)
  refine lv_iload hx hb dL_law_440 (lv_at hl 1 rfl) ?_
  refine lv_if_ne (tgt := 457) hx hb dL_law_442 (by decide) (fun _ => ?_) (fun c_21 => absurd c_21 (by decide))
  refine lv_goto (tgt := 1303) hx hb dL_law_457 (by decide) ?_
  exact law_next l C0 (by omega) (by omega) hS ls (lv_sub hl [2, 6] rfl)
set_option maxHeartbeats 4000000 in
set_option maxRecDepth 100000 in
theorem law_want {p : Program} {e : Env} {s : State} {m : MethodId} {below : List Frame} {meth : Method} {c : Code} (l : Launch) (hl9 : l.stackTraces = false) {b : Nat} {xs : Nat → Int32} (C0 : lw_At p s m meth c b 4 xs) (dC : Nat → ClassId) (dI : Nat → Nat → Nat) (tE : Nat) (h0 fq sq gq nq tq zq wq dq pq mq rq sbq vq oq : Nat) (ci cv co : ClassId) (hT : tK tE (fun q : Nat => s.heap.size ≤ q) s s.heap) (hK : va_K (dC, dI) vwCl [(ci, .int), (cv, .byte), (co, .long)] s) {H : Heap} {locs : List Loc} (hP : va_P (dC, dI) vwCl [(h0, .inr (10, [.ref fq, .ref sq, .ref gq, .ref nq, .ref dq, .ref pq, .int 0, .int 0, .int 0])), (fq, .inr (4, [.int 0, .ref tE, .int 0])), (sq, .inr (4, [.int 0, .ref tE, .int 0])), (gq, .inr (4, [.int 0, .ref tE, .int 0])), (nq, .inr (8, [.int 0, .ref tq, .ref zq, .ref wq])), (mq, .inr (11, [.int 0, .int 0, .int 0, .int 0, .ref rq, .ref sbq])), (rq, .inl (ci, 119, .inl (fun _ => 0))), (sbq, .inr (1, [.ref vq, .int 0, .int 0, .int 0])), (vq, .inl (cv, 16, .inl (fun _ => 0))), (oq, .inl (co, 1, .inr (.inl (fun _ => 0))))] H) (hD : va_D (fun q : Nat => s.heap.size ≤ q) [(h0, .inr (10, [.ref fq, .ref sq, .ref gq, .ref nq, .ref dq, .ref pq, .int 0, .int 0, .int 0])), (fq, .inr (4, [.int 0, .ref tE, .int 0])), (sq, .inr (4, [.int 0, .ref tE, .int 0])), (gq, .inr (4, [.int 0, .ref tE, .int 0])), (nq, .inr (8, [.int 0, .ref tq, .ref zq, .ref wq])), (mq, .inr (11, [.int 0, .int 0, .int 0, .int 0, .ref rq, .ref sbq])), (rq, .inl (ci, 119, .inl (fun _ => 0))), (sbq, .inr (1, [.ref vq, .int 0, .int 0, .int 0])), (vq, .inl (cv, 16, .inl (fun _ => 0))), (oq, .inl (co, 1, .inr (.inl (fun _ => 0))))]) (hS : va_S (fun q : Nat => s.heap.size ≤ q) s.heap H locs) (ls : Array Slot) (hl : lv_has ls 9 [(4, .int 0), (3, .ref oq), (2, .ref mq), (1, .ref h0), (0, .ref b)]) : W p l e room_1 s m #[Value.ref b] below meth c H locs 50 856 (lw_Z below #[Value.ref b] s) (F0 m 460 ls []) := by
  obtain ⟨hx, hb, hr, hml, hown, hts, hX, hbl, hlocks, hgv⟩ := id C0
  have hts := law_hts hts
  have hA : ∀ q : Nat, s.heap.size ≤ q → (fun q : Nat => s.heap.size ≤ q) q := fun _ h => h
  have hbA : ¬ (fun q : Nat => s.heap.size ≤ q) b := Nat.not_le.mpr hbl
  refine lv_aload_n hx hb dL_law_460 rfl (lv_at hl 3 rfl) ?_
  refine lv_aload_n hx hb dL_law_461 rfl (lv_at hl 4 rfl) ?_
  refine lv_iload hx hb dL_law_462 (lv_at hl 0 rfl) ?_
  refine lv_iconst (v := 1) hx hb dL_law_464 (by decide) ?_
  refine lv_iadd hx hb dL_law_465 ?_
  refine lv_topi (fun x_1 e_2 => ?_)
  obtain rfl : x_1 = 1 := e_2.trans (by decide)
  refine va_sld hx hb hX hbl hbA hS (by unfold vp_in; decide) dL_law_466 ?_
  refine lv_topi (fun y1 ey1 => ?_)
  refine lv_aload_n hx hb dL_law_467 rfl (lv_at hl 4 rfl) ?_
  refine lv_iload hx hb dL_law_468 (lv_at hl 0 rfl) ?_
  refine lv_iconst (v := 2) hx hb dL_law_470 (by decide) ?_
  refine lv_iadd hx hb dL_law_471 ?_
  refine lv_topi (fun x_5 e_6 => ?_)
  obtain rfl : x_5 = 2 := e_6.trans (by decide)
  refine va_sld hx hb hX hbl hbA hS (by unfold vp_in; decide) dL_law_472 ?_
  refine lv_topi (fun y2 ey2 => ?_)
  refine lv_aload_n hx hb dL_law_473 rfl (lv_at hl 4 rfl) ?_
  refine lv_iload hx hb dL_law_474 (lv_at hl 0 rfl) ?_
  refine lv_iconst (v := 3) hx hb dL_law_476 (by decide) ?_
  refine lv_iadd hx hb dL_law_477 ?_
  refine lv_topi (fun x_9 e_10 => ?_)
  obtain rfl : x_9 = 3 := e_10.trans (by decide)
  refine va_sld hx hb hX hbl hbA hS (by unfold vp_in; decide) dL_law_478 ?_
  refine lv_topi (fun y3 ey3 => ?_)
  refine lv_aload_n hx hb dL_law_479 rfl (lv_at hl 1 rfl) ?_
  have hPc := hP.sub (ws' := [(h0, .inr (10, [.ref fq, .ref sq, .ref gq, .ref nq, .ref dq, .ref pq, .int 0, .int 0, .int 0])), (gq, .inr (4, [.int 0, .ref tE, .int 0]))]) [0, 3] rfl
  have hDc := hD.sub (ws' := [(h0, .inr (10, [.ref fq, .ref sq, .ref gq, .ref nq, .ref dq, .ref pq, .int 0, .int 0, .int 0])), (gq, .inr (4, [.int 0, .ref tE, .int 0]))]) [0, 3] (by decide) rfl
  have hKc := hK.sub (tys' := []) [] rfl
  have hFc := va_free (wc := [(h0, .inr (10, [.ref fq, .ref sq, .ref gq, .ref nq, .ref dq, .ref pq, .int 0, .int 0, .int 0])), (gq, .inr (4, [.int 0, .ref tE, .int 0]))]) hD hS hA [0, 3] rfl
  refine va_calli (vx_runSW (As := [.ref h0, .int y1, .int y2, .int y3, .ref oq]) (rest := []) ⟨hx, hb, hml, hown, hts⟩ (w_want l hl9 dC dI tE h0 fq sq gq nq dq pq 0 0 0 0 y1 y2 y3 oq _ ) (vx_cwSW 5 hts (goodIn_app (goodIn_r _ [175, 176, 52] (by rfl) (by decide +kernel)) gt_law_w_want) rfl rfl rfl (by decide +kernel) ⟨Nat.le_of_ble_eq_true rfl, Nat.le_of_ble_eq_true rfl⟩) ⟨Pre0.blind, Pre0.give hPc hKc hDc hT hS hFc⟩ rfl rfl hl.1 rfl (lv_room (Nat.le_of_ble_eq_true rfl)) dL_law_480 ⟨Nat.le_of_ble_eq_true rfl, Nat.le_of_ble_eq_true rfl⟩) hS (fun q _ h => hFc q h) hFc (fun r_13 u t H1 locs ht hvm hw hB hz1 hk1 hS => ?_)
  obtain ⟨hP1, hK1, hD1⟩ := hB
  rw [ht] at hP1
  have hK1 := va_K.moved hvm.symm hK1
  obtain ⟨hP, hD⟩ := va_join (wr := [(fq, .inr (4, [.int 0, .ref tE, .int 0])), (sq, .inr (4, [.int 0, .ref tE, .int 0])), (nq, .inr (8, [.int 0, .ref tq, .ref zq, .ref wq])), (mq, .inr (11, [.int 0, .int 0, .int 0, .int 0, .ref rq, .ref sbq])), (rq, .inl (ci, 119, .inl (fun _ => 0))), (sbq, .inr (1, [.ref vq, .int 0, .int 0, .int 0])), (vq, .inl (cv, 16, .inl (fun _ => 0))), (oq, .inl (co, 1, .inr (.inl (fun _ => 0))))]) (w1 := [(h0, .inr (10, [.ref fq, .ref sq, .ref gq, .ref nq, .ref dq, .ref pq, .int 0, .int 0, .int 0])), (gq, .inr (4, [.int 0, .ref tE, .int 0]))]) hP hD [0, 3] [1, 2, 4, 5, 6, 7, 8, 9] rfl rfl (by decide) (by decide) hk1 hFc hP1 hD1
  generalize H1 = H at hP hS ⊢
  have hP : va_P (dC, dI) vwCl [(fq, .inr (4, [.int 0, .ref tE, .int 0])), (sq, .inr (4, [.int 0, .ref tE, .int 0])), (nq, .inr (8, [.int 0, .ref tq, .ref zq, .ref wq])), (mq, .inr (11, [.int 0, .int 0, .int 0, .int 0, .ref rq, .ref sbq])), (rq, .inl (ci, 119, .inl (fun _ => 0))), (sbq, .inr (1, [.ref vq, .int 0, .int 0, .int 0])), (vq, .inl (cv, 16, .inl (fun _ => 0))), (oq, .inl (co, 1, .inr (.inl (fun _ => 0)))), (h0, .inr (10, [.ref fq, .ref sq, .ref gq, .ref nq, .ref dq, .ref pq, .int 0, .int 0, .int 0])), (gq, .inr (4, [.int 0, .ref tE, .int 0]))] H := hP
  have hD : va_D (fun q : Nat => s.heap.size ≤ q) [(fq, .inr (4, [.int 0, .ref tE, .int 0])), (sq, .inr (4, [.int 0, .ref tE, .int 0])), (nq, .inr (8, [.int 0, .ref tq, .ref zq, .ref wq])), (mq, .inr (11, [.int 0, .int 0, .int 0, .int 0, .ref rq, .ref sbq])), (rq, .inl (ci, 119, .inl (fun _ => 0))), (sbq, .inr (1, [.ref vq, .int 0, .int 0, .int 0])), (vq, .inl (cv, 16, .inl (fun _ => 0))), (oq, .inl (co, 1, .inr (.inl (fun _ => 0)))), (h0, .inr (10, [.ref fq, .ref sq, .ref gq, .ref nq, .ref dq, .ref pq, .int 0, .int 0, .int 0])), (gq, .inr (4, [.int 0, .ref tE, .int 0]))] := hD
  refine W.widen (k := 51) (n := 862) (by omega) (by omega) ?_
  obtain rfl : r_13 = 1 := hw
  refine lv_istore (lv' := [(5, .int 1), (4, .int 0), (3, .ref oq), (2, .ref mq), (1, .ref h0), (0, .ref b)]) hx hb dL_law_483 hl (by decide) rfl (fun ls hl => ?_)
  refine lv_aload_n hx hb dL_law_485 rfl (lv_at hl 3 rfl) ?_
  refine lv_aload_n hx hb dL_law_486 rfl (lv_at hl 5 rfl) ?_
  refine lv_iload hx hb dL_law_487 (lv_at hl 1 rfl) ?_
  refine lv_iconst (v := 1) hx hb dL_law_489 (by decide) ?_
  refine lv_iadd hx hb dL_law_490 ?_
  refine lv_topi (fun x_14 e_15 => ?_)
  obtain rfl : x_14 = 1 := e_15.trans (by decide)
  refine va_sld hx hb hX hbl hbA hS (by unfold vp_in; decide) dL_law_491 ?_
  refine lv_topi (fun x_16 e_17 => ?_)
  obtain rfl : y1 = x_16 := ey1.trans e_17.symm
  refine lv_aload_n hx hb dL_law_492 rfl (lv_at hl 5 rfl) ?_
  refine lv_iload hx hb dL_law_493 (lv_at hl 1 rfl) ?_
  refine lv_iconst (v := 2) hx hb dL_law_495 (by decide) ?_
  refine lv_iadd hx hb dL_law_496 ?_
  refine lv_topi (fun x_18 e_19 => ?_)
  obtain rfl : x_18 = 2 := e_19.trans (by decide)
  refine va_sld hx hb hX hbl hbA hS (by unfold vp_in; decide) dL_law_497 ?_
  refine lv_topi (fun x_20 e_21 => ?_)
  obtain rfl : y2 = x_20 := ey2.trans e_21.symm
  refine lv_aload_n hx hb dL_law_498 rfl (lv_at hl 5 rfl) ?_
  refine lv_iload hx hb dL_law_499 (lv_at hl 1 rfl) ?_
  refine lv_iconst (v := 3) hx hb dL_law_501 (by decide) ?_
  refine lv_iadd hx hb dL_law_502 ?_
  refine lv_topi (fun x_22 e_23 => ?_)
  obtain rfl : x_22 = 3 := e_23.trans (by decide)
  refine va_sld hx hb hX hbl hbA hS (by unfold vp_in; decide) dL_law_503 ?_
  refine lv_topi (fun x_24 e_25 => ?_)
  obtain rfl : y3 = x_24 := ey3.trans e_25.symm
  have hPc := hP.sub (ws' := [(mq, .inr (11, [.int 0, .int 0, .int 0, .int 0, .ref rq, .ref sbq]))]) [3] rfl
  have hDc := hD.sub (ws' := [(mq, .inr (11, [.int 0, .int 0, .int 0, .int 0, .ref rq, .ref sbq]))]) [3] (by decide) rfl
  have hKc := hK.sub (tys' := []) [] rfl
  have hFc := va_free (wc := [(mq, .inr (11, [.int 0, .int 0, .int 0, .int 0, .ref rq, .ref sbq]))]) hD hS hA [3] rfl
  refine va_calli (va_runV (As := [.int y1, .int y2, .int y3]) (rest := []) ⟨hx, hb, hml, hown, hts⟩ (c_M_want l hl9 dC dI tE mq rq sbq 0 y1 y2 y3 _ ) (cwV 3 hts (goodIn_app (goodIn_r _ [183, 184, 185, 58] (by rfl) (by decide +kernel)) gg_law_c_M_want) rfl rfl rfl (by decide +kernel) ⟨Nat.le_of_ble_eq_true rfl, Nat.le_of_ble_eq_true rfl⟩) ⟨Pre0.blind, va_recv hKc hPc (ci := 11) (q0 := 0) rfl rfl, Pre0.give hPc hKc hDc hT hS hFc⟩ rfl rfl hl.1 rfl (lv_room (Nat.le_of_ble_eq_true rfl)) dL_law_504 ⟨Nat.le_of_ble_eq_true rfl, Nat.le_of_ble_eq_true rfl⟩) hS (fun q _ h => hFc q h) hFc (fun r_26 u t H1 locs ht hvm hw hB hz1 hk1 hS => ?_)
  obtain ⟨hP1, hK1, hD1⟩ := hB
  rw [ht] at hP1
  have hK1 := va_K.moved hvm.symm hK1
  obtain ⟨hP, hD⟩ := va_join (wr := [(fq, .inr (4, [.int 0, .ref tE, .int 0])), (sq, .inr (4, [.int 0, .ref tE, .int 0])), (nq, .inr (8, [.int 0, .ref tq, .ref zq, .ref wq])), (rq, .inl (ci, 119, .inl (fun _ => 0))), (sbq, .inr (1, [.ref vq, .int 0, .int 0, .int 0])), (vq, .inl (cv, 16, .inl (fun _ => 0))), (oq, .inl (co, 1, .inr (.inl (fun _ => 0)))), (h0, .inr (10, [.ref fq, .ref sq, .ref gq, .ref nq, .ref dq, .ref pq, .int 0, .int 0, .int 0])), (gq, .inr (4, [.int 0, .ref tE, .int 0]))]) (w1 := [(mq, .inr (11, [.int 1, .int 0, .int 0, .int 0, .ref rq, .ref sbq]))]) hP hD [3] [0, 1, 2, 4, 5, 6, 7, 8, 9] rfl rfl (by decide) (by decide) hk1 hFc hP1 hD1
  generalize H1 = H at hP hS ⊢
  have hP : va_P (dC, dI) vwCl [(fq, .inr (4, [.int 0, .ref tE, .int 0])), (sq, .inr (4, [.int 0, .ref tE, .int 0])), (nq, .inr (8, [.int 0, .ref tq, .ref zq, .ref wq])), (rq, .inl (ci, 119, .inl (fun _ => 0))), (sbq, .inr (1, [.ref vq, .int 0, .int 0, .int 0])), (vq, .inl (cv, 16, .inl (fun _ => 0))), (oq, .inl (co, 1, .inr (.inl (fun _ => 0)))), (h0, .inr (10, [.ref fq, .ref sq, .ref gq, .ref nq, .ref dq, .ref pq, .int 0, .int 0, .int 0])), (gq, .inr (4, [.int 0, .ref tE, .int 0])), (mq, .inr (11, [.int 1, .int 0, .int 0, .int 0, .ref rq, .ref sbq]))] H := hP
  have hD : va_D (fun q : Nat => s.heap.size ≤ q) [(fq, .inr (4, [.int 0, .ref tE, .int 0])), (sq, .inr (4, [.int 0, .ref tE, .int 0])), (nq, .inr (8, [.int 0, .ref tq, .ref zq, .ref wq])), (rq, .inl (ci, 119, .inl (fun _ => 0))), (sbq, .inr (1, [.ref vq, .int 0, .int 0, .int 0])), (vq, .inl (cv, 16, .inl (fun _ => 0))), (oq, .inl (co, 1, .inr (.inl (fun _ => 0)))), (h0, .inr (10, [.ref fq, .ref sq, .ref gq, .ref nq, .ref dq, .ref pq, .int 0, .int 0, .int 0])), (gq, .inr (4, [.int 0, .ref tE, .int 0])), (mq, .inr (11, [.int 1, .int 0, .int 0, .int 0, .ref rq, .ref sbq]))] := hD
  refine W.widen (k := 51) (n := 862) (by omega) (by omega) ?_
  obtain rfl : r_26 = 0 := hw
  refine lv_istore (lv' := [(6, .int 0), (5, .int 1), (4, .int 0), (3, .ref oq), (2, .ref mq), (1, .ref h0), (0, .ref b)]) hx hb dL_law_507 hl (by decide) rfl (fun ls hl => ?_)
  refine lv_aload_n hx hb dL_law_509 rfl (lv_at hl 4 rfl) ?_
  have hPc := hP.sub (ws' := [(mq, .inr (11, [.int 1, .int 0, .int 0, .int 0, .ref rq, .ref sbq]))]) [9] rfl
  have hDc := hD.sub (ws' := [(mq, .inr (11, [.int 1, .int 0, .int 0, .int 0, .ref rq, .ref sbq]))]) [9] (by decide) rfl
  have hKc := hK.sub (tys' := []) [] rfl
  have hFc := va_free (wc := [(mq, .inr (11, [.int 1, .int 0, .int 0, .int 0, .ref rq, .ref sbq]))]) hD hS hA [9] rfl
  refine va_calli (va_runV (As := []) (rest := []) ⟨hx, hb, hml, hown, hts⟩ (c_M_thrown l hl9 dC dI tE mq rq sbq 1 0 0 0 _ ) (cwV 0 hts (goodIn_app (goodIn_r _ [69, 70, 71, 58] (by rfl) (by decide +kernel)) gg_law_c_M_thrown) rfl rfl rfl (by decide +kernel) ⟨Nat.le_of_ble_eq_true rfl, Nat.le_of_ble_eq_true rfl⟩) ⟨Pre0.blind, va_recv hKc hPc (ci := 11) (q0 := 0) rfl rfl, Pre0.give hPc hKc hDc hT hS hFc⟩ rfl rfl hl.1 rfl (lv_room (Nat.le_of_ble_eq_true rfl)) dL_law_510 ⟨Nat.le_of_ble_eq_true rfl, Nat.le_of_ble_eq_true rfl⟩) hS (fun q _ h => hFc q h) hFc (fun r_27 u t H1 locs ht hvm hw hB hz1 hk1 hS => ?_)
  obtain ⟨hP1, hK1, hD1⟩ := hB
  rw [ht] at hP1
  have hK1 := va_K.moved hvm.symm hK1
  obtain ⟨hP, hD⟩ := va_join (wr := [(fq, .inr (4, [.int 0, .ref tE, .int 0])), (sq, .inr (4, [.int 0, .ref tE, .int 0])), (nq, .inr (8, [.int 0, .ref tq, .ref zq, .ref wq])), (rq, .inl (ci, 119, .inl (fun _ => 0))), (sbq, .inr (1, [.ref vq, .int 0, .int 0, .int 0])), (vq, .inl (cv, 16, .inl (fun _ => 0))), (oq, .inl (co, 1, .inr (.inl (fun _ => 0)))), (h0, .inr (10, [.ref fq, .ref sq, .ref gq, .ref nq, .ref dq, .ref pq, .int 0, .int 0, .int 0])), (gq, .inr (4, [.int 0, .ref tE, .int 0]))]) (w1 := [(mq, .inr (11, [.int 1, .int 0, .int 0, .int 0, .ref rq, .ref sbq]))]) hP hD [9] [0, 1, 2, 3, 4, 5, 6, 7, 8] rfl rfl (by decide) (by decide) hk1 hFc hP1 hD1
  generalize H1 = H at hP hS ⊢
  have hP : va_P (dC, dI) vwCl [(fq, .inr (4, [.int 0, .ref tE, .int 0])), (sq, .inr (4, [.int 0, .ref tE, .int 0])), (nq, .inr (8, [.int 0, .ref tq, .ref zq, .ref wq])), (rq, .inl (ci, 119, .inl (fun _ => 0))), (sbq, .inr (1, [.ref vq, .int 0, .int 0, .int 0])), (vq, .inl (cv, 16, .inl (fun _ => 0))), (oq, .inl (co, 1, .inr (.inl (fun _ => 0)))), (h0, .inr (10, [.ref fq, .ref sq, .ref gq, .ref nq, .ref dq, .ref pq, .int 0, .int 0, .int 0])), (gq, .inr (4, [.int 0, .ref tE, .int 0])), (mq, .inr (11, [.int 1, .int 0, .int 0, .int 0, .ref rq, .ref sbq]))] H := hP
  have hD : va_D (fun q : Nat => s.heap.size ≤ q) [(fq, .inr (4, [.int 0, .ref tE, .int 0])), (sq, .inr (4, [.int 0, .ref tE, .int 0])), (nq, .inr (8, [.int 0, .ref tq, .ref zq, .ref wq])), (rq, .inl (ci, 119, .inl (fun _ => 0))), (sbq, .inr (1, [.ref vq, .int 0, .int 0, .int 0])), (vq, .inl (cv, 16, .inl (fun _ => 0))), (oq, .inl (co, 1, .inr (.inl (fun _ => 0)))), (h0, .inr (10, [.ref fq, .ref sq, .ref gq, .ref nq, .ref dq, .ref pq, .int 0, .int 0, .int 0])), (gq, .inr (4, [.int 0, .ref tE, .int 0])), (mq, .inr (11, [.int 1, .int 0, .int 0, .int 0, .ref rq, .ref sbq]))] := hD
  refine W.widen (k := 51) (n := 862) (by omega) (by omega) ?_
  obtain rfl : r_27 = 1 := hw
  refine lv_iload hx hb dL_law_513 (lv_at hl 1 rfl) ?_
  refine lv_icmp_eq (tgt := 520) hx hb dL_law_515 (by decide) (fun _ => ?_) (fun c_28 => absurd (by decide) c_28)
  refine lv_iload hx hb dL_law_520 (lv_at hl 1 rfl) ?_
  refine lv_if_ne (tgt := 544) hx hb dL_law_522 (by decide) (fun _ => ?_) (fun c_29 => absurd c_29 (by decide))
  refine lv_goto (tgt := 1303) hx hb dL_law_544 (by decide) ?_
  exact law_next l C0 (by omega) (by omega) hS ls (lv_sub hl [2, 6] rfl)
set_option maxHeartbeats 4000000 in
set_option maxRecDepth 100000 in
theorem law_floor {p : Program} {e : Env} {s : State} {m : MethodId} {below : List Frame} {meth : Method} {c : Code} (l : Launch) (hl9 : l.stackTraces = false) {b : Nat} {xs : Nat → Int32} (C0 : lw_At p s m meth c b 4 xs) (dC : Nat → ClassId) (dI : Nat → Nat → Nat) (tE : Nat) (h0 fq sq gq nq tq zq wq dq pq mq rq sbq vq oq : Nat) (ci cv co : ClassId) (hT : tK tE (fun q : Nat => s.heap.size ≤ q) s s.heap) (hK : va_K (dC, dI) vwCl [(ci, .int), (cv, .byte), (co, .long)] s) {H : Heap} {locs : List Loc} (hP : va_P (dC, dI) vwCl [(h0, .inr (10, [.ref fq, .ref sq, .ref gq, .ref nq, .ref dq, .ref pq, .int 0, .int 0, .int 0])), (fq, .inr (4, [.int 0, .ref tE, .int 0])), (sq, .inr (4, [.int 0, .ref tE, .int 0])), (gq, .inr (4, [.int 0, .ref tE, .int 0])), (nq, .inr (8, [.int 0, .ref tq, .ref zq, .ref wq])), (mq, .inr (11, [.int 0, .int 0, .int 0, .int 0, .ref rq, .ref sbq])), (rq, .inl (ci, 119, .inl (fun _ => 0))), (sbq, .inr (1, [.ref vq, .int 0, .int 0, .int 0])), (vq, .inl (cv, 16, .inl (fun _ => 0))), (oq, .inl (co, 1, .inr (.inl (fun _ => 0))))] H) (hD : va_D (fun q : Nat => s.heap.size ≤ q) [(h0, .inr (10, [.ref fq, .ref sq, .ref gq, .ref nq, .ref dq, .ref pq, .int 0, .int 0, .int 0])), (fq, .inr (4, [.int 0, .ref tE, .int 0])), (sq, .inr (4, [.int 0, .ref tE, .int 0])), (gq, .inr (4, [.int 0, .ref tE, .int 0])), (nq, .inr (8, [.int 0, .ref tq, .ref zq, .ref wq])), (mq, .inr (11, [.int 0, .int 0, .int 0, .int 0, .ref rq, .ref sbq])), (rq, .inl (ci, 119, .inl (fun _ => 0))), (sbq, .inr (1, [.ref vq, .int 0, .int 0, .int 0])), (vq, .inl (cv, 16, .inl (fun _ => 0))), (oq, .inl (co, 1, .inr (.inl (fun _ => 0))))]) (hS : va_S (fun q : Nat => s.heap.size ≤ q) s.heap H locs) (ls : Array Slot) (hl : lv_has ls 9 [(4, .int 0), (3, .ref oq), (2, .ref mq), (1, .ref h0), (0, .ref b)]) : W p l e room_1 s m #[Value.ref b] below meth c H locs 50 856 (lw_Z below #[Value.ref b] s) (F0 m 547 ls []) := by
  obtain ⟨hx, hb, hr, hml, hown, hts, hX, hbl, hlocks, hgv⟩ := id C0
  have hts := law_hts hts
  have hA : ∀ q : Nat, s.heap.size ≤ q → (fun q : Nat => s.heap.size ≤ q) q := fun _ h => h
  have hbA : ¬ (fun q : Nat => s.heap.size ≤ q) b := Nat.not_le.mpr hbl
  refine lv_aload_n hx hb dL_law_547 rfl (lv_at hl 3 rfl) ?_
  refine lv_aload_n hx hb dL_law_548 rfl (lv_at hl 4 rfl) ?_
  refine lv_iload hx hb dL_law_549 (lv_at hl 0 rfl) ?_
  refine lv_iconst (v := 1) hx hb dL_law_551 (by decide) ?_
  refine lv_iadd hx hb dL_law_552 ?_
  refine lv_topi (fun x_1 e_2 => ?_)
  obtain rfl : x_1 = 1 := e_2.trans (by decide)
  refine va_sld hx hb hX hbl hbA hS (by unfold vp_in; decide) dL_law_553 ?_
  refine lv_topi (fun y1 ey1 => ?_)
  refine lv_aload_n hx hb dL_law_554 rfl (lv_at hl 4 rfl) ?_
  refine lv_iload hx hb dL_law_555 (lv_at hl 0 rfl) ?_
  refine lv_iconst (v := 2) hx hb dL_law_557 (by decide) ?_
  refine lv_iadd hx hb dL_law_558 ?_
  refine lv_topi (fun x_5 e_6 => ?_)
  obtain rfl : x_5 = 2 := e_6.trans (by decide)
  refine va_sld hx hb hX hbl hbA hS (by unfold vp_in; decide) dL_law_559 ?_
  refine lv_topi (fun y2 ey2 => ?_)
  refine lv_aload_n hx hb dL_law_560 rfl (lv_at hl 1 rfl) ?_
  have hPc := hP.sub (ws' := [(h0, .inr (10, [.ref fq, .ref sq, .ref gq, .ref nq, .ref dq, .ref pq, .int 0, .int 0, .int 0])), (fq, .inr (4, [.int 0, .ref tE, .int 0]))]) [0, 1] rfl
  have hDc := hD.sub (ws' := [(h0, .inr (10, [.ref fq, .ref sq, .ref gq, .ref nq, .ref dq, .ref pq, .int 0, .int 0, .int 0])), (fq, .inr (4, [.int 0, .ref tE, .int 0]))]) [0, 1] (by decide) rfl
  have hKc := hK.sub (tys' := []) [] rfl
  have hFc := va_free (wc := [(h0, .inr (10, [.ref fq, .ref sq, .ref gq, .ref nq, .ref dq, .ref pq, .int 0, .int 0, .int 0])), (fq, .inr (4, [.int 0, .ref tE, .int 0]))]) hD hS hA [0, 1] rfl
  refine va_calli (vx_runSW (As := [.ref h0, .int y1, .int y2, .ref oq]) (rest := []) ⟨hx, hb, hml, hown, hts⟩ (w_floor l hl9 dC dI tE h0 fq sq gq nq dq pq 0 0 0 0 y1 y2 oq _ ) (vx_cwSW 4 hts (goodIn_app (goodIn_r _ [191, 192, 52] (by rfl) (by decide +kernel)) gt_law_w_floor) rfl rfl rfl (by decide +kernel) ⟨Nat.le_of_ble_eq_true rfl, Nat.le_of_ble_eq_true rfl⟩) ⟨Pre0.blind, Pre0.give hPc hKc hDc hT hS hFc⟩ rfl rfl hl.1 rfl (lv_room (Nat.le_of_ble_eq_true rfl)) dL_law_561 ⟨Nat.le_of_ble_eq_true rfl, Nat.le_of_ble_eq_true rfl⟩) hS (fun q _ h => hFc q h) hFc (fun r_9 u t H1 locs ht hvm hw hB hz1 hk1 hS => ?_)
  obtain ⟨hP1, hK1, hD1⟩ := hB
  rw [ht] at hP1
  have hK1 := va_K.moved hvm.symm hK1
  obtain ⟨hP, hD⟩ := va_join (wr := [(sq, .inr (4, [.int 0, .ref tE, .int 0])), (gq, .inr (4, [.int 0, .ref tE, .int 0])), (nq, .inr (8, [.int 0, .ref tq, .ref zq, .ref wq])), (mq, .inr (11, [.int 0, .int 0, .int 0, .int 0, .ref rq, .ref sbq])), (rq, .inl (ci, 119, .inl (fun _ => 0))), (sbq, .inr (1, [.ref vq, .int 0, .int 0, .int 0])), (vq, .inl (cv, 16, .inl (fun _ => 0))), (oq, .inl (co, 1, .inr (.inl (fun _ => 0))))]) (w1 := [(h0, .inr (10, [.ref fq, .ref sq, .ref gq, .ref nq, .ref dq, .ref pq, .int 0, .int 0, .int 0])), (fq, .inr (4, [.int 0, .ref tE, .int 0]))]) hP hD [0, 1] [2, 3, 4, 5, 6, 7, 8, 9] rfl rfl (by decide) (by decide) hk1 hFc hP1 hD1
  generalize H1 = H at hP hS ⊢
  have hP : va_P (dC, dI) vwCl [(sq, .inr (4, [.int 0, .ref tE, .int 0])), (gq, .inr (4, [.int 0, .ref tE, .int 0])), (nq, .inr (8, [.int 0, .ref tq, .ref zq, .ref wq])), (mq, .inr (11, [.int 0, .int 0, .int 0, .int 0, .ref rq, .ref sbq])), (rq, .inl (ci, 119, .inl (fun _ => 0))), (sbq, .inr (1, [.ref vq, .int 0, .int 0, .int 0])), (vq, .inl (cv, 16, .inl (fun _ => 0))), (oq, .inl (co, 1, .inr (.inl (fun _ => 0)))), (h0, .inr (10, [.ref fq, .ref sq, .ref gq, .ref nq, .ref dq, .ref pq, .int 0, .int 0, .int 0])), (fq, .inr (4, [.int 0, .ref tE, .int 0]))] H := hP
  have hD : va_D (fun q : Nat => s.heap.size ≤ q) [(sq, .inr (4, [.int 0, .ref tE, .int 0])), (gq, .inr (4, [.int 0, .ref tE, .int 0])), (nq, .inr (8, [.int 0, .ref tq, .ref zq, .ref wq])), (mq, .inr (11, [.int 0, .int 0, .int 0, .int 0, .ref rq, .ref sbq])), (rq, .inl (ci, 119, .inl (fun _ => 0))), (sbq, .inr (1, [.ref vq, .int 0, .int 0, .int 0])), (vq, .inl (cv, 16, .inl (fun _ => 0))), (oq, .inl (co, 1, .inr (.inl (fun _ => 0)))), (h0, .inr (10, [.ref fq, .ref sq, .ref gq, .ref nq, .ref dq, .ref pq, .int 0, .int 0, .int 0])), (fq, .inr (4, [.int 0, .ref tE, .int 0]))] := hD
  refine W.widen (k := 51) (n := 862) (by omega) (by omega) ?_
  obtain rfl : r_9 = 1 := hw
  refine lv_istore (lv' := [(5, .int 1), (4, .int 0), (3, .ref oq), (2, .ref mq), (1, .ref h0), (0, .ref b)]) hx hb dL_law_564 hl (by decide) rfl (fun ls hl => ?_)
  refine lv_aload_n hx hb dL_law_566 rfl (lv_at hl 3 rfl) ?_
  refine lv_aload_n hx hb dL_law_567 rfl (lv_at hl 5 rfl) ?_
  refine lv_iload hx hb dL_law_568 (lv_at hl 1 rfl) ?_
  refine lv_iconst (v := 1) hx hb dL_law_570 (by decide) ?_
  refine lv_iadd hx hb dL_law_571 ?_
  refine lv_topi (fun x_10 e_11 => ?_)
  obtain rfl : x_10 = 1 := e_11.trans (by decide)
  refine va_sld hx hb hX hbl hbA hS (by unfold vp_in; decide) dL_law_572 ?_
  refine lv_topi (fun x_12 e_13 => ?_)
  obtain rfl : y1 = x_12 := ey1.trans e_13.symm
  refine lv_aload_n hx hb dL_law_573 rfl (lv_at hl 5 rfl) ?_
  refine lv_iload hx hb dL_law_574 (lv_at hl 1 rfl) ?_
  refine lv_iconst (v := 2) hx hb dL_law_576 (by decide) ?_
  refine lv_iadd hx hb dL_law_577 ?_
  refine lv_topi (fun x_14 e_15 => ?_)
  obtain rfl : x_14 = 2 := e_15.trans (by decide)
  refine va_sld hx hb hX hbl hbA hS (by unfold vp_in; decide) dL_law_578 ?_
  refine lv_topi (fun x_16 e_17 => ?_)
  obtain rfl : y2 = x_16 := ey2.trans e_17.symm
  have hPc := hP.sub (ws' := [(mq, .inr (11, [.int 0, .int 0, .int 0, .int 0, .ref rq, .ref sbq]))]) [3] rfl
  have hDc := hD.sub (ws' := [(mq, .inr (11, [.int 0, .int 0, .int 0, .int 0, .ref rq, .ref sbq]))]) [3] (by decide) rfl
  have hKc := hK.sub (tys' := []) [] rfl
  have hFc := va_free (wc := [(mq, .inr (11, [.int 0, .int 0, .int 0, .int 0, .ref rq, .ref sbq]))]) hD hS hA [3] rfl
  refine va_calli (va_runV (As := [.int y1, .int y2]) (rest := []) ⟨hx, hb, hml, hown, hts⟩ (c_M_floor l hl9 dC dI tE mq rq sbq 0 y1 y2 _ ) (cwV 2 hts (goodIn_app (goodIn_r _ [194, 195, 196, 58] (by rfl) (by decide +kernel)) gg_law_c_M_floor) rfl rfl rfl (by decide +kernel) ⟨Nat.le_of_ble_eq_true rfl, Nat.le_of_ble_eq_true rfl⟩) ⟨Pre0.blind, va_recv hKc hPc (ci := 11) (q0 := 0) rfl rfl, Pre0.give hPc hKc hDc hT hS hFc⟩ rfl rfl hl.1 rfl (lv_room (Nat.le_of_ble_eq_true rfl)) dL_law_579 ⟨Nat.le_of_ble_eq_true rfl, Nat.le_of_ble_eq_true rfl⟩) hS (fun q _ h => hFc q h) hFc (fun r_18 u t H1 locs ht hvm hw hB hz1 hk1 hS => ?_)
  obtain ⟨hP1, hK1, hD1⟩ := hB
  rw [ht] at hP1
  have hK1 := va_K.moved hvm.symm hK1
  obtain ⟨hP, hD⟩ := va_join (wr := [(sq, .inr (4, [.int 0, .ref tE, .int 0])), (gq, .inr (4, [.int 0, .ref tE, .int 0])), (nq, .inr (8, [.int 0, .ref tq, .ref zq, .ref wq])), (rq, .inl (ci, 119, .inl (fun _ => 0))), (sbq, .inr (1, [.ref vq, .int 0, .int 0, .int 0])), (vq, .inl (cv, 16, .inl (fun _ => 0))), (oq, .inl (co, 1, .inr (.inl (fun _ => 0)))), (h0, .inr (10, [.ref fq, .ref sq, .ref gq, .ref nq, .ref dq, .ref pq, .int 0, .int 0, .int 0])), (fq, .inr (4, [.int 0, .ref tE, .int 0]))]) (w1 := [(mq, .inr (11, [.int 1, .int 0, .int 0, .int 0, .ref rq, .ref sbq]))]) hP hD [3] [0, 1, 2, 4, 5, 6, 7, 8, 9] rfl rfl (by decide) (by decide) hk1 hFc hP1 hD1
  generalize H1 = H at hP hS ⊢
  have hP : va_P (dC, dI) vwCl [(sq, .inr (4, [.int 0, .ref tE, .int 0])), (gq, .inr (4, [.int 0, .ref tE, .int 0])), (nq, .inr (8, [.int 0, .ref tq, .ref zq, .ref wq])), (rq, .inl (ci, 119, .inl (fun _ => 0))), (sbq, .inr (1, [.ref vq, .int 0, .int 0, .int 0])), (vq, .inl (cv, 16, .inl (fun _ => 0))), (oq, .inl (co, 1, .inr (.inl (fun _ => 0)))), (h0, .inr (10, [.ref fq, .ref sq, .ref gq, .ref nq, .ref dq, .ref pq, .int 0, .int 0, .int 0])), (fq, .inr (4, [.int 0, .ref tE, .int 0])), (mq, .inr (11, [.int 1, .int 0, .int 0, .int 0, .ref rq, .ref sbq]))] H := hP
  have hD : va_D (fun q : Nat => s.heap.size ≤ q) [(sq, .inr (4, [.int 0, .ref tE, .int 0])), (gq, .inr (4, [.int 0, .ref tE, .int 0])), (nq, .inr (8, [.int 0, .ref tq, .ref zq, .ref wq])), (rq, .inl (ci, 119, .inl (fun _ => 0))), (sbq, .inr (1, [.ref vq, .int 0, .int 0, .int 0])), (vq, .inl (cv, 16, .inl (fun _ => 0))), (oq, .inl (co, 1, .inr (.inl (fun _ => 0)))), (h0, .inr (10, [.ref fq, .ref sq, .ref gq, .ref nq, .ref dq, .ref pq, .int 0, .int 0, .int 0])), (fq, .inr (4, [.int 0, .ref tE, .int 0])), (mq, .inr (11, [.int 1, .int 0, .int 0, .int 0, .ref rq, .ref sbq]))] := hD
  refine W.widen (k := 51) (n := 862) (by omega) (by omega) ?_
  obtain rfl : r_18 = 0 := hw
  refine lv_istore (lv' := [(6, .int 0), (5, .int 1), (4, .int 0), (3, .ref oq), (2, .ref mq), (1, .ref h0), (0, .ref b)]) hx hb dL_law_582 hl (by decide) rfl (fun ls hl => ?_)
  refine lv_aload_n hx hb dL_law_584 rfl (lv_at hl 4 rfl) ?_
  have hPc := hP.sub (ws' := [(mq, .inr (11, [.int 1, .int 0, .int 0, .int 0, .ref rq, .ref sbq]))]) [9] rfl
  have hDc := hD.sub (ws' := [(mq, .inr (11, [.int 1, .int 0, .int 0, .int 0, .ref rq, .ref sbq]))]) [9] (by decide) rfl
  have hKc := hK.sub (tys' := []) [] rfl
  have hFc := va_free (wc := [(mq, .inr (11, [.int 1, .int 0, .int 0, .int 0, .ref rq, .ref sbq]))]) hD hS hA [9] rfl
  refine va_calli (va_runV (As := []) (rest := []) ⟨hx, hb, hml, hown, hts⟩ (c_M_thrown l hl9 dC dI tE mq rq sbq 1 0 0 0 _ ) (cwV 0 hts (goodIn_app (goodIn_r _ [69, 70, 71, 58] (by rfl) (by decide +kernel)) gg_law_c_M_thrown) rfl rfl rfl (by decide +kernel) ⟨Nat.le_of_ble_eq_true rfl, Nat.le_of_ble_eq_true rfl⟩) ⟨Pre0.blind, va_recv hKc hPc (ci := 11) (q0 := 0) rfl rfl, Pre0.give hPc hKc hDc hT hS hFc⟩ rfl rfl hl.1 rfl (lv_room (Nat.le_of_ble_eq_true rfl)) dL_law_585 ⟨Nat.le_of_ble_eq_true rfl, Nat.le_of_ble_eq_true rfl⟩) hS (fun q _ h => hFc q h) hFc (fun r_19 u t H1 locs ht hvm hw hB hz1 hk1 hS => ?_)
  obtain ⟨hP1, hK1, hD1⟩ := hB
  rw [ht] at hP1
  have hK1 := va_K.moved hvm.symm hK1
  obtain ⟨hP, hD⟩ := va_join (wr := [(sq, .inr (4, [.int 0, .ref tE, .int 0])), (gq, .inr (4, [.int 0, .ref tE, .int 0])), (nq, .inr (8, [.int 0, .ref tq, .ref zq, .ref wq])), (rq, .inl (ci, 119, .inl (fun _ => 0))), (sbq, .inr (1, [.ref vq, .int 0, .int 0, .int 0])), (vq, .inl (cv, 16, .inl (fun _ => 0))), (oq, .inl (co, 1, .inr (.inl (fun _ => 0)))), (h0, .inr (10, [.ref fq, .ref sq, .ref gq, .ref nq, .ref dq, .ref pq, .int 0, .int 0, .int 0])), (fq, .inr (4, [.int 0, .ref tE, .int 0]))]) (w1 := [(mq, .inr (11, [.int 1, .int 0, .int 0, .int 0, .ref rq, .ref sbq]))]) hP hD [9] [0, 1, 2, 3, 4, 5, 6, 7, 8] rfl rfl (by decide) (by decide) hk1 hFc hP1 hD1
  generalize H1 = H at hP hS ⊢
  have hP : va_P (dC, dI) vwCl [(sq, .inr (4, [.int 0, .ref tE, .int 0])), (gq, .inr (4, [.int 0, .ref tE, .int 0])), (nq, .inr (8, [.int 0, .ref tq, .ref zq, .ref wq])), (rq, .inl (ci, 119, .inl (fun _ => 0))), (sbq, .inr (1, [.ref vq, .int 0, .int 0, .int 0])), (vq, .inl (cv, 16, .inl (fun _ => 0))), (oq, .inl (co, 1, .inr (.inl (fun _ => 0)))), (h0, .inr (10, [.ref fq, .ref sq, .ref gq, .ref nq, .ref dq, .ref pq, .int 0, .int 0, .int 0])), (fq, .inr (4, [.int 0, .ref tE, .int 0])), (mq, .inr (11, [.int 1, .int 0, .int 0, .int 0, .ref rq, .ref sbq]))] H := hP
  have hD : va_D (fun q : Nat => s.heap.size ≤ q) [(sq, .inr (4, [.int 0, .ref tE, .int 0])), (gq, .inr (4, [.int 0, .ref tE, .int 0])), (nq, .inr (8, [.int 0, .ref tq, .ref zq, .ref wq])), (rq, .inl (ci, 119, .inl (fun _ => 0))), (sbq, .inr (1, [.ref vq, .int 0, .int 0, .int 0])), (vq, .inl (cv, 16, .inl (fun _ => 0))), (oq, .inl (co, 1, .inr (.inl (fun _ => 0)))), (h0, .inr (10, [.ref fq, .ref sq, .ref gq, .ref nq, .ref dq, .ref pq, .int 0, .int 0, .int 0])), (fq, .inr (4, [.int 0, .ref tE, .int 0])), (mq, .inr (11, [.int 1, .int 0, .int 0, .int 0, .ref rq, .ref sbq]))] := hD
  refine W.widen (k := 51) (n := 862) (by omega) (by omega) ?_
  obtain rfl : r_19 = 1 := hw
  refine lv_iload hx hb dL_law_588 (lv_at hl 1 rfl) ?_
  refine lv_icmp_eq (tgt := 595) hx hb dL_law_590 (by decide) (fun _ => ?_) (fun c_20 => absurd (by decide) c_20)
  refine lv_iload hx hb dL_law_595 (lv_at hl 1 rfl) ?_
  refine lv_if_ne (tgt := 612) hx hb dL_law_597 (by decide) (fun _ => ?_) (fun c_21 => absurd c_21 (by decide))
  refine lv_goto (tgt := 1303) hx hb dL_law_612 (by decide) ?_
  exact law_next l C0 (by omega) (by omega) hS ls (lv_sub hl [2, 6] rfl)
set_option maxHeartbeats 4000000 in
set_option maxRecDepth 100000 in
theorem law_place {p : Program} {e : Env} {s : State} {m : MethodId} {below : List Frame} {meth : Method} {c : Code} (l : Launch) (hl9 : l.stackTraces = false) {b : Nat} {xs : Nat → Int32} (C0 : lw_At p s m meth c b 4 xs) (dC : Nat → ClassId) (dI : Nat → Nat → Nat) (tE : Nat) (h0 fq sq gq nq tq zq wq dq pq mq rq sbq vq oq : Nat) (ci cv co : ClassId) (hT : tK tE (fun q : Nat => s.heap.size ≤ q) s s.heap) (hK : va_K (dC, dI) vwCl [(ci, .int), (cv, .byte), (co, .long)] s) {H : Heap} {locs : List Loc} (hP : va_P (dC, dI) vwCl [(h0, .inr (10, [.ref fq, .ref sq, .ref gq, .ref nq, .ref dq, .ref pq, .int 0, .int 0, .int 0])), (fq, .inr (4, [.int 0, .ref tE, .int 0])), (sq, .inr (4, [.int 0, .ref tE, .int 0])), (gq, .inr (4, [.int 0, .ref tE, .int 0])), (nq, .inr (8, [.int 0, .ref tq, .ref zq, .ref wq])), (mq, .inr (11, [.int 0, .int 0, .int 0, .int 0, .ref rq, .ref sbq])), (rq, .inl (ci, 119, .inl (fun _ => 0))), (sbq, .inr (1, [.ref vq, .int 0, .int 0, .int 0])), (vq, .inl (cv, 16, .inl (fun _ => 0))), (oq, .inl (co, 1, .inr (.inl (fun _ => 0))))] H) (hD : va_D (fun q : Nat => s.heap.size ≤ q) [(h0, .inr (10, [.ref fq, .ref sq, .ref gq, .ref nq, .ref dq, .ref pq, .int 0, .int 0, .int 0])), (fq, .inr (4, [.int 0, .ref tE, .int 0])), (sq, .inr (4, [.int 0, .ref tE, .int 0])), (gq, .inr (4, [.int 0, .ref tE, .int 0])), (nq, .inr (8, [.int 0, .ref tq, .ref zq, .ref wq])), (mq, .inr (11, [.int 0, .int 0, .int 0, .int 0, .ref rq, .ref sbq])), (rq, .inl (ci, 119, .inl (fun _ => 0))), (sbq, .inr (1, [.ref vq, .int 0, .int 0, .int 0])), (vq, .inl (cv, 16, .inl (fun _ => 0))), (oq, .inl (co, 1, .inr (.inl (fun _ => 0))))]) (hS : va_S (fun q : Nat => s.heap.size ≤ q) s.heap H locs) (ls : Array Slot) (hl : lv_has ls 9 [(4, .int 0), (3, .ref oq), (2, .ref mq), (1, .ref h0), (0, .ref b)]) : W p l e room_1 s m #[Value.ref b] below meth c H locs 50 856 (lw_Z below #[Value.ref b] s) (F0 m 615 ls []) := by
  obtain ⟨hx, hb, hr, hml, hown, hts, hX, hbl, hlocks, hgv⟩ := id C0
  have hts := law_hts hts
  have hA : ∀ q : Nat, s.heap.size ≤ q → (fun q : Nat => s.heap.size ≤ q) q := fun _ h => h
  have hbA : ¬ (fun q : Nat => s.heap.size ≤ q) b := Nat.not_le.mpr hbl
  refine lv_aload_n hx hb dL_law_615 rfl (lv_at hl 3 rfl) ?_
  refine lv_aload_n hx hb dL_law_616 rfl (lv_at hl 4 rfl) ?_
  refine lv_iload hx hb dL_law_617 (lv_at hl 0 rfl) ?_
  refine lv_iconst (v := 1) hx hb dL_law_619 (by decide) ?_
  refine lv_iadd hx hb dL_law_620 ?_
  refine lv_topi (fun x_1 e_2 => ?_)
  obtain rfl : x_1 = 1 := e_2.trans (by decide)
  refine va_sld hx hb hX hbl hbA hS (by unfold vp_in; decide) dL_law_621 ?_
  refine lv_topi (fun y1 ey1 => ?_)
  refine lv_aload_n hx hb dL_law_622 rfl (lv_at hl 4 rfl) ?_
  refine lv_iload hx hb dL_law_623 (lv_at hl 0 rfl) ?_
  refine lv_iconst (v := 2) hx hb dL_law_625 (by decide) ?_
  refine lv_iadd hx hb dL_law_626 ?_
  refine lv_topi (fun x_5 e_6 => ?_)
  obtain rfl : x_5 = 2 := e_6.trans (by decide)
  refine va_sld hx hb hX hbl hbA hS (by unfold vp_in; decide) dL_law_627 ?_
  refine lv_topi (fun y2 ey2 => ?_)
  refine lv_aload_n hx hb dL_law_628 rfl (lv_at hl 1 rfl) ?_
  have hPc := hP.sub (ws' := [(h0, .inr (10, [.ref fq, .ref sq, .ref gq, .ref nq, .ref dq, .ref pq, .int 0, .int 0, .int 0])), (fq, .inr (4, [.int 0, .ref tE, .int 0]))]) [0, 1] rfl
  have hDc := hD.sub (ws' := [(h0, .inr (10, [.ref fq, .ref sq, .ref gq, .ref nq, .ref dq, .ref pq, .int 0, .int 0, .int 0])), (fq, .inr (4, [.int 0, .ref tE, .int 0]))]) [0, 1] (by decide) rfl
  have hKc := hK.sub (tys' := []) [] rfl
  have hFc := va_free (wc := [(h0, .inr (10, [.ref fq, .ref sq, .ref gq, .ref nq, .ref dq, .ref pq, .int 0, .int 0, .int 0])), (fq, .inr (4, [.int 0, .ref tE, .int 0]))]) hD hS hA [0, 1] rfl
  refine va_calli (vx_runSW (As := [.ref h0, .int y1, .int y2, .ref oq]) (rest := []) ⟨hx, hb, hml, hown, hts⟩ (w_place l hl9 dC dI tE h0 fq sq gq nq dq pq 0 0 0 0 y1 y2 oq _ ) (vx_cwSW 4 hts (goodIn_app (goodIn_r _ [202, 203, 52] (by rfl) (by decide +kernel)) gt_law_w_place) rfl rfl rfl (by decide +kernel) ⟨Nat.le_of_ble_eq_true rfl, Nat.le_of_ble_eq_true rfl⟩) ⟨Pre0.blind, Pre0.give hPc hKc hDc hT hS hFc⟩ rfl rfl hl.1 rfl (lv_room (Nat.le_of_ble_eq_true rfl)) dL_law_629 ⟨Nat.le_of_ble_eq_true rfl, Nat.le_of_ble_eq_true rfl⟩) hS (fun q _ h => hFc q h) hFc (fun r_9 u t H1 locs ht hvm hw hB hz1 hk1 hS => ?_)
  obtain ⟨hP1, hK1, hD1⟩ := hB
  rw [ht] at hP1
  have hK1 := va_K.moved hvm.symm hK1
  obtain ⟨hP, hD⟩ := va_join (wr := [(sq, .inr (4, [.int 0, .ref tE, .int 0])), (gq, .inr (4, [.int 0, .ref tE, .int 0])), (nq, .inr (8, [.int 0, .ref tq, .ref zq, .ref wq])), (mq, .inr (11, [.int 0, .int 0, .int 0, .int 0, .ref rq, .ref sbq])), (rq, .inl (ci, 119, .inl (fun _ => 0))), (sbq, .inr (1, [.ref vq, .int 0, .int 0, .int 0])), (vq, .inl (cv, 16, .inl (fun _ => 0))), (oq, .inl (co, 1, .inr (.inl (fun _ => 0))))]) (w1 := [(h0, .inr (10, [.ref fq, .ref sq, .ref gq, .ref nq, .ref dq, .ref pq, .int 0, .int 0, .int 0])), (fq, .inr (4, [.int 0, .ref tE, .int 0]))]) hP hD [0, 1] [2, 3, 4, 5, 6, 7, 8, 9] rfl rfl (by decide) (by decide) hk1 hFc hP1 hD1
  generalize H1 = H at hP hS ⊢
  have hP : va_P (dC, dI) vwCl [(sq, .inr (4, [.int 0, .ref tE, .int 0])), (gq, .inr (4, [.int 0, .ref tE, .int 0])), (nq, .inr (8, [.int 0, .ref tq, .ref zq, .ref wq])), (mq, .inr (11, [.int 0, .int 0, .int 0, .int 0, .ref rq, .ref sbq])), (rq, .inl (ci, 119, .inl (fun _ => 0))), (sbq, .inr (1, [.ref vq, .int 0, .int 0, .int 0])), (vq, .inl (cv, 16, .inl (fun _ => 0))), (oq, .inl (co, 1, .inr (.inl (fun _ => 0)))), (h0, .inr (10, [.ref fq, .ref sq, .ref gq, .ref nq, .ref dq, .ref pq, .int 0, .int 0, .int 0])), (fq, .inr (4, [.int 0, .ref tE, .int 0]))] H := hP
  have hD : va_D (fun q : Nat => s.heap.size ≤ q) [(sq, .inr (4, [.int 0, .ref tE, .int 0])), (gq, .inr (4, [.int 0, .ref tE, .int 0])), (nq, .inr (8, [.int 0, .ref tq, .ref zq, .ref wq])), (mq, .inr (11, [.int 0, .int 0, .int 0, .int 0, .ref rq, .ref sbq])), (rq, .inl (ci, 119, .inl (fun _ => 0))), (sbq, .inr (1, [.ref vq, .int 0, .int 0, .int 0])), (vq, .inl (cv, 16, .inl (fun _ => 0))), (oq, .inl (co, 1, .inr (.inl (fun _ => 0)))), (h0, .inr (10, [.ref fq, .ref sq, .ref gq, .ref nq, .ref dq, .ref pq, .int 0, .int 0, .int 0])), (fq, .inr (4, [.int 0, .ref tE, .int 0]))] := hD
  refine W.widen (k := 51) (n := 862) (by omega) (by omega) ?_
  obtain rfl : r_9 = 1 := hw
  refine lv_istore (lv' := [(5, .int 1), (4, .int 0), (3, .ref oq), (2, .ref mq), (1, .ref h0), (0, .ref b)]) hx hb dL_law_632 hl (by decide) rfl (fun ls hl => ?_)
  refine lv_aload_n hx hb dL_law_634 rfl (lv_at hl 3 rfl) ?_
  refine lv_aload_n hx hb dL_law_635 rfl (lv_at hl 5 rfl) ?_
  refine lv_iload hx hb dL_law_636 (lv_at hl 1 rfl) ?_
  refine lv_iconst (v := 1) hx hb dL_law_638 (by decide) ?_
  refine lv_iadd hx hb dL_law_639 ?_
  refine lv_topi (fun x_10 e_11 => ?_)
  obtain rfl : x_10 = 1 := e_11.trans (by decide)
  refine va_sld hx hb hX hbl hbA hS (by unfold vp_in; decide) dL_law_640 ?_
  refine lv_topi (fun x_12 e_13 => ?_)
  obtain rfl : y1 = x_12 := ey1.trans e_13.symm
  refine lv_aload_n hx hb dL_law_641 rfl (lv_at hl 5 rfl) ?_
  refine lv_iload hx hb dL_law_642 (lv_at hl 1 rfl) ?_
  refine lv_iconst (v := 2) hx hb dL_law_644 (by decide) ?_
  refine lv_iadd hx hb dL_law_645 ?_
  refine lv_topi (fun x_14 e_15 => ?_)
  obtain rfl : x_14 = 2 := e_15.trans (by decide)
  refine va_sld hx hb hX hbl hbA hS (by unfold vp_in; decide) dL_law_646 ?_
  refine lv_topi (fun x_16 e_17 => ?_)
  obtain rfl : y2 = x_16 := ey2.trans e_17.symm
  have hPc := hP.sub (ws' := [(mq, .inr (11, [.int 0, .int 0, .int 0, .int 0, .ref rq, .ref sbq]))]) [3] rfl
  have hDc := hD.sub (ws' := [(mq, .inr (11, [.int 0, .int 0, .int 0, .int 0, .ref rq, .ref sbq]))]) [3] (by decide) rfl
  have hKc := hK.sub (tys' := []) [] rfl
  have hFc := va_free (wc := [(mq, .inr (11, [.int 0, .int 0, .int 0, .int 0, .ref rq, .ref sbq]))]) hD hS hA [3] rfl
  refine va_calli (va_runV (As := [.int y1, .int y2]) (rest := []) ⟨hx, hb, hml, hown, hts⟩ (c_M_place l hl9 dC dI tE mq rq sbq 0 y1 y2 _ ) (cwV 2 hts (goodIn_app (goodIn_r _ [205, 206, 207, 58] (by rfl) (by decide +kernel)) gg_law_c_M_place) rfl rfl rfl (by decide +kernel) ⟨Nat.le_of_ble_eq_true rfl, Nat.le_of_ble_eq_true rfl⟩) ⟨Pre0.blind, va_recv hKc hPc (ci := 11) (q0 := 0) rfl rfl, Pre0.give hPc hKc hDc hT hS hFc⟩ rfl rfl hl.1 rfl (lv_room (Nat.le_of_ble_eq_true rfl)) dL_law_647 ⟨Nat.le_of_ble_eq_true rfl, Nat.le_of_ble_eq_true rfl⟩) hS (fun q _ h => hFc q h) hFc (fun r_18 u t H1 locs ht hvm hw hB hz1 hk1 hS => ?_)
  obtain ⟨hP1, hK1, hD1⟩ := hB
  rw [ht] at hP1
  have hK1 := va_K.moved hvm.symm hK1
  obtain ⟨hP, hD⟩ := va_join (wr := [(sq, .inr (4, [.int 0, .ref tE, .int 0])), (gq, .inr (4, [.int 0, .ref tE, .int 0])), (nq, .inr (8, [.int 0, .ref tq, .ref zq, .ref wq])), (rq, .inl (ci, 119, .inl (fun _ => 0))), (sbq, .inr (1, [.ref vq, .int 0, .int 0, .int 0])), (vq, .inl (cv, 16, .inl (fun _ => 0))), (oq, .inl (co, 1, .inr (.inl (fun _ => 0)))), (h0, .inr (10, [.ref fq, .ref sq, .ref gq, .ref nq, .ref dq, .ref pq, .int 0, .int 0, .int 0])), (fq, .inr (4, [.int 0, .ref tE, .int 0]))]) (w1 := [(mq, .inr (11, [.int 1, .int 0, .int 0, .int 0, .ref rq, .ref sbq]))]) hP hD [3] [0, 1, 2, 4, 5, 6, 7, 8, 9] rfl rfl (by decide) (by decide) hk1 hFc hP1 hD1
  generalize H1 = H at hP hS ⊢
  have hP : va_P (dC, dI) vwCl [(sq, .inr (4, [.int 0, .ref tE, .int 0])), (gq, .inr (4, [.int 0, .ref tE, .int 0])), (nq, .inr (8, [.int 0, .ref tq, .ref zq, .ref wq])), (rq, .inl (ci, 119, .inl (fun _ => 0))), (sbq, .inr (1, [.ref vq, .int 0, .int 0, .int 0])), (vq, .inl (cv, 16, .inl (fun _ => 0))), (oq, .inl (co, 1, .inr (.inl (fun _ => 0)))), (h0, .inr (10, [.ref fq, .ref sq, .ref gq, .ref nq, .ref dq, .ref pq, .int 0, .int 0, .int 0])), (fq, .inr (4, [.int 0, .ref tE, .int 0])), (mq, .inr (11, [.int 1, .int 0, .int 0, .int 0, .ref rq, .ref sbq]))] H := hP
  have hD : va_D (fun q : Nat => s.heap.size ≤ q) [(sq, .inr (4, [.int 0, .ref tE, .int 0])), (gq, .inr (4, [.int 0, .ref tE, .int 0])), (nq, .inr (8, [.int 0, .ref tq, .ref zq, .ref wq])), (rq, .inl (ci, 119, .inl (fun _ => 0))), (sbq, .inr (1, [.ref vq, .int 0, .int 0, .int 0])), (vq, .inl (cv, 16, .inl (fun _ => 0))), (oq, .inl (co, 1, .inr (.inl (fun _ => 0)))), (h0, .inr (10, [.ref fq, .ref sq, .ref gq, .ref nq, .ref dq, .ref pq, .int 0, .int 0, .int 0])), (fq, .inr (4, [.int 0, .ref tE, .int 0])), (mq, .inr (11, [.int 1, .int 0, .int 0, .int 0, .ref rq, .ref sbq]))] := hD
  refine W.widen (k := 51) (n := 862) (by omega) (by omega) ?_
  obtain rfl : r_18 = 0 := hw
  refine lv_istore (lv' := [(6, .int 0), (5, .int 1), (4, .int 0), (3, .ref oq), (2, .ref mq), (1, .ref h0), (0, .ref b)]) hx hb dL_law_650 hl (by decide) rfl (fun ls hl => ?_)
  refine lv_aload_n hx hb dL_law_652 rfl (lv_at hl 4 rfl) ?_
  have hPc := hP.sub (ws' := [(mq, .inr (11, [.int 1, .int 0, .int 0, .int 0, .ref rq, .ref sbq]))]) [9] rfl
  have hDc := hD.sub (ws' := [(mq, .inr (11, [.int 1, .int 0, .int 0, .int 0, .ref rq, .ref sbq]))]) [9] (by decide) rfl
  have hKc := hK.sub (tys' := []) [] rfl
  have hFc := va_free (wc := [(mq, .inr (11, [.int 1, .int 0, .int 0, .int 0, .ref rq, .ref sbq]))]) hD hS hA [9] rfl
  refine va_calli (va_runV (As := []) (rest := []) ⟨hx, hb, hml, hown, hts⟩ (c_M_thrown l hl9 dC dI tE mq rq sbq 1 0 0 0 _ ) (cwV 0 hts (goodIn_app (goodIn_r _ [69, 70, 71, 58] (by rfl) (by decide +kernel)) gg_law_c_M_thrown) rfl rfl rfl (by decide +kernel) ⟨Nat.le_of_ble_eq_true rfl, Nat.le_of_ble_eq_true rfl⟩) ⟨Pre0.blind, va_recv hKc hPc (ci := 11) (q0 := 0) rfl rfl, Pre0.give hPc hKc hDc hT hS hFc⟩ rfl rfl hl.1 rfl (lv_room (Nat.le_of_ble_eq_true rfl)) dL_law_653 ⟨Nat.le_of_ble_eq_true rfl, Nat.le_of_ble_eq_true rfl⟩) hS (fun q _ h => hFc q h) hFc (fun r_19 u t H1 locs ht hvm hw hB hz1 hk1 hS => ?_)
  obtain ⟨hP1, hK1, hD1⟩ := hB
  rw [ht] at hP1
  have hK1 := va_K.moved hvm.symm hK1
  obtain ⟨hP, hD⟩ := va_join (wr := [(sq, .inr (4, [.int 0, .ref tE, .int 0])), (gq, .inr (4, [.int 0, .ref tE, .int 0])), (nq, .inr (8, [.int 0, .ref tq, .ref zq, .ref wq])), (rq, .inl (ci, 119, .inl (fun _ => 0))), (sbq, .inr (1, [.ref vq, .int 0, .int 0, .int 0])), (vq, .inl (cv, 16, .inl (fun _ => 0))), (oq, .inl (co, 1, .inr (.inl (fun _ => 0)))), (h0, .inr (10, [.ref fq, .ref sq, .ref gq, .ref nq, .ref dq, .ref pq, .int 0, .int 0, .int 0])), (fq, .inr (4, [.int 0, .ref tE, .int 0]))]) (w1 := [(mq, .inr (11, [.int 1, .int 0, .int 0, .int 0, .ref rq, .ref sbq]))]) hP hD [9] [0, 1, 2, 3, 4, 5, 6, 7, 8] rfl rfl (by decide) (by decide) hk1 hFc hP1 hD1
  generalize H1 = H at hP hS ⊢
  have hP : va_P (dC, dI) vwCl [(sq, .inr (4, [.int 0, .ref tE, .int 0])), (gq, .inr (4, [.int 0, .ref tE, .int 0])), (nq, .inr (8, [.int 0, .ref tq, .ref zq, .ref wq])), (rq, .inl (ci, 119, .inl (fun _ => 0))), (sbq, .inr (1, [.ref vq, .int 0, .int 0, .int 0])), (vq, .inl (cv, 16, .inl (fun _ => 0))), (oq, .inl (co, 1, .inr (.inl (fun _ => 0)))), (h0, .inr (10, [.ref fq, .ref sq, .ref gq, .ref nq, .ref dq, .ref pq, .int 0, .int 0, .int 0])), (fq, .inr (4, [.int 0, .ref tE, .int 0])), (mq, .inr (11, [.int 1, .int 0, .int 0, .int 0, .ref rq, .ref sbq]))] H := hP
  have hD : va_D (fun q : Nat => s.heap.size ≤ q) [(sq, .inr (4, [.int 0, .ref tE, .int 0])), (gq, .inr (4, [.int 0, .ref tE, .int 0])), (nq, .inr (8, [.int 0, .ref tq, .ref zq, .ref wq])), (rq, .inl (ci, 119, .inl (fun _ => 0))), (sbq, .inr (1, [.ref vq, .int 0, .int 0, .int 0])), (vq, .inl (cv, 16, .inl (fun _ => 0))), (oq, .inl (co, 1, .inr (.inl (fun _ => 0)))), (h0, .inr (10, [.ref fq, .ref sq, .ref gq, .ref nq, .ref dq, .ref pq, .int 0, .int 0, .int 0])), (fq, .inr (4, [.int 0, .ref tE, .int 0])), (mq, .inr (11, [.int 1, .int 0, .int 0, .int 0, .ref rq, .ref sbq]))] := hD
  refine W.widen (k := 51) (n := 862) (by omega) (by omega) ?_
  obtain rfl : r_19 = 1 := hw
  refine lv_iload hx hb dL_law_656 (lv_at hl 1 rfl) ?_
  refine lv_icmp_eq (tgt := 663) hx hb dL_law_658 (by decide) (fun _ => ?_) (fun c_20 => absurd (by decide) c_20)
  refine lv_iload hx hb dL_law_663 (lv_at hl 1 rfl) ?_
  refine lv_if_ne (tgt := 680) hx hb dL_law_665 (by decide) (fun _ => ?_) (fun c_21 => absurd c_21 (by decide))
  refine lv_goto (tgt := 1303) hx hb dL_law_680 (by decide) ?_
  exact law_next l C0 (by omega) (by omega) hS ls (lv_sub hl [2, 6] rfl)
set_option maxHeartbeats 4000000 in
set_option maxRecDepth 100000 in
theorem law_lift {p : Program} {e : Env} {s : State} {m : MethodId} {below : List Frame} {meth : Method} {c : Code} (l : Launch) (hl9 : l.stackTraces = false) {b : Nat} {xs : Nat → Int32} (C0 : lw_At p s m meth c b 4 xs) (dC : Nat → ClassId) (dI : Nat → Nat → Nat) (tE : Nat) (h0 fq sq gq nq tq zq wq dq pq mq rq sbq vq oq : Nat) (ci cv co : ClassId) (hT : tK tE (fun q : Nat => s.heap.size ≤ q) s s.heap) (hK : va_K (dC, dI) vwCl [(ci, .int), (cv, .byte), (co, .long)] s) {H : Heap} {locs : List Loc} (hP : va_P (dC, dI) vwCl [(h0, .inr (10, [.ref fq, .ref sq, .ref gq, .ref nq, .ref dq, .ref pq, .int 0, .int 0, .int 0])), (fq, .inr (4, [.int 0, .ref tE, .int 0])), (sq, .inr (4, [.int 0, .ref tE, .int 0])), (gq, .inr (4, [.int 0, .ref tE, .int 0])), (nq, .inr (8, [.int 0, .ref tq, .ref zq, .ref wq])), (mq, .inr (11, [.int 0, .int 0, .int 0, .int 0, .ref rq, .ref sbq])), (rq, .inl (ci, 119, .inl (fun _ => 0))), (sbq, .inr (1, [.ref vq, .int 0, .int 0, .int 0])), (vq, .inl (cv, 16, .inl (fun _ => 0))), (oq, .inl (co, 1, .inr (.inl (fun _ => 0))))] H) (hD : va_D (fun q : Nat => s.heap.size ≤ q) [(h0, .inr (10, [.ref fq, .ref sq, .ref gq, .ref nq, .ref dq, .ref pq, .int 0, .int 0, .int 0])), (fq, .inr (4, [.int 0, .ref tE, .int 0])), (sq, .inr (4, [.int 0, .ref tE, .int 0])), (gq, .inr (4, [.int 0, .ref tE, .int 0])), (nq, .inr (8, [.int 0, .ref tq, .ref zq, .ref wq])), (mq, .inr (11, [.int 0, .int 0, .int 0, .int 0, .ref rq, .ref sbq])), (rq, .inl (ci, 119, .inl (fun _ => 0))), (sbq, .inr (1, [.ref vq, .int 0, .int 0, .int 0])), (vq, .inl (cv, 16, .inl (fun _ => 0))), (oq, .inl (co, 1, .inr (.inl (fun _ => 0))))]) (hS : va_S (fun q : Nat => s.heap.size ≤ q) s.heap H locs) (ls : Array Slot) (hl : lv_has ls 9 [(4, .int 0), (3, .ref oq), (2, .ref mq), (1, .ref h0), (0, .ref b)]) : W p l e room_1 s m #[Value.ref b] below meth c H locs 50 856 (lw_Z below #[Value.ref b] s) (F0 m 683 ls []) := by
  obtain ⟨hx, hb, hr, hml, hown, hts, hX, hbl, hlocks, hgv⟩ := id C0
  have hts := law_hts hts
  have hA : ∀ q : Nat, s.heap.size ≤ q → (fun q : Nat => s.heap.size ≤ q) q := fun _ h => h
  have hbA : ¬ (fun q : Nat => s.heap.size ≤ q) b := Nat.not_le.mpr hbl
  refine lv_aload_n hx hb dL_law_683 rfl (lv_at hl 3 rfl) ?_
  refine lv_aload_n hx hb dL_law_684 rfl (lv_at hl 4 rfl) ?_
  refine lv_iload hx hb dL_law_685 (lv_at hl 0 rfl) ?_
  refine lv_iconst (v := 1) hx hb dL_law_687 (by decide) ?_
  refine lv_iadd hx hb dL_law_688 ?_
  refine lv_topi (fun x_1 e_2 => ?_)
  obtain rfl : x_1 = 1 := e_2.trans (by decide)
  refine va_sld hx hb hX hbl hbA hS (by unfold vp_in; decide) dL_law_689 ?_
  refine lv_topi (fun y1 ey1 => ?_)
  refine lv_aload_n hx hb dL_law_690 rfl (lv_at hl 4 rfl) ?_
  refine lv_iload hx hb dL_law_691 (lv_at hl 0 rfl) ?_
  refine lv_iconst (v := 2) hx hb dL_law_693 (by decide) ?_
  refine lv_iadd hx hb dL_law_694 ?_
  refine lv_topi (fun x_5 e_6 => ?_)
  obtain rfl : x_5 = 2 := e_6.trans (by decide)
  refine va_sld hx hb hX hbl hbA hS (by unfold vp_in; decide) dL_law_695 ?_
  refine lv_topi (fun y2 ey2 => ?_)
  refine lv_aload_n hx hb dL_law_696 rfl (lv_at hl 1 rfl) ?_
  have hPc := hP.sub (ws' := [(h0, .inr (10, [.ref fq, .ref sq, .ref gq, .ref nq, .ref dq, .ref pq, .int 0, .int 0, .int 0])), (sq, .inr (4, [.int 0, .ref tE, .int 0]))]) [0, 2] rfl
  have hDc := hD.sub (ws' := [(h0, .inr (10, [.ref fq, .ref sq, .ref gq, .ref nq, .ref dq, .ref pq, .int 0, .int 0, .int 0])), (sq, .inr (4, [.int 0, .ref tE, .int 0]))]) [0, 2] (by decide) rfl
  have hKc := hK.sub (tys' := []) [] rfl
  have hFc := va_free (wc := [(h0, .inr (10, [.ref fq, .ref sq, .ref gq, .ref nq, .ref dq, .ref pq, .int 0, .int 0, .int 0])), (sq, .inr (4, [.int 0, .ref tE, .int 0]))]) hD hS hA [0, 2] rfl
  refine va_calli (vx_runSW (As := [.ref h0, .int y1, .int y2, .ref oq]) (rest := []) ⟨hx, hb, hml, hown, hts⟩ (w_lift l hl9 dC dI tE h0 fq sq gq nq dq pq 0 0 0 0 y1 y2 oq _ ) (vx_cwSW 4 hts (goodIn_app (goodIn_r _ [213, 214, 52] (by rfl) (by decide +kernel)) gt_law_w_lift) rfl rfl rfl (by decide +kernel) ⟨Nat.le_of_ble_eq_true rfl, Nat.le_of_ble_eq_true rfl⟩) ⟨Pre0.blind, Pre0.give hPc hKc hDc hT hS hFc⟩ rfl rfl hl.1 rfl (lv_room (Nat.le_of_ble_eq_true rfl)) dL_law_697 ⟨Nat.le_of_ble_eq_true rfl, Nat.le_of_ble_eq_true rfl⟩) hS (fun q _ h => hFc q h) hFc (fun r_9 u t H1 locs ht hvm hw hB hz1 hk1 hS => ?_)
  obtain ⟨hP1, hK1, hD1⟩ := hB
  rw [ht] at hP1
  have hK1 := va_K.moved hvm.symm hK1
  obtain ⟨hP, hD⟩ := va_join (wr := [(fq, .inr (4, [.int 0, .ref tE, .int 0])), (gq, .inr (4, [.int 0, .ref tE, .int 0])), (nq, .inr (8, [.int 0, .ref tq, .ref zq, .ref wq])), (mq, .inr (11, [.int 0, .int 0, .int 0, .int 0, .ref rq, .ref sbq])), (rq, .inl (ci, 119, .inl (fun _ => 0))), (sbq, .inr (1, [.ref vq, .int 0, .int 0, .int 0])), (vq, .inl (cv, 16, .inl (fun _ => 0))), (oq, .inl (co, 1, .inr (.inl (fun _ => 0))))]) (w1 := [(h0, .inr (10, [.ref fq, .ref sq, .ref gq, .ref nq, .ref dq, .ref pq, .int 0, .int 0, .int 0])), (sq, .inr (4, [.int 0, .ref tE, .int 0]))]) hP hD [0, 2] [1, 3, 4, 5, 6, 7, 8, 9] rfl rfl (by decide) (by decide) hk1 hFc hP1 hD1
  generalize H1 = H at hP hS ⊢
  have hP : va_P (dC, dI) vwCl [(fq, .inr (4, [.int 0, .ref tE, .int 0])), (gq, .inr (4, [.int 0, .ref tE, .int 0])), (nq, .inr (8, [.int 0, .ref tq, .ref zq, .ref wq])), (mq, .inr (11, [.int 0, .int 0, .int 0, .int 0, .ref rq, .ref sbq])), (rq, .inl (ci, 119, .inl (fun _ => 0))), (sbq, .inr (1, [.ref vq, .int 0, .int 0, .int 0])), (vq, .inl (cv, 16, .inl (fun _ => 0))), (oq, .inl (co, 1, .inr (.inl (fun _ => 0)))), (h0, .inr (10, [.ref fq, .ref sq, .ref gq, .ref nq, .ref dq, .ref pq, .int 0, .int 0, .int 0])), (sq, .inr (4, [.int 0, .ref tE, .int 0]))] H := hP
  have hD : va_D (fun q : Nat => s.heap.size ≤ q) [(fq, .inr (4, [.int 0, .ref tE, .int 0])), (gq, .inr (4, [.int 0, .ref tE, .int 0])), (nq, .inr (8, [.int 0, .ref tq, .ref zq, .ref wq])), (mq, .inr (11, [.int 0, .int 0, .int 0, .int 0, .ref rq, .ref sbq])), (rq, .inl (ci, 119, .inl (fun _ => 0))), (sbq, .inr (1, [.ref vq, .int 0, .int 0, .int 0])), (vq, .inl (cv, 16, .inl (fun _ => 0))), (oq, .inl (co, 1, .inr (.inl (fun _ => 0)))), (h0, .inr (10, [.ref fq, .ref sq, .ref gq, .ref nq, .ref dq, .ref pq, .int 0, .int 0, .int 0])), (sq, .inr (4, [.int 0, .ref tE, .int 0]))] := hD
  refine W.widen (k := 51) (n := 862) (by omega) (by omega) ?_
  obtain rfl : r_9 = 1 := hw
  refine lv_istore (lv' := [(5, .int 1), (4, .int 0), (3, .ref oq), (2, .ref mq), (1, .ref h0), (0, .ref b)]) hx hb dL_law_700 hl (by decide) rfl (fun ls hl => ?_)
  refine lv_aload_n hx hb dL_law_702 rfl (lv_at hl 3 rfl) ?_
  refine lv_aload_n hx hb dL_law_703 rfl (lv_at hl 5 rfl) ?_
  refine lv_iload hx hb dL_law_704 (lv_at hl 1 rfl) ?_
  refine lv_iconst (v := 1) hx hb dL_law_706 (by decide) ?_
  refine lv_iadd hx hb dL_law_707 ?_
  refine lv_topi (fun x_10 e_11 => ?_)
  obtain rfl : x_10 = 1 := e_11.trans (by decide)
  refine va_sld hx hb hX hbl hbA hS (by unfold vp_in; decide) dL_law_708 ?_
  refine lv_topi (fun x_12 e_13 => ?_)
  obtain rfl : y1 = x_12 := ey1.trans e_13.symm
  refine lv_aload_n hx hb dL_law_709 rfl (lv_at hl 5 rfl) ?_
  refine lv_iload hx hb dL_law_710 (lv_at hl 1 rfl) ?_
  refine lv_iconst (v := 2) hx hb dL_law_712 (by decide) ?_
  refine lv_iadd hx hb dL_law_713 ?_
  refine lv_topi (fun x_14 e_15 => ?_)
  obtain rfl : x_14 = 2 := e_15.trans (by decide)
  refine va_sld hx hb hX hbl hbA hS (by unfold vp_in; decide) dL_law_714 ?_
  refine lv_topi (fun x_16 e_17 => ?_)
  obtain rfl : y2 = x_16 := ey2.trans e_17.symm
  have hPc := hP.sub (ws' := [(mq, .inr (11, [.int 0, .int 0, .int 0, .int 0, .ref rq, .ref sbq]))]) [3] rfl
  have hDc := hD.sub (ws' := [(mq, .inr (11, [.int 0, .int 0, .int 0, .int 0, .ref rq, .ref sbq]))]) [3] (by decide) rfl
  have hKc := hK.sub (tys' := []) [] rfl
  have hFc := va_free (wc := [(mq, .inr (11, [.int 0, .int 0, .int 0, .int 0, .ref rq, .ref sbq]))]) hD hS hA [3] rfl
  refine va_calli (va_runV (As := [.int y1, .int y2]) (rest := []) ⟨hx, hb, hml, hown, hts⟩ (c_M_lift l hl9 dC dI tE mq rq sbq 0 y1 y2 _ ) (cwV 2 hts (goodIn_app (goodIn_r _ [216, 217, 218, 58] (by rfl) (by decide +kernel)) gg_law_c_M_lift) rfl rfl rfl (by decide +kernel) ⟨Nat.le_of_ble_eq_true rfl, Nat.le_of_ble_eq_true rfl⟩) ⟨Pre0.blind, va_recv hKc hPc (ci := 11) (q0 := 0) rfl rfl, Pre0.give hPc hKc hDc hT hS hFc⟩ rfl rfl hl.1 rfl (lv_room (Nat.le_of_ble_eq_true rfl)) dL_law_715 ⟨Nat.le_of_ble_eq_true rfl, Nat.le_of_ble_eq_true rfl⟩) hS (fun q _ h => hFc q h) hFc (fun r_18 u t H1 locs ht hvm hw hB hz1 hk1 hS => ?_)
  obtain ⟨hP1, hK1, hD1⟩ := hB
  rw [ht] at hP1
  have hK1 := va_K.moved hvm.symm hK1
  obtain ⟨hP, hD⟩ := va_join (wr := [(fq, .inr (4, [.int 0, .ref tE, .int 0])), (gq, .inr (4, [.int 0, .ref tE, .int 0])), (nq, .inr (8, [.int 0, .ref tq, .ref zq, .ref wq])), (rq, .inl (ci, 119, .inl (fun _ => 0))), (sbq, .inr (1, [.ref vq, .int 0, .int 0, .int 0])), (vq, .inl (cv, 16, .inl (fun _ => 0))), (oq, .inl (co, 1, .inr (.inl (fun _ => 0)))), (h0, .inr (10, [.ref fq, .ref sq, .ref gq, .ref nq, .ref dq, .ref pq, .int 0, .int 0, .int 0])), (sq, .inr (4, [.int 0, .ref tE, .int 0]))]) (w1 := [(mq, .inr (11, [.int 1, .int 0, .int 0, .int 0, .ref rq, .ref sbq]))]) hP hD [3] [0, 1, 2, 4, 5, 6, 7, 8, 9] rfl rfl (by decide) (by decide) hk1 hFc hP1 hD1
  generalize H1 = H at hP hS ⊢
  have hP : va_P (dC, dI) vwCl [(fq, .inr (4, [.int 0, .ref tE, .int 0])), (gq, .inr (4, [.int 0, .ref tE, .int 0])), (nq, .inr (8, [.int 0, .ref tq, .ref zq, .ref wq])), (rq, .inl (ci, 119, .inl (fun _ => 0))), (sbq, .inr (1, [.ref vq, .int 0, .int 0, .int 0])), (vq, .inl (cv, 16, .inl (fun _ => 0))), (oq, .inl (co, 1, .inr (.inl (fun _ => 0)))), (h0, .inr (10, [.ref fq, .ref sq, .ref gq, .ref nq, .ref dq, .ref pq, .int 0, .int 0, .int 0])), (sq, .inr (4, [.int 0, .ref tE, .int 0])), (mq, .inr (11, [.int 1, .int 0, .int 0, .int 0, .ref rq, .ref sbq]))] H := hP
  have hD : va_D (fun q : Nat => s.heap.size ≤ q) [(fq, .inr (4, [.int 0, .ref tE, .int 0])), (gq, .inr (4, [.int 0, .ref tE, .int 0])), (nq, .inr (8, [.int 0, .ref tq, .ref zq, .ref wq])), (rq, .inl (ci, 119, .inl (fun _ => 0))), (sbq, .inr (1, [.ref vq, .int 0, .int 0, .int 0])), (vq, .inl (cv, 16, .inl (fun _ => 0))), (oq, .inl (co, 1, .inr (.inl (fun _ => 0)))), (h0, .inr (10, [.ref fq, .ref sq, .ref gq, .ref nq, .ref dq, .ref pq, .int 0, .int 0, .int 0])), (sq, .inr (4, [.int 0, .ref tE, .int 0])), (mq, .inr (11, [.int 1, .int 0, .int 0, .int 0, .ref rq, .ref sbq]))] := hD
  refine W.widen (k := 51) (n := 862) (by omega) (by omega) ?_
  obtain rfl : r_18 = 0 := hw
  refine lv_istore (lv' := [(6, .int 0), (5, .int 1), (4, .int 0), (3, .ref oq), (2, .ref mq), (1, .ref h0), (0, .ref b)]) hx hb dL_law_718 hl (by decide) rfl (fun ls hl => ?_)
  refine lv_aload_n hx hb dL_law_720 rfl (lv_at hl 4 rfl) ?_
  have hPc := hP.sub (ws' := [(mq, .inr (11, [.int 1, .int 0, .int 0, .int 0, .ref rq, .ref sbq]))]) [9] rfl
  have hDc := hD.sub (ws' := [(mq, .inr (11, [.int 1, .int 0, .int 0, .int 0, .ref rq, .ref sbq]))]) [9] (by decide) rfl
  have hKc := hK.sub (tys' := []) [] rfl
  have hFc := va_free (wc := [(mq, .inr (11, [.int 1, .int 0, .int 0, .int 0, .ref rq, .ref sbq]))]) hD hS hA [9] rfl
  refine va_calli (va_runV (As := []) (rest := []) ⟨hx, hb, hml, hown, hts⟩ (c_M_thrown l hl9 dC dI tE mq rq sbq 1 0 0 0 _ ) (cwV 0 hts (goodIn_app (goodIn_r _ [69, 70, 71, 58] (by rfl) (by decide +kernel)) gg_law_c_M_thrown) rfl rfl rfl (by decide +kernel) ⟨Nat.le_of_ble_eq_true rfl, Nat.le_of_ble_eq_true rfl⟩) ⟨Pre0.blind, va_recv hKc hPc (ci := 11) (q0 := 0) rfl rfl, Pre0.give hPc hKc hDc hT hS hFc⟩ rfl rfl hl.1 rfl (lv_room (Nat.le_of_ble_eq_true rfl)) dL_law_721 ⟨Nat.le_of_ble_eq_true rfl, Nat.le_of_ble_eq_true rfl⟩) hS (fun q _ h => hFc q h) hFc (fun r_19 u t H1 locs ht hvm hw hB hz1 hk1 hS => ?_)
  obtain ⟨hP1, hK1, hD1⟩ := hB
  rw [ht] at hP1
  have hK1 := va_K.moved hvm.symm hK1
  obtain ⟨hP, hD⟩ := va_join (wr := [(fq, .inr (4, [.int 0, .ref tE, .int 0])), (gq, .inr (4, [.int 0, .ref tE, .int 0])), (nq, .inr (8, [.int 0, .ref tq, .ref zq, .ref wq])), (rq, .inl (ci, 119, .inl (fun _ => 0))), (sbq, .inr (1, [.ref vq, .int 0, .int 0, .int 0])), (vq, .inl (cv, 16, .inl (fun _ => 0))), (oq, .inl (co, 1, .inr (.inl (fun _ => 0)))), (h0, .inr (10, [.ref fq, .ref sq, .ref gq, .ref nq, .ref dq, .ref pq, .int 0, .int 0, .int 0])), (sq, .inr (4, [.int 0, .ref tE, .int 0]))]) (w1 := [(mq, .inr (11, [.int 1, .int 0, .int 0, .int 0, .ref rq, .ref sbq]))]) hP hD [9] [0, 1, 2, 3, 4, 5, 6, 7, 8] rfl rfl (by decide) (by decide) hk1 hFc hP1 hD1
  generalize H1 = H at hP hS ⊢
  have hP : va_P (dC, dI) vwCl [(fq, .inr (4, [.int 0, .ref tE, .int 0])), (gq, .inr (4, [.int 0, .ref tE, .int 0])), (nq, .inr (8, [.int 0, .ref tq, .ref zq, .ref wq])), (rq, .inl (ci, 119, .inl (fun _ => 0))), (sbq, .inr (1, [.ref vq, .int 0, .int 0, .int 0])), (vq, .inl (cv, 16, .inl (fun _ => 0))), (oq, .inl (co, 1, .inr (.inl (fun _ => 0)))), (h0, .inr (10, [.ref fq, .ref sq, .ref gq, .ref nq, .ref dq, .ref pq, .int 0, .int 0, .int 0])), (sq, .inr (4, [.int 0, .ref tE, .int 0])), (mq, .inr (11, [.int 1, .int 0, .int 0, .int 0, .ref rq, .ref sbq]))] H := hP
  have hD : va_D (fun q : Nat => s.heap.size ≤ q) [(fq, .inr (4, [.int 0, .ref tE, .int 0])), (gq, .inr (4, [.int 0, .ref tE, .int 0])), (nq, .inr (8, [.int 0, .ref tq, .ref zq, .ref wq])), (rq, .inl (ci, 119, .inl (fun _ => 0))), (sbq, .inr (1, [.ref vq, .int 0, .int 0, .int 0])), (vq, .inl (cv, 16, .inl (fun _ => 0))), (oq, .inl (co, 1, .inr (.inl (fun _ => 0)))), (h0, .inr (10, [.ref fq, .ref sq, .ref gq, .ref nq, .ref dq, .ref pq, .int 0, .int 0, .int 0])), (sq, .inr (4, [.int 0, .ref tE, .int 0])), (mq, .inr (11, [.int 1, .int 0, .int 0, .int 0, .ref rq, .ref sbq]))] := hD
  refine W.widen (k := 51) (n := 862) (by omega) (by omega) ?_
  obtain rfl : r_19 = 1 := hw
  refine lv_iload hx hb dL_law_724 (lv_at hl 1 rfl) ?_
  refine lv_icmp_eq (tgt := 731) hx hb dL_law_726 (by decide) (fun _ => ?_) (fun c_20 => absurd (by decide) c_20)
  refine lv_iload hx hb dL_law_731 (lv_at hl 1 rfl) ?_
  refine lv_if_ne (tgt := 748) hx hb dL_law_733 (by decide) (fun _ => ?_) (fun c_21 => absurd c_21 (by decide))
  refine lv_goto (tgt := 1303) hx hb dL_law_748 (by decide) ?_
  exact law_next l C0 (by omega) (by omega) hS ls (lv_sub hl [2, 6] rfl)
set_option maxHeartbeats 4000000 in
set_option maxRecDepth 100000 in
theorem law_guest {p : Program} {e : Env} {s : State} {m : MethodId} {below : List Frame} {meth : Method} {c : Code} (l : Launch) (hl9 : l.stackTraces = false) {b : Nat} {xs : Nat → Int32} (C0 : lw_At p s m meth c b 4 xs) (dC : Nat → ClassId) (dI : Nat → Nat → Nat) (tE : Nat) (h0 fq sq gq nq tq zq wq dq pq mq rq sbq vq oq : Nat) (ci cv co : ClassId) (hT : tK tE (fun q : Nat => s.heap.size ≤ q) s s.heap) (hK : va_K (dC, dI) vwCl [(ci, .int), (cv, .byte), (co, .long)] s) {H : Heap} {locs : List Loc} (hP : va_P (dC, dI) vwCl [(h0, .inr (10, [.ref fq, .ref sq, .ref gq, .ref nq, .ref dq, .ref pq, .int 0, .int 0, .int 0])), (fq, .inr (4, [.int 0, .ref tE, .int 0])), (sq, .inr (4, [.int 0, .ref tE, .int 0])), (gq, .inr (4, [.int 0, .ref tE, .int 0])), (nq, .inr (8, [.int 0, .ref tq, .ref zq, .ref wq])), (mq, .inr (11, [.int 0, .int 0, .int 0, .int 0, .ref rq, .ref sbq])), (rq, .inl (ci, 119, .inl (fun _ => 0))), (sbq, .inr (1, [.ref vq, .int 0, .int 0, .int 0])), (vq, .inl (cv, 16, .inl (fun _ => 0))), (oq, .inl (co, 1, .inr (.inl (fun _ => 0))))] H) (hD : va_D (fun q : Nat => s.heap.size ≤ q) [(h0, .inr (10, [.ref fq, .ref sq, .ref gq, .ref nq, .ref dq, .ref pq, .int 0, .int 0, .int 0])), (fq, .inr (4, [.int 0, .ref tE, .int 0])), (sq, .inr (4, [.int 0, .ref tE, .int 0])), (gq, .inr (4, [.int 0, .ref tE, .int 0])), (nq, .inr (8, [.int 0, .ref tq, .ref zq, .ref wq])), (mq, .inr (11, [.int 0, .int 0, .int 0, .int 0, .ref rq, .ref sbq])), (rq, .inl (ci, 119, .inl (fun _ => 0))), (sbq, .inr (1, [.ref vq, .int 0, .int 0, .int 0])), (vq, .inl (cv, 16, .inl (fun _ => 0))), (oq, .inl (co, 1, .inr (.inl (fun _ => 0))))]) (hS : va_S (fun q : Nat => s.heap.size ≤ q) s.heap H locs) (ls : Array Slot) (hl : lv_has ls 9 [(4, .int 0), (3, .ref oq), (2, .ref mq), (1, .ref h0), (0, .ref b)]) : W p l e room_1 s m #[Value.ref b] below meth c H locs 50 856 (lw_Z below #[Value.ref b] s) (F0 m 751 ls []) := by
  obtain ⟨hx, hb, hr, hml, hown, hts, hX, hbl, hlocks, hgv⟩ := id C0
  have hts := law_hts hts
  have hA : ∀ q : Nat, s.heap.size ≤ q → (fun q : Nat => s.heap.size ≤ q) q := fun _ h => h
  have hbA : ¬ (fun q : Nat => s.heap.size ≤ q) b := Nat.not_le.mpr hbl
  refine lv_aload_n hx hb dL_law_751 rfl (lv_at hl 3 rfl) ?_
  refine lv_aload_n hx hb dL_law_752 rfl (lv_at hl 4 rfl) ?_
  refine lv_iload hx hb dL_law_753 (lv_at hl 0 rfl) ?_
  refine lv_iconst (v := 1) hx hb dL_law_755 (by decide) ?_
  refine lv_iadd hx hb dL_law_756 ?_
  refine lv_topi (fun x_1 e_2 => ?_)
  obtain rfl : x_1 = 1 := e_2.trans (by decide)
  refine va_sld hx hb hX hbl hbA hS (by unfold vp_in; decide) dL_law_757 ?_
  refine lv_topi (fun y1 ey1 => ?_)
  refine lv_aload_n hx hb dL_law_758 rfl (lv_at hl 4 rfl) ?_
  refine lv_iload hx hb dL_law_759 (lv_at hl 0 rfl) ?_
  refine lv_iconst (v := 2) hx hb dL_law_761 (by decide) ?_
  refine lv_iadd hx hb dL_law_762 ?_
  refine lv_topi (fun x_5 e_6 => ?_)
  obtain rfl : x_5 = 2 := e_6.trans (by decide)
  refine va_sld hx hb hX hbl hbA hS (by unfold vp_in; decide) dL_law_763 ?_
  refine lv_topi (fun y2 ey2 => ?_)
  refine lv_aload_n hx hb dL_law_764 rfl (lv_at hl 1 rfl) ?_
  have hPc := hP.sub (ws' := [(h0, .inr (10, [.ref fq, .ref sq, .ref gq, .ref nq, .ref dq, .ref pq, .int 0, .int 0, .int 0])), (gq, .inr (4, [.int 0, .ref tE, .int 0]))]) [0, 3] rfl
  have hDc := hD.sub (ws' := [(h0, .inr (10, [.ref fq, .ref sq, .ref gq, .ref nq, .ref dq, .ref pq, .int 0, .int 0, .int 0])), (gq, .inr (4, [.int 0, .ref tE, .int 0]))]) [0, 3] (by decide) rfl
  have hKc := hK.sub (tys' := []) [] rfl
  have hFc := va_free (wc := [(h0, .inr (10, [.ref fq, .ref sq, .ref gq, .ref nq, .ref dq, .ref pq, .int 0, .int 0, .int 0])), (gq, .inr (4, [.int 0, .ref tE, .int 0]))]) hD hS hA [0, 3] rfl
  refine va_calli (vx_runSW (As := [.ref h0, .int y1, .int y2, .ref oq]) (rest := []) ⟨hx, hb, hml, hown, hts⟩ (w_guest l hl9 dC dI tE h0 fq sq gq nq dq pq 0 0 0 0 y1 y2 oq _ ) (vx_cwSW 4 hts (goodIn_app (goodIn_r _ [224, 225, 52] (by rfl) (by decide +kernel)) gt_law_w_guest) rfl rfl rfl (by decide +kernel) ⟨Nat.le_of_ble_eq_true rfl, Nat.le_of_ble_eq_true rfl⟩) ⟨Pre0.blind, Pre0.give hPc hKc hDc hT hS hFc⟩ rfl rfl hl.1 rfl (lv_room (Nat.le_of_ble_eq_true rfl)) dL_law_765 ⟨Nat.le_of_ble_eq_true rfl, Nat.le_of_ble_eq_true rfl⟩) hS (fun q _ h => hFc q h) hFc (fun r_9 u t H1 locs ht hvm hw hB hz1 hk1 hS => ?_)
  obtain ⟨hP1, hK1, hD1⟩ := hB
  rw [ht] at hP1
  have hK1 := va_K.moved hvm.symm hK1
  obtain ⟨hP, hD⟩ := va_join (wr := [(fq, .inr (4, [.int 0, .ref tE, .int 0])), (sq, .inr (4, [.int 0, .ref tE, .int 0])), (nq, .inr (8, [.int 0, .ref tq, .ref zq, .ref wq])), (mq, .inr (11, [.int 0, .int 0, .int 0, .int 0, .ref rq, .ref sbq])), (rq, .inl (ci, 119, .inl (fun _ => 0))), (sbq, .inr (1, [.ref vq, .int 0, .int 0, .int 0])), (vq, .inl (cv, 16, .inl (fun _ => 0))), (oq, .inl (co, 1, .inr (.inl (fun _ => 0))))]) (w1 := [(h0, .inr (10, [.ref fq, .ref sq, .ref gq, .ref nq, .ref dq, .ref pq, .int 0, .int 0, .int 0])), (gq, .inr (4, [.int 0, .ref tE, .int 0]))]) hP hD [0, 3] [1, 2, 4, 5, 6, 7, 8, 9] rfl rfl (by decide) (by decide) hk1 hFc hP1 hD1
  generalize H1 = H at hP hS ⊢
  have hP : va_P (dC, dI) vwCl [(fq, .inr (4, [.int 0, .ref tE, .int 0])), (sq, .inr (4, [.int 0, .ref tE, .int 0])), (nq, .inr (8, [.int 0, .ref tq, .ref zq, .ref wq])), (mq, .inr (11, [.int 0, .int 0, .int 0, .int 0, .ref rq, .ref sbq])), (rq, .inl (ci, 119, .inl (fun _ => 0))), (sbq, .inr (1, [.ref vq, .int 0, .int 0, .int 0])), (vq, .inl (cv, 16, .inl (fun _ => 0))), (oq, .inl (co, 1, .inr (.inl (fun _ => 0)))), (h0, .inr (10, [.ref fq, .ref sq, .ref gq, .ref nq, .ref dq, .ref pq, .int 0, .int 0, .int 0])), (gq, .inr (4, [.int 0, .ref tE, .int 0]))] H := hP
  have hD : va_D (fun q : Nat => s.heap.size ≤ q) [(fq, .inr (4, [.int 0, .ref tE, .int 0])), (sq, .inr (4, [.int 0, .ref tE, .int 0])), (nq, .inr (8, [.int 0, .ref tq, .ref zq, .ref wq])), (mq, .inr (11, [.int 0, .int 0, .int 0, .int 0, .ref rq, .ref sbq])), (rq, .inl (ci, 119, .inl (fun _ => 0))), (sbq, .inr (1, [.ref vq, .int 0, .int 0, .int 0])), (vq, .inl (cv, 16, .inl (fun _ => 0))), (oq, .inl (co, 1, .inr (.inl (fun _ => 0)))), (h0, .inr (10, [.ref fq, .ref sq, .ref gq, .ref nq, .ref dq, .ref pq, .int 0, .int 0, .int 0])), (gq, .inr (4, [.int 0, .ref tE, .int 0]))] := hD
  refine W.widen (k := 51) (n := 862) (by omega) (by omega) ?_
  obtain rfl : r_9 = 1 := hw
  refine lv_istore (lv' := [(5, .int 1), (4, .int 0), (3, .ref oq), (2, .ref mq), (1, .ref h0), (0, .ref b)]) hx hb dL_law_768 hl (by decide) rfl (fun ls hl => ?_)
  refine lv_aload_n hx hb dL_law_770 rfl (lv_at hl 3 rfl) ?_
  refine lv_aload_n hx hb dL_law_771 rfl (lv_at hl 5 rfl) ?_
  refine lv_iload hx hb dL_law_772 (lv_at hl 1 rfl) ?_
  refine lv_iconst (v := 1) hx hb dL_law_774 (by decide) ?_
  refine lv_iadd hx hb dL_law_775 ?_
  refine lv_topi (fun x_10 e_11 => ?_)
  obtain rfl : x_10 = 1 := e_11.trans (by decide)
  refine va_sld hx hb hX hbl hbA hS (by unfold vp_in; decide) dL_law_776 ?_
  refine lv_topi (fun x_12 e_13 => ?_)
  obtain rfl : y1 = x_12 := ey1.trans e_13.symm
  refine lv_aload_n hx hb dL_law_777 rfl (lv_at hl 5 rfl) ?_
  refine lv_iload hx hb dL_law_778 (lv_at hl 1 rfl) ?_
  refine lv_iconst (v := 2) hx hb dL_law_780 (by decide) ?_
  refine lv_iadd hx hb dL_law_781 ?_
  refine lv_topi (fun x_14 e_15 => ?_)
  obtain rfl : x_14 = 2 := e_15.trans (by decide)
  refine va_sld hx hb hX hbl hbA hS (by unfold vp_in; decide) dL_law_782 ?_
  refine lv_topi (fun x_16 e_17 => ?_)
  obtain rfl : y2 = x_16 := ey2.trans e_17.symm
  have hPc := hP.sub (ws' := [(mq, .inr (11, [.int 0, .int 0, .int 0, .int 0, .ref rq, .ref sbq]))]) [3] rfl
  have hDc := hD.sub (ws' := [(mq, .inr (11, [.int 0, .int 0, .int 0, .int 0, .ref rq, .ref sbq]))]) [3] (by decide) rfl
  have hKc := hK.sub (tys' := []) [] rfl
  have hFc := va_free (wc := [(mq, .inr (11, [.int 0, .int 0, .int 0, .int 0, .ref rq, .ref sbq]))]) hD hS hA [3] rfl
  refine va_calli (va_runV (As := [.int y1, .int y2]) (rest := []) ⟨hx, hb, hml, hown, hts⟩ (c_M_guest l hl9 dC dI tE mq rq sbq 0 y1 y2 _ ) (cwV 2 hts (goodIn_app (goodIn_r _ [227, 228, 229, 58] (by rfl) (by decide +kernel)) gg_law_c_M_guest) rfl rfl rfl (by decide +kernel) ⟨Nat.le_of_ble_eq_true rfl, Nat.le_of_ble_eq_true rfl⟩) ⟨Pre0.blind, va_recv hKc hPc (ci := 11) (q0 := 0) rfl rfl, Pre0.give hPc hKc hDc hT hS hFc⟩ rfl rfl hl.1 rfl (lv_room (Nat.le_of_ble_eq_true rfl)) dL_law_783 ⟨Nat.le_of_ble_eq_true rfl, Nat.le_of_ble_eq_true rfl⟩) hS (fun q _ h => hFc q h) hFc (fun r_18 u t H1 locs ht hvm hw hB hz1 hk1 hS => ?_)
  obtain ⟨hP1, hK1, hD1⟩ := hB
  rw [ht] at hP1
  have hK1 := va_K.moved hvm.symm hK1
  obtain ⟨hP, hD⟩ := va_join (wr := [(fq, .inr (4, [.int 0, .ref tE, .int 0])), (sq, .inr (4, [.int 0, .ref tE, .int 0])), (nq, .inr (8, [.int 0, .ref tq, .ref zq, .ref wq])), (rq, .inl (ci, 119, .inl (fun _ => 0))), (sbq, .inr (1, [.ref vq, .int 0, .int 0, .int 0])), (vq, .inl (cv, 16, .inl (fun _ => 0))), (oq, .inl (co, 1, .inr (.inl (fun _ => 0)))), (h0, .inr (10, [.ref fq, .ref sq, .ref gq, .ref nq, .ref dq, .ref pq, .int 0, .int 0, .int 0])), (gq, .inr (4, [.int 0, .ref tE, .int 0]))]) (w1 := [(mq, .inr (11, [.int 1, .int 0, .int 0, .int 0, .ref rq, .ref sbq]))]) hP hD [3] [0, 1, 2, 4, 5, 6, 7, 8, 9] rfl rfl (by decide) (by decide) hk1 hFc hP1 hD1
  generalize H1 = H at hP hS ⊢
  have hP : va_P (dC, dI) vwCl [(fq, .inr (4, [.int 0, .ref tE, .int 0])), (sq, .inr (4, [.int 0, .ref tE, .int 0])), (nq, .inr (8, [.int 0, .ref tq, .ref zq, .ref wq])), (rq, .inl (ci, 119, .inl (fun _ => 0))), (sbq, .inr (1, [.ref vq, .int 0, .int 0, .int 0])), (vq, .inl (cv, 16, .inl (fun _ => 0))), (oq, .inl (co, 1, .inr (.inl (fun _ => 0)))), (h0, .inr (10, [.ref fq, .ref sq, .ref gq, .ref nq, .ref dq, .ref pq, .int 0, .int 0, .int 0])), (gq, .inr (4, [.int 0, .ref tE, .int 0])), (mq, .inr (11, [.int 1, .int 0, .int 0, .int 0, .ref rq, .ref sbq]))] H := hP
  have hD : va_D (fun q : Nat => s.heap.size ≤ q) [(fq, .inr (4, [.int 0, .ref tE, .int 0])), (sq, .inr (4, [.int 0, .ref tE, .int 0])), (nq, .inr (8, [.int 0, .ref tq, .ref zq, .ref wq])), (rq, .inl (ci, 119, .inl (fun _ => 0))), (sbq, .inr (1, [.ref vq, .int 0, .int 0, .int 0])), (vq, .inl (cv, 16, .inl (fun _ => 0))), (oq, .inl (co, 1, .inr (.inl (fun _ => 0)))), (h0, .inr (10, [.ref fq, .ref sq, .ref gq, .ref nq, .ref dq, .ref pq, .int 0, .int 0, .int 0])), (gq, .inr (4, [.int 0, .ref tE, .int 0])), (mq, .inr (11, [.int 1, .int 0, .int 0, .int 0, .ref rq, .ref sbq]))] := hD
  refine W.widen (k := 51) (n := 862) (by omega) (by omega) ?_
  obtain rfl : r_18 = 0 := hw
  refine lv_istore (lv' := [(6, .int 0), (5, .int 1), (4, .int 0), (3, .ref oq), (2, .ref mq), (1, .ref h0), (0, .ref b)]) hx hb dL_law_786 hl (by decide) rfl (fun ls hl => ?_)
  refine lv_aload_n hx hb dL_law_788 rfl (lv_at hl 4 rfl) ?_
  have hPc := hP.sub (ws' := [(mq, .inr (11, [.int 1, .int 0, .int 0, .int 0, .ref rq, .ref sbq]))]) [9] rfl
  have hDc := hD.sub (ws' := [(mq, .inr (11, [.int 1, .int 0, .int 0, .int 0, .ref rq, .ref sbq]))]) [9] (by decide) rfl
  have hKc := hK.sub (tys' := []) [] rfl
  have hFc := va_free (wc := [(mq, .inr (11, [.int 1, .int 0, .int 0, .int 0, .ref rq, .ref sbq]))]) hD hS hA [9] rfl
  refine va_calli (va_runV (As := []) (rest := []) ⟨hx, hb, hml, hown, hts⟩ (c_M_thrown l hl9 dC dI tE mq rq sbq 1 0 0 0 _ ) (cwV 0 hts (goodIn_app (goodIn_r _ [69, 70, 71, 58] (by rfl) (by decide +kernel)) gg_law_c_M_thrown) rfl rfl rfl (by decide +kernel) ⟨Nat.le_of_ble_eq_true rfl, Nat.le_of_ble_eq_true rfl⟩) ⟨Pre0.blind, va_recv hKc hPc (ci := 11) (q0 := 0) rfl rfl, Pre0.give hPc hKc hDc hT hS hFc⟩ rfl rfl hl.1 rfl (lv_room (Nat.le_of_ble_eq_true rfl)) dL_law_789 ⟨Nat.le_of_ble_eq_true rfl, Nat.le_of_ble_eq_true rfl⟩) hS (fun q _ h => hFc q h) hFc (fun r_19 u t H1 locs ht hvm hw hB hz1 hk1 hS => ?_)
  obtain ⟨hP1, hK1, hD1⟩ := hB
  rw [ht] at hP1
  have hK1 := va_K.moved hvm.symm hK1
  obtain ⟨hP, hD⟩ := va_join (wr := [(fq, .inr (4, [.int 0, .ref tE, .int 0])), (sq, .inr (4, [.int 0, .ref tE, .int 0])), (nq, .inr (8, [.int 0, .ref tq, .ref zq, .ref wq])), (rq, .inl (ci, 119, .inl (fun _ => 0))), (sbq, .inr (1, [.ref vq, .int 0, .int 0, .int 0])), (vq, .inl (cv, 16, .inl (fun _ => 0))), (oq, .inl (co, 1, .inr (.inl (fun _ => 0)))), (h0, .inr (10, [.ref fq, .ref sq, .ref gq, .ref nq, .ref dq, .ref pq, .int 0, .int 0, .int 0])), (gq, .inr (4, [.int 0, .ref tE, .int 0]))]) (w1 := [(mq, .inr (11, [.int 1, .int 0, .int 0, .int 0, .ref rq, .ref sbq]))]) hP hD [9] [0, 1, 2, 3, 4, 5, 6, 7, 8] rfl rfl (by decide) (by decide) hk1 hFc hP1 hD1
  generalize H1 = H at hP hS ⊢
  have hP : va_P (dC, dI) vwCl [(fq, .inr (4, [.int 0, .ref tE, .int 0])), (sq, .inr (4, [.int 0, .ref tE, .int 0])), (nq, .inr (8, [.int 0, .ref tq, .ref zq, .ref wq])), (rq, .inl (ci, 119, .inl (fun _ => 0))), (sbq, .inr (1, [.ref vq, .int 0, .int 0, .int 0])), (vq, .inl (cv, 16, .inl (fun _ => 0))), (oq, .inl (co, 1, .inr (.inl (fun _ => 0)))), (h0, .inr (10, [.ref fq, .ref sq, .ref gq, .ref nq, .ref dq, .ref pq, .int 0, .int 0, .int 0])), (gq, .inr (4, [.int 0, .ref tE, .int 0])), (mq, .inr (11, [.int 1, .int 0, .int 0, .int 0, .ref rq, .ref sbq]))] H := hP
  have hD : va_D (fun q : Nat => s.heap.size ≤ q) [(fq, .inr (4, [.int 0, .ref tE, .int 0])), (sq, .inr (4, [.int 0, .ref tE, .int 0])), (nq, .inr (8, [.int 0, .ref tq, .ref zq, .ref wq])), (rq, .inl (ci, 119, .inl (fun _ => 0))), (sbq, .inr (1, [.ref vq, .int 0, .int 0, .int 0])), (vq, .inl (cv, 16, .inl (fun _ => 0))), (oq, .inl (co, 1, .inr (.inl (fun _ => 0)))), (h0, .inr (10, [.ref fq, .ref sq, .ref gq, .ref nq, .ref dq, .ref pq, .int 0, .int 0, .int 0])), (gq, .inr (4, [.int 0, .ref tE, .int 0])), (mq, .inr (11, [.int 1, .int 0, .int 0, .int 0, .ref rq, .ref sbq]))] := hD
  refine W.widen (k := 51) (n := 862) (by omega) (by omega) ?_
  obtain rfl : r_19 = 1 := hw
  refine lv_iload hx hb dL_law_792 (lv_at hl 1 rfl) ?_
  refine lv_icmp_eq (tgt := 799) hx hb dL_law_794 (by decide) (fun _ => ?_) (fun c_20 => absurd (by decide) c_20)
  refine lv_iload hx hb dL_law_799 (lv_at hl 1 rfl) ?_
  refine lv_if_ne (tgt := 816) hx hb dL_law_801 (by decide) (fun _ => ?_) (fun c_21 => absurd c_21 (by decide))
  refine lv_goto (tgt := 1303) hx hb dL_law_816 (by decide) ?_
  exact law_next l C0 (by omega) (by omega) hS ls (lv_sub hl [2, 6] rfl)
set_option maxHeartbeats 4000000 in
set_option maxRecDepth 100000 in
theorem law_count {p : Program} {e : Env} {s : State} {m : MethodId} {below : List Frame} {meth : Method} {c : Code} (l : Launch) (hl9 : l.stackTraces = false) {b : Nat} {xs : Nat → Int32} (C0 : lw_At p s m meth c b 4 xs) (dC : Nat → ClassId) (dI : Nat → Nat → Nat) (tE : Nat) (h0 fq sq gq nq tq zq wq dq pq mq rq sbq vq oq : Nat) (ci cv co : ClassId) (hT : tK tE (fun q : Nat => s.heap.size ≤ q) s s.heap) (hK : va_K (dC, dI) vwCl [(ci, .int), (cv, .byte), (co, .long)] s) {H : Heap} {locs : List Loc} (hP : va_P (dC, dI) vwCl [(h0, .inr (10, [.ref fq, .ref sq, .ref gq, .ref nq, .ref dq, .ref pq, .int 0, .int 0, .int 0])), (fq, .inr (4, [.int 0, .ref tE, .int 0])), (sq, .inr (4, [.int 0, .ref tE, .int 0])), (gq, .inr (4, [.int 0, .ref tE, .int 0])), (nq, .inr (8, [.int 0, .ref tq, .ref zq, .ref wq])), (mq, .inr (11, [.int 0, .int 0, .int 0, .int 0, .ref rq, .ref sbq])), (rq, .inl (ci, 119, .inl (fun _ => 0))), (sbq, .inr (1, [.ref vq, .int 0, .int 0, .int 0])), (vq, .inl (cv, 16, .inl (fun _ => 0))), (oq, .inl (co, 1, .inr (.inl (fun _ => 0))))] H) (hD : va_D (fun q : Nat => s.heap.size ≤ q) [(h0, .inr (10, [.ref fq, .ref sq, .ref gq, .ref nq, .ref dq, .ref pq, .int 0, .int 0, .int 0])), (fq, .inr (4, [.int 0, .ref tE, .int 0])), (sq, .inr (4, [.int 0, .ref tE, .int 0])), (gq, .inr (4, [.int 0, .ref tE, .int 0])), (nq, .inr (8, [.int 0, .ref tq, .ref zq, .ref wq])), (mq, .inr (11, [.int 0, .int 0, .int 0, .int 0, .ref rq, .ref sbq])), (rq, .inl (ci, 119, .inl (fun _ => 0))), (sbq, .inr (1, [.ref vq, .int 0, .int 0, .int 0])), (vq, .inl (cv, 16, .inl (fun _ => 0))), (oq, .inl (co, 1, .inr (.inl (fun _ => 0))))]) (hS : va_S (fun q : Nat => s.heap.size ≤ q) s.heap H locs) (ls : Array Slot) (hl : lv_has ls 9 [(4, .int 0), (3, .ref oq), (2, .ref mq), (1, .ref h0), (0, .ref b)]) : W p l e room_1 s m #[Value.ref b] below meth c H locs 50 856 (lw_Z below #[Value.ref b] s) (F0 m 819 ls []) := by
  obtain ⟨hx, hb, hr, hml, hown, hts, hX, hbl, hlocks, hgv⟩ := id C0
  have hts := law_hts hts
  have hA : ∀ q : Nat, s.heap.size ≤ q → (fun q : Nat => s.heap.size ≤ q) q := fun _ h => h
  have hbA : ¬ (fun q : Nat => s.heap.size ≤ q) b := Nat.not_le.mpr hbl
  refine lv_aload_n hx hb dL_law_819 rfl (lv_at hl 3 rfl) ?_
  refine lv_aload_n hx hb dL_law_820 rfl (lv_at hl 4 rfl) ?_
  refine lv_iload hx hb dL_law_821 (lv_at hl 0 rfl) ?_
  refine lv_iconst (v := 1) hx hb dL_law_823 (by decide) ?_
  refine lv_iadd hx hb dL_law_824 ?_
  refine lv_topi (fun x_1 e_2 => ?_)
  obtain rfl : x_1 = 1 := e_2.trans (by decide)
  refine va_sld hx hb hX hbl hbA hS (by unfold vp_in; decide) dL_law_825 ?_
  refine lv_topi (fun y1 ey1 => ?_)
  refine lv_aload_n hx hb dL_law_826 rfl (lv_at hl 1 rfl) ?_
  rcases cs07 y1 with rfl | rfl | rfl | rfl | rfl | rfl | rfl | rfl | h
  · have hPc := hP.sub (ws' := [(h0, .inr (10, [.ref fq, .ref sq, .ref gq, .ref nq, .ref dq, .ref pq, .int 0, .int 0, .int 0])), (fq, .inr (4, [.int 0, .ref tE, .int 0])), (oq, .inl (co, 1, .inr (.inl (fun _ => 0))))]) [0, 1, 9] rfl
    have hDc := hD.sub (ws' := [(h0, .inr (10, [.ref fq, .ref sq, .ref gq, .ref nq, .ref dq, .ref pq, .int 0, .int 0, .int 0])), (fq, .inr (4, [.int 0, .ref tE, .int 0])), (oq, .inl (co, 1, .inr (.inl (fun _ => 0))))]) [0, 1, 9] (by decide) rfl
    have hKc := hK.sub (tys' := [(co, .long)]) [2] rfl
    have hFc := va_free (wc := [(h0, .inr (10, [.ref fq, .ref sq, .ref gq, .ref nq, .ref dq, .ref pq, .int 0, .int 0, .int 0])), (fq, .inr (4, [.int 0, .ref tE, .int 0])), (oq, .inl (co, 1, .inr (.inl (fun _ => 0))))]) hD hS hA [0, 1, 9] rfl
    refine va_calli (vx_runSW (As := [.ref h0, .int 0, .ref oq]) (rest := []) ⟨hx, hb, hml, hown, hts⟩ (w_count_0 l hl9 dC dI tE h0 fq sq gq nq dq pq 0 oq co (fun _ => 0) _ ) (vx_cwSW 3 hts (goodIn_app (goodIn_r _ [235, 236, 52] (by rfl) (by decide +kernel)) gg_law_w_count_0) rfl rfl rfl (by decide +kernel) ⟨Nat.le_of_ble_eq_true rfl, Nat.le_of_ble_eq_true rfl⟩) ⟨Pre0.blind, Pre0.give hPc hKc hDc hT hS hFc⟩ rfl rfl hl.1 rfl (lv_room (Nat.le_of_ble_eq_true rfl)) dL_law_827 ⟨Nat.le_of_ble_eq_true rfl, Nat.le_of_ble_eq_true rfl⟩) hS (fun q _ h => hFc q h) hFc (fun r_5 u t H1 locs ht hvm hw hB hz1 hk1 hS => ?_)
    obtain ⟨hP1, hK1, hD1⟩ := hB
    rw [ht] at hP1
    have hK1 := va_K.moved hvm.symm hK1
    obtain ⟨hP, hD⟩ := va_join (wr := [(sq, .inr (4, [.int 0, .ref tE, .int 0])), (gq, .inr (4, [.int 0, .ref tE, .int 0])), (nq, .inr (8, [.int 0, .ref tq, .ref zq, .ref wq])), (mq, .inr (11, [.int 0, .int 0, .int 0, .int 0, .ref rq, .ref sbq])), (rq, .inl (ci, 119, .inl (fun _ => 0))), (sbq, .inr (1, [.ref vq, .int 0, .int 0, .int 0])), (vq, .inl (cv, 16, .inl (fun _ => 0)))]) (w1 := [(oq, .inl (co, 1, .inr (.inl (vp_updL (fun _ => 0) (0 : Int32).toNatClampNeg 0)))), (h0, .inr (10, [.ref fq, .ref sq, .ref gq, .ref nq, .ref dq, .ref pq, .int 0, .int 0, .int 0])), (fq, .inr (4, [.int 0, .ref tE, .int 0]))]) hP hD [0, 1, 9] [2, 3, 4, 5, 6, 7, 8] rfl rfl (by decide) (by decide) hk1 hFc hP1 hD1
    generalize H1 = H at hP hS ⊢
    have hP : va_P (dC, dI) vwCl [(sq, .inr (4, [.int 0, .ref tE, .int 0])), (gq, .inr (4, [.int 0, .ref tE, .int 0])), (nq, .inr (8, [.int 0, .ref tq, .ref zq, .ref wq])), (mq, .inr (11, [.int 0, .int 0, .int 0, .int 0, .ref rq, .ref sbq])), (rq, .inl (ci, 119, .inl (fun _ => 0))), (sbq, .inr (1, [.ref vq, .int 0, .int 0, .int 0])), (vq, .inl (cv, 16, .inl (fun _ => 0))), (oq, .inl (co, 1, .inr (.inl (vp_updL (fun _ => 0) (0 : Int32).toNatClampNeg 0)))), (h0, .inr (10, [.ref fq, .ref sq, .ref gq, .ref nq, .ref dq, .ref pq, .int 0, .int 0, .int 0])), (fq, .inr (4, [.int 0, .ref tE, .int 0]))] H := hP
    have hD : va_D (fun q : Nat => s.heap.size ≤ q) [(sq, .inr (4, [.int 0, .ref tE, .int 0])), (gq, .inr (4, [.int 0, .ref tE, .int 0])), (nq, .inr (8, [.int 0, .ref tq, .ref zq, .ref wq])), (mq, .inr (11, [.int 0, .int 0, .int 0, .int 0, .ref rq, .ref sbq])), (rq, .inl (ci, 119, .inl (fun _ => 0))), (sbq, .inr (1, [.ref vq, .int 0, .int 0, .int 0])), (vq, .inl (cv, 16, .inl (fun _ => 0))), (oq, .inl (co, 1, .inr (.inl (vp_updL (fun _ => 0) (0 : Int32).toNatClampNeg 0)))), (h0, .inr (10, [.ref fq, .ref sq, .ref gq, .ref nq, .ref dq, .ref pq, .int 0, .int 0, .int 0])), (fq, .inr (4, [.int 0, .ref tE, .int 0]))] := hD
    refine W.widen (k := 50) (n := 856) (by omega) (by omega) ?_
    obtain rfl : r_5 = 0 := hw
    refine lv_istore (lv' := [(5, .int 0), (4, .int 0), (3, .ref oq), (2, .ref mq), (1, .ref h0), (0, .ref b)]) hx hb dL_law_830 hl (by decide) rfl (fun ls hl => ?_)
    refine lv_aload_n hx hb dL_law_832 rfl (lv_at hl 3 rfl) ?_
    refine lv_aload_n hx hb dL_law_833 rfl (lv_at hl 5 rfl) ?_
    refine lv_iload hx hb dL_law_834 (lv_at hl 1 rfl) ?_
    refine lv_iconst (v := 1) hx hb dL_law_836 (by decide) ?_
    refine lv_iadd hx hb dL_law_837 ?_
    refine lv_topi (fun x_6 e_7 => ?_)
    obtain rfl : x_6 = 1 := e_7.trans (by decide)
    refine va_sld hx hb hX hbl hbA hS (by unfold vp_in; decide) dL_law_838 ?_
    refine lv_topi (fun x_8 e_9 => ?_)
    obtain rfl : 0 = x_8 := ey1.trans e_9.symm
    have hPc := hP.sub (ws' := [(mq, .inr (11, [.int 0, .int 0, .int 0, .int 0, .ref rq, .ref sbq]))]) [3] rfl
    have hDc := hD.sub (ws' := [(mq, .inr (11, [.int 0, .int 0, .int 0, .int 0, .ref rq, .ref sbq]))]) [3] (by decide) rfl
    have hKc := hK.sub (tys' := []) [] rfl
    have hFc := va_free (wc := [(mq, .inr (11, [.int 0, .int 0, .int 0, .int 0, .ref rq, .ref sbq]))]) hD hS hA [3] rfl
    refine va_calli (va_runV (As := [.int 0]) (rest := []) ⟨hx, hb, hml, hown, hts⟩ (c_M_count_0 l hl9 dC dI tE mq rq sbq 0 _ ) (cwV 1 hts (goodIn_app (goodIn_r _ [242, 243, 244, 58] (by rfl) (by decide +kernel)) gg_law_c_M_count_0) rfl rfl rfl (by decide +kernel) ⟨Nat.le_of_ble_eq_true rfl, Nat.le_of_ble_eq_true rfl⟩) ⟨Pre0.blind, va_recv hKc hPc (ci := 11) (q0 := 0) rfl rfl, Pre0.give hPc hKc hDc hT hS hFc⟩ rfl rfl hl.1 rfl (lv_room (Nat.le_of_ble_eq_true rfl)) dL_law_839 ⟨Nat.le_of_ble_eq_true rfl, Nat.le_of_ble_eq_true rfl⟩) hS (fun q _ h => hFc q h) hFc (fun r_10 u t H1 locs ht hvm hw hB hz1 hk1 hS => ?_)
    obtain ⟨hP1, hK1, hD1⟩ := hB
    rw [ht] at hP1
    have hK1 := va_K.moved hvm.symm hK1
    obtain ⟨hP, hD⟩ := va_join (wr := [(sq, .inr (4, [.int 0, .ref tE, .int 0])), (gq, .inr (4, [.int 0, .ref tE, .int 0])), (nq, .inr (8, [.int 0, .ref tq, .ref zq, .ref wq])), (rq, .inl (ci, 119, .inl (fun _ => 0))), (sbq, .inr (1, [.ref vq, .int 0, .int 0, .int 0])), (vq, .inl (cv, 16, .inl (fun _ => 0))), (oq, .inl (co, 1, .inr (.inl (vp_updL (fun _ => 0) (0 : Int32).toNatClampNeg 0)))), (h0, .inr (10, [.ref fq, .ref sq, .ref gq, .ref nq, .ref dq, .ref pq, .int 0, .int 0, .int 0])), (fq, .inr (4, [.int 0, .ref tE, .int 0]))]) (w1 := [(mq, .inr (11, [.int 0, .int 0, .int 0, .int 0, .ref rq, .ref sbq]))]) hP hD [3] [0, 1, 2, 4, 5, 6, 7, 8, 9] rfl rfl (by decide) (by decide) hk1 hFc hP1 hD1
    generalize H1 = H at hP hS ⊢
    have hP : va_P (dC, dI) vwCl [(sq, .inr (4, [.int 0, .ref tE, .int 0])), (gq, .inr (4, [.int 0, .ref tE, .int 0])), (nq, .inr (8, [.int 0, .ref tq, .ref zq, .ref wq])), (rq, .inl (ci, 119, .inl (fun _ => 0))), (sbq, .inr (1, [.ref vq, .int 0, .int 0, .int 0])), (vq, .inl (cv, 16, .inl (fun _ => 0))), (oq, .inl (co, 1, .inr (.inl (vp_updL (fun _ => 0) (0 : Int32).toNatClampNeg 0)))), (h0, .inr (10, [.ref fq, .ref sq, .ref gq, .ref nq, .ref dq, .ref pq, .int 0, .int 0, .int 0])), (fq, .inr (4, [.int 0, .ref tE, .int 0])), (mq, .inr (11, [.int 0, .int 0, .int 0, .int 0, .ref rq, .ref sbq]))] H := hP
    have hD : va_D (fun q : Nat => s.heap.size ≤ q) [(sq, .inr (4, [.int 0, .ref tE, .int 0])), (gq, .inr (4, [.int 0, .ref tE, .int 0])), (nq, .inr (8, [.int 0, .ref tq, .ref zq, .ref wq])), (rq, .inl (ci, 119, .inl (fun _ => 0))), (sbq, .inr (1, [.ref vq, .int 0, .int 0, .int 0])), (vq, .inl (cv, 16, .inl (fun _ => 0))), (oq, .inl (co, 1, .inr (.inl (vp_updL (fun _ => 0) (0 : Int32).toNatClampNeg 0)))), (h0, .inr (10, [.ref fq, .ref sq, .ref gq, .ref nq, .ref dq, .ref pq, .int 0, .int 0, .int 0])), (fq, .inr (4, [.int 0, .ref tE, .int 0])), (mq, .inr (11, [.int 0, .int 0, .int 0, .int 0, .ref rq, .ref sbq]))] := hD
    refine W.widen (k := 50) (n := 856) (by omega) (by omega) ?_
    obtain rfl : r_10 = 0 := hw
    refine lv_istore (lv' := [(6, .int 0), (5, .int 0), (4, .int 0), (3, .ref oq), (2, .ref mq), (1, .ref h0), (0, .ref b)]) hx hb dL_law_842 hl (by decide) rfl (fun ls hl => ?_)
    refine lv_aload_n hx hb dL_law_844 rfl (lv_at hl 4 rfl) ?_
    have hPc := hP.sub (ws' := [(mq, .inr (11, [.int 0, .int 0, .int 0, .int 0, .ref rq, .ref sbq]))]) [9] rfl
    have hDc := hD.sub (ws' := [(mq, .inr (11, [.int 0, .int 0, .int 0, .int 0, .ref rq, .ref sbq]))]) [9] (by decide) rfl
    have hKc := hK.sub (tys' := []) [] rfl
    have hFc := va_free (wc := [(mq, .inr (11, [.int 0, .int 0, .int 0, .int 0, .ref rq, .ref sbq]))]) hD hS hA [9] rfl
    refine va_calli (va_runV (As := []) (rest := []) ⟨hx, hb, hml, hown, hts⟩ (c_M_thrown l hl9 dC dI tE mq rq sbq 0 0 0 0 _ ) (cwV 0 hts (goodIn_app (goodIn_r _ [69, 70, 71, 58] (by rfl) (by decide +kernel)) gg_law_c_M_thrown) rfl rfl rfl (by decide +kernel) ⟨Nat.le_of_ble_eq_true rfl, Nat.le_of_ble_eq_true rfl⟩) ⟨Pre0.blind, va_recv hKc hPc (ci := 11) (q0 := 0) rfl rfl, Pre0.give hPc hKc hDc hT hS hFc⟩ rfl rfl hl.1 rfl (lv_room (Nat.le_of_ble_eq_true rfl)) dL_law_845 ⟨Nat.le_of_ble_eq_true rfl, Nat.le_of_ble_eq_true rfl⟩) hS (fun q _ h => hFc q h) hFc (fun r_11 u t H1 locs ht hvm hw hB hz1 hk1 hS => ?_)
    obtain ⟨hP1, hK1, hD1⟩ := hB
    rw [ht] at hP1
    have hK1 := va_K.moved hvm.symm hK1
    obtain ⟨hP, hD⟩ := va_join (wr := [(sq, .inr (4, [.int 0, .ref tE, .int 0])), (gq, .inr (4, [.int 0, .ref tE, .int 0])), (nq, .inr (8, [.int 0, .ref tq, .ref zq, .ref wq])), (rq, .inl (ci, 119, .inl (fun _ => 0))), (sbq, .inr (1, [.ref vq, .int 0, .int 0, .int 0])), (vq, .inl (cv, 16, .inl (fun _ => 0))), (oq, .inl (co, 1, .inr (.inl (vp_updL (fun _ => 0) (0 : Int32).toNatClampNeg 0)))), (h0, .inr (10, [.ref fq, .ref sq, .ref gq, .ref nq, .ref dq, .ref pq, .int 0, .int 0, .int 0])), (fq, .inr (4, [.int 0, .ref tE, .int 0]))]) (w1 := [(mq, .inr (11, [.int 0, .int 0, .int 0, .int 0, .ref rq, .ref sbq]))]) hP hD [9] [0, 1, 2, 3, 4, 5, 6, 7, 8] rfl rfl (by decide) (by decide) hk1 hFc hP1 hD1
    generalize H1 = H at hP hS ⊢
    have hP : va_P (dC, dI) vwCl [(sq, .inr (4, [.int 0, .ref tE, .int 0])), (gq, .inr (4, [.int 0, .ref tE, .int 0])), (nq, .inr (8, [.int 0, .ref tq, .ref zq, .ref wq])), (rq, .inl (ci, 119, .inl (fun _ => 0))), (sbq, .inr (1, [.ref vq, .int 0, .int 0, .int 0])), (vq, .inl (cv, 16, .inl (fun _ => 0))), (oq, .inl (co, 1, .inr (.inl (vp_updL (fun _ => 0) (0 : Int32).toNatClampNeg 0)))), (h0, .inr (10, [.ref fq, .ref sq, .ref gq, .ref nq, .ref dq, .ref pq, .int 0, .int 0, .int 0])), (fq, .inr (4, [.int 0, .ref tE, .int 0])), (mq, .inr (11, [.int 0, .int 0, .int 0, .int 0, .ref rq, .ref sbq]))] H := hP
    have hD : va_D (fun q : Nat => s.heap.size ≤ q) [(sq, .inr (4, [.int 0, .ref tE, .int 0])), (gq, .inr (4, [.int 0, .ref tE, .int 0])), (nq, .inr (8, [.int 0, .ref tq, .ref zq, .ref wq])), (rq, .inl (ci, 119, .inl (fun _ => 0))), (sbq, .inr (1, [.ref vq, .int 0, .int 0, .int 0])), (vq, .inl (cv, 16, .inl (fun _ => 0))), (oq, .inl (co, 1, .inr (.inl (vp_updL (fun _ => 0) (0 : Int32).toNatClampNeg 0)))), (h0, .inr (10, [.ref fq, .ref sq, .ref gq, .ref nq, .ref dq, .ref pq, .int 0, .int 0, .int 0])), (fq, .inr (4, [.int 0, .ref tE, .int 0])), (mq, .inr (11, [.int 0, .int 0, .int 0, .int 0, .ref rq, .ref sbq]))] := hD
    refine W.widen (k := 50) (n := 856) (by omega) (by omega) ?_
    obtain rfl : r_11 = 0 := hw
    refine lv_iload hx hb dL_law_848 (lv_at hl 1 rfl) ?_
    refine lv_icmp_eq (tgt := 855) hx hb dL_law_850 (by decide) (fun _ => ?_) (fun c_12 => absurd (by decide) c_12)
    refine lv_iload hx hb dL_law_855 (lv_at hl 1 rfl) ?_
    refine lv_if_ne (tgt := 872) hx hb dL_law_857 (by decide) (fun c_13 => absurd (by decide) c_13) (fun _ => ?_)
    refine lv_aload_n hx hb dL_law_860 rfl (lv_at hl 3 rfl) ?_
    refine lv_iconst (v := 0) hx hb dL_law_861 (by decide) ?_
    refine va_lald hx hb hK hP 6 2 rfl rfl (by unfold vp_in; decide) dL_law_862 ?_
    refine lv_topl (fun x_14 e_15 => ?_)
    obtain rfl : x_14 = 0 := e_15.trans (by simp [vp_updL])
    refine lv_iload hx hb dL_law_863 (lv_at hl 0 rfl) ?_
    refine lv_i2l (v := 0) hx hb dL_law_865 (by decide) ?_
    refine W.lcmp hx hb dL_law_866 ?_
    refine lv_topi (fun x_16 e_17 => ?_)
    obtain rfl : x_16 = 0 := e_17.trans (cmp_self _)
    refine lv_if_eq (tgt := 872) hx hb dL_law_867 (by decide) (fun _ => ?_) (fun c_18 => absurd (by decide) c_18)
    refine lv_goto (tgt := 1303) hx hb dL_law_872 (by decide) ?_
    exact law_next l C0 (by omega) (by omega) hS ls (lv_sub hl [2, 6] rfl)
  · have hPc := hP.sub (ws' := [(h0, .inr (10, [.ref fq, .ref sq, .ref gq, .ref nq, .ref dq, .ref pq, .int 0, .int 0, .int 0])), (sq, .inr (4, [.int 0, .ref tE, .int 0])), (oq, .inl (co, 1, .inr (.inl (fun _ => 0))))]) [0, 2, 9] rfl
    have hDc := hD.sub (ws' := [(h0, .inr (10, [.ref fq, .ref sq, .ref gq, .ref nq, .ref dq, .ref pq, .int 0, .int 0, .int 0])), (sq, .inr (4, [.int 0, .ref tE, .int 0])), (oq, .inl (co, 1, .inr (.inl (fun _ => 0))))]) [0, 2, 9] (by decide) rfl
    have hKc := hK.sub (tys' := [(co, .long)]) [2] rfl
    have hFc := va_free (wc := [(h0, .inr (10, [.ref fq, .ref sq, .ref gq, .ref nq, .ref dq, .ref pq, .int 0, .int 0, .int 0])), (sq, .inr (4, [.int 0, .ref tE, .int 0])), (oq, .inl (co, 1, .inr (.inl (fun _ => 0))))]) hD hS hA [0, 2, 9] rfl
    refine va_calli (vx_runSW (As := [.ref h0, .int 1, .ref oq]) (rest := []) ⟨hx, hb, hml, hown, hts⟩ (w_count_1 l hl9 dC dI tE h0 fq sq gq nq dq pq 0 oq co (fun _ => 0) _ ) (vx_cwSW 3 hts (goodIn_app (goodIn_r _ [235, 236, 52] (by rfl) (by decide +kernel)) gg_law_w_count_1) rfl rfl rfl (by decide +kernel) ⟨Nat.le_of_ble_eq_true rfl, Nat.le_of_ble_eq_true rfl⟩) ⟨Pre0.blind, Pre0.give hPc hKc hDc hT hS hFc⟩ rfl rfl hl.1 rfl (lv_room (Nat.le_of_ble_eq_true rfl)) dL_law_827 ⟨Nat.le_of_ble_eq_true rfl, Nat.le_of_ble_eq_true rfl⟩) hS (fun q _ h => hFc q h) hFc (fun r_19 u t H1 locs ht hvm hw hB hz1 hk1 hS => ?_)
    obtain ⟨hP1, hK1, hD1⟩ := hB
    rw [ht] at hP1
    have hK1 := va_K.moved hvm.symm hK1
    obtain ⟨hP, hD⟩ := va_join (wr := [(fq, .inr (4, [.int 0, .ref tE, .int 0])), (gq, .inr (4, [.int 0, .ref tE, .int 0])), (nq, .inr (8, [.int 0, .ref tq, .ref zq, .ref wq])), (mq, .inr (11, [.int 0, .int 0, .int 0, .int 0, .ref rq, .ref sbq])), (rq, .inl (ci, 119, .inl (fun _ => 0))), (sbq, .inr (1, [.ref vq, .int 0, .int 0, .int 0])), (vq, .inl (cv, 16, .inl (fun _ => 0)))]) (w1 := [(oq, .inl (co, 1, .inr (.inl (vp_updL (fun _ => 0) (0 : Int32).toNatClampNeg 0)))), (h0, .inr (10, [.ref fq, .ref sq, .ref gq, .ref nq, .ref dq, .ref pq, .int 0, .int 0, .int 0])), (sq, .inr (4, [.int 0, .ref tE, .int 0]))]) hP hD [0, 2, 9] [1, 3, 4, 5, 6, 7, 8] rfl rfl (by decide) (by decide) hk1 hFc hP1 hD1
    generalize H1 = H at hP hS ⊢
    have hP : va_P (dC, dI) vwCl [(fq, .inr (4, [.int 0, .ref tE, .int 0])), (gq, .inr (4, [.int 0, .ref tE, .int 0])), (nq, .inr (8, [.int 0, .ref tq, .ref zq, .ref wq])), (mq, .inr (11, [.int 0, .int 0, .int 0, .int 0, .ref rq, .ref sbq])), (rq, .inl (ci, 119, .inl (fun _ => 0))), (sbq, .inr (1, [.ref vq, .int 0, .int 0, .int 0])), (vq, .inl (cv, 16, .inl (fun _ => 0))), (oq, .inl (co, 1, .inr (.inl (vp_updL (fun _ => 0) (0 : Int32).toNatClampNeg 0)))), (h0, .inr (10, [.ref fq, .ref sq, .ref gq, .ref nq, .ref dq, .ref pq, .int 0, .int 0, .int 0])), (sq, .inr (4, [.int 0, .ref tE, .int 0]))] H := hP
    have hD : va_D (fun q : Nat => s.heap.size ≤ q) [(fq, .inr (4, [.int 0, .ref tE, .int 0])), (gq, .inr (4, [.int 0, .ref tE, .int 0])), (nq, .inr (8, [.int 0, .ref tq, .ref zq, .ref wq])), (mq, .inr (11, [.int 0, .int 0, .int 0, .int 0, .ref rq, .ref sbq])), (rq, .inl (ci, 119, .inl (fun _ => 0))), (sbq, .inr (1, [.ref vq, .int 0, .int 0, .int 0])), (vq, .inl (cv, 16, .inl (fun _ => 0))), (oq, .inl (co, 1, .inr (.inl (vp_updL (fun _ => 0) (0 : Int32).toNatClampNeg 0)))), (h0, .inr (10, [.ref fq, .ref sq, .ref gq, .ref nq, .ref dq, .ref pq, .int 0, .int 0, .int 0])), (sq, .inr (4, [.int 0, .ref tE, .int 0]))] := hD
    refine W.widen (k := 50) (n := 856) (by omega) (by omega) ?_
    obtain rfl : r_19 = 0 := hw
    refine lv_istore (lv' := [(5, .int 0), (4, .int 0), (3, .ref oq), (2, .ref mq), (1, .ref h0), (0, .ref b)]) hx hb dL_law_830 hl (by decide) rfl (fun ls hl => ?_)
    refine lv_aload_n hx hb dL_law_832 rfl (lv_at hl 3 rfl) ?_
    refine lv_aload_n hx hb dL_law_833 rfl (lv_at hl 5 rfl) ?_
    refine lv_iload hx hb dL_law_834 (lv_at hl 1 rfl) ?_
    refine lv_iconst (v := 1) hx hb dL_law_836 (by decide) ?_
    refine lv_iadd hx hb dL_law_837 ?_
    refine lv_topi (fun x_20 e_21 => ?_)
    obtain rfl : x_20 = 1 := e_21.trans (by decide)
    refine va_sld hx hb hX hbl hbA hS (by unfold vp_in; decide) dL_law_838 ?_
    refine lv_topi (fun x_22 e_23 => ?_)
    obtain rfl : 1 = x_22 := ey1.trans e_23.symm
    have hPc := hP.sub (ws' := [(mq, .inr (11, [.int 0, .int 0, .int 0, .int 0, .ref rq, .ref sbq]))]) [3] rfl
    have hDc := hD.sub (ws' := [(mq, .inr (11, [.int 0, .int 0, .int 0, .int 0, .ref rq, .ref sbq]))]) [3] (by decide) rfl
    have hKc := hK.sub (tys' := []) [] rfl
    have hFc := va_free (wc := [(mq, .inr (11, [.int 0, .int 0, .int 0, .int 0, .ref rq, .ref sbq]))]) hD hS hA [3] rfl
    refine va_calli (va_runV (As := [.int 1]) (rest := []) ⟨hx, hb, hml, hown, hts⟩ (c_M_count_1 l hl9 dC dI tE mq rq sbq 0 _ ) (cwV 1 hts (goodIn_app (goodIn_r _ [242, 243, 244, 58] (by rfl) (by decide +kernel)) gg_law_c_M_count_1) rfl rfl rfl (by decide +kernel) ⟨Nat.le_of_ble_eq_true rfl, Nat.le_of_ble_eq_true rfl⟩) ⟨Pre0.blind, va_recv hKc hPc (ci := 11) (q0 := 0) rfl rfl, Pre0.give hPc hKc hDc hT hS hFc⟩ rfl rfl hl.1 rfl (lv_room (Nat.le_of_ble_eq_true rfl)) dL_law_839 ⟨Nat.le_of_ble_eq_true rfl, Nat.le_of_ble_eq_true rfl⟩) hS (fun q _ h => hFc q h) hFc (fun r_24 u t H1 locs ht hvm hw hB hz1 hk1 hS => ?_)
    obtain ⟨hP1, hK1, hD1⟩ := hB
    rw [ht] at hP1
    have hK1 := va_K.moved hvm.symm hK1
    obtain ⟨hP, hD⟩ := va_join (wr := [(fq, .inr (4, [.int 0, .ref tE, .int 0])), (gq, .inr (4, [.int 0, .ref tE, .int 0])), (nq, .inr (8, [.int 0, .ref tq, .ref zq, .ref wq])), (rq, .inl (ci, 119, .inl (fun _ => 0))), (sbq, .inr (1, [.ref vq, .int 0, .int 0, .int 0])), (vq, .inl (cv, 16, .inl (fun _ => 0))), (oq, .inl (co, 1, .inr (.inl (vp_updL (fun _ => 0) (0 : Int32).toNatClampNeg 0)))), (h0, .inr (10, [.ref fq, .ref sq, .ref gq, .ref nq, .ref dq, .ref pq, .int 0, .int 0, .int 0])), (sq, .inr (4, [.int 0, .ref tE, .int 0]))]) (w1 := [(mq, .inr (11, [.int 0, .int 0, .int 0, .int 0, .ref rq, .ref sbq]))]) hP hD [3] [0, 1, 2, 4, 5, 6, 7, 8, 9] rfl rfl (by decide) (by decide) hk1 hFc hP1 hD1
    generalize H1 = H at hP hS ⊢
    have hP : va_P (dC, dI) vwCl [(fq, .inr (4, [.int 0, .ref tE, .int 0])), (gq, .inr (4, [.int 0, .ref tE, .int 0])), (nq, .inr (8, [.int 0, .ref tq, .ref zq, .ref wq])), (rq, .inl (ci, 119, .inl (fun _ => 0))), (sbq, .inr (1, [.ref vq, .int 0, .int 0, .int 0])), (vq, .inl (cv, 16, .inl (fun _ => 0))), (oq, .inl (co, 1, .inr (.inl (vp_updL (fun _ => 0) (0 : Int32).toNatClampNeg 0)))), (h0, .inr (10, [.ref fq, .ref sq, .ref gq, .ref nq, .ref dq, .ref pq, .int 0, .int 0, .int 0])), (sq, .inr (4, [.int 0, .ref tE, .int 0])), (mq, .inr (11, [.int 0, .int 0, .int 0, .int 0, .ref rq, .ref sbq]))] H := hP
    have hD : va_D (fun q : Nat => s.heap.size ≤ q) [(fq, .inr (4, [.int 0, .ref tE, .int 0])), (gq, .inr (4, [.int 0, .ref tE, .int 0])), (nq, .inr (8, [.int 0, .ref tq, .ref zq, .ref wq])), (rq, .inl (ci, 119, .inl (fun _ => 0))), (sbq, .inr (1, [.ref vq, .int 0, .int 0, .int 0])), (vq, .inl (cv, 16, .inl (fun _ => 0))), (oq, .inl (co, 1, .inr (.inl (vp_updL (fun _ => 0) (0 : Int32).toNatClampNeg 0)))), (h0, .inr (10, [.ref fq, .ref sq, .ref gq, .ref nq, .ref dq, .ref pq, .int 0, .int 0, .int 0])), (sq, .inr (4, [.int 0, .ref tE, .int 0])), (mq, .inr (11, [.int 0, .int 0, .int 0, .int 0, .ref rq, .ref sbq]))] := hD
    refine W.widen (k := 50) (n := 856) (by omega) (by omega) ?_
    obtain rfl : r_24 = 0 := hw
    refine lv_istore (lv' := [(6, .int 0), (5, .int 0), (4, .int 0), (3, .ref oq), (2, .ref mq), (1, .ref h0), (0, .ref b)]) hx hb dL_law_842 hl (by decide) rfl (fun ls hl => ?_)
    refine lv_aload_n hx hb dL_law_844 rfl (lv_at hl 4 rfl) ?_
    have hPc := hP.sub (ws' := [(mq, .inr (11, [.int 0, .int 0, .int 0, .int 0, .ref rq, .ref sbq]))]) [9] rfl
    have hDc := hD.sub (ws' := [(mq, .inr (11, [.int 0, .int 0, .int 0, .int 0, .ref rq, .ref sbq]))]) [9] (by decide) rfl
    have hKc := hK.sub (tys' := []) [] rfl
    have hFc := va_free (wc := [(mq, .inr (11, [.int 0, .int 0, .int 0, .int 0, .ref rq, .ref sbq]))]) hD hS hA [9] rfl
    refine va_calli (va_runV (As := []) (rest := []) ⟨hx, hb, hml, hown, hts⟩ (c_M_thrown l hl9 dC dI tE mq rq sbq 0 0 0 0 _ ) (cwV 0 hts (goodIn_app (goodIn_r _ [69, 70, 71, 58] (by rfl) (by decide +kernel)) gg_law_c_M_thrown) rfl rfl rfl (by decide +kernel) ⟨Nat.le_of_ble_eq_true rfl, Nat.le_of_ble_eq_true rfl⟩) ⟨Pre0.blind, va_recv hKc hPc (ci := 11) (q0 := 0) rfl rfl, Pre0.give hPc hKc hDc hT hS hFc⟩ rfl rfl hl.1 rfl (lv_room (Nat.le_of_ble_eq_true rfl)) dL_law_845 ⟨Nat.le_of_ble_eq_true rfl, Nat.le_of_ble_eq_true rfl⟩) hS (fun q _ h => hFc q h) hFc (fun r_25 u t H1 locs ht hvm hw hB hz1 hk1 hS => ?_)
    obtain ⟨hP1, hK1, hD1⟩ := hB
    rw [ht] at hP1
    have hK1 := va_K.moved hvm.symm hK1
    obtain ⟨hP, hD⟩ := va_join (wr := [(fq, .inr (4, [.int 0, .ref tE, .int 0])), (gq, .inr (4, [.int 0, .ref tE, .int 0])), (nq, .inr (8, [.int 0, .ref tq, .ref zq, .ref wq])), (rq, .inl (ci, 119, .inl (fun _ => 0))), (sbq, .inr (1, [.ref vq, .int 0, .int 0, .int 0])), (vq, .inl (cv, 16, .inl (fun _ => 0))), (oq, .inl (co, 1, .inr (.inl (vp_updL (fun _ => 0) (0 : Int32).toNatClampNeg 0)))), (h0, .inr (10, [.ref fq, .ref sq, .ref gq, .ref nq, .ref dq, .ref pq, .int 0, .int 0, .int 0])), (sq, .inr (4, [.int 0, .ref tE, .int 0]))]) (w1 := [(mq, .inr (11, [.int 0, .int 0, .int 0, .int 0, .ref rq, .ref sbq]))]) hP hD [9] [0, 1, 2, 3, 4, 5, 6, 7, 8] rfl rfl (by decide) (by decide) hk1 hFc hP1 hD1
    generalize H1 = H at hP hS ⊢
    have hP : va_P (dC, dI) vwCl [(fq, .inr (4, [.int 0, .ref tE, .int 0])), (gq, .inr (4, [.int 0, .ref tE, .int 0])), (nq, .inr (8, [.int 0, .ref tq, .ref zq, .ref wq])), (rq, .inl (ci, 119, .inl (fun _ => 0))), (sbq, .inr (1, [.ref vq, .int 0, .int 0, .int 0])), (vq, .inl (cv, 16, .inl (fun _ => 0))), (oq, .inl (co, 1, .inr (.inl (vp_updL (fun _ => 0) (0 : Int32).toNatClampNeg 0)))), (h0, .inr (10, [.ref fq, .ref sq, .ref gq, .ref nq, .ref dq, .ref pq, .int 0, .int 0, .int 0])), (sq, .inr (4, [.int 0, .ref tE, .int 0])), (mq, .inr (11, [.int 0, .int 0, .int 0, .int 0, .ref rq, .ref sbq]))] H := hP
    have hD : va_D (fun q : Nat => s.heap.size ≤ q) [(fq, .inr (4, [.int 0, .ref tE, .int 0])), (gq, .inr (4, [.int 0, .ref tE, .int 0])), (nq, .inr (8, [.int 0, .ref tq, .ref zq, .ref wq])), (rq, .inl (ci, 119, .inl (fun _ => 0))), (sbq, .inr (1, [.ref vq, .int 0, .int 0, .int 0])), (vq, .inl (cv, 16, .inl (fun _ => 0))), (oq, .inl (co, 1, .inr (.inl (vp_updL (fun _ => 0) (0 : Int32).toNatClampNeg 0)))), (h0, .inr (10, [.ref fq, .ref sq, .ref gq, .ref nq, .ref dq, .ref pq, .int 0, .int 0, .int 0])), (sq, .inr (4, [.int 0, .ref tE, .int 0])), (mq, .inr (11, [.int 0, .int 0, .int 0, .int 0, .ref rq, .ref sbq]))] := hD
    refine W.widen (k := 50) (n := 856) (by omega) (by omega) ?_
    obtain rfl : r_25 = 0 := hw
    refine lv_iload hx hb dL_law_848 (lv_at hl 1 rfl) ?_
    refine lv_icmp_eq (tgt := 855) hx hb dL_law_850 (by decide) (fun _ => ?_) (fun c_26 => absurd (by decide) c_26)
    refine lv_iload hx hb dL_law_855 (lv_at hl 1 rfl) ?_
    refine lv_if_ne (tgt := 872) hx hb dL_law_857 (by decide) (fun c_27 => absurd (by decide) c_27) (fun _ => ?_)
    refine lv_aload_n hx hb dL_law_860 rfl (lv_at hl 3 rfl) ?_
    refine lv_iconst (v := 0) hx hb dL_law_861 (by decide) ?_
    refine va_lald hx hb hK hP 6 2 rfl rfl (by unfold vp_in; decide) dL_law_862 ?_
    refine lv_topl (fun x_28 e_29 => ?_)
    obtain rfl : x_28 = 0 := e_29.trans (by simp [vp_updL])
    refine lv_iload hx hb dL_law_863 (lv_at hl 0 rfl) ?_
    refine lv_i2l (v := 0) hx hb dL_law_865 (by decide) ?_
    refine W.lcmp hx hb dL_law_866 ?_
    refine lv_topi (fun x_30 e_31 => ?_)
    obtain rfl : x_30 = 0 := e_31.trans (cmp_self _)
    refine lv_if_eq (tgt := 872) hx hb dL_law_867 (by decide) (fun _ => ?_) (fun c_32 => absurd (by decide) c_32)
    refine lv_goto (tgt := 1303) hx hb dL_law_872 (by decide) ?_
    exact law_next l C0 (by omega) (by omega) hS ls (lv_sub hl [2, 6] rfl)
  · have hPc := hP.sub (ws' := [(h0, .inr (10, [.ref fq, .ref sq, .ref gq, .ref nq, .ref dq, .ref pq, .int 0, .int 0, .int 0])), (gq, .inr (4, [.int 0, .ref tE, .int 0])), (oq, .inl (co, 1, .inr (.inl (fun _ => 0))))]) [0, 3, 9] rfl
    have hDc := hD.sub (ws' := [(h0, .inr (10, [.ref fq, .ref sq, .ref gq, .ref nq, .ref dq, .ref pq, .int 0, .int 0, .int 0])), (gq, .inr (4, [.int 0, .ref tE, .int 0])), (oq, .inl (co, 1, .inr (.inl (fun _ => 0))))]) [0, 3, 9] (by decide) rfl
    have hKc := hK.sub (tys' := [(co, .long)]) [2] rfl
    have hFc := va_free (wc := [(h0, .inr (10, [.ref fq, .ref sq, .ref gq, .ref nq, .ref dq, .ref pq, .int 0, .int 0, .int 0])), (gq, .inr (4, [.int 0, .ref tE, .int 0])), (oq, .inl (co, 1, .inr (.inl (fun _ => 0))))]) hD hS hA [0, 3, 9] rfl
    refine va_calli (vx_runSW (As := [.ref h0, .int 2, .ref oq]) (rest := []) ⟨hx, hb, hml, hown, hts⟩ (w_count_2 l hl9 dC dI tE h0 fq sq gq nq dq pq 0 oq co (fun _ => 0) _ ) (vx_cwSW 3 hts (goodIn_app (goodIn_r _ [235, 236, 52] (by rfl) (by decide +kernel)) gg_law_w_count_2) rfl rfl rfl (by decide +kernel) ⟨Nat.le_of_ble_eq_true rfl, Nat.le_of_ble_eq_true rfl⟩) ⟨Pre0.blind, Pre0.give hPc hKc hDc hT hS hFc⟩ rfl rfl hl.1 rfl (lv_room (Nat.le_of_ble_eq_true rfl)) dL_law_827 ⟨Nat.le_of_ble_eq_true rfl, Nat.le_of_ble_eq_true rfl⟩) hS (fun q _ h => hFc q h) hFc (fun r_33 u t H1 locs ht hvm hw hB hz1 hk1 hS => ?_)
    obtain ⟨hP1, hK1, hD1⟩ := hB
    rw [ht] at hP1
    have hK1 := va_K.moved hvm.symm hK1
    obtain ⟨hP, hD⟩ := va_join (wr := [(fq, .inr (4, [.int 0, .ref tE, .int 0])), (sq, .inr (4, [.int 0, .ref tE, .int 0])), (nq, .inr (8, [.int 0, .ref tq, .ref zq, .ref wq])), (mq, .inr (11, [.int 0, .int 0, .int 0, .int 0, .ref rq, .ref sbq])), (rq, .inl (ci, 119, .inl (fun _ => 0))), (sbq, .inr (1, [.ref vq, .int 0, .int 0, .int 0])), (vq, .inl (cv, 16, .inl (fun _ => 0)))]) (w1 := [(oq, .inl (co, 1, .inr (.inl (vp_updL (fun _ => 0) (0 : Int32).toNatClampNeg 0)))), (h0, .inr (10, [.ref fq, .ref sq, .ref gq, .ref nq, .ref dq, .ref pq, .int 0, .int 0, .int 0])), (gq, .inr (4, [.int 0, .ref tE, .int 0]))]) hP hD [0, 3, 9] [1, 2, 4, 5, 6, 7, 8] rfl rfl (by decide) (by decide) hk1 hFc hP1 hD1
    generalize H1 = H at hP hS ⊢
    have hP : va_P (dC, dI) vwCl [(fq, .inr (4, [.int 0, .ref tE, .int 0])), (sq, .inr (4, [.int 0, .ref tE, .int 0])), (nq, .inr (8, [.int 0, .ref tq, .ref zq, .ref wq])), (mq, .inr (11, [.int 0, .int 0, .int 0, .int 0, .ref rq, .ref sbq])), (rq, .inl (ci, 119, .inl (fun _ => 0))), (sbq, .inr (1, [.ref vq, .int 0, .int 0, .int 0])), (vq, .inl (cv, 16, .inl (fun _ => 0))), (oq, .inl (co, 1, .inr (.inl (vp_updL (fun _ => 0) (0 : Int32).toNatClampNeg 0)))), (h0, .inr (10, [.ref fq, .ref sq, .ref gq, .ref nq, .ref dq, .ref pq, .int 0, .int 0, .int 0])), (gq, .inr (4, [.int 0, .ref tE, .int 0]))] H := hP
    have hD : va_D (fun q : Nat => s.heap.size ≤ q) [(fq, .inr (4, [.int 0, .ref tE, .int 0])), (sq, .inr (4, [.int 0, .ref tE, .int 0])), (nq, .inr (8, [.int 0, .ref tq, .ref zq, .ref wq])), (mq, .inr (11, [.int 0, .int 0, .int 0, .int 0, .ref rq, .ref sbq])), (rq, .inl (ci, 119, .inl (fun _ => 0))), (sbq, .inr (1, [.ref vq, .int 0, .int 0, .int 0])), (vq, .inl (cv, 16, .inl (fun _ => 0))), (oq, .inl (co, 1, .inr (.inl (vp_updL (fun _ => 0) (0 : Int32).toNatClampNeg 0)))), (h0, .inr (10, [.ref fq, .ref sq, .ref gq, .ref nq, .ref dq, .ref pq, .int 0, .int 0, .int 0])), (gq, .inr (4, [.int 0, .ref tE, .int 0]))] := hD
    refine W.widen (k := 50) (n := 856) (by omega) (by omega) ?_
    obtain rfl : r_33 = 0 := hw
    refine lv_istore (lv' := [(5, .int 0), (4, .int 0), (3, .ref oq), (2, .ref mq), (1, .ref h0), (0, .ref b)]) hx hb dL_law_830 hl (by decide) rfl (fun ls hl => ?_)
    refine lv_aload_n hx hb dL_law_832 rfl (lv_at hl 3 rfl) ?_
    refine lv_aload_n hx hb dL_law_833 rfl (lv_at hl 5 rfl) ?_
    refine lv_iload hx hb dL_law_834 (lv_at hl 1 rfl) ?_
    refine lv_iconst (v := 1) hx hb dL_law_836 (by decide) ?_
    refine lv_iadd hx hb dL_law_837 ?_
    refine lv_topi (fun x_34 e_35 => ?_)
    obtain rfl : x_34 = 1 := e_35.trans (by decide)
    refine va_sld hx hb hX hbl hbA hS (by unfold vp_in; decide) dL_law_838 ?_
    refine lv_topi (fun x_36 e_37 => ?_)
    obtain rfl : 2 = x_36 := ey1.trans e_37.symm
    have hPc := hP.sub (ws' := [(mq, .inr (11, [.int 0, .int 0, .int 0, .int 0, .ref rq, .ref sbq]))]) [3] rfl
    have hDc := hD.sub (ws' := [(mq, .inr (11, [.int 0, .int 0, .int 0, .int 0, .ref rq, .ref sbq]))]) [3] (by decide) rfl
    have hKc := hK.sub (tys' := []) [] rfl
    have hFc := va_free (wc := [(mq, .inr (11, [.int 0, .int 0, .int 0, .int 0, .ref rq, .ref sbq]))]) hD hS hA [3] rfl
    refine va_calli (va_runV (As := [.int 2]) (rest := []) ⟨hx, hb, hml, hown, hts⟩ (c_M_count_2 l hl9 dC dI tE mq rq sbq 0 _ ) (cwV 1 hts (goodIn_app (goodIn_r _ [242, 243, 244, 58] (by rfl) (by decide +kernel)) gg_law_c_M_count_2) rfl rfl rfl (by decide +kernel) ⟨Nat.le_of_ble_eq_true rfl, Nat.le_of_ble_eq_true rfl⟩) ⟨Pre0.blind, va_recv hKc hPc (ci := 11) (q0 := 0) rfl rfl, Pre0.give hPc hKc hDc hT hS hFc⟩ rfl rfl hl.1 rfl (lv_room (Nat.le_of_ble_eq_true rfl)) dL_law_839 ⟨Nat.le_of_ble_eq_true rfl, Nat.le_of_ble_eq_true rfl⟩) hS (fun q _ h => hFc q h) hFc (fun r_38 u t H1 locs ht hvm hw hB hz1 hk1 hS => ?_)
    obtain ⟨hP1, hK1, hD1⟩ := hB
    rw [ht] at hP1
    have hK1 := va_K.moved hvm.symm hK1
    obtain ⟨hP, hD⟩ := va_join (wr := [(fq, .inr (4, [.int 0, .ref tE, .int 0])), (sq, .inr (4, [.int 0, .ref tE, .int 0])), (nq, .inr (8, [.int 0, .ref tq, .ref zq, .ref wq])), (rq, .inl (ci, 119, .inl (fun _ => 0))), (sbq, .inr (1, [.ref vq, .int 0, .int 0, .int 0])), (vq, .inl (cv, 16, .inl (fun _ => 0))), (oq, .inl (co, 1, .inr (.inl (vp_updL (fun _ => 0) (0 : Int32).toNatClampNeg 0)))), (h0, .inr (10, [.ref fq, .ref sq, .ref gq, .ref nq, .ref dq, .ref pq, .int 0, .int 0, .int 0])), (gq, .inr (4, [.int 0, .ref tE, .int 0]))]) (w1 := [(mq, .inr (11, [.int 0, .int 0, .int 0, .int 0, .ref rq, .ref sbq]))]) hP hD [3] [0, 1, 2, 4, 5, 6, 7, 8, 9] rfl rfl (by decide) (by decide) hk1 hFc hP1 hD1
    generalize H1 = H at hP hS ⊢
    have hP : va_P (dC, dI) vwCl [(fq, .inr (4, [.int 0, .ref tE, .int 0])), (sq, .inr (4, [.int 0, .ref tE, .int 0])), (nq, .inr (8, [.int 0, .ref tq, .ref zq, .ref wq])), (rq, .inl (ci, 119, .inl (fun _ => 0))), (sbq, .inr (1, [.ref vq, .int 0, .int 0, .int 0])), (vq, .inl (cv, 16, .inl (fun _ => 0))), (oq, .inl (co, 1, .inr (.inl (vp_updL (fun _ => 0) (0 : Int32).toNatClampNeg 0)))), (h0, .inr (10, [.ref fq, .ref sq, .ref gq, .ref nq, .ref dq, .ref pq, .int 0, .int 0, .int 0])), (gq, .inr (4, [.int 0, .ref tE, .int 0])), (mq, .inr (11, [.int 0, .int 0, .int 0, .int 0, .ref rq, .ref sbq]))] H := hP
    have hD : va_D (fun q : Nat => s.heap.size ≤ q) [(fq, .inr (4, [.int 0, .ref tE, .int 0])), (sq, .inr (4, [.int 0, .ref tE, .int 0])), (nq, .inr (8, [.int 0, .ref tq, .ref zq, .ref wq])), (rq, .inl (ci, 119, .inl (fun _ => 0))), (sbq, .inr (1, [.ref vq, .int 0, .int 0, .int 0])), (vq, .inl (cv, 16, .inl (fun _ => 0))), (oq, .inl (co, 1, .inr (.inl (vp_updL (fun _ => 0) (0 : Int32).toNatClampNeg 0)))), (h0, .inr (10, [.ref fq, .ref sq, .ref gq, .ref nq, .ref dq, .ref pq, .int 0, .int 0, .int 0])), (gq, .inr (4, [.int 0, .ref tE, .int 0])), (mq, .inr (11, [.int 0, .int 0, .int 0, .int 0, .ref rq, .ref sbq]))] := hD
    refine W.widen (k := 50) (n := 856) (by omega) (by omega) ?_
    obtain rfl : r_38 = 0 := hw
    refine lv_istore (lv' := [(6, .int 0), (5, .int 0), (4, .int 0), (3, .ref oq), (2, .ref mq), (1, .ref h0), (0, .ref b)]) hx hb dL_law_842 hl (by decide) rfl (fun ls hl => ?_)
    refine lv_aload_n hx hb dL_law_844 rfl (lv_at hl 4 rfl) ?_
    have hPc := hP.sub (ws' := [(mq, .inr (11, [.int 0, .int 0, .int 0, .int 0, .ref rq, .ref sbq]))]) [9] rfl
    have hDc := hD.sub (ws' := [(mq, .inr (11, [.int 0, .int 0, .int 0, .int 0, .ref rq, .ref sbq]))]) [9] (by decide) rfl
    have hKc := hK.sub (tys' := []) [] rfl
    have hFc := va_free (wc := [(mq, .inr (11, [.int 0, .int 0, .int 0, .int 0, .ref rq, .ref sbq]))]) hD hS hA [9] rfl
    refine va_calli (va_runV (As := []) (rest := []) ⟨hx, hb, hml, hown, hts⟩ (c_M_thrown l hl9 dC dI tE mq rq sbq 0 0 0 0 _ ) (cwV 0 hts (goodIn_app (goodIn_r _ [69, 70, 71, 58] (by rfl) (by decide +kernel)) gg_law_c_M_thrown) rfl rfl rfl (by decide +kernel) ⟨Nat.le_of_ble_eq_true rfl, Nat.le_of_ble_eq_true rfl⟩) ⟨Pre0.blind, va_recv hKc hPc (ci := 11) (q0 := 0) rfl rfl, Pre0.give hPc hKc hDc hT hS hFc⟩ rfl rfl hl.1 rfl (lv_room (Nat.le_of_ble_eq_true rfl)) dL_law_845 ⟨Nat.le_of_ble_eq_true rfl, Nat.le_of_ble_eq_true rfl⟩) hS (fun q _ h => hFc q h) hFc (fun r_39 u t H1 locs ht hvm hw hB hz1 hk1 hS => ?_)
    obtain ⟨hP1, hK1, hD1⟩ := hB
    rw [ht] at hP1
    have hK1 := va_K.moved hvm.symm hK1
    obtain ⟨hP, hD⟩ := va_join (wr := [(fq, .inr (4, [.int 0, .ref tE, .int 0])), (sq, .inr (4, [.int 0, .ref tE, .int 0])), (nq, .inr (8, [.int 0, .ref tq, .ref zq, .ref wq])), (rq, .inl (ci, 119, .inl (fun _ => 0))), (sbq, .inr (1, [.ref vq, .int 0, .int 0, .int 0])), (vq, .inl (cv, 16, .inl (fun _ => 0))), (oq, .inl (co, 1, .inr (.inl (vp_updL (fun _ => 0) (0 : Int32).toNatClampNeg 0)))), (h0, .inr (10, [.ref fq, .ref sq, .ref gq, .ref nq, .ref dq, .ref pq, .int 0, .int 0, .int 0])), (gq, .inr (4, [.int 0, .ref tE, .int 0]))]) (w1 := [(mq, .inr (11, [.int 0, .int 0, .int 0, .int 0, .ref rq, .ref sbq]))]) hP hD [9] [0, 1, 2, 3, 4, 5, 6, 7, 8] rfl rfl (by decide) (by decide) hk1 hFc hP1 hD1
    generalize H1 = H at hP hS ⊢
    have hP : va_P (dC, dI) vwCl [(fq, .inr (4, [.int 0, .ref tE, .int 0])), (sq, .inr (4, [.int 0, .ref tE, .int 0])), (nq, .inr (8, [.int 0, .ref tq, .ref zq, .ref wq])), (rq, .inl (ci, 119, .inl (fun _ => 0))), (sbq, .inr (1, [.ref vq, .int 0, .int 0, .int 0])), (vq, .inl (cv, 16, .inl (fun _ => 0))), (oq, .inl (co, 1, .inr (.inl (vp_updL (fun _ => 0) (0 : Int32).toNatClampNeg 0)))), (h0, .inr (10, [.ref fq, .ref sq, .ref gq, .ref nq, .ref dq, .ref pq, .int 0, .int 0, .int 0])), (gq, .inr (4, [.int 0, .ref tE, .int 0])), (mq, .inr (11, [.int 0, .int 0, .int 0, .int 0, .ref rq, .ref sbq]))] H := hP
    have hD : va_D (fun q : Nat => s.heap.size ≤ q) [(fq, .inr (4, [.int 0, .ref tE, .int 0])), (sq, .inr (4, [.int 0, .ref tE, .int 0])), (nq, .inr (8, [.int 0, .ref tq, .ref zq, .ref wq])), (rq, .inl (ci, 119, .inl (fun _ => 0))), (sbq, .inr (1, [.ref vq, .int 0, .int 0, .int 0])), (vq, .inl (cv, 16, .inl (fun _ => 0))), (oq, .inl (co, 1, .inr (.inl (vp_updL (fun _ => 0) (0 : Int32).toNatClampNeg 0)))), (h0, .inr (10, [.ref fq, .ref sq, .ref gq, .ref nq, .ref dq, .ref pq, .int 0, .int 0, .int 0])), (gq, .inr (4, [.int 0, .ref tE, .int 0])), (mq, .inr (11, [.int 0, .int 0, .int 0, .int 0, .ref rq, .ref sbq]))] := hD
    refine W.widen (k := 50) (n := 856) (by omega) (by omega) ?_
    obtain rfl : r_39 = 0 := hw
    refine lv_iload hx hb dL_law_848 (lv_at hl 1 rfl) ?_
    refine lv_icmp_eq (tgt := 855) hx hb dL_law_850 (by decide) (fun _ => ?_) (fun c_40 => absurd (by decide) c_40)
    refine lv_iload hx hb dL_law_855 (lv_at hl 1 rfl) ?_
    refine lv_if_ne (tgt := 872) hx hb dL_law_857 (by decide) (fun c_41 => absurd (by decide) c_41) (fun _ => ?_)
    refine lv_aload_n hx hb dL_law_860 rfl (lv_at hl 3 rfl) ?_
    refine lv_iconst (v := 0) hx hb dL_law_861 (by decide) ?_
    refine va_lald hx hb hK hP 6 2 rfl rfl (by unfold vp_in; decide) dL_law_862 ?_
    refine lv_topl (fun x_42 e_43 => ?_)
    obtain rfl : x_42 = 0 := e_43.trans (by simp [vp_updL])
    refine lv_iload hx hb dL_law_863 (lv_at hl 0 rfl) ?_
    refine lv_i2l (v := 0) hx hb dL_law_865 (by decide) ?_
    refine W.lcmp hx hb dL_law_866 ?_
    refine lv_topi (fun x_44 e_45 => ?_)
    obtain rfl : x_44 = 0 := e_45.trans (cmp_self _)
    refine lv_if_eq (tgt := 872) hx hb dL_law_867 (by decide) (fun _ => ?_) (fun c_46 => absurd (by decide) c_46)
    refine lv_goto (tgt := 1303) hx hb dL_law_872 (by decide) ?_
    exact law_next l C0 (by omega) (by omega) hS ls (lv_sub hl [2, 6] rfl)
  · have hPc := hP.sub (ws' := [(h0, .inr (10, [.ref fq, .ref sq, .ref gq, .ref nq, .ref dq, .ref pq, .int 0, .int 0, .int 0])), (gq, .inr (4, [.int 0, .ref tE, .int 0])), (oq, .inl (co, 1, .inr (.inl (fun _ => 0))))]) [0, 3, 9] rfl
    have hDc := hD.sub (ws' := [(h0, .inr (10, [.ref fq, .ref sq, .ref gq, .ref nq, .ref dq, .ref pq, .int 0, .int 0, .int 0])), (gq, .inr (4, [.int 0, .ref tE, .int 0])), (oq, .inl (co, 1, .inr (.inl (fun _ => 0))))]) [0, 3, 9] (by decide) rfl
    have hKc := hK.sub (tys' := [(co, .long)]) [2] rfl
    have hFc := va_free (wc := [(h0, .inr (10, [.ref fq, .ref sq, .ref gq, .ref nq, .ref dq, .ref pq, .int 0, .int 0, .int 0])), (gq, .inr (4, [.int 0, .ref tE, .int 0])), (oq, .inl (co, 1, .inr (.inl (fun _ => 0))))]) hD hS hA [0, 3, 9] rfl
    refine va_calli (vx_runSW (As := [.ref h0, .int 3, .ref oq]) (rest := []) ⟨hx, hb, hml, hown, hts⟩ (w_count_3 l hl9 dC dI tE h0 fq sq gq nq dq pq 0 oq co (fun _ => 0) _ ) (vx_cwSW 3 hts (goodIn_app (goodIn_r _ [235, 236, 52] (by rfl) (by decide +kernel)) gg_law_w_count_3) rfl rfl rfl (by decide +kernel) ⟨Nat.le_of_ble_eq_true rfl, Nat.le_of_ble_eq_true rfl⟩) ⟨Pre0.blind, Pre0.give hPc hKc hDc hT hS hFc⟩ rfl rfl hl.1 rfl (lv_room (Nat.le_of_ble_eq_true rfl)) dL_law_827 ⟨Nat.le_of_ble_eq_true rfl, Nat.le_of_ble_eq_true rfl⟩) hS (fun q _ h => hFc q h) hFc (fun r_47 u t H1 locs ht hvm hw hB hz1 hk1 hS => ?_)
    obtain ⟨hP1, hK1, hD1⟩ := hB
    rw [ht] at hP1
    have hK1 := va_K.moved hvm.symm hK1
    obtain ⟨hP, hD⟩ := va_join (wr := [(fq, .inr (4, [.int 0, .ref tE, .int 0])), (sq, .inr (4, [.int 0, .ref tE, .int 0])), (nq, .inr (8, [.int 0, .ref tq, .ref zq, .ref wq])), (mq, .inr (11, [.int 0, .int 0, .int 0, .int 0, .ref rq, .ref sbq])), (rq, .inl (ci, 119, .inl (fun _ => 0))), (sbq, .inr (1, [.ref vq, .int 0, .int 0, .int 0])), (vq, .inl (cv, 16, .inl (fun _ => 0)))]) (w1 := [(oq, .inl (co, 1, .inr (.inl (vp_updL (fun _ => 0) (0 : Int32).toNatClampNeg 0)))), (h0, .inr (10, [.ref fq, .ref sq, .ref gq, .ref nq, .ref dq, .ref pq, .int 0, .int 0, .int 0])), (gq, .inr (4, [.int 0, .ref tE, .int 0]))]) hP hD [0, 3, 9] [1, 2, 4, 5, 6, 7, 8] rfl rfl (by decide) (by decide) hk1 hFc hP1 hD1
    generalize H1 = H at hP hS ⊢
    have hP : va_P (dC, dI) vwCl [(fq, .inr (4, [.int 0, .ref tE, .int 0])), (sq, .inr (4, [.int 0, .ref tE, .int 0])), (nq, .inr (8, [.int 0, .ref tq, .ref zq, .ref wq])), (mq, .inr (11, [.int 0, .int 0, .int 0, .int 0, .ref rq, .ref sbq])), (rq, .inl (ci, 119, .inl (fun _ => 0))), (sbq, .inr (1, [.ref vq, .int 0, .int 0, .int 0])), (vq, .inl (cv, 16, .inl (fun _ => 0))), (oq, .inl (co, 1, .inr (.inl (vp_updL (fun _ => 0) (0 : Int32).toNatClampNeg 0)))), (h0, .inr (10, [.ref fq, .ref sq, .ref gq, .ref nq, .ref dq, .ref pq, .int 0, .int 0, .int 0])), (gq, .inr (4, [.int 0, .ref tE, .int 0]))] H := hP
    have hD : va_D (fun q : Nat => s.heap.size ≤ q) [(fq, .inr (4, [.int 0, .ref tE, .int 0])), (sq, .inr (4, [.int 0, .ref tE, .int 0])), (nq, .inr (8, [.int 0, .ref tq, .ref zq, .ref wq])), (mq, .inr (11, [.int 0, .int 0, .int 0, .int 0, .ref rq, .ref sbq])), (rq, .inl (ci, 119, .inl (fun _ => 0))), (sbq, .inr (1, [.ref vq, .int 0, .int 0, .int 0])), (vq, .inl (cv, 16, .inl (fun _ => 0))), (oq, .inl (co, 1, .inr (.inl (vp_updL (fun _ => 0) (0 : Int32).toNatClampNeg 0)))), (h0, .inr (10, [.ref fq, .ref sq, .ref gq, .ref nq, .ref dq, .ref pq, .int 0, .int 0, .int 0])), (gq, .inr (4, [.int 0, .ref tE, .int 0]))] := hD
    refine W.widen (k := 50) (n := 856) (by omega) (by omega) ?_
    obtain rfl : r_47 = 0 := hw
    refine lv_istore (lv' := [(5, .int 0), (4, .int 0), (3, .ref oq), (2, .ref mq), (1, .ref h0), (0, .ref b)]) hx hb dL_law_830 hl (by decide) rfl (fun ls hl => ?_)
    refine lv_aload_n hx hb dL_law_832 rfl (lv_at hl 3 rfl) ?_
    refine lv_aload_n hx hb dL_law_833 rfl (lv_at hl 5 rfl) ?_
    refine lv_iload hx hb dL_law_834 (lv_at hl 1 rfl) ?_
    refine lv_iconst (v := 1) hx hb dL_law_836 (by decide) ?_
    refine lv_iadd hx hb dL_law_837 ?_
    refine lv_topi (fun x_48 e_49 => ?_)
    obtain rfl : x_48 = 1 := e_49.trans (by decide)
    refine va_sld hx hb hX hbl hbA hS (by unfold vp_in; decide) dL_law_838 ?_
    refine lv_topi (fun x_50 e_51 => ?_)
    obtain rfl : 3 = x_50 := ey1.trans e_51.symm
    have hPc := hP.sub (ws' := [(mq, .inr (11, [.int 0, .int 0, .int 0, .int 0, .ref rq, .ref sbq]))]) [3] rfl
    have hDc := hD.sub (ws' := [(mq, .inr (11, [.int 0, .int 0, .int 0, .int 0, .ref rq, .ref sbq]))]) [3] (by decide) rfl
    have hKc := hK.sub (tys' := []) [] rfl
    have hFc := va_free (wc := [(mq, .inr (11, [.int 0, .int 0, .int 0, .int 0, .ref rq, .ref sbq]))]) hD hS hA [3] rfl
    refine va_calli (va_runV (As := [.int 3]) (rest := []) ⟨hx, hb, hml, hown, hts⟩ (c_M_count_3 l hl9 dC dI tE mq rq sbq 0 _ ) (cwV 1 hts (goodIn_app (goodIn_r _ [242, 243, 244, 58] (by rfl) (by decide +kernel)) gg_law_c_M_count_3) rfl rfl rfl (by decide +kernel) ⟨Nat.le_of_ble_eq_true rfl, Nat.le_of_ble_eq_true rfl⟩) ⟨Pre0.blind, va_recv hKc hPc (ci := 11) (q0 := 0) rfl rfl, Pre0.give hPc hKc hDc hT hS hFc⟩ rfl rfl hl.1 rfl (lv_room (Nat.le_of_ble_eq_true rfl)) dL_law_839 ⟨Nat.le_of_ble_eq_true rfl, Nat.le_of_ble_eq_true rfl⟩) hS (fun q _ h => hFc q h) hFc (fun r_52 u t H1 locs ht hvm hw hB hz1 hk1 hS => ?_)
    obtain ⟨hP1, hK1, hD1⟩ := hB
    rw [ht] at hP1
    have hK1 := va_K.moved hvm.symm hK1
    obtain ⟨hP, hD⟩ := va_join (wr := [(fq, .inr (4, [.int 0, .ref tE, .int 0])), (sq, .inr (4, [.int 0, .ref tE, .int 0])), (nq, .inr (8, [.int 0, .ref tq, .ref zq, .ref wq])), (rq, .inl (ci, 119, .inl (fun _ => 0))), (sbq, .inr (1, [.ref vq, .int 0, .int 0, .int 0])), (vq, .inl (cv, 16, .inl (fun _ => 0))), (oq, .inl (co, 1, .inr (.inl (vp_updL (fun _ => 0) (0 : Int32).toNatClampNeg 0)))), (h0, .inr (10, [.ref fq, .ref sq, .ref gq, .ref nq, .ref dq, .ref pq, .int 0, .int 0, .int 0])), (gq, .inr (4, [.int 0, .ref tE, .int 0]))]) (w1 := [(mq, .inr (11, [.int 0, .int 0, .int 0, .int 0, .ref rq, .ref sbq]))]) hP hD [3] [0, 1, 2, 4, 5, 6, 7, 8, 9] rfl rfl (by decide) (by decide) hk1 hFc hP1 hD1
    generalize H1 = H at hP hS ⊢
    have hP : va_P (dC, dI) vwCl [(fq, .inr (4, [.int 0, .ref tE, .int 0])), (sq, .inr (4, [.int 0, .ref tE, .int 0])), (nq, .inr (8, [.int 0, .ref tq, .ref zq, .ref wq])), (rq, .inl (ci, 119, .inl (fun _ => 0))), (sbq, .inr (1, [.ref vq, .int 0, .int 0, .int 0])), (vq, .inl (cv, 16, .inl (fun _ => 0))), (oq, .inl (co, 1, .inr (.inl (vp_updL (fun _ => 0) (0 : Int32).toNatClampNeg 0)))), (h0, .inr (10, [.ref fq, .ref sq, .ref gq, .ref nq, .ref dq, .ref pq, .int 0, .int 0, .int 0])), (gq, .inr (4, [.int 0, .ref tE, .int 0])), (mq, .inr (11, [.int 0, .int 0, .int 0, .int 0, .ref rq, .ref sbq]))] H := hP
    have hD : va_D (fun q : Nat => s.heap.size ≤ q) [(fq, .inr (4, [.int 0, .ref tE, .int 0])), (sq, .inr (4, [.int 0, .ref tE, .int 0])), (nq, .inr (8, [.int 0, .ref tq, .ref zq, .ref wq])), (rq, .inl (ci, 119, .inl (fun _ => 0))), (sbq, .inr (1, [.ref vq, .int 0, .int 0, .int 0])), (vq, .inl (cv, 16, .inl (fun _ => 0))), (oq, .inl (co, 1, .inr (.inl (vp_updL (fun _ => 0) (0 : Int32).toNatClampNeg 0)))), (h0, .inr (10, [.ref fq, .ref sq, .ref gq, .ref nq, .ref dq, .ref pq, .int 0, .int 0, .int 0])), (gq, .inr (4, [.int 0, .ref tE, .int 0])), (mq, .inr (11, [.int 0, .int 0, .int 0, .int 0, .ref rq, .ref sbq]))] := hD
    refine W.widen (k := 50) (n := 856) (by omega) (by omega) ?_
    obtain rfl : r_52 = 0 := hw
    refine lv_istore (lv' := [(6, .int 0), (5, .int 0), (4, .int 0), (3, .ref oq), (2, .ref mq), (1, .ref h0), (0, .ref b)]) hx hb dL_law_842 hl (by decide) rfl (fun ls hl => ?_)
    refine lv_aload_n hx hb dL_law_844 rfl (lv_at hl 4 rfl) ?_
    have hPc := hP.sub (ws' := [(mq, .inr (11, [.int 0, .int 0, .int 0, .int 0, .ref rq, .ref sbq]))]) [9] rfl
    have hDc := hD.sub (ws' := [(mq, .inr (11, [.int 0, .int 0, .int 0, .int 0, .ref rq, .ref sbq]))]) [9] (by decide) rfl
    have hKc := hK.sub (tys' := []) [] rfl
    have hFc := va_free (wc := [(mq, .inr (11, [.int 0, .int 0, .int 0, .int 0, .ref rq, .ref sbq]))]) hD hS hA [9] rfl
    refine va_calli (va_runV (As := []) (rest := []) ⟨hx, hb, hml, hown, hts⟩ (c_M_thrown l hl9 dC dI tE mq rq sbq 0 0 0 0 _ ) (cwV 0 hts (goodIn_app (goodIn_r _ [69, 70, 71, 58] (by rfl) (by decide +kernel)) gg_law_c_M_thrown) rfl rfl rfl (by decide +kernel) ⟨Nat.le_of_ble_eq_true rfl, Nat.le_of_ble_eq_true rfl⟩) ⟨Pre0.blind, va_recv hKc hPc (ci := 11) (q0 := 0) rfl rfl, Pre0.give hPc hKc hDc hT hS hFc⟩ rfl rfl hl.1 rfl (lv_room (Nat.le_of_ble_eq_true rfl)) dL_law_845 ⟨Nat.le_of_ble_eq_true rfl, Nat.le_of_ble_eq_true rfl⟩) hS (fun q _ h => hFc q h) hFc (fun r_53 u t H1 locs ht hvm hw hB hz1 hk1 hS => ?_)
    obtain ⟨hP1, hK1, hD1⟩ := hB
    rw [ht] at hP1
    have hK1 := va_K.moved hvm.symm hK1
    obtain ⟨hP, hD⟩ := va_join (wr := [(fq, .inr (4, [.int 0, .ref tE, .int 0])), (sq, .inr (4, [.int 0, .ref tE, .int 0])), (nq, .inr (8, [.int 0, .ref tq, .ref zq, .ref wq])), (rq, .inl (ci, 119, .inl (fun _ => 0))), (sbq, .inr (1, [.ref vq, .int 0, .int 0, .int 0])), (vq, .inl (cv, 16, .inl (fun _ => 0))), (oq, .inl (co, 1, .inr (.inl (vp_updL (fun _ => 0) (0 : Int32).toNatClampNeg 0)))), (h0, .inr (10, [.ref fq, .ref sq, .ref gq, .ref nq, .ref dq, .ref pq, .int 0, .int 0, .int 0])), (gq, .inr (4, [.int 0, .ref tE, .int 0]))]) (w1 := [(mq, .inr (11, [.int 0, .int 0, .int 0, .int 0, .ref rq, .ref sbq]))]) hP hD [9] [0, 1, 2, 3, 4, 5, 6, 7, 8] rfl rfl (by decide) (by decide) hk1 hFc hP1 hD1
    generalize H1 = H at hP hS ⊢
    have hP : va_P (dC, dI) vwCl [(fq, .inr (4, [.int 0, .ref tE, .int 0])), (sq, .inr (4, [.int 0, .ref tE, .int 0])), (nq, .inr (8, [.int 0, .ref tq, .ref zq, .ref wq])), (rq, .inl (ci, 119, .inl (fun _ => 0))), (sbq, .inr (1, [.ref vq, .int 0, .int 0, .int 0])), (vq, .inl (cv, 16, .inl (fun _ => 0))), (oq, .inl (co, 1, .inr (.inl (vp_updL (fun _ => 0) (0 : Int32).toNatClampNeg 0)))), (h0, .inr (10, [.ref fq, .ref sq, .ref gq, .ref nq, .ref dq, .ref pq, .int 0, .int 0, .int 0])), (gq, .inr (4, [.int 0, .ref tE, .int 0])), (mq, .inr (11, [.int 0, .int 0, .int 0, .int 0, .ref rq, .ref sbq]))] H := hP
    have hD : va_D (fun q : Nat => s.heap.size ≤ q) [(fq, .inr (4, [.int 0, .ref tE, .int 0])), (sq, .inr (4, [.int 0, .ref tE, .int 0])), (nq, .inr (8, [.int 0, .ref tq, .ref zq, .ref wq])), (rq, .inl (ci, 119, .inl (fun _ => 0))), (sbq, .inr (1, [.ref vq, .int 0, .int 0, .int 0])), (vq, .inl (cv, 16, .inl (fun _ => 0))), (oq, .inl (co, 1, .inr (.inl (vp_updL (fun _ => 0) (0 : Int32).toNatClampNeg 0)))), (h0, .inr (10, [.ref fq, .ref sq, .ref gq, .ref nq, .ref dq, .ref pq, .int 0, .int 0, .int 0])), (gq, .inr (4, [.int 0, .ref tE, .int 0])), (mq, .inr (11, [.int 0, .int 0, .int 0, .int 0, .ref rq, .ref sbq]))] := hD
    refine W.widen (k := 50) (n := 856) (by omega) (by omega) ?_
    obtain rfl : r_53 = 0 := hw
    refine lv_iload hx hb dL_law_848 (lv_at hl 1 rfl) ?_
    refine lv_icmp_eq (tgt := 855) hx hb dL_law_850 (by decide) (fun _ => ?_) (fun c_54 => absurd (by decide) c_54)
    refine lv_iload hx hb dL_law_855 (lv_at hl 1 rfl) ?_
    refine lv_if_ne (tgt := 872) hx hb dL_law_857 (by decide) (fun c_55 => absurd (by decide) c_55) (fun _ => ?_)
    refine lv_aload_n hx hb dL_law_860 rfl (lv_at hl 3 rfl) ?_
    refine lv_iconst (v := 0) hx hb dL_law_861 (by decide) ?_
    refine va_lald hx hb hK hP 6 2 rfl rfl (by unfold vp_in; decide) dL_law_862 ?_
    refine lv_topl (fun x_56 e_57 => ?_)
    obtain rfl : x_56 = 0 := e_57.trans (by simp [vp_updL])
    refine lv_iload hx hb dL_law_863 (lv_at hl 0 rfl) ?_
    refine lv_i2l (v := 0) hx hb dL_law_865 (by decide) ?_
    refine W.lcmp hx hb dL_law_866 ?_
    refine lv_topi (fun x_58 e_59 => ?_)
    obtain rfl : x_58 = 0 := e_59.trans (cmp_self _)
    refine lv_if_eq (tgt := 872) hx hb dL_law_867 (by decide) (fun _ => ?_) (fun c_60 => absurd (by decide) c_60)
    refine lv_goto (tgt := 1303) hx hb dL_law_872 (by decide) ?_
    exact law_next l C0 (by omega) (by omega) hS ls (lv_sub hl [2, 6] rfl)
  · have hPc := hP.sub (ws' := [(h0, .inr (10, [.ref fq, .ref sq, .ref gq, .ref nq, .ref dq, .ref pq, .int 0, .int 0, .int 0])), (gq, .inr (4, [.int 0, .ref tE, .int 0])), (oq, .inl (co, 1, .inr (.inl (fun _ => 0))))]) [0, 3, 9] rfl
    have hDc := hD.sub (ws' := [(h0, .inr (10, [.ref fq, .ref sq, .ref gq, .ref nq, .ref dq, .ref pq, .int 0, .int 0, .int 0])), (gq, .inr (4, [.int 0, .ref tE, .int 0])), (oq, .inl (co, 1, .inr (.inl (fun _ => 0))))]) [0, 3, 9] (by decide) rfl
    have hKc := hK.sub (tys' := [(co, .long)]) [2] rfl
    have hFc := va_free (wc := [(h0, .inr (10, [.ref fq, .ref sq, .ref gq, .ref nq, .ref dq, .ref pq, .int 0, .int 0, .int 0])), (gq, .inr (4, [.int 0, .ref tE, .int 0])), (oq, .inl (co, 1, .inr (.inl (fun _ => 0))))]) hD hS hA [0, 3, 9] rfl
    refine va_calli (vx_runSW (As := [.ref h0, .int 4, .ref oq]) (rest := []) ⟨hx, hb, hml, hown, hts⟩ (w_count_4 l hl9 dC dI tE h0 fq sq gq nq dq pq 0 oq co (fun _ => 0) _ ) (vx_cwSW 3 hts (goodIn_app (goodIn_r _ [235, 236, 52] (by rfl) (by decide +kernel)) gg_law_w_count_4) rfl rfl rfl (by decide +kernel) ⟨Nat.le_of_ble_eq_true rfl, Nat.le_of_ble_eq_true rfl⟩) ⟨Pre0.blind, Pre0.give hPc hKc hDc hT hS hFc⟩ rfl rfl hl.1 rfl (lv_room (Nat.le_of_ble_eq_true rfl)) dL_law_827 ⟨Nat.le_of_ble_eq_true rfl, Nat.le_of_ble_eq_true rfl⟩) hS (fun q _ h => hFc q h) hFc (fun r_61 u t H1 locs ht hvm hw hB hz1 hk1 hS => ?_)
    obtain ⟨hP1, hK1, hD1⟩ := hB
    rw [ht] at hP1
    have hK1 := va_K.moved hvm.symm hK1
    obtain ⟨hP, hD⟩ := va_join (wr := [(fq, .inr (4, [.int 0, .ref tE, .int 0])), (sq, .inr (4, [.int 0, .ref tE, .int 0])), (nq, .inr (8, [.int 0, .ref tq, .ref zq, .ref wq])), (mq, .inr (11, [.int 0, .int 0, .int 0, .int 0, .ref rq, .ref sbq])), (rq, .inl (ci, 119, .inl (fun _ => 0))), (sbq, .inr (1, [.ref vq, .int 0, .int 0, .int 0])), (vq, .inl (cv, 16, .inl (fun _ => 0)))]) (w1 := [(oq, .inl (co, 1, .inr (.inl (vp_updL (fun _ => 0) (0 : Int32).toNatClampNeg 0)))), (h0, .inr (10, [.ref fq, .ref sq, .ref gq, .ref nq, .ref dq, .ref pq, .int 0, .int 0, .int 0])), (gq, .inr (4, [.int 0, .ref tE, .int 0]))]) hP hD [0, 3, 9] [1, 2, 4, 5, 6, 7, 8] rfl rfl (by decide) (by decide) hk1 hFc hP1 hD1
    generalize H1 = H at hP hS ⊢
    have hP : va_P (dC, dI) vwCl [(fq, .inr (4, [.int 0, .ref tE, .int 0])), (sq, .inr (4, [.int 0, .ref tE, .int 0])), (nq, .inr (8, [.int 0, .ref tq, .ref zq, .ref wq])), (mq, .inr (11, [.int 0, .int 0, .int 0, .int 0, .ref rq, .ref sbq])), (rq, .inl (ci, 119, .inl (fun _ => 0))), (sbq, .inr (1, [.ref vq, .int 0, .int 0, .int 0])), (vq, .inl (cv, 16, .inl (fun _ => 0))), (oq, .inl (co, 1, .inr (.inl (vp_updL (fun _ => 0) (0 : Int32).toNatClampNeg 0)))), (h0, .inr (10, [.ref fq, .ref sq, .ref gq, .ref nq, .ref dq, .ref pq, .int 0, .int 0, .int 0])), (gq, .inr (4, [.int 0, .ref tE, .int 0]))] H := hP
    have hD : va_D (fun q : Nat => s.heap.size ≤ q) [(fq, .inr (4, [.int 0, .ref tE, .int 0])), (sq, .inr (4, [.int 0, .ref tE, .int 0])), (nq, .inr (8, [.int 0, .ref tq, .ref zq, .ref wq])), (mq, .inr (11, [.int 0, .int 0, .int 0, .int 0, .ref rq, .ref sbq])), (rq, .inl (ci, 119, .inl (fun _ => 0))), (sbq, .inr (1, [.ref vq, .int 0, .int 0, .int 0])), (vq, .inl (cv, 16, .inl (fun _ => 0))), (oq, .inl (co, 1, .inr (.inl (vp_updL (fun _ => 0) (0 : Int32).toNatClampNeg 0)))), (h0, .inr (10, [.ref fq, .ref sq, .ref gq, .ref nq, .ref dq, .ref pq, .int 0, .int 0, .int 0])), (gq, .inr (4, [.int 0, .ref tE, .int 0]))] := hD
    refine W.widen (k := 50) (n := 856) (by omega) (by omega) ?_
    obtain rfl : r_61 = 0 := hw
    refine lv_istore (lv' := [(5, .int 0), (4, .int 0), (3, .ref oq), (2, .ref mq), (1, .ref h0), (0, .ref b)]) hx hb dL_law_830 hl (by decide) rfl (fun ls hl => ?_)
    refine lv_aload_n hx hb dL_law_832 rfl (lv_at hl 3 rfl) ?_
    refine lv_aload_n hx hb dL_law_833 rfl (lv_at hl 5 rfl) ?_
    refine lv_iload hx hb dL_law_834 (lv_at hl 1 rfl) ?_
    refine lv_iconst (v := 1) hx hb dL_law_836 (by decide) ?_
    refine lv_iadd hx hb dL_law_837 ?_
    refine lv_topi (fun x_62 e_63 => ?_)
    obtain rfl : x_62 = 1 := e_63.trans (by decide)
    refine va_sld hx hb hX hbl hbA hS (by unfold vp_in; decide) dL_law_838 ?_
    refine lv_topi (fun x_64 e_65 => ?_)
    obtain rfl : 4 = x_64 := ey1.trans e_65.symm
    have hPc := hP.sub (ws' := [(mq, .inr (11, [.int 0, .int 0, .int 0, .int 0, .ref rq, .ref sbq]))]) [3] rfl
    have hDc := hD.sub (ws' := [(mq, .inr (11, [.int 0, .int 0, .int 0, .int 0, .ref rq, .ref sbq]))]) [3] (by decide) rfl
    have hKc := hK.sub (tys' := []) [] rfl
    have hFc := va_free (wc := [(mq, .inr (11, [.int 0, .int 0, .int 0, .int 0, .ref rq, .ref sbq]))]) hD hS hA [3] rfl
    refine va_calli (va_runV (As := [.int 4]) (rest := []) ⟨hx, hb, hml, hown, hts⟩ (c_M_count_4 l hl9 dC dI tE mq rq sbq 0 _ ) (cwV 1 hts (goodIn_app (goodIn_r _ [242, 243, 244, 58] (by rfl) (by decide +kernel)) gg_law_c_M_count_4) rfl rfl rfl (by decide +kernel) ⟨Nat.le_of_ble_eq_true rfl, Nat.le_of_ble_eq_true rfl⟩) ⟨Pre0.blind, va_recv hKc hPc (ci := 11) (q0 := 0) rfl rfl, Pre0.give hPc hKc hDc hT hS hFc⟩ rfl rfl hl.1 rfl (lv_room (Nat.le_of_ble_eq_true rfl)) dL_law_839 ⟨Nat.le_of_ble_eq_true rfl, Nat.le_of_ble_eq_true rfl⟩) hS (fun q _ h => hFc q h) hFc (fun r_66 u t H1 locs ht hvm hw hB hz1 hk1 hS => ?_)
    obtain ⟨hP1, hK1, hD1⟩ := hB
    rw [ht] at hP1
    have hK1 := va_K.moved hvm.symm hK1
    obtain ⟨hP, hD⟩ := va_join (wr := [(fq, .inr (4, [.int 0, .ref tE, .int 0])), (sq, .inr (4, [.int 0, .ref tE, .int 0])), (nq, .inr (8, [.int 0, .ref tq, .ref zq, .ref wq])), (rq, .inl (ci, 119, .inl (fun _ => 0))), (sbq, .inr (1, [.ref vq, .int 0, .int 0, .int 0])), (vq, .inl (cv, 16, .inl (fun _ => 0))), (oq, .inl (co, 1, .inr (.inl (vp_updL (fun _ => 0) (0 : Int32).toNatClampNeg 0)))), (h0, .inr (10, [.ref fq, .ref sq, .ref gq, .ref nq, .ref dq, .ref pq, .int 0, .int 0, .int 0])), (gq, .inr (4, [.int 0, .ref tE, .int 0]))]) (w1 := [(mq, .inr (11, [.int 0, .int 0, .int 0, .int 0, .ref rq, .ref sbq]))]) hP hD [3] [0, 1, 2, 4, 5, 6, 7, 8, 9] rfl rfl (by decide) (by decide) hk1 hFc hP1 hD1
    generalize H1 = H at hP hS ⊢
    have hP : va_P (dC, dI) vwCl [(fq, .inr (4, [.int 0, .ref tE, .int 0])), (sq, .inr (4, [.int 0, .ref tE, .int 0])), (nq, .inr (8, [.int 0, .ref tq, .ref zq, .ref wq])), (rq, .inl (ci, 119, .inl (fun _ => 0))), (sbq, .inr (1, [.ref vq, .int 0, .int 0, .int 0])), (vq, .inl (cv, 16, .inl (fun _ => 0))), (oq, .inl (co, 1, .inr (.inl (vp_updL (fun _ => 0) (0 : Int32).toNatClampNeg 0)))), (h0, .inr (10, [.ref fq, .ref sq, .ref gq, .ref nq, .ref dq, .ref pq, .int 0, .int 0, .int 0])), (gq, .inr (4, [.int 0, .ref tE, .int 0])), (mq, .inr (11, [.int 0, .int 0, .int 0, .int 0, .ref rq, .ref sbq]))] H := hP
    have hD : va_D (fun q : Nat => s.heap.size ≤ q) [(fq, .inr (4, [.int 0, .ref tE, .int 0])), (sq, .inr (4, [.int 0, .ref tE, .int 0])), (nq, .inr (8, [.int 0, .ref tq, .ref zq, .ref wq])), (rq, .inl (ci, 119, .inl (fun _ => 0))), (sbq, .inr (1, [.ref vq, .int 0, .int 0, .int 0])), (vq, .inl (cv, 16, .inl (fun _ => 0))), (oq, .inl (co, 1, .inr (.inl (vp_updL (fun _ => 0) (0 : Int32).toNatClampNeg 0)))), (h0, .inr (10, [.ref fq, .ref sq, .ref gq, .ref nq, .ref dq, .ref pq, .int 0, .int 0, .int 0])), (gq, .inr (4, [.int 0, .ref tE, .int 0])), (mq, .inr (11, [.int 0, .int 0, .int 0, .int 0, .ref rq, .ref sbq]))] := hD
    refine W.widen (k := 50) (n := 856) (by omega) (by omega) ?_
    obtain rfl : r_66 = 0 := hw
    refine lv_istore (lv' := [(6, .int 0), (5, .int 0), (4, .int 0), (3, .ref oq), (2, .ref mq), (1, .ref h0), (0, .ref b)]) hx hb dL_law_842 hl (by decide) rfl (fun ls hl => ?_)
    refine lv_aload_n hx hb dL_law_844 rfl (lv_at hl 4 rfl) ?_
    have hPc := hP.sub (ws' := [(mq, .inr (11, [.int 0, .int 0, .int 0, .int 0, .ref rq, .ref sbq]))]) [9] rfl
    have hDc := hD.sub (ws' := [(mq, .inr (11, [.int 0, .int 0, .int 0, .int 0, .ref rq, .ref sbq]))]) [9] (by decide) rfl
    have hKc := hK.sub (tys' := []) [] rfl
    have hFc := va_free (wc := [(mq, .inr (11, [.int 0, .int 0, .int 0, .int 0, .ref rq, .ref sbq]))]) hD hS hA [9] rfl
    refine va_calli (va_runV (As := []) (rest := []) ⟨hx, hb, hml, hown, hts⟩ (c_M_thrown l hl9 dC dI tE mq rq sbq 0 0 0 0 _ ) (cwV 0 hts (goodIn_app (goodIn_r _ [69, 70, 71, 58] (by rfl) (by decide +kernel)) gg_law_c_M_thrown) rfl rfl rfl (by decide +kernel) ⟨Nat.le_of_ble_eq_true rfl, Nat.le_of_ble_eq_true rfl⟩) ⟨Pre0.blind, va_recv hKc hPc (ci := 11) (q0 := 0) rfl rfl, Pre0.give hPc hKc hDc hT hS hFc⟩ rfl rfl hl.1 rfl (lv_room (Nat.le_of_ble_eq_true rfl)) dL_law_845 ⟨Nat.le_of_ble_eq_true rfl, Nat.le_of_ble_eq_true rfl⟩) hS (fun q _ h => hFc q h) hFc (fun r_67 u t H1 locs ht hvm hw hB hz1 hk1 hS => ?_)
    obtain ⟨hP1, hK1, hD1⟩ := hB
    rw [ht] at hP1
    have hK1 := va_K.moved hvm.symm hK1
    obtain ⟨hP, hD⟩ := va_join (wr := [(fq, .inr (4, [.int 0, .ref tE, .int 0])), (sq, .inr (4, [.int 0, .ref tE, .int 0])), (nq, .inr (8, [.int 0, .ref tq, .ref zq, .ref wq])), (rq, .inl (ci, 119, .inl (fun _ => 0))), (sbq, .inr (1, [.ref vq, .int 0, .int 0, .int 0])), (vq, .inl (cv, 16, .inl (fun _ => 0))), (oq, .inl (co, 1, .inr (.inl (vp_updL (fun _ => 0) (0 : Int32).toNatClampNeg 0)))), (h0, .inr (10, [.ref fq, .ref sq, .ref gq, .ref nq, .ref dq, .ref pq, .int 0, .int 0, .int 0])), (gq, .inr (4, [.int 0, .ref tE, .int 0]))]) (w1 := [(mq, .inr (11, [.int 0, .int 0, .int 0, .int 0, .ref rq, .ref sbq]))]) hP hD [9] [0, 1, 2, 3, 4, 5, 6, 7, 8] rfl rfl (by decide) (by decide) hk1 hFc hP1 hD1
    generalize H1 = H at hP hS ⊢
    have hP : va_P (dC, dI) vwCl [(fq, .inr (4, [.int 0, .ref tE, .int 0])), (sq, .inr (4, [.int 0, .ref tE, .int 0])), (nq, .inr (8, [.int 0, .ref tq, .ref zq, .ref wq])), (rq, .inl (ci, 119, .inl (fun _ => 0))), (sbq, .inr (1, [.ref vq, .int 0, .int 0, .int 0])), (vq, .inl (cv, 16, .inl (fun _ => 0))), (oq, .inl (co, 1, .inr (.inl (vp_updL (fun _ => 0) (0 : Int32).toNatClampNeg 0)))), (h0, .inr (10, [.ref fq, .ref sq, .ref gq, .ref nq, .ref dq, .ref pq, .int 0, .int 0, .int 0])), (gq, .inr (4, [.int 0, .ref tE, .int 0])), (mq, .inr (11, [.int 0, .int 0, .int 0, .int 0, .ref rq, .ref sbq]))] H := hP
    have hD : va_D (fun q : Nat => s.heap.size ≤ q) [(fq, .inr (4, [.int 0, .ref tE, .int 0])), (sq, .inr (4, [.int 0, .ref tE, .int 0])), (nq, .inr (8, [.int 0, .ref tq, .ref zq, .ref wq])), (rq, .inl (ci, 119, .inl (fun _ => 0))), (sbq, .inr (1, [.ref vq, .int 0, .int 0, .int 0])), (vq, .inl (cv, 16, .inl (fun _ => 0))), (oq, .inl (co, 1, .inr (.inl (vp_updL (fun _ => 0) (0 : Int32).toNatClampNeg 0)))), (h0, .inr (10, [.ref fq, .ref sq, .ref gq, .ref nq, .ref dq, .ref pq, .int 0, .int 0, .int 0])), (gq, .inr (4, [.int 0, .ref tE, .int 0])), (mq, .inr (11, [.int 0, .int 0, .int 0, .int 0, .ref rq, .ref sbq]))] := hD
    refine W.widen (k := 50) (n := 856) (by omega) (by omega) ?_
    obtain rfl : r_67 = 0 := hw
    refine lv_iload hx hb dL_law_848 (lv_at hl 1 rfl) ?_
    refine lv_icmp_eq (tgt := 855) hx hb dL_law_850 (by decide) (fun _ => ?_) (fun c_68 => absurd (by decide) c_68)
    refine lv_iload hx hb dL_law_855 (lv_at hl 1 rfl) ?_
    refine lv_if_ne (tgt := 872) hx hb dL_law_857 (by decide) (fun c_69 => absurd (by decide) c_69) (fun _ => ?_)
    refine lv_aload_n hx hb dL_law_860 rfl (lv_at hl 3 rfl) ?_
    refine lv_iconst (v := 0) hx hb dL_law_861 (by decide) ?_
    refine va_lald hx hb hK hP 6 2 rfl rfl (by unfold vp_in; decide) dL_law_862 ?_
    refine lv_topl (fun x_70 e_71 => ?_)
    obtain rfl : x_70 = 0 := e_71.trans (by simp [vp_updL])
    refine lv_iload hx hb dL_law_863 (lv_at hl 0 rfl) ?_
    refine lv_i2l (v := 0) hx hb dL_law_865 (by decide) ?_
    refine W.lcmp hx hb dL_law_866 ?_
    refine lv_topi (fun x_72 e_73 => ?_)
    obtain rfl : x_72 = 0 := e_73.trans (cmp_self _)
    refine lv_if_eq (tgt := 872) hx hb dL_law_867 (by decide) (fun _ => ?_) (fun c_74 => absurd (by decide) c_74)
    refine lv_goto (tgt := 1303) hx hb dL_law_872 (by decide) ?_
    exact law_next l C0 (by omega) (by omega) hS ls (lv_sub hl [2, 6] rfl)
  · have hPc := hP.sub (ws' := [(h0, .inr (10, [.ref fq, .ref sq, .ref gq, .ref nq, .ref dq, .ref pq, .int 0, .int 0, .int 0])), (oq, .inl (co, 1, .inr (.inl (fun _ => 0))))]) [0, 9] rfl
    have hDc := hD.sub (ws' := [(h0, .inr (10, [.ref fq, .ref sq, .ref gq, .ref nq, .ref dq, .ref pq, .int 0, .int 0, .int 0])), (oq, .inl (co, 1, .inr (.inl (fun _ => 0))))]) [0, 9] (by decide) rfl
    have hKc := hK.sub (tys' := [(co, .long)]) [2] rfl
    have hFc := va_free (wc := [(h0, .inr (10, [.ref fq, .ref sq, .ref gq, .ref nq, .ref dq, .ref pq, .int 0, .int 0, .int 0])), (oq, .inl (co, 1, .inr (.inl (fun _ => 0))))]) hD hS hA [0, 9] rfl
    refine va_calli (vx_runSW (As := [.ref h0, .int 5, .ref oq]) (rest := []) ⟨hx, hb, hml, hown, hts⟩ (w_count_5 l hl9 dC dI tE h0 fq sq gq nq dq pq oq co (fun _ => 0) _ ) (vx_cwSW 3 hts (goodIn_app (goodIn_r _ [235, 236, 52] (by rfl) (by decide +kernel)) gg_law_w_count_5) rfl rfl rfl (by decide +kernel) ⟨Nat.le_of_ble_eq_true rfl, Nat.le_of_ble_eq_true rfl⟩) ⟨Pre0.blind, Pre0.give hPc hKc hDc hT hS hFc⟩ rfl rfl hl.1 rfl (lv_room (Nat.le_of_ble_eq_true rfl)) dL_law_827 ⟨Nat.le_of_ble_eq_true rfl, Nat.le_of_ble_eq_true rfl⟩) hS (fun q _ h => hFc q h) hFc (fun r_75 u t H1 locs ht hvm hw hB hz1 hk1 hS => ?_)
    obtain ⟨hP1, hK1, hD1⟩ := hB
    rw [ht] at hP1
    have hK1 := va_K.moved hvm.symm hK1
    obtain ⟨hP, hD⟩ := va_join (wr := [(fq, .inr (4, [.int 0, .ref tE, .int 0])), (sq, .inr (4, [.int 0, .ref tE, .int 0])), (gq, .inr (4, [.int 0, .ref tE, .int 0])), (nq, .inr (8, [.int 0, .ref tq, .ref zq, .ref wq])), (mq, .inr (11, [.int 0, .int 0, .int 0, .int 0, .ref rq, .ref sbq])), (rq, .inl (ci, 119, .inl (fun _ => 0))), (sbq, .inr (1, [.ref vq, .int 0, .int 0, .int 0])), (vq, .inl (cv, 16, .inl (fun _ => 0)))]) (w1 := [(oq, .inl (co, 1, .inr (.inl (vp_updL (fun _ => 0) (0 : Int32).toNatClampNeg 0)))), (h0, .inr (10, [.ref fq, .ref sq, .ref gq, .ref nq, .ref dq, .ref pq, .int 0, .int 0, .int 0]))]) hP hD [0, 9] [1, 2, 3, 4, 5, 6, 7, 8] rfl rfl (by decide) (by decide) hk1 hFc hP1 hD1
    generalize H1 = H at hP hS ⊢
    have hP : va_P (dC, dI) vwCl [(fq, .inr (4, [.int 0, .ref tE, .int 0])), (sq, .inr (4, [.int 0, .ref tE, .int 0])), (gq, .inr (4, [.int 0, .ref tE, .int 0])), (nq, .inr (8, [.int 0, .ref tq, .ref zq, .ref wq])), (mq, .inr (11, [.int 0, .int 0, .int 0, .int 0, .ref rq, .ref sbq])), (rq, .inl (ci, 119, .inl (fun _ => 0))), (sbq, .inr (1, [.ref vq, .int 0, .int 0, .int 0])), (vq, .inl (cv, 16, .inl (fun _ => 0))), (oq, .inl (co, 1, .inr (.inl (vp_updL (fun _ => 0) (0 : Int32).toNatClampNeg 0)))), (h0, .inr (10, [.ref fq, .ref sq, .ref gq, .ref nq, .ref dq, .ref pq, .int 0, .int 0, .int 0]))] H := hP
    have hD : va_D (fun q : Nat => s.heap.size ≤ q) [(fq, .inr (4, [.int 0, .ref tE, .int 0])), (sq, .inr (4, [.int 0, .ref tE, .int 0])), (gq, .inr (4, [.int 0, .ref tE, .int 0])), (nq, .inr (8, [.int 0, .ref tq, .ref zq, .ref wq])), (mq, .inr (11, [.int 0, .int 0, .int 0, .int 0, .ref rq, .ref sbq])), (rq, .inl (ci, 119, .inl (fun _ => 0))), (sbq, .inr (1, [.ref vq, .int 0, .int 0, .int 0])), (vq, .inl (cv, 16, .inl (fun _ => 0))), (oq, .inl (co, 1, .inr (.inl (vp_updL (fun _ => 0) (0 : Int32).toNatClampNeg 0)))), (h0, .inr (10, [.ref fq, .ref sq, .ref gq, .ref nq, .ref dq, .ref pq, .int 0, .int 0, .int 0]))] := hD
    refine W.widen (k := 50) (n := 856) (by omega) (by omega) ?_
    obtain rfl : r_75 = 0 := hw
    refine lv_istore (lv' := [(5, .int 0), (4, .int 0), (3, .ref oq), (2, .ref mq), (1, .ref h0), (0, .ref b)]) hx hb dL_law_830 hl (by decide) rfl (fun ls hl => ?_)
    refine lv_aload_n hx hb dL_law_832 rfl (lv_at hl 3 rfl) ?_
    refine lv_aload_n hx hb dL_law_833 rfl (lv_at hl 5 rfl) ?_
    refine lv_iload hx hb dL_law_834 (lv_at hl 1 rfl) ?_
    refine lv_iconst (v := 1) hx hb dL_law_836 (by decide) ?_
    refine lv_iadd hx hb dL_law_837 ?_
    refine lv_topi (fun x_76 e_77 => ?_)
    obtain rfl : x_76 = 1 := e_77.trans (by decide)
    refine va_sld hx hb hX hbl hbA hS (by unfold vp_in; decide) dL_law_838 ?_
    refine lv_topi (fun x_78 e_79 => ?_)
    obtain rfl : 5 = x_78 := ey1.trans e_79.symm
    have hPc := hP.sub (ws' := [(mq, .inr (11, [.int 0, .int 0, .int 0, .int 0, .ref rq, .ref sbq])), (rq, .inl (ci, 119, .inl (fun _ => 0)))]) [4, 5] rfl
    have hDc := hD.sub (ws' := [(mq, .inr (11, [.int 0, .int 0, .int 0, .int 0, .ref rq, .ref sbq])), (rq, .inl (ci, 119, .inl (fun _ => 0)))]) [4, 5] (by decide) rfl
    have hKc := hK.sub (tys' := [(ci, .int)]) [0] rfl
    have hFc := va_free (wc := [(mq, .inr (11, [.int 0, .int 0, .int 0, .int 0, .ref rq, .ref sbq])), (rq, .inl (ci, 119, .inl (fun _ => 0)))]) hD hS hA [4, 5] rfl
    refine va_calli (va_runV (As := [.int 5]) (rest := []) ⟨hx, hb, hml, hown, hts⟩ (c_M_count_5 l hl9 dC dI tE mq rq sbq 0 ci _ ) (cwV 1 hts (goodIn_app (goodIn_r _ [242, 243, 244, 58] (by rfl) (by decide +kernel)) gg_law_c_M_count_5) rfl rfl rfl (by decide +kernel) ⟨Nat.le_of_ble_eq_true rfl, Nat.le_of_ble_eq_true rfl⟩) ⟨Pre0.blind, va_recv hKc hPc (ci := 11) (q0 := 0) rfl rfl, Pre0.give hPc hKc hDc hT hS hFc⟩ rfl rfl hl.1 rfl (lv_room (Nat.le_of_ble_eq_true rfl)) dL_law_839 ⟨Nat.le_of_ble_eq_true rfl, Nat.le_of_ble_eq_true rfl⟩) hS (fun q _ h => hFc q h) hFc (fun r_80 u t H1 locs ht hvm hw hB hz1 hk1 hS => ?_)
    obtain ⟨hP1, hK1, hD1⟩ := hB
    rw [ht] at hP1
    have hK1 := va_K.moved hvm.symm hK1
    obtain ⟨hP, hD⟩ := va_join (wr := [(fq, .inr (4, [.int 0, .ref tE, .int 0])), (sq, .inr (4, [.int 0, .ref tE, .int 0])), (gq, .inr (4, [.int 0, .ref tE, .int 0])), (nq, .inr (8, [.int 0, .ref tq, .ref zq, .ref wq])), (sbq, .inr (1, [.ref vq, .int 0, .int 0, .int 0])), (vq, .inl (cv, 16, .inl (fun _ => 0))), (oq, .inl (co, 1, .inr (.inl (vp_updL (fun _ => 0) (0 : Int32).toNatClampNeg 0)))), (h0, .inr (10, [.ref fq, .ref sq, .ref gq, .ref nq, .ref dq, .ref pq, .int 0, .int 0, .int 0]))]) (w1 := [(mq, .inr (11, [.int 0, .int 0, .int 0, .int 0, .ref rq, .ref sbq])), (rq, .inl (ci, 119, .inl (fun _ => 0)))]) hP hD [4, 5] [0, 1, 2, 3, 6, 7, 8, 9] rfl rfl (by decide) (by decide) hk1 hFc hP1 hD1
    generalize H1 = H at hP hS ⊢
    have hP : va_P (dC, dI) vwCl [(fq, .inr (4, [.int 0, .ref tE, .int 0])), (sq, .inr (4, [.int 0, .ref tE, .int 0])), (gq, .inr (4, [.int 0, .ref tE, .int 0])), (nq, .inr (8, [.int 0, .ref tq, .ref zq, .ref wq])), (sbq, .inr (1, [.ref vq, .int 0, .int 0, .int 0])), (vq, .inl (cv, 16, .inl (fun _ => 0))), (oq, .inl (co, 1, .inr (.inl (vp_updL (fun _ => 0) (0 : Int32).toNatClampNeg 0)))), (h0, .inr (10, [.ref fq, .ref sq, .ref gq, .ref nq, .ref dq, .ref pq, .int 0, .int 0, .int 0])), (mq, .inr (11, [.int 0, .int 0, .int 0, .int 0, .ref rq, .ref sbq])), (rq, .inl (ci, 119, .inl (fun _ => 0)))] H := hP
    have hD : va_D (fun q : Nat => s.heap.size ≤ q) [(fq, .inr (4, [.int 0, .ref tE, .int 0])), (sq, .inr (4, [.int 0, .ref tE, .int 0])), (gq, .inr (4, [.int 0, .ref tE, .int 0])), (nq, .inr (8, [.int 0, .ref tq, .ref zq, .ref wq])), (sbq, .inr (1, [.ref vq, .int 0, .int 0, .int 0])), (vq, .inl (cv, 16, .inl (fun _ => 0))), (oq, .inl (co, 1, .inr (.inl (vp_updL (fun _ => 0) (0 : Int32).toNatClampNeg 0)))), (h0, .inr (10, [.ref fq, .ref sq, .ref gq, .ref nq, .ref dq, .ref pq, .int 0, .int 0, .int 0])), (mq, .inr (11, [.int 0, .int 0, .int 0, .int 0, .ref rq, .ref sbq])), (rq, .inl (ci, 119, .inl (fun _ => 0)))] := hD
    refine W.widen (k := 50) (n := 856) (by omega) (by omega) ?_
    obtain rfl : r_80 = 0 := hw
    refine lv_istore (lv' := [(6, .int 0), (5, .int 0), (4, .int 0), (3, .ref oq), (2, .ref mq), (1, .ref h0), (0, .ref b)]) hx hb dL_law_842 hl (by decide) rfl (fun ls hl => ?_)
    refine lv_aload_n hx hb dL_law_844 rfl (lv_at hl 4 rfl) ?_
    have hPc := hP.sub (ws' := [(mq, .inr (11, [.int 0, .int 0, .int 0, .int 0, .ref rq, .ref sbq]))]) [8] rfl
    have hDc := hD.sub (ws' := [(mq, .inr (11, [.int 0, .int 0, .int 0, .int 0, .ref rq, .ref sbq]))]) [8] (by decide) rfl
    have hKc := hK.sub (tys' := []) [] rfl
    have hFc := va_free (wc := [(mq, .inr (11, [.int 0, .int 0, .int 0, .int 0, .ref rq, .ref sbq]))]) hD hS hA [8] rfl
    refine va_calli (va_runV (As := []) (rest := []) ⟨hx, hb, hml, hown, hts⟩ (c_M_thrown l hl9 dC dI tE mq rq sbq 0 0 0 0 _ ) (cwV 0 hts (goodIn_app (goodIn_r _ [69, 70, 71, 58] (by rfl) (by decide +kernel)) gg_law_c_M_thrown) rfl rfl rfl (by decide +kernel) ⟨Nat.le_of_ble_eq_true rfl, Nat.le_of_ble_eq_true rfl⟩) ⟨Pre0.blind, va_recv hKc hPc (ci := 11) (q0 := 0) rfl rfl, Pre0.give hPc hKc hDc hT hS hFc⟩ rfl rfl hl.1 rfl (lv_room (Nat.le_of_ble_eq_true rfl)) dL_law_845 ⟨Nat.le_of_ble_eq_true rfl, Nat.le_of_ble_eq_true rfl⟩) hS (fun q _ h => hFc q h) hFc (fun r_81 u t H1 locs ht hvm hw hB hz1 hk1 hS => ?_)
    obtain ⟨hP1, hK1, hD1⟩ := hB
    rw [ht] at hP1
    have hK1 := va_K.moved hvm.symm hK1
    obtain ⟨hP, hD⟩ := va_join (wr := [(fq, .inr (4, [.int 0, .ref tE, .int 0])), (sq, .inr (4, [.int 0, .ref tE, .int 0])), (gq, .inr (4, [.int 0, .ref tE, .int 0])), (nq, .inr (8, [.int 0, .ref tq, .ref zq, .ref wq])), (sbq, .inr (1, [.ref vq, .int 0, .int 0, .int 0])), (vq, .inl (cv, 16, .inl (fun _ => 0))), (oq, .inl (co, 1, .inr (.inl (vp_updL (fun _ => 0) (0 : Int32).toNatClampNeg 0)))), (h0, .inr (10, [.ref fq, .ref sq, .ref gq, .ref nq, .ref dq, .ref pq, .int 0, .int 0, .int 0])), (rq, .inl (ci, 119, .inl (fun _ => 0)))]) (w1 := [(mq, .inr (11, [.int 0, .int 0, .int 0, .int 0, .ref rq, .ref sbq]))]) hP hD [8] [0, 1, 2, 3, 4, 5, 6, 7, 9] rfl rfl (by decide) (by decide) hk1 hFc hP1 hD1
    generalize H1 = H at hP hS ⊢
    have hP : va_P (dC, dI) vwCl [(fq, .inr (4, [.int 0, .ref tE, .int 0])), (sq, .inr (4, [.int 0, .ref tE, .int 0])), (gq, .inr (4, [.int 0, .ref tE, .int 0])), (nq, .inr (8, [.int 0, .ref tq, .ref zq, .ref wq])), (sbq, .inr (1, [.ref vq, .int 0, .int 0, .int 0])), (vq, .inl (cv, 16, .inl (fun _ => 0))), (oq, .inl (co, 1, .inr (.inl (vp_updL (fun _ => 0) (0 : Int32).toNatClampNeg 0)))), (h0, .inr (10, [.ref fq, .ref sq, .ref gq, .ref nq, .ref dq, .ref pq, .int 0, .int 0, .int 0])), (rq, .inl (ci, 119, .inl (fun _ => 0))), (mq, .inr (11, [.int 0, .int 0, .int 0, .int 0, .ref rq, .ref sbq]))] H := hP
    have hD : va_D (fun q : Nat => s.heap.size ≤ q) [(fq, .inr (4, [.int 0, .ref tE, .int 0])), (sq, .inr (4, [.int 0, .ref tE, .int 0])), (gq, .inr (4, [.int 0, .ref tE, .int 0])), (nq, .inr (8, [.int 0, .ref tq, .ref zq, .ref wq])), (sbq, .inr (1, [.ref vq, .int 0, .int 0, .int 0])), (vq, .inl (cv, 16, .inl (fun _ => 0))), (oq, .inl (co, 1, .inr (.inl (vp_updL (fun _ => 0) (0 : Int32).toNatClampNeg 0)))), (h0, .inr (10, [.ref fq, .ref sq, .ref gq, .ref nq, .ref dq, .ref pq, .int 0, .int 0, .int 0])), (rq, .inl (ci, 119, .inl (fun _ => 0))), (mq, .inr (11, [.int 0, .int 0, .int 0, .int 0, .ref rq, .ref sbq]))] := hD
    refine W.widen (k := 50) (n := 856) (by omega) (by omega) ?_
    obtain rfl : r_81 = 0 := hw
    refine lv_iload hx hb dL_law_848 (lv_at hl 1 rfl) ?_
    refine lv_icmp_eq (tgt := 855) hx hb dL_law_850 (by decide) (fun _ => ?_) (fun c_82 => absurd (by decide) c_82)
    refine lv_iload hx hb dL_law_855 (lv_at hl 1 rfl) ?_
    refine lv_if_ne (tgt := 872) hx hb dL_law_857 (by decide) (fun c_83 => absurd (by decide) c_83) (fun _ => ?_)
    refine lv_aload_n hx hb dL_law_860 rfl (lv_at hl 3 rfl) ?_
    refine lv_iconst (v := 0) hx hb dL_law_861 (by decide) ?_
    refine va_lald hx hb hK hP 6 2 rfl rfl (by unfold vp_in; decide) dL_law_862 ?_
    refine lv_topl (fun x_84 e_85 => ?_)
    obtain rfl : x_84 = 0 := e_85.trans (by simp [vp_updL])
    refine lv_iload hx hb dL_law_863 (lv_at hl 0 rfl) ?_
    refine lv_i2l (v := 0) hx hb dL_law_865 (by decide) ?_
    refine W.lcmp hx hb dL_law_866 ?_
    refine lv_topi (fun x_86 e_87 => ?_)
    obtain rfl : x_86 = 0 := e_87.trans (cmp_self _)
    refine lv_if_eq (tgt := 872) hx hb dL_law_867 (by decide) (fun _ => ?_) (fun c_88 => absurd (by decide) c_88)
    refine lv_goto (tgt := 1303) hx hb dL_law_872 (by decide) ?_
    exact law_next l C0 (by omega) (by omega) hS ls (lv_sub hl [2, 6] rfl)
  · have hPc := hP.sub (ws' := [(h0, .inr (10, [.ref fq, .ref sq, .ref gq, .ref nq, .ref dq, .ref pq, .int 0, .int 0, .int 0])), (oq, .inl (co, 1, .inr (.inl (fun _ => 0))))]) [0, 9] rfl
    have hDc := hD.sub (ws' := [(h0, .inr (10, [.ref fq, .ref sq, .ref gq, .ref nq, .ref dq, .ref pq, .int 0, .int 0, .int 0])), (oq, .inl (co, 1, .inr (.inl (fun _ => 0))))]) [0, 9] (by decide) rfl
    have hKc := hK.sub (tys' := [(co, .long)]) [2] rfl
    have hFc := va_free (wc := [(h0, .inr (10, [.ref fq, .ref sq, .ref gq, .ref nq, .ref dq, .ref pq, .int 0, .int 0, .int 0])), (oq, .inl (co, 1, .inr (.inl (fun _ => 0))))]) hD hS hA [0, 9] rfl
    refine va_calli (vx_runSW (As := [.ref h0, .int 6, .ref oq]) (rest := []) ⟨hx, hb, hml, hown, hts⟩ (w_count_6 l hl9 dC dI tE h0 fq sq gq nq dq pq oq co (fun _ => 0) _ ) (vx_cwSW 3 hts (goodIn_app (goodIn_r _ [235, 236, 52] (by rfl) (by decide +kernel)) gg_law_w_count_6) rfl rfl rfl (by decide +kernel) ⟨Nat.le_of_ble_eq_true rfl, Nat.le_of_ble_eq_true rfl⟩) ⟨Pre0.blind, Pre0.give hPc hKc hDc hT hS hFc⟩ rfl rfl hl.1 rfl (lv_room (Nat.le_of_ble_eq_true rfl)) dL_law_827 ⟨Nat.le_of_ble_eq_true rfl, Nat.le_of_ble_eq_true rfl⟩) hS (fun q _ h => hFc q h) hFc (fun r_89 u t H1 locs ht hvm hw hB hz1 hk1 hS => ?_)
    obtain ⟨hP1, hK1, hD1⟩ := hB
    rw [ht] at hP1
    have hK1 := va_K.moved hvm.symm hK1
    obtain ⟨hP, hD⟩ := va_join (wr := [(fq, .inr (4, [.int 0, .ref tE, .int 0])), (sq, .inr (4, [.int 0, .ref tE, .int 0])), (gq, .inr (4, [.int 0, .ref tE, .int 0])), (nq, .inr (8, [.int 0, .ref tq, .ref zq, .ref wq])), (mq, .inr (11, [.int 0, .int 0, .int 0, .int 0, .ref rq, .ref sbq])), (rq, .inl (ci, 119, .inl (fun _ => 0))), (sbq, .inr (1, [.ref vq, .int 0, .int 0, .int 0])), (vq, .inl (cv, 16, .inl (fun _ => 0)))]) (w1 := [(oq, .inl (co, 1, .inr (.inl (vp_updL (fun _ => 0) (0 : Int32).toNatClampNeg 0)))), (h0, .inr (10, [.ref fq, .ref sq, .ref gq, .ref nq, .ref dq, .ref pq, .int 0, .int 0, .int 0]))]) hP hD [0, 9] [1, 2, 3, 4, 5, 6, 7, 8] rfl rfl (by decide) (by decide) hk1 hFc hP1 hD1
    generalize H1 = H at hP hS ⊢
    have hP : va_P (dC, dI) vwCl [(fq, .inr (4, [.int 0, .ref tE, .int 0])), (sq, .inr (4, [.int 0, .ref tE, .int 0])), (gq, .inr (4, [.int 0, .ref tE, .int 0])), (nq, .inr (8, [.int 0, .ref tq, .ref zq, .ref wq])), (mq, .inr (11, [.int 0, .int 0, .int 0, .int 0, .ref rq, .ref sbq])), (rq, .inl (ci, 119, .inl (fun _ => 0))), (sbq, .inr (1, [.ref vq, .int 0, .int 0, .int 0])), (vq, .inl (cv, 16, .inl (fun _ => 0))), (oq, .inl (co, 1, .inr (.inl (vp_updL (fun _ => 0) (0 : Int32).toNatClampNeg 0)))), (h0, .inr (10, [.ref fq, .ref sq, .ref gq, .ref nq, .ref dq, .ref pq, .int 0, .int 0, .int 0]))] H := hP
    have hD : va_D (fun q : Nat => s.heap.size ≤ q) [(fq, .inr (4, [.int 0, .ref tE, .int 0])), (sq, .inr (4, [.int 0, .ref tE, .int 0])), (gq, .inr (4, [.int 0, .ref tE, .int 0])), (nq, .inr (8, [.int 0, .ref tq, .ref zq, .ref wq])), (mq, .inr (11, [.int 0, .int 0, .int 0, .int 0, .ref rq, .ref sbq])), (rq, .inl (ci, 119, .inl (fun _ => 0))), (sbq, .inr (1, [.ref vq, .int 0, .int 0, .int 0])), (vq, .inl (cv, 16, .inl (fun _ => 0))), (oq, .inl (co, 1, .inr (.inl (vp_updL (fun _ => 0) (0 : Int32).toNatClampNeg 0)))), (h0, .inr (10, [.ref fq, .ref sq, .ref gq, .ref nq, .ref dq, .ref pq, .int 0, .int 0, .int 0]))] := hD
    refine W.widen (k := 50) (n := 856) (by omega) (by omega) ?_
    obtain rfl : r_89 = 0 := hw
    refine lv_istore (lv' := [(5, .int 0), (4, .int 0), (3, .ref oq), (2, .ref mq), (1, .ref h0), (0, .ref b)]) hx hb dL_law_830 hl (by decide) rfl (fun ls hl => ?_)
    refine lv_aload_n hx hb dL_law_832 rfl (lv_at hl 3 rfl) ?_
    refine lv_aload_n hx hb dL_law_833 rfl (lv_at hl 5 rfl) ?_
    refine lv_iload hx hb dL_law_834 (lv_at hl 1 rfl) ?_
    refine lv_iconst (v := 1) hx hb dL_law_836 (by decide) ?_
    refine lv_iadd hx hb dL_law_837 ?_
    refine lv_topi (fun x_90 e_91 => ?_)
    obtain rfl : x_90 = 1 := e_91.trans (by decide)
    refine va_sld hx hb hX hbl hbA hS (by unfold vp_in; decide) dL_law_838 ?_
    refine lv_topi (fun x_92 e_93 => ?_)
    obtain rfl : 6 = x_92 := ey1.trans e_93.symm
    have hPc := hP.sub (ws' := [(mq, .inr (11, [.int 0, .int 0, .int 0, .int 0, .ref rq, .ref sbq])), (rq, .inl (ci, 119, .inl (fun _ => 0)))]) [4, 5] rfl
    have hDc := hD.sub (ws' := [(mq, .inr (11, [.int 0, .int 0, .int 0, .int 0, .ref rq, .ref sbq])), (rq, .inl (ci, 119, .inl (fun _ => 0)))]) [4, 5] (by decide) rfl
    have hKc := hK.sub (tys' := [(ci, .int)]) [0] rfl
    have hFc := va_free (wc := [(mq, .inr (11, [.int 0, .int 0, .int 0, .int 0, .ref rq, .ref sbq])), (rq, .inl (ci, 119, .inl (fun _ => 0)))]) hD hS hA [4, 5] rfl
    refine va_calli (va_runV (As := [.int 6]) (rest := []) ⟨hx, hb, hml, hown, hts⟩ (c_M_count_6 l hl9 dC dI tE mq rq sbq 0 ci _ ) (cwV 1 hts (goodIn_app (goodIn_r _ [242, 243, 244, 58] (by rfl) (by decide +kernel)) gg_law_c_M_count_6) rfl rfl rfl (by decide +kernel) ⟨Nat.le_of_ble_eq_true rfl, Nat.le_of_ble_eq_true rfl⟩) ⟨Pre0.blind, va_recv hKc hPc (ci := 11) (q0 := 0) rfl rfl, Pre0.give hPc hKc hDc hT hS hFc⟩ rfl rfl hl.1 rfl (lv_room (Nat.le_of_ble_eq_true rfl)) dL_law_839 ⟨Nat.le_of_ble_eq_true rfl, Nat.le_of_ble_eq_true rfl⟩) hS (fun q _ h => hFc q h) hFc (fun r_94 u t H1 locs ht hvm hw hB hz1 hk1 hS => ?_)
    obtain ⟨hP1, hK1, hD1⟩ := hB
    rw [ht] at hP1
    have hK1 := va_K.moved hvm.symm hK1
    obtain ⟨hP, hD⟩ := va_join (wr := [(fq, .inr (4, [.int 0, .ref tE, .int 0])), (sq, .inr (4, [.int 0, .ref tE, .int 0])), (gq, .inr (4, [.int 0, .ref tE, .int 0])), (nq, .inr (8, [.int 0, .ref tq, .ref zq, .ref wq])), (sbq, .inr (1, [.ref vq, .int 0, .int 0, .int 0])), (vq, .inl (cv, 16, .inl (fun _ => 0))), (oq, .inl (co, 1, .inr (.inl (vp_updL (fun _ => 0) (0 : Int32).toNatClampNeg 0)))), (h0, .inr (10, [.ref fq, .ref sq, .ref gq, .ref nq, .ref dq, .ref pq, .int 0, .int 0, .int 0]))]) (w1 := [(mq, .inr (11, [.int 0, .int 0, .int 0, .int 0, .ref rq, .ref sbq])), (rq, .inl (ci, 119, .inl (fun _ => 0)))]) hP hD [4, 5] [0, 1, 2, 3, 6, 7, 8, 9] rfl rfl (by decide) (by decide) hk1 hFc hP1 hD1
    generalize H1 = H at hP hS ⊢
    have hP : va_P (dC, dI) vwCl [(fq, .inr (4, [.int 0, .ref tE, .int 0])), (sq, .inr (4, [.int 0, .ref tE, .int 0])), (gq, .inr (4, [.int 0, .ref tE, .int 0])), (nq, .inr (8, [.int 0, .ref tq, .ref zq, .ref wq])), (sbq, .inr (1, [.ref vq, .int 0, .int 0, .int 0])), (vq, .inl (cv, 16, .inl (fun _ => 0))), (oq, .inl (co, 1, .inr (.inl (vp_updL (fun _ => 0) (0 : Int32).toNatClampNeg 0)))), (h0, .inr (10, [.ref fq, .ref sq, .ref gq, .ref nq, .ref dq, .ref pq, .int 0, .int 0, .int 0])), (mq, .inr (11, [.int 0, .int 0, .int 0, .int 0, .ref rq, .ref sbq])), (rq, .inl (ci, 119, .inl (fun _ => 0)))] H := hP
    have hD : va_D (fun q : Nat => s.heap.size ≤ q) [(fq, .inr (4, [.int 0, .ref tE, .int 0])), (sq, .inr (4, [.int 0, .ref tE, .int 0])), (gq, .inr (4, [.int 0, .ref tE, .int 0])), (nq, .inr (8, [.int 0, .ref tq, .ref zq, .ref wq])), (sbq, .inr (1, [.ref vq, .int 0, .int 0, .int 0])), (vq, .inl (cv, 16, .inl (fun _ => 0))), (oq, .inl (co, 1, .inr (.inl (vp_updL (fun _ => 0) (0 : Int32).toNatClampNeg 0)))), (h0, .inr (10, [.ref fq, .ref sq, .ref gq, .ref nq, .ref dq, .ref pq, .int 0, .int 0, .int 0])), (mq, .inr (11, [.int 0, .int 0, .int 0, .int 0, .ref rq, .ref sbq])), (rq, .inl (ci, 119, .inl (fun _ => 0)))] := hD
    refine W.widen (k := 50) (n := 856) (by omega) (by omega) ?_
    obtain rfl : r_94 = 0 := hw
    refine lv_istore (lv' := [(6, .int 0), (5, .int 0), (4, .int 0), (3, .ref oq), (2, .ref mq), (1, .ref h0), (0, .ref b)]) hx hb dL_law_842 hl (by decide) rfl (fun ls hl => ?_)
    refine lv_aload_n hx hb dL_law_844 rfl (lv_at hl 4 rfl) ?_
    have hPc := hP.sub (ws' := [(mq, .inr (11, [.int 0, .int 0, .int 0, .int 0, .ref rq, .ref sbq]))]) [8] rfl
    have hDc := hD.sub (ws' := [(mq, .inr (11, [.int 0, .int 0, .int 0, .int 0, .ref rq, .ref sbq]))]) [8] (by decide) rfl
    have hKc := hK.sub (tys' := []) [] rfl
    have hFc := va_free (wc := [(mq, .inr (11, [.int 0, .int 0, .int 0, .int 0, .ref rq, .ref sbq]))]) hD hS hA [8] rfl
    refine va_calli (va_runV (As := []) (rest := []) ⟨hx, hb, hml, hown, hts⟩ (c_M_thrown l hl9 dC dI tE mq rq sbq 0 0 0 0 _ ) (cwV 0 hts (goodIn_app (goodIn_r _ [69, 70, 71, 58] (by rfl) (by decide +kernel)) gg_law_c_M_thrown) rfl rfl rfl (by decide +kernel) ⟨Nat.le_of_ble_eq_true rfl, Nat.le_of_ble_eq_true rfl⟩) ⟨Pre0.blind, va_recv hKc hPc (ci := 11) (q0 := 0) rfl rfl, Pre0.give hPc hKc hDc hT hS hFc⟩ rfl rfl hl.1 rfl (lv_room (Nat.le_of_ble_eq_true rfl)) dL_law_845 ⟨Nat.le_of_ble_eq_true rfl, Nat.le_of_ble_eq_true rfl⟩) hS (fun q _ h => hFc q h) hFc (fun r_95 u t H1 locs ht hvm hw hB hz1 hk1 hS => ?_)
    obtain ⟨hP1, hK1, hD1⟩ := hB
    rw [ht] at hP1
    have hK1 := va_K.moved hvm.symm hK1
    obtain ⟨hP, hD⟩ := va_join (wr := [(fq, .inr (4, [.int 0, .ref tE, .int 0])), (sq, .inr (4, [.int 0, .ref tE, .int 0])), (gq, .inr (4, [.int 0, .ref tE, .int 0])), (nq, .inr (8, [.int 0, .ref tq, .ref zq, .ref wq])), (sbq, .inr (1, [.ref vq, .int 0, .int 0, .int 0])), (vq, .inl (cv, 16, .inl (fun _ => 0))), (oq, .inl (co, 1, .inr (.inl (vp_updL (fun _ => 0) (0 : Int32).toNatClampNeg 0)))), (h0, .inr (10, [.ref fq, .ref sq, .ref gq, .ref nq, .ref dq, .ref pq, .int 0, .int 0, .int 0])), (rq, .inl (ci, 119, .inl (fun _ => 0)))]) (w1 := [(mq, .inr (11, [.int 0, .int 0, .int 0, .int 0, .ref rq, .ref sbq]))]) hP hD [8] [0, 1, 2, 3, 4, 5, 6, 7, 9] rfl rfl (by decide) (by decide) hk1 hFc hP1 hD1
    generalize H1 = H at hP hS ⊢
    have hP : va_P (dC, dI) vwCl [(fq, .inr (4, [.int 0, .ref tE, .int 0])), (sq, .inr (4, [.int 0, .ref tE, .int 0])), (gq, .inr (4, [.int 0, .ref tE, .int 0])), (nq, .inr (8, [.int 0, .ref tq, .ref zq, .ref wq])), (sbq, .inr (1, [.ref vq, .int 0, .int 0, .int 0])), (vq, .inl (cv, 16, .inl (fun _ => 0))), (oq, .inl (co, 1, .inr (.inl (vp_updL (fun _ => 0) (0 : Int32).toNatClampNeg 0)))), (h0, .inr (10, [.ref fq, .ref sq, .ref gq, .ref nq, .ref dq, .ref pq, .int 0, .int 0, .int 0])), (rq, .inl (ci, 119, .inl (fun _ => 0))), (mq, .inr (11, [.int 0, .int 0, .int 0, .int 0, .ref rq, .ref sbq]))] H := hP
    have hD : va_D (fun q : Nat => s.heap.size ≤ q) [(fq, .inr (4, [.int 0, .ref tE, .int 0])), (sq, .inr (4, [.int 0, .ref tE, .int 0])), (gq, .inr (4, [.int 0, .ref tE, .int 0])), (nq, .inr (8, [.int 0, .ref tq, .ref zq, .ref wq])), (sbq, .inr (1, [.ref vq, .int 0, .int 0, .int 0])), (vq, .inl (cv, 16, .inl (fun _ => 0))), (oq, .inl (co, 1, .inr (.inl (vp_updL (fun _ => 0) (0 : Int32).toNatClampNeg 0)))), (h0, .inr (10, [.ref fq, .ref sq, .ref gq, .ref nq, .ref dq, .ref pq, .int 0, .int 0, .int 0])), (rq, .inl (ci, 119, .inl (fun _ => 0))), (mq, .inr (11, [.int 0, .int 0, .int 0, .int 0, .ref rq, .ref sbq]))] := hD
    refine W.widen (k := 50) (n := 856) (by omega) (by omega) ?_
    obtain rfl : r_95 = 0 := hw
    refine lv_iload hx hb dL_law_848 (lv_at hl 1 rfl) ?_
    refine lv_icmp_eq (tgt := 855) hx hb dL_law_850 (by decide) (fun _ => ?_) (fun c_96 => absurd (by decide) c_96)
    refine lv_iload hx hb dL_law_855 (lv_at hl 1 rfl) ?_
    refine lv_if_ne (tgt := 872) hx hb dL_law_857 (by decide) (fun c_97 => absurd (by decide) c_97) (fun _ => ?_)
    refine lv_aload_n hx hb dL_law_860 rfl (lv_at hl 3 rfl) ?_
    refine lv_iconst (v := 0) hx hb dL_law_861 (by decide) ?_
    refine va_lald hx hb hK hP 6 2 rfl rfl (by unfold vp_in; decide) dL_law_862 ?_
    refine lv_topl (fun x_98 e_99 => ?_)
    obtain rfl : x_98 = 0 := e_99.trans (by simp [vp_updL])
    refine lv_iload hx hb dL_law_863 (lv_at hl 0 rfl) ?_
    refine lv_i2l (v := 0) hx hb dL_law_865 (by decide) ?_
    refine W.lcmp hx hb dL_law_866 ?_
    refine lv_topi (fun x_100 e_101 => ?_)
    obtain rfl : x_100 = 0 := e_101.trans (cmp_self _)
    refine lv_if_eq (tgt := 872) hx hb dL_law_867 (by decide) (fun _ => ?_) (fun c_102 => absurd (by decide) c_102)
    refine lv_goto (tgt := 1303) hx hb dL_law_872 (by decide) ?_
    exact law_next l C0 (by omega) (by omega) hS ls (lv_sub hl [2, 6] rfl)
  · have hPc := hP.sub (ws' := [(h0, .inr (10, [.ref fq, .ref sq, .ref gq, .ref nq, .ref dq, .ref pq, .int 0, .int 0, .int 0])), (oq, .inl (co, 1, .inr (.inl (fun _ => 0))))]) [0, 9] rfl
    have hDc := hD.sub (ws' := [(h0, .inr (10, [.ref fq, .ref sq, .ref gq, .ref nq, .ref dq, .ref pq, .int 0, .int 0, .int 0])), (oq, .inl (co, 1, .inr (.inl (fun _ => 0))))]) [0, 9] (by decide) rfl
    have hKc := hK.sub (tys' := [(co, .long)]) [2] rfl
    have hFc := va_free (wc := [(h0, .inr (10, [.ref fq, .ref sq, .ref gq, .ref nq, .ref dq, .ref pq, .int 0, .int 0, .int 0])), (oq, .inl (co, 1, .inr (.inl (fun _ => 0))))]) hD hS hA [0, 9] rfl
    refine va_calli (vx_runSW (As := [.ref h0, .int 7, .ref oq]) (rest := []) ⟨hx, hb, hml, hown, hts⟩ (w_count_7 l hl9 dC dI tE h0 fq sq gq nq dq pq oq co (fun _ => 0) _ ) (vx_cwSW 3 hts (goodIn_app (goodIn_r _ [235, 236, 52] (by rfl) (by decide +kernel)) gg_law_w_count_7) rfl rfl rfl (by decide +kernel) ⟨Nat.le_of_ble_eq_true rfl, Nat.le_of_ble_eq_true rfl⟩) ⟨Pre0.blind, Pre0.give hPc hKc hDc hT hS hFc⟩ rfl rfl hl.1 rfl (lv_room (Nat.le_of_ble_eq_true rfl)) dL_law_827 ⟨Nat.le_of_ble_eq_true rfl, Nat.le_of_ble_eq_true rfl⟩) hS (fun q _ h => hFc q h) hFc (fun r_103 u t H1 locs ht hvm hw hB hz1 hk1 hS => ?_)
    obtain ⟨hP1, hK1, hD1⟩ := hB
    rw [ht] at hP1
    have hK1 := va_K.moved hvm.symm hK1
    obtain ⟨hP, hD⟩ := va_join (wr := [(fq, .inr (4, [.int 0, .ref tE, .int 0])), (sq, .inr (4, [.int 0, .ref tE, .int 0])), (gq, .inr (4, [.int 0, .ref tE, .int 0])), (nq, .inr (8, [.int 0, .ref tq, .ref zq, .ref wq])), (mq, .inr (11, [.int 0, .int 0, .int 0, .int 0, .ref rq, .ref sbq])), (rq, .inl (ci, 119, .inl (fun _ => 0))), (sbq, .inr (1, [.ref vq, .int 0, .int 0, .int 0])), (vq, .inl (cv, 16, .inl (fun _ => 0)))]) (w1 := [(oq, .inl (co, 1, .inr (.inl (vp_updL (fun _ => 0) (0 : Int32).toNatClampNeg 0)))), (h0, .inr (10, [.ref fq, .ref sq, .ref gq, .ref nq, .ref dq, .ref pq, .int 0, .int 0, .int 0]))]) hP hD [0, 9] [1, 2, 3, 4, 5, 6, 7, 8] rfl rfl (by decide) (by decide) hk1 hFc hP1 hD1
    generalize H1 = H at hP hS ⊢
    have hP : va_P (dC, dI) vwCl [(fq, .inr (4, [.int 0, .ref tE, .int 0])), (sq, .inr (4, [.int 0, .ref tE, .int 0])), (gq, .inr (4, [.int 0, .ref tE, .int 0])), (nq, .inr (8, [.int 0, .ref tq, .ref zq, .ref wq])), (mq, .inr (11, [.int 0, .int 0, .int 0, .int 0, .ref rq, .ref sbq])), (rq, .inl (ci, 119, .inl (fun _ => 0))), (sbq, .inr (1, [.ref vq, .int 0, .int 0, .int 0])), (vq, .inl (cv, 16, .inl (fun _ => 0))), (oq, .inl (co, 1, .inr (.inl (vp_updL (fun _ => 0) (0 : Int32).toNatClampNeg 0)))), (h0, .inr (10, [.ref fq, .ref sq, .ref gq, .ref nq, .ref dq, .ref pq, .int 0, .int 0, .int 0]))] H := hP
    have hD : va_D (fun q : Nat => s.heap.size ≤ q) [(fq, .inr (4, [.int 0, .ref tE, .int 0])), (sq, .inr (4, [.int 0, .ref tE, .int 0])), (gq, .inr (4, [.int 0, .ref tE, .int 0])), (nq, .inr (8, [.int 0, .ref tq, .ref zq, .ref wq])), (mq, .inr (11, [.int 0, .int 0, .int 0, .int 0, .ref rq, .ref sbq])), (rq, .inl (ci, 119, .inl (fun _ => 0))), (sbq, .inr (1, [.ref vq, .int 0, .int 0, .int 0])), (vq, .inl (cv, 16, .inl (fun _ => 0))), (oq, .inl (co, 1, .inr (.inl (vp_updL (fun _ => 0) (0 : Int32).toNatClampNeg 0)))), (h0, .inr (10, [.ref fq, .ref sq, .ref gq, .ref nq, .ref dq, .ref pq, .int 0, .int 0, .int 0]))] := hD
    refine W.widen (k := 50) (n := 856) (by omega) (by omega) ?_
    obtain rfl : r_103 = 0 := hw
    refine lv_istore (lv' := [(5, .int 0), (4, .int 0), (3, .ref oq), (2, .ref mq), (1, .ref h0), (0, .ref b)]) hx hb dL_law_830 hl (by decide) rfl (fun ls hl => ?_)
    refine lv_aload_n hx hb dL_law_832 rfl (lv_at hl 3 rfl) ?_
    refine lv_aload_n hx hb dL_law_833 rfl (lv_at hl 5 rfl) ?_
    refine lv_iload hx hb dL_law_834 (lv_at hl 1 rfl) ?_
    refine lv_iconst (v := 1) hx hb dL_law_836 (by decide) ?_
    refine lv_iadd hx hb dL_law_837 ?_
    refine lv_topi (fun x_104 e_105 => ?_)
    obtain rfl : x_104 = 1 := e_105.trans (by decide)
    refine va_sld hx hb hX hbl hbA hS (by unfold vp_in; decide) dL_law_838 ?_
    refine lv_topi (fun x_106 e_107 => ?_)
    obtain rfl : 7 = x_106 := ey1.trans e_107.symm
    have hPc := hP.sub (ws' := [(mq, .inr (11, [.int 0, .int 0, .int 0, .int 0, .ref rq, .ref sbq])), (sbq, .inr (1, [.ref vq, .int 0, .int 0, .int 0]))]) [4, 6] rfl
    have hDc := hD.sub (ws' := [(mq, .inr (11, [.int 0, .int 0, .int 0, .int 0, .ref rq, .ref sbq])), (sbq, .inr (1, [.ref vq, .int 0, .int 0, .int 0]))]) [4, 6] (by decide) rfl
    have hKc := hK.sub (tys' := []) [] rfl
    have hFc := va_free (wc := [(mq, .inr (11, [.int 0, .int 0, .int 0, .int 0, .ref rq, .ref sbq])), (sbq, .inr (1, [.ref vq, .int 0, .int 0, .int 0]))]) hD hS hA [4, 6] rfl
    refine va_calli (va_runV (As := [.int 7]) (rest := []) ⟨hx, hb, hml, hown, hts⟩ (c_M_count_7 l hl9 dC dI tE mq rq sbq 0 vq _ ) (cwV 1 hts (goodIn_app (goodIn_r _ [242, 243, 244, 58] (by rfl) (by decide +kernel)) gg_law_c_M_count_7) rfl rfl rfl (by decide +kernel) ⟨Nat.le_of_ble_eq_true rfl, Nat.le_of_ble_eq_true rfl⟩) ⟨Pre0.blind, va_recv hKc hPc (ci := 11) (q0 := 0) rfl rfl, Pre0.give hPc hKc hDc hT hS hFc⟩ rfl rfl hl.1 rfl (lv_room (Nat.le_of_ble_eq_true rfl)) dL_law_839 ⟨Nat.le_of_ble_eq_true rfl, Nat.le_of_ble_eq_true rfl⟩) hS (fun q _ h => hFc q h) hFc (fun r_108 u t H1 locs ht hvm hw hB hz1 hk1 hS => ?_)
    obtain ⟨hP1, hK1, hD1⟩ := hB
    rw [ht] at hP1
    have hK1 := va_K.moved hvm.symm hK1
    obtain ⟨hP, hD⟩ := va_join (wr := [(fq, .inr (4, [.int 0, .ref tE, .int 0])), (sq, .inr (4, [.int 0, .ref tE, .int 0])), (gq, .inr (4, [.int 0, .ref tE, .int 0])), (nq, .inr (8, [.int 0, .ref tq, .ref zq, .ref wq])), (rq, .inl (ci, 119, .inl (fun _ => 0))), (vq, .inl (cv, 16, .inl (fun _ => 0))), (oq, .inl (co, 1, .inr (.inl (vp_updL (fun _ => 0) (0 : Int32).toNatClampNeg 0)))), (h0, .inr (10, [.ref fq, .ref sq, .ref gq, .ref nq, .ref dq, .ref pq, .int 0, .int 0, .int 0]))]) (w1 := [(mq, .inr (11, [.int 0, .int 0, .int 0, .int 0, .ref rq, .ref sbq])), (sbq, .inr (1, [.ref vq, .int 0, .int 0, .int 0]))]) hP hD [4, 6] [0, 1, 2, 3, 5, 7, 8, 9] rfl rfl (by decide) (by decide) hk1 hFc hP1 hD1
    generalize H1 = H at hP hS ⊢
    have hP : va_P (dC, dI) vwCl [(fq, .inr (4, [.int 0, .ref tE, .int 0])), (sq, .inr (4, [.int 0, .ref tE, .int 0])), (gq, .inr (4, [.int 0, .ref tE, .int 0])), (nq, .inr (8, [.int 0, .ref tq, .ref zq, .ref wq])), (rq, .inl (ci, 119, .inl (fun _ => 0))), (vq, .inl (cv, 16, .inl (fun _ => 0))), (oq, .inl (co, 1, .inr (.inl (vp_updL (fun _ => 0) (0 : Int32).toNatClampNeg 0)))), (h0, .inr (10, [.ref fq, .ref sq, .ref gq, .ref nq, .ref dq, .ref pq, .int 0, .int 0, .int 0])), (mq, .inr (11, [.int 0, .int 0, .int 0, .int 0, .ref rq, .ref sbq])), (sbq, .inr (1, [.ref vq, .int 0, .int 0, .int 0]))] H := hP
    have hD : va_D (fun q : Nat => s.heap.size ≤ q) [(fq, .inr (4, [.int 0, .ref tE, .int 0])), (sq, .inr (4, [.int 0, .ref tE, .int 0])), (gq, .inr (4, [.int 0, .ref tE, .int 0])), (nq, .inr (8, [.int 0, .ref tq, .ref zq, .ref wq])), (rq, .inl (ci, 119, .inl (fun _ => 0))), (vq, .inl (cv, 16, .inl (fun _ => 0))), (oq, .inl (co, 1, .inr (.inl (vp_updL (fun _ => 0) (0 : Int32).toNatClampNeg 0)))), (h0, .inr (10, [.ref fq, .ref sq, .ref gq, .ref nq, .ref dq, .ref pq, .int 0, .int 0, .int 0])), (mq, .inr (11, [.int 0, .int 0, .int 0, .int 0, .ref rq, .ref sbq])), (sbq, .inr (1, [.ref vq, .int 0, .int 0, .int 0]))] := hD
    refine W.widen (k := 50) (n := 856) (by omega) (by omega) ?_
    obtain rfl : r_108 = 0 := hw
    refine lv_istore (lv' := [(6, .int 0), (5, .int 0), (4, .int 0), (3, .ref oq), (2, .ref mq), (1, .ref h0), (0, .ref b)]) hx hb dL_law_842 hl (by decide) rfl (fun ls hl => ?_)
    refine lv_aload_n hx hb dL_law_844 rfl (lv_at hl 4 rfl) ?_
    have hPc := hP.sub (ws' := [(mq, .inr (11, [.int 0, .int 0, .int 0, .int 0, .ref rq, .ref sbq]))]) [8] rfl
    have hDc := hD.sub (ws' := [(mq, .inr (11, [.int 0, .int 0, .int 0, .int 0, .ref rq, .ref sbq]))]) [8] (by decide) rfl
    have hKc := hK.sub (tys' := []) [] rfl
    have hFc := va_free (wc := [(mq, .inr (11, [.int 0, .int 0, .int 0, .int 0, .ref rq, .ref sbq]))]) hD hS hA [8] rfl
    refine va_calli (va_runV (As := []) (rest := []) ⟨hx, hb, hml, hown, hts⟩ (c_M_thrown l hl9 dC dI tE mq rq sbq 0 0 0 0 _ ) (cwV 0 hts (goodIn_app (goodIn_r _ [69, 70, 71, 58] (by rfl) (by decide +kernel)) gg_law_c_M_thrown) rfl rfl rfl (by decide +kernel) ⟨Nat.le_of_ble_eq_true rfl, Nat.le_of_ble_eq_true rfl⟩) ⟨Pre0.blind, va_recv hKc hPc (ci := 11) (q0 := 0) rfl rfl, Pre0.give hPc hKc hDc hT hS hFc⟩ rfl rfl hl.1 rfl (lv_room (Nat.le_of_ble_eq_true rfl)) dL_law_845 ⟨Nat.le_of_ble_eq_true rfl, Nat.le_of_ble_eq_true rfl⟩) hS (fun q _ h => hFc q h) hFc (fun r_109 u t H1 locs ht hvm hw hB hz1 hk1 hS => ?_)
    obtain ⟨hP1, hK1, hD1⟩ := hB
    rw [ht] at hP1
    have hK1 := va_K.moved hvm.symm hK1
    obtain ⟨hP, hD⟩ := va_join (wr := [(fq, .inr (4, [.int 0, .ref tE, .int 0])), (sq, .inr (4, [.int 0, .ref tE, .int 0])), (gq, .inr (4, [.int 0, .ref tE, .int 0])), (nq, .inr (8, [.int 0, .ref tq, .ref zq, .ref wq])), (rq, .inl (ci, 119, .inl (fun _ => 0))), (vq, .inl (cv, 16, .inl (fun _ => 0))), (oq, .inl (co, 1, .inr (.inl (vp_updL (fun _ => 0) (0 : Int32).toNatClampNeg 0)))), (h0, .inr (10, [.ref fq, .ref sq, .ref gq, .ref nq, .ref dq, .ref pq, .int 0, .int 0, .int 0])), (sbq, .inr (1, [.ref vq, .int 0, .int 0, .int 0]))]) (w1 := [(mq, .inr (11, [.int 0, .int 0, .int 0, .int 0, .ref rq, .ref sbq]))]) hP hD [8] [0, 1, 2, 3, 4, 5, 6, 7, 9] rfl rfl (by decide) (by decide) hk1 hFc hP1 hD1
    generalize H1 = H at hP hS ⊢
    have hP : va_P (dC, dI) vwCl [(fq, .inr (4, [.int 0, .ref tE, .int 0])), (sq, .inr (4, [.int 0, .ref tE, .int 0])), (gq, .inr (4, [.int 0, .ref tE, .int 0])), (nq, .inr (8, [.int 0, .ref tq, .ref zq, .ref wq])), (rq, .inl (ci, 119, .inl (fun _ => 0))), (vq, .inl (cv, 16, .inl (fun _ => 0))), (oq, .inl (co, 1, .inr (.inl (vp_updL (fun _ => 0) (0 : Int32).toNatClampNeg 0)))), (h0, .inr (10, [.ref fq, .ref sq, .ref gq, .ref nq, .ref dq, .ref pq, .int 0, .int 0, .int 0])), (sbq, .inr (1, [.ref vq, .int 0, .int 0, .int 0])), (mq, .inr (11, [.int 0, .int 0, .int 0, .int 0, .ref rq, .ref sbq]))] H := hP
    have hD : va_D (fun q : Nat => s.heap.size ≤ q) [(fq, .inr (4, [.int 0, .ref tE, .int 0])), (sq, .inr (4, [.int 0, .ref tE, .int 0])), (gq, .inr (4, [.int 0, .ref tE, .int 0])), (nq, .inr (8, [.int 0, .ref tq, .ref zq, .ref wq])), (rq, .inl (ci, 119, .inl (fun _ => 0))), (vq, .inl (cv, 16, .inl (fun _ => 0))), (oq, .inl (co, 1, .inr (.inl (vp_updL (fun _ => 0) (0 : Int32).toNatClampNeg 0)))), (h0, .inr (10, [.ref fq, .ref sq, .ref gq, .ref nq, .ref dq, .ref pq, .int 0, .int 0, .int 0])), (sbq, .inr (1, [.ref vq, .int 0, .int 0, .int 0])), (mq, .inr (11, [.int 0, .int 0, .int 0, .int 0, .ref rq, .ref sbq]))] := hD
    refine W.widen (k := 50) (n := 856) (by omega) (by omega) ?_
    obtain rfl : r_109 = 0 := hw
    refine lv_iload hx hb dL_law_848 (lv_at hl 1 rfl) ?_
    refine lv_icmp_eq (tgt := 855) hx hb dL_law_850 (by decide) (fun _ => ?_) (fun c_110 => absurd (by decide) c_110)
    refine lv_iload hx hb dL_law_855 (lv_at hl 1 rfl) ?_
    refine lv_if_ne (tgt := 872) hx hb dL_law_857 (by decide) (fun c_111 => absurd (by decide) c_111) (fun _ => ?_)
    refine lv_aload_n hx hb dL_law_860 rfl (lv_at hl 3 rfl) ?_
    refine lv_iconst (v := 0) hx hb dL_law_861 (by decide) ?_
    refine va_lald hx hb hK hP 6 2 rfl rfl (by unfold vp_in; decide) dL_law_862 ?_
    refine lv_topl (fun x_112 e_113 => ?_)
    obtain rfl : x_112 = 0 := e_113.trans (by simp [vp_updL])
    refine lv_iload hx hb dL_law_863 (lv_at hl 0 rfl) ?_
    refine lv_i2l (v := 0) hx hb dL_law_865 (by decide) ?_
    refine W.lcmp hx hb dL_law_866 ?_
    refine lv_topi (fun x_114 e_115 => ?_)
    obtain rfl : x_114 = 0 := e_115.trans (cmp_self _)
    refine lv_if_eq (tgt := 872) hx hb dL_law_867 (by decide) (fun _ => ?_) (fun c_116 => absurd (by decide) c_116)
    refine lv_goto (tgt := 1303) hx hb dL_law_872 (by decide) ?_
    exact law_next l C0 (by omega) (by omega) hS ls (lv_sub hl [2, 6] rfl)
  · have hPc := hP.sub (ws' := [(h0, .inr (10, [.ref fq, .ref sq, .ref gq, .ref nq, .ref dq, .ref pq, .int 0, .int 0, .int 0]))]) [0] rfl
    have hDc := hD.sub (ws' := [(h0, .inr (10, [.ref fq, .ref sq, .ref gq, .ref nq, .ref dq, .ref pq, .int 0, .int 0, .int 0]))]) [0] (by decide) rfl
    have hKc := hK.sub (tys' := []) [] rfl
    have hFc := va_free (wc := [(h0, .inr (10, [.ref fq, .ref sq, .ref gq, .ref nq, .ref dq, .ref pq, .int 0, .int 0, .int 0]))]) hD hS hA [0] rfl
    refine va_calli (vx_runSW (As := [.ref h0, .int y1, .ref oq]) (rest := []) ⟨hx, hb, hml, hown, hts⟩ (w_count_f l hl9 dC dI tE h0 fq sq gq nq dq pq 0 0 0 y1 oq _ h) (vx_cwSW 3 hts (goodIn_app (goodIn_r _ [235, 236, 52] (by rfl) (by decide +kernel)) gt_law_w_count_f) rfl rfl rfl (by decide +kernel) ⟨Nat.le_of_ble_eq_true rfl, Nat.le_of_ble_eq_true rfl⟩) ⟨Pre0.blind, Pre0.give hPc hKc hDc hT hS hFc⟩ rfl rfl hl.1 rfl (lv_room (Nat.le_of_ble_eq_true rfl)) dL_law_827 ⟨Nat.le_of_ble_eq_true rfl, Nat.le_of_ble_eq_true rfl⟩) hS (fun q _ h => hFc q h) hFc (fun r_117 u t H1 locs ht hvm hw hB hz1 hk1 hS => ?_)
    obtain ⟨hP1, hK1, hD1⟩ := hB
    rw [ht] at hP1
    have hK1 := va_K.moved hvm.symm hK1
    obtain ⟨hP, hD⟩ := va_join (wr := [(fq, .inr (4, [.int 0, .ref tE, .int 0])), (sq, .inr (4, [.int 0, .ref tE, .int 0])), (gq, .inr (4, [.int 0, .ref tE, .int 0])), (nq, .inr (8, [.int 0, .ref tq, .ref zq, .ref wq])), (mq, .inr (11, [.int 0, .int 0, .int 0, .int 0, .ref rq, .ref sbq])), (rq, .inl (ci, 119, .inl (fun _ => 0))), (sbq, .inr (1, [.ref vq, .int 0, .int 0, .int 0])), (vq, .inl (cv, 16, .inl (fun _ => 0))), (oq, .inl (co, 1, .inr (.inl (fun _ => 0))))]) (w1 := [(h0, .inr (10, [.ref fq, .ref sq, .ref gq, .ref nq, .ref dq, .ref pq, .int 0, .int 0, .int 0]))]) hP hD [0] [1, 2, 3, 4, 5, 6, 7, 8, 9] rfl rfl (by decide) (by decide) hk1 hFc hP1 hD1
    generalize H1 = H at hP hS ⊢
    have hP : va_P (dC, dI) vwCl [(fq, .inr (4, [.int 0, .ref tE, .int 0])), (sq, .inr (4, [.int 0, .ref tE, .int 0])), (gq, .inr (4, [.int 0, .ref tE, .int 0])), (nq, .inr (8, [.int 0, .ref tq, .ref zq, .ref wq])), (mq, .inr (11, [.int 0, .int 0, .int 0, .int 0, .ref rq, .ref sbq])), (rq, .inl (ci, 119, .inl (fun _ => 0))), (sbq, .inr (1, [.ref vq, .int 0, .int 0, .int 0])), (vq, .inl (cv, 16, .inl (fun _ => 0))), (oq, .inl (co, 1, .inr (.inl (fun _ => 0)))), (h0, .inr (10, [.ref fq, .ref sq, .ref gq, .ref nq, .ref dq, .ref pq, .int 0, .int 0, .int 0]))] H := hP
    have hD : va_D (fun q : Nat => s.heap.size ≤ q) [(fq, .inr (4, [.int 0, .ref tE, .int 0])), (sq, .inr (4, [.int 0, .ref tE, .int 0])), (gq, .inr (4, [.int 0, .ref tE, .int 0])), (nq, .inr (8, [.int 0, .ref tq, .ref zq, .ref wq])), (mq, .inr (11, [.int 0, .int 0, .int 0, .int 0, .ref rq, .ref sbq])), (rq, .inl (ci, 119, .inl (fun _ => 0))), (sbq, .inr (1, [.ref vq, .int 0, .int 0, .int 0])), (vq, .inl (cv, 16, .inl (fun _ => 0))), (oq, .inl (co, 1, .inr (.inl (fun _ => 0)))), (h0, .inr (10, [.ref fq, .ref sq, .ref gq, .ref nq, .ref dq, .ref pq, .int 0, .int 0, .int 0]))] := hD
    refine W.widen (k := 51) (n := 862) (by omega) (by omega) ?_
    obtain rfl : r_117 = 1 := hw
    refine lv_istore (lv' := [(5, .int 1), (4, .int 0), (3, .ref oq), (2, .ref mq), (1, .ref h0), (0, .ref b)]) hx hb dL_law_830 hl (by decide) rfl (fun ls hl => ?_)
    refine lv_aload_n hx hb dL_law_832 rfl (lv_at hl 3 rfl) ?_
    refine lv_aload_n hx hb dL_law_833 rfl (lv_at hl 5 rfl) ?_
    refine lv_iload hx hb dL_law_834 (lv_at hl 1 rfl) ?_
    refine lv_iconst (v := 1) hx hb dL_law_836 (by decide) ?_
    refine lv_iadd hx hb dL_law_837 ?_
    refine lv_topi (fun x_118 e_119 => ?_)
    obtain rfl : x_118 = 1 := e_119.trans (by decide)
    refine va_sld hx hb hX hbl hbA hS (by unfold vp_in; decide) dL_law_838 ?_
    refine lv_topi (fun x_120 e_121 => ?_)
    obtain rfl : y1 = x_120 := ey1.trans e_121.symm
    have hPc := hP.sub (ws' := [(mq, .inr (11, [.int 0, .int 0, .int 0, .int 0, .ref rq, .ref sbq]))]) [4] rfl
    have hDc := hD.sub (ws' := [(mq, .inr (11, [.int 0, .int 0, .int 0, .int 0, .ref rq, .ref sbq]))]) [4] (by decide) rfl
    have hKc := hK.sub (tys' := []) [] rfl
    have hFc := va_free (wc := [(mq, .inr (11, [.int 0, .int 0, .int 0, .int 0, .ref rq, .ref sbq]))]) hD hS hA [4] rfl
    refine va_calli (va_runV (As := [.int y1]) (rest := []) ⟨hx, hb, hml, hown, hts⟩ (c_M_count_f l hl9 dC dI tE mq rq sbq 0 y1 _ (by first | assumption | decide | omega)) (cwV 1 hts (goodIn_app (goodIn_r _ [242, 243, 244, 58] (by rfl) (by decide +kernel)) gg_law_c_M_count_f) rfl rfl rfl (by decide +kernel) ⟨Nat.le_of_ble_eq_true rfl, Nat.le_of_ble_eq_true rfl⟩) ⟨Pre0.blind, va_recv hKc hPc (ci := 11) (q0 := 0) rfl rfl, Pre0.give hPc hKc hDc hT hS hFc⟩ rfl rfl hl.1 rfl (lv_room (Nat.le_of_ble_eq_true rfl)) dL_law_839 ⟨Nat.le_of_ble_eq_true rfl, Nat.le_of_ble_eq_true rfl⟩) hS (fun q _ h => hFc q h) hFc (fun r_122 u t H1 locs ht hvm hw hB hz1 hk1 hS => ?_)
    obtain ⟨hP1, hK1, hD1⟩ := hB
    rw [ht] at hP1
    have hK1 := va_K.moved hvm.symm hK1
    obtain ⟨hP, hD⟩ := va_join (wr := [(fq, .inr (4, [.int 0, .ref tE, .int 0])), (sq, .inr (4, [.int 0, .ref tE, .int 0])), (gq, .inr (4, [.int 0, .ref tE, .int 0])), (nq, .inr (8, [.int 0, .ref tq, .ref zq, .ref wq])), (rq, .inl (ci, 119, .inl (fun _ => 0))), (sbq, .inr (1, [.ref vq, .int 0, .int 0, .int 0])), (vq, .inl (cv, 16, .inl (fun _ => 0))), (oq, .inl (co, 1, .inr (.inl (fun _ => 0)))), (h0, .inr (10, [.ref fq, .ref sq, .ref gq, .ref nq, .ref dq, .ref pq, .int 0, .int 0, .int 0]))]) (w1 := [(mq, .inr (11, [.int 1, .int 0, .int 0, .int 0, .ref rq, .ref sbq]))]) hP hD [4] [0, 1, 2, 3, 5, 6, 7, 8, 9] rfl rfl (by decide) (by decide) hk1 hFc hP1 hD1
    generalize H1 = H at hP hS ⊢
    have hP : va_P (dC, dI) vwCl [(fq, .inr (4, [.int 0, .ref tE, .int 0])), (sq, .inr (4, [.int 0, .ref tE, .int 0])), (gq, .inr (4, [.int 0, .ref tE, .int 0])), (nq, .inr (8, [.int 0, .ref tq, .ref zq, .ref wq])), (rq, .inl (ci, 119, .inl (fun _ => 0))), (sbq, .inr (1, [.ref vq, .int 0, .int 0, .int 0])), (vq, .inl (cv, 16, .inl (fun _ => 0))), (oq, .inl (co, 1, .inr (.inl (fun _ => 0)))), (h0, .inr (10, [.ref fq, .ref sq, .ref gq, .ref nq, .ref dq, .ref pq, .int 0, .int 0, .int 0])), (mq, .inr (11, [.int 1, .int 0, .int 0, .int 0, .ref rq, .ref sbq]))] H := hP
    have hD : va_D (fun q : Nat => s.heap.size ≤ q) [(fq, .inr (4, [.int 0, .ref tE, .int 0])), (sq, .inr (4, [.int 0, .ref tE, .int 0])), (gq, .inr (4, [.int 0, .ref tE, .int 0])), (nq, .inr (8, [.int 0, .ref tq, .ref zq, .ref wq])), (rq, .inl (ci, 119, .inl (fun _ => 0))), (sbq, .inr (1, [.ref vq, .int 0, .int 0, .int 0])), (vq, .inl (cv, 16, .inl (fun _ => 0))), (oq, .inl (co, 1, .inr (.inl (fun _ => 0)))), (h0, .inr (10, [.ref fq, .ref sq, .ref gq, .ref nq, .ref dq, .ref pq, .int 0, .int 0, .int 0])), (mq, .inr (11, [.int 1, .int 0, .int 0, .int 0, .ref rq, .ref sbq]))] := hD
    refine W.widen (k := 51) (n := 862) (by omega) (by omega) ?_
    obtain rfl : r_122 = 0 := hw
    refine lv_istore (lv' := [(6, .int 0), (5, .int 1), (4, .int 0), (3, .ref oq), (2, .ref mq), (1, .ref h0), (0, .ref b)]) hx hb dL_law_842 hl (by decide) rfl (fun ls hl => ?_)
    refine lv_aload_n hx hb dL_law_844 rfl (lv_at hl 4 rfl) ?_
    have hPc := hP.sub (ws' := [(mq, .inr (11, [.int 1, .int 0, .int 0, .int 0, .ref rq, .ref sbq]))]) [9] rfl
    have hDc := hD.sub (ws' := [(mq, .inr (11, [.int 1, .int 0, .int 0, .int 0, .ref rq, .ref sbq]))]) [9] (by decide) rfl
    have hKc := hK.sub (tys' := []) [] rfl
    have hFc := va_free (wc := [(mq, .inr (11, [.int 1, .int 0, .int 0, .int 0, .ref rq, .ref sbq]))]) hD hS hA [9] rfl
    refine va_calli (va_runV (As := []) (rest := []) ⟨hx, hb, hml, hown, hts⟩ (c_M_thrown l hl9 dC dI tE mq rq sbq 1 0 0 0 _ ) (cwV 0 hts (goodIn_app (goodIn_r _ [69, 70, 71, 58] (by rfl) (by decide +kernel)) gg_law_c_M_thrown) rfl rfl rfl (by decide +kernel) ⟨Nat.le_of_ble_eq_true rfl, Nat.le_of_ble_eq_true rfl⟩) ⟨Pre0.blind, va_recv hKc hPc (ci := 11) (q0 := 0) rfl rfl, Pre0.give hPc hKc hDc hT hS hFc⟩ rfl rfl hl.1 rfl (lv_room (Nat.le_of_ble_eq_true rfl)) dL_law_845 ⟨Nat.le_of_ble_eq_true rfl, Nat.le_of_ble_eq_true rfl⟩) hS (fun q _ h => hFc q h) hFc (fun r_123 u t H1 locs ht hvm hw hB hz1 hk1 hS => ?_)
    obtain ⟨hP1, hK1, hD1⟩ := hB
    rw [ht] at hP1
    have hK1 := va_K.moved hvm.symm hK1
    obtain ⟨hP, hD⟩ := va_join (wr := [(fq, .inr (4, [.int 0, .ref tE, .int 0])), (sq, .inr (4, [.int 0, .ref tE, .int 0])), (gq, .inr (4, [.int 0, .ref tE, .int 0])), (nq, .inr (8, [.int 0, .ref tq, .ref zq, .ref wq])), (rq, .inl (ci, 119, .inl (fun _ => 0))), (sbq, .inr (1, [.ref vq, .int 0, .int 0, .int 0])), (vq, .inl (cv, 16, .inl (fun _ => 0))), (oq, .inl (co, 1, .inr (.inl (fun _ => 0)))), (h0, .inr (10, [.ref fq, .ref sq, .ref gq, .ref nq, .ref dq, .ref pq, .int 0, .int 0, .int 0]))]) (w1 := [(mq, .inr (11, [.int 1, .int 0, .int 0, .int 0, .ref rq, .ref sbq]))]) hP hD [9] [0, 1, 2, 3, 4, 5, 6, 7, 8] rfl rfl (by decide) (by decide) hk1 hFc hP1 hD1
    generalize H1 = H at hP hS ⊢
    have hP : va_P (dC, dI) vwCl [(fq, .inr (4, [.int 0, .ref tE, .int 0])), (sq, .inr (4, [.int 0, .ref tE, .int 0])), (gq, .inr (4, [.int 0, .ref tE, .int 0])), (nq, .inr (8, [.int 0, .ref tq, .ref zq, .ref wq])), (rq, .inl (ci, 119, .inl (fun _ => 0))), (sbq, .inr (1, [.ref vq, .int 0, .int 0, .int 0])), (vq, .inl (cv, 16, .inl (fun _ => 0))), (oq, .inl (co, 1, .inr (.inl (fun _ => 0)))), (h0, .inr (10, [.ref fq, .ref sq, .ref gq, .ref nq, .ref dq, .ref pq, .int 0, .int 0, .int 0])), (mq, .inr (11, [.int 1, .int 0, .int 0, .int 0, .ref rq, .ref sbq]))] H := hP
    have hD : va_D (fun q : Nat => s.heap.size ≤ q) [(fq, .inr (4, [.int 0, .ref tE, .int 0])), (sq, .inr (4, [.int 0, .ref tE, .int 0])), (gq, .inr (4, [.int 0, .ref tE, .int 0])), (nq, .inr (8, [.int 0, .ref tq, .ref zq, .ref wq])), (rq, .inl (ci, 119, .inl (fun _ => 0))), (sbq, .inr (1, [.ref vq, .int 0, .int 0, .int 0])), (vq, .inl (cv, 16, .inl (fun _ => 0))), (oq, .inl (co, 1, .inr (.inl (fun _ => 0)))), (h0, .inr (10, [.ref fq, .ref sq, .ref gq, .ref nq, .ref dq, .ref pq, .int 0, .int 0, .int 0])), (mq, .inr (11, [.int 1, .int 0, .int 0, .int 0, .ref rq, .ref sbq]))] := hD
    refine W.widen (k := 51) (n := 862) (by omega) (by omega) ?_
    obtain rfl : r_123 = 1 := hw
    refine lv_iload hx hb dL_law_848 (lv_at hl 1 rfl) ?_
    refine lv_icmp_eq (tgt := 855) hx hb dL_law_850 (by decide) (fun _ => ?_) (fun c_124 => absurd (by decide) c_124)
    refine lv_iload hx hb dL_law_855 (lv_at hl 1 rfl) ?_
    refine lv_if_ne (tgt := 872) hx hb dL_law_857 (by decide) (fun _ => ?_) (fun c_125 => absurd c_125 (by decide))
    refine lv_goto (tgt := 1303) hx hb dL_law_872 (by decide) ?_
    exact law_next l C0 (by omega) (by omega) hS ls (lv_sub hl [2, 6] rfl)
set_option maxHeartbeats 4000000 in
set_option maxRecDepth 100000 in
theorem law_ring {p : Program} {e : Env} {s : State} {m : MethodId} {below : List Frame} {meth : Method} {c : Code} (l : Launch) (hl9 : l.stackTraces = false) {b : Nat} {xs : Nat → Int32} (C0 : lw_At p s m meth c b 4 xs) (dC : Nat → ClassId) (dI : Nat → Nat → Nat) (tE : Nat) (h0 fq sq gq nq tq zq wq dq pq mq rq sbq vq oq : Nat) (ci cv co : ClassId) (hT : tK tE (fun q : Nat => s.heap.size ≤ q) s s.heap) (hK : va_K (dC, dI) vwCl [(ci, .int), (cv, .byte), (co, .long)] s) {H : Heap} {locs : List Loc} (hP : va_P (dC, dI) vwCl [(h0, .inr (10, [.ref fq, .ref sq, .ref gq, .ref nq, .ref dq, .ref pq, .int 0, .int 0, .int 0])), (fq, .inr (4, [.int 0, .ref tE, .int 0])), (sq, .inr (4, [.int 0, .ref tE, .int 0])), (gq, .inr (4, [.int 0, .ref tE, .int 0])), (nq, .inr (8, [.int 0, .ref tq, .ref zq, .ref wq])), (mq, .inr (11, [.int 0, .int 0, .int 0, .int 0, .ref rq, .ref sbq])), (rq, .inl (ci, 119, .inl (fun _ => 0))), (sbq, .inr (1, [.ref vq, .int 0, .int 0, .int 0])), (vq, .inl (cv, 16, .inl (fun _ => 0))), (oq, .inl (co, 1, .inr (.inl (fun _ => 0))))] H) (hD : va_D (fun q : Nat => s.heap.size ≤ q) [(h0, .inr (10, [.ref fq, .ref sq, .ref gq, .ref nq, .ref dq, .ref pq, .int 0, .int 0, .int 0])), (fq, .inr (4, [.int 0, .ref tE, .int 0])), (sq, .inr (4, [.int 0, .ref tE, .int 0])), (gq, .inr (4, [.int 0, .ref tE, .int 0])), (nq, .inr (8, [.int 0, .ref tq, .ref zq, .ref wq])), (mq, .inr (11, [.int 0, .int 0, .int 0, .int 0, .ref rq, .ref sbq])), (rq, .inl (ci, 119, .inl (fun _ => 0))), (sbq, .inr (1, [.ref vq, .int 0, .int 0, .int 0])), (vq, .inl (cv, 16, .inl (fun _ => 0))), (oq, .inl (co, 1, .inr (.inl (fun _ => 0))))]) (hS : va_S (fun q : Nat => s.heap.size ≤ q) s.heap H locs) (ls : Array Slot) (hl : lv_has ls 9 [(4, .int 0), (3, .ref oq), (2, .ref mq), (1, .ref h0), (0, .ref b)]) : W p l e room_1 s m #[Value.ref b] below meth c H locs 50 856 (lw_Z below #[Value.ref b] s) (F0 m 875 ls []) := by
  obtain ⟨hx, hb, hr, hml, hown, hts, hX, hbl, hlocks, hgv⟩ := id C0
  have hts := law_hts hts
  have hA : ∀ q : Nat, s.heap.size ≤ q → (fun q : Nat => s.heap.size ≤ q) q := fun _ h => h
  have hbA : ¬ (fun q : Nat => s.heap.size ≤ q) b := Nat.not_le.mpr hbl
  refine lv_aload_n hx hb dL_law_875 rfl (lv_at hl 3 rfl) ?_
  refine lv_aload_n hx hb dL_law_876 rfl (lv_at hl 4 rfl) ?_
  refine lv_iload hx hb dL_law_877 (lv_at hl 0 rfl) ?_
  refine lv_iconst (v := 1) hx hb dL_law_879 (by decide) ?_
  refine lv_iadd hx hb dL_law_880 ?_
  refine lv_topi (fun x_1 e_2 => ?_)
  obtain rfl : x_1 = 1 := e_2.trans (by decide)
  refine va_sld hx hb hX hbl hbA hS (by unfold vp_in; decide) dL_law_881 ?_
  refine lv_topi (fun y1 ey1 => ?_)
  refine lv_aload_n hx hb dL_law_882 rfl (lv_at hl 1 rfl) ?_
  rcases cs03 y1 with ⟨h1, h2⟩ | h
  · have hPc := hP.sub (ws' := [(h0, .inr (10, [.ref fq, .ref sq, .ref gq, .ref nq, .ref dq, .ref pq, .int 0, .int 0, .int 0])), (fq, .inr (4, [.int 0, .ref tE, .int 0])), (sq, .inr (4, [.int 0, .ref tE, .int 0])), (gq, .inr (4, [.int 0, .ref tE, .int 0])), (nq, .inr (8, [.int 0, .ref tq, .ref zq, .ref wq])), (oq, .inl (co, 1, .inr (.inl (fun _ => 0))))]) [0, 1, 2, 3, 4, 9] rfl
    have hDc := hD.sub (ws' := [(h0, .inr (10, [.ref fq, .ref sq, .ref gq, .ref nq, .ref dq, .ref pq, .int 0, .int 0, .int 0])), (fq, .inr (4, [.int 0, .ref tE, .int 0])), (sq, .inr (4, [.int 0, .ref tE, .int 0])), (gq, .inr (4, [.int 0, .ref tE, .int 0])), (nq, .inr (8, [.int 0, .ref tq, .ref zq, .ref wq])), (oq, .inl (co, 1, .inr (.inl (fun _ => 0))))]) [0, 1, 2, 3, 4, 9] (by decide) rfl
    have hKc := hK.sub (tys' := [(co, .long)]) [2] rfl
    have hFc := va_free (wc := [(h0, .inr (10, [.ref fq, .ref sq, .ref gq, .ref nq, .ref dq, .ref pq, .int 0, .int 0, .int 0])), (fq, .inr (4, [.int 0, .ref tE, .int 0])), (sq, .inr (4, [.int 0, .ref tE, .int 0])), (gq, .inr (4, [.int 0, .ref tE, .int 0])), (nq, .inr (8, [.int 0, .ref tq, .ref zq, .ref wq])), (oq, .inl (co, 1, .inr (.inl (fun _ => 0))))]) hD hS hA [0, 1, 2, 3, 4, 9] rfl
    refine va_calli (vx_runSW (As := [.ref h0, .int y1, .ref oq]) (rest := []) ⟨hx, hb, hml, hown, hts⟩ (w_ring_t l hl9 dC dI tE h0 fq sq gq nq dq pq 0 0 0 0 0 0 tq zq wq 0 y1 oq co (fun _ => 0) _ h1 h2) (vx_cwSW 3 hts (goodIn_app (goodIn_r _ [295, 296, 52] (by rfl) (by decide +kernel)) gg_law_w_ring_t) rfl rfl rfl (by decide +kernel) ⟨Nat.le_of_ble_eq_true rfl, Nat.le_of_ble_eq_true rfl⟩) ⟨Pre0.blind, Pre0.give hPc hKc hDc hT hS hFc⟩ rfl rfl hl.1 rfl (lv_room (Nat.le_of_ble_eq_true rfl)) dL_law_883 ⟨Nat.le_of_ble_eq_true rfl, Nat.le_of_ble_eq_true rfl⟩) hS (fun q _ h => hFc q h) hFc (fun r_5 u t H1 locs ht hvm hw hB hz1 hk1 hS => ?_)
    obtain ⟨vx_6, vx_7, vx_8, hP1, hK1, hD1⟩ := hB
    rw [ht] at hP1
    have hK1 := va_K.moved hvm.symm hK1
    obtain ⟨hP, hD⟩ := va_join (wr := [(mq, .inr (11, [.int 0, .int 0, .int 0, .int 0, .ref rq, .ref sbq])), (rq, .inl (ci, 119, .inl (fun _ => 0))), (sbq, .inr (1, [.ref vq, .int 0, .int 0, .int 0])), (vq, .inl (cv, 16, .inl (fun _ => 0)))]) (w1 := [(oq, .inl (co, 1, .inr (.inl (vp_updL (fun _ => 0) (0 : Int32).toNatClampNeg 0)))), (h0, .inr (10, [.ref fq, .ref sq, .ref gq, .ref nq, .ref dq, .ref pq, .int 0, .int vx_6, .int vx_7])), (nq, .inr (8, [.int vx_8, .ref tq, .ref zq, .ref wq])), (fq, .inr (4, [.int 0, .ref tE, .int 0])), (sq, .inr (4, [.int 0, .ref tE, .int 0])), (gq, .inr (4, [.int 0, .ref tE, .int 0]))]) hP hD [0, 1, 2, 3, 4, 9] [5, 6, 7, 8] rfl rfl (by decide) (by decide) hk1 hFc hP1 hD1
    generalize H1 = H at hP hS ⊢
    have hP : va_P (dC, dI) vwCl [(mq, .inr (11, [.int 0, .int 0, .int 0, .int 0, .ref rq, .ref sbq])), (rq, .inl (ci, 119, .inl (fun _ => 0))), (sbq, .inr (1, [.ref vq, .int 0, .int 0, .int 0])), (vq, .inl (cv, 16, .inl (fun _ => 0))), (oq, .inl (co, 1, .inr (.inl (vp_updL (fun _ => 0) (0 : Int32).toNatClampNeg 0)))), (h0, .inr (10, [.ref fq, .ref sq, .ref gq, .ref nq, .ref dq, .ref pq, .int 0, .int vx_6, .int vx_7])), (nq, .inr (8, [.int vx_8, .ref tq, .ref zq, .ref wq])), (fq, .inr (4, [.int 0, .ref tE, .int 0])), (sq, .inr (4, [.int 0, .ref tE, .int 0])), (gq, .inr (4, [.int 0, .ref tE, .int 0]))] H := hP
    have hD : va_D (fun q : Nat => s.heap.size ≤ q) [(mq, .inr (11, [.int 0, .int 0, .int 0, .int 0, .ref rq, .ref sbq])), (rq, .inl (ci, 119, .inl (fun _ => 0))), (sbq, .inr (1, [.ref vq, .int 0, .int 0, .int 0])), (vq, .inl (cv, 16, .inl (fun _ => 0))), (oq, .inl (co, 1, .inr (.inl (vp_updL (fun _ => 0) (0 : Int32).toNatClampNeg 0)))), (h0, .inr (10, [.ref fq, .ref sq, .ref gq, .ref nq, .ref dq, .ref pq, .int 0, .int vx_6, .int vx_7])), (nq, .inr (8, [.int vx_8, .ref tq, .ref zq, .ref wq])), (fq, .inr (4, [.int 0, .ref tE, .int 0])), (sq, .inr (4, [.int 0, .ref tE, .int 0])), (gq, .inr (4, [.int 0, .ref tE, .int 0]))] := hD
    refine W.widen (k := 50) (n := 856) (by omega) (by omega) ?_
    obtain rfl : r_5 = 0 := hw
    refine lv_istore (lv' := [(5, .int 0), (4, .int 0), (3, .ref oq), (2, .ref mq), (1, .ref h0), (0, .ref b)]) hx hb dL_law_886 hl (by decide) rfl (fun ls hl => ?_)
    refine lv_aload_n hx hb dL_law_888 rfl (lv_at hl 3 rfl) ?_
    refine lv_aload_n hx hb dL_law_889 rfl (lv_at hl 5 rfl) ?_
    refine lv_iload hx hb dL_law_890 (lv_at hl 1 rfl) ?_
    refine lv_iconst (v := 1) hx hb dL_law_892 (by decide) ?_
    refine lv_iadd hx hb dL_law_893 ?_
    refine lv_topi (fun x_9 e_10 => ?_)
    obtain rfl : x_9 = 1 := e_10.trans (by decide)
    refine va_sld hx hb hX hbl hbA hS (by unfold vp_in; decide) dL_law_894 ?_
    refine lv_topi (fun x_11 e_12 => ?_)
    obtain rfl : y1 = x_11 := ey1.trans e_12.symm
    have hPc := hP.sub (ws' := [(mq, .inr (11, [.int 0, .int 0, .int 0, .int 0, .ref rq, .ref sbq])), (rq, .inl (ci, 119, .inl (fun _ => 0)))]) [0, 1] rfl
    have hDc := hD.sub (ws' := [(mq, .inr (11, [.int 0, .int 0, .int 0, .int 0, .ref rq, .ref sbq])), (rq, .inl (ci, 119, .inl (fun _ => 0)))]) [0, 1] (by decide) rfl
    have hKc := hK.sub (tys' := [(ci, .int)]) [0] rfl
    have hFc := va_free (wc := [(mq, .inr (11, [.int 0, .int 0, .int 0, .int 0, .ref rq, .ref sbq])), (rq, .inl (ci, 119, .inl (fun _ => 0)))]) hD hS hA [0, 1] rfl
    refine va_calli (va_runV (As := [.int y1]) (rest := []) ⟨hx, hb, hml, hown, hts⟩ (c_M_ring_t l hl9 dC dI tE mq rq sbq 0 ci (fun _ => 0) y1 _ (by first | assumption | decide | omega) (by first | assumption | decide | omega)) (cwV 1 hts (goodIn_app (goodIn_r _ [305, 306, 307, 58] (by rfl) (by decide +kernel)) gg_law_c_M_ring_t) rfl rfl rfl (by decide +kernel) ⟨Nat.le_of_ble_eq_true rfl, Nat.le_of_ble_eq_true rfl⟩) ⟨Pre0.blind, va_recv hKc hPc (ci := 11) (q0 := 0) rfl rfl, Pre0.give hPc hKc hDc hT hS hFc⟩ rfl rfl hl.1 rfl (lv_room (Nat.le_of_ble_eq_true rfl)) dL_law_895 ⟨Nat.le_of_ble_eq_true rfl, Nat.le_of_ble_eq_true rfl⟩) hS (fun q _ h => hFc q h) hFc (fun r_13 u t H1 locs ht hvm hw hB hz1 hk1 hS => ?_)
    obtain ⟨fx_14, hP1, hK1, hD1⟩ := hB
    rw [ht] at hP1
    have hK1 := va_K.moved hvm.symm hK1
    obtain ⟨hP, hD⟩ := va_join (wr := [(sbq, .inr (1, [.ref vq, .int 0, .int 0, .int 0])), (vq, .inl (cv, 16, .inl (fun _ => 0))), (oq, .inl (co, 1, .inr (.inl (vp_updL (fun _ => 0) (0 : Int32).toNatClampNeg 0)))), (h0, .inr (10, [.ref fq, .ref sq, .ref gq, .ref nq, .ref dq, .ref pq, .int 0, .int vx_6, .int vx_7])), (nq, .inr (8, [.int vx_8, .ref tq, .ref zq, .ref wq])), (fq, .inr (4, [.int 0, .ref tE, .int 0])), (sq, .inr (4, [.int 0, .ref tE, .int 0])), (gq, .inr (4, [.int 0, .ref tE, .int 0]))]) (w1 := [(mq, .inr (11, [.int 0, .int 0, .int 0, .int 0, .ref rq, .ref sbq])), (rq, .inl (ci, 119, .inl fx_14))]) hP hD [0, 1] [2, 3, 4, 5, 6, 7, 8, 9] rfl rfl (by decide) (by decide) hk1 hFc hP1 hD1
    generalize H1 = H at hP hS ⊢
    have hP : va_P (dC, dI) vwCl [(sbq, .inr (1, [.ref vq, .int 0, .int 0, .int 0])), (vq, .inl (cv, 16, .inl (fun _ => 0))), (oq, .inl (co, 1, .inr (.inl (vp_updL (fun _ => 0) (0 : Int32).toNatClampNeg 0)))), (h0, .inr (10, [.ref fq, .ref sq, .ref gq, .ref nq, .ref dq, .ref pq, .int 0, .int vx_6, .int vx_7])), (nq, .inr (8, [.int vx_8, .ref tq, .ref zq, .ref wq])), (fq, .inr (4, [.int 0, .ref tE, .int 0])), (sq, .inr (4, [.int 0, .ref tE, .int 0])), (gq, .inr (4, [.int 0, .ref tE, .int 0])), (mq, .inr (11, [.int 0, .int 0, .int 0, .int 0, .ref rq, .ref sbq])), (rq, .inl (ci, 119, .inl fx_14))] H := hP
    have hD : va_D (fun q : Nat => s.heap.size ≤ q) [(sbq, .inr (1, [.ref vq, .int 0, .int 0, .int 0])), (vq, .inl (cv, 16, .inl (fun _ => 0))), (oq, .inl (co, 1, .inr (.inl (vp_updL (fun _ => 0) (0 : Int32).toNatClampNeg 0)))), (h0, .inr (10, [.ref fq, .ref sq, .ref gq, .ref nq, .ref dq, .ref pq, .int 0, .int vx_6, .int vx_7])), (nq, .inr (8, [.int vx_8, .ref tq, .ref zq, .ref wq])), (fq, .inr (4, [.int 0, .ref tE, .int 0])), (sq, .inr (4, [.int 0, .ref tE, .int 0])), (gq, .inr (4, [.int 0, .ref tE, .int 0])), (mq, .inr (11, [.int 0, .int 0, .int 0, .int 0, .ref rq, .ref sbq])), (rq, .inl (ci, 119, .inl fx_14))] := hD
    refine W.widen (k := 50) (n := 856) (by omega) (by omega) ?_
    obtain rfl : r_13 = 0 := hw
    refine lv_istore (lv' := [(6, .int 0), (5, .int 0), (4, .int 0), (3, .ref oq), (2, .ref mq), (1, .ref h0), (0, .ref b)]) hx hb dL_law_898 hl (by decide) rfl (fun ls hl => ?_)
    refine lv_aload_n hx hb dL_law_900 rfl (lv_at hl 4 rfl) ?_
    have hPc := hP.sub (ws' := [(mq, .inr (11, [.int 0, .int 0, .int 0, .int 0, .ref rq, .ref sbq]))]) [8] rfl
    have hDc := hD.sub (ws' := [(mq, .inr (11, [.int 0, .int 0, .int 0, .int 0, .ref rq, .ref sbq]))]) [8] (by decide) rfl
    have hKc := hK.sub (tys' := []) [] rfl
    have hFc := va_free (wc := [(mq, .inr (11, [.int 0, .int 0, .int 0, .int 0, .ref rq, .ref sbq]))]) hD hS hA [8] rfl
    refine va_calli (va_runV (As := []) (rest := []) ⟨hx, hb, hml, hown, hts⟩ (c_M_thrown l hl9 dC dI tE mq rq sbq 0 0 0 0 _ ) (cwV 0 hts (goodIn_app (goodIn_r _ [69, 70, 71, 58] (by rfl) (by decide +kernel)) gg_law_c_M_thrown) rfl rfl rfl (by decide +kernel) ⟨Nat.le_of_ble_eq_true rfl, Nat.le_of_ble_eq_true rfl⟩) ⟨Pre0.blind, va_recv hKc hPc (ci := 11) (q0 := 0) rfl rfl, Pre0.give hPc hKc hDc hT hS hFc⟩ rfl rfl hl.1 rfl (lv_room (Nat.le_of_ble_eq_true rfl)) dL_law_901 ⟨Nat.le_of_ble_eq_true rfl, Nat.le_of_ble_eq_true rfl⟩) hS (fun q _ h => hFc q h) hFc (fun r_15 u t H1 locs ht hvm hw hB hz1 hk1 hS => ?_)
    obtain ⟨hP1, hK1, hD1⟩ := hB
    rw [ht] at hP1
    have hK1 := va_K.moved hvm.symm hK1
    obtain ⟨hP, hD⟩ := va_join (wr := [(sbq, .inr (1, [.ref vq, .int 0, .int 0, .int 0])), (vq, .inl (cv, 16, .inl (fun _ => 0))), (oq, .inl (co, 1, .inr (.inl (vp_updL (fun _ => 0) (0 : Int32).toNatClampNeg 0)))), (h0, .inr (10, [.ref fq, .ref sq, .ref gq, .ref nq, .ref dq, .ref pq, .int 0, .int vx_6, .int vx_7])), (nq, .inr (8, [.int vx_8, .ref tq, .ref zq, .ref wq])), (fq, .inr (4, [.int 0, .ref tE, .int 0])), (sq, .inr (4, [.int 0, .ref tE, .int 0])), (gq, .inr (4, [.int 0, .ref tE, .int 0])), (rq, .inl (ci, 119, .inl fx_14))]) (w1 := [(mq, .inr (11, [.int 0, .int 0, .int 0, .int 0, .ref rq, .ref sbq]))]) hP hD [8] [0, 1, 2, 3, 4, 5, 6, 7, 9] rfl rfl (by decide) (by decide) hk1 hFc hP1 hD1
    generalize H1 = H at hP hS ⊢
    have hP : va_P (dC, dI) vwCl [(sbq, .inr (1, [.ref vq, .int 0, .int 0, .int 0])), (vq, .inl (cv, 16, .inl (fun _ => 0))), (oq, .inl (co, 1, .inr (.inl (vp_updL (fun _ => 0) (0 : Int32).toNatClampNeg 0)))), (h0, .inr (10, [.ref fq, .ref sq, .ref gq, .ref nq, .ref dq, .ref pq, .int 0, .int vx_6, .int vx_7])), (nq, .inr (8, [.int vx_8, .ref tq, .ref zq, .ref wq])), (fq, .inr (4, [.int 0, .ref tE, .int 0])), (sq, .inr (4, [.int 0, .ref tE, .int 0])), (gq, .inr (4, [.int 0, .ref tE, .int 0])), (rq, .inl (ci, 119, .inl fx_14)), (mq, .inr (11, [.int 0, .int 0, .int 0, .int 0, .ref rq, .ref sbq]))] H := hP
    have hD : va_D (fun q : Nat => s.heap.size ≤ q) [(sbq, .inr (1, [.ref vq, .int 0, .int 0, .int 0])), (vq, .inl (cv, 16, .inl (fun _ => 0))), (oq, .inl (co, 1, .inr (.inl (vp_updL (fun _ => 0) (0 : Int32).toNatClampNeg 0)))), (h0, .inr (10, [.ref fq, .ref sq, .ref gq, .ref nq, .ref dq, .ref pq, .int 0, .int vx_6, .int vx_7])), (nq, .inr (8, [.int vx_8, .ref tq, .ref zq, .ref wq])), (fq, .inr (4, [.int 0, .ref tE, .int 0])), (sq, .inr (4, [.int 0, .ref tE, .int 0])), (gq, .inr (4, [.int 0, .ref tE, .int 0])), (rq, .inl (ci, 119, .inl fx_14)), (mq, .inr (11, [.int 0, .int 0, .int 0, .int 0, .ref rq, .ref sbq]))] := hD
    refine W.widen (k := 50) (n := 856) (by omega) (by omega) ?_
    obtain rfl : r_15 = 0 := hw
    refine lv_iload hx hb dL_law_904 (lv_at hl 1 rfl) ?_
    refine lv_icmp_eq (tgt := 911) hx hb dL_law_906 (by decide) (fun _ => ?_) (fun c_16 => absurd (by decide) c_16)
    refine lv_iload hx hb dL_law_911 (lv_at hl 1 rfl) ?_
    refine lv_if_ne (tgt := 928) hx hb dL_law_913 (by decide) (fun c_17 => absurd (by decide) c_17) (fun _ => ?_)
    refine lv_aload_n hx hb dL_law_916 rfl (lv_at hl 3 rfl) ?_
    refine lv_iconst (v := 0) hx hb dL_law_917 (by decide) ?_
    refine va_lald hx hb hK hP 2 2 rfl rfl (by unfold vp_in; decide) dL_law_918 ?_
    refine lv_topl (fun x_18 e_19 => ?_)
    obtain rfl : x_18 = 0 := e_19.trans (by simp [vp_updL])
    refine lv_iload hx hb dL_law_919 (lv_at hl 0 rfl) ?_
    refine lv_i2l (v := 0) hx hb dL_law_921 (by decide) ?_
    refine W.lcmp hx hb dL_law_922 ?_
    refine lv_topi (fun x_20 e_21 => ?_)
    obtain rfl : x_20 = 0 := e_21.trans (cmp_self _)
    refine lv_if_eq (tgt := 928) hx hb dL_law_923 (by decide) (fun _ => ?_) (fun c_22 => absurd (by decide) c_22)
    refine lv_goto (tgt := 1303) hx hb dL_law_928 (by decide) ?_
    exact law_next l C0 (by omega) (by omega) hS ls (lv_sub hl [2, 6] rfl)
  · have hPc := hP.sub (ws' := [(h0, .inr (10, [.ref fq, .ref sq, .ref gq, .ref nq, .ref dq, .ref pq, .int 0, .int 0, .int 0]))]) [0] rfl
    have hDc := hD.sub (ws' := [(h0, .inr (10, [.ref fq, .ref sq, .ref gq, .ref nq, .ref dq, .ref pq, .int 0, .int 0, .int 0]))]) [0] (by decide) rfl
    have hKc := hK.sub (tys' := []) [] rfl
    have hFc := va_free (wc := [(h0, .inr (10, [.ref fq, .ref sq, .ref gq, .ref nq, .ref dq, .ref pq, .int 0, .int 0, .int 0]))]) hD hS hA [0] rfl
    refine va_calli (vx_runSW (As := [.ref h0, .int y1, .ref oq]) (rest := []) ⟨hx, hb, hml, hown, hts⟩ (w_ring_f l hl9 dC dI tE h0 fq sq gq nq dq pq 0 0 0 y1 oq _ h) (vx_cwSW 3 hts (goodIn_app (goodIn_r _ [295, 296, 52] (by rfl) (by decide +kernel)) gt_law_w_ring_f) rfl rfl rfl (by decide +kernel) ⟨Nat.le_of_ble_eq_true rfl, Nat.le_of_ble_eq_true rfl⟩) ⟨Pre0.blind, Pre0.give hPc hKc hDc hT hS hFc⟩ rfl rfl hl.1 rfl (lv_room (Nat.le_of_ble_eq_true rfl)) dL_law_883 ⟨Nat.le_of_ble_eq_true rfl, Nat.le_of_ble_eq_true rfl⟩) hS (fun q _ h => hFc q h) hFc (fun r_23 u t H1 locs ht hvm hw hB hz1 hk1 hS => ?_)
    obtain ⟨hP1, hK1, hD1⟩ := hB
    rw [ht] at hP1
    have hK1 := va_K.moved hvm.symm hK1
    obtain ⟨hP, hD⟩ := va_join (wr := [(fq, .inr (4, [.int 0, .ref tE, .int 0])), (sq, .inr (4, [.int 0, .ref tE, .int 0])), (gq, .inr (4, [.int 0, .ref tE, .int 0])), (nq, .inr (8, [.int 0, .ref tq, .ref zq, .ref wq])), (mq, .inr (11, [.int 0, .int 0, .int 0, .int 0, .ref rq, .ref sbq])), (rq, .inl (ci, 119, .inl (fun _ => 0))), (sbq, .inr (1, [.ref vq, .int 0, .int 0, .int 0])), (vq, .inl (cv, 16, .inl (fun _ => 0))), (oq, .inl (co, 1, .inr (.inl (fun _ => 0))))]) (w1 := [(h0, .inr (10, [.ref fq, .ref sq, .ref gq, .ref nq, .ref dq, .ref pq, .int 0, .int 0, .int 0]))]) hP hD [0] [1, 2, 3, 4, 5, 6, 7, 8, 9] rfl rfl (by decide) (by decide) hk1 hFc hP1 hD1
    generalize H1 = H at hP hS ⊢
    have hP : va_P (dC, dI) vwCl [(fq, .inr (4, [.int 0, .ref tE, .int 0])), (sq, .inr (4, [.int 0, .ref tE, .int 0])), (gq, .inr (4, [.int 0, .ref tE, .int 0])), (nq, .inr (8, [.int 0, .ref tq, .ref zq, .ref wq])), (mq, .inr (11, [.int 0, .int 0, .int 0, .int 0, .ref rq, .ref sbq])), (rq, .inl (ci, 119, .inl (fun _ => 0))), (sbq, .inr (1, [.ref vq, .int 0, .int 0, .int 0])), (vq, .inl (cv, 16, .inl (fun _ => 0))), (oq, .inl (co, 1, .inr (.inl (fun _ => 0)))), (h0, .inr (10, [.ref fq, .ref sq, .ref gq, .ref nq, .ref dq, .ref pq, .int 0, .int 0, .int 0]))] H := hP
    have hD : va_D (fun q : Nat => s.heap.size ≤ q) [(fq, .inr (4, [.int 0, .ref tE, .int 0])), (sq, .inr (4, [.int 0, .ref tE, .int 0])), (gq, .inr (4, [.int 0, .ref tE, .int 0])), (nq, .inr (8, [.int 0, .ref tq, .ref zq, .ref wq])), (mq, .inr (11, [.int 0, .int 0, .int 0, .int 0, .ref rq, .ref sbq])), (rq, .inl (ci, 119, .inl (fun _ => 0))), (sbq, .inr (1, [.ref vq, .int 0, .int 0, .int 0])), (vq, .inl (cv, 16, .inl (fun _ => 0))), (oq, .inl (co, 1, .inr (.inl (fun _ => 0)))), (h0, .inr (10, [.ref fq, .ref sq, .ref gq, .ref nq, .ref dq, .ref pq, .int 0, .int 0, .int 0]))] := hD
    refine W.widen (k := 51) (n := 862) (by omega) (by omega) ?_
    obtain rfl : r_23 = 1 := hw
    refine lv_istore (lv' := [(5, .int 1), (4, .int 0), (3, .ref oq), (2, .ref mq), (1, .ref h0), (0, .ref b)]) hx hb dL_law_886 hl (by decide) rfl (fun ls hl => ?_)
    refine lv_aload_n hx hb dL_law_888 rfl (lv_at hl 3 rfl) ?_
    refine lv_aload_n hx hb dL_law_889 rfl (lv_at hl 5 rfl) ?_
    refine lv_iload hx hb dL_law_890 (lv_at hl 1 rfl) ?_
    refine lv_iconst (v := 1) hx hb dL_law_892 (by decide) ?_
    refine lv_iadd hx hb dL_law_893 ?_
    refine lv_topi (fun x_24 e_25 => ?_)
    obtain rfl : x_24 = 1 := e_25.trans (by decide)
    refine va_sld hx hb hX hbl hbA hS (by unfold vp_in; decide) dL_law_894 ?_
    refine lv_topi (fun x_26 e_27 => ?_)
    obtain rfl : y1 = x_26 := ey1.trans e_27.symm
    have hPc := hP.sub (ws' := [(mq, .inr (11, [.int 0, .int 0, .int 0, .int 0, .ref rq, .ref sbq]))]) [4] rfl
    have hDc := hD.sub (ws' := [(mq, .inr (11, [.int 0, .int 0, .int 0, .int 0, .ref rq, .ref sbq]))]) [4] (by decide) rfl
    have hKc := hK.sub (tys' := []) [] rfl
    have hFc := va_free (wc := [(mq, .inr (11, [.int 0, .int 0, .int 0, .int 0, .ref rq, .ref sbq]))]) hD hS hA [4] rfl
    refine va_calli (va_runV (As := [.int y1]) (rest := []) ⟨hx, hb, hml, hown, hts⟩ (c_M_ring_f l hl9 dC dI tE mq rq sbq 0 y1 _ (by first | assumption | decide | omega)) (cwV 1 hts (goodIn_app (goodIn_r _ [305, 306, 307, 58] (by rfl) (by decide +kernel)) gg_law_c_M_ring_f) rfl rfl rfl (by decide +kernel) ⟨Nat.le_of_ble_eq_true rfl, Nat.le_of_ble_eq_true rfl⟩) ⟨Pre0.blind, va_recv hKc hPc (ci := 11) (q0 := 0) rfl rfl, Pre0.give hPc hKc hDc hT hS hFc⟩ rfl rfl hl.1 rfl (lv_room (Nat.le_of_ble_eq_true rfl)) dL_law_895 ⟨Nat.le_of_ble_eq_true rfl, Nat.le_of_ble_eq_true rfl⟩) hS (fun q _ h => hFc q h) hFc (fun r_28 u t H1 locs ht hvm hw hB hz1 hk1 hS => ?_)
    obtain ⟨hP1, hK1, hD1⟩ := hB
    rw [ht] at hP1
    have hK1 := va_K.moved hvm.symm hK1
    obtain ⟨hP, hD⟩ := va_join (wr := [(fq, .inr (4, [.int 0, .ref tE, .int 0])), (sq, .inr (4, [.int 0, .ref tE, .int 0])), (gq, .inr (4, [.int 0, .ref tE, .int 0])), (nq, .inr (8, [.int 0, .ref tq, .ref zq, .ref wq])), (rq, .inl (ci, 119, .inl (fun _ => 0))), (sbq, .inr (1, [.ref vq, .int 0, .int 0, .int 0])), (vq, .inl (cv, 16, .inl (fun _ => 0))), (oq, .inl (co, 1, .inr (.inl (fun _ => 0)))), (h0, .inr (10, [.ref fq, .ref sq, .ref gq, .ref nq, .ref dq, .ref pq, .int 0, .int 0, .int 0]))]) (w1 := [(mq, .inr (11, [.int 1, .int 0, .int 0, .int 0, .ref rq, .ref sbq]))]) hP hD [4] [0, 1, 2, 3, 5, 6, 7, 8, 9] rfl rfl (by decide) (by decide) hk1 hFc hP1 hD1
    generalize H1 = H at hP hS ⊢
    have hP : va_P (dC, dI) vwCl [(fq, .inr (4, [.int 0, .ref tE, .int 0])), (sq, .inr (4, [.int 0, .ref tE, .int 0])), (gq, .inr (4, [.int 0, .ref tE, .int 0])), (nq, .inr (8, [.int 0, .ref tq, .ref zq, .ref wq])), (rq, .inl (ci, 119, .inl (fun _ => 0))), (sbq, .inr (1, [.ref vq, .int 0, .int 0, .int 0])), (vq, .inl (cv, 16, .inl (fun _ => 0))), (oq, .inl (co, 1, .inr (.inl (fun _ => 0)))), (h0, .inr (10, [.ref fq, .ref sq, .ref gq, .ref nq, .ref dq, .ref pq, .int 0, .int 0, .int 0])), (mq, .inr (11, [.int 1, .int 0, .int 0, .int 0, .ref rq, .ref sbq]))] H := hP
    have hD : va_D (fun q : Nat => s.heap.size ≤ q) [(fq, .inr (4, [.int 0, .ref tE, .int 0])), (sq, .inr (4, [.int 0, .ref tE, .int 0])), (gq, .inr (4, [.int 0, .ref tE, .int 0])), (nq, .inr (8, [.int 0, .ref tq, .ref zq, .ref wq])), (rq, .inl (ci, 119, .inl (fun _ => 0))), (sbq, .inr (1, [.ref vq, .int 0, .int 0, .int 0])), (vq, .inl (cv, 16, .inl (fun _ => 0))), (oq, .inl (co, 1, .inr (.inl (fun _ => 0)))), (h0, .inr (10, [.ref fq, .ref sq, .ref gq, .ref nq, .ref dq, .ref pq, .int 0, .int 0, .int 0])), (mq, .inr (11, [.int 1, .int 0, .int 0, .int 0, .ref rq, .ref sbq]))] := hD
    refine W.widen (k := 51) (n := 862) (by omega) (by omega) ?_
    obtain rfl : r_28 = 0 := hw
    refine lv_istore (lv' := [(6, .int 0), (5, .int 1), (4, .int 0), (3, .ref oq), (2, .ref mq), (1, .ref h0), (0, .ref b)]) hx hb dL_law_898 hl (by decide) rfl (fun ls hl => ?_)
    refine lv_aload_n hx hb dL_law_900 rfl (lv_at hl 4 rfl) ?_
    have hPc := hP.sub (ws' := [(mq, .inr (11, [.int 1, .int 0, .int 0, .int 0, .ref rq, .ref sbq]))]) [9] rfl
    have hDc := hD.sub (ws' := [(mq, .inr (11, [.int 1, .int 0, .int 0, .int 0, .ref rq, .ref sbq]))]) [9] (by decide) rfl
    have hKc := hK.sub (tys' := []) [] rfl
    have hFc := va_free (wc := [(mq, .inr (11, [.int 1, .int 0, .int 0, .int 0, .ref rq, .ref sbq]))]) hD hS hA [9] rfl
    refine va_calli (va_runV (As := []) (rest := []) ⟨hx, hb, hml, hown, hts⟩ (c_M_thrown l hl9 dC dI tE mq rq sbq 1 0 0 0 _ ) (cwV 0 hts (goodIn_app (goodIn_r _ [69, 70, 71, 58] (by rfl) (by decide +kernel)) gg_law_c_M_thrown) rfl rfl rfl (by decide +kernel) ⟨Nat.le_of_ble_eq_true rfl, Nat.le_of_ble_eq_true rfl⟩) ⟨Pre0.blind, va_recv hKc hPc (ci := 11) (q0 := 0) rfl rfl, Pre0.give hPc hKc hDc hT hS hFc⟩ rfl rfl hl.1 rfl (lv_room (Nat.le_of_ble_eq_true rfl)) dL_law_901 ⟨Nat.le_of_ble_eq_true rfl, Nat.le_of_ble_eq_true rfl⟩) hS (fun q _ h => hFc q h) hFc (fun r_29 u t H1 locs ht hvm hw hB hz1 hk1 hS => ?_)
    obtain ⟨hP1, hK1, hD1⟩ := hB
    rw [ht] at hP1
    have hK1 := va_K.moved hvm.symm hK1
    obtain ⟨hP, hD⟩ := va_join (wr := [(fq, .inr (4, [.int 0, .ref tE, .int 0])), (sq, .inr (4, [.int 0, .ref tE, .int 0])), (gq, .inr (4, [.int 0, .ref tE, .int 0])), (nq, .inr (8, [.int 0, .ref tq, .ref zq, .ref wq])), (rq, .inl (ci, 119, .inl (fun _ => 0))), (sbq, .inr (1, [.ref vq, .int 0, .int 0, .int 0])), (vq, .inl (cv, 16, .inl (fun _ => 0))), (oq, .inl (co, 1, .inr (.inl (fun _ => 0)))), (h0, .inr (10, [.ref fq, .ref sq, .ref gq, .ref nq, .ref dq, .ref pq, .int 0, .int 0, .int 0]))]) (w1 := [(mq, .inr (11, [.int 1, .int 0, .int 0, .int 0, .ref rq, .ref sbq]))]) hP hD [9] [0, 1, 2, 3, 4, 5, 6, 7, 8] rfl rfl (by decide) (by decide) hk1 hFc hP1 hD1
    generalize H1 = H at hP hS ⊢
    have hP : va_P (dC, dI) vwCl [(fq, .inr (4, [.int 0, .ref tE, .int 0])), (sq, .inr (4, [.int 0, .ref tE, .int 0])), (gq, .inr (4, [.int 0, .ref tE, .int 0])), (nq, .inr (8, [.int 0, .ref tq, .ref zq, .ref wq])), (rq, .inl (ci, 119, .inl (fun _ => 0))), (sbq, .inr (1, [.ref vq, .int 0, .int 0, .int 0])), (vq, .inl (cv, 16, .inl (fun _ => 0))), (oq, .inl (co, 1, .inr (.inl (fun _ => 0)))), (h0, .inr (10, [.ref fq, .ref sq, .ref gq, .ref nq, .ref dq, .ref pq, .int 0, .int 0, .int 0])), (mq, .inr (11, [.int 1, .int 0, .int 0, .int 0, .ref rq, .ref sbq]))] H := hP
    have hD : va_D (fun q : Nat => s.heap.size ≤ q) [(fq, .inr (4, [.int 0, .ref tE, .int 0])), (sq, .inr (4, [.int 0, .ref tE, .int 0])), (gq, .inr (4, [.int 0, .ref tE, .int 0])), (nq, .inr (8, [.int 0, .ref tq, .ref zq, .ref wq])), (rq, .inl (ci, 119, .inl (fun _ => 0))), (sbq, .inr (1, [.ref vq, .int 0, .int 0, .int 0])), (vq, .inl (cv, 16, .inl (fun _ => 0))), (oq, .inl (co, 1, .inr (.inl (fun _ => 0)))), (h0, .inr (10, [.ref fq, .ref sq, .ref gq, .ref nq, .ref dq, .ref pq, .int 0, .int 0, .int 0])), (mq, .inr (11, [.int 1, .int 0, .int 0, .int 0, .ref rq, .ref sbq]))] := hD
    refine W.widen (k := 51) (n := 862) (by omega) (by omega) ?_
    obtain rfl : r_29 = 1 := hw
    refine lv_iload hx hb dL_law_904 (lv_at hl 1 rfl) ?_
    refine lv_icmp_eq (tgt := 911) hx hb dL_law_906 (by decide) (fun _ => ?_) (fun c_30 => absurd (by decide) c_30)
    refine lv_iload hx hb dL_law_911 (lv_at hl 1 rfl) ?_
    refine lv_if_ne (tgt := 928) hx hb dL_law_913 (by decide) (fun _ => ?_) (fun c_31 => absurd c_31 (by decide))
    refine lv_goto (tgt := 1303) hx hb dL_law_928 (by decide) ?_
    exact law_next l C0 (by omega) (by omega) hS ls (lv_sub hl [2, 6] rfl)
set_option maxHeartbeats 4000000 in
set_option maxRecDepth 100000 in
theorem law_play {p : Program} {e : Env} {s : State} {m : MethodId} {below : List Frame} {meth : Method} {c : Code} (l : Launch) (hl9 : l.stackTraces = false) {b : Nat} {xs : Nat → Int32} (C0 : lw_At p s m meth c b 4 xs) (dC : Nat → ClassId) (dI : Nat → Nat → Nat) (tE : Nat) (h0 fq sq gq nq tq zq wq dq pq mq rq sbq vq oq : Nat) (ci cv co : ClassId) (hT : tK tE (fun q : Nat => s.heap.size ≤ q) s s.heap) (hK : va_K (dC, dI) vwCl [(ci, .int), (cv, .byte), (co, .long)] s) {H : Heap} {locs : List Loc} (hP : va_P (dC, dI) vwCl [(h0, .inr (10, [.ref fq, .ref sq, .ref gq, .ref nq, .ref dq, .ref pq, .int 0, .int 0, .int 0])), (fq, .inr (4, [.int 0, .ref tE, .int 0])), (sq, .inr (4, [.int 0, .ref tE, .int 0])), (gq, .inr (4, [.int 0, .ref tE, .int 0])), (nq, .inr (8, [.int 0, .ref tq, .ref zq, .ref wq])), (mq, .inr (11, [.int 0, .int 0, .int 0, .int 0, .ref rq, .ref sbq])), (rq, .inl (ci, 119, .inl (fun _ => 0))), (sbq, .inr (1, [.ref vq, .int 0, .int 0, .int 0])), (vq, .inl (cv, 16, .inl (fun _ => 0))), (oq, .inl (co, 1, .inr (.inl (fun _ => 0))))] H) (hD : va_D (fun q : Nat => s.heap.size ≤ q) [(h0, .inr (10, [.ref fq, .ref sq, .ref gq, .ref nq, .ref dq, .ref pq, .int 0, .int 0, .int 0])), (fq, .inr (4, [.int 0, .ref tE, .int 0])), (sq, .inr (4, [.int 0, .ref tE, .int 0])), (gq, .inr (4, [.int 0, .ref tE, .int 0])), (nq, .inr (8, [.int 0, .ref tq, .ref zq, .ref wq])), (mq, .inr (11, [.int 0, .int 0, .int 0, .int 0, .ref rq, .ref sbq])), (rq, .inl (ci, 119, .inl (fun _ => 0))), (sbq, .inr (1, [.ref vq, .int 0, .int 0, .int 0])), (vq, .inl (cv, 16, .inl (fun _ => 0))), (oq, .inl (co, 1, .inr (.inl (fun _ => 0))))]) (hS : va_S (fun q : Nat => s.heap.size ≤ q) s.heap H locs) (ls : Array Slot) (hl : lv_has ls 9 [(4, .int 0), (3, .ref oq), (2, .ref mq), (1, .ref h0), (0, .ref b)]) : W p l e room_1 s m #[Value.ref b] below meth c H locs 50 856 (lw_Z below #[Value.ref b] s) (F0 m 931 ls []) := by
  obtain ⟨hx, hb, hr, hml, hown, hts, hX, hbl, hlocks, hgv⟩ := id C0
  have hts := law_hts hts
  have hA : ∀ q : Nat, s.heap.size ≤ q → (fun q : Nat => s.heap.size ≤ q) q := fun _ h => h
  have hbA : ¬ (fun q : Nat => s.heap.size ≤ q) b := Nat.not_le.mpr hbl
  refine lv_aload_n hx hb dL_law_931 rfl (lv_at hl 3 rfl) ?_
  refine lv_aload_n hx hb dL_law_932 rfl (lv_at hl 4 rfl) ?_
  refine lv_iload hx hb dL_law_933 (lv_at hl 0 rfl) ?_
  refine lv_iconst (v := 1) hx hb dL_law_935 (by decide) ?_
  refine lv_iadd hx hb dL_law_936 ?_
  refine lv_topi (fun x_1 e_2 => ?_)
  obtain rfl : x_1 = 1 := e_2.trans (by decide)
  refine va_sld hx hb hX hbl hbA hS (by unfold vp_in; decide) dL_law_937 ?_
  refine lv_topi (fun y1 ey1 => ?_)
  refine lv_aload_n hx hb dL_law_938 rfl (lv_at hl 1 rfl) ?_
  rcases dgt_cases y1 with hd | hd | hd | hd | hd | hd | hd
  · have hPc := hP.sub (ws' := [(h0, .inr (10, [.ref fq, .ref sq, .ref gq, .ref nq, .ref dq, .ref pq, .int 0, .int 0, .int 0]))]) [0] rfl
    have hDc := hD.sub (ws' := [(h0, .inr (10, [.ref fq, .ref sq, .ref gq, .ref nq, .ref dq, .ref pq, .int 0, .int 0, .int 0]))]) [0] (by decide) rfl
    have hKc := hK.sub (tys' := []) [] rfl
    have hFc := va_free (wc := [(h0, .inr (10, [.ref fq, .ref sq, .ref gq, .ref nq, .ref dq, .ref pq, .int 0, .int 0, .int 0]))]) hD hS hA [0] rfl
    refine va_calli (vx_runSW (As := [.ref h0, .int y1, .ref oq]) (rest := []) ⟨hx, hb, hml, hown, hts⟩ (w_play_0 l hl9 dC dI tE h0 fq sq gq nq dq pq 0 0 0 y1 oq _ hd) (vx_cwSW 3 hts (goodIn_app (goodIn_r _ [317, 318, 52] (by rfl) (by decide +kernel)) gt_law_w_play_0) rfl rfl rfl (by decide +kernel) ⟨Nat.le_of_ble_eq_true rfl, Nat.le_of_ble_eq_true rfl⟩) ⟨Pre0.blind, Pre0.give hPc hKc hDc hT hS hFc⟩ rfl rfl hl.1 rfl (lv_room (Nat.le_of_ble_eq_true rfl)) dL_law_939 ⟨Nat.le_of_ble_eq_true rfl, Nat.le_of_ble_eq_true rfl⟩) hS (fun q _ h => hFc q h) hFc (fun r_5 u t H1 locs ht hvm hw hB hz1 hk1 hS => ?_)
    obtain ⟨hP1, hK1, hD1⟩ := hB
    rw [ht] at hP1
    have hK1 := va_K.moved hvm.symm hK1
    obtain ⟨hP, hD⟩ := va_join (wr := [(fq, .inr (4, [.int 0, .ref tE, .int 0])), (sq, .inr (4, [.int 0, .ref tE, .int 0])), (gq, .inr (4, [.int 0, .ref tE, .int 0])), (nq, .inr (8, [.int 0, .ref tq, .ref zq, .ref wq])), (mq, .inr (11, [.int 0, .int 0, .int 0, .int 0, .ref rq, .ref sbq])), (rq, .inl (ci, 119, .inl (fun _ => 0))), (sbq, .inr (1, [.ref vq, .int 0, .int 0, .int 0])), (vq, .inl (cv, 16, .inl (fun _ => 0))), (oq, .inl (co, 1, .inr (.inl (fun _ => 0))))]) (w1 := [(h0, .inr (10, [.ref fq, .ref sq, .ref gq, .ref nq, .ref dq, .ref pq, .int 0, .int 0, .int 0]))]) hP hD [0] [1, 2, 3, 4, 5, 6, 7, 8, 9] rfl rfl (by decide) (by decide) hk1 hFc hP1 hD1
    generalize H1 = H at hP hS ⊢
    have hP : va_P (dC, dI) vwCl [(fq, .inr (4, [.int 0, .ref tE, .int 0])), (sq, .inr (4, [.int 0, .ref tE, .int 0])), (gq, .inr (4, [.int 0, .ref tE, .int 0])), (nq, .inr (8, [.int 0, .ref tq, .ref zq, .ref wq])), (mq, .inr (11, [.int 0, .int 0, .int 0, .int 0, .ref rq, .ref sbq])), (rq, .inl (ci, 119, .inl (fun _ => 0))), (sbq, .inr (1, [.ref vq, .int 0, .int 0, .int 0])), (vq, .inl (cv, 16, .inl (fun _ => 0))), (oq, .inl (co, 1, .inr (.inl (fun _ => 0)))), (h0, .inr (10, [.ref fq, .ref sq, .ref gq, .ref nq, .ref dq, .ref pq, .int 0, .int 0, .int 0]))] H := hP
    have hD : va_D (fun q : Nat => s.heap.size ≤ q) [(fq, .inr (4, [.int 0, .ref tE, .int 0])), (sq, .inr (4, [.int 0, .ref tE, .int 0])), (gq, .inr (4, [.int 0, .ref tE, .int 0])), (nq, .inr (8, [.int 0, .ref tq, .ref zq, .ref wq])), (mq, .inr (11, [.int 0, .int 0, .int 0, .int 0, .ref rq, .ref sbq])), (rq, .inl (ci, 119, .inl (fun _ => 0))), (sbq, .inr (1, [.ref vq, .int 0, .int 0, .int 0])), (vq, .inl (cv, 16, .inl (fun _ => 0))), (oq, .inl (co, 1, .inr (.inl (fun _ => 0)))), (h0, .inr (10, [.ref fq, .ref sq, .ref gq, .ref nq, .ref dq, .ref pq, .int 0, .int 0, .int 0]))] := hD
    refine W.widen (k := 51) (n := 862) (by omega) (by omega) ?_
    obtain rfl : r_5 = 1 := hw
    refine lv_istore (lv' := [(5, .int 1), (4, .int 0), (3, .ref oq), (2, .ref mq), (1, .ref h0), (0, .ref b)]) hx hb dL_law_942 hl (by decide) rfl (fun ls hl => ?_)
    refine lv_aload_n hx hb dL_law_944 rfl (lv_at hl 3 rfl) ?_
    refine lv_aload_n hx hb dL_law_945 rfl (lv_at hl 5 rfl) ?_
    refine lv_iload hx hb dL_law_946 (lv_at hl 1 rfl) ?_
    refine lv_iconst (v := 1) hx hb dL_law_948 (by decide) ?_
    refine lv_iadd hx hb dL_law_949 ?_
    refine lv_topi (fun x_6 e_7 => ?_)
    obtain rfl : x_6 = 1 := e_7.trans (by decide)
    refine va_sld hx hb hX hbl hbA hS (by unfold vp_in; decide) dL_law_950 ?_
    refine lv_topi (fun x_8 e_9 => ?_)
    obtain rfl : y1 = x_8 := ey1.trans e_9.symm
    have hPc := hP.sub (ws' := [(mq, .inr (11, [.int 0, .int 0, .int 0, .int 0, .ref rq, .ref sbq]))]) [4] rfl
    have hDc := hD.sub (ws' := [(mq, .inr (11, [.int 0, .int 0, .int 0, .int 0, .ref rq, .ref sbq]))]) [4] (by decide) rfl
    have hKc := hK.sub (tys' := []) [] rfl
    have hFc := va_free (wc := [(mq, .inr (11, [.int 0, .int 0, .int 0, .int 0, .ref rq, .ref sbq]))]) hD hS hA [4] rfl
    refine va_calli (va_runV (As := [.int y1]) (rest := []) ⟨hx, hb, hml, hown, hts⟩ (c_M_play_0 l hl9 dC dI tE mq rq sbq 0 y1 _ (by first | assumption | decide | omega)) (cwV 1 hts (goodIn_app (goodIn_r _ [323, 324, 325, 58] (by rfl) (by decide +kernel)) gg_law_c_M_play_0) rfl rfl rfl (by decide +kernel) ⟨Nat.le_of_ble_eq_true rfl, Nat.le_of_ble_eq_true rfl⟩) ⟨Pre0.blind, va_recv hKc hPc (ci := 11) (q0 := 0) rfl rfl, Pre0.give hPc hKc hDc hT hS hFc⟩ rfl rfl hl.1 rfl (lv_room (Nat.le_of_ble_eq_true rfl)) dL_law_951 ⟨Nat.le_of_ble_eq_true rfl, Nat.le_of_ble_eq_true rfl⟩) hS (fun q _ h => hFc q h) hFc (fun r_10 u t H1 locs ht hvm hw hB hz1 hk1 hS => ?_)
    obtain ⟨hP1, hK1, hD1⟩ := hB
    rw [ht] at hP1
    have hK1 := va_K.moved hvm.symm hK1
    obtain ⟨hP, hD⟩ := va_join (wr := [(fq, .inr (4, [.int 0, .ref tE, .int 0])), (sq, .inr (4, [.int 0, .ref tE, .int 0])), (gq, .inr (4, [.int 0, .ref tE, .int 0])), (nq, .inr (8, [.int 0, .ref tq, .ref zq, .ref wq])), (rq, .inl (ci, 119, .inl (fun _ => 0))), (sbq, .inr (1, [.ref vq, .int 0, .int 0, .int 0])), (vq, .inl (cv, 16, .inl (fun _ => 0))), (oq, .inl (co, 1, .inr (.inl (fun _ => 0)))), (h0, .inr (10, [.ref fq, .ref sq, .ref gq, .ref nq, .ref dq, .ref pq, .int 0, .int 0, .int 0]))]) (w1 := [(mq, .inr (11, [.int 1, .int 0, .int 0, .int 0, .ref rq, .ref sbq]))]) hP hD [4] [0, 1, 2, 3, 5, 6, 7, 8, 9] rfl rfl (by decide) (by decide) hk1 hFc hP1 hD1
    generalize H1 = H at hP hS ⊢
    have hP : va_P (dC, dI) vwCl [(fq, .inr (4, [.int 0, .ref tE, .int 0])), (sq, .inr (4, [.int 0, .ref tE, .int 0])), (gq, .inr (4, [.int 0, .ref tE, .int 0])), (nq, .inr (8, [.int 0, .ref tq, .ref zq, .ref wq])), (rq, .inl (ci, 119, .inl (fun _ => 0))), (sbq, .inr (1, [.ref vq, .int 0, .int 0, .int 0])), (vq, .inl (cv, 16, .inl (fun _ => 0))), (oq, .inl (co, 1, .inr (.inl (fun _ => 0)))), (h0, .inr (10, [.ref fq, .ref sq, .ref gq, .ref nq, .ref dq, .ref pq, .int 0, .int 0, .int 0])), (mq, .inr (11, [.int 1, .int 0, .int 0, .int 0, .ref rq, .ref sbq]))] H := hP
    have hD : va_D (fun q : Nat => s.heap.size ≤ q) [(fq, .inr (4, [.int 0, .ref tE, .int 0])), (sq, .inr (4, [.int 0, .ref tE, .int 0])), (gq, .inr (4, [.int 0, .ref tE, .int 0])), (nq, .inr (8, [.int 0, .ref tq, .ref zq, .ref wq])), (rq, .inl (ci, 119, .inl (fun _ => 0))), (sbq, .inr (1, [.ref vq, .int 0, .int 0, .int 0])), (vq, .inl (cv, 16, .inl (fun _ => 0))), (oq, .inl (co, 1, .inr (.inl (fun _ => 0)))), (h0, .inr (10, [.ref fq, .ref sq, .ref gq, .ref nq, .ref dq, .ref pq, .int 0, .int 0, .int 0])), (mq, .inr (11, [.int 1, .int 0, .int 0, .int 0, .ref rq, .ref sbq]))] := hD
    refine W.widen (k := 51) (n := 862) (by omega) (by omega) ?_
    obtain rfl : r_10 = 0 := hw
    refine lv_istore (lv' := [(6, .int 0), (5, .int 1), (4, .int 0), (3, .ref oq), (2, .ref mq), (1, .ref h0), (0, .ref b)]) hx hb dL_law_954 hl (by decide) rfl (fun ls hl => ?_)
    refine lv_aload_n hx hb dL_law_956 rfl (lv_at hl 4 rfl) ?_
    have hPc := hP.sub (ws' := [(mq, .inr (11, [.int 1, .int 0, .int 0, .int 0, .ref rq, .ref sbq]))]) [9] rfl
    have hDc := hD.sub (ws' := [(mq, .inr (11, [.int 1, .int 0, .int 0, .int 0, .ref rq, .ref sbq]))]) [9] (by decide) rfl
    have hKc := hK.sub (tys' := []) [] rfl
    have hFc := va_free (wc := [(mq, .inr (11, [.int 1, .int 0, .int 0, .int 0, .ref rq, .ref sbq]))]) hD hS hA [9] rfl
    refine va_calli (va_runV (As := []) (rest := []) ⟨hx, hb, hml, hown, hts⟩ (c_M_thrown l hl9 dC dI tE mq rq sbq 1 0 0 0 _ ) (cwV 0 hts (goodIn_app (goodIn_r _ [69, 70, 71, 58] (by rfl) (by decide +kernel)) gg_law_c_M_thrown) rfl rfl rfl (by decide +kernel) ⟨Nat.le_of_ble_eq_true rfl, Nat.le_of_ble_eq_true rfl⟩) ⟨Pre0.blind, va_recv hKc hPc (ci := 11) (q0 := 0) rfl rfl, Pre0.give hPc hKc hDc hT hS hFc⟩ rfl rfl hl.1 rfl (lv_room (Nat.le_of_ble_eq_true rfl)) dL_law_957 ⟨Nat.le_of_ble_eq_true rfl, Nat.le_of_ble_eq_true rfl⟩) hS (fun q _ h => hFc q h) hFc (fun r_11 u t H1 locs ht hvm hw hB hz1 hk1 hS => ?_)
    obtain ⟨hP1, hK1, hD1⟩ := hB
    rw [ht] at hP1
    have hK1 := va_K.moved hvm.symm hK1
    obtain ⟨hP, hD⟩ := va_join (wr := [(fq, .inr (4, [.int 0, .ref tE, .int 0])), (sq, .inr (4, [.int 0, .ref tE, .int 0])), (gq, .inr (4, [.int 0, .ref tE, .int 0])), (nq, .inr (8, [.int 0, .ref tq, .ref zq, .ref wq])), (rq, .inl (ci, 119, .inl (fun _ => 0))), (sbq, .inr (1, [.ref vq, .int 0, .int 0, .int 0])), (vq, .inl (cv, 16, .inl (fun _ => 0))), (oq, .inl (co, 1, .inr (.inl (fun _ => 0)))), (h0, .inr (10, [.ref fq, .ref sq, .ref gq, .ref nq, .ref dq, .ref pq, .int 0, .int 0, .int 0]))]) (w1 := [(mq, .inr (11, [.int 1, .int 0, .int 0, .int 0, .ref rq, .ref sbq]))]) hP hD [9] [0, 1, 2, 3, 4, 5, 6, 7, 8] rfl rfl (by decide) (by decide) hk1 hFc hP1 hD1
    generalize H1 = H at hP hS ⊢
    have hP : va_P (dC, dI) vwCl [(fq, .inr (4, [.int 0, .ref tE, .int 0])), (sq, .inr (4, [.int 0, .ref tE, .int 0])), (gq, .inr (4, [.int 0, .ref tE, .int 0])), (nq, .inr (8, [.int 0, .ref tq, .ref zq, .ref wq])), (rq, .inl (ci, 119, .inl (fun _ => 0))), (sbq, .inr (1, [.ref vq, .int 0, .int 0, .int 0])), (vq, .inl (cv, 16, .inl (fun _ => 0))), (oq, .inl (co, 1, .inr (.inl (fun _ => 0)))), (h0, .inr (10, [.ref fq, .ref sq, .ref gq, .ref nq, .ref dq, .ref pq, .int 0, .int 0, .int 0])), (mq, .inr (11, [.int 1, .int 0, .int 0, .int 0, .ref rq, .ref sbq]))] H := hP
    have hD : va_D (fun q : Nat => s.heap.size ≤ q) [(fq, .inr (4, [.int 0, .ref tE, .int 0])), (sq, .inr (4, [.int 0, .ref tE, .int 0])), (gq, .inr (4, [.int 0, .ref tE, .int 0])), (nq, .inr (8, [.int 0, .ref tq, .ref zq, .ref wq])), (rq, .inl (ci, 119, .inl (fun _ => 0))), (sbq, .inr (1, [.ref vq, .int 0, .int 0, .int 0])), (vq, .inl (cv, 16, .inl (fun _ => 0))), (oq, .inl (co, 1, .inr (.inl (fun _ => 0)))), (h0, .inr (10, [.ref fq, .ref sq, .ref gq, .ref nq, .ref dq, .ref pq, .int 0, .int 0, .int 0])), (mq, .inr (11, [.int 1, .int 0, .int 0, .int 0, .ref rq, .ref sbq]))] := hD
    refine W.widen (k := 51) (n := 862) (by omega) (by omega) ?_
    obtain rfl : r_11 = 1 := hw
    refine lv_iload hx hb dL_law_960 (lv_at hl 1 rfl) ?_
    refine lv_icmp_eq (tgt := 967) hx hb dL_law_962 (by decide) (fun _ => ?_) (fun c_12 => absurd (by decide) c_12)
    refine lv_iload hx hb dL_law_967 (lv_at hl 1 rfl) ?_
    refine lv_if_ne (tgt := 984) hx hb dL_law_969 (by decide) (fun _ => ?_) (fun c_13 => absurd c_13 (by decide))
    refine lv_goto (tgt := 1303) hx hb dL_law_984 (by decide) ?_
    exact law_next l C0 (by omega) (by omega) hS ls (lv_sub hl [2, 6] rfl)
  · have hPc := hP.sub (ws' := [(h0, .inr (10, [.ref fq, .ref sq, .ref gq, .ref nq, .ref dq, .ref pq, .int 0, .int 0, .int 0])), (fq, .inr (4, [.int 0, .ref tE, .int 0])), (sq, .inr (4, [.int 0, .ref tE, .int 0])), (gq, .inr (4, [.int 0, .ref tE, .int 0])), (nq, .inr (8, [.int 0, .ref tq, .ref zq, .ref wq])), (oq, .inl (co, 1, .inr (.inl (fun _ => 0))))]) [0, 1, 2, 3, 4, 9] rfl
    have hDc := hD.sub (ws' := [(h0, .inr (10, [.ref fq, .ref sq, .ref gq, .ref nq, .ref dq, .ref pq, .int 0, .int 0, .int 0])), (fq, .inr (4, [.int 0, .ref tE, .int 0])), (sq, .inr (4, [.int 0, .ref tE, .int 0])), (gq, .inr (4, [.int 0, .ref tE, .int 0])), (nq, .inr (8, [.int 0, .ref tq, .ref zq, .ref wq])), (oq, .inl (co, 1, .inr (.inl (fun _ => 0))))]) [0, 1, 2, 3, 4, 9] (by decide) rfl
    have hKc := hK.sub (tys' := [(co, .long)]) [2] rfl
    have hFc := va_free (wc := [(h0, .inr (10, [.ref fq, .ref sq, .ref gq, .ref nq, .ref dq, .ref pq, .int 0, .int 0, .int 0])), (fq, .inr (4, [.int 0, .ref tE, .int 0])), (sq, .inr (4, [.int 0, .ref tE, .int 0])), (gq, .inr (4, [.int 0, .ref tE, .int 0])), (nq, .inr (8, [.int 0, .ref tq, .ref zq, .ref wq])), (oq, .inl (co, 1, .inr (.inl (fun _ => 0))))]) hD hS hA [0, 1, 2, 3, 4, 9] rfl
    refine va_calli (vx_runSW (As := [.ref h0, .int y1, .ref oq]) (rest := []) ⟨hx, hb, hml, hown, hts⟩ (w_play_1 l hl9 dC dI tE h0 fq sq gq nq dq pq 0 0 0 0 0 0 tq zq wq 0 y1 oq co (fun _ => 0) _ hd) (vx_cwSW 3 hts (goodIn_app (goodIn_r _ [317, 318, 52] (by rfl) (by decide +kernel)) gg_law_w_play_1) rfl rfl rfl (by decide +kernel) ⟨Nat.le_of_ble_eq_true rfl, Nat.le_of_ble_eq_true rfl⟩) ⟨Pre0.blind, Pre0.give hPc hKc hDc hT hS hFc⟩ rfl rfl hl.1 rfl (lv_room (Nat.le_of_ble_eq_true rfl)) dL_law_939 ⟨Nat.le_of_ble_eq_true rfl, Nat.le_of_ble_eq_true rfl⟩) hS (fun q _ h => hFc q h) hFc (fun r_14 u t H1 locs ht hvm hw hB hz1 hk1 hS => ?_)
    obtain ⟨vx_15, vx_16, vx_17, hP1, hK1, hD1⟩ := hB
    rw [ht] at hP1
    have hK1 := va_K.moved hvm.symm hK1
    obtain ⟨hP, hD⟩ := va_join (wr := [(mq, .inr (11, [.int 0, .int 0, .int 0, .int 0, .ref rq, .ref sbq])), (rq, .inl (ci, 119, .inl (fun _ => 0))), (sbq, .inr (1, [.ref vq, .int 0, .int 0, .int 0])), (vq, .inl (cv, 16, .inl (fun _ => 0)))]) (w1 := [(oq, .inl (co, 1, .inr (.inl (vp_updL (fun _ => 0) (0 : Int32).toNatClampNeg 0)))), (h0, .inr (10, [.ref fq, .ref sq, .ref gq, .ref nq, .ref dq, .ref pq, .int 0, .int vx_15, .int vx_16])), (nq, .inr (8, [.int vx_17, .ref tq, .ref zq, .ref wq])), (fq, .inr (4, [.int 0, .ref tE, .int 0])), (sq, .inr (4, [.int 0, .ref tE, .int 0])), (gq, .inr (4, [.int 0, .ref tE, .int 0]))]) hP hD [0, 1, 2, 3, 4, 9] [5, 6, 7, 8] rfl rfl (by decide) (by decide) hk1 hFc hP1 hD1
    generalize H1 = H at hP hS ⊢
    have hP : va_P (dC, dI) vwCl [(mq, .inr (11, [.int 0, .int 0, .int 0, .int 0, .ref rq, .ref sbq])), (rq, .inl (ci, 119, .inl (fun _ => 0))), (sbq, .inr (1, [.ref vq, .int 0, .int 0, .int 0])), (vq, .inl (cv, 16, .inl (fun _ => 0))), (oq, .inl (co, 1, .inr (.inl (vp_updL (fun _ => 0) (0 : Int32).toNatClampNeg 0)))), (h0, .inr (10, [.ref fq, .ref sq, .ref gq, .ref nq, .ref dq, .ref pq, .int 0, .int vx_15, .int vx_16])), (nq, .inr (8, [.int vx_17, .ref tq, .ref zq, .ref wq])), (fq, .inr (4, [.int 0, .ref tE, .int 0])), (sq, .inr (4, [.int 0, .ref tE, .int 0])), (gq, .inr (4, [.int 0, .ref tE, .int 0]))] H := hP
    have hD : va_D (fun q : Nat => s.heap.size ≤ q) [(mq, .inr (11, [.int 0, .int 0, .int 0, .int 0, .ref rq, .ref sbq])), (rq, .inl (ci, 119, .inl (fun _ => 0))), (sbq, .inr (1, [.ref vq, .int 0, .int 0, .int 0])), (vq, .inl (cv, 16, .inl (fun _ => 0))), (oq, .inl (co, 1, .inr (.inl (vp_updL (fun _ => 0) (0 : Int32).toNatClampNeg 0)))), (h0, .inr (10, [.ref fq, .ref sq, .ref gq, .ref nq, .ref dq, .ref pq, .int 0, .int vx_15, .int vx_16])), (nq, .inr (8, [.int vx_17, .ref tq, .ref zq, .ref wq])), (fq, .inr (4, [.int 0, .ref tE, .int 0])), (sq, .inr (4, [.int 0, .ref tE, .int 0])), (gq, .inr (4, [.int 0, .ref tE, .int 0]))] := hD
    refine W.widen (k := 50) (n := 856) (by omega) (by omega) ?_
    obtain rfl : r_14 = 0 := hw
    refine lv_istore (lv' := [(5, .int 0), (4, .int 0), (3, .ref oq), (2, .ref mq), (1, .ref h0), (0, .ref b)]) hx hb dL_law_942 hl (by decide) rfl (fun ls hl => ?_)
    refine lv_aload_n hx hb dL_law_944 rfl (lv_at hl 3 rfl) ?_
    refine lv_aload_n hx hb dL_law_945 rfl (lv_at hl 5 rfl) ?_
    refine lv_iload hx hb dL_law_946 (lv_at hl 1 rfl) ?_
    refine lv_iconst (v := 1) hx hb dL_law_948 (by decide) ?_
    refine lv_iadd hx hb dL_law_949 ?_
    refine lv_topi (fun x_18 e_19 => ?_)
    obtain rfl : x_18 = 1 := e_19.trans (by decide)
    refine va_sld hx hb hX hbl hbA hS (by unfold vp_in; decide) dL_law_950 ?_
    refine lv_topi (fun x_20 e_21 => ?_)
    obtain rfl : y1 = x_20 := ey1.trans e_21.symm
    have hPc := hP.sub (ws' := [(mq, .inr (11, [.int 0, .int 0, .int 0, .int 0, .ref rq, .ref sbq])), (rq, .inl (ci, 119, .inl (fun _ => 0)))]) [0, 1] rfl
    have hDc := hD.sub (ws' := [(mq, .inr (11, [.int 0, .int 0, .int 0, .int 0, .ref rq, .ref sbq])), (rq, .inl (ci, 119, .inl (fun _ => 0)))]) [0, 1] (by decide) rfl
    have hKc := hK.sub (tys' := [(ci, .int)]) [0] rfl
    have hFc := va_free (wc := [(mq, .inr (11, [.int 0, .int 0, .int 0, .int 0, .ref rq, .ref sbq])), (rq, .inl (ci, 119, .inl (fun _ => 0)))]) hD hS hA [0, 1] rfl
    refine va_calli (va_runV (As := [.int y1]) (rest := []) ⟨hx, hb, hml, hown, hts⟩ (c_M_play_1 l hl9 dC dI tE mq rq sbq 0 ci (fun _ => 0) y1 _ (by first | assumption | decide | omega)) (cwV 1 hts (goodIn_app (goodIn_r _ [323, 324, 325, 58] (by rfl) (by decide +kernel)) gg_law_c_M_play_1) rfl rfl rfl (by decide +kernel) ⟨Nat.le_of_ble_eq_true rfl, Nat.le_of_ble_eq_true rfl⟩) ⟨Pre0.blind, va_recv hKc hPc (ci := 11) (q0 := 0) rfl rfl, Pre0.give hPc hKc hDc hT hS hFc⟩ rfl rfl hl.1 rfl (lv_room (Nat.le_of_ble_eq_true rfl)) dL_law_951 ⟨Nat.le_of_ble_eq_true rfl, Nat.le_of_ble_eq_true rfl⟩) hS (fun q _ h => hFc q h) hFc (fun r_22 u t H1 locs ht hvm hw hB hz1 hk1 hS => ?_)
    obtain ⟨fx_23, hP1, hK1, hD1⟩ := hB
    rw [ht] at hP1
    have hK1 := va_K.moved hvm.symm hK1
    obtain ⟨hP, hD⟩ := va_join (wr := [(sbq, .inr (1, [.ref vq, .int 0, .int 0, .int 0])), (vq, .inl (cv, 16, .inl (fun _ => 0))), (oq, .inl (co, 1, .inr (.inl (vp_updL (fun _ => 0) (0 : Int32).toNatClampNeg 0)))), (h0, .inr (10, [.ref fq, .ref sq, .ref gq, .ref nq, .ref dq, .ref pq, .int 0, .int vx_15, .int vx_16])), (nq, .inr (8, [.int vx_17, .ref tq, .ref zq, .ref wq])), (fq, .inr (4, [.int 0, .ref tE, .int 0])), (sq, .inr (4, [.int 0, .ref tE, .int 0])), (gq, .inr (4, [.int 0, .ref tE, .int 0]))]) (w1 := [(mq, .inr (11, [.int 0, .int 0, .int 0, .int 0, .ref rq, .ref sbq])), (rq, .inl (ci, 119, .inl fx_23))]) hP hD [0, 1] [2, 3, 4, 5, 6, 7, 8, 9] rfl rfl (by decide) (by decide) hk1 hFc hP1 hD1
    generalize H1 = H at hP hS ⊢
    have hP : va_P (dC, dI) vwCl [(sbq, .inr (1, [.ref vq, .int 0, .int 0, .int 0])), (vq, .inl (cv, 16, .inl (fun _ => 0))), (oq, .inl (co, 1, .inr (.inl (vp_updL (fun _ => 0) (0 : Int32).toNatClampNeg 0)))), (h0, .inr (10, [.ref fq, .ref sq, .ref gq, .ref nq, .ref dq, .ref pq, .int 0, .int vx_15, .int vx_16])), (nq, .inr (8, [.int vx_17, .ref tq, .ref zq, .ref wq])), (fq, .inr (4, [.int 0, .ref tE, .int 0])), (sq, .inr (4, [.int 0, .ref tE, .int 0])), (gq, .inr (4, [.int 0, .ref tE, .int 0])), (mq, .inr (11, [.int 0, .int 0, .int 0, .int 0, .ref rq, .ref sbq])), (rq, .inl (ci, 119, .inl fx_23))] H := hP
    have hD : va_D (fun q : Nat => s.heap.size ≤ q) [(sbq, .inr (1, [.ref vq, .int 0, .int 0, .int 0])), (vq, .inl (cv, 16, .inl (fun _ => 0))), (oq, .inl (co, 1, .inr (.inl (vp_updL (fun _ => 0) (0 : Int32).toNatClampNeg 0)))), (h0, .inr (10, [.ref fq, .ref sq, .ref gq, .ref nq, .ref dq, .ref pq, .int 0, .int vx_15, .int vx_16])), (nq, .inr (8, [.int vx_17, .ref tq, .ref zq, .ref wq])), (fq, .inr (4, [.int 0, .ref tE, .int 0])), (sq, .inr (4, [.int 0, .ref tE, .int 0])), (gq, .inr (4, [.int 0, .ref tE, .int 0])), (mq, .inr (11, [.int 0, .int 0, .int 0, .int 0, .ref rq, .ref sbq])), (rq, .inl (ci, 119, .inl fx_23))] := hD
    refine W.widen (k := 50) (n := 856) (by omega) (by omega) ?_
    obtain rfl : r_22 = 0 := hw
    refine lv_istore (lv' := [(6, .int 0), (5, .int 0), (4, .int 0), (3, .ref oq), (2, .ref mq), (1, .ref h0), (0, .ref b)]) hx hb dL_law_954 hl (by decide) rfl (fun ls hl => ?_)
    refine lv_aload_n hx hb dL_law_956 rfl (lv_at hl 4 rfl) ?_
    have hPc := hP.sub (ws' := [(mq, .inr (11, [.int 0, .int 0, .int 0, .int 0, .ref rq, .ref sbq]))]) [8] rfl
    have hDc := hD.sub (ws' := [(mq, .inr (11, [.int 0, .int 0, .int 0, .int 0, .ref rq, .ref sbq]))]) [8] (by decide) rfl
    have hKc := hK.sub (tys' := []) [] rfl
    have hFc := va_free (wc := [(mq, .inr (11, [.int 0, .int 0, .int 0, .int 0, .ref rq, .ref sbq]))]) hD hS hA [8] rfl
    refine va_calli (va_runV (As := []) (rest := []) ⟨hx, hb, hml, hown, hts⟩ (c_M_thrown l hl9 dC dI tE mq rq sbq 0 0 0 0 _ ) (cwV 0 hts (goodIn_app (goodIn_r _ [69, 70, 71, 58] (by rfl) (by decide +kernel)) gg_law_c_M_thrown) rfl rfl rfl (by decide +kernel) ⟨Nat.le_of_ble_eq_true rfl, Nat.le_of_ble_eq_true rfl⟩) ⟨Pre0.blind, va_recv hKc hPc (ci := 11) (q0 := 0) rfl rfl, Pre0.give hPc hKc hDc hT hS hFc⟩ rfl rfl hl.1 rfl (lv_room (Nat.le_of_ble_eq_true rfl)) dL_law_957 ⟨Nat.le_of_ble_eq_true rfl, Nat.le_of_ble_eq_true rfl⟩) hS (fun q _ h => hFc q h) hFc (fun r_24 u t H1 locs ht hvm hw hB hz1 hk1 hS => ?_)
    obtain ⟨hP1, hK1, hD1⟩ := hB
    rw [ht] at hP1
    have hK1 := va_K.moved hvm.symm hK1
    obtain ⟨hP, hD⟩ := va_join (wr := [(sbq, .inr (1, [.ref vq, .int 0, .int 0, .int 0])), (vq, .inl (cv, 16, .inl (fun _ => 0))), (oq, .inl (co, 1, .inr (.inl (vp_updL (fun _ => 0) (0 : Int32).toNatClampNeg 0)))), (h0, .inr (10, [.ref fq, .ref sq, .ref gq, .ref nq, .ref dq, .ref pq, .int 0, .int vx_15, .int vx_16])), (nq, .inr (8, [.int vx_17, .ref tq, .ref zq, .ref wq])), (fq, .inr (4, [.int 0, .ref tE, .int 0])), (sq, .inr (4, [.int 0, .ref tE, .int 0])), (gq, .inr (4, [.int 0, .ref tE, .int 0])), (rq, .inl (ci, 119, .inl fx_23))]) (w1 := [(mq, .inr (11, [.int 0, .int 0, .int 0, .int 0, .ref rq, .ref sbq]))]) hP hD [8] [0, 1, 2, 3, 4, 5, 6, 7, 9] rfl rfl (by decide) (by decide) hk1 hFc hP1 hD1
    generalize H1 = H at hP hS ⊢
    have hP : va_P (dC, dI) vwCl [(sbq, .inr (1, [.ref vq, .int 0, .int 0, .int 0])), (vq, .inl (cv, 16, .inl (fun _ => 0))), (oq, .inl (co, 1, .inr (.inl (vp_updL (fun _ => 0) (0 : Int32).toNatClampNeg 0)))), (h0, .inr (10, [.ref fq, .ref sq, .ref gq, .ref nq, .ref dq, .ref pq, .int 0, .int vx_15, .int vx_16])), (nq, .inr (8, [.int vx_17, .ref tq, .ref zq, .ref wq])), (fq, .inr (4, [.int 0, .ref tE, .int 0])), (sq, .inr (4, [.int 0, .ref tE, .int 0])), (gq, .inr (4, [.int 0, .ref tE, .int 0])), (rq, .inl (ci, 119, .inl fx_23)), (mq, .inr (11, [.int 0, .int 0, .int 0, .int 0, .ref rq, .ref sbq]))] H := hP
    have hD : va_D (fun q : Nat => s.heap.size ≤ q) [(sbq, .inr (1, [.ref vq, .int 0, .int 0, .int 0])), (vq, .inl (cv, 16, .inl (fun _ => 0))), (oq, .inl (co, 1, .inr (.inl (vp_updL (fun _ => 0) (0 : Int32).toNatClampNeg 0)))), (h0, .inr (10, [.ref fq, .ref sq, .ref gq, .ref nq, .ref dq, .ref pq, .int 0, .int vx_15, .int vx_16])), (nq, .inr (8, [.int vx_17, .ref tq, .ref zq, .ref wq])), (fq, .inr (4, [.int 0, .ref tE, .int 0])), (sq, .inr (4, [.int 0, .ref tE, .int 0])), (gq, .inr (4, [.int 0, .ref tE, .int 0])), (rq, .inl (ci, 119, .inl fx_23)), (mq, .inr (11, [.int 0, .int 0, .int 0, .int 0, .ref rq, .ref sbq]))] := hD
    refine W.widen (k := 50) (n := 856) (by omega) (by omega) ?_
    obtain rfl : r_24 = 0 := hw
    refine lv_iload hx hb dL_law_960 (lv_at hl 1 rfl) ?_
    refine lv_icmp_eq (tgt := 967) hx hb dL_law_962 (by decide) (fun _ => ?_) (fun c_25 => absurd (by decide) c_25)
    refine lv_iload hx hb dL_law_967 (lv_at hl 1 rfl) ?_
    refine lv_if_ne (tgt := 984) hx hb dL_law_969 (by decide) (fun c_26 => absurd (by decide) c_26) (fun _ => ?_)
    refine lv_aload_n hx hb dL_law_972 rfl (lv_at hl 3 rfl) ?_
    refine lv_iconst (v := 0) hx hb dL_law_973 (by decide) ?_
    refine va_lald hx hb hK hP 2 2 rfl rfl (by unfold vp_in; decide) dL_law_974 ?_
    refine lv_topl (fun x_27 e_28 => ?_)
    obtain rfl : x_27 = 0 := e_28.trans (by simp [vp_updL])
    refine lv_iload hx hb dL_law_975 (lv_at hl 0 rfl) ?_
    refine lv_i2l (v := 0) hx hb dL_law_977 (by decide) ?_
    refine W.lcmp hx hb dL_law_978 ?_
    refine lv_topi (fun x_29 e_30 => ?_)
    obtain rfl : x_29 = 0 := e_30.trans (cmp_self _)
    refine lv_if_eq (tgt := 984) hx hb dL_law_979 (by decide) (fun _ => ?_) (fun c_31 => absurd (by decide) c_31)
    refine lv_goto (tgt := 1303) hx hb dL_law_984 (by decide) ?_
    exact law_next l C0 (by omega) (by omega) hS ls (lv_sub hl [2, 6] rfl)
  · have hPc := hP.sub (ws' := [(h0, .inr (10, [.ref fq, .ref sq, .ref gq, .ref nq, .ref dq, .ref pq, .int 0, .int 0, .int 0])), (fq, .inr (4, [.int 0, .ref tE, .int 0])), (sq, .inr (4, [.int 0, .ref tE, .int 0])), (gq, .inr (4, [.int 0, .ref tE, .int 0])), (nq, .inr (8, [.int 0, .ref tq, .ref zq, .ref wq])), (oq, .inl (co, 1, .inr (.inl (fun _ => 0))))]) [0, 1, 2, 3, 4, 9] rfl
    have hDc := hD.sub (ws' := [(h0, .inr (10, [.ref fq, .ref sq, .ref gq, .ref nq, .ref dq, .ref pq, .int 0, .int 0, .int 0])), (fq, .inr (4, [.int 0, .ref tE, .int 0])), (sq, .inr (4, [.int 0, .ref tE, .int 0])), (gq, .inr (4, [.int 0, .ref tE, .int 0])), (nq, .inr (8, [.int 0, .ref tq, .ref zq, .ref wq])), (oq, .inl (co, 1, .inr (.inl (fun _ => 0))))]) [0, 1, 2, 3, 4, 9] (by decide) rfl
    have hKc := hK.sub (tys' := [(co, .long)]) [2] rfl
    have hFc := va_free (wc := [(h0, .inr (10, [.ref fq, .ref sq, .ref gq, .ref nq, .ref dq, .ref pq, .int 0, .int 0, .int 0])), (fq, .inr (4, [.int 0, .ref tE, .int 0])), (sq, .inr (4, [.int 0, .ref tE, .int 0])), (gq, .inr (4, [.int 0, .ref tE, .int 0])), (nq, .inr (8, [.int 0, .ref tq, .ref zq, .ref wq])), (oq, .inl (co, 1, .inr (.inl (fun _ => 0))))]) hD hS hA [0, 1, 2, 3, 4, 9] rfl
    refine va_calli (vx_runSW (As := [.ref h0, .int y1, .ref oq]) (rest := []) ⟨hx, hb, hml, hown, hts⟩ (w_play_2 l hl9 dC dI tE h0 fq sq gq nq dq pq 0 0 0 0 0 0 tq zq wq 0 y1 oq co (fun _ => 0) _ hd) (vx_cwSW 3 hts (goodIn_app (goodIn_r _ [317, 318, 52] (by rfl) (by decide +kernel)) gg_law_w_play_2) rfl rfl rfl (by decide +kernel) ⟨Nat.le_of_ble_eq_true rfl, Nat.le_of_ble_eq_true rfl⟩) ⟨Pre0.blind, Pre0.give hPc hKc hDc hT hS hFc⟩ rfl rfl hl.1 rfl (lv_room (Nat.le_of_ble_eq_true rfl)) dL_law_939 ⟨Nat.le_of_ble_eq_true rfl, Nat.le_of_ble_eq_true rfl⟩) hS (fun q _ h => hFc q h) hFc (fun r_32 u t H1 locs ht hvm hw hB hz1 hk1 hS => ?_)
    obtain ⟨vx_33, vx_34, vx_35, hP1, hK1, hD1⟩ := hB
    rw [ht] at hP1
    have hK1 := va_K.moved hvm.symm hK1
    obtain ⟨hP, hD⟩ := va_join (wr := [(mq, .inr (11, [.int 0, .int 0, .int 0, .int 0, .ref rq, .ref sbq])), (rq, .inl (ci, 119, .inl (fun _ => 0))), (sbq, .inr (1, [.ref vq, .int 0, .int 0, .int 0])), (vq, .inl (cv, 16, .inl (fun _ => 0)))]) (w1 := [(oq, .inl (co, 1, .inr (.inl (vp_updL (fun _ => 0) (0 : Int32).toNatClampNeg 0)))), (h0, .inr (10, [.ref fq, .ref sq, .ref gq, .ref nq, .ref dq, .ref pq, .int 0, .int vx_33, .int vx_34])), (nq, .inr (8, [.int vx_35, .ref tq, .ref zq, .ref wq])), (fq, .inr (4, [.int 0, .ref tE, .int 0])), (sq, .inr (4, [.int 0, .ref tE, .int 0])), (gq, .inr (4, [.int 0, .ref tE, .int 0]))]) hP hD [0, 1, 2, 3, 4, 9] [5, 6, 7, 8] rfl rfl (by decide) (by decide) hk1 hFc hP1 hD1
    generalize H1 = H at hP hS ⊢
    have hP : va_P (dC, dI) vwCl [(mq, .inr (11, [.int 0, .int 0, .int 0, .int 0, .ref rq, .ref sbq])), (rq, .inl (ci, 119, .inl (fun _ => 0))), (sbq, .inr (1, [.ref vq, .int 0, .int 0, .int 0])), (vq, .inl (cv, 16, .inl (fun _ => 0))), (oq, .inl (co, 1, .inr (.inl (vp_updL (fun _ => 0) (0 : Int32).toNatClampNeg 0)))), (h0, .inr (10, [.ref fq, .ref sq, .ref gq, .ref nq, .ref dq, .ref pq, .int 0, .int vx_33, .int vx_34])), (nq, .inr (8, [.int vx_35, .ref tq, .ref zq, .ref wq])), (fq, .inr (4, [.int 0, .ref tE, .int 0])), (sq, .inr (4, [.int 0, .ref tE, .int 0])), (gq, .inr (4, [.int 0, .ref tE, .int 0]))] H := hP
    have hD : va_D (fun q : Nat => s.heap.size ≤ q) [(mq, .inr (11, [.int 0, .int 0, .int 0, .int 0, .ref rq, .ref sbq])), (rq, .inl (ci, 119, .inl (fun _ => 0))), (sbq, .inr (1, [.ref vq, .int 0, .int 0, .int 0])), (vq, .inl (cv, 16, .inl (fun _ => 0))), (oq, .inl (co, 1, .inr (.inl (vp_updL (fun _ => 0) (0 : Int32).toNatClampNeg 0)))), (h0, .inr (10, [.ref fq, .ref sq, .ref gq, .ref nq, .ref dq, .ref pq, .int 0, .int vx_33, .int vx_34])), (nq, .inr (8, [.int vx_35, .ref tq, .ref zq, .ref wq])), (fq, .inr (4, [.int 0, .ref tE, .int 0])), (sq, .inr (4, [.int 0, .ref tE, .int 0])), (gq, .inr (4, [.int 0, .ref tE, .int 0]))] := hD
    refine W.widen (k := 50) (n := 856) (by omega) (by omega) ?_
    obtain rfl : r_32 = 0 := hw
    refine lv_istore (lv' := [(5, .int 0), (4, .int 0), (3, .ref oq), (2, .ref mq), (1, .ref h0), (0, .ref b)]) hx hb dL_law_942 hl (by decide) rfl (fun ls hl => ?_)
    refine lv_aload_n hx hb dL_law_944 rfl (lv_at hl 3 rfl) ?_
    refine lv_aload_n hx hb dL_law_945 rfl (lv_at hl 5 rfl) ?_
    refine lv_iload hx hb dL_law_946 (lv_at hl 1 rfl) ?_
    refine lv_iconst (v := 1) hx hb dL_law_948 (by decide) ?_
    refine lv_iadd hx hb dL_law_949 ?_
    refine lv_topi (fun x_36 e_37 => ?_)
    obtain rfl : x_36 = 1 := e_37.trans (by decide)
    refine va_sld hx hb hX hbl hbA hS (by unfold vp_in; decide) dL_law_950 ?_
    refine lv_topi (fun x_38 e_39 => ?_)
    obtain rfl : y1 = x_38 := ey1.trans e_39.symm
    have hPc := hP.sub (ws' := [(mq, .inr (11, [.int 0, .int 0, .int 0, .int 0, .ref rq, .ref sbq])), (rq, .inl (ci, 119, .inl (fun _ => 0)))]) [0, 1] rfl
    have hDc := hD.sub (ws' := [(mq, .inr (11, [.int 0, .int 0, .int 0, .int 0, .ref rq, .ref sbq])), (rq, .inl (ci, 119, .inl (fun _ => 0)))]) [0, 1] (by decide) rfl
    have hKc := hK.sub (tys' := [(ci, .int)]) [0] rfl
    have hFc := va_free (wc := [(mq, .inr (11, [.int 0, .int 0, .int 0, .int 0, .ref rq, .ref sbq])), (rq, .inl (ci, 119, .inl (fun _ => 0)))]) hD hS hA [0, 1] rfl
    refine va_calli (va_runV (As := [.int y1]) (rest := []) ⟨hx, hb, hml, hown, hts⟩ (c_M_play_2 l hl9 dC dI tE mq rq sbq 0 ci (fun _ => 0) y1 _ (by first | assumption | decide | omega)) (cwV 1 hts (goodIn_app (goodIn_r _ [323, 324, 325, 58] (by rfl) (by decide +kernel)) gg_law_c_M_play_2) rfl rfl rfl (by decide +kernel) ⟨Nat.le_of_ble_eq_true rfl, Nat.le_of_ble_eq_true rfl⟩) ⟨Pre0.blind, va_recv hKc hPc (ci := 11) (q0 := 0) rfl rfl, Pre0.give hPc hKc hDc hT hS hFc⟩ rfl rfl hl.1 rfl (lv_room (Nat.le_of_ble_eq_true rfl)) dL_law_951 ⟨Nat.le_of_ble_eq_true rfl, Nat.le_of_ble_eq_true rfl⟩) hS (fun q _ h => hFc q h) hFc (fun r_40 u t H1 locs ht hvm hw hB hz1 hk1 hS => ?_)
    obtain ⟨fx_41, hP1, hK1, hD1⟩ := hB
    rw [ht] at hP1
    have hK1 := va_K.moved hvm.symm hK1
    obtain ⟨hP, hD⟩ := va_join (wr := [(sbq, .inr (1, [.ref vq, .int 0, .int 0, .int 0])), (vq, .inl (cv, 16, .inl (fun _ => 0))), (oq, .inl (co, 1, .inr (.inl (vp_updL (fun _ => 0) (0 : Int32).toNatClampNeg 0)))), (h0, .inr (10, [.ref fq, .ref sq, .ref gq, .ref nq, .ref dq, .ref pq, .int 0, .int vx_33, .int vx_34])), (nq, .inr (8, [.int vx_35, .ref tq, .ref zq, .ref wq])), (fq, .inr (4, [.int 0, .ref tE, .int 0])), (sq, .inr (4, [.int 0, .ref tE, .int 0])), (gq, .inr (4, [.int 0, .ref tE, .int 0]))]) (w1 := [(mq, .inr (11, [.int 0, .int 0, .int 0, .int 0, .ref rq, .ref sbq])), (rq, .inl (ci, 119, .inl fx_41))]) hP hD [0, 1] [2, 3, 4, 5, 6, 7, 8, 9] rfl rfl (by decide) (by decide) hk1 hFc hP1 hD1
    generalize H1 = H at hP hS ⊢
    have hP : va_P (dC, dI) vwCl [(sbq, .inr (1, [.ref vq, .int 0, .int 0, .int 0])), (vq, .inl (cv, 16, .inl (fun _ => 0))), (oq, .inl (co, 1, .inr (.inl (vp_updL (fun _ => 0) (0 : Int32).toNatClampNeg 0)))), (h0, .inr (10, [.ref fq, .ref sq, .ref gq, .ref nq, .ref dq, .ref pq, .int 0, .int vx_33, .int vx_34])), (nq, .inr (8, [.int vx_35, .ref tq, .ref zq, .ref wq])), (fq, .inr (4, [.int 0, .ref tE, .int 0])), (sq, .inr (4, [.int 0, .ref tE, .int 0])), (gq, .inr (4, [.int 0, .ref tE, .int 0])), (mq, .inr (11, [.int 0, .int 0, .int 0, .int 0, .ref rq, .ref sbq])), (rq, .inl (ci, 119, .inl fx_41))] H := hP
    have hD : va_D (fun q : Nat => s.heap.size ≤ q) [(sbq, .inr (1, [.ref vq, .int 0, .int 0, .int 0])), (vq, .inl (cv, 16, .inl (fun _ => 0))), (oq, .inl (co, 1, .inr (.inl (vp_updL (fun _ => 0) (0 : Int32).toNatClampNeg 0)))), (h0, .inr (10, [.ref fq, .ref sq, .ref gq, .ref nq, .ref dq, .ref pq, .int 0, .int vx_33, .int vx_34])), (nq, .inr (8, [.int vx_35, .ref tq, .ref zq, .ref wq])), (fq, .inr (4, [.int 0, .ref tE, .int 0])), (sq, .inr (4, [.int 0, .ref tE, .int 0])), (gq, .inr (4, [.int 0, .ref tE, .int 0])), (mq, .inr (11, [.int 0, .int 0, .int 0, .int 0, .ref rq, .ref sbq])), (rq, .inl (ci, 119, .inl fx_41))] := hD
    refine W.widen (k := 50) (n := 856) (by omega) (by omega) ?_
    obtain rfl : r_40 = 0 := hw
    refine lv_istore (lv' := [(6, .int 0), (5, .int 0), (4, .int 0), (3, .ref oq), (2, .ref mq), (1, .ref h0), (0, .ref b)]) hx hb dL_law_954 hl (by decide) rfl (fun ls hl => ?_)
    refine lv_aload_n hx hb dL_law_956 rfl (lv_at hl 4 rfl) ?_
    have hPc := hP.sub (ws' := [(mq, .inr (11, [.int 0, .int 0, .int 0, .int 0, .ref rq, .ref sbq]))]) [8] rfl
    have hDc := hD.sub (ws' := [(mq, .inr (11, [.int 0, .int 0, .int 0, .int 0, .ref rq, .ref sbq]))]) [8] (by decide) rfl
    have hKc := hK.sub (tys' := []) [] rfl
    have hFc := va_free (wc := [(mq, .inr (11, [.int 0, .int 0, .int 0, .int 0, .ref rq, .ref sbq]))]) hD hS hA [8] rfl
    refine va_calli (va_runV (As := []) (rest := []) ⟨hx, hb, hml, hown, hts⟩ (c_M_thrown l hl9 dC dI tE mq rq sbq 0 0 0 0 _ ) (cwV 0 hts (goodIn_app (goodIn_r _ [69, 70, 71, 58] (by rfl) (by decide +kernel)) gg_law_c_M_thrown) rfl rfl rfl (by decide +kernel) ⟨Nat.le_of_ble_eq_true rfl, Nat.le_of_ble_eq_true rfl⟩) ⟨Pre0.blind, va_recv hKc hPc (ci := 11) (q0 := 0) rfl rfl, Pre0.give hPc hKc hDc hT hS hFc⟩ rfl rfl hl.1 rfl (lv_room (Nat.le_of_ble_eq_true rfl)) dL_law_957 ⟨Nat.le_of_ble_eq_true rfl, Nat.le_of_ble_eq_true rfl⟩) hS (fun q _ h => hFc q h) hFc (fun r_42 u t H1 locs ht hvm hw hB hz1 hk1 hS => ?_)
    obtain ⟨hP1, hK1, hD1⟩ := hB
    rw [ht] at hP1
    have hK1 := va_K.moved hvm.symm hK1
    obtain ⟨hP, hD⟩ := va_join (wr := [(sbq, .inr (1, [.ref vq, .int 0, .int 0, .int 0])), (vq, .inl (cv, 16, .inl (fun _ => 0))), (oq, .inl (co, 1, .inr (.inl (vp_updL (fun _ => 0) (0 : Int32).toNatClampNeg 0)))), (h0, .inr (10, [.ref fq, .ref sq, .ref gq, .ref nq, .ref dq, .ref pq, .int 0, .int vx_33, .int vx_34])), (nq, .inr (8, [.int vx_35, .ref tq, .ref zq, .ref wq])), (fq, .inr (4, [.int 0, .ref tE, .int 0])), (sq, .inr (4, [.int 0, .ref tE, .int 0])), (gq, .inr (4, [.int 0, .ref tE, .int 0])), (rq, .inl (ci, 119, .inl fx_41))]) (w1 := [(mq, .inr (11, [.int 0, .int 0, .int 0, .int 0, .ref rq, .ref sbq]))]) hP hD [8] [0, 1, 2, 3, 4, 5, 6, 7, 9] rfl rfl (by decide) (by decide) hk1 hFc hP1 hD1
    generalize H1 = H at hP hS ⊢
    have hP : va_P (dC, dI) vwCl [(sbq, .inr (1, [.ref vq, .int 0, .int 0, .int 0])), (vq, .inl (cv, 16, .inl (fun _ => 0))), (oq, .inl (co, 1, .inr (.inl (vp_updL (fun _ => 0) (0 : Int32).toNatClampNeg 0)))), (h0, .inr (10, [.ref fq, .ref sq, .ref gq, .ref nq, .ref dq, .ref pq, .int 0, .int vx_33, .int vx_34])), (nq, .inr (8, [.int vx_35, .ref tq, .ref zq, .ref wq])), (fq, .inr (4, [.int 0, .ref tE, .int 0])), (sq, .inr (4, [.int 0, .ref tE, .int 0])), (gq, .inr (4, [.int 0, .ref tE, .int 0])), (rq, .inl (ci, 119, .inl fx_41)), (mq, .inr (11, [.int 0, .int 0, .int 0, .int 0, .ref rq, .ref sbq]))] H := hP
    have hD : va_D (fun q : Nat => s.heap.size ≤ q) [(sbq, .inr (1, [.ref vq, .int 0, .int 0, .int 0])), (vq, .inl (cv, 16, .inl (fun _ => 0))), (oq, .inl (co, 1, .inr (.inl (vp_updL (fun _ => 0) (0 : Int32).toNatClampNeg 0)))), (h0, .inr (10, [.ref fq, .ref sq, .ref gq, .ref nq, .ref dq, .ref pq, .int 0, .int vx_33, .int vx_34])), (nq, .inr (8, [.int vx_35, .ref tq, .ref zq, .ref wq])), (fq, .inr (4, [.int 0, .ref tE, .int 0])), (sq, .inr (4, [.int 0, .ref tE, .int 0])), (gq, .inr (4, [.int 0, .ref tE, .int 0])), (rq, .inl (ci, 119, .inl fx_41)), (mq, .inr (11, [.int 0, .int 0, .int 0, .int 0, .ref rq, .ref sbq]))] := hD
    refine W.widen (k := 50) (n := 856) (by omega) (by omega) ?_
    obtain rfl : r_42 = 0 := hw
    refine lv_iload hx hb dL_law_960 (lv_at hl 1 rfl) ?_
    refine lv_icmp_eq (tgt := 967) hx hb dL_law_962 (by decide) (fun _ => ?_) (fun c_43 => absurd (by decide) c_43)
    refine lv_iload hx hb dL_law_967 (lv_at hl 1 rfl) ?_
    refine lv_if_ne (tgt := 984) hx hb dL_law_969 (by decide) (fun c_44 => absurd (by decide) c_44) (fun _ => ?_)
    refine lv_aload_n hx hb dL_law_972 rfl (lv_at hl 3 rfl) ?_
    refine lv_iconst (v := 0) hx hb dL_law_973 (by decide) ?_
    refine va_lald hx hb hK hP 2 2 rfl rfl (by unfold vp_in; decide) dL_law_974 ?_
    refine lv_topl (fun x_45 e_46 => ?_)
    obtain rfl : x_45 = 0 := e_46.trans (by simp [vp_updL])
    refine lv_iload hx hb dL_law_975 (lv_at hl 0 rfl) ?_
    refine lv_i2l (v := 0) hx hb dL_law_977 (by decide) ?_
    refine W.lcmp hx hb dL_law_978 ?_
    refine lv_topi (fun x_47 e_48 => ?_)
    obtain rfl : x_47 = 0 := e_48.trans (cmp_self _)
    refine lv_if_eq (tgt := 984) hx hb dL_law_979 (by decide) (fun _ => ?_) (fun c_49 => absurd (by decide) c_49)
    refine lv_goto (tgt := 1303) hx hb dL_law_984 (by decide) ?_
    exact law_next l C0 (by omega) (by omega) hS ls (lv_sub hl [2, 6] rfl)
  · have hPc := hP.sub (ws' := [(h0, .inr (10, [.ref fq, .ref sq, .ref gq, .ref nq, .ref dq, .ref pq, .int 0, .int 0, .int 0])), (fq, .inr (4, [.int 0, .ref tE, .int 0])), (sq, .inr (4, [.int 0, .ref tE, .int 0])), (gq, .inr (4, [.int 0, .ref tE, .int 0])), (nq, .inr (8, [.int 0, .ref tq, .ref zq, .ref wq])), (oq, .inl (co, 1, .inr (.inl (fun _ => 0))))]) [0, 1, 2, 3, 4, 9] rfl
    have hDc := hD.sub (ws' := [(h0, .inr (10, [.ref fq, .ref sq, .ref gq, .ref nq, .ref dq, .ref pq, .int 0, .int 0, .int 0])), (fq, .inr (4, [.int 0, .ref tE, .int 0])), (sq, .inr (4, [.int 0, .ref tE, .int 0])), (gq, .inr (4, [.int 0, .ref tE, .int 0])), (nq, .inr (8, [.int 0, .ref tq, .ref zq, .ref wq])), (oq, .inl (co, 1, .inr (.inl (fun _ => 0))))]) [0, 1, 2, 3, 4, 9] (by decide) rfl
    have hKc := hK.sub (tys' := [(co, .long)]) [2] rfl
    have hFc := va_free (wc := [(h0, .inr (10, [.ref fq, .ref sq, .ref gq, .ref nq, .ref dq, .ref pq, .int 0, .int 0, .int 0])), (fq, .inr (4, [.int 0, .ref tE, .int 0])), (sq, .inr (4, [.int 0, .ref tE, .int 0])), (gq, .inr (4, [.int 0, .ref tE, .int 0])), (nq, .inr (8, [.int 0, .ref tq, .ref zq, .ref wq])), (oq, .inl (co, 1, .inr (.inl (fun _ => 0))))]) hD hS hA [0, 1, 2, 3, 4, 9] rfl
    refine va_calli (vx_runSW (As := [.ref h0, .int y1, .ref oq]) (rest := []) ⟨hx, hb, hml, hown, hts⟩ (w_play_3 l hl9 dC dI tE h0 fq sq gq nq dq pq 0 0 0 0 0 0 tq zq wq 0 y1 oq co (fun _ => 0) _ hd) (vx_cwSW 3 hts (goodIn_app (goodIn_r _ [317, 318, 52] (by rfl) (by decide +kernel)) gg_law_w_play_3) rfl rfl rfl (by decide +kernel) ⟨Nat.le_of_ble_eq_true rfl, Nat.le_of_ble_eq_true rfl⟩) ⟨Pre0.blind, Pre0.give hPc hKc hDc hT hS hFc⟩ rfl rfl hl.1 rfl (lv_room (Nat.le_of_ble_eq_true rfl)) dL_law_939 ⟨Nat.le_of_ble_eq_true rfl, Nat.le_of_ble_eq_true rfl⟩) hS (fun q _ h => hFc q h) hFc (fun r_50 u t H1 locs ht hvm hw hB hz1 hk1 hS => ?_)
    obtain ⟨vx_51, vx_52, vx_53, hP1, hK1, hD1⟩ := hB
    rw [ht] at hP1
    have hK1 := va_K.moved hvm.symm hK1
    obtain ⟨hP, hD⟩ := va_join (wr := [(mq, .inr (11, [.int 0, .int 0, .int 0, .int 0, .ref rq, .ref sbq])), (rq, .inl (ci, 119, .inl (fun _ => 0))), (sbq, .inr (1, [.ref vq, .int 0, .int 0, .int 0])), (vq, .inl (cv, 16, .inl (fun _ => 0)))]) (w1 := [(oq, .inl (co, 1, .inr (.inl (vp_updL (fun _ => 0) (0 : Int32).toNatClampNeg 0)))), (h0, .inr (10, [.ref fq, .ref sq, .ref gq, .ref nq, .ref dq, .ref pq, .int 0, .int vx_51, .int vx_52])), (nq, .inr (8, [.int vx_53, .ref tq, .ref zq, .ref wq])), (fq, .inr (4, [.int 0, .ref tE, .int 0])), (sq, .inr (4, [.int 0, .ref tE, .int 0])), (gq, .inr (4, [.int 0, .ref tE, .int 0]))]) hP hD [0, 1, 2, 3, 4, 9] [5, 6, 7, 8] rfl rfl (by decide) (by decide) hk1 hFc hP1 hD1
    generalize H1 = H at hP hS ⊢
    have hP : va_P (dC, dI) vwCl [(mq, .inr (11, [.int 0, .int 0, .int 0, .int 0, .ref rq, .ref sbq])), (rq, .inl (ci, 119, .inl (fun _ => 0))), (sbq, .inr (1, [.ref vq, .int 0, .int 0, .int 0])), (vq, .inl (cv, 16, .inl (fun _ => 0))), (oq, .inl (co, 1, .inr (.inl (vp_updL (fun _ => 0) (0 : Int32).toNatClampNeg 0)))), (h0, .inr (10, [.ref fq, .ref sq, .ref gq, .ref nq, .ref dq, .ref pq, .int 0, .int vx_51, .int vx_52])), (nq, .inr (8, [.int vx_53, .ref tq, .ref zq, .ref wq])), (fq, .inr (4, [.int 0, .ref tE, .int 0])), (sq, .inr (4, [.int 0, .ref tE, .int 0])), (gq, .inr (4, [.int 0, .ref tE, .int 0]))] H := hP
    have hD : va_D (fun q : Nat => s.heap.size ≤ q) [(mq, .inr (11, [.int 0, .int 0, .int 0, .int 0, .ref rq, .ref sbq])), (rq, .inl (ci, 119, .inl (fun _ => 0))), (sbq, .inr (1, [.ref vq, .int 0, .int 0, .int 0])), (vq, .inl (cv, 16, .inl (fun _ => 0))), (oq, .inl (co, 1, .inr (.inl (vp_updL (fun _ => 0) (0 : Int32).toNatClampNeg 0)))), (h0, .inr (10, [.ref fq, .ref sq, .ref gq, .ref nq, .ref dq, .ref pq, .int 0, .int vx_51, .int vx_52])), (nq, .inr (8, [.int vx_53, .ref tq, .ref zq, .ref wq])), (fq, .inr (4, [.int 0, .ref tE, .int 0])), (sq, .inr (4, [.int 0, .ref tE, .int 0])), (gq, .inr (4, [.int 0, .ref tE, .int 0]))] := hD
    refine W.widen (k := 50) (n := 856) (by omega) (by omega) ?_
    obtain rfl : r_50 = 0 := hw
    refine lv_istore (lv' := [(5, .int 0), (4, .int 0), (3, .ref oq), (2, .ref mq), (1, .ref h0), (0, .ref b)]) hx hb dL_law_942 hl (by decide) rfl (fun ls hl => ?_)
    refine lv_aload_n hx hb dL_law_944 rfl (lv_at hl 3 rfl) ?_
    refine lv_aload_n hx hb dL_law_945 rfl (lv_at hl 5 rfl) ?_
    refine lv_iload hx hb dL_law_946 (lv_at hl 1 rfl) ?_
    refine lv_iconst (v := 1) hx hb dL_law_948 (by decide) ?_
    refine lv_iadd hx hb dL_law_949 ?_
    refine lv_topi (fun x_54 e_55 => ?_)
    obtain rfl : x_54 = 1 := e_55.trans (by decide)
    refine va_sld hx hb hX hbl hbA hS (by unfold vp_in; decide) dL_law_950 ?_
    refine lv_topi (fun x_56 e_57 => ?_)
    obtain rfl : y1 = x_56 := ey1.trans e_57.symm
    have hPc := hP.sub (ws' := [(mq, .inr (11, [.int 0, .int 0, .int 0, .int 0, .ref rq, .ref sbq])), (rq, .inl (ci, 119, .inl (fun _ => 0)))]) [0, 1] rfl
    have hDc := hD.sub (ws' := [(mq, .inr (11, [.int 0, .int 0, .int 0, .int 0, .ref rq, .ref sbq])), (rq, .inl (ci, 119, .inl (fun _ => 0)))]) [0, 1] (by decide) rfl
    have hKc := hK.sub (tys' := [(ci, .int)]) [0] rfl
    have hFc := va_free (wc := [(mq, .inr (11, [.int 0, .int 0, .int 0, .int 0, .ref rq, .ref sbq])), (rq, .inl (ci, 119, .inl (fun _ => 0)))]) hD hS hA [0, 1] rfl
    refine va_calli (va_runV (As := [.int y1]) (rest := []) ⟨hx, hb, hml, hown, hts⟩ (c_M_play_3 l hl9 dC dI tE mq rq sbq 0 ci (fun _ => 0) y1 _ (by first | assumption | decide | omega)) (cwV 1 hts (goodIn_app (goodIn_r _ [323, 324, 325, 58] (by rfl) (by decide +kernel)) gg_law_c_M_play_3) rfl rfl rfl (by decide +kernel) ⟨Nat.le_of_ble_eq_true rfl, Nat.le_of_ble_eq_true rfl⟩) ⟨Pre0.blind, va_recv hKc hPc (ci := 11) (q0 := 0) rfl rfl, Pre0.give hPc hKc hDc hT hS hFc⟩ rfl rfl hl.1 rfl (lv_room (Nat.le_of_ble_eq_true rfl)) dL_law_951 ⟨Nat.le_of_ble_eq_true rfl, Nat.le_of_ble_eq_true rfl⟩) hS (fun q _ h => hFc q h) hFc (fun r_58 u t H1 locs ht hvm hw hB hz1 hk1 hS => ?_)
    obtain ⟨fx_59, hP1, hK1, hD1⟩ := hB
    rw [ht] at hP1
    have hK1 := va_K.moved hvm.symm hK1
    obtain ⟨hP, hD⟩ := va_join (wr := [(sbq, .inr (1, [.ref vq, .int 0, .int 0, .int 0])), (vq, .inl (cv, 16, .inl (fun _ => 0))), (oq, .inl (co, 1, .inr (.inl (vp_updL (fun _ => 0) (0 : Int32).toNatClampNeg 0)))), (h0, .inr (10, [.ref fq, .ref sq, .ref gq, .ref nq, .ref dq, .ref pq, .int 0, .int vx_51, .int vx_52])), (nq, .inr (8, [.int vx_53, .ref tq, .ref zq, .ref wq])), (fq, .inr (4, [.int 0, .ref tE, .int 0])), (sq, .inr (4, [.int 0, .ref tE, .int 0])), (gq, .inr (4, [.int 0, .ref tE, .int 0]))]) (w1 := [(mq, .inr (11, [.int 0, .int 0, .int 0, .int 0, .ref rq, .ref sbq])), (rq, .inl (ci, 119, .inl fx_59))]) hP hD [0, 1] [2, 3, 4, 5, 6, 7, 8, 9] rfl rfl (by decide) (by decide) hk1 hFc hP1 hD1
    generalize H1 = H at hP hS ⊢
    have hP : va_P (dC, dI) vwCl [(sbq, .inr (1, [.ref vq, .int 0, .int 0, .int 0])), (vq, .inl (cv, 16, .inl (fun _ => 0))), (oq, .inl (co, 1, .inr (.inl (vp_updL (fun _ => 0) (0 : Int32).toNatClampNeg 0)))), (h0, .inr (10, [.ref fq, .ref sq, .ref gq, .ref nq, .ref dq, .ref pq, .int 0, .int vx_51, .int vx_52])), (nq, .inr (8, [.int vx_53, .ref tq, .ref zq, .ref wq])), (fq, .inr (4, [.int 0, .ref tE, .int 0])), (sq, .inr (4, [.int 0, .ref tE, .int 0])), (gq, .inr (4, [.int 0, .ref tE, .int 0])), (mq, .inr (11, [.int 0, .int 0, .int 0, .int 0, .ref rq, .ref sbq])), (rq, .inl (ci, 119, .inl fx_59))] H := hP
    have hD : va_D (fun q : Nat => s.heap.size ≤ q) [(sbq, .inr (1, [.ref vq, .int 0, .int 0, .int 0])), (vq, .inl (cv, 16, .inl (fun _ => 0))), (oq, .inl (co, 1, .inr (.inl (vp_updL (fun _ => 0) (0 : Int32).toNatClampNeg 0)))), (h0, .inr (10, [.ref fq, .ref sq, .ref gq, .ref nq, .ref dq, .ref pq, .int 0, .int vx_51, .int vx_52])), (nq, .inr (8, [.int vx_53, .ref tq, .ref zq, .ref wq])), (fq, .inr (4, [.int 0, .ref tE, .int 0])), (sq, .inr (4, [.int 0, .ref tE, .int 0])), (gq, .inr (4, [.int 0, .ref tE, .int 0])), (mq, .inr (11, [.int 0, .int 0, .int 0, .int 0, .ref rq, .ref sbq])), (rq, .inl (ci, 119, .inl fx_59))] := hD
    refine W.widen (k := 50) (n := 856) (by omega) (by omega) ?_
    obtain rfl : r_58 = 0 := hw
    refine lv_istore (lv' := [(6, .int 0), (5, .int 0), (4, .int 0), (3, .ref oq), (2, .ref mq), (1, .ref h0), (0, .ref b)]) hx hb dL_law_954 hl (by decide) rfl (fun ls hl => ?_)
    refine lv_aload_n hx hb dL_law_956 rfl (lv_at hl 4 rfl) ?_
    have hPc := hP.sub (ws' := [(mq, .inr (11, [.int 0, .int 0, .int 0, .int 0, .ref rq, .ref sbq]))]) [8] rfl
    have hDc := hD.sub (ws' := [(mq, .inr (11, [.int 0, .int 0, .int 0, .int 0, .ref rq, .ref sbq]))]) [8] (by decide) rfl
    have hKc := hK.sub (tys' := []) [] rfl
    have hFc := va_free (wc := [(mq, .inr (11, [.int 0, .int 0, .int 0, .int 0, .ref rq, .ref sbq]))]) hD hS hA [8] rfl
    refine va_calli (va_runV (As := []) (rest := []) ⟨hx, hb, hml, hown, hts⟩ (c_M_thrown l hl9 dC dI tE mq rq sbq 0 0 0 0 _ ) (cwV 0 hts (goodIn_app (goodIn_r _ [69, 70, 71, 58] (by rfl) (by decide +kernel)) gg_law_c_M_thrown) rfl rfl rfl (by decide +kernel) ⟨Nat.le_of_ble_eq_true rfl, Nat.le_of_ble_eq_true rfl⟩) ⟨Pre0.blind, va_recv hKc hPc (ci := 11) (q0 := 0) rfl rfl, Pre0.give hPc hKc hDc hT hS hFc⟩ rfl rfl hl.1 rfl (lv_room (Nat.le_of_ble_eq_true rfl)) dL_law_957 ⟨Nat.le_of_ble_eq_true rfl, Nat.le_of_ble_eq_true rfl⟩) hS (fun q _ h => hFc q h) hFc (fun r_60 u t H1 locs ht hvm hw hB hz1 hk1 hS => ?_)
    obtain ⟨hP1, hK1, hD1⟩ := hB
    rw [ht] at hP1
    have hK1 := va_K.moved hvm.symm hK1
    obtain ⟨hP, hD⟩ := va_join (wr := [(sbq, .inr (1, [.ref vq, .int 0, .int 0, .int 0])), (vq, .inl (cv, 16, .inl (fun _ => 0))), (oq, .inl (co, 1, .inr (.inl (vp_updL (fun _ => 0) (0 : Int32).toNatClampNeg 0)))), (h0, .inr (10, [.ref fq, .ref sq, .ref gq, .ref nq, .ref dq, .ref pq, .int 0, .int vx_51, .int vx_52])), (nq, .inr (8, [.int vx_53, .ref tq, .ref zq, .ref wq])), (fq, .inr (4, [.int 0, .ref tE, .int 0])), (sq, .inr (4, [.int 0, .ref tE, .int 0])), (gq, .inr (4, [.int 0, .ref tE, .int 0])), (rq, .inl (ci, 119, .inl fx_59))]) (w1 := [(mq, .inr (11, [.int 0, .int 0, .int 0, .int 0, .ref rq, .ref sbq]))]) hP hD [8] [0, 1, 2, 3, 4, 5, 6, 7, 9] rfl rfl (by decide) (by decide) hk1 hFc hP1 hD1
    generalize H1 = H at hP hS ⊢
    have hP : va_P (dC, dI) vwCl [(sbq, .inr (1, [.ref vq, .int 0, .int 0, .int 0])), (vq, .inl (cv, 16, .inl (fun _ => 0))), (oq, .inl (co, 1, .inr (.inl (vp_updL (fun _ => 0) (0 : Int32).toNatClampNeg 0)))), (h0, .inr (10, [.ref fq, .ref sq, .ref gq, .ref nq, .ref dq, .ref pq, .int 0, .int vx_51, .int vx_52])), (nq, .inr (8, [.int vx_53, .ref tq, .ref zq, .ref wq])), (fq, .inr (4, [.int 0, .ref tE, .int 0])), (sq, .inr (4, [.int 0, .ref tE, .int 0])), (gq, .inr (4, [.int 0, .ref tE, .int 0])), (rq, .inl (ci, 119, .inl fx_59)), (mq, .inr (11, [.int 0, .int 0, .int 0, .int 0, .ref rq, .ref sbq]))] H := hP
    have hD : va_D (fun q : Nat => s.heap.size ≤ q) [(sbq, .inr (1, [.ref vq, .int 0, .int 0, .int 0])), (vq, .inl (cv, 16, .inl (fun _ => 0))), (oq, .inl (co, 1, .inr (.inl (vp_updL (fun _ => 0) (0 : Int32).toNatClampNeg 0)))), (h0, .inr (10, [.ref fq, .ref sq, .ref gq, .ref nq, .ref dq, .ref pq, .int 0, .int vx_51, .int vx_52])), (nq, .inr (8, [.int vx_53, .ref tq, .ref zq, .ref wq])), (fq, .inr (4, [.int 0, .ref tE, .int 0])), (sq, .inr (4, [.int 0, .ref tE, .int 0])), (gq, .inr (4, [.int 0, .ref tE, .int 0])), (rq, .inl (ci, 119, .inl fx_59)), (mq, .inr (11, [.int 0, .int 0, .int 0, .int 0, .ref rq, .ref sbq]))] := hD
    refine W.widen (k := 50) (n := 856) (by omega) (by omega) ?_
    obtain rfl : r_60 = 0 := hw
    refine lv_iload hx hb dL_law_960 (lv_at hl 1 rfl) ?_
    refine lv_icmp_eq (tgt := 967) hx hb dL_law_962 (by decide) (fun _ => ?_) (fun c_61 => absurd (by decide) c_61)
    refine lv_iload hx hb dL_law_967 (lv_at hl 1 rfl) ?_
    refine lv_if_ne (tgt := 984) hx hb dL_law_969 (by decide) (fun c_62 => absurd (by decide) c_62) (fun _ => ?_)
    refine lv_aload_n hx hb dL_law_972 rfl (lv_at hl 3 rfl) ?_
    refine lv_iconst (v := 0) hx hb dL_law_973 (by decide) ?_
    refine va_lald hx hb hK hP 2 2 rfl rfl (by unfold vp_in; decide) dL_law_974 ?_
    refine lv_topl (fun x_63 e_64 => ?_)
    obtain rfl : x_63 = 0 := e_64.trans (by simp [vp_updL])
    refine lv_iload hx hb dL_law_975 (lv_at hl 0 rfl) ?_
    refine lv_i2l (v := 0) hx hb dL_law_977 (by decide) ?_
    refine W.lcmp hx hb dL_law_978 ?_
    refine lv_topi (fun x_65 e_66 => ?_)
    obtain rfl : x_65 = 0 := e_66.trans (cmp_self _)
    refine lv_if_eq (tgt := 984) hx hb dL_law_979 (by decide) (fun _ => ?_) (fun c_67 => absurd (by decide) c_67)
    refine lv_goto (tgt := 1303) hx hb dL_law_984 (by decide) ?_
    exact law_next l C0 (by omega) (by omega) hS ls (lv_sub hl [2, 6] rfl)
  · have hPc := hP.sub (ws' := [(h0, .inr (10, [.ref fq, .ref sq, .ref gq, .ref nq, .ref dq, .ref pq, .int 0, .int 0, .int 0])), (fq, .inr (4, [.int 0, .ref tE, .int 0])), (sq, .inr (4, [.int 0, .ref tE, .int 0])), (gq, .inr (4, [.int 0, .ref tE, .int 0])), (nq, .inr (8, [.int 0, .ref tq, .ref zq, .ref wq])), (oq, .inl (co, 1, .inr (.inl (fun _ => 0))))]) [0, 1, 2, 3, 4, 9] rfl
    have hDc := hD.sub (ws' := [(h0, .inr (10, [.ref fq, .ref sq, .ref gq, .ref nq, .ref dq, .ref pq, .int 0, .int 0, .int 0])), (fq, .inr (4, [.int 0, .ref tE, .int 0])), (sq, .inr (4, [.int 0, .ref tE, .int 0])), (gq, .inr (4, [.int 0, .ref tE, .int 0])), (nq, .inr (8, [.int 0, .ref tq, .ref zq, .ref wq])), (oq, .inl (co, 1, .inr (.inl (fun _ => 0))))]) [0, 1, 2, 3, 4, 9] (by decide) rfl
    have hKc := hK.sub (tys' := [(co, .long)]) [2] rfl
    have hFc := va_free (wc := [(h0, .inr (10, [.ref fq, .ref sq, .ref gq, .ref nq, .ref dq, .ref pq, .int 0, .int 0, .int 0])), (fq, .inr (4, [.int 0, .ref tE, .int 0])), (sq, .inr (4, [.int 0, .ref tE, .int 0])), (gq, .inr (4, [.int 0, .ref tE, .int 0])), (nq, .inr (8, [.int 0, .ref tq, .ref zq, .ref wq])), (oq, .inl (co, 1, .inr (.inl (fun _ => 0))))]) hD hS hA [0, 1, 2, 3, 4, 9] rfl
    refine va_calli (vx_runSW (As := [.ref h0, .int y1, .ref oq]) (rest := []) ⟨hx, hb, hml, hown, hts⟩ (w_play_4 l hl9 dC dI tE h0 fq sq gq nq dq pq 0 0 0 0 0 0 tq zq wq 0 y1 oq co (fun _ => 0) _ hd) (vx_cwSW 3 hts (goodIn_app (goodIn_r _ [317, 318, 52] (by rfl) (by decide +kernel)) gg_law_w_play_4) rfl rfl rfl (by decide +kernel) ⟨Nat.le_of_ble_eq_true rfl, Nat.le_of_ble_eq_true rfl⟩) ⟨Pre0.blind, Pre0.give hPc hKc hDc hT hS hFc⟩ rfl rfl hl.1 rfl (lv_room (Nat.le_of_ble_eq_true rfl)) dL_law_939 ⟨Nat.le_of_ble_eq_true rfl, Nat.le_of_ble_eq_true rfl⟩) hS (fun q _ h => hFc q h) hFc (fun r_68 u t H1 locs ht hvm hw hB hz1 hk1 hS => ?_)
    obtain ⟨vx_69, vx_70, vx_71, hP1, hK1, hD1⟩ := hB
    rw [ht] at hP1
    have hK1 := va_K.moved hvm.symm hK1
    obtain ⟨hP, hD⟩ := va_join (wr := [(mq, .inr (11, [.int 0, .int 0, .int 0, .int 0, .ref rq, .ref sbq])), (rq, .inl (ci, 119, .inl (fun _ => 0))), (sbq, .inr (1, [.ref vq, .int 0, .int 0, .int 0])), (vq, .inl (cv, 16, .inl (fun _ => 0)))]) (w1 := [(oq, .inl (co, 1, .inr (.inl (vp_updL (fun _ => 0) (0 : Int32).toNatClampNeg 0)))), (h0, .inr (10, [.ref fq, .ref sq, .ref gq, .ref nq, .ref dq, .ref pq, .int 0, .int vx_69, .int vx_70])), (nq, .inr (8, [.int vx_71, .ref tq, .ref zq, .ref wq])), (fq, .inr (4, [.int 0, .ref tE, .int 0])), (sq, .inr (4, [.int 0, .ref tE, .int 0])), (gq, .inr (4, [.int 0, .ref tE, .int 0]))]) hP hD [0, 1, 2, 3, 4, 9] [5, 6, 7, 8] rfl rfl (by decide) (by decide) hk1 hFc hP1 hD1
    generalize H1 = H at hP hS ⊢
    have hP : va_P (dC, dI) vwCl [(mq, .inr (11, [.int 0, .int 0, .int 0, .int 0, .ref rq, .ref sbq])), (rq, .inl (ci, 119, .inl (fun _ => 0))), (sbq, .inr (1, [.ref vq, .int 0, .int 0, .int 0])), (vq, .inl (cv, 16, .inl (fun _ => 0))), (oq, .inl (co, 1, .inr (.inl (vp_updL (fun _ => 0) (0 : Int32).toNatClampNeg 0)))), (h0, .inr (10, [.ref fq, .ref sq, .ref gq, .ref nq, .ref dq, .ref pq, .int 0, .int vx_69, .int vx_70])), (nq, .inr (8, [.int vx_71, .ref tq, .ref zq, .ref wq])), (fq, .inr (4, [.int 0, .ref tE, .int 0])), (sq, .inr (4, [.int 0, .ref tE, .int 0])), (gq, .inr (4, [.int 0, .ref tE, .int 0]))] H := hP
    have hD : va_D (fun q : Nat => s.heap.size ≤ q) [(mq, .inr (11, [.int 0, .int 0, .int 0, .int 0, .ref rq, .ref sbq])), (rq, .inl (ci, 119, .inl (fun _ => 0))), (sbq, .inr (1, [.ref vq, .int 0, .int 0, .int 0])), (vq, .inl (cv, 16, .inl (fun _ => 0))), (oq, .inl (co, 1, .inr (.inl (vp_updL (fun _ => 0) (0 : Int32).toNatClampNeg 0)))), (h0, .inr (10, [.ref fq, .ref sq, .ref gq, .ref nq, .ref dq, .ref pq, .int 0, .int vx_69, .int vx_70])), (nq, .inr (8, [.int vx_71, .ref tq, .ref zq, .ref wq])), (fq, .inr (4, [.int 0, .ref tE, .int 0])), (sq, .inr (4, [.int 0, .ref tE, .int 0])), (gq, .inr (4, [.int 0, .ref tE, .int 0]))] := hD
    refine W.widen (k := 50) (n := 856) (by omega) (by omega) ?_
    obtain rfl : r_68 = 0 := hw
    refine lv_istore (lv' := [(5, .int 0), (4, .int 0), (3, .ref oq), (2, .ref mq), (1, .ref h0), (0, .ref b)]) hx hb dL_law_942 hl (by decide) rfl (fun ls hl => ?_)
    refine lv_aload_n hx hb dL_law_944 rfl (lv_at hl 3 rfl) ?_
    refine lv_aload_n hx hb dL_law_945 rfl (lv_at hl 5 rfl) ?_
    refine lv_iload hx hb dL_law_946 (lv_at hl 1 rfl) ?_
    refine lv_iconst (v := 1) hx hb dL_law_948 (by decide) ?_
    refine lv_iadd hx hb dL_law_949 ?_
    refine lv_topi (fun x_72 e_73 => ?_)
    obtain rfl : x_72 = 1 := e_73.trans (by decide)
    refine va_sld hx hb hX hbl hbA hS (by unfold vp_in; decide) dL_law_950 ?_
    refine lv_topi (fun x_74 e_75 => ?_)
    obtain rfl : y1 = x_74 := ey1.trans e_75.symm
    have hPc := hP.sub (ws' := [(mq, .inr (11, [.int 0, .int 0, .int 0, .int 0, .ref rq, .ref sbq])), (rq, .inl (ci, 119, .inl (fun _ => 0)))]) [0, 1] rfl
    have hDc := hD.sub (ws' := [(mq, .inr (11, [.int 0, .int 0, .int 0, .int 0, .ref rq, .ref sbq])), (rq, .inl (ci, 119, .inl (fun _ => 0)))]) [0, 1] (by decide) rfl
    have hKc := hK.sub (tys' := [(ci, .int)]) [0] rfl
    have hFc := va_free (wc := [(mq, .inr (11, [.int 0, .int 0, .int 0, .int 0, .ref rq, .ref sbq])), (rq, .inl (ci, 119, .inl (fun _ => 0)))]) hD hS hA [0, 1] rfl
    refine va_calli (va_runV (As := [.int y1]) (rest := []) ⟨hx, hb, hml, hown, hts⟩ (c_M_play_4 l hl9 dC dI tE mq rq sbq 0 ci (fun _ => 0) y1 _ (by first | assumption | decide | omega)) (cwV 1 hts (goodIn_app (goodIn_r _ [323, 324, 325, 58] (by rfl) (by decide +kernel)) gg_law_c_M_play_4) rfl rfl rfl (by decide +kernel) ⟨Nat.le_of_ble_eq_true rfl, Nat.le_of_ble_eq_true rfl⟩) ⟨Pre0.blind, va_recv hKc hPc (ci := 11) (q0 := 0) rfl rfl, Pre0.give hPc hKc hDc hT hS hFc⟩ rfl rfl hl.1 rfl (lv_room (Nat.le_of_ble_eq_true rfl)) dL_law_951 ⟨Nat.le_of_ble_eq_true rfl, Nat.le_of_ble_eq_true rfl⟩) hS (fun q _ h => hFc q h) hFc (fun r_76 u t H1 locs ht hvm hw hB hz1 hk1 hS => ?_)
    obtain ⟨fx_77, hP1, hK1, hD1⟩ := hB
    rw [ht] at hP1
    have hK1 := va_K.moved hvm.symm hK1
    obtain ⟨hP, hD⟩ := va_join (wr := [(sbq, .inr (1, [.ref vq, .int 0, .int 0, .int 0])), (vq, .inl (cv, 16, .inl (fun _ => 0))), (oq, .inl (co, 1, .inr (.inl (vp_updL (fun _ => 0) (0 : Int32).toNatClampNeg 0)))), (h0, .inr (10, [.ref fq, .ref sq, .ref gq, .ref nq, .ref dq, .ref pq, .int 0, .int vx_69, .int vx_70])), (nq, .inr (8, [.int vx_71, .ref tq, .ref zq, .ref wq])), (fq, .inr (4, [.int 0, .ref tE, .int 0])), (sq, .inr (4, [.int 0, .ref tE, .int 0])), (gq, .inr (4, [.int 0, .ref tE, .int 0]))]) (w1 := [(mq, .inr (11, [.int 0, .int 0, .int 0, .int 0, .ref rq, .ref sbq])), (rq, .inl (ci, 119, .inl fx_77))]) hP hD [0, 1] [2, 3, 4, 5, 6, 7, 8, 9] rfl rfl (by decide) (by decide) hk1 hFc hP1 hD1
    generalize H1 = H at hP hS ⊢
    have hP : va_P (dC, dI) vwCl [(sbq, .inr (1, [.ref vq, .int 0, .int 0, .int 0])), (vq, .inl (cv, 16, .inl (fun _ => 0))), (oq, .inl (co, 1, .inr (.inl (vp_updL (fun _ => 0) (0 : Int32).toNatClampNeg 0)))), (h0, .inr (10, [.ref fq, .ref sq, .ref gq, .ref nq, .ref dq, .ref pq, .int 0, .int vx_69, .int vx_70])), (nq, .inr (8, [.int vx_71, .ref tq, .ref zq, .ref wq])), (fq, .inr (4, [.int 0, .ref tE, .int 0])), (sq, .inr (4, [.int 0, .ref tE, .int 0])), (gq, .inr (4, [.int 0, .ref tE, .int 0])), (mq, .inr (11, [.int 0, .int 0, .int 0, .int 0, .ref rq, .ref sbq])), (rq, .inl (ci, 119, .inl fx_77))] H := hP
    have hD : va_D (fun q : Nat => s.heap.size ≤ q) [(sbq, .inr (1, [.ref vq, .int 0, .int 0, .int 0])), (vq, .inl (cv, 16, .inl (fun _ => 0))), (oq, .inl (co, 1, .inr (.inl (vp_updL (fun _ => 0) (0 : Int32).toNatClampNeg 0)))), (h0, .inr (10, [.ref fq, .ref sq, .ref gq, .ref nq, .ref dq, .ref pq, .int 0, .int vx_69, .int vx_70])), (nq, .inr (8, [.int vx_71, .ref tq, .ref zq, .ref wq])), (fq, .inr (4, [.int 0, .ref tE, .int 0])), (sq, .inr (4, [.int 0, .ref tE, .int 0])), (gq, .inr (4, [.int 0, .ref tE, .int 0])), (mq, .inr (11, [.int 0, .int 0, .int 0, .int 0, .ref rq, .ref sbq])), (rq, .inl (ci, 119, .inl fx_77))] := hD
    refine W.widen (k := 50) (n := 856) (by omega) (by omega) ?_
    obtain rfl : r_76 = 0 := hw
    refine lv_istore (lv' := [(6, .int 0), (5, .int 0), (4, .int 0), (3, .ref oq), (2, .ref mq), (1, .ref h0), (0, .ref b)]) hx hb dL_law_954 hl (by decide) rfl (fun ls hl => ?_)
    refine lv_aload_n hx hb dL_law_956 rfl (lv_at hl 4 rfl) ?_
    have hPc := hP.sub (ws' := [(mq, .inr (11, [.int 0, .int 0, .int 0, .int 0, .ref rq, .ref sbq]))]) [8] rfl
    have hDc := hD.sub (ws' := [(mq, .inr (11, [.int 0, .int 0, .int 0, .int 0, .ref rq, .ref sbq]))]) [8] (by decide) rfl
    have hKc := hK.sub (tys' := []) [] rfl
    have hFc := va_free (wc := [(mq, .inr (11, [.int 0, .int 0, .int 0, .int 0, .ref rq, .ref sbq]))]) hD hS hA [8] rfl
    refine va_calli (va_runV (As := []) (rest := []) ⟨hx, hb, hml, hown, hts⟩ (c_M_thrown l hl9 dC dI tE mq rq sbq 0 0 0 0 _ ) (cwV 0 hts (goodIn_app (goodIn_r _ [69, 70, 71, 58] (by rfl) (by decide +kernel)) gg_law_c_M_thrown) rfl rfl rfl (by decide +kernel) ⟨Nat.le_of_ble_eq_true rfl, Nat.le_of_ble_eq_true rfl⟩) ⟨Pre0.blind, va_recv hKc hPc (ci := 11) (q0 := 0) rfl rfl, Pre0.give hPc hKc hDc hT hS hFc⟩ rfl rfl hl.1 rfl (lv_room (Nat.le_of_ble_eq_true rfl)) dL_law_957 ⟨Nat.le_of_ble_eq_true rfl, Nat.le_of_ble_eq_true rfl⟩) hS (fun q _ h => hFc q h) hFc (fun r_78 u t H1 locs ht hvm hw hB hz1 hk1 hS => ?_)
    obtain ⟨hP1, hK1, hD1⟩ := hB
    rw [ht] at hP1
    have hK1 := va_K.moved hvm.symm hK1
    obtain ⟨hP, hD⟩ := va_join (wr := [(sbq, .inr (1, [.ref vq, .int 0, .int 0, .int 0])), (vq, .inl (cv, 16, .inl (fun _ => 0))), (oq, .inl (co, 1, .inr (.inl (vp_updL (fun _ => 0) (0 : Int32).toNatClampNeg 0)))), (h0, .inr (10, [.ref fq, .ref sq, .ref gq, .ref nq, .ref dq, .ref pq, .int 0, .int vx_69, .int vx_70])), (nq, .inr (8, [.int vx_71, .ref tq, .ref zq, .ref wq])), (fq, .inr (4, [.int 0, .ref tE, .int 0])), (sq, .inr (4, [.int 0, .ref tE, .int 0])), (gq, .inr (4, [.int 0, .ref tE, .int 0])), (rq, .inl (ci, 119, .inl fx_77))]) (w1 := [(mq, .inr (11, [.int 0, .int 0, .int 0, .int 0, .ref rq, .ref sbq]))]) hP hD [8] [0, 1, 2, 3, 4, 5, 6, 7, 9] rfl rfl (by decide) (by decide) hk1 hFc hP1 hD1
    generalize H1 = H at hP hS ⊢
    have hP : va_P (dC, dI) vwCl [(sbq, .inr (1, [.ref vq, .int 0, .int 0, .int 0])), (vq, .inl (cv, 16, .inl (fun _ => 0))), (oq, .inl (co, 1, .inr (.inl (vp_updL (fun _ => 0) (0 : Int32).toNatClampNeg 0)))), (h0, .inr (10, [.ref fq, .ref sq, .ref gq, .ref nq, .ref dq, .ref pq, .int 0, .int vx_69, .int vx_70])), (nq, .inr (8, [.int vx_71, .ref tq, .ref zq, .ref wq])), (fq, .inr (4, [.int 0, .ref tE, .int 0])), (sq, .inr (4, [.int 0, .ref tE, .int 0])), (gq, .inr (4, [.int 0, .ref tE, .int 0])), (rq, .inl (ci, 119, .inl fx_77)), (mq, .inr (11, [.int 0, .int 0, .int 0, .int 0, .ref rq, .ref sbq]))] H := hP
    have hD : va_D (fun q : Nat => s.heap.size ≤ q) [(sbq, .inr (1, [.ref vq, .int 0, .int 0, .int 0])), (vq, .inl (cv, 16, .inl (fun _ => 0))), (oq, .inl (co, 1, .inr (.inl (vp_updL (fun _ => 0) (0 : Int32).toNatClampNeg 0)))), (h0, .inr (10, [.ref fq, .ref sq, .ref gq, .ref nq, .ref dq, .ref pq, .int 0, .int vx_69, .int vx_70])), (nq, .inr (8, [.int vx_71, .ref tq, .ref zq, .ref wq])), (fq, .inr (4, [.int 0, .ref tE, .int 0])), (sq, .inr (4, [.int 0, .ref tE, .int 0])), (gq, .inr (4, [.int 0, .ref tE, .int 0])), (rq, .inl (ci, 119, .inl fx_77)), (mq, .inr (11, [.int 0, .int 0, .int 0, .int 0, .ref rq, .ref sbq]))] := hD
    refine W.widen (k := 50) (n := 856) (by omega) (by omega) ?_
    obtain rfl : r_78 = 0 := hw
    refine lv_iload hx hb dL_law_960 (lv_at hl 1 rfl) ?_
    refine lv_icmp_eq (tgt := 967) hx hb dL_law_962 (by decide) (fun _ => ?_) (fun c_79 => absurd (by decide) c_79)
    refine lv_iload hx hb dL_law_967 (lv_at hl 1 rfl) ?_
    refine lv_if_ne (tgt := 984) hx hb dL_law_969 (by decide) (fun c_80 => absurd (by decide) c_80) (fun _ => ?_)
    refine lv_aload_n hx hb dL_law_972 rfl (lv_at hl 3 rfl) ?_
    refine lv_iconst (v := 0) hx hb dL_law_973 (by decide) ?_
    refine va_lald hx hb hK hP 2 2 rfl rfl (by unfold vp_in; decide) dL_law_974 ?_
    refine lv_topl (fun x_81 e_82 => ?_)
    obtain rfl : x_81 = 0 := e_82.trans (by simp [vp_updL])
    refine lv_iload hx hb dL_law_975 (lv_at hl 0 rfl) ?_
    refine lv_i2l (v := 0) hx hb dL_law_977 (by decide) ?_
    refine W.lcmp hx hb dL_law_978 ?_
    refine lv_topi (fun x_83 e_84 => ?_)
    obtain rfl : x_83 = 0 := e_84.trans (cmp_self _)
    refine lv_if_eq (tgt := 984) hx hb dL_law_979 (by decide) (fun _ => ?_) (fun c_85 => absurd (by decide) c_85)
    refine lv_goto (tgt := 1303) hx hb dL_law_984 (by decide) ?_
    exact law_next l C0 (by omega) (by omega) hS ls (lv_sub hl [2, 6] rfl)
  · have hPc := hP.sub (ws' := [(h0, .inr (10, [.ref fq, .ref sq, .ref gq, .ref nq, .ref dq, .ref pq, .int 0, .int 0, .int 0])), (fq, .inr (4, [.int 0, .ref tE, .int 0])), (sq, .inr (4, [.int 0, .ref tE, .int 0])), (gq, .inr (4, [.int 0, .ref tE, .int 0])), (nq, .inr (8, [.int 0, .ref tq, .ref zq, .ref wq])), (oq, .inl (co, 1, .inr (.inl (fun _ => 0))))]) [0, 1, 2, 3, 4, 9] rfl
    have hDc := hD.sub (ws' := [(h0, .inr (10, [.ref fq, .ref sq, .ref gq, .ref nq, .ref dq, .ref pq, .int 0, .int 0, .int 0])), (fq, .inr (4, [.int 0, .ref tE, .int 0])), (sq, .inr (4, [.int 0, .ref tE, .int 0])), (gq, .inr (4, [.int 0, .ref tE, .int 0])), (nq, .inr (8, [.int 0, .ref tq, .ref zq, .ref wq])), (oq, .inl (co, 1, .inr (.inl (fun _ => 0))))]) [0, 1, 2, 3, 4, 9] (by decide) rfl
    have hKc := hK.sub (tys' := [(co, .long)]) [2] rfl
    have hFc := va_free (wc := [(h0, .inr (10, [.ref fq, .ref sq, .ref gq, .ref nq, .ref dq, .ref pq, .int 0, .int 0, .int 0])), (fq, .inr (4, [.int 0, .ref tE, .int 0])), (sq, .inr (4, [.int 0, .ref tE, .int 0])), (gq, .inr (4, [.int 0, .ref tE, .int 0])), (nq, .inr (8, [.int 0, .ref tq, .ref zq, .ref wq])), (oq, .inl (co, 1, .inr (.inl (fun _ => 0))))]) hD hS hA [0, 1, 2, 3, 4, 9] rfl
    refine va_calli (vx_runSW (As := [.ref h0, .int y1, .ref oq]) (rest := []) ⟨hx, hb, hml, hown, hts⟩ (w_play_5 l hl9 dC dI tE h0 fq sq gq nq dq pq 0 0 0 0 0 0 tq zq wq 0 y1 oq co (fun _ => 0) _ hd) (vx_cwSW 3 hts (goodIn_app (goodIn_r _ [317, 318, 52] (by rfl) (by decide +kernel)) gg_law_w_play_5) rfl rfl rfl (by decide +kernel) ⟨Nat.le_of_ble_eq_true rfl, Nat.le_of_ble_eq_true rfl⟩) ⟨Pre0.blind, Pre0.give hPc hKc hDc hT hS hFc⟩ rfl rfl hl.1 rfl (lv_room (Nat.le_of_ble_eq_true rfl)) dL_law_939 ⟨Nat.le_of_ble_eq_true rfl, Nat.le_of_ble_eq_true rfl⟩) hS (fun q _ h => hFc q h) hFc (fun r_86 u t H1 locs ht hvm hw hB hz1 hk1 hS => ?_)
    obtain ⟨vx_87, vx_88, vx_89, hP1, hK1, hD1⟩ := hB
    rw [ht] at hP1
    have hK1 := va_K.moved hvm.symm hK1
    obtain ⟨hP, hD⟩ := va_join (wr := [(mq, .inr (11, [.int 0, .int 0, .int 0, .int 0, .ref rq, .ref sbq])), (rq, .inl (ci, 119, .inl (fun _ => 0))), (sbq, .inr (1, [.ref vq, .int 0, .int 0, .int 0])), (vq, .inl (cv, 16, .inl (fun _ => 0)))]) (w1 := [(oq, .inl (co, 1, .inr (.inl (vp_updL (fun _ => 0) (0 : Int32).toNatClampNeg 0)))), (h0, .inr (10, [.ref fq, .ref sq, .ref gq, .ref nq, .ref dq, .ref pq, .int 0, .int vx_87, .int vx_88])), (nq, .inr (8, [.int vx_89, .ref tq, .ref zq, .ref wq])), (fq, .inr (4, [.int 0, .ref tE, .int 0])), (sq, .inr (4, [.int 0, .ref tE, .int 0])), (gq, .inr (4, [.int 0, .ref tE, .int 0]))]) hP hD [0, 1, 2, 3, 4, 9] [5, 6, 7, 8] rfl rfl (by decide) (by decide) hk1 hFc hP1 hD1
    generalize H1 = H at hP hS ⊢
    have hP : va_P (dC, dI) vwCl [(mq, .inr (11, [.int 0, .int 0, .int 0, .int 0, .ref rq, .ref sbq])), (rq, .inl (ci, 119, .inl (fun _ => 0))), (sbq, .inr (1, [.ref vq, .int 0, .int 0, .int 0])), (vq, .inl (cv, 16, .inl (fun _ => 0))), (oq, .inl (co, 1, .inr (.inl (vp_updL (fun _ => 0) (0 : Int32).toNatClampNeg 0)))), (h0, .inr (10, [.ref fq, .ref sq, .ref gq, .ref nq, .ref dq, .ref pq, .int 0, .int vx_87, .int vx_88])), (nq, .inr (8, [.int vx_89, .ref tq, .ref zq, .ref wq])), (fq, .inr (4, [.int 0, .ref tE, .int 0])), (sq, .inr (4, [.int 0, .ref tE, .int 0])), (gq, .inr (4, [.int 0, .ref tE, .int 0]))] H := hP
    have hD : va_D (fun q : Nat => s.heap.size ≤ q) [(mq, .inr (11, [.int 0, .int 0, .int 0, .int 0, .ref rq, .ref sbq])), (rq, .inl (ci, 119, .inl (fun _ => 0))), (sbq, .inr (1, [.ref vq, .int 0, .int 0, .int 0])), (vq, .inl (cv, 16, .inl (fun _ => 0))), (oq, .inl (co, 1, .inr (.inl (vp_updL (fun _ => 0) (0 : Int32).toNatClampNeg 0)))), (h0, .inr (10, [.ref fq, .ref sq, .ref gq, .ref nq, .ref dq, .ref pq, .int 0, .int vx_87, .int vx_88])), (nq, .inr (8, [.int vx_89, .ref tq, .ref zq, .ref wq])), (fq, .inr (4, [.int 0, .ref tE, .int 0])), (sq, .inr (4, [.int 0, .ref tE, .int 0])), (gq, .inr (4, [.int 0, .ref tE, .int 0]))] := hD
    refine W.widen (k := 50) (n := 856) (by omega) (by omega) ?_
    obtain rfl : r_86 = 0 := hw
    refine lv_istore (lv' := [(5, .int 0), (4, .int 0), (3, .ref oq), (2, .ref mq), (1, .ref h0), (0, .ref b)]) hx hb dL_law_942 hl (by decide) rfl (fun ls hl => ?_)
    refine lv_aload_n hx hb dL_law_944 rfl (lv_at hl 3 rfl) ?_
    refine lv_aload_n hx hb dL_law_945 rfl (lv_at hl 5 rfl) ?_
    refine lv_iload hx hb dL_law_946 (lv_at hl 1 rfl) ?_
    refine lv_iconst (v := 1) hx hb dL_law_948 (by decide) ?_
    refine lv_iadd hx hb dL_law_949 ?_
    refine lv_topi (fun x_90 e_91 => ?_)
    obtain rfl : x_90 = 1 := e_91.trans (by decide)
    refine va_sld hx hb hX hbl hbA hS (by unfold vp_in; decide) dL_law_950 ?_
    refine lv_topi (fun x_92 e_93 => ?_)
    obtain rfl : y1 = x_92 := ey1.trans e_93.symm
    have hPc := hP.sub (ws' := [(mq, .inr (11, [.int 0, .int 0, .int 0, .int 0, .ref rq, .ref sbq])), (rq, .inl (ci, 119, .inl (fun _ => 0)))]) [0, 1] rfl
    have hDc := hD.sub (ws' := [(mq, .inr (11, [.int 0, .int 0, .int 0, .int 0, .ref rq, .ref sbq])), (rq, .inl (ci, 119, .inl (fun _ => 0)))]) [0, 1] (by decide) rfl
    have hKc := hK.sub (tys' := [(ci, .int)]) [0] rfl
    have hFc := va_free (wc := [(mq, .inr (11, [.int 0, .int 0, .int 0, .int 0, .ref rq, .ref sbq])), (rq, .inl (ci, 119, .inl (fun _ => 0)))]) hD hS hA [0, 1] rfl
    refine va_calli (va_runV (As := [.int y1]) (rest := []) ⟨hx, hb, hml, hown, hts⟩ (c_M_play_5 l hl9 dC dI tE mq rq sbq 0 ci (fun _ => 0) y1 _ (by first | assumption | decide | omega)) (cwV 1 hts (goodIn_app (goodIn_r _ [323, 324, 325, 58] (by rfl) (by decide +kernel)) gg_law_c_M_play_5) rfl rfl rfl (by decide +kernel) ⟨Nat.le_of_ble_eq_true rfl, Nat.le_of_ble_eq_true rfl⟩) ⟨Pre0.blind, va_recv hKc hPc (ci := 11) (q0 := 0) rfl rfl, Pre0.give hPc hKc hDc hT hS hFc⟩ rfl rfl hl.1 rfl (lv_room (Nat.le_of_ble_eq_true rfl)) dL_law_951 ⟨Nat.le_of_ble_eq_true rfl, Nat.le_of_ble_eq_true rfl⟩) hS (fun q _ h => hFc q h) hFc (fun r_94 u t H1 locs ht hvm hw hB hz1 hk1 hS => ?_)
    obtain ⟨fx_95, hP1, hK1, hD1⟩ := hB
    rw [ht] at hP1
    have hK1 := va_K.moved hvm.symm hK1
    obtain ⟨hP, hD⟩ := va_join (wr := [(sbq, .inr (1, [.ref vq, .int 0, .int 0, .int 0])), (vq, .inl (cv, 16, .inl (fun _ => 0))), (oq, .inl (co, 1, .inr (.inl (vp_updL (fun _ => 0) (0 : Int32).toNatClampNeg 0)))), (h0, .inr (10, [.ref fq, .ref sq, .ref gq, .ref nq, .ref dq, .ref pq, .int 0, .int vx_87, .int vx_88])), (nq, .inr (8, [.int vx_89, .ref tq, .ref zq, .ref wq])), (fq, .inr (4, [.int 0, .ref tE, .int 0])), (sq, .inr (4, [.int 0, .ref tE, .int 0])), (gq, .inr (4, [.int 0, .ref tE, .int 0]))]) (w1 := [(mq, .inr (11, [.int 0, .int 0, .int 0, .int 0, .ref rq, .ref sbq])), (rq, .inl (ci, 119, .inl fx_95))]) hP hD [0, 1] [2, 3, 4, 5, 6, 7, 8, 9] rfl rfl (by decide) (by decide) hk1 hFc hP1 hD1
    generalize H1 = H at hP hS ⊢
    have hP : va_P (dC, dI) vwCl [(sbq, .inr (1, [.ref vq, .int 0, .int 0, .int 0])), (vq, .inl (cv, 16, .inl (fun _ => 0))), (oq, .inl (co, 1, .inr (.inl (vp_updL (fun _ => 0) (0 : Int32).toNatClampNeg 0)))), (h0, .inr (10, [.ref fq, .ref sq, .ref gq, .ref nq, .ref dq, .ref pq, .int 0, .int vx_87, .int vx_88])), (nq, .inr (8, [.int vx_89, .ref tq, .ref zq, .ref wq])), (fq, .inr (4, [.int 0, .ref tE, .int 0])), (sq, .inr (4, [.int 0, .ref tE, .int 0])), (gq, .inr (4, [.int 0, .ref tE, .int 0])), (mq, .inr (11, [.int 0, .int 0, .int 0, .int 0, .ref rq, .ref sbq])), (rq, .inl (ci, 119, .inl fx_95))] H := hP
    have hD : va_D (fun q : Nat => s.heap.size ≤ q) [(sbq, .inr (1, [.ref vq, .int 0, .int 0, .int 0])), (vq, .inl (cv, 16, .inl (fun _ => 0))), (oq, .inl (co, 1, .inr (.inl (vp_updL (fun _ => 0) (0 : Int32).toNatClampNeg 0)))), (h0, .inr (10, [.ref fq, .ref sq, .ref gq, .ref nq, .ref dq, .ref pq, .int 0, .int vx_87, .int vx_88])), (nq, .inr (8, [.int vx_89, .ref tq, .ref zq, .ref wq])), (fq, .inr (4, [.int 0, .ref tE, .int 0])), (sq, .inr (4, [.int 0, .ref tE, .int 0])), (gq, .inr (4, [.int 0, .ref tE, .int 0])), (mq, .inr (11, [.int 0, .int 0, .int 0, .int 0, .ref rq, .ref sbq])), (rq, .inl (ci, 119, .inl fx_95))] := hD
    refine W.widen (k := 50) (n := 856) (by omega) (by omega) ?_
    obtain rfl : r_94 = 0 := hw
    refine lv_istore (lv' := [(6, .int 0), (5, .int 0), (4, .int 0), (3, .ref oq), (2, .ref mq), (1, .ref h0), (0, .ref b)]) hx hb dL_law_954 hl (by decide) rfl (fun ls hl => ?_)
    refine lv_aload_n hx hb dL_law_956 rfl (lv_at hl 4 rfl) ?_
    have hPc := hP.sub (ws' := [(mq, .inr (11, [.int 0, .int 0, .int 0, .int 0, .ref rq, .ref sbq]))]) [8] rfl
    have hDc := hD.sub (ws' := [(mq, .inr (11, [.int 0, .int 0, .int 0, .int 0, .ref rq, .ref sbq]))]) [8] (by decide) rfl
    have hKc := hK.sub (tys' := []) [] rfl
    have hFc := va_free (wc := [(mq, .inr (11, [.int 0, .int 0, .int 0, .int 0, .ref rq, .ref sbq]))]) hD hS hA [8] rfl
    refine va_calli (va_runV (As := []) (rest := []) ⟨hx, hb, hml, hown, hts⟩ (c_M_thrown l hl9 dC dI tE mq rq sbq 0 0 0 0 _ ) (cwV 0 hts (goodIn_app (goodIn_r _ [69, 70, 71, 58] (by rfl) (by decide +kernel)) gg_law_c_M_thrown) rfl rfl rfl (by decide +kernel) ⟨Nat.le_of_ble_eq_true rfl, Nat.le_of_ble_eq_true rfl⟩) ⟨Pre0.blind, va_recv hKc hPc (ci := 11) (q0 := 0) rfl rfl, Pre0.give hPc hKc hDc hT hS hFc⟩ rfl rfl hl.1 rfl (lv_room (Nat.le_of_ble_eq_true rfl)) dL_law_957 ⟨Nat.le_of_ble_eq_true rfl, Nat.le_of_ble_eq_true rfl⟩) hS (fun q _ h => hFc q h) hFc (fun r_96 u t H1 locs ht hvm hw hB hz1 hk1 hS => ?_)
    obtain ⟨hP1, hK1, hD1⟩ := hB
    rw [ht] at hP1
    have hK1 := va_K.moved hvm.symm hK1
    obtain ⟨hP, hD⟩ := va_join (wr := [(sbq, .inr (1, [.ref vq, .int 0, .int 0, .int 0])), (vq, .inl (cv, 16, .inl (fun _ => 0))), (oq, .inl (co, 1, .inr (.inl (vp_updL (fun _ => 0) (0 : Int32).toNatClampNeg 0)))), (h0, .inr (10, [.ref fq, .ref sq, .ref gq, .ref nq, .ref dq, .ref pq, .int 0, .int vx_87, .int vx_88])), (nq, .inr (8, [.int vx_89, .ref tq, .ref zq, .ref wq])), (fq, .inr (4, [.int 0, .ref tE, .int 0])), (sq, .inr (4, [.int 0, .ref tE, .int 0])), (gq, .inr (4, [.int 0, .ref tE, .int 0])), (rq, .inl (ci, 119, .inl fx_95))]) (w1 := [(mq, .inr (11, [.int 0, .int 0, .int 0, .int 0, .ref rq, .ref sbq]))]) hP hD [8] [0, 1, 2, 3, 4, 5, 6, 7, 9] rfl rfl (by decide) (by decide) hk1 hFc hP1 hD1
    generalize H1 = H at hP hS ⊢
    have hP : va_P (dC, dI) vwCl [(sbq, .inr (1, [.ref vq, .int 0, .int 0, .int 0])), (vq, .inl (cv, 16, .inl (fun _ => 0))), (oq, .inl (co, 1, .inr (.inl (vp_updL (fun _ => 0) (0 : Int32).toNatClampNeg 0)))), (h0, .inr (10, [.ref fq, .ref sq, .ref gq, .ref nq, .ref dq, .ref pq, .int 0, .int vx_87, .int vx_88])), (nq, .inr (8, [.int vx_89, .ref tq, .ref zq, .ref wq])), (fq, .inr (4, [.int 0, .ref tE, .int 0])), (sq, .inr (4, [.int 0, .ref tE, .int 0])), (gq, .inr (4, [.int 0, .ref tE, .int 0])), (rq, .inl (ci, 119, .inl fx_95)), (mq, .inr (11, [.int 0, .int 0, .int 0, .int 0, .ref rq, .ref sbq]))] H := hP
    have hD : va_D (fun q : Nat => s.heap.size ≤ q) [(sbq, .inr (1, [.ref vq, .int 0, .int 0, .int 0])), (vq, .inl (cv, 16, .inl (fun _ => 0))), (oq, .inl (co, 1, .inr (.inl (vp_updL (fun _ => 0) (0 : Int32).toNatClampNeg 0)))), (h0, .inr (10, [.ref fq, .ref sq, .ref gq, .ref nq, .ref dq, .ref pq, .int 0, .int vx_87, .int vx_88])), (nq, .inr (8, [.int vx_89, .ref tq, .ref zq, .ref wq])), (fq, .inr (4, [.int 0, .ref tE, .int 0])), (sq, .inr (4, [.int 0, .ref tE, .int 0])), (gq, .inr (4, [.int 0, .ref tE, .int 0])), (rq, .inl (ci, 119, .inl fx_95)), (mq, .inr (11, [.int 0, .int 0, .int 0, .int 0, .ref rq, .ref sbq]))] := hD
    refine W.widen (k := 50) (n := 856) (by omega) (by omega) ?_
    obtain rfl : r_96 = 0 := hw
    refine lv_iload hx hb dL_law_960 (lv_at hl 1 rfl) ?_
    refine lv_icmp_eq (tgt := 967) hx hb dL_law_962 (by decide) (fun _ => ?_) (fun c_97 => absurd (by decide) c_97)
    refine lv_iload hx hb dL_law_967 (lv_at hl 1 rfl) ?_
    refine lv_if_ne (tgt := 984) hx hb dL_law_969 (by decide) (fun c_98 => absurd (by decide) c_98) (fun _ => ?_)
    refine lv_aload_n hx hb dL_law_972 rfl (lv_at hl 3 rfl) ?_
    refine lv_iconst (v := 0) hx hb dL_law_973 (by decide) ?_
    refine va_lald hx hb hK hP 2 2 rfl rfl (by unfold vp_in; decide) dL_law_974 ?_
    refine lv_topl (fun x_99 e_100 => ?_)
    obtain rfl : x_99 = 0 := e_100.trans (by simp [vp_updL])
    refine lv_iload hx hb dL_law_975 (lv_at hl 0 rfl) ?_
    refine lv_i2l (v := 0) hx hb dL_law_977 (by decide) ?_
    refine W.lcmp hx hb dL_law_978 ?_
    refine lv_topi (fun x_101 e_102 => ?_)
    obtain rfl : x_101 = 0 := e_102.trans (cmp_self _)
    refine lv_if_eq (tgt := 984) hx hb dL_law_979 (by decide) (fun _ => ?_) (fun c_103 => absurd (by decide) c_103)
    refine lv_goto (tgt := 1303) hx hb dL_law_984 (by decide) ?_
    exact law_next l C0 (by omega) (by omega) hS ls (lv_sub hl [2, 6] rfl)
  · have hPc := hP.sub (ws' := [(h0, .inr (10, [.ref fq, .ref sq, .ref gq, .ref nq, .ref dq, .ref pq, .int 0, .int 0, .int 0])), (fq, .inr (4, [.int 0, .ref tE, .int 0])), (sq, .inr (4, [.int 0, .ref tE, .int 0])), (gq, .inr (4, [.int 0, .ref tE, .int 0])), (nq, .inr (8, [.int 0, .ref tq, .ref zq, .ref wq])), (oq, .inl (co, 1, .inr (.inl (fun _ => 0))))]) [0, 1, 2, 3, 4, 9] rfl
    have hDc := hD.sub (ws' := [(h0, .inr (10, [.ref fq, .ref sq, .ref gq, .ref nq, .ref dq, .ref pq, .int 0, .int 0, .int 0])), (fq, .inr (4, [.int 0, .ref tE, .int 0])), (sq, .inr (4, [.int 0, .ref tE, .int 0])), (gq, .inr (4, [.int 0, .ref tE, .int 0])), (nq, .inr (8, [.int 0, .ref tq, .ref zq, .ref wq])), (oq, .inl (co, 1, .inr (.inl (fun _ => 0))))]) [0, 1, 2, 3, 4, 9] (by decide) rfl
    have hKc := hK.sub (tys' := [(co, .long)]) [2] rfl
    have hFc := va_free (wc := [(h0, .inr (10, [.ref fq, .ref sq, .ref gq, .ref nq, .ref dq, .ref pq, .int 0, .int 0, .int 0])), (fq, .inr (4, [.int 0, .ref tE, .int 0])), (sq, .inr (4, [.int 0, .ref tE, .int 0])), (gq, .inr (4, [.int 0, .ref tE, .int 0])), (nq, .inr (8, [.int 0, .ref tq, .ref zq, .ref wq])), (oq, .inl (co, 1, .inr (.inl (fun _ => 0))))]) hD hS hA [0, 1, 2, 3, 4, 9] rfl
    refine va_calli (vx_runSW (As := [.ref h0, .int y1, .ref oq]) (rest := []) ⟨hx, hb, hml, hown, hts⟩ (w_play_6 l hl9 dC dI tE h0 fq sq gq nq dq pq 0 0 0 0 0 0 tq zq wq 0 y1 oq co (fun _ => 0) _ hd) (vx_cwSW 3 hts (goodIn_app (goodIn_r _ [317, 318, 52] (by rfl) (by decide +kernel)) gg_law_w_play_6) rfl rfl rfl (by decide +kernel) ⟨Nat.le_of_ble_eq_true rfl, Nat.le_of_ble_eq_true rfl⟩) ⟨Pre0.blind, Pre0.give hPc hKc hDc hT hS hFc⟩ rfl rfl hl.1 rfl (lv_room (Nat.le_of_ble_eq_true rfl)) dL_law_939 ⟨Nat.le_of_ble_eq_true rfl, Nat.le_of_ble_eq_true rfl⟩) hS (fun q _ h => hFc q h) hFc (fun r_104 u t H1 locs ht hvm hw hB hz1 hk1 hS => ?_)
    obtain ⟨vx_105, vx_106, vx_107, hP1, hK1, hD1⟩ := hB
    rw [ht] at hP1
    have hK1 := va_K.moved hvm.symm hK1
    obtain ⟨hP, hD⟩ := va_join (wr := [(mq, .inr (11, [.int 0, .int 0, .int 0, .int 0, .ref rq, .ref sbq])), (rq, .inl (ci, 119, .inl (fun _ => 0))), (sbq, .inr (1, [.ref vq, .int 0, .int 0, .int 0])), (vq, .inl (cv, 16, .inl (fun _ => 0)))]) (w1 := [(oq, .inl (co, 1, .inr (.inl (vp_updL (fun _ => 0) (0 : Int32).toNatClampNeg 0)))), (h0, .inr (10, [.ref fq, .ref sq, .ref gq, .ref nq, .ref dq, .ref pq, .int 0, .int vx_105, .int vx_106])), (nq, .inr (8, [.int vx_107, .ref tq, .ref zq, .ref wq])), (fq, .inr (4, [.int 0, .ref tE, .int 0])), (sq, .inr (4, [.int 0, .ref tE, .int 0])), (gq, .inr (4, [.int 0, .ref tE, .int 0]))]) hP hD [0, 1, 2, 3, 4, 9] [5, 6, 7, 8] rfl rfl (by decide) (by decide) hk1 hFc hP1 hD1
    generalize H1 = H at hP hS ⊢
    have hP : va_P (dC, dI) vwCl [(mq, .inr (11, [.int 0, .int 0, .int 0, .int 0, .ref rq, .ref sbq])), (rq, .inl (ci, 119, .inl (fun _ => 0))), (sbq, .inr (1, [.ref vq, .int 0, .int 0, .int 0])), (vq, .inl (cv, 16, .inl (fun _ => 0))), (oq, .inl (co, 1, .inr (.inl (vp_updL (fun _ => 0) (0 : Int32).toNatClampNeg 0)))), (h0, .inr (10, [.ref fq, .ref sq, .ref gq, .ref nq, .ref dq, .ref pq, .int 0, .int vx_105, .int vx_106])), (nq, .inr (8, [.int vx_107, .ref tq, .ref zq, .ref wq])), (fq, .inr (4, [.int 0, .ref tE, .int 0])), (sq, .inr (4, [.int 0, .ref tE, .int 0])), (gq, .inr (4, [.int 0, .ref tE, .int 0]))] H := hP
    have hD : va_D (fun q : Nat => s.heap.size ≤ q) [(mq, .inr (11, [.int 0, .int 0, .int 0, .int 0, .ref rq, .ref sbq])), (rq, .inl (ci, 119, .inl (fun _ => 0))), (sbq, .inr (1, [.ref vq, .int 0, .int 0, .int 0])), (vq, .inl (cv, 16, .inl (fun _ => 0))), (oq, .inl (co, 1, .inr (.inl (vp_updL (fun _ => 0) (0 : Int32).toNatClampNeg 0)))), (h0, .inr (10, [.ref fq, .ref sq, .ref gq, .ref nq, .ref dq, .ref pq, .int 0, .int vx_105, .int vx_106])), (nq, .inr (8, [.int vx_107, .ref tq, .ref zq, .ref wq])), (fq, .inr (4, [.int 0, .ref tE, .int 0])), (sq, .inr (4, [.int 0, .ref tE, .int 0])), (gq, .inr (4, [.int 0, .ref tE, .int 0]))] := hD
    refine W.widen (k := 50) (n := 856) (by omega) (by omega) ?_
    obtain rfl : r_104 = 0 := hw
    refine lv_istore (lv' := [(5, .int 0), (4, .int 0), (3, .ref oq), (2, .ref mq), (1, .ref h0), (0, .ref b)]) hx hb dL_law_942 hl (by decide) rfl (fun ls hl => ?_)
    refine lv_aload_n hx hb dL_law_944 rfl (lv_at hl 3 rfl) ?_
    refine lv_aload_n hx hb dL_law_945 rfl (lv_at hl 5 rfl) ?_
    refine lv_iload hx hb dL_law_946 (lv_at hl 1 rfl) ?_
    refine lv_iconst (v := 1) hx hb dL_law_948 (by decide) ?_
    refine lv_iadd hx hb dL_law_949 ?_
    refine lv_topi (fun x_108 e_109 => ?_)
    obtain rfl : x_108 = 1 := e_109.trans (by decide)
    refine va_sld hx hb hX hbl hbA hS (by unfold vp_in; decide) dL_law_950 ?_
    refine lv_topi (fun x_110 e_111 => ?_)
    obtain rfl : y1 = x_110 := ey1.trans e_111.symm
    have hPc := hP.sub (ws' := [(mq, .inr (11, [.int 0, .int 0, .int 0, .int 0, .ref rq, .ref sbq])), (rq, .inl (ci, 119, .inl (fun _ => 0)))]) [0, 1] rfl
    have hDc := hD.sub (ws' := [(mq, .inr (11, [.int 0, .int 0, .int 0, .int 0, .ref rq, .ref sbq])), (rq, .inl (ci, 119, .inl (fun _ => 0)))]) [0, 1] (by decide) rfl
    have hKc := hK.sub (tys' := [(ci, .int)]) [0] rfl
    have hFc := va_free (wc := [(mq, .inr (11, [.int 0, .int 0, .int 0, .int 0, .ref rq, .ref sbq])), (rq, .inl (ci, 119, .inl (fun _ => 0)))]) hD hS hA [0, 1] rfl
    refine va_calli (va_runV (As := [.int y1]) (rest := []) ⟨hx, hb, hml, hown, hts⟩ (c_M_play_6 l hl9 dC dI tE mq rq sbq 0 ci (fun _ => 0) y1 _ (by first | assumption | decide | omega)) (cwV 1 hts (goodIn_app (goodIn_r _ [323, 324, 325, 58] (by rfl) (by decide +kernel)) gg_law_c_M_play_6) rfl rfl rfl (by decide +kernel) ⟨Nat.le_of_ble_eq_true rfl, Nat.le_of_ble_eq_true rfl⟩) ⟨Pre0.blind, va_recv hKc hPc (ci := 11) (q0 := 0) rfl rfl, Pre0.give hPc hKc hDc hT hS hFc⟩ rfl rfl hl.1 rfl (lv_room (Nat.le_of_ble_eq_true rfl)) dL_law_951 ⟨Nat.le_of_ble_eq_true rfl, Nat.le_of_ble_eq_true rfl⟩) hS (fun q _ h => hFc q h) hFc (fun r_112 u t H1 locs ht hvm hw hB hz1 hk1 hS => ?_)
    obtain ⟨fx_113, hP1, hK1, hD1⟩ := hB
    rw [ht] at hP1
    have hK1 := va_K.moved hvm.symm hK1
    obtain ⟨hP, hD⟩ := va_join (wr := [(sbq, .inr (1, [.ref vq, .int 0, .int 0, .int 0])), (vq, .inl (cv, 16, .inl (fun _ => 0))), (oq, .inl (co, 1, .inr (.inl (vp_updL (fun _ => 0) (0 : Int32).toNatClampNeg 0)))), (h0, .inr (10, [.ref fq, .ref sq, .ref gq, .ref nq, .ref dq, .ref pq, .int 0, .int vx_105, .int vx_106])), (nq, .inr (8, [.int vx_107, .ref tq, .ref zq, .ref wq])), (fq, .inr (4, [.int 0, .ref tE, .int 0])), (sq, .inr (4, [.int 0, .ref tE, .int 0])), (gq, .inr (4, [.int 0, .ref tE, .int 0]))]) (w1 := [(mq, .inr (11, [.int 0, .int 0, .int 0, .int 0, .ref rq, .ref sbq])), (rq, .inl (ci, 119, .inl fx_113))]) hP hD [0, 1] [2, 3, 4, 5, 6, 7, 8, 9] rfl rfl (by decide) (by decide) hk1 hFc hP1 hD1
    generalize H1 = H at hP hS ⊢
    have hP : va_P (dC, dI) vwCl [(sbq, .inr (1, [.ref vq, .int 0, .int 0, .int 0])), (vq, .inl (cv, 16, .inl (fun _ => 0))), (oq, .inl (co, 1, .inr (.inl (vp_updL (fun _ => 0) (0 : Int32).toNatClampNeg 0)))), (h0, .inr (10, [.ref fq, .ref sq, .ref gq, .ref nq, .ref dq, .ref pq, .int 0, .int vx_105, .int vx_106])), (nq, .inr (8, [.int vx_107, .ref tq, .ref zq, .ref wq])), (fq, .inr (4, [.int 0, .ref tE, .int 0])), (sq, .inr (4, [.int 0, .ref tE, .int 0])), (gq, .inr (4, [.int 0, .ref tE, .int 0])), (mq, .inr (11, [.int 0, .int 0, .int 0, .int 0, .ref rq, .ref sbq])), (rq, .inl (ci, 119, .inl fx_113))] H := hP
    have hD : va_D (fun q : Nat => s.heap.size ≤ q) [(sbq, .inr (1, [.ref vq, .int 0, .int 0, .int 0])), (vq, .inl (cv, 16, .inl (fun _ => 0))), (oq, .inl (co, 1, .inr (.inl (vp_updL (fun _ => 0) (0 : Int32).toNatClampNeg 0)))), (h0, .inr (10, [.ref fq, .ref sq, .ref gq, .ref nq, .ref dq, .ref pq, .int 0, .int vx_105, .int vx_106])), (nq, .inr (8, [.int vx_107, .ref tq, .ref zq, .ref wq])), (fq, .inr (4, [.int 0, .ref tE, .int 0])), (sq, .inr (4, [.int 0, .ref tE, .int 0])), (gq, .inr (4, [.int 0, .ref tE, .int 0])), (mq, .inr (11, [.int 0, .int 0, .int 0, .int 0, .ref rq, .ref sbq])), (rq, .inl (ci, 119, .inl fx_113))] := hD
    refine W.widen (k := 50) (n := 856) (by omega) (by omega) ?_
    obtain rfl : r_112 = 0 := hw
    refine lv_istore (lv' := [(6, .int 0), (5, .int 0), (4, .int 0), (3, .ref oq), (2, .ref mq), (1, .ref h0), (0, .ref b)]) hx hb dL_law_954 hl (by decide) rfl (fun ls hl => ?_)
    refine lv_aload_n hx hb dL_law_956 rfl (lv_at hl 4 rfl) ?_
    have hPc := hP.sub (ws' := [(mq, .inr (11, [.int 0, .int 0, .int 0, .int 0, .ref rq, .ref sbq]))]) [8] rfl
    have hDc := hD.sub (ws' := [(mq, .inr (11, [.int 0, .int 0, .int 0, .int 0, .ref rq, .ref sbq]))]) [8] (by decide) rfl
    have hKc := hK.sub (tys' := []) [] rfl
    have hFc := va_free (wc := [(mq, .inr (11, [.int 0, .int 0, .int 0, .int 0, .ref rq, .ref sbq]))]) hD hS hA [8] rfl
    refine va_calli (va_runV (As := []) (rest := []) ⟨hx, hb, hml, hown, hts⟩ (c_M_thrown l hl9 dC dI tE mq rq sbq 0 0 0 0 _ ) (cwV 0 hts (goodIn_app (goodIn_r _ [69, 70, 71, 58] (by rfl) (by decide +kernel)) gg_law_c_M_thrown) rfl rfl rfl (by decide +kernel) ⟨Nat.le_of_ble_eq_true rfl, Nat.le_of_ble_eq_true rfl⟩) ⟨Pre0.blind, va_recv hKc hPc (ci := 11) (q0 := 0) rfl rfl, Pre0.give hPc hKc hDc hT hS hFc⟩ rfl rfl hl.1 rfl (lv_room (Nat.le_of_ble_eq_true rfl)) dL_law_957 ⟨Nat.le_of_ble_eq_true rfl, Nat.le_of_ble_eq_true rfl⟩) hS (fun q _ h => hFc q h) hFc (fun r_114 u t H1 locs ht hvm hw hB hz1 hk1 hS => ?_)
    obtain ⟨hP1, hK1, hD1⟩ := hB
    rw [ht] at hP1
    have hK1 := va_K.moved hvm.symm hK1
    obtain ⟨hP, hD⟩ := va_join (wr := [(sbq, .inr (1, [.ref vq, .int 0, .int 0, .int 0])), (vq, .inl (cv, 16, .inl (fun _ => 0))), (oq, .inl (co, 1, .inr (.inl (vp_updL (fun _ => 0) (0 : Int32).toNatClampNeg 0)))), (h0, .inr (10, [.ref fq, .ref sq, .ref gq, .ref nq, .ref dq, .ref pq, .int 0, .int vx_105, .int vx_106])), (nq, .inr (8, [.int vx_107, .ref tq, .ref zq, .ref wq])), (fq, .inr (4, [.int 0, .ref tE, .int 0])), (sq, .inr (4, [.int 0, .ref tE, .int 0])), (gq, .inr (4, [.int 0, .ref tE, .int 0])), (rq, .inl (ci, 119, .inl fx_113))]) (w1 := [(mq, .inr (11, [.int 0, .int 0, .int 0, .int 0, .ref rq, .ref sbq]))]) hP hD [8] [0, 1, 2, 3, 4, 5, 6, 7, 9] rfl rfl (by decide) (by decide) hk1 hFc hP1 hD1
    generalize H1 = H at hP hS ⊢
    have hP : va_P (dC, dI) vwCl [(sbq, .inr (1, [.ref vq, .int 0, .int 0, .int 0])), (vq, .inl (cv, 16, .inl (fun _ => 0))), (oq, .inl (co, 1, .inr (.inl (vp_updL (fun _ => 0) (0 : Int32).toNatClampNeg 0)))), (h0, .inr (10, [.ref fq, .ref sq, .ref gq, .ref nq, .ref dq, .ref pq, .int 0, .int vx_105, .int vx_106])), (nq, .inr (8, [.int vx_107, .ref tq, .ref zq, .ref wq])), (fq, .inr (4, [.int 0, .ref tE, .int 0])), (sq, .inr (4, [.int 0, .ref tE, .int 0])), (gq, .inr (4, [.int 0, .ref tE, .int 0])), (rq, .inl (ci, 119, .inl fx_113)), (mq, .inr (11, [.int 0, .int 0, .int 0, .int 0, .ref rq, .ref sbq]))] H := hP
    have hD : va_D (fun q : Nat => s.heap.size ≤ q) [(sbq, .inr (1, [.ref vq, .int 0, .int 0, .int 0])), (vq, .inl (cv, 16, .inl (fun _ => 0))), (oq, .inl (co, 1, .inr (.inl (vp_updL (fun _ => 0) (0 : Int32).toNatClampNeg 0)))), (h0, .inr (10, [.ref fq, .ref sq, .ref gq, .ref nq, .ref dq, .ref pq, .int 0, .int vx_105, .int vx_106])), (nq, .inr (8, [.int vx_107, .ref tq, .ref zq, .ref wq])), (fq, .inr (4, [.int 0, .ref tE, .int 0])), (sq, .inr (4, [.int 0, .ref tE, .int 0])), (gq, .inr (4, [.int 0, .ref tE, .int 0])), (rq, .inl (ci, 119, .inl fx_113)), (mq, .inr (11, [.int 0, .int 0, .int 0, .int 0, .ref rq, .ref sbq]))] := hD
    refine W.widen (k := 50) (n := 856) (by omega) (by omega) ?_
    obtain rfl : r_114 = 0 := hw
    refine lv_iload hx hb dL_law_960 (lv_at hl 1 rfl) ?_
    refine lv_icmp_eq (tgt := 967) hx hb dL_law_962 (by decide) (fun _ => ?_) (fun c_115 => absurd (by decide) c_115)
    refine lv_iload hx hb dL_law_967 (lv_at hl 1 rfl) ?_
    refine lv_if_ne (tgt := 984) hx hb dL_law_969 (by decide) (fun c_116 => absurd (by decide) c_116) (fun _ => ?_)
    refine lv_aload_n hx hb dL_law_972 rfl (lv_at hl 3 rfl) ?_
    refine lv_iconst (v := 0) hx hb dL_law_973 (by decide) ?_
    refine va_lald hx hb hK hP 2 2 rfl rfl (by unfold vp_in; decide) dL_law_974 ?_
    refine lv_topl (fun x_117 e_118 => ?_)
    obtain rfl : x_117 = 0 := e_118.trans (by simp [vp_updL])
    refine lv_iload hx hb dL_law_975 (lv_at hl 0 rfl) ?_
    refine lv_i2l (v := 0) hx hb dL_law_977 (by decide) ?_
    refine W.lcmp hx hb dL_law_978 ?_
    refine lv_topi (fun x_119 e_120 => ?_)
    obtain rfl : x_119 = 0 := e_120.trans (cmp_self _)
    refine lv_if_eq (tgt := 984) hx hb dL_law_979 (by decide) (fun _ => ?_) (fun c_121 => absurd (by decide) c_121)
    refine lv_goto (tgt := 1303) hx hb dL_law_984 (by decide) ?_
    exact law_next l C0 (by omega) (by omega) hS ls (lv_sub hl [2, 6] rfl)
set_option maxHeartbeats 4000000 in
set_option maxRecDepth 100000 in
theorem law_foresee {p : Program} {e : Env} {s : State} {m : MethodId} {below : List Frame} {meth : Method} {c : Code} (l : Launch) (hl9 : l.stackTraces = false) {b : Nat} {xs : Nat → Int32} (C0 : lw_At p s m meth c b 4 xs) (dC : Nat → ClassId) (dI : Nat → Nat → Nat) (tE : Nat) (h0 fq sq gq nq tq zq wq dq pq mq rq sbq vq oq : Nat) (ci cv co : ClassId) (hT : tK tE (fun q : Nat => s.heap.size ≤ q) s s.heap) (hK : va_K (dC, dI) vwCl [(ci, .int), (cv, .byte), (co, .long)] s) {H : Heap} {locs : List Loc} (hP : va_P (dC, dI) vwCl [(h0, .inr (10, [.ref fq, .ref sq, .ref gq, .ref nq, .ref dq, .ref pq, .int 0, .int 0, .int 0])), (fq, .inr (4, [.int 0, .ref tE, .int 0])), (sq, .inr (4, [.int 0, .ref tE, .int 0])), (gq, .inr (4, [.int 0, .ref tE, .int 0])), (nq, .inr (8, [.int 0, .ref tq, .ref zq, .ref wq])), (mq, .inr (11, [.int 0, .int 0, .int 0, .int 0, .ref rq, .ref sbq])), (rq, .inl (ci, 119, .inl (fun _ => 0))), (sbq, .inr (1, [.ref vq, .int 0, .int 0, .int 0])), (vq, .inl (cv, 16, .inl (fun _ => 0))), (oq, .inl (co, 1, .inr (.inl (fun _ => 0))))] H) (hD : va_D (fun q : Nat => s.heap.size ≤ q) [(h0, .inr (10, [.ref fq, .ref sq, .ref gq, .ref nq, .ref dq, .ref pq, .int 0, .int 0, .int 0])), (fq, .inr (4, [.int 0, .ref tE, .int 0])), (sq, .inr (4, [.int 0, .ref tE, .int 0])), (gq, .inr (4, [.int 0, .ref tE, .int 0])), (nq, .inr (8, [.int 0, .ref tq, .ref zq, .ref wq])), (mq, .inr (11, [.int 0, .int 0, .int 0, .int 0, .ref rq, .ref sbq])), (rq, .inl (ci, 119, .inl (fun _ => 0))), (sbq, .inr (1, [.ref vq, .int 0, .int 0, .int 0])), (vq, .inl (cv, 16, .inl (fun _ => 0))), (oq, .inl (co, 1, .inr (.inl (fun _ => 0))))]) (hS : va_S (fun q : Nat => s.heap.size ≤ q) s.heap H locs) (ls : Array Slot) (hl : lv_has ls 9 [(4, .int 0), (3, .ref oq), (2, .ref mq), (1, .ref h0), (0, .ref b)]) : W p l e room_1 s m #[Value.ref b] below meth c H locs 50 856 (lw_Z below #[Value.ref b] s) (F0 m 987 ls []) := by
  obtain ⟨hx, hb, hr, hml, hown, hts, hX, hbl, hlocks, hgv⟩ := id C0
  have hts := law_hts hts
  have hA : ∀ q : Nat, s.heap.size ≤ q → (fun q : Nat => s.heap.size ≤ q) q := fun _ h => h
  have hbA : ¬ (fun q : Nat => s.heap.size ≤ q) b := Nat.not_le.mpr hbl
  refine lv_aload_n hx hb dL_law_987 rfl (lv_at hl 3 rfl) ?_
  refine lv_aload_n hx hb dL_law_988 rfl (lv_at hl 4 rfl) ?_
  refine lv_iload hx hb dL_law_989 (lv_at hl 0 rfl) ?_
  refine lv_iconst (v := 1) hx hb dL_law_991 (by decide) ?_
  refine lv_iadd hx hb dL_law_992 ?_
  refine lv_topi (fun x_1 e_2 => ?_)
  obtain rfl : x_1 = 1 := e_2.trans (by decide)
  refine va_sld hx hb hX hbl hbA hS (by unfold vp_in; decide) dL_law_993 ?_
  refine lv_topi (fun y1 ey1 => ?_)
  refine lv_aload_n hx hb dL_law_994 rfl (lv_at hl 4 rfl) ?_
  refine lv_iload hx hb dL_law_995 (lv_at hl 0 rfl) ?_
  refine lv_iconst (v := 2) hx hb dL_law_997 (by decide) ?_
  refine lv_iadd hx hb dL_law_998 ?_
  refine lv_topi (fun x_5 e_6 => ?_)
  obtain rfl : x_5 = 2 := e_6.trans (by decide)
  refine va_sld hx hb hX hbl hbA hS (by unfold vp_in; decide) dL_law_999 ?_
  refine lv_topi (fun y2 ey2 => ?_)
  refine lv_aload_n hx hb dL_law_1000 rfl (lv_at hl 1 rfl) ?_
  have hPc := hP.sub (ws' := [(h0, .inr (10, [.ref fq, .ref sq, .ref gq, .ref nq, .ref dq, .ref pq, .int 0, .int 0, .int 0])), (gq, .inr (4, [.int 0, .ref tE, .int 0]))]) [0, 3] rfl
  have hDc := hD.sub (ws' := [(h0, .inr (10, [.ref fq, .ref sq, .ref gq, .ref nq, .ref dq, .ref pq, .int 0, .int 0, .int 0])), (gq, .inr (4, [.int 0, .ref tE, .int 0]))]) [0, 3] (by decide) rfl
  have hKc := hK.sub (tys' := []) [] rfl
  have hFc := va_free (wc := [(h0, .inr (10, [.ref fq, .ref sq, .ref gq, .ref nq, .ref dq, .ref pq, .int 0, .int 0, .int 0])), (gq, .inr (4, [.int 0, .ref tE, .int 0]))]) hD hS hA [0, 3] rfl
  refine va_calli (vx_runSW (As := [.ref h0, .int y1, .int y2, .ref oq]) (rest := []) ⟨hx, hb, hml, hown, hts⟩ (w_foresee l hl9 dC dI tE h0 fq sq gq nq dq pq 0 0 0 0 y1 y2 oq _ ) (vx_cwSW 4 hts (goodIn_app (goodIn_r _ [334, 335, 52] (by rfl) (by decide +kernel)) gt_law_w_foresee) rfl rfl rfl (by decide +kernel) ⟨Nat.le_of_ble_eq_true rfl, Nat.le_of_ble_eq_true rfl⟩) ⟨Pre0.blind, Pre0.give hPc hKc hDc hT hS hFc⟩ rfl rfl hl.1 rfl (lv_room (Nat.le_of_ble_eq_true rfl)) dL_law_1001 ⟨Nat.le_of_ble_eq_true rfl, Nat.le_of_ble_eq_true rfl⟩) hS (fun q _ h => hFc q h) hFc (fun r_9 u t H1 locs ht hvm hw hB hz1 hk1 hS => ?_)
  obtain ⟨hP1, hK1, hD1⟩ := hB
  rw [ht] at hP1
  have hK1 := va_K.moved hvm.symm hK1
  obtain ⟨hP, hD⟩ := va_join (wr := [(fq, .inr (4, [.int 0, .ref tE, .int 0])), (sq, .inr (4, [.int 0, .ref tE, .int 0])), (nq, .inr (8, [.int 0, .ref tq, .ref zq, .ref wq])), (mq, .inr (11, [.int 0, .int 0, .int 0, .int 0, .ref rq, .ref sbq])), (rq, .inl (ci, 119, .inl (fun _ => 0))), (sbq, .inr (1, [.ref vq, .int 0, .int 0, .int 0])), (vq, .inl (cv, 16, .inl (fun _ => 0))), (oq, .inl (co, 1, .inr (.inl (fun _ => 0))))]) (w1 := [(h0, .inr (10, [.ref fq, .ref sq, .ref gq, .ref nq, .ref dq, .ref pq, .int 0, .int 0, .int 0])), (gq, .inr (4, [.int 0, .ref tE, .int 0]))]) hP hD [0, 3] [1, 2, 4, 5, 6, 7, 8, 9] rfl rfl (by decide) (by decide) hk1 hFc hP1 hD1
  generalize H1 = H at hP hS ⊢
  have hP : va_P (dC, dI) vwCl [(fq, .inr (4, [.int 0, .ref tE, .int 0])), (sq, .inr (4, [.int 0, .ref tE, .int 0])), (nq, .inr (8, [.int 0, .ref tq, .ref zq, .ref wq])), (mq, .inr (11, [.int 0, .int 0, .int 0, .int 0, .ref rq, .ref sbq])), (rq, .inl (ci, 119, .inl (fun _ => 0))), (sbq, .inr (1, [.ref vq, .int 0, .int 0, .int 0])), (vq, .inl (cv, 16, .inl (fun _ => 0))), (oq, .inl (co, 1, .inr (.inl (fun _ => 0)))), (h0, .inr (10, [.ref fq, .ref sq, .ref gq, .ref nq, .ref dq, .ref pq, .int 0, .int 0, .int 0])), (gq, .inr (4, [.int 0, .ref tE, .int 0]))] H := hP
  have hD : va_D (fun q : Nat => s.heap.size ≤ q) [(fq, .inr (4, [.int 0, .ref tE, .int 0])), (sq, .inr (4, [.int 0, .ref tE, .int 0])), (nq, .inr (8, [.int 0, .ref tq, .ref zq, .ref wq])), (mq, .inr (11, [.int 0, .int 0, .int 0, .int 0, .ref rq, .ref sbq])), (rq, .inl (ci, 119, .inl (fun _ => 0))), (sbq, .inr (1, [.ref vq, .int 0, .int 0, .int 0])), (vq, .inl (cv, 16, .inl (fun _ => 0))), (oq, .inl (co, 1, .inr (.inl (fun _ => 0)))), (h0, .inr (10, [.ref fq, .ref sq, .ref gq, .ref nq, .ref dq, .ref pq, .int 0, .int 0, .int 0])), (gq, .inr (4, [.int 0, .ref tE, .int 0]))] := hD
  refine W.widen (k := 51) (n := 862) (by omega) (by omega) ?_
  obtain rfl : r_9 = 1 := hw
  refine lv_istore (lv' := [(5, .int 1), (4, .int 0), (3, .ref oq), (2, .ref mq), (1, .ref h0), (0, .ref b)]) hx hb dL_law_1004 hl (by decide) rfl (fun ls hl => ?_)
  refine lv_aload_n hx hb dL_law_1006 rfl (lv_at hl 3 rfl) ?_
  refine lv_aload_n hx hb dL_law_1007 rfl (lv_at hl 5 rfl) ?_
  refine lv_iload hx hb dL_law_1008 (lv_at hl 1 rfl) ?_
  refine lv_iconst (v := 1) hx hb dL_law_1010 (by decide) ?_
  refine lv_iadd hx hb dL_law_1011 ?_
  refine lv_topi (fun x_10 e_11 => ?_)
  obtain rfl : x_10 = 1 := e_11.trans (by decide)
  refine va_sld hx hb hX hbl hbA hS (by unfold vp_in; decide) dL_law_1012 ?_
  refine lv_topi (fun x_12 e_13 => ?_)
  obtain rfl : y1 = x_12 := ey1.trans e_13.symm
  refine lv_aload_n hx hb dL_law_1013 rfl (lv_at hl 5 rfl) ?_
  refine lv_iload hx hb dL_law_1014 (lv_at hl 1 rfl) ?_
  refine lv_iconst (v := 2) hx hb dL_law_1016 (by decide) ?_
  refine lv_iadd hx hb dL_law_1017 ?_
  refine lv_topi (fun x_14 e_15 => ?_)
  obtain rfl : x_14 = 2 := e_15.trans (by decide)
  refine va_sld hx hb hX hbl hbA hS (by unfold vp_in; decide) dL_law_1018 ?_
  refine lv_topi (fun x_16 e_17 => ?_)
  obtain rfl : y2 = x_16 := ey2.trans e_17.symm
  have hPc := hP.sub (ws' := [(mq, .inr (11, [.int 0, .int 0, .int 0, .int 0, .ref rq, .ref sbq]))]) [3] rfl
  have hDc := hD.sub (ws' := [(mq, .inr (11, [.int 0, .int 0, .int 0, .int 0, .ref rq, .ref sbq]))]) [3] (by decide) rfl
  have hKc := hK.sub (tys' := []) [] rfl
  have hFc := va_free (wc := [(mq, .inr (11, [.int 0, .int 0, .int 0, .int 0, .ref rq, .ref sbq]))]) hD hS hA [3] rfl
  refine va_calli (va_runV (As := [.int y1, .int y2]) (rest := []) ⟨hx, hb, hml, hown, hts⟩ (c_M_foresee l hl9 dC dI tE mq rq sbq 0 y1 y2 _ ) (cwV 2 hts (goodIn_app (goodIn_r _ [337, 338, 339, 58] (by rfl) (by decide +kernel)) gg_law_c_M_foresee) rfl rfl rfl (by decide +kernel) ⟨Nat.le_of_ble_eq_true rfl, Nat.le_of_ble_eq_true rfl⟩) ⟨Pre0.blind, va_recv hKc hPc (ci := 11) (q0 := 0) rfl rfl, Pre0.give hPc hKc hDc hT hS hFc⟩ rfl rfl hl.1 rfl (lv_room (Nat.le_of_ble_eq_true rfl)) dL_law_1019 ⟨Nat.le_of_ble_eq_true rfl, Nat.le_of_ble_eq_true rfl⟩) hS (fun q _ h => hFc q h) hFc (fun r_18 u t H1 locs ht hvm hw hB hz1 hk1 hS => ?_)
  obtain ⟨hP1, hK1, hD1⟩ := hB
  rw [ht] at hP1
  have hK1 := va_K.moved hvm.symm hK1
  obtain ⟨hP, hD⟩ := va_join (wr := [(fq, .inr (4, [.int 0, .ref tE, .int 0])), (sq, .inr (4, [.int 0, .ref tE, .int 0])), (nq, .inr (8, [.int 0, .ref tq, .ref zq, .ref wq])), (rq, .inl (ci, 119, .inl (fun _ => 0))), (sbq, .inr (1, [.ref vq, .int 0, .int 0, .int 0])), (vq, .inl (cv, 16, .inl (fun _ => 0))), (oq, .inl (co, 1, .inr (.inl (fun _ => 0)))), (h0, .inr (10, [.ref fq, .ref sq, .ref gq, .ref nq, .ref dq, .ref pq, .int 0, .int 0, .int 0])), (gq, .inr (4, [.int 0, .ref tE, .int 0]))]) (w1 := [(mq, .inr (11, [.int 1, .int 0, .int 0, .int 0, .ref rq, .ref sbq]))]) hP hD [3] [0, 1, 2, 4, 5, 6, 7, 8, 9] rfl rfl (by decide) (by decide) hk1 hFc hP1 hD1
  generalize H1 = H at hP hS ⊢
  have hP : va_P (dC, dI) vwCl [(fq, .inr (4, [.int 0, .ref tE, .int 0])), (sq, .inr (4, [.int 0, .ref tE, .int 0])), (nq, .inr (8, [.int 0, .ref tq, .ref zq, .ref wq])), (rq, .inl (ci, 119, .inl (fun _ => 0))), (sbq, .inr (1, [.ref vq, .int 0, .int 0, .int 0])), (vq, .inl (cv, 16, .inl (fun _ => 0))), (oq, .inl (co, 1, .inr (.inl (fun _ => 0)))), (h0, .inr (10, [.ref fq, .ref sq, .ref gq, .ref nq, .ref dq, .ref pq, .int 0, .int 0, .int 0])), (gq, .inr (4, [.int 0, .ref tE, .int 0])), (mq, .inr (11, [.int 1, .int 0, .int 0, .int 0, .ref rq, .ref sbq]))] H := hP
  have hD : va_D (fun q : Nat => s.heap.size ≤ q) [(fq, .inr (4, [.int 0, .ref tE, .int 0])), (sq, .inr (4, [.int 0, .ref tE, .int 0])), (nq, .inr (8, [.int 0, .ref tq, .ref zq, .ref wq])), (rq, .inl (ci, 119, .inl (fun _ => 0))), (sbq, .inr (1, [.ref vq, .int 0, .int 0, .int 0])), (vq, .inl (cv, 16, .inl (fun _ => 0))), (oq, .inl (co, 1, .inr (.inl (fun _ => 0)))), (h0, .inr (10, [.ref fq, .ref sq, .ref gq, .ref nq, .ref dq, .ref pq, .int 0, .int 0, .int 0])), (gq, .inr (4, [.int 0, .ref tE, .int 0])), (mq, .inr (11, [.int 1, .int 0, .int 0, .int 0, .ref rq, .ref sbq]))] := hD
  refine W.widen (k := 51) (n := 862) (by omega) (by omega) ?_
  obtain rfl : r_18 = 0 := hw
  refine lv_istore (lv' := [(6, .int 0), (5, .int 1), (4, .int 0), (3, .ref oq), (2, .ref mq), (1, .ref h0), (0, .ref b)]) hx hb dL_law_1022 hl (by decide) rfl (fun ls hl => ?_)
  refine lv_aload_n hx hb dL_law_1024 rfl (lv_at hl 4 rfl) ?_
  have hPc := hP.sub (ws' := [(mq, .inr (11, [.int 1, .int 0, .int 0, .int 0, .ref rq, .ref sbq]))]) [9] rfl
  have hDc := hD.sub (ws' := [(mq, .inr (11, [.int 1, .int 0, .int 0, .int 0, .ref rq, .ref sbq]))]) [9] (by decide) rfl
  have hKc := hK.sub (tys' := []) [] rfl
  have hFc := va_free (wc := [(mq, .inr (11, [.int 1, .int 0, .int 0, .int 0, .ref rq, .ref sbq]))]) hD hS hA [9] rfl
  refine va_calli (va_runV (As := []) (rest := []) ⟨hx, hb, hml, hown, hts⟩ (c_M_thrown l hl9 dC dI tE mq rq sbq 1 0 0 0 _ ) (cwV 0 hts (goodIn_app (goodIn_r _ [69, 70, 71, 58] (by rfl) (by decide +kernel)) gg_law_c_M_thrown) rfl rfl rfl (by decide +kernel) ⟨Nat.le_of_ble_eq_true rfl, Nat.le_of_ble_eq_true rfl⟩) ⟨Pre0.blind, va_recv hKc hPc (ci := 11) (q0 := 0) rfl rfl, Pre0.give hPc hKc hDc hT hS hFc⟩ rfl rfl hl.1 rfl (lv_room (Nat.le_of_ble_eq_true rfl)) dL_law_1025 ⟨Nat.le_of_ble_eq_true rfl, Nat.le_of_ble_eq_true rfl⟩) hS (fun q _ h => hFc q h) hFc (fun r_19 u t H1 locs ht hvm hw hB hz1 hk1 hS => ?_)
  obtain ⟨hP1, hK1, hD1⟩ := hB
  rw [ht] at hP1
  have hK1 := va_K.moved hvm.symm hK1
  obtain ⟨hP, hD⟩ := va_join (wr := [(fq, .inr (4, [.int 0, .ref tE, .int 0])), (sq, .inr (4, [.int 0, .ref tE, .int 0])), (nq, .inr (8, [.int 0, .ref tq, .ref zq, .ref wq])), (rq, .inl (ci, 119, .inl (fun _ => 0))), (sbq, .inr (1, [.ref vq, .int 0, .int 0, .int 0])), (vq, .inl (cv, 16, .inl (fun _ => 0))), (oq, .inl (co, 1, .inr (.inl (fun _ => 0)))), (h0, .inr (10, [.ref fq, .ref sq, .ref gq, .ref nq, .ref dq, .ref pq, .int 0, .int 0, .int 0])), (gq, .inr (4, [.int 0, .ref tE, .int 0]))]) (w1 := [(mq, .inr (11, [.int 1, .int 0, .int 0, .int 0, .ref rq, .ref sbq]))]) hP hD [9] [0, 1, 2, 3, 4, 5, 6, 7, 8] rfl rfl (by decide) (by decide) hk1 hFc hP1 hD1
  generalize H1 = H at hP hS ⊢
  have hP : va_P (dC, dI) vwCl [(fq, .inr (4, [.int 0, .ref tE, .int 0])), (sq, .inr (4, [.int 0, .ref tE, .int 0])), (nq, .inr (8, [.int 0, .ref tq, .ref zq, .ref wq])), (rq, .inl (ci, 119, .inl (fun _ => 0))), (sbq, .inr (1, [.ref vq, .int 0, .int 0, .int 0])), (vq, .inl (cv, 16, .inl (fun _ => 0))), (oq, .inl (co, 1, .inr (.inl (fun _ => 0)))), (h0, .inr (10, [.ref fq, .ref sq, .ref gq, .ref nq, .ref dq, .ref pq, .int 0, .int 0, .int 0])), (gq, .inr (4, [.int 0, .ref tE, .int 0])), (mq, .inr (11, [.int 1, .int 0, .int 0, .int 0, .ref rq, .ref sbq]))] H := hP
  have hD : va_D (fun q : Nat => s.heap.size ≤ q) [(fq, .inr (4, [.int 0, .ref tE, .int 0])), (sq, .inr (4, [.int 0, .ref tE, .int 0])), (nq, .inr (8, [.int 0, .ref tq, .ref zq, .ref wq])), (rq, .inl (ci, 119, .inl (fun _ => 0))), (sbq, .inr (1, [.ref vq, .int 0, .int 0, .int 0])), (vq, .inl (cv, 16, .inl (fun _ => 0))), (oq, .inl (co, 1, .inr (.inl (fun _ => 0)))), (h0, .inr (10, [.ref fq, .ref sq, .ref gq, .ref nq, .ref dq, .ref pq, .int 0, .int 0, .int 0])), (gq, .inr (4, [.int 0, .ref tE, .int 0])), (mq, .inr (11, [.int 1, .int 0, .int 0, .int 0, .ref rq, .ref sbq]))] := hD
  refine W.widen (k := 51) (n := 862) (by omega) (by omega) ?_
  obtain rfl : r_19 = 1 := hw
  refine lv_iload hx hb dL_law_1028 (lv_at hl 1 rfl) ?_
  refine lv_icmp_eq (tgt := 1035) hx hb dL_law_1030 (by decide) (fun _ => ?_) (fun c_20 => absurd (by decide) c_20)
  refine lv_iload hx hb dL_law_1035 (lv_at hl 1 rfl) ?_
  refine lv_if_ne (tgt := 1052) hx hb dL_law_1037 (by decide) (fun _ => ?_) (fun c_21 => absurd c_21 (by decide))
  refine lv_goto (tgt := 1303) hx hb dL_law_1052 (by decide) ?_
  exact law_next l C0 (by omega) (by omega) hS ls (lv_sub hl [2, 6] rfl)
set_option maxHeartbeats 4000000 in
set_option maxRecDepth 100000 in
theorem law_advise {p : Program} {e : Env} {s : State} {m : MethodId} {below : List Frame} {meth : Method} {c : Code} (l : Launch) (hl9 : l.stackTraces = false) {b : Nat} {xs : Nat → Int32} (C0 : lw_At p s m meth c b 4 xs) (dC : Nat → ClassId) (dI : Nat → Nat → Nat) (tE : Nat) (h0 fq sq gq nq tq zq wq dq pq mq rq sbq vq oq : Nat) (ci cv co : ClassId) (hT : tK tE (fun q : Nat => s.heap.size ≤ q) s s.heap) (hK : va_K (dC, dI) vwCl [(ci, .int), (cv, .byte), (co, .long)] s) {H : Heap} {locs : List Loc} (hP : va_P (dC, dI) vwCl [(h0, .inr (10, [.ref fq, .ref sq, .ref gq, .ref nq, .ref dq, .ref pq, .int 0, .int 0, .int 0])), (fq, .inr (4, [.int 0, .ref tE, .int 0])), (sq, .inr (4, [.int 0, .ref tE, .int 0])), (gq, .inr (4, [.int 0, .ref tE, .int 0])), (nq, .inr (8, [.int 0, .ref tq, .ref zq, .ref wq])), (mq, .inr (11, [.int 0, .int 0, .int 0, .int 0, .ref rq, .ref sbq])), (rq, .inl (ci, 119, .inl (fun _ => 0))), (sbq, .inr (1, [.ref vq, .int 0, .int 0, .int 0])), (vq, .inl (cv, 16, .inl (fun _ => 0))), (oq, .inl (co, 1, .inr (.inl (fun _ => 0))))] H) (hD : va_D (fun q : Nat => s.heap.size ≤ q) [(h0, .inr (10, [.ref fq, .ref sq, .ref gq, .ref nq, .ref dq, .ref pq, .int 0, .int 0, .int 0])), (fq, .inr (4, [.int 0, .ref tE, .int 0])), (sq, .inr (4, [.int 0, .ref tE, .int 0])), (gq, .inr (4, [.int 0, .ref tE, .int 0])), (nq, .inr (8, [.int 0, .ref tq, .ref zq, .ref wq])), (mq, .inr (11, [.int 0, .int 0, .int 0, .int 0, .ref rq, .ref sbq])), (rq, .inl (ci, 119, .inl (fun _ => 0))), (sbq, .inr (1, [.ref vq, .int 0, .int 0, .int 0])), (vq, .inl (cv, 16, .inl (fun _ => 0))), (oq, .inl (co, 1, .inr (.inl (fun _ => 0))))]) (hS : va_S (fun q : Nat => s.heap.size ≤ q) s.heap H locs) (ls : Array Slot) (hl : lv_has ls 9 [(4, .int 0), (3, .ref oq), (2, .ref mq), (1, .ref h0), (0, .ref b)]) : W p l e room_1 s m #[Value.ref b] below meth c H locs 50 856 (lw_Z below #[Value.ref b] s) (F0 m 1055 ls []) := by
  obtain ⟨hx, hb, hr, hml, hown, hts, hX, hbl, hlocks, hgv⟩ := id C0
  have hts := law_hts hts
  have hA : ∀ q : Nat, s.heap.size ≤ q → (fun q : Nat => s.heap.size ≤ q) q := fun _ h => h
  have hbA : ¬ (fun q : Nat => s.heap.size ≤ q) b := Nat.not_le.mpr hbl
  refine lv_aload_n hx hb dL_law_1055 rfl (lv_at hl 3 rfl) ?_
  refine lv_aload_n hx hb dL_law_1056 rfl (lv_at hl 4 rfl) ?_
  refine lv_iload hx hb dL_law_1057 (lv_at hl 0 rfl) ?_
  refine lv_iconst (v := 1) hx hb dL_law_1059 (by decide) ?_
  refine lv_iadd hx hb dL_law_1060 ?_
  refine lv_topi (fun x_1 e_2 => ?_)
  obtain rfl : x_1 = 1 := e_2.trans (by decide)
  refine va_sld hx hb hX hbl hbA hS (by unfold vp_in; decide) dL_law_1061 ?_
  refine lv_topi (fun y1 ey1 => ?_)
  refine lv_aload_n hx hb dL_law_1062 rfl (lv_at hl 4 rfl) ?_
  refine lv_iload hx hb dL_law_1063 (lv_at hl 0 rfl) ?_
  refine lv_iconst (v := 2) hx hb dL_law_1065 (by decide) ?_
  refine lv_iadd hx hb dL_law_1066 ?_
  refine lv_topi (fun x_5 e_6 => ?_)
  obtain rfl : x_5 = 2 := e_6.trans (by decide)
  refine va_sld hx hb hX hbl hbA hS (by unfold vp_in; decide) dL_law_1067 ?_
  refine lv_topi (fun y2 ey2 => ?_)
  refine lv_aload_n hx hb dL_law_1068 rfl (lv_at hl 1 rfl) ?_
  have hPc := hP.sub (ws' := [(h0, .inr (10, [.ref fq, .ref sq, .ref gq, .ref nq, .ref dq, .ref pq, .int 0, .int 0, .int 0])), (gq, .inr (4, [.int 0, .ref tE, .int 0]))]) [0, 3] rfl
  have hDc := hD.sub (ws' := [(h0, .inr (10, [.ref fq, .ref sq, .ref gq, .ref nq, .ref dq, .ref pq, .int 0, .int 0, .int 0])), (gq, .inr (4, [.int 0, .ref tE, .int 0]))]) [0, 3] (by decide) rfl
  have hKc := hK.sub (tys' := []) [] rfl
  have hFc := va_free (wc := [(h0, .inr (10, [.ref fq, .ref sq, .ref gq, .ref nq, .ref dq, .ref pq, .int 0, .int 0, .int 0])), (gq, .inr (4, [.int 0, .ref tE, .int 0]))]) hD hS hA [0, 3] rfl
  refine va_calli (vx_runSW (As := [.ref h0, .int y1, .int y2, .ref oq]) (rest := []) ⟨hx, hb, hml, hown, hts⟩ (w_advise l hl9 dC dI tE h0 fq sq gq nq dq pq 0 0 0 0 y1 y2 oq _ ) (vx_cwSW 4 hts (goodIn_app (goodIn_r _ [345, 346, 52] (by rfl) (by decide +kernel)) gt_law_w_advise) rfl rfl rfl (by decide +kernel) ⟨Nat.le_of_ble_eq_true rfl, Nat.le_of_ble_eq_true rfl⟩) ⟨Pre0.blind, Pre0.give hPc hKc hDc hT hS hFc⟩ rfl rfl hl.1 rfl (lv_room (Nat.le_of_ble_eq_true rfl)) dL_law_1069 ⟨Nat.le_of_ble_eq_true rfl, Nat.le_of_ble_eq_true rfl⟩) hS (fun q _ h => hFc q h) hFc (fun r_9 u t H1 locs ht hvm hw hB hz1 hk1 hS => ?_)
  obtain ⟨hP1, hK1, hD1⟩ := hB
  rw [ht] at hP1
  have hK1 := va_K.moved hvm.symm hK1
  obtain ⟨hP, hD⟩ := va_join (wr := [(fq, .inr (4, [.int 0, .ref tE, .int 0])), (sq, .inr (4, [.int 0, .ref tE, .int 0])), (nq, .inr (8, [.int 0, .ref tq, .ref zq, .ref wq])), (mq, .inr (11, [.int 0, .int 0, .int 0, .int 0, .ref rq, .ref sbq])), (rq, .inl (ci, 119, .inl (fun _ => 0))), (sbq, .inr (1, [.ref vq, .int 0, .int 0, .int 0])), (vq, .inl (cv, 16, .inl (fun _ => 0))), (oq, .inl (co, 1, .inr (.inl (fun _ => 0))))]) (w1 := [(h0, .inr (10, [.ref fq, .ref sq, .ref gq, .ref nq, .ref dq, .ref pq, .int 0, .int 0, .int 0])), (gq, .inr (4, [.int 0, .ref tE, .int 0]))]) hP hD [0, 3] [1, 2, 4, 5, 6, 7, 8, 9] rfl rfl (by decide) (by decide) hk1 hFc hP1 hD1
  generalize H1 = H at hP hS ⊢
  have hP : va_P (dC, dI) vwCl [(fq, .inr (4, [.int 0, .ref tE, .int 0])), (sq, .inr (4, [.int 0, .ref tE, .int 0])), (nq, .inr (8, [.int 0, .ref tq, .ref zq, .ref wq])), (mq, .inr (11, [.int 0, .int 0, .int 0, .int 0, .ref rq, .ref sbq])), (rq, .inl (ci, 119, .inl (fun _ => 0))), (sbq, .inr (1, [.ref vq, .int 0, .int 0, .int 0])), (vq, .inl (cv, 16, .inl (fun _ => 0))), (oq, .inl (co, 1, .inr (.inl (fun _ => 0)))), (h0, .inr (10, [.ref fq, .ref sq, .ref gq, .ref nq, .ref dq, .ref pq, .int 0, .int 0, .int 0])), (gq, .inr (4, [.int 0, .ref tE, .int 0]))] H := hP
  have hD : va_D (fun q : Nat => s.heap.size ≤ q) [(fq, .inr (4, [.int 0, .ref tE, .int 0])), (sq, .inr (4, [.int 0, .ref tE, .int 0])), (nq, .inr (8, [.int 0, .ref tq, .ref zq, .ref wq])), (mq, .inr (11, [.int 0, .int 0, .int 0, .int 0, .ref rq, .ref sbq])), (rq, .inl (ci, 119, .inl (fun _ => 0))), (sbq, .inr (1, [.ref vq, .int 0, .int 0, .int 0])), (vq, .inl (cv, 16, .inl (fun _ => 0))), (oq, .inl (co, 1, .inr (.inl (fun _ => 0)))), (h0, .inr (10, [.ref fq, .ref sq, .ref gq, .ref nq, .ref dq, .ref pq, .int 0, .int 0, .int 0])), (gq, .inr (4, [.int 0, .ref tE, .int 0]))] := hD
  refine W.widen (k := 51) (n := 862) (by omega) (by omega) ?_
  obtain rfl : r_9 = 1 := hw
  refine lv_istore (lv' := [(5, .int 1), (4, .int 0), (3, .ref oq), (2, .ref mq), (1, .ref h0), (0, .ref b)]) hx hb dL_law_1072 hl (by decide) rfl (fun ls hl => ?_)
  refine lv_aload_n hx hb dL_law_1074 rfl (lv_at hl 3 rfl) ?_
  refine lv_aload_n hx hb dL_law_1075 rfl (lv_at hl 5 rfl) ?_
  refine lv_iload hx hb dL_law_1076 (lv_at hl 1 rfl) ?_
  refine lv_iconst (v := 1) hx hb dL_law_1078 (by decide) ?_
  refine lv_iadd hx hb dL_law_1079 ?_
  refine lv_topi (fun x_10 e_11 => ?_)
  obtain rfl : x_10 = 1 := e_11.trans (by decide)
  refine va_sld hx hb hX hbl hbA hS (by unfold vp_in; decide) dL_law_1080 ?_
  refine lv_topi (fun x_12 e_13 => ?_)
  obtain rfl : y1 = x_12 := ey1.trans e_13.symm
  refine lv_aload_n hx hb dL_law_1081 rfl (lv_at hl 5 rfl) ?_
  refine lv_iload hx hb dL_law_1082 (lv_at hl 1 rfl) ?_
  refine lv_iconst (v := 2) hx hb dL_law_1084 (by decide) ?_
  refine lv_iadd hx hb dL_law_1085 ?_
  refine lv_topi (fun x_14 e_15 => ?_)
  obtain rfl : x_14 = 2 := e_15.trans (by decide)
  refine va_sld hx hb hX hbl hbA hS (by unfold vp_in; decide) dL_law_1086 ?_
  refine lv_topi (fun x_16 e_17 => ?_)
  obtain rfl : y2 = x_16 := ey2.trans e_17.symm
  have hPc := hP.sub (ws' := [(mq, .inr (11, [.int 0, .int 0, .int 0, .int 0, .ref rq, .ref sbq]))]) [3] rfl
  have hDc := hD.sub (ws' := [(mq, .inr (11, [.int 0, .int 0, .int 0, .int 0, .ref rq, .ref sbq]))]) [3] (by decide) rfl
  have hKc := hK.sub (tys' := []) [] rfl
  have hFc := va_free (wc := [(mq, .inr (11, [.int 0, .int 0, .int 0, .int 0, .ref rq, .ref sbq]))]) hD hS hA [3] rfl
  refine va_calli (va_runV (As := [.int y1, .int y2]) (rest := []) ⟨hx, hb, hml, hown, hts⟩ (c_M_advise l hl9 dC dI tE mq rq sbq 0 y1 y2 _ ) (cwV 2 hts (goodIn_app (goodIn_r _ [348, 349, 350, 58] (by rfl) (by decide +kernel)) gg_law_c_M_advise) rfl rfl rfl (by decide +kernel) ⟨Nat.le_of_ble_eq_true rfl, Nat.le_of_ble_eq_true rfl⟩) ⟨Pre0.blind, va_recv hKc hPc (ci := 11) (q0 := 0) rfl rfl, Pre0.give hPc hKc hDc hT hS hFc⟩ rfl rfl hl.1 rfl (lv_room (Nat.le_of_ble_eq_true rfl)) dL_law_1087 ⟨Nat.le_of_ble_eq_true rfl, Nat.le_of_ble_eq_true rfl⟩) hS (fun q _ h => hFc q h) hFc (fun r_18 u t H1 locs ht hvm hw hB hz1 hk1 hS => ?_)
  obtain ⟨hP1, hK1, hD1⟩ := hB
  rw [ht] at hP1
  have hK1 := va_K.moved hvm.symm hK1
  obtain ⟨hP, hD⟩ := va_join (wr := [(fq, .inr (4, [.int 0, .ref tE, .int 0])), (sq, .inr (4, [.int 0, .ref tE, .int 0])), (nq, .inr (8, [.int 0, .ref tq, .ref zq, .ref wq])), (rq, .inl (ci, 119, .inl (fun _ => 0))), (sbq, .inr (1, [.ref vq, .int 0, .int 0, .int 0])), (vq, .inl (cv, 16, .inl (fun _ => 0))), (oq, .inl (co, 1, .inr (.inl (fun _ => 0)))), (h0, .inr (10, [.ref fq, .ref sq, .ref gq, .ref nq, .ref dq, .ref pq, .int 0, .int 0, .int 0])), (gq, .inr (4, [.int 0, .ref tE, .int 0]))]) (w1 := [(mq, .inr (11, [.int 1, .int 0, .int 0, .int 0, .ref rq, .ref sbq]))]) hP hD [3] [0, 1, 2, 4, 5, 6, 7, 8, 9] rfl rfl (by decide) (by decide) hk1 hFc hP1 hD1
  generalize H1 = H at hP hS ⊢
  have hP : va_P (dC, dI) vwCl [(fq, .inr (4, [.int 0, .ref tE, .int 0])), (sq, .inr (4, [.int 0, .ref tE, .int 0])), (nq, .inr (8, [.int 0, .ref tq, .ref zq, .ref wq])), (rq, .inl (ci, 119, .inl (fun _ => 0))), (sbq, .inr (1, [.ref vq, .int 0, .int 0, .int 0])), (vq, .inl (cv, 16, .inl (fun _ => 0))), (oq, .inl (co, 1, .inr (.inl (fun _ => 0)))), (h0, .inr (10, [.ref fq, .ref sq, .ref gq, .ref nq, .ref dq, .ref pq, .int 0, .int 0, .int 0])), (gq, .inr (4, [.int 0, .ref tE, .int 0])), (mq, .inr (11, [.int 1, .int 0, .int 0, .int 0, .ref rq, .ref sbq]))] H := hP
  have hD : va_D (fun q : Nat => s.heap.size ≤ q) [(fq, .inr (4, [.int 0, .ref tE, .int 0])), (sq, .inr (4, [.int 0, .ref tE, .int 0])), (nq, .inr (8, [.int 0, .ref tq, .ref zq, .ref wq])), (rq, .inl (ci, 119, .inl (fun _ => 0))), (sbq, .inr (1, [.ref vq, .int 0, .int 0, .int 0])), (vq, .inl (cv, 16, .inl (fun _ => 0))), (oq, .inl (co, 1, .inr (.inl (fun _ => 0)))), (h0, .inr (10, [.ref fq, .ref sq, .ref gq, .ref nq, .ref dq, .ref pq, .int 0, .int 0, .int 0])), (gq, .inr (4, [.int 0, .ref tE, .int 0])), (mq, .inr (11, [.int 1, .int 0, .int 0, .int 0, .ref rq, .ref sbq]))] := hD
  refine W.widen (k := 51) (n := 862) (by omega) (by omega) ?_
  obtain rfl : r_18 = 0 := hw
  refine lv_istore (lv' := [(6, .int 0), (5, .int 1), (4, .int 0), (3, .ref oq), (2, .ref mq), (1, .ref h0), (0, .ref b)]) hx hb dL_law_1090 hl (by decide) rfl (fun ls hl => ?_)
  refine lv_aload_n hx hb dL_law_1092 rfl (lv_at hl 4 rfl) ?_
  have hPc := hP.sub (ws' := [(mq, .inr (11, [.int 1, .int 0, .int 0, .int 0, .ref rq, .ref sbq]))]) [9] rfl
  have hDc := hD.sub (ws' := [(mq, .inr (11, [.int 1, .int 0, .int 0, .int 0, .ref rq, .ref sbq]))]) [9] (by decide) rfl
  have hKc := hK.sub (tys' := []) [] rfl
  have hFc := va_free (wc := [(mq, .inr (11, [.int 1, .int 0, .int 0, .int 0, .ref rq, .ref sbq]))]) hD hS hA [9] rfl
  refine va_calli (va_runV (As := []) (rest := []) ⟨hx, hb, hml, hown, hts⟩ (c_M_thrown l hl9 dC dI tE mq rq sbq 1 0 0 0 _ ) (cwV 0 hts (goodIn_app (goodIn_r _ [69, 70, 71, 58] (by rfl) (by decide +kernel)) gg_law_c_M_thrown) rfl rfl rfl (by decide +kernel) ⟨Nat.le_of_ble_eq_true rfl, Nat.le_of_ble_eq_true rfl⟩) ⟨Pre0.blind, va_recv hKc hPc (ci := 11) (q0 := 0) rfl rfl, Pre0.give hPc hKc hDc hT hS hFc⟩ rfl rfl hl.1 rfl (lv_room (Nat.le_of_ble_eq_true rfl)) dL_law_1093 ⟨Nat.le_of_ble_eq_true rfl, Nat.le_of_ble_eq_true rfl⟩) hS (fun q _ h => hFc q h) hFc (fun r_19 u t H1 locs ht hvm hw hB hz1 hk1 hS => ?_)
  obtain ⟨hP1, hK1, hD1⟩ := hB
  rw [ht] at hP1
  have hK1 := va_K.moved hvm.symm hK1
  obtain ⟨hP, hD⟩ := va_join (wr := [(fq, .inr (4, [.int 0, .ref tE, .int 0])), (sq, .inr (4, [.int 0, .ref tE, .int 0])), (nq, .inr (8, [.int 0, .ref tq, .ref zq, .ref wq])), (rq, .inl (ci, 119, .inl (fun _ => 0))), (sbq, .inr (1, [.ref vq, .int 0, .int 0, .int 0])), (vq, .inl (cv, 16, .inl (fun _ => 0))), (oq, .inl (co, 1, .inr (.inl (fun _ => 0)))), (h0, .inr (10, [.ref fq, .ref sq, .ref gq, .ref nq, .ref dq, .ref pq, .int 0, .int 0, .int 0])), (gq, .inr (4, [.int 0, .ref tE, .int 0]))]) (w1 := [(mq, .inr (11, [.int 1, .int 0, .int 0, .int 0, .ref rq, .ref sbq]))]) hP hD [9] [0, 1, 2, 3, 4, 5, 6, 7, 8] rfl rfl (by decide) (by decide) hk1 hFc hP1 hD1
  generalize H1 = H at hP hS ⊢
  have hP : va_P (dC, dI) vwCl [(fq, .inr (4, [.int 0, .ref tE, .int 0])), (sq, .inr (4, [.int 0, .ref tE, .int 0])), (nq, .inr (8, [.int 0, .ref tq, .ref zq, .ref wq])), (rq, .inl (ci, 119, .inl (fun _ => 0))), (sbq, .inr (1, [.ref vq, .int 0, .int 0, .int 0])), (vq, .inl (cv, 16, .inl (fun _ => 0))), (oq, .inl (co, 1, .inr (.inl (fun _ => 0)))), (h0, .inr (10, [.ref fq, .ref sq, .ref gq, .ref nq, .ref dq, .ref pq, .int 0, .int 0, .int 0])), (gq, .inr (4, [.int 0, .ref tE, .int 0])), (mq, .inr (11, [.int 1, .int 0, .int 0, .int 0, .ref rq, .ref sbq]))] H := hP
  have hD : va_D (fun q : Nat => s.heap.size ≤ q) [(fq, .inr (4, [.int 0, .ref tE, .int 0])), (sq, .inr (4, [.int 0, .ref tE, .int 0])), (nq, .inr (8, [.int 0, .ref tq, .ref zq, .ref wq])), (rq, .inl (ci, 119, .inl (fun _ => 0))), (sbq, .inr (1, [.ref vq, .int 0, .int 0, .int 0])), (vq, .inl (cv, 16, .inl (fun _ => 0))), (oq, .inl (co, 1, .inr (.inl (fun _ => 0)))), (h0, .inr (10, [.ref fq, .ref sq, .ref gq, .ref nq, .ref dq, .ref pq, .int 0, .int 0, .int 0])), (gq, .inr (4, [.int 0, .ref tE, .int 0])), (mq, .inr (11, [.int 1, .int 0, .int 0, .int 0, .ref rq, .ref sbq]))] := hD
  refine W.widen (k := 51) (n := 862) (by omega) (by omega) ?_
  obtain rfl : r_19 = 1 := hw
  refine lv_iload hx hb dL_law_1096 (lv_at hl 1 rfl) ?_
  refine lv_icmp_eq (tgt := 1103) hx hb dL_law_1098 (by decide) (fun _ => ?_) (fun c_20 => absurd (by decide) c_20)
  refine lv_iload hx hb dL_law_1103 (lv_at hl 1 rfl) ?_
  refine lv_if_ne (tgt := 1120) hx hb dL_law_1105 (by decide) (fun _ => ?_) (fun c_21 => absurd c_21 (by decide))
  refine lv_goto (tgt := 1303) hx hb dL_law_1120 (by decide) ?_
  exact law_next l C0 (by omega) (by omega) hS ls (lv_sub hl [2, 6] rfl)
set_option maxHeartbeats 4000000 in
set_option maxRecDepth 100000 in
theorem law_wouldTurn {p : Program} {e : Env} {s : State} {m : MethodId} {below : List Frame} {meth : Method} {c : Code} (l : Launch) (hl9 : l.stackTraces = false) {b : Nat} {xs : Nat → Int32} (C0 : lw_At p s m meth c b 4 xs) (dC : Nat → ClassId) (dI : Nat → Nat → Nat) (tE : Nat) (h0 fq sq gq nq tq zq wq dq pq mq rq sbq vq oq : Nat) (ci cv co : ClassId) (hT : tK tE (fun q : Nat => s.heap.size ≤ q) s s.heap) (hK : va_K (dC, dI) vwCl [(ci, .int), (cv, .byte), (co, .long)] s) {H : Heap} {locs : List Loc} (hP : va_P (dC, dI) vwCl [(h0, .inr (10, [.ref fq, .ref sq, .ref gq, .ref nq, .ref dq, .ref pq, .int 0, .int 0, .int 0])), (fq, .inr (4, [.int 0, .ref tE, .int 0])), (sq, .inr (4, [.int 0, .ref tE, .int 0])), (gq, .inr (4, [.int 0, .ref tE, .int 0])), (nq, .inr (8, [.int 0, .ref tq, .ref zq, .ref wq])), (mq, .inr (11, [.int 0, .int 0, .int 0, .int 0, .ref rq, .ref sbq])), (rq, .inl (ci, 119, .inl (fun _ => 0))), (sbq, .inr (1, [.ref vq, .int 0, .int 0, .int 0])), (vq, .inl (cv, 16, .inl (fun _ => 0))), (oq, .inl (co, 1, .inr (.inl (fun _ => 0))))] H) (hD : va_D (fun q : Nat => s.heap.size ≤ q) [(h0, .inr (10, [.ref fq, .ref sq, .ref gq, .ref nq, .ref dq, .ref pq, .int 0, .int 0, .int 0])), (fq, .inr (4, [.int 0, .ref tE, .int 0])), (sq, .inr (4, [.int 0, .ref tE, .int 0])), (gq, .inr (4, [.int 0, .ref tE, .int 0])), (nq, .inr (8, [.int 0, .ref tq, .ref zq, .ref wq])), (mq, .inr (11, [.int 0, .int 0, .int 0, .int 0, .ref rq, .ref sbq])), (rq, .inl (ci, 119, .inl (fun _ => 0))), (sbq, .inr (1, [.ref vq, .int 0, .int 0, .int 0])), (vq, .inl (cv, 16, .inl (fun _ => 0))), (oq, .inl (co, 1, .inr (.inl (fun _ => 0))))]) (hS : va_S (fun q : Nat => s.heap.size ≤ q) s.heap H locs) (ls : Array Slot) (hl : lv_has ls 9 [(4, .int 0), (3, .ref oq), (2, .ref mq), (1, .ref h0), (0, .ref b)]) : W p l e room_1 s m #[Value.ref b] below meth c H locs 50 856 (lw_Z below #[Value.ref b] s) (F0 m 1123 ls []) := by
  obtain ⟨hx, hb, hr, hml, hown, hts, hX, hbl, hlocks, hgv⟩ := id C0
  have hts := law_hts hts
  have hA : ∀ q : Nat, s.heap.size ≤ q → (fun q : Nat => s.heap.size ≤ q) q := fun _ h => h
  have hbA : ¬ (fun q : Nat => s.heap.size ≤ q) b := Nat.not_le.mpr hbl
  refine lv_aload_n hx hb dL_law_1123 rfl (lv_at hl 3 rfl) ?_
  refine lv_aload_n hx hb dL_law_1124 rfl (lv_at hl 4 rfl) ?_
  refine lv_iload hx hb dL_law_1125 (lv_at hl 0 rfl) ?_
  refine lv_iconst (v := 1) hx hb dL_law_1127 (by decide) ?_
  refine lv_iadd hx hb dL_law_1128 ?_
  refine lv_topi (fun x_1 e_2 => ?_)
  obtain rfl : x_1 = 1 := e_2.trans (by decide)
  refine va_sld hx hb hX hbl hbA hS (by unfold vp_in; decide) dL_law_1129 ?_
  refine lv_topi (fun y1 ey1 => ?_)
  refine lv_aload_n hx hb dL_law_1130 rfl (lv_at hl 1 rfl) ?_
  rcases cs03 y1 with ⟨h1, h2⟩ | h
  · have hPc := hP.sub (ws' := [(h0, .inr (10, [.ref fq, .ref sq, .ref gq, .ref nq, .ref dq, .ref pq, .int 0, .int 0, .int 0])), (fq, .inr (4, [.int 0, .ref tE, .int 0])), (nq, .inr (8, [.int 0, .ref tq, .ref zq, .ref wq])), (oq, .inl (co, 1, .inr (.inl (fun _ => 0))))]) [0, 1, 4, 9] rfl
    have hDc := hD.sub (ws' := [(h0, .inr (10, [.ref fq, .ref sq, .ref gq, .ref nq, .ref dq, .ref pq, .int 0, .int 0, .int 0])), (fq, .inr (4, [.int 0, .ref tE, .int 0])), (nq, .inr (8, [.int 0, .ref tq, .ref zq, .ref wq])), (oq, .inl (co, 1, .inr (.inl (fun _ => 0))))]) [0, 1, 4, 9] (by decide) rfl
    have hKc := hK.sub (tys' := [(co, .long)]) [2] rfl
    have hFc := va_free (wc := [(h0, .inr (10, [.ref fq, .ref sq, .ref gq, .ref nq, .ref dq, .ref pq, .int 0, .int 0, .int 0])), (fq, .inr (4, [.int 0, .ref tE, .int 0])), (nq, .inr (8, [.int 0, .ref tq, .ref zq, .ref wq])), (oq, .inl (co, 1, .inr (.inl (fun _ => 0))))]) hD hS hA [0, 1, 4, 9] rfl
    refine va_calli (vx_runSW (As := [.ref h0, .int y1, .ref oq]) (rest := []) ⟨hx, hb, hml, hown, hts⟩ (w_wouldTurn_t l hl9 dC dI tE h0 fq sq gq nq dq pq 0 0 0 0 tq zq wq 0 y1 oq co (fun _ => 0) _ h1 h2) (vx_cwSW 3 hts (goodIn_app (goodIn_r _ [356, 357, 52] (by rfl) (by decide +kernel)) gg_law_w_wouldTurn_t) rfl rfl rfl (by decide +kernel) ⟨Nat.le_of_ble_eq_true rfl, Nat.le_of_ble_eq_true rfl⟩) ⟨Pre0.blind, Pre0.give hPc hKc hDc hT hS hFc⟩ rfl rfl hl.1 rfl (lv_room (Nat.le_of_ble_eq_true rfl)) dL_law_1131 ⟨Nat.le_of_ble_eq_true rfl, Nat.le_of_ble_eq_true rfl⟩) hS (fun q _ h => hFc q h) hFc (fun r_5 u t H1 locs ht hvm hw hB hz1 hk1 hS => ?_)
    obtain ⟨hP1, hK1, hD1⟩ := hB
    rw [ht] at hP1
    have hK1 := va_K.moved hvm.symm hK1
    obtain ⟨hP, hD⟩ := va_join (wr := [(sq, .inr (4, [.int 0, .ref tE, .int 0])), (gq, .inr (4, [.int 0, .ref tE, .int 0])), (mq, .inr (11, [.int 0, .int 0, .int 0, .int 0, .ref rq, .ref sbq])), (rq, .inl (ci, 119, .inl (fun _ => 0))), (sbq, .inr (1, [.ref vq, .int 0, .int 0, .int 0])), (vq, .inl (cv, 16, .inl (fun _ => 0)))]) (w1 := [(oq, .inl (co, 1, .inr (.inl (vp_updL (fun _ => 0) (0 : Int32).toNatClampNeg 0)))), (h0, .inr (10, [.ref fq, .ref sq, .ref gq, .ref nq, .ref dq, .ref pq, .int 0, .int 0, .int 0])), (nq, .inr (8, [.int 0, .ref tq, .ref zq, .ref wq])), (fq, .inr (4, [.int 0, .ref tE, .int 0]))]) hP hD [0, 1, 4, 9] [2, 3, 5, 6, 7, 8] rfl rfl (by decide) (by decide) hk1 hFc hP1 hD1
    generalize H1 = H at hP hS ⊢
    have hP : va_P (dC, dI) vwCl [(sq, .inr (4, [.int 0, .ref tE, .int 0])), (gq, .inr (4, [.int 0, .ref tE, .int 0])), (mq, .inr (11, [.int 0, .int 0, .int 0, .int 0, .ref rq, .ref sbq])), (rq, .inl (ci, 119, .inl (fun _ => 0))), (sbq, .inr (1, [.ref vq, .int 0, .int 0, .int 0])), (vq, .inl (cv, 16, .inl (fun _ => 0))), (oq, .inl (co, 1, .inr (.inl (vp_updL (fun _ => 0) (0 : Int32).toNatClampNeg 0)))), (h0, .inr (10, [.ref fq, .ref sq, .ref gq, .ref nq, .ref dq, .ref pq, .int 0, .int 0, .int 0])), (nq, .inr (8, [.int 0, .ref tq, .ref zq, .ref wq])), (fq, .inr (4, [.int 0, .ref tE, .int 0]))] H := hP
    have hD : va_D (fun q : Nat => s.heap.size ≤ q) [(sq, .inr (4, [.int 0, .ref tE, .int 0])), (gq, .inr (4, [.int 0, .ref tE, .int 0])), (mq, .inr (11, [.int 0, .int 0, .int 0, .int 0, .ref rq, .ref sbq])), (rq, .inl (ci, 119, .inl (fun _ => 0))), (sbq, .inr (1, [.ref vq, .int 0, .int 0, .int 0])), (vq, .inl (cv, 16, .inl (fun _ => 0))), (oq, .inl (co, 1, .inr (.inl (vp_updL (fun _ => 0) (0 : Int32).toNatClampNeg 0)))), (h0, .inr (10, [.ref fq, .ref sq, .ref gq, .ref nq, .ref dq, .ref pq, .int 0, .int 0, .int 0])), (nq, .inr (8, [.int 0, .ref tq, .ref zq, .ref wq])), (fq, .inr (4, [.int 0, .ref tE, .int 0]))] := hD
    refine W.widen (k := 50) (n := 856) (by omega) (by omega) ?_
    obtain rfl : r_5 = 0 := hw
    refine lv_istore (lv' := [(5, .int 0), (4, .int 0), (3, .ref oq), (2, .ref mq), (1, .ref h0), (0, .ref b)]) hx hb dL_law_1134 hl (by decide) rfl (fun ls hl => ?_)
    refine lv_aload_n hx hb dL_law_1136 rfl (lv_at hl 3 rfl) ?_
    refine lv_aload_n hx hb dL_law_1137 rfl (lv_at hl 5 rfl) ?_
    refine lv_iload hx hb dL_law_1138 (lv_at hl 1 rfl) ?_
    refine lv_iconst (v := 1) hx hb dL_law_1140 (by decide) ?_
    refine lv_iadd hx hb dL_law_1141 ?_
    refine lv_topi (fun x_6 e_7 => ?_)
    obtain rfl : x_6 = 1 := e_7.trans (by decide)
    refine va_sld hx hb hX hbl hbA hS (by unfold vp_in; decide) dL_law_1142 ?_
    refine lv_topi (fun x_8 e_9 => ?_)
    obtain rfl : y1 = x_8 := ey1.trans e_9.symm
    have hPc := hP.sub (ws' := [(mq, .inr (11, [.int 0, .int 0, .int 0, .int 0, .ref rq, .ref sbq])), (rq, .inl (ci, 119, .inl (fun _ => 0)))]) [2, 3] rfl
    have hDc := hD.sub (ws' := [(mq, .inr (11, [.int 0, .int 0, .int 0, .int 0, .ref rq, .ref sbq])), (rq, .inl (ci, 119, .inl (fun _ => 0)))]) [2, 3] (by decide) rfl
    have hKc := hK.sub (tys' := [(ci, .int)]) [0] rfl
    have hFc := va_free (wc := [(mq, .inr (11, [.int 0, .int 0, .int 0, .int 0, .ref rq, .ref sbq])), (rq, .inl (ci, 119, .inl (fun _ => 0)))]) hD hS hA [2, 3] rfl
    refine va_calli (va_runV (As := [.int y1]) (rest := []) ⟨hx, hb, hml, hown, hts⟩ (c_M_wouldTurn_t l hl9 dC dI tE mq rq sbq 0 ci (fun _ => 0) y1 _ (by first | assumption | decide | omega) (by first | assumption | decide | omega)) (cwV 1 hts (goodIn_app (goodIn_r _ [359, 360, 361, 58] (by rfl) (by decide +kernel)) gg_law_c_M_wouldTurn_t) rfl rfl rfl (by decide +kernel) ⟨Nat.le_of_ble_eq_true rfl, Nat.le_of_ble_eq_true rfl⟩) ⟨Pre0.blind, va_recv hKc hPc (ci := 11) (q0 := 0) rfl rfl, Pre0.give hPc hKc hDc hT hS hFc⟩ rfl rfl hl.1 rfl (lv_room (Nat.le_of_ble_eq_true rfl)) dL_law_1143 ⟨Nat.le_of_ble_eq_true rfl, Nat.le_of_ble_eq_true rfl⟩) hS (fun q _ h => hFc q h) hFc (fun r_10 u t H1 locs ht hvm hw hB hz1 hk1 hS => ?_)
    obtain ⟨fx_11, hP1, hK1, hD1⟩ := hB
    rw [ht] at hP1
    have hK1 := va_K.moved hvm.symm hK1
    obtain ⟨hP, hD⟩ := va_join (wr := [(sq, .inr (4, [.int 0, .ref tE, .int 0])), (gq, .inr (4, [.int 0, .ref tE, .int 0])), (sbq, .inr (1, [.ref vq, .int 0, .int 0, .int 0])), (vq, .inl (cv, 16, .inl (fun _ => 0))), (oq, .inl (co, 1, .inr (.inl (vp_updL (fun _ => 0) (0 : Int32).toNatClampNeg 0)))), (h0, .inr (10, [.ref fq, .ref sq, .ref gq, .ref nq, .ref dq, .ref pq, .int 0, .int 0, .int 0])), (nq, .inr (8, [.int 0, .ref tq, .ref zq, .ref wq])), (fq, .inr (4, [.int 0, .ref tE, .int 0]))]) (w1 := [(mq, .inr (11, [.int 0, .int 0, .int 0, .int 0, .ref rq, .ref sbq])), (rq, .inl (ci, 119, .inl fx_11))]) hP hD [2, 3] [0, 1, 4, 5, 6, 7, 8, 9] rfl rfl (by decide) (by decide) hk1 hFc hP1 hD1
    generalize H1 = H at hP hS ⊢
    have hP : va_P (dC, dI) vwCl [(sq, .inr (4, [.int 0, .ref tE, .int 0])), (gq, .inr (4, [.int 0, .ref tE, .int 0])), (sbq, .inr (1, [.ref vq, .int 0, .int 0, .int 0])), (vq, .inl (cv, 16, .inl (fun _ => 0))), (oq, .inl (co, 1, .inr (.inl (vp_updL (fun _ => 0) (0 : Int32).toNatClampNeg 0)))), (h0, .inr (10, [.ref fq, .ref sq, .ref gq, .ref nq, .ref dq, .ref pq, .int 0, .int 0, .int 0])), (nq, .inr (8, [.int 0, .ref tq, .ref zq, .ref wq])), (fq, .inr (4, [.int 0, .ref tE, .int 0])), (mq, .inr (11, [.int 0, .int 0, .int 0, .int 0, .ref rq, .ref sbq])), (rq, .inl (ci, 119, .inl fx_11))] H := hP
    have hD : va_D (fun q : Nat => s.heap.size ≤ q) [(sq, .inr (4, [.int 0, .ref tE, .int 0])), (gq, .inr (4, [.int 0, .ref tE, .int 0])), (sbq, .inr (1, [.ref vq, .int 0, .int 0, .int 0])), (vq, .inl (cv, 16, .inl (fun _ => 0))), (oq, .inl (co, 1, .inr (.inl (vp_updL (fun _ => 0) (0 : Int32).toNatClampNeg 0)))), (h0, .inr (10, [.ref fq, .ref sq, .ref gq, .ref nq, .ref dq, .ref pq, .int 0, .int 0, .int 0])), (nq, .inr (8, [.int 0, .ref tq, .ref zq, .ref wq])), (fq, .inr (4, [.int 0, .ref tE, .int 0])), (mq, .inr (11, [.int 0, .int 0, .int 0, .int 0, .ref rq, .ref sbq])), (rq, .inl (ci, 119, .inl fx_11))] := hD
    refine W.widen (k := 50) (n := 856) (by omega) (by omega) ?_
    obtain rfl : r_10 = 0 := hw
    refine lv_istore (lv' := [(6, .int 0), (5, .int 0), (4, .int 0), (3, .ref oq), (2, .ref mq), (1, .ref h0), (0, .ref b)]) hx hb dL_law_1146 hl (by decide) rfl (fun ls hl => ?_)
    refine lv_aload_n hx hb dL_law_1148 rfl (lv_at hl 4 rfl) ?_
    have hPc := hP.sub (ws' := [(mq, .inr (11, [.int 0, .int 0, .int 0, .int 0, .ref rq, .ref sbq]))]) [8] rfl
    have hDc := hD.sub (ws' := [(mq, .inr (11, [.int 0, .int 0, .int 0, .int 0, .ref rq, .ref sbq]))]) [8] (by decide) rfl
    have hKc := hK.sub (tys' := []) [] rfl
    have hFc := va_free (wc := [(mq, .inr (11, [.int 0, .int 0, .int 0, .int 0, .ref rq, .ref sbq]))]) hD hS hA [8] rfl
    refine va_calli (va_runV (As := []) (rest := []) ⟨hx, hb, hml, hown, hts⟩ (c_M_thrown l hl9 dC dI tE mq rq sbq 0 0 0 0 _ ) (cwV 0 hts (goodIn_app (goodIn_r _ [69, 70, 71, 58] (by rfl) (by decide +kernel)) gg_law_c_M_thrown) rfl rfl rfl (by decide +kernel) ⟨Nat.le_of_ble_eq_true rfl, Nat.le_of_ble_eq_true rfl⟩) ⟨Pre0.blind, va_recv hKc hPc (ci := 11) (q0 := 0) rfl rfl, Pre0.give hPc hKc hDc hT hS hFc⟩ rfl rfl hl.1 rfl (lv_room (Nat.le_of_ble_eq_true rfl)) dL_law_1149 ⟨Nat.le_of_ble_eq_true rfl, Nat.le_of_ble_eq_true rfl⟩) hS (fun q _ h => hFc q h) hFc (fun r_12 u t H1 locs ht hvm hw hB hz1 hk1 hS => ?_)
    obtain ⟨hP1, hK1, hD1⟩ := hB
    rw [ht] at hP1
    have hK1 := va_K.moved hvm.symm hK1
    obtain ⟨hP, hD⟩ := va_join (wr := [(sq, .inr (4, [.int 0, .ref tE, .int 0])), (gq, .inr (4, [.int 0, .ref tE, .int 0])), (sbq, .inr (1, [.ref vq, .int 0, .int 0, .int 0])), (vq, .inl (cv, 16, .inl (fun _ => 0))), (oq, .inl (co, 1, .inr (.inl (vp_updL (fun _ => 0) (0 : Int32).toNatClampNeg 0)))), (h0, .inr (10, [.ref fq, .ref sq, .ref gq, .ref nq, .ref dq, .ref pq, .int 0, .int 0, .int 0])), (nq, .inr (8, [.int 0, .ref tq, .ref zq, .ref wq])), (fq, .inr (4, [.int 0, .ref tE, .int 0])), (rq, .inl (ci, 119, .inl fx_11))]) (w1 := [(mq, .inr (11, [.int 0, .int 0, .int 0, .int 0, .ref rq, .ref sbq]))]) hP hD [8] [0, 1, 2, 3, 4, 5, 6, 7, 9] rfl rfl (by decide) (by decide) hk1 hFc hP1 hD1
    generalize H1 = H at hP hS ⊢
    have hP : va_P (dC, dI) vwCl [(sq, .inr (4, [.int 0, .ref tE, .int 0])), (gq, .inr (4, [.int 0, .ref tE, .int 0])), (sbq, .inr (1, [.ref vq, .int 0, .int 0, .int 0])), (vq, .inl (cv, 16, .inl (fun _ => 0))), (oq, .inl (co, 1, .inr (.inl (vp_updL (fun _ => 0) (0 : Int32).toNatClampNeg 0)))), (h0, .inr (10, [.ref fq, .ref sq, .ref gq, .ref nq, .ref dq, .ref pq, .int 0, .int 0, .int 0])), (nq, .inr (8, [.int 0, .ref tq, .ref zq, .ref wq])), (fq, .inr (4, [.int 0, .ref tE, .int 0])), (rq, .inl (ci, 119, .inl fx_11)), (mq, .inr (11, [.int 0, .int 0, .int 0, .int 0, .ref rq, .ref sbq]))] H := hP
    have hD : va_D (fun q : Nat => s.heap.size ≤ q) [(sq, .inr (4, [.int 0, .ref tE, .int 0])), (gq, .inr (4, [.int 0, .ref tE, .int 0])), (sbq, .inr (1, [.ref vq, .int 0, .int 0, .int 0])), (vq, .inl (cv, 16, .inl (fun _ => 0))), (oq, .inl (co, 1, .inr (.inl (vp_updL (fun _ => 0) (0 : Int32).toNatClampNeg 0)))), (h0, .inr (10, [.ref fq, .ref sq, .ref gq, .ref nq, .ref dq, .ref pq, .int 0, .int 0, .int 0])), (nq, .inr (8, [.int 0, .ref tq, .ref zq, .ref wq])), (fq, .inr (4, [.int 0, .ref tE, .int 0])), (rq, .inl (ci, 119, .inl fx_11)), (mq, .inr (11, [.int 0, .int 0, .int 0, .int 0, .ref rq, .ref sbq]))] := hD
    refine W.widen (k := 50) (n := 856) (by omega) (by omega) ?_
    obtain rfl : r_12 = 0 := hw
    refine lv_iload hx hb dL_law_1152 (lv_at hl 1 rfl) ?_
    refine lv_icmp_eq (tgt := 1159) hx hb dL_law_1154 (by decide) (fun _ => ?_) (fun c_13 => absurd (by decide) c_13)
    refine lv_iload hx hb dL_law_1159 (lv_at hl 1 rfl) ?_
    refine lv_if_ne (tgt := 1176) hx hb dL_law_1161 (by decide) (fun c_14 => absurd (by decide) c_14) (fun _ => ?_)
    refine lv_aload_n hx hb dL_law_1164 rfl (lv_at hl 3 rfl) ?_
    refine lv_iconst (v := 0) hx hb dL_law_1165 (by decide) ?_
    refine va_lald hx hb hK hP 4 2 rfl rfl (by unfold vp_in; decide) dL_law_1166 ?_
    refine lv_topl (fun x_15 e_16 => ?_)
    obtain rfl : x_15 = 0 := e_16.trans (by simp [vp_updL])
    refine lv_iload hx hb dL_law_1167 (lv_at hl 0 rfl) ?_
    refine lv_i2l (v := 0) hx hb dL_law_1169 (by decide) ?_
    refine W.lcmp hx hb dL_law_1170 ?_
    refine lv_topi (fun x_17 e_18 => ?_)
    obtain rfl : x_17 = 0 := e_18.trans (cmp_self _)
    refine lv_if_eq (tgt := 1176) hx hb dL_law_1171 (by decide) (fun _ => ?_) (fun c_19 => absurd (by decide) c_19)
    refine lv_goto (tgt := 1303) hx hb dL_law_1176 (by decide) ?_
    exact law_next l C0 (by omega) (by omega) hS ls (lv_sub hl [2, 6] rfl)
  · have hPc := hP.sub (ws' := [(h0, .inr (10, [.ref fq, .ref sq, .ref gq, .ref nq, .ref dq, .ref pq, .int 0, .int 0, .int 0]))]) [0] rfl
    have hDc := hD.sub (ws' := [(h0, .inr (10, [.ref fq, .ref sq, .ref gq, .ref nq, .ref dq, .ref pq, .int 0, .int 0, .int 0]))]) [0] (by decide) rfl
    have hKc := hK.sub (tys' := []) [] rfl
    have hFc := va_free (wc := [(h0, .inr (10, [.ref fq, .ref sq, .ref gq, .ref nq, .ref dq, .ref pq, .int 0, .int 0, .int 0]))]) hD hS hA [0] rfl
    refine va_calli (vx_runSW (As := [.ref h0, .int y1, .ref oq]) (rest := []) ⟨hx, hb, hml, hown, hts⟩ (w_wouldTurn_f l hl9 dC dI tE h0 fq sq gq nq dq pq 0 0 0 y1 oq _ h) (vx_cwSW 3 hts (goodIn_app (goodIn_r _ [356, 357, 52] (by rfl) (by decide +kernel)) gt_law_w_wouldTurn_f) rfl rfl rfl (by decide +kernel) ⟨Nat.le_of_ble_eq_true rfl, Nat.le_of_ble_eq_true rfl⟩) ⟨Pre0.blind, Pre0.give hPc hKc hDc hT hS hFc⟩ rfl rfl hl.1 rfl (lv_room (Nat.le_of_ble_eq_true rfl)) dL_law_1131 ⟨Nat.le_of_ble_eq_true rfl, Nat.le_of_ble_eq_true rfl⟩) hS (fun q _ h => hFc q h) hFc (fun r_20 u t H1 locs ht hvm hw hB hz1 hk1 hS => ?_)
    obtain ⟨hP1, hK1, hD1⟩ := hB
    rw [ht] at hP1
    have hK1 := va_K.moved hvm.symm hK1
    obtain ⟨hP, hD⟩ := va_join (wr := [(fq, .inr (4, [.int 0, .ref tE, .int 0])), (sq, .inr (4, [.int 0, .ref tE, .int 0])), (gq, .inr (4, [.int 0, .ref tE, .int 0])), (nq, .inr (8, [.int 0, .ref tq, .ref zq, .ref wq])), (mq, .inr (11, [.int 0, .int 0, .int 0, .int 0, .ref rq, .ref sbq])), (rq, .inl (ci, 119, .inl (fun _ => 0))), (sbq, .inr (1, [.ref vq, .int 0, .int 0, .int 0])), (vq, .inl (cv, 16, .inl (fun _ => 0))), (oq, .inl (co, 1, .inr (.inl (fun _ => 0))))]) (w1 := [(h0, .inr (10, [.ref fq, .ref sq, .ref gq, .ref nq, .ref dq, .ref pq, .int 0, .int 0, .int 0]))]) hP hD [0] [1, 2, 3, 4, 5, 6, 7, 8, 9] rfl rfl (by decide) (by decide) hk1 hFc hP1 hD1
    generalize H1 = H at hP hS ⊢
    have hP : va_P (dC, dI) vwCl [(fq, .inr (4, [.int 0, .ref tE, .int 0])), (sq, .inr (4, [.int 0, .ref tE, .int 0])), (gq, .inr (4, [.int 0, .ref tE, .int 0])), (nq, .inr (8, [.int 0, .ref tq, .ref zq, .ref wq])), (mq, .inr (11, [.int 0, .int 0, .int 0, .int 0, .ref rq, .ref sbq])), (rq, .inl (ci, 119, .inl (fun _ => 0))), (sbq, .inr (1, [.ref vq, .int 0, .int 0, .int 0])), (vq, .inl (cv, 16, .inl (fun _ => 0))), (oq, .inl (co, 1, .inr (.inl (fun _ => 0)))), (h0, .inr (10, [.ref fq, .ref sq, .ref gq, .ref nq, .ref dq, .ref pq, .int 0, .int 0, .int 0]))] H := hP
    have hD : va_D (fun q : Nat => s.heap.size ≤ q) [(fq, .inr (4, [.int 0, .ref tE, .int 0])), (sq, .inr (4, [.int 0, .ref tE, .int 0])), (gq, .inr (4, [.int 0, .ref tE, .int 0])), (nq, .inr (8, [.int 0, .ref tq, .ref zq, .ref wq])), (mq, .inr (11, [.int 0, .int 0, .int 0, .int 0, .ref rq, .ref sbq])), (rq, .inl (ci, 119, .inl (fun _ => 0))), (sbq, .inr (1, [.ref vq, .int 0, .int 0, .int 0])), (vq, .inl (cv, 16, .inl (fun _ => 0))), (oq, .inl (co, 1, .inr (.inl (fun _ => 0)))), (h0, .inr (10, [.ref fq, .ref sq, .ref gq, .ref nq, .ref dq, .ref pq, .int 0, .int 0, .int 0]))] := hD
    refine W.widen (k := 51) (n := 862) (by omega) (by omega) ?_
    obtain rfl : r_20 = 1 := hw
    refine lv_istore (lv' := [(5, .int 1), (4, .int 0), (3, .ref oq), (2, .ref mq), (1, .ref h0), (0, .ref b)]) hx hb dL_law_1134 hl (by decide) rfl (fun ls hl => ?_)
    refine lv_aload_n hx hb dL_law_1136 rfl (lv_at hl 3 rfl) ?_
    refine lv_aload_n hx hb dL_law_1137 rfl (lv_at hl 5 rfl) ?_
    refine lv_iload hx hb dL_law_1138 (lv_at hl 1 rfl) ?_
    refine lv_iconst (v := 1) hx hb dL_law_1140 (by decide) ?_
    refine lv_iadd hx hb dL_law_1141 ?_
    refine lv_topi (fun x_21 e_22 => ?_)
    obtain rfl : x_21 = 1 := e_22.trans (by decide)
    refine va_sld hx hb hX hbl hbA hS (by unfold vp_in; decide) dL_law_1142 ?_
    refine lv_topi (fun x_23 e_24 => ?_)
    obtain rfl : y1 = x_23 := ey1.trans e_24.symm
    have hPc := hP.sub (ws' := [(mq, .inr (11, [.int 0, .int 0, .int 0, .int 0, .ref rq, .ref sbq]))]) [4] rfl
    have hDc := hD.sub (ws' := [(mq, .inr (11, [.int 0, .int 0, .int 0, .int 0, .ref rq, .ref sbq]))]) [4] (by decide) rfl
    have hKc := hK.sub (tys' := []) [] rfl
    have hFc := va_free (wc := [(mq, .inr (11, [.int 0, .int 0, .int 0, .int 0, .ref rq, .ref sbq]))]) hD hS hA [4] rfl
    refine va_calli (va_runV (As := [.int y1]) (rest := []) ⟨hx, hb, hml, hown, hts⟩ (c_M_wouldTurn_f l hl9 dC dI tE mq rq sbq 0 y1 _ (by first | assumption | decide | omega)) (cwV 1 hts (goodIn_app (goodIn_r _ [359, 360, 361, 58] (by rfl) (by decide +kernel)) gg_law_c_M_wouldTurn_f) rfl rfl rfl (by decide +kernel) ⟨Nat.le_of_ble_eq_true rfl, Nat.le_of_ble_eq_true rfl⟩) ⟨Pre0.blind, va_recv hKc hPc (ci := 11) (q0 := 0) rfl rfl, Pre0.give hPc hKc hDc hT hS hFc⟩ rfl rfl hl.1 rfl (lv_room (Nat.le_of_ble_eq_true rfl)) dL_law_1143 ⟨Nat.le_of_ble_eq_true rfl, Nat.le_of_ble_eq_true rfl⟩) hS (fun q _ h => hFc q h) hFc (fun r_25 u t H1 locs ht hvm hw hB hz1 hk1 hS => ?_)
    obtain ⟨hP1, hK1, hD1⟩ := hB
    rw [ht] at hP1
    have hK1 := va_K.moved hvm.symm hK1
    obtain ⟨hP, hD⟩ := va_join (wr := [(fq, .inr (4, [.int 0, .ref tE, .int 0])), (sq, .inr (4, [.int 0, .ref tE, .int 0])), (gq, .inr (4, [.int 0, .ref tE, .int 0])), (nq, .inr (8, [.int 0, .ref tq, .ref zq, .ref wq])), (rq, .inl (ci, 119, .inl (fun _ => 0))), (sbq, .inr (1, [.ref vq, .int 0, .int 0, .int 0])), (vq, .inl (cv, 16, .inl (fun _ => 0))), (oq, .inl (co, 1, .inr (.inl (fun _ => 0)))), (h0, .inr (10, [.ref fq, .ref sq, .ref gq, .ref nq, .ref dq, .ref pq, .int 0, .int 0, .int 0]))]) (w1 := [(mq, .inr (11, [.int 1, .int 0, .int 0, .int 0, .ref rq, .ref sbq]))]) hP hD [4] [0, 1, 2, 3, 5, 6, 7, 8, 9] rfl rfl (by decide) (by decide) hk1 hFc hP1 hD1
    generalize H1 = H at hP hS ⊢
    have hP : va_P (dC, dI) vwCl [(fq, .inr (4, [.int 0, .ref tE, .int 0])), (sq, .inr (4, [.int 0, .ref tE, .int 0])), (gq, .inr (4, [.int 0, .ref tE, .int 0])), (nq, .inr (8, [.int 0, .ref tq, .ref zq, .ref wq])), (rq, .inl (ci, 119, .inl (fun _ => 0))), (sbq, .inr (1, [.ref vq, .int 0, .int 0, .int 0])), (vq, .inl (cv, 16, .inl (fun _ => 0))), (oq, .inl (co, 1, .inr (.inl (fun _ => 0)))), (h0, .inr (10, [.ref fq, .ref sq, .ref gq, .ref nq, .ref dq, .ref pq, .int 0, .int 0, .int 0])), (mq, .inr (11, [.int 1, .int 0, .int 0, .int 0, .ref rq, .ref sbq]))] H := hP
    have hD : va_D (fun q : Nat => s.heap.size ≤ q) [(fq, .inr (4, [.int 0, .ref tE, .int 0])), (sq, .inr (4, [.int 0, .ref tE, .int 0])), (gq, .inr (4, [.int 0, .ref tE, .int 0])), (nq, .inr (8, [.int 0, .ref tq, .ref zq, .ref wq])), (rq, .inl (ci, 119, .inl (fun _ => 0))), (sbq, .inr (1, [.ref vq, .int 0, .int 0, .int 0])), (vq, .inl (cv, 16, .inl (fun _ => 0))), (oq, .inl (co, 1, .inr (.inl (fun _ => 0)))), (h0, .inr (10, [.ref fq, .ref sq, .ref gq, .ref nq, .ref dq, .ref pq, .int 0, .int 0, .int 0])), (mq, .inr (11, [.int 1, .int 0, .int 0, .int 0, .ref rq, .ref sbq]))] := hD
    refine W.widen (k := 51) (n := 862) (by omega) (by omega) ?_
    obtain rfl : r_25 = 0 := hw
    refine lv_istore (lv' := [(6, .int 0), (5, .int 1), (4, .int 0), (3, .ref oq), (2, .ref mq), (1, .ref h0), (0, .ref b)]) hx hb dL_law_1146 hl (by decide) rfl (fun ls hl => ?_)
    refine lv_aload_n hx hb dL_law_1148 rfl (lv_at hl 4 rfl) ?_
    have hPc := hP.sub (ws' := [(mq, .inr (11, [.int 1, .int 0, .int 0, .int 0, .ref rq, .ref sbq]))]) [9] rfl
    have hDc := hD.sub (ws' := [(mq, .inr (11, [.int 1, .int 0, .int 0, .int 0, .ref rq, .ref sbq]))]) [9] (by decide) rfl
    have hKc := hK.sub (tys' := []) [] rfl
    have hFc := va_free (wc := [(mq, .inr (11, [.int 1, .int 0, .int 0, .int 0, .ref rq, .ref sbq]))]) hD hS hA [9] rfl
    refine va_calli (va_runV (As := []) (rest := []) ⟨hx, hb, hml, hown, hts⟩ (c_M_thrown l hl9 dC dI tE mq rq sbq 1 0 0 0 _ ) (cwV 0 hts (goodIn_app (goodIn_r _ [69, 70, 71, 58] (by rfl) (by decide +kernel)) gg_law_c_M_thrown) rfl rfl rfl (by decide +kernel) ⟨Nat.le_of_ble_eq_true rfl, Nat.le_of_ble_eq_true rfl⟩) ⟨Pre0.blind, va_recv hKc hPc (ci := 11) (q0 := 0) rfl rfl, Pre0.give hPc hKc hDc hT hS hFc⟩ rfl rfl hl.1 rfl (lv_room (Nat.le_of_ble_eq_true rfl)) dL_law_1149 ⟨Nat.le_of_ble_eq_true rfl, Nat.le_of_ble_eq_true rfl⟩) hS (fun q _ h => hFc q h) hFc (fun r_26 u t H1 locs ht hvm hw hB hz1 hk1 hS => ?_)
    obtain ⟨hP1, hK1, hD1⟩ := hB
    rw [ht] at hP1
    have hK1 := va_K.moved hvm.symm hK1
    obtain ⟨hP, hD⟩ := va_join (wr := [(fq, .inr (4, [.int 0, .ref tE, .int 0])), (sq, .inr (4, [.int 0, .ref tE, .int 0])), (gq, .inr (4, [.int 0, .ref tE, .int 0])), (nq, .inr (8, [.int 0, .ref tq, .ref zq, .ref wq])), (rq, .inl (ci, 119, .inl (fun _ => 0))), (sbq, .inr (1, [.ref vq, .int 0, .int 0, .int 0])), (vq, .inl (cv, 16, .inl (fun _ => 0))), (oq, .inl (co, 1, .inr (.inl (fun _ => 0)))), (h0, .inr (10, [.ref fq, .ref sq, .ref gq, .ref nq, .ref dq, .ref pq, .int 0, .int 0, .int 0]))]) (w1 := [(mq, .inr (11, [.int 1, .int 0, .int 0, .int 0, .ref rq, .ref sbq]))]) hP hD [9] [0, 1, 2, 3, 4, 5, 6, 7, 8] rfl rfl (by decide) (by decide) hk1 hFc hP1 hD1
    generalize H1 = H at hP hS ⊢
    have hP : va_P (dC, dI) vwCl [(fq, .inr (4, [.int 0, .ref tE, .int 0])), (sq, .inr (4, [.int 0, .ref tE, .int 0])), (gq, .inr (4, [.int 0, .ref tE, .int 0])), (nq, .inr (8, [.int 0, .ref tq, .ref zq, .ref wq])), (rq, .inl (ci, 119, .inl (fun _ => 0))), (sbq, .inr (1, [.ref vq, .int 0, .int 0, .int 0])), (vq, .inl (cv, 16, .inl (fun _ => 0))), (oq, .inl (co, 1, .inr (.inl (fun _ => 0)))), (h0, .inr (10, [.ref fq, .ref sq, .ref gq, .ref nq, .ref dq, .ref pq, .int 0, .int 0, .int 0])), (mq, .inr (11, [.int 1, .int 0, .int 0, .int 0, .ref rq, .ref sbq]))] H := hP
    have hD : va_D (fun q : Nat => s.heap.size ≤ q) [(fq, .inr (4, [.int 0, .ref tE, .int 0])), (sq, .inr (4, [.int 0, .ref tE, .int 0])), (gq, .inr (4, [.int 0, .ref tE, .int 0])), (nq, .inr (8, [.int 0, .ref tq, .ref zq, .ref wq])), (rq, .inl (ci, 119, .inl (fun _ => 0))), (sbq, .inr (1, [.ref vq, .int 0, .int 0, .int 0])), (vq, .inl (cv, 16, .inl (fun _ => 0))), (oq, .inl (co, 1, .inr (.inl (fun _ => 0)))), (h0, .inr (10, [.ref fq, .ref sq, .ref gq, .ref nq, .ref dq, .ref pq, .int 0, .int 0, .int 0])), (mq, .inr (11, [.int 1, .int 0, .int 0, .int 0, .ref rq, .ref sbq]))] := hD
    refine W.widen (k := 51) (n := 862) (by omega) (by omega) ?_
    obtain rfl : r_26 = 1 := hw
    refine lv_iload hx hb dL_law_1152 (lv_at hl 1 rfl) ?_
    refine lv_icmp_eq (tgt := 1159) hx hb dL_law_1154 (by decide) (fun _ => ?_) (fun c_27 => absurd (by decide) c_27)
    refine lv_iload hx hb dL_law_1159 (lv_at hl 1 rfl) ?_
    refine lv_if_ne (tgt := 1176) hx hb dL_law_1161 (by decide) (fun _ => ?_) (fun c_28 => absurd c_28 (by decide))
    refine lv_goto (tgt := 1303) hx hb dL_law_1176 (by decide) ?_
    exact law_next l C0 (by omega) (by omega) hS ls (lv_sub hl [2, 6] rfl)
set_option maxHeartbeats 4000000 in
set_option maxRecDepth 100000 in
theorem law_write {p : Program} {e : Env} {s : State} {m : MethodId} {below : List Frame} {meth : Method} {c : Code} (l : Launch) (hl9 : l.stackTraces = false) {b : Nat} {xs : Nat → Int32} (C0 : lw_At p s m meth c b 4 xs) (dC : Nat → ClassId) (dI : Nat → Nat → Nat) (tE : Nat) (h0 fq sq gq nq tq zq wq dq pq mq rq sbq vq oq : Nat) (ci cv co : ClassId) (hT : tK tE (fun q : Nat => s.heap.size ≤ q) s s.heap) (hK : va_K (dC, dI) vwCl [(ci, .int), (cv, .byte), (co, .long)] s) {H : Heap} {locs : List Loc} (hP : va_P (dC, dI) vwCl [(h0, .inr (10, [.ref fq, .ref sq, .ref gq, .ref nq, .ref dq, .ref pq, .int 0, .int 0, .int 0])), (fq, .inr (4, [.int 0, .ref tE, .int 0])), (sq, .inr (4, [.int 0, .ref tE, .int 0])), (gq, .inr (4, [.int 0, .ref tE, .int 0])), (nq, .inr (8, [.int 0, .ref tq, .ref zq, .ref wq])), (mq, .inr (11, [.int 0, .int 0, .int 0, .int 0, .ref rq, .ref sbq])), (rq, .inl (ci, 119, .inl (fun _ => 0))), (sbq, .inr (1, [.ref vq, .int 0, .int 0, .int 0])), (vq, .inl (cv, 16, .inl (fun _ => 0))), (oq, .inl (co, 1, .inr (.inl (fun _ => 0))))] H) (hD : va_D (fun q : Nat => s.heap.size ≤ q) [(h0, .inr (10, [.ref fq, .ref sq, .ref gq, .ref nq, .ref dq, .ref pq, .int 0, .int 0, .int 0])), (fq, .inr (4, [.int 0, .ref tE, .int 0])), (sq, .inr (4, [.int 0, .ref tE, .int 0])), (gq, .inr (4, [.int 0, .ref tE, .int 0])), (nq, .inr (8, [.int 0, .ref tq, .ref zq, .ref wq])), (mq, .inr (11, [.int 0, .int 0, .int 0, .int 0, .ref rq, .ref sbq])), (rq, .inl (ci, 119, .inl (fun _ => 0))), (sbq, .inr (1, [.ref vq, .int 0, .int 0, .int 0])), (vq, .inl (cv, 16, .inl (fun _ => 0))), (oq, .inl (co, 1, .inr (.inl (fun _ => 0))))]) (hS : va_S (fun q : Nat => s.heap.size ≤ q) s.heap H locs) (ls : Array Slot) (hl : lv_has ls 9 [(4, .int 0), (3, .ref oq), (2, .ref mq), (1, .ref h0), (0, .ref b)]) : W p l e room_1 s m #[Value.ref b] below meth c H locs 50 856 (lw_Z below #[Value.ref b] s) (F0 m 1179 ls []) := by
  obtain ⟨hx, hb, hr, hml, hown, hts, hX, hbl, hlocks, hgv⟩ := id C0
  have hts := law_hts hts
  have hA : ∀ q : Nat, s.heap.size ≤ q → (fun q : Nat => s.heap.size ≤ q) q := fun _ h => h
  have hbA : ¬ (fun q : Nat => s.heap.size ≤ q) b := Nat.not_le.mpr hbl
  refine lv_aload_n hx hb dL_law_1179 rfl (lv_at hl 3 rfl) ?_
  have hPc := hP.sub (ws' := [(h0, .inr (10, [.ref fq, .ref sq, .ref gq, .ref nq, .ref dq, .ref pq, .int 0, .int 0, .int 0])), (fq, .inr (4, [.int 0, .ref tE, .int 0])), (sq, .inr (4, [.int 0, .ref tE, .int 0])), (gq, .inr (4, [.int 0, .ref tE, .int 0]))]) [0, 1, 2, 3] rfl
  have hDc := hD.sub (ws' := [(h0, .inr (10, [.ref fq, .ref sq, .ref gq, .ref nq, .ref dq, .ref pq, .int 0, .int 0, .int 0])), (fq, .inr (4, [.int 0, .ref tE, .int 0])), (sq, .inr (4, [.int 0, .ref tE, .int 0])), (gq, .inr (4, [.int 0, .ref tE, .int 0]))]) [0, 1, 2, 3] (by decide) rfl
  have hKc := hK.sub (tys' := []) [] rfl
  have hFc := va_free (wc := [(h0, .inr (10, [.ref fq, .ref sq, .ref gq, .ref nq, .ref dq, .ref pq, .int 0, .int 0, .int 0])), (fq, .inr (4, [.int 0, .ref tE, .int 0])), (sq, .inr (4, [.int 0, .ref tE, .int 0])), (gq, .inr (4, [.int 0, .ref tE, .int 0]))]) hD hS hA [0, 1, 2, 3] rfl
  refine va_calli (va_runV (As := []) (rest := []) ⟨hx, hb, hml, hown, hts⟩ (c_write l hl9 dC dI tE h0 fq sq gq nq dq pq 0 0 0 0 0 0 _ ) (cwV 0 hts (goodIn_app (goodIn_r _ [363, 364, 365, 49] (by rfl) (by decide +kernel)) gg_law_c_write) rfl rfl rfl (by decide +kernel) ⟨Nat.le_of_ble_eq_true rfl, Nat.le_of_ble_eq_true rfl⟩) ⟨Pre0.blind, va_recv hKc hPc (ci := 10) (q0 := 0) rfl rfl, Pre0.give hPc hKc hDc hT hS hFc⟩ rfl rfl hl.1 rfl (lv_room (Nat.le_of_ble_eq_true rfl)) dL_law_1180 ⟨Nat.le_of_ble_eq_true rfl, Nat.le_of_ble_eq_true rfl⟩) hS (fun q _ h => hFc q h) hFc (fun r_1 u t H1 locs ht hvm hw hB hz1 hk1 hS => ?_)
  obtain ⟨hP1, hK1, hD1⟩ := hB
  rw [ht] at hP1
  have hK1 := va_K.moved hvm.symm hK1
  obtain ⟨hP, hD⟩ := va_join (wr := [(nq, .inr (8, [.int 0, .ref tq, .ref zq, .ref wq])), (mq, .inr (11, [.int 0, .int 0, .int 0, .int 0, .ref rq, .ref sbq])), (rq, .inl (ci, 119, .inl (fun _ => 0))), (sbq, .inr (1, [.ref vq, .int 0, .int 0, .int 0])), (vq, .inl (cv, 16, .inl (fun _ => 0))), (oq, .inl (co, 1, .inr (.inl (fun _ => 0))))]) (w1 := [(h0, .inr (10, [.ref fq, .ref sq, .ref gq, .ref nq, .ref dq, .ref pq, .int 0, .int 0, .int 0])), (fq, .inr (4, [.int 0, .ref tE, .int 0])), (sq, .inr (4, [.int 0, .ref tE, .int 0])), (gq, .inr (4, [.int 0, .ref tE, .int 0]))]) hP hD [0, 1, 2, 3] [4, 5, 6, 7, 8, 9] rfl rfl (by decide) (by decide) hk1 hFc hP1 hD1
  generalize H1 = H at hP hS ⊢
  have hP : va_P (dC, dI) vwCl [(nq, .inr (8, [.int 0, .ref tq, .ref zq, .ref wq])), (mq, .inr (11, [.int 0, .int 0, .int 0, .int 0, .ref rq, .ref sbq])), (rq, .inl (ci, 119, .inl (fun _ => 0))), (sbq, .inr (1, [.ref vq, .int 0, .int 0, .int 0])), (vq, .inl (cv, 16, .inl (fun _ => 0))), (oq, .inl (co, 1, .inr (.inl (fun _ => 0)))), (h0, .inr (10, [.ref fq, .ref sq, .ref gq, .ref nq, .ref dq, .ref pq, .int 0, .int 0, .int 0])), (fq, .inr (4, [.int 0, .ref tE, .int 0])), (sq, .inr (4, [.int 0, .ref tE, .int 0])), (gq, .inr (4, [.int 0, .ref tE, .int 0]))] H := hP
  have hD : va_D (fun q : Nat => s.heap.size ≤ q) [(nq, .inr (8, [.int 0, .ref tq, .ref zq, .ref wq])), (mq, .inr (11, [.int 0, .int 0, .int 0, .int 0, .ref rq, .ref sbq])), (rq, .inl (ci, 119, .inl (fun _ => 0))), (sbq, .inr (1, [.ref vq, .int 0, .int 0, .int 0])), (vq, .inl (cv, 16, .inl (fun _ => 0))), (oq, .inl (co, 1, .inr (.inl (fun _ => 0)))), (h0, .inr (10, [.ref fq, .ref sq, .ref gq, .ref nq, .ref dq, .ref pq, .int 0, .int 0, .int 0])), (fq, .inr (4, [.int 0, .ref tE, .int 0])), (sq, .inr (4, [.int 0, .ref tE, .int 0])), (gq, .inr (4, [.int 0, .ref tE, .int 0]))] := hD
  refine W.widen (k := 50) (n := 856) (by omega) (by omega) ?_
  obtain rfl : r_1 = 0 := hw
  refine lv_aload_n hx hb dL_law_1183 rfl (lv_at hl 2 rfl) ?_
  have hPc := hP.sub (ws' := [(mq, .inr (11, [.int 0, .int 0, .int 0, .int 0, .ref rq, .ref sbq])), (sbq, .inr (1, [.ref vq, .int 0, .int 0, .int 0])), (vq, .inl (cv, 16, .inl (fun _ => 0)))]) [1, 3, 4] rfl
  have hDc := hD.sub (ws' := [(mq, .inr (11, [.int 0, .int 0, .int 0, .int 0, .ref rq, .ref sbq])), (sbq, .inr (1, [.ref vq, .int 0, .int 0, .int 0])), (vq, .inl (cv, 16, .inl (fun _ => 0)))]) [1, 3, 4] (by decide) rfl
  have hKc := hK.sub (tys' := [(cv, .byte)]) [1] rfl
  have hFc := va_free (wc := [(mq, .inr (11, [.int 0, .int 0, .int 0, .int 0, .ref rq, .ref sbq])), (sbq, .inr (1, [.ref vq, .int 0, .int 0, .int 0])), (vq, .inl (cv, 16, .inl (fun _ => 0)))]) hD hS hA [1, 3, 4] rfl
  refine va_calli (va_runV (As := []) (rest := [.int 0]) ⟨hx, hb, hml, hown, hts⟩ (c_M_write l hl9 dC dI tE mq rq sbq 0 vq cv (fun _ => 0) _ ) (cwV 0 hts (goodIn_app (goodIn_r _ [382, 383, 384, 58] (by rfl) (by decide +kernel)) gg_law_c_M_write) rfl rfl rfl (by decide +kernel) ⟨Nat.le_of_ble_eq_true rfl, Nat.le_of_ble_eq_true rfl⟩) ⟨Pre0.blind, va_recv hKc hPc (ci := 11) (q0 := 0) rfl rfl, Pre0.give hPc hKc hDc hT hS hFc⟩ rfl rfl hl.1 rfl (lv_room (Nat.le_of_ble_eq_true rfl)) dL_law_1184 ⟨Nat.le_of_ble_eq_true rfl, Nat.le_of_ble_eq_true rfl⟩) hS (fun q _ h => hFc q h) hFc (fun r_2 u t H1 locs ht hvm hw hB hz1 hk1 hS => ?_)
  obtain ⟨hP1, hK1, hD1⟩ := hB
  rw [ht] at hP1
  have hK1 := va_K.moved hvm.symm hK1
  obtain ⟨hP, hD⟩ := va_join (wr := [(nq, .inr (8, [.int 0, .ref tq, .ref zq, .ref wq])), (rq, .inl (ci, 119, .inl (fun _ => 0))), (oq, .inl (co, 1, .inr (.inl (fun _ => 0)))), (h0, .inr (10, [.ref fq, .ref sq, .ref gq, .ref nq, .ref dq, .ref pq, .int 0, .int 0, .int 0])), (fq, .inr (4, [.int 0, .ref tE, .int 0])), (sq, .inr (4, [.int 0, .ref tE, .int 0])), (gq, .inr (4, [.int 0, .ref tE, .int 0]))]) (w1 := [(mq, .inr (11, [.int 0, .int 0, .int 0, .int 0, .ref rq, .ref sbq])), (vq, .inl (cv, 16, .inl (fun _ => 0))), (sbq, .inr (1, [.ref vq, .int 0, .int 0, .int 0]))]) hP hD [1, 3, 4] [0, 2, 5, 6, 7, 8, 9] rfl rfl (by decide) (by decide) hk1 hFc hP1 hD1
  generalize H1 = H at hP hS ⊢
  have hP : va_P (dC, dI) vwCl [(nq, .inr (8, [.int 0, .ref tq, .ref zq, .ref wq])), (rq, .inl (ci, 119, .inl (fun _ => 0))), (oq, .inl (co, 1, .inr (.inl (fun _ => 0)))), (h0, .inr (10, [.ref fq, .ref sq, .ref gq, .ref nq, .ref dq, .ref pq, .int 0, .int 0, .int 0])), (fq, .inr (4, [.int 0, .ref tE, .int 0])), (sq, .inr (4, [.int 0, .ref tE, .int 0])), (gq, .inr (4, [.int 0, .ref tE, .int 0])), (mq, .inr (11, [.int 0, .int 0, .int 0, .int 0, .ref rq, .ref sbq])), (vq, .inl (cv, 16, .inl (fun _ => 0))), (sbq, .inr (1, [.ref vq, .int 0, .int 0, .int 0]))] H := hP
  have hD : va_D (fun q : Nat => s.heap.size ≤ q) [(nq, .inr (8, [.int 0, .ref tq, .ref zq, .ref wq])), (rq, .inl (ci, 119, .inl (fun _ => 0))), (oq, .inl (co, 1, .inr (.inl (fun _ => 0)))), (h0, .inr (10, [.ref fq, .ref sq, .ref gq, .ref nq, .ref dq, .ref pq, .int 0, .int 0, .int 0])), (fq, .inr (4, [.int 0, .ref tE, .int 0])), (sq, .inr (4, [.int 0, .ref tE, .int 0])), (gq, .inr (4, [.int 0, .ref tE, .int 0])), (mq, .inr (11, [.int 0, .int 0, .int 0, .int 0, .ref rq, .ref sbq])), (vq, .inl (cv, 16, .inl (fun _ => 0))), (sbq, .inr (1, [.ref vq, .int 0, .int 0, .int 0]))] := hD
  refine W.widen (k := 50) (n := 856) (by omega) (by omega) ?_
  obtain rfl : r_2 = 0 := hw
  refine lv_icmp_eq (tgt := 1303) hx hb dL_law_1187 (by decide) (fun _ => ?_) (fun c_3 => absurd (by decide) c_3)
  exact law_next l C0 (by omega) (by omega) hS ls (lv_sub hl [0, 4] rfl)
set_option maxHeartbeats 4000000 in
set_option maxRecDepth 100000 in
theorem law_byteAt {p : Program} {e : Env} {s : State} {m : MethodId} {below : List Frame} {meth : Method} {c : Code} (l : Launch) (hl9 : l.stackTraces = false) {b : Nat} {xs : Nat → Int32} (C0 : lw_At p s m meth c b 4 xs) (dC : Nat → ClassId) (dI : Nat → Nat → Nat) (tE : Nat) (h0 fq sq gq nq tq zq wq dq pq mq rq sbq vq oq : Nat) (ci cv co : ClassId) (hT : tK tE (fun q : Nat => s.heap.size ≤ q) s s.heap) (hK : va_K (dC, dI) vwCl [(ci, .int), (cv, .byte), (co, .long)] s) {H : Heap} {locs : List Loc} (hP : va_P (dC, dI) vwCl [(h0, .inr (10, [.ref fq, .ref sq, .ref gq, .ref nq, .ref dq, .ref pq, .int 0, .int 0, .int 0])), (fq, .inr (4, [.int 0, .ref tE, .int 0])), (sq, .inr (4, [.int 0, .ref tE, .int 0])), (gq, .inr (4, [.int 0, .ref tE, .int 0])), (nq, .inr (8, [.int 0, .ref tq, .ref zq, .ref wq])), (mq, .inr (11, [.int 0, .int 0, .int 0, .int 0, .ref rq, .ref sbq])), (rq, .inl (ci, 119, .inl (fun _ => 0))), (sbq, .inr (1, [.ref vq, .int 0, .int 0, .int 0])), (vq, .inl (cv, 16, .inl (fun _ => 0))), (oq, .inl (co, 1, .inr (.inl (fun _ => 0))))] H) (hD : va_D (fun q : Nat => s.heap.size ≤ q) [(h0, .inr (10, [.ref fq, .ref sq, .ref gq, .ref nq, .ref dq, .ref pq, .int 0, .int 0, .int 0])), (fq, .inr (4, [.int 0, .ref tE, .int 0])), (sq, .inr (4, [.int 0, .ref tE, .int 0])), (gq, .inr (4, [.int 0, .ref tE, .int 0])), (nq, .inr (8, [.int 0, .ref tq, .ref zq, .ref wq])), (mq, .inr (11, [.int 0, .int 0, .int 0, .int 0, .ref rq, .ref sbq])), (rq, .inl (ci, 119, .inl (fun _ => 0))), (sbq, .inr (1, [.ref vq, .int 0, .int 0, .int 0])), (vq, .inl (cv, 16, .inl (fun _ => 0))), (oq, .inl (co, 1, .inr (.inl (fun _ => 0))))]) (hS : va_S (fun q : Nat => s.heap.size ≤ q) s.heap H locs) (ls : Array Slot) (hl : lv_has ls 9 [(4, .int 0), (3, .ref oq), (2, .ref mq), (1, .ref h0), (0, .ref b)]) : W p l e room_1 s m #[Value.ref b] below meth c H locs 50 856 (lw_Z below #[Value.ref b] s) (F0 m 1192 ls []) := by
  obtain ⟨hx, hb, hr, hml, hown, hts, hX, hbl, hlocks, hgv⟩ := id C0
  have hts := law_hts hts
  have hA : ∀ q : Nat, s.heap.size ≤ q → (fun q : Nat => s.heap.size ≤ q) q := fun _ h => h
  have hbA : ¬ (fun q : Nat => s.heap.size ≤ q) b := Nat.not_le.mpr hbl
  refine lv_aload_n hx hb dL_law_1192 rfl (lv_at hl 3 rfl) ?_
  refine lv_aload_n hx hb dL_law_1193 rfl (lv_at hl 4 rfl) ?_
  refine lv_iload hx hb dL_law_1194 (lv_at hl 0 rfl) ?_
  refine lv_iconst (v := 1) hx hb dL_law_1196 (by decide) ?_
  refine lv_iadd hx hb dL_law_1197 ?_
  refine lv_topi (fun x_1 e_2 => ?_)
  obtain rfl : x_1 = 1 := e_2.trans (by decide)
  refine va_sld hx hb hX hbl hbA hS (by unfold vp_in; decide) dL_law_1198 ?_
  refine lv_topi (fun y1 ey1 => ?_)
  refine lv_aload_n hx hb dL_law_1199 rfl (lv_at hl 1 rfl) ?_
  have hPc := hP.sub (ws' := [(h0, .inr (10, [.ref fq, .ref sq, .ref gq, .ref nq, .ref dq, .ref pq, .int 0, .int 0, .int 0]))]) [0] rfl
  have hDc := hD.sub (ws' := [(h0, .inr (10, [.ref fq, .ref sq, .ref gq, .ref nq, .ref dq, .ref pq, .int 0, .int 0, .int 0]))]) [0] (by decide) rfl
  have hKc := hK.sub (tys' := []) [] rfl
  have hFc := va_free (wc := [(h0, .inr (10, [.ref fq, .ref sq, .ref gq, .ref nq, .ref dq, .ref pq, .int 0, .int 0, .int 0]))]) hD hS hA [0] rfl
  refine va_calli (vx_runSW (As := [.ref h0, .int y1, .ref oq]) (rest := []) ⟨hx, hb, hml, hown, hts⟩ (w_byteAt l hl9 dC dI tE h0 fq sq gq nq dq pq y1 oq _ ) (vx_cwSW 3 hts (goodIn_app (goodIn_r _ [390, 391, 52] (by rfl) (by decide +kernel)) gt_law_w_byteAt) rfl rfl rfl (by decide +kernel) ⟨Nat.le_of_ble_eq_true rfl, Nat.le_of_ble_eq_true rfl⟩) ⟨Pre0.blind, Pre0.give hPc hKc hDc hT hS hFc⟩ rfl rfl hl.1 rfl (lv_room (Nat.le_of_ble_eq_true rfl)) dL_law_1200 ⟨Nat.le_of_ble_eq_true rfl, Nat.le_of_ble_eq_true rfl⟩) hS (fun q _ h => hFc q h) hFc (fun r_5 u t H1 locs ht hvm hw hB hz1 hk1 hS => ?_)
  obtain ⟨hP1, hK1, hD1⟩ := hB
  rw [ht] at hP1
  have hK1 := va_K.moved hvm.symm hK1
  obtain ⟨hP, hD⟩ := va_join (wr := [(fq, .inr (4, [.int 0, .ref tE, .int 0])), (sq, .inr (4, [.int 0, .ref tE, .int 0])), (gq, .inr (4, [.int 0, .ref tE, .int 0])), (nq, .inr (8, [.int 0, .ref tq, .ref zq, .ref wq])), (mq, .inr (11, [.int 0, .int 0, .int 0, .int 0, .ref rq, .ref sbq])), (rq, .inl (ci, 119, .inl (fun _ => 0))), (sbq, .inr (1, [.ref vq, .int 0, .int 0, .int 0])), (vq, .inl (cv, 16, .inl (fun _ => 0))), (oq, .inl (co, 1, .inr (.inl (fun _ => 0))))]) (w1 := [(h0, .inr (10, [.ref fq, .ref sq, .ref gq, .ref nq, .ref dq, .ref pq, .int 0, .int 0, .int 0]))]) hP hD [0] [1, 2, 3, 4, 5, 6, 7, 8, 9] rfl rfl (by decide) (by decide) hk1 hFc hP1 hD1
  generalize H1 = H at hP hS ⊢
  have hP : va_P (dC, dI) vwCl [(fq, .inr (4, [.int 0, .ref tE, .int 0])), (sq, .inr (4, [.int 0, .ref tE, .int 0])), (gq, .inr (4, [.int 0, .ref tE, .int 0])), (nq, .inr (8, [.int 0, .ref tq, .ref zq, .ref wq])), (mq, .inr (11, [.int 0, .int 0, .int 0, .int 0, .ref rq, .ref sbq])), (rq, .inl (ci, 119, .inl (fun _ => 0))), (sbq, .inr (1, [.ref vq, .int 0, .int 0, .int 0])), (vq, .inl (cv, 16, .inl (fun _ => 0))), (oq, .inl (co, 1, .inr (.inl (fun _ => 0)))), (h0, .inr (10, [.ref fq, .ref sq, .ref gq, .ref nq, .ref dq, .ref pq, .int 0, .int 0, .int 0]))] H := hP
  have hD : va_D (fun q : Nat => s.heap.size ≤ q) [(fq, .inr (4, [.int 0, .ref tE, .int 0])), (sq, .inr (4, [.int 0, .ref tE, .int 0])), (gq, .inr (4, [.int 0, .ref tE, .int 0])), (nq, .inr (8, [.int 0, .ref tq, .ref zq, .ref wq])), (mq, .inr (11, [.int 0, .int 0, .int 0, .int 0, .ref rq, .ref sbq])), (rq, .inl (ci, 119, .inl (fun _ => 0))), (sbq, .inr (1, [.ref vq, .int 0, .int 0, .int 0])), (vq, .inl (cv, 16, .inl (fun _ => 0))), (oq, .inl (co, 1, .inr (.inl (fun _ => 0)))), (h0, .inr (10, [.ref fq, .ref sq, .ref gq, .ref nq, .ref dq, .ref pq, .int 0, .int 0, .int 0]))] := hD
  refine W.widen (k := 51) (n := 862) (by omega) (by omega) ?_
  obtain rfl : r_5 = 1 := hw
  refine lv_istore (lv' := [(5, .int 1), (4, .int 0), (3, .ref oq), (2, .ref mq), (1, .ref h0), (0, .ref b)]) hx hb dL_law_1203 hl (by decide) rfl (fun ls hl => ?_)
  refine lv_aload_n hx hb dL_law_1205 rfl (lv_at hl 3 rfl) ?_
  refine lv_aload_n hx hb dL_law_1206 rfl (lv_at hl 5 rfl) ?_
  refine lv_iload hx hb dL_law_1207 (lv_at hl 1 rfl) ?_
  refine lv_iconst (v := 1) hx hb dL_law_1209 (by decide) ?_
  refine lv_iadd hx hb dL_law_1210 ?_
  refine lv_topi (fun x_6 e_7 => ?_)
  obtain rfl : x_6 = 1 := e_7.trans (by decide)
  refine va_sld hx hb hX hbl hbA hS (by unfold vp_in; decide) dL_law_1211 ?_
  refine lv_topi (fun x_8 e_9 => ?_)
  obtain rfl : y1 = x_8 := ey1.trans e_9.symm
  have hPc := hP.sub (ws' := [(mq, .inr (11, [.int 0, .int 0, .int 0, .int 0, .ref rq, .ref sbq])), (sbq, .inr (1, [.ref vq, .int 0, .int 0, .int 0]))]) [4, 6] rfl
  have hDc := hD.sub (ws' := [(mq, .inr (11, [.int 0, .int 0, .int 0, .int 0, .ref rq, .ref sbq])), (sbq, .inr (1, [.ref vq, .int 0, .int 0, .int 0]))]) [4, 6] (by decide) rfl
  have hKc := hK.sub (tys' := []) [] rfl
  have hFc := va_free (wc := [(mq, .inr (11, [.int 0, .int 0, .int 0, .int 0, .ref rq, .ref sbq])), (sbq, .inr (1, [.ref vq, .int 0, .int 0, .int 0]))]) hD hS hA [4, 6] rfl
  refine va_calli (va_runV (As := [.int y1]) (rest := []) ⟨hx, hb, hml, hown, hts⟩ (c_M_byteAt l hl9 dC dI tE mq rq sbq 0 vq y1 _ ) (cwV 1 hts (goodIn_app (goodIn_r _ [393, 394, 395, 58] (by rfl) (by decide +kernel)) gg_law_c_M_byteAt) rfl rfl rfl (by decide +kernel) ⟨Nat.le_of_ble_eq_true rfl, Nat.le_of_ble_eq_true rfl⟩) ⟨Pre0.blind, va_recv hKc hPc (ci := 11) (q0 := 0) rfl rfl, Pre0.give hPc hKc hDc hT hS hFc⟩ rfl rfl hl.1 rfl (lv_room (Nat.le_of_ble_eq_true rfl)) dL_law_1212 ⟨Nat.le_of_ble_eq_true rfl, Nat.le_of_ble_eq_true rfl⟩) hS (fun q _ h => hFc q h) hFc (fun r_10 u t H1 locs ht hvm hw hB hz1 hk1 hS => ?_)
  obtain ⟨hP1, hK1, hD1⟩ := hB
  rw [ht] at hP1
  have hK1 := va_K.moved hvm.symm hK1
  obtain ⟨hP, hD⟩ := va_join (wr := [(fq, .inr (4, [.int 0, .ref tE, .int 0])), (sq, .inr (4, [.int 0, .ref tE, .int 0])), (gq, .inr (4, [.int 0, .ref tE, .int 0])), (nq, .inr (8, [.int 0, .ref tq, .ref zq, .ref wq])), (rq, .inl (ci, 119, .inl (fun _ => 0))), (vq, .inl (cv, 16, .inl (fun _ => 0))), (oq, .inl (co, 1, .inr (.inl (fun _ => 0)))), (h0, .inr (10, [.ref fq, .ref sq, .ref gq, .ref nq, .ref dq, .ref pq, .int 0, .int 0, .int 0]))]) (w1 := [(sbq, .inr (1, [.ref vq, .int 0, .int 0, .int 0])), (mq, .inr (11, [.int 1, .int 0, .int 0, .int 0, .ref rq, .ref sbq]))]) hP hD [4, 6] [0, 1, 2, 3, 5, 7, 8, 9] rfl rfl (by decide) (by decide) hk1 hFc hP1 hD1
  generalize H1 = H at hP hS ⊢
  have hP : va_P (dC, dI) vwCl [(fq, .inr (4, [.int 0, .ref tE, .int 0])), (sq, .inr (4, [.int 0, .ref tE, .int 0])), (gq, .inr (4, [.int 0, .ref tE, .int 0])), (nq, .inr (8, [.int 0, .ref tq, .ref zq, .ref wq])), (rq, .inl (ci, 119, .inl (fun _ => 0))), (vq, .inl (cv, 16, .inl (fun _ => 0))), (oq, .inl (co, 1, .inr (.inl (fun _ => 0)))), (h0, .inr (10, [.ref fq, .ref sq, .ref gq, .ref nq, .ref dq, .ref pq, .int 0, .int 0, .int 0])), (sbq, .inr (1, [.ref vq, .int 0, .int 0, .int 0])), (mq, .inr (11, [.int 1, .int 0, .int 0, .int 0, .ref rq, .ref sbq]))] H := hP
  have hD : va_D (fun q : Nat => s.heap.size ≤ q) [(fq, .inr (4, [.int 0, .ref tE, .int 0])), (sq, .inr (4, [.int 0, .ref tE, .int 0])), (gq, .inr (4, [.int 0, .ref tE, .int 0])), (nq, .inr (8, [.int 0, .ref tq, .ref zq, .ref wq])), (rq, .inl (ci, 119, .inl (fun _ => 0))), (vq, .inl (cv, 16, .inl (fun _ => 0))), (oq, .inl (co, 1, .inr (.inl (fun _ => 0)))), (h0, .inr (10, [.ref fq, .ref sq, .ref gq, .ref nq, .ref dq, .ref pq, .int 0, .int 0, .int 0])), (sbq, .inr (1, [.ref vq, .int 0, .int 0, .int 0])), (mq, .inr (11, [.int 1, .int 0, .int 0, .int 0, .ref rq, .ref sbq]))] := hD
  refine W.widen (k := 51) (n := 862) (by omega) (by omega) ?_
  obtain rfl : r_10 = 0 := hw
  refine lv_istore (lv' := [(6, .int 0), (5, .int 1), (4, .int 0), (3, .ref oq), (2, .ref mq), (1, .ref h0), (0, .ref b)]) hx hb dL_law_1215 hl (by decide) rfl (fun ls hl => ?_)
  refine lv_aload_n hx hb dL_law_1217 rfl (lv_at hl 4 rfl) ?_
  have hPc := hP.sub (ws' := [(mq, .inr (11, [.int 1, .int 0, .int 0, .int 0, .ref rq, .ref sbq]))]) [9] rfl
  have hDc := hD.sub (ws' := [(mq, .inr (11, [.int 1, .int 0, .int 0, .int 0, .ref rq, .ref sbq]))]) [9] (by decide) rfl
  have hKc := hK.sub (tys' := []) [] rfl
  have hFc := va_free (wc := [(mq, .inr (11, [.int 1, .int 0, .int 0, .int 0, .ref rq, .ref sbq]))]) hD hS hA [9] rfl
  refine va_calli (va_runV (As := []) (rest := []) ⟨hx, hb, hml, hown, hts⟩ (c_M_thrown l hl9 dC dI tE mq rq sbq 1 0 0 0 _ ) (cwV 0 hts (goodIn_app (goodIn_r _ [69, 70, 71, 58] (by rfl) (by decide +kernel)) gg_law_c_M_thrown) rfl rfl rfl (by decide +kernel) ⟨Nat.le_of_ble_eq_true rfl, Nat.le_of_ble_eq_true rfl⟩) ⟨Pre0.blind, va_recv hKc hPc (ci := 11) (q0 := 0) rfl rfl, Pre0.give hPc hKc hDc hT hS hFc⟩ rfl rfl hl.1 rfl (lv_room (Nat.le_of_ble_eq_true rfl)) dL_law_1218 ⟨Nat.le_of_ble_eq_true rfl, Nat.le_of_ble_eq_true rfl⟩) hS (fun q _ h => hFc q h) hFc (fun r_11 u t H1 locs ht hvm hw hB hz1 hk1 hS => ?_)
  obtain ⟨hP1, hK1, hD1⟩ := hB
  rw [ht] at hP1
  have hK1 := va_K.moved hvm.symm hK1
  obtain ⟨hP, hD⟩ := va_join (wr := [(fq, .inr (4, [.int 0, .ref tE, .int 0])), (sq, .inr (4, [.int 0, .ref tE, .int 0])), (gq, .inr (4, [.int 0, .ref tE, .int 0])), (nq, .inr (8, [.int 0, .ref tq, .ref zq, .ref wq])), (rq, .inl (ci, 119, .inl (fun _ => 0))), (vq, .inl (cv, 16, .inl (fun _ => 0))), (oq, .inl (co, 1, .inr (.inl (fun _ => 0)))), (h0, .inr (10, [.ref fq, .ref sq, .ref gq, .ref nq, .ref dq, .ref pq, .int 0, .int 0, .int 0])), (sbq, .inr (1, [.ref vq, .int 0, .int 0, .int 0]))]) (w1 := [(mq, .inr (11, [.int 1, .int 0, .int 0, .int 0, .ref rq, .ref sbq]))]) hP hD [9] [0, 1, 2, 3, 4, 5, 6, 7, 8] rfl rfl (by decide) (by decide) hk1 hFc hP1 hD1
  generalize H1 = H at hP hS ⊢
  have hP : va_P (dC, dI) vwCl [(fq, .inr (4, [.int 0, .ref tE, .int 0])), (sq, .inr (4, [.int 0, .ref tE, .int 0])), (gq, .inr (4, [.int 0, .ref tE, .int 0])), (nq, .inr (8, [.int 0, .ref tq, .ref zq, .ref wq])), (rq, .inl (ci, 119, .inl (fun _ => 0))), (vq, .inl (cv, 16, .inl (fun _ => 0))), (oq, .inl (co, 1, .inr (.inl (fun _ => 0)))), (h0, .inr (10, [.ref fq, .ref sq, .ref gq, .ref nq, .ref dq, .ref pq, .int 0, .int 0, .int 0])), (sbq, .inr (1, [.ref vq, .int 0, .int 0, .int 0])), (mq, .inr (11, [.int 1, .int 0, .int 0, .int 0, .ref rq, .ref sbq]))] H := hP
  have hD : va_D (fun q : Nat => s.heap.size ≤ q) [(fq, .inr (4, [.int 0, .ref tE, .int 0])), (sq, .inr (4, [.int 0, .ref tE, .int 0])), (gq, .inr (4, [.int 0, .ref tE, .int 0])), (nq, .inr (8, [.int 0, .ref tq, .ref zq, .ref wq])), (rq, .inl (ci, 119, .inl (fun _ => 0))), (vq, .inl (cv, 16, .inl (fun _ => 0))), (oq, .inl (co, 1, .inr (.inl (fun _ => 0)))), (h0, .inr (10, [.ref fq, .ref sq, .ref gq, .ref nq, .ref dq, .ref pq, .int 0, .int 0, .int 0])), (sbq, .inr (1, [.ref vq, .int 0, .int 0, .int 0])), (mq, .inr (11, [.int 1, .int 0, .int 0, .int 0, .ref rq, .ref sbq]))] := hD
  refine W.widen (k := 51) (n := 862) (by omega) (by omega) ?_
  obtain rfl : r_11 = 1 := hw
  refine lv_iload hx hb dL_law_1221 (lv_at hl 1 rfl) ?_
  refine lv_icmp_eq (tgt := 1228) hx hb dL_law_1223 (by decide) (fun _ => ?_) (fun c_12 => absurd (by decide) c_12)
  refine lv_iload hx hb dL_law_1228 (lv_at hl 1 rfl) ?_
  refine lv_if_ne (tgt := 1245) hx hb dL_law_1230 (by decide) (fun _ => ?_) (fun c_13 => absurd c_13 (by decide))
  refine lv_goto (tgt := 1303) hx hb dL_law_1245 (by decide) ?_
  exact law_next l C0 (by omega) (by omega) hS ls (lv_sub hl [2, 6] rfl)
set_option maxHeartbeats 4000000 in
set_option maxRecDepth 100000 in
theorem law_home {p : Program} {e : Env} {s : State} {m : MethodId} {below : List Frame} {meth : Method} {c : Code} (l : Launch) (hl9 : l.stackTraces = false) {b : Nat} {xs : Nat → Int32} (C0 : lw_At p s m meth c b 4 xs) (dC : Nat → ClassId) (dI : Nat → Nat → Nat) (tE : Nat) (h0 fq sq gq nq tq zq wq dq pq mq rq sbq vq oq : Nat) (ci cv co : ClassId) (hT : tK tE (fun q : Nat => s.heap.size ≤ q) s s.heap) (hK : va_K (dC, dI) vwCl [(ci, .int), (cv, .byte), (co, .long)] s) {H : Heap} {locs : List Loc} (hP : va_P (dC, dI) vwCl [(h0, .inr (10, [.ref fq, .ref sq, .ref gq, .ref nq, .ref dq, .ref pq, .int 0, .int 0, .int 0])), (fq, .inr (4, [.int 0, .ref tE, .int 0])), (sq, .inr (4, [.int 0, .ref tE, .int 0])), (gq, .inr (4, [.int 0, .ref tE, .int 0])), (nq, .inr (8, [.int 0, .ref tq, .ref zq, .ref wq])), (mq, .inr (11, [.int 0, .int 0, .int 0, .int 0, .ref rq, .ref sbq])), (rq, .inl (ci, 119, .inl (fun _ => 0))), (sbq, .inr (1, [.ref vq, .int 0, .int 0, .int 0])), (vq, .inl (cv, 16, .inl (fun _ => 0))), (oq, .inl (co, 1, .inr (.inl (fun _ => 0))))] H) (hD : va_D (fun q : Nat => s.heap.size ≤ q) [(h0, .inr (10, [.ref fq, .ref sq, .ref gq, .ref nq, .ref dq, .ref pq, .int 0, .int 0, .int 0])), (fq, .inr (4, [.int 0, .ref tE, .int 0])), (sq, .inr (4, [.int 0, .ref tE, .int 0])), (gq, .inr (4, [.int 0, .ref tE, .int 0])), (nq, .inr (8, [.int 0, .ref tq, .ref zq, .ref wq])), (mq, .inr (11, [.int 0, .int 0, .int 0, .int 0, .ref rq, .ref sbq])), (rq, .inl (ci, 119, .inl (fun _ => 0))), (sbq, .inr (1, [.ref vq, .int 0, .int 0, .int 0])), (vq, .inl (cv, 16, .inl (fun _ => 0))), (oq, .inl (co, 1, .inr (.inl (fun _ => 0))))]) (hS : va_S (fun q : Nat => s.heap.size ≤ q) s.heap H locs) (ls : Array Slot) (hl : lv_has ls 9 [(4, .int 0), (3, .ref oq), (2, .ref mq), (1, .ref h0), (0, .ref b)]) : W p l e room_1 s m #[Value.ref b] below meth c H locs 50 856 (lw_Z below #[Value.ref b] s) (F0 m 1248 ls []) := by
  obtain ⟨hx, hb, hr, hml, hown, hts, hX, hbl, hlocks, hgv⟩ := id C0
  have hts := law_hts hts
  have hA : ∀ q : Nat, s.heap.size ≤ q → (fun q : Nat => s.heap.size ≤ q) q := fun _ h => h
  have hbA : ¬ (fun q : Nat => s.heap.size ≤ q) b := Nat.not_le.mpr hbl
  refine lv_aload_n hx hb dL_law_1248 rfl (lv_at hl 3 rfl) ?_
  have hPc := hP.sub (ws' := [(h0, .inr (10, [.ref fq, .ref sq, .ref gq, .ref nq, .ref dq, .ref pq, .int 0, .int 0, .int 0])), (gq, .inr (4, [.int 0, .ref tE, .int 0]))]) [0, 3] rfl
  have hDc := hD.sub (ws' := [(h0, .inr (10, [.ref fq, .ref sq, .ref gq, .ref nq, .ref dq, .ref pq, .int 0, .int 0, .int 0])), (gq, .inr (4, [.int 0, .ref tE, .int 0]))]) [0, 3] (by decide) rfl
  have hKc := hK.sub (tys' := []) [] rfl
  have hFc := va_free (wc := [(h0, .inr (10, [.ref fq, .ref sq, .ref gq, .ref nq, .ref dq, .ref pq, .int 0, .int 0, .int 0])), (gq, .inr (4, [.int 0, .ref tE, .int 0]))]) hD hS hA [0, 3] rfl
  refine va_calld (va_runV (As := []) (rest := []) ⟨hx, hb, hml, hown, hts⟩ (c_home l hl9 dC dI tE h0 fq sq gq nq dq pq 0 0 0 0 _ ) (cwV 0 hts (goodIn_app (goodIn_r _ [397, 398, 399, 49] (by rfl) (by decide +kernel)) gg_law_c_home) rfl rfl rfl (by decide +kernel) ⟨Nat.le_of_ble_eq_true rfl, Nat.le_of_ble_eq_true rfl⟩) ⟨Pre0.blind, va_recv hKc hPc (ci := 10) (q0 := 0) rfl rfl, Pre0.give hPc hKc hDc hT hS hFc⟩ rfl rfl hl.1 rfl (lv_room (Nat.le_of_ble_eq_true rfl)) dL_law_1249 ⟨Nat.le_of_ble_eq_true rfl, Nat.le_of_ble_eq_true rfl⟩) hS (fun q _ h => hFc q h) hFc (fun r_1 u t H1 locs ht hvm hw hB hz1 hk1 hS => ?_)
  obtain ⟨hP1, hK1, hD1⟩ := hB
  rw [ht] at hP1
  have hK1 := va_K.moved hvm.symm hK1
  obtain ⟨hP, hD⟩ := va_join (wr := [(fq, .inr (4, [.int 0, .ref tE, .int 0])), (sq, .inr (4, [.int 0, .ref tE, .int 0])), (nq, .inr (8, [.int 0, .ref tq, .ref zq, .ref wq])), (mq, .inr (11, [.int 0, .int 0, .int 0, .int 0, .ref rq, .ref sbq])), (rq, .inl (ci, 119, .inl (fun _ => 0))), (sbq, .inr (1, [.ref vq, .int 0, .int 0, .int 0])), (vq, .inl (cv, 16, .inl (fun _ => 0))), (oq, .inl (co, 1, .inr (.inl (fun _ => 0))))]) (w1 := [(h0, .inr (10, [.ref fq, .ref sq, .ref gq, .ref nq, .ref dq, .ref pq, .int 0, .int 0, .int 0])), (gq, .inr (4, [.int 0, .ref tE, .int 0]))]) hP hD [0, 3] [1, 2, 4, 5, 6, 7, 8, 9] rfl rfl (by decide) (by decide) hk1 hFc hP1 hD1
  generalize H1 = H at hP hS ⊢
  have hP : va_P (dC, dI) vwCl [(fq, .inr (4, [.int 0, .ref tE, .int 0])), (sq, .inr (4, [.int 0, .ref tE, .int 0])), (nq, .inr (8, [.int 0, .ref tq, .ref zq, .ref wq])), (mq, .inr (11, [.int 0, .int 0, .int 0, .int 0, .ref rq, .ref sbq])), (rq, .inl (ci, 119, .inl (fun _ => 0))), (sbq, .inr (1, [.ref vq, .int 0, .int 0, .int 0])), (vq, .inl (cv, 16, .inl (fun _ => 0))), (oq, .inl (co, 1, .inr (.inl (fun _ => 0)))), (h0, .inr (10, [.ref fq, .ref sq, .ref gq, .ref nq, .ref dq, .ref pq, .int 0, .int 0, .int 0])), (gq, .inr (4, [.int 0, .ref tE, .int 0]))] H := hP
  have hD : va_D (fun q : Nat => s.heap.size ≤ q) [(fq, .inr (4, [.int 0, .ref tE, .int 0])), (sq, .inr (4, [.int 0, .ref tE, .int 0])), (nq, .inr (8, [.int 0, .ref tq, .ref zq, .ref wq])), (mq, .inr (11, [.int 0, .int 0, .int 0, .int 0, .ref rq, .ref sbq])), (rq, .inl (ci, 119, .inl (fun _ => 0))), (sbq, .inr (1, [.ref vq, .int 0, .int 0, .int 0])), (vq, .inl (cv, 16, .inl (fun _ => 0))), (oq, .inl (co, 1, .inr (.inl (fun _ => 0)))), (h0, .inr (10, [.ref fq, .ref sq, .ref gq, .ref nq, .ref dq, .ref pq, .int 0, .int 0, .int 0])), (gq, .inr (4, [.int 0, .ref tE, .int 0]))] := hD
  refine W.widen (k := 50) (n := 856) (by omega) (by omega) ?_
  obtain rfl : r_1 = FP.dconst1 := hw
  refine lv_dstore (lv' := [(5, .double FP.dconst1), (4, .int 0), (3, .ref oq), (2, .ref mq), (1, .ref h0), (0, .ref b)]) hx hb dL_law_1252 hl (by decide) rfl (fun ls hl => ?_)
  refine lv_aload_n hx hb dL_law_1254 rfl (lv_at hl 3 rfl) ?_
  have hPc := hP.sub (ws' := [(mq, .inr (11, [.int 0, .int 0, .int 0, .int 0, .ref rq, .ref sbq]))]) [3] rfl
  have hDc := hD.sub (ws' := [(mq, .inr (11, [.int 0, .int 0, .int 0, .int 0, .ref rq, .ref sbq]))]) [3] (by decide) rfl
  have hKc := hK.sub (tys' := []) [] rfl
  have hFc := va_free (wc := [(mq, .inr (11, [.int 0, .int 0, .int 0, .int 0, .ref rq, .ref sbq]))]) hD hS hA [3] rfl
  refine va_calld (va_runV (As := []) (rest := []) ⟨hx, hb, hml, hown, hts⟩ (c_M_home l hl9 dC dI tE mq rq sbq 0 _ ) (cwV 0 hts (goodIn_app (goodIn_r _ [401, 402, 403, 58] (by rfl) (by decide +kernel)) gg_law_c_M_home) rfl rfl rfl (by decide +kernel) ⟨Nat.le_of_ble_eq_true rfl, Nat.le_of_ble_eq_true rfl⟩) ⟨Pre0.blind, va_recv hKc hPc (ci := 11) (q0 := 0) rfl rfl, Pre0.give hPc hKc hDc hT hS hFc⟩ rfl rfl hl.1 rfl (lv_room (Nat.le_of_ble_eq_true rfl)) dL_law_1255 ⟨Nat.le_of_ble_eq_true rfl, Nat.le_of_ble_eq_true rfl⟩) hS (fun q _ h => hFc q h) hFc (fun r_2 u t H1 locs ht hvm hw hB hz1 hk1 hS => ?_)
  obtain ⟨hP1, hK1, hD1⟩ := hB
  rw [ht] at hP1
  have hK1 := va_K.moved hvm.symm hK1
  obtain ⟨hP, hD⟩ := va_join (wr := [(fq, .inr (4, [.int 0, .ref tE, .int 0])), (sq, .inr (4, [.int 0, .ref tE, .int 0])), (nq, .inr (8, [.int 0, .ref tq, .ref zq, .ref wq])), (rq, .inl (ci, 119, .inl (fun _ => 0))), (sbq, .inr (1, [.ref vq, .int 0, .int 0, .int 0])), (vq, .inl (cv, 16, .inl (fun _ => 0))), (oq, .inl (co, 1, .inr (.inl (fun _ => 0)))), (h0, .inr (10, [.ref fq, .ref sq, .ref gq, .ref nq, .ref dq, .ref pq, .int 0, .int 0, .int 0])), (gq, .inr (4, [.int 0, .ref tE, .int 0]))]) (w1 := [(mq, .inr (11, [.int 0, .int 0, .int 0, .int 0, .ref rq, .ref sbq]))]) hP hD [3] [0, 1, 2, 4, 5, 6, 7, 8, 9] rfl rfl (by decide) (by decide) hk1 hFc hP1 hD1
  generalize H1 = H at hP hS ⊢
  have hP : va_P (dC, dI) vwCl [(fq, .inr (4, [.int 0, .ref tE, .int 0])), (sq, .inr (4, [.int 0, .ref tE, .int 0])), (nq, .inr (8, [.int 0, .ref tq, .ref zq, .ref wq])), (rq, .inl (ci, 119, .inl (fun _ => 0))), (sbq, .inr (1, [.ref vq, .int 0, .int 0, .int 0])), (vq, .inl (cv, 16, .inl (fun _ => 0))), (oq, .inl (co, 1, .inr (.inl (fun _ => 0)))), (h0, .inr (10, [.ref fq, .ref sq, .ref gq, .ref nq, .ref dq, .ref pq, .int 0, .int 0, .int 0])), (gq, .inr (4, [.int 0, .ref tE, .int 0])), (mq, .inr (11, [.int 0, .int 0, .int 0, .int 0, .ref rq, .ref sbq]))] H := hP
  have hD : va_D (fun q : Nat => s.heap.size ≤ q) [(fq, .inr (4, [.int 0, .ref tE, .int 0])), (sq, .inr (4, [.int 0, .ref tE, .int 0])), (nq, .inr (8, [.int 0, .ref tq, .ref zq, .ref wq])), (rq, .inl (ci, 119, .inl (fun _ => 0))), (sbq, .inr (1, [.ref vq, .int 0, .int 0, .int 0])), (vq, .inl (cv, 16, .inl (fun _ => 0))), (oq, .inl (co, 1, .inr (.inl (fun _ => 0)))), (h0, .inr (10, [.ref fq, .ref sq, .ref gq, .ref nq, .ref dq, .ref pq, .int 0, .int 0, .int 0])), (gq, .inr (4, [.int 0, .ref tE, .int 0])), (mq, .inr (11, [.int 0, .int 0, .int 0, .int 0, .ref rq, .ref sbq]))] := hD
  refine W.widen (k := 50) (n := 856) (by omega) (by omega) ?_
  obtain rfl : r_2 = FP.dconst1 := hw
  refine lv_dstore (lv' := [(7, .double FP.dconst1), (5, .double FP.dconst1), (4, .int 0), (3, .ref oq), (2, .ref mq), (1, .ref h0), (0, .ref b)]) hx hb dL_law_1258 hl (by decide) rfl (fun ls hl => ?_)
  refine lv_dload hx hb dL_law_1260 (lv_at hl 1 rfl) ?_
  refine lv_dload hx hb dL_law_1262 (lv_at hl 0 rfl) ?_
  refine lv_dcmp hx hb dL_law_1264 ?_
  refine lv_topi (fun x_3 e_4 => ?_)
  obtain rfl : x_3 = 0 := e_4.trans (by decide +kernel)
  refine lv_if_eq (tgt := 1286) hx hb dL_law_1265 (by decide) (fun _ => ?_) (fun c_5 => absurd (by decide) c_5)
  refine lv_goto (tgt := 1303) hx hb dL_law_1286 (by decide) ?_
  exact law_next l C0 (by omega) (by omega) hS ls (lv_sub hl [2, 6] rfl)
set_option maxHeartbeats 4000000 in
set_option maxRecDepth 100000 in
theorem law_digest {p : Program} {e : Env} {s : State} {m : MethodId} {below : List Frame} {meth : Method} {c : Code} (l : Launch) (hl9 : l.stackTraces = false) {b : Nat} {xs : Nat → Int32} (C0 : lw_At p s m meth c b 4 xs) (dC : Nat → ClassId) (dI : Nat → Nat → Nat) (tE : Nat) (h0 fq sq gq nq tq zq wq dq pq mq rq sbq vq oq : Nat) (ci cv co : ClassId) (hT : tK tE (fun q : Nat => s.heap.size ≤ q) s s.heap) (hK : va_K (dC, dI) vwCl [(ci, .int), (cv, .byte), (co, .long)] s) {H : Heap} {locs : List Loc} (hP : va_P (dC, dI) vwCl [(h0, .inr (10, [.ref fq, .ref sq, .ref gq, .ref nq, .ref dq, .ref pq, .int 0, .int 0, .int 0])), (fq, .inr (4, [.int 0, .ref tE, .int 0])), (sq, .inr (4, [.int 0, .ref tE, .int 0])), (gq, .inr (4, [.int 0, .ref tE, .int 0])), (nq, .inr (8, [.int 0, .ref tq, .ref zq, .ref wq])), (mq, .inr (11, [.int 0, .int 0, .int 0, .int 0, .ref rq, .ref sbq])), (rq, .inl (ci, 119, .inl (fun _ => 0))), (sbq, .inr (1, [.ref vq, .int 0, .int 0, .int 0])), (vq, .inl (cv, 16, .inl (fun _ => 0))), (oq, .inl (co, 1, .inr (.inl (fun _ => 0))))] H) (hD : va_D (fun q : Nat => s.heap.size ≤ q) [(h0, .inr (10, [.ref fq, .ref sq, .ref gq, .ref nq, .ref dq, .ref pq, .int 0, .int 0, .int 0])), (fq, .inr (4, [.int 0, .ref tE, .int 0])), (sq, .inr (4, [.int 0, .ref tE, .int 0])), (gq, .inr (4, [.int 0, .ref tE, .int 0])), (nq, .inr (8, [.int 0, .ref tq, .ref zq, .ref wq])), (mq, .inr (11, [.int 0, .int 0, .int 0, .int 0, .ref rq, .ref sbq])), (rq, .inl (ci, 119, .inl (fun _ => 0))), (sbq, .inr (1, [.ref vq, .int 0, .int 0, .int 0])), (vq, .inl (cv, 16, .inl (fun _ => 0))), (oq, .inl (co, 1, .inr (.inl (fun _ => 0))))]) (hS : va_S (fun q : Nat => s.heap.size ≤ q) s.heap H locs) (ls : Array Slot) (hl : lv_has ls 9 [(4, .int 0), (3, .ref oq), (2, .ref mq), (1, .ref h0), (0, .ref b)]) : W p l e room_1 s m #[Value.ref b] below meth c H locs 50 856 (lw_Z below #[Value.ref b] s) (F0 m 1289 ls []) := by
  obtain ⟨hx, hb, hr, hml, hown, hts, hX, hbl, hlocks, hgv⟩ := id C0
  have hts := law_hts hts
  have hA : ∀ q : Nat, s.heap.size ≤ q → (fun q : Nat => s.heap.size ≤ q) q := fun _ h => h
  have hbA : ¬ (fun q : Nat => s.heap.size ≤ q) b := Nat.not_le.mpr hbl
  refine lv_aload_n hx hb dL_law_1289 rfl (lv_at hl 3 rfl) ?_
  have hPc := hP.sub (ws' := [(h0, .inr (10, [.ref fq, .ref sq, .ref gq, .ref nq, .ref dq, .ref pq, .int 0, .int 0, .int 0])), (fq, .inr (4, [.int 0, .ref tE, .int 0])), (sq, .inr (4, [.int 0, .ref tE, .int 0])), (gq, .inr (4, [.int 0, .ref tE, .int 0]))]) [0, 1, 2, 3] rfl
  have hDc := hD.sub (ws' := [(h0, .inr (10, [.ref fq, .ref sq, .ref gq, .ref nq, .ref dq, .ref pq, .int 0, .int 0, .int 0])), (fq, .inr (4, [.int 0, .ref tE, .int 0])), (sq, .inr (4, [.int 0, .ref tE, .int 0])), (gq, .inr (4, [.int 0, .ref tE, .int 0]))]) [0, 1, 2, 3] (by decide) rfl
  have hKc := hK.sub (tys' := []) [] rfl
  have hFc := va_free (wc := [(h0, .inr (10, [.ref fq, .ref sq, .ref gq, .ref nq, .ref dq, .ref pq, .int 0, .int 0, .int 0])), (fq, .inr (4, [.int 0, .ref tE, .int 0])), (sq, .inr (4, [.int 0, .ref tE, .int 0])), (gq, .inr (4, [.int 0, .ref tE, .int 0]))]) hD hS hA [0, 1, 2, 3] rfl
  refine va_calll (va_runV (As := []) (rest := []) ⟨hx, hb, hml, hown, hts⟩ (c_digest l hl9 dC dI tE h0 fq sq gq nq dq pq 0 0 0 _ ) (cwV 0 hts (goodIn_app (goodIn_r _ [408, 409, 410, 49] (by rfl) (by decide +kernel)) gg_law_c_digest) rfl rfl rfl (by decide +kernel) ⟨Nat.le_of_ble_eq_true rfl, Nat.le_of_ble_eq_true rfl⟩) ⟨Pre0.blind, va_recv hKc hPc (ci := 10) (q0 := 0) rfl rfl, Pre0.give hPc hKc hDc hT hS hFc⟩ rfl rfl hl.1 rfl (lv_room (Nat.le_of_ble_eq_true rfl)) dL_law_1290 ⟨Nat.le_of_ble_eq_true rfl, Nat.le_of_ble_eq_true rfl⟩) hS (fun q _ h => hFc q h) hFc (fun r_1 u t H1 locs ht hvm hw hB hz1 hk1 hS => ?_)
  obtain ⟨hP1, hK1, hD1⟩ := hB
  rw [ht] at hP1
  have hK1 := va_K.moved hvm.symm hK1
  obtain ⟨hP, hD⟩ := va_join (wr := [(nq, .inr (8, [.int 0, .ref tq, .ref zq, .ref wq])), (mq, .inr (11, [.int 0, .int 0, .int 0, .int 0, .ref rq, .ref sbq])), (rq, .inl (ci, 119, .inl (fun _ => 0))), (sbq, .inr (1, [.ref vq, .int 0, .int 0, .int 0])), (vq, .inl (cv, 16, .inl (fun _ => 0))), (oq, .inl (co, 1, .inr (.inl (fun _ => 0))))]) (w1 := [(h0, .inr (10, [.ref fq, .ref sq, .ref gq, .ref nq, .ref dq, .ref pq, .int 0, .int 0, .int 0])), (fq, .inr (4, [.int 0, .ref tE, .int 0])), (sq, .inr (4, [.int 0, .ref tE, .int 0])), (gq, .inr (4, [.int 0, .ref tE, .int 0]))]) hP hD [0, 1, 2, 3] [4, 5, 6, 7, 8, 9] rfl rfl (by decide) (by decide) hk1 hFc hP1 hD1
  generalize H1 = H at hP hS ⊢
  have hP : va_P (dC, dI) vwCl [(nq, .inr (8, [.int 0, .ref tq, .ref zq, .ref wq])), (mq, .inr (11, [.int 0, .int 0, .int 0, .int 0, .ref rq, .ref sbq])), (rq, .inl (ci, 119, .inl (fun _ => 0))), (sbq, .inr (1, [.ref vq, .int 0, .int 0, .int 0])), (vq, .inl (cv, 16, .inl (fun _ => 0))), (oq, .inl (co, 1, .inr (.inl (fun _ => 0)))), (h0, .inr (10, [.ref fq, .ref sq, .ref gq, .ref nq, .ref dq, .ref pq, .int 0, .int 0, .int 0])), (fq, .inr (4, [.int 0, .ref tE, .int 0])), (sq, .inr (4, [.int 0, .ref tE, .int 0])), (gq, .inr (4, [.int 0, .ref tE, .int 0]))] H := hP
  have hD : va_D (fun q : Nat => s.heap.size ≤ q) [(nq, .inr (8, [.int 0, .ref tq, .ref zq, .ref wq])), (mq, .inr (11, [.int 0, .int 0, .int 0, .int 0, .ref rq, .ref sbq])), (rq, .inl (ci, 119, .inl (fun _ => 0))), (sbq, .inr (1, [.ref vq, .int 0, .int 0, .int 0])), (vq, .inl (cv, 16, .inl (fun _ => 0))), (oq, .inl (co, 1, .inr (.inl (fun _ => 0)))), (h0, .inr (10, [.ref fq, .ref sq, .ref gq, .ref nq, .ref dq, .ref pq, .int 0, .int 0, .int 0])), (fq, .inr (4, [.int 0, .ref tE, .int 0])), (sq, .inr (4, [.int 0, .ref tE, .int 0])), (gq, .inr (4, [.int 0, .ref tE, .int 0]))] := hD
  refine W.widen (k := 50) (n := 856) (by omega) (by omega) ?_
  obtain rfl : r_1 = (((((((541 * 31 + 0) * 31 + 0) * 31 + 0) * 31 + 0) * 31 + 0) * 31 + 0) * 31 + 0) * 31 + 0 := hw
  refine lv_aload_n hx hb dL_law_1293 rfl (lv_at hl 2 rfl) ?_
  have hPc := hP.sub (ws' := [(mq, .inr (11, [.int 0, .int 0, .int 0, .int 0, .ref rq, .ref sbq])), (rq, .inl (ci, 119, .inl (fun _ => 0))), (sbq, .inr (1, [.ref vq, .int 0, .int 0, .int 0]))]) [1, 2, 3] rfl
  have hDc := hD.sub (ws' := [(mq, .inr (11, [.int 0, .int 0, .int 0, .int 0, .ref rq, .ref sbq])), (rq, .inl (ci, 119, .inl (fun _ => 0))), (sbq, .inr (1, [.ref vq, .int 0, .int 0, .int 0]))]) [1, 2, 3] (by decide) rfl
  have hKc := hK.sub (tys' := [(ci, .int)]) [0] rfl
  have hFc := va_free (wc := [(mq, .inr (11, [.int 0, .int 0, .int 0, .int 0, .ref rq, .ref sbq])), (rq, .inl (ci, 119, .inl (fun _ => 0))), (sbq, .inr (1, [.ref vq, .int 0, .int 0, .int 0]))]) hD hS hA [1, 2, 3] rfl
  refine va_calll (va_runV (As := []) (rest := [.long ((((((((541 * 31 + 0) * 31 + 0) * 31 + 0) * 31 + 0) * 31 + 0) * 31 + 0) * 31 + 0) * 31 + 0)]) ⟨hx, hb, hml, hown, hts⟩ (c_M_digest l hl9 dC dI tE mq rq sbq 0 ci vq _ ) (cwV 0 hts (goodIn_app (goodIn_r _ [414, 415, 416, 58] (by rfl) (by decide +kernel)) gg_law_c_M_digest) rfl rfl rfl (by decide +kernel) ⟨Nat.le_of_ble_eq_true rfl, Nat.le_of_ble_eq_true rfl⟩) ⟨Pre0.blind, va_recv hKc hPc (ci := 11) (q0 := 0) rfl rfl, Pre0.give hPc hKc hDc hT hS hFc⟩ rfl rfl hl.1 rfl (lv_room (Nat.le_of_ble_eq_true rfl)) dL_law_1294 ⟨Nat.le_of_ble_eq_true rfl, Nat.le_of_ble_eq_true rfl⟩) hS (fun q _ h => hFc q h) hFc (fun r_2 u t H1 locs ht hvm hw hB hz1 hk1 hS => ?_)
  obtain ⟨hP1, hK1, hD1⟩ := hB
  rw [ht] at hP1
  have hK1 := va_K.moved hvm.symm hK1
  obtain ⟨hP, hD⟩ := va_join (wr := [(nq, .inr (8, [.int 0, .ref tq, .ref zq, .ref wq])), (vq, .inl (cv, 16, .inl (fun _ => 0))), (oq, .inl (co, 1, .inr (.inl (fun _ => 0)))), (h0, .inr (10, [.ref fq, .ref sq, .ref gq, .ref nq, .ref dq, .ref pq, .int 0, .int 0, .int 0])), (fq, .inr (4, [.int 0, .ref tE, .int 0])), (sq, .inr (4, [.int 0, .ref tE, .int 0])), (gq, .inr (4, [.int 0, .ref tE, .int 0]))]) (w1 := [(rq, .inl (ci, 119, .inl (fun _ => 0))), (mq, .inr (11, [.int 0, .int 0, .int 0, .int 0, .ref rq, .ref sbq])), (sbq, .inr (1, [.ref vq, .int 0, .int 0, .int 0]))]) hP hD [1, 2, 3] [0, 4, 5, 6, 7, 8, 9] rfl rfl (by decide) (by decide) hk1 hFc hP1 hD1
  generalize H1 = H at hP hS ⊢
  have hP : va_P (dC, dI) vwCl [(nq, .inr (8, [.int 0, .ref tq, .ref zq, .ref wq])), (vq, .inl (cv, 16, .inl (fun _ => 0))), (oq, .inl (co, 1, .inr (.inl (fun _ => 0)))), (h0, .inr (10, [.ref fq, .ref sq, .ref gq, .ref nq, .ref dq, .ref pq, .int 0, .int 0, .int 0])), (fq, .inr (4, [.int 0, .ref tE, .int 0])), (sq, .inr (4, [.int 0, .ref tE, .int 0])), (gq, .inr (4, [.int 0, .ref tE, .int 0])), (rq, .inl (ci, 119, .inl (fun _ => 0))), (mq, .inr (11, [.int 0, .int 0, .int 0, .int 0, .ref rq, .ref sbq])), (sbq, .inr (1, [.ref vq, .int 0, .int 0, .int 0]))] H := hP
  have hD : va_D (fun q : Nat => s.heap.size ≤ q) [(nq, .inr (8, [.int 0, .ref tq, .ref zq, .ref wq])), (vq, .inl (cv, 16, .inl (fun _ => 0))), (oq, .inl (co, 1, .inr (.inl (fun _ => 0)))), (h0, .inr (10, [.ref fq, .ref sq, .ref gq, .ref nq, .ref dq, .ref pq, .int 0, .int 0, .int 0])), (fq, .inr (4, [.int 0, .ref tE, .int 0])), (sq, .inr (4, [.int 0, .ref tE, .int 0])), (gq, .inr (4, [.int 0, .ref tE, .int 0])), (rq, .inl (ci, 119, .inl (fun _ => 0))), (mq, .inr (11, [.int 0, .int 0, .int 0, .int 0, .ref rq, .ref sbq])), (sbq, .inr (1, [.ref vq, .int 0, .int 0, .int 0]))] := hD
  refine W.widen (k := 50) (n := 856) (by omega) (by omega) ?_
  obtain rfl : r_2 = (((((((541 * 31 + 0) * 31 + 0) * 31 + 0) * 31 + 0) * 31 + 0) * 31 + 0) * 31 + 0) * 31 + 0 := hw
  refine W.lcmp hx hb dL_law_1297 ?_
  refine lv_topi (fun x_3 e_4 => ?_)
  obtain rfl : x_3 = 0 := e_4.trans (cmp_self _)
  refine lv_if_eq (tgt := 1303) hx hb dL_law_1298 (by decide) (fun _ => ?_) (fun c_5 => absurd (by decide) c_5)
  exact law_next l C0 (by omega) (by omega) hS ls (lv_sub hl [0, 4] rfl)
set_option maxHeartbeats 4000000 in
set_option maxRecDepth 100000 in
theorem law_turn {p : Program} {e : Env} {s : State} {m : MethodId} {below : List Frame} {meth : Method} {c : Code} (l : Launch) (hl9 : l.stackTraces = false) {b : Nat} {xs : Nat → Int32} (C0 : lw_At p s m meth c b 4 xs) (dC : Nat → ClassId) (dI : Nat → Nat → Nat) (tE : Nat) (h0 fq sq gq nq tq zq wq dq pq mq rq sbq vq oq : Nat) (ci cv co : ClassId) (hT : tK tE (fun q : Nat => s.heap.size ≤ q) s s.heap) (hK : va_K (dC, dI) vwCl [(ci, .int), (cv, .byte), (co, .long)] s) {H : Heap} {locs : List Loc} (hP : va_P (dC, dI) vwCl [(h0, .inr (10, [.ref fq, .ref sq, .ref gq, .ref nq, .ref dq, .ref pq, .int 0, .int 0, .int 0])), (fq, .inr (4, [.int 0, .ref tE, .int 0])), (sq, .inr (4, [.int 0, .ref tE, .int 0])), (gq, .inr (4, [.int 0, .ref tE, .int 0])), (nq, .inr (8, [.int 0, .ref tq, .ref zq, .ref wq])), (mq, .inr (11, [.int 0, .int 0, .int 0, .int 0, .ref rq, .ref sbq])), (rq, .inl (ci, 119, .inl (fun _ => 0))), (sbq, .inr (1, [.ref vq, .int 0, .int 0, .int 0])), (vq, .inl (cv, 16, .inl (fun _ => 0))), (oq, .inl (co, 1, .inr (.inl (fun _ => 0))))] H) (hD : va_D (fun q : Nat => s.heap.size ≤ q) [(h0, .inr (10, [.ref fq, .ref sq, .ref gq, .ref nq, .ref dq, .ref pq, .int 0, .int 0, .int 0])), (fq, .inr (4, [.int 0, .ref tE, .int 0])), (sq, .inr (4, [.int 0, .ref tE, .int 0])), (gq, .inr (4, [.int 0, .ref tE, .int 0])), (nq, .inr (8, [.int 0, .ref tq, .ref zq, .ref wq])), (mq, .inr (11, [.int 0, .int 0, .int 0, .int 0, .ref rq, .ref sbq])), (rq, .inl (ci, 119, .inl (fun _ => 0))), (sbq, .inr (1, [.ref vq, .int 0, .int 0, .int 0])), (vq, .inl (cv, 16, .inl (fun _ => 0))), (oq, .inl (co, 1, .inr (.inl (fun _ => 0))))]) (hS : va_S (fun q : Nat => s.heap.size ≤ q) s.heap H locs) (ls : Array Slot) (hl : lv_has ls 9 [(4, .int 0), (3, .ref oq), (2, .ref mq), (1, .ref h0), (0, .ref b)]) : W p l e room_1 s m #[Value.ref b] below meth c H locs 50 856 (lw_Z below #[Value.ref b] s) (F0 m 23 ls []) := by
  obtain ⟨hx, hb, hr, hml, hown, hts, hX, hbl, hlocks, hgv⟩ := id C0
  have hts := law_hts hts
  have hA : ∀ q : Nat, s.heap.size ≤ q → (fun q : Nat => s.heap.size ≤ q) q := fun _ h => h
  have hbA : ¬ (fun q : Nat => s.heap.size ≤ q) b := Nat.not_le.mpr hbl
  refine lv_iload hx hb dL_law_23 (lv_at hl 0 rfl) ?_
  refine lv_aload_n hx hb dL_law_25 rfl (lv_at hl 4 rfl) ?_
  refine va_slen hx hb hX hbl hbA hS dL_law_26 ?_
  refine lv_topi (fun x_1 e_2 => ?_)
  obtain rfl : x_1 = 4 := e_2
  refine lv_iconst (v := 4) hx hb dL_law_27 (by decide) ?_
  refine lv_isub hx hb dL_law_28 ?_
  refine lv_topi (fun x_3 e_4 => ?_)
  obtain rfl : x_3 = 0 := e_4.trans (by decide)
  refine lv_icmp_gt (tgt := 1309) hx hb dL_law_29 (by decide) (fun c_5 => absurd c_5 (by decide)) (fun _ => ?_)
  refine lv_aload_n hx hb dL_law_32 rfl (lv_at hl 4 rfl) ?_
  refine lv_iload hx hb dL_law_33 (lv_at hl 0 rfl) ?_
  refine va_sld hx hb hX hbl hbA hS (by unfold vp_in; decide) dL_law_35 ?_
  refine lv_topi (fun y0 ey0 => ?_)
  refine lv_bipush (v := 31) hx hb dL_law_36 (by decide) ?_
  refine lv_iand hx hb dL_law_38 ?_
  refine lv_topi (fun x_8 e_9 => ?_)
  obtain rfl : x_8 = (y0 &&& 31) := e_9
  rcases sw32 y0 with hs | hs | hs | hs | hs | hs | hs | hs | hs | hs | hs | hs | hs | hs | hs | hs | hs | hs | hs | hs | ⟨hsa, hsb⟩
  · rw [hs]
    refine lv_tableIn (off := 93) (tgt := 132) hx hb dL_law_39 (by decide) (by decide) rfl (by decide) ?_
    exact law_addFloor l hl9 C0 dC dI tE h0 fq sq gq nq tq zq wq dq pq mq rq sbq vq oq ci cv co hT hK hP hD hS ls (lv_sub hl [0, 1, 2, 3, 4] rfl)
  · rw [hs]
    refine lv_tableIn (off := 149) (tgt := 188) hx hb dL_law_39 (by decide) (by decide) rfl (by decide) ?_
    exact law_setTune l hl9 C0 dC dI tE h0 fq sq gq nq tq zq wq dq pq mq rq sbq vq oq ci cv co hT hK hP hD hS ls (lv_sub hl [0, 1, 2, 3, 4] rfl)
  · rw [hs]
    refine lv_tableIn (off := 229) (tgt := 268) hx hb dL_law_39 (by decide) (by decide) rfl (by decide) ?_
    exact law_addLift l hl9 C0 dC dI tE h0 fq sq gq nq tq zq wq dq pq mq rq sbq vq oq ci cv co hT hK hP hD hS ls (lv_sub hl [0, 1, 2, 3, 4] rfl)
  · rw [hs]
    refine lv_tableIn (off := 273) (tgt := 312) hx hb dL_law_39 (by decide) (by decide) rfl (by decide) ?_
    exact law_setDoor l hl9 C0 dC dI tE h0 fq sq gq nq tq zq wq dq pq mq rq sbq vq oq ci cv co hT hK hP hD hS ls (lv_sub hl [0, 1, 2, 3, 4] rfl)
  · rw [hs]
    refine lv_tableIn (off := 353) (tgt := 392) hx hb dL_law_39 (by decide) (by decide) rfl (by decide) ?_
    exact law_addGuest l hl9 C0 dC dI tE h0 fq sq gq nq tq zq wq dq pq mq rq sbq vq oq ci cv co hT hK hP hD hS ls (lv_sub hl [0, 1, 2, 3, 4] rfl)
  · rw [hs]
    refine lv_tableIn (off := 421) (tgt := 460) hx hb dL_law_39 (by decide) (by decide) rfl (by decide) ?_
    exact law_want l hl9 C0 dC dI tE h0 fq sq gq nq tq zq wq dq pq mq rq sbq vq oq ci cv co hT hK hP hD hS ls (lv_sub hl [0, 1, 2, 3, 4] rfl)
  · rw [hs]
    refine lv_tableIn (off := 508) (tgt := 547) hx hb dL_law_39 (by decide) (by decide) rfl (by decide) ?_
    exact law_floor l hl9 C0 dC dI tE h0 fq sq gq nq tq zq wq dq pq mq rq sbq vq oq ci cv co hT hK hP hD hS ls (lv_sub hl [0, 1, 2, 3, 4] rfl)
  · rw [hs]
    refine lv_tableIn (off := 576) (tgt := 615) hx hb dL_law_39 (by decide) (by decide) rfl (by decide) ?_
    exact law_place l hl9 C0 dC dI tE h0 fq sq gq nq tq zq wq dq pq mq rq sbq vq oq ci cv co hT hK hP hD hS ls (lv_sub hl [0, 1, 2, 3, 4] rfl)
  · rw [hs]
    refine lv_tableIn (off := 644) (tgt := 683) hx hb dL_law_39 (by decide) (by decide) rfl (by decide) ?_
    exact law_lift l hl9 C0 dC dI tE h0 fq sq gq nq tq zq wq dq pq mq rq sbq vq oq ci cv co hT hK hP hD hS ls (lv_sub hl [0, 1, 2, 3, 4] rfl)
  · rw [hs]
    refine lv_tableIn (off := 712) (tgt := 751) hx hb dL_law_39 (by decide) (by decide) rfl (by decide) ?_
    exact law_guest l hl9 C0 dC dI tE h0 fq sq gq nq tq zq wq dq pq mq rq sbq vq oq ci cv co hT hK hP hD hS ls (lv_sub hl [0, 1, 2, 3, 4] rfl)
  · rw [hs]
    refine lv_tableIn (off := 780) (tgt := 819) hx hb dL_law_39 (by decide) (by decide) rfl (by decide) ?_
    exact law_count l hl9 C0 dC dI tE h0 fq sq gq nq tq zq wq dq pq mq rq sbq vq oq ci cv co hT hK hP hD hS ls (lv_sub hl [0, 1, 2, 3, 4] rfl)
  · rw [hs]
    refine lv_tableIn (off := 836) (tgt := 875) hx hb dL_law_39 (by decide) (by decide) rfl (by decide) ?_
    exact law_ring l hl9 C0 dC dI tE h0 fq sq gq nq tq zq wq dq pq mq rq sbq vq oq ci cv co hT hK hP hD hS ls (lv_sub hl [0, 1, 2, 3, 4] rfl)
  · rw [hs]
    refine lv_tableIn (off := 892) (tgt := 931) hx hb dL_law_39 (by decide) (by decide) rfl (by decide) ?_
    exact law_play l hl9 C0 dC dI tE h0 fq sq gq nq tq zq wq dq pq mq rq sbq vq oq ci cv co hT hK hP hD hS ls (lv_sub hl [0, 1, 2, 3, 4] rfl)
  · rw [hs]
    refine lv_tableIn (off := 948) (tgt := 987) hx hb dL_law_39 (by decide) (by decide) rfl (by decide) ?_
    exact law_foresee l hl9 C0 dC dI tE h0 fq sq gq nq tq zq wq dq pq mq rq sbq vq oq ci cv co hT hK hP hD hS ls (lv_sub hl [0, 1, 2, 3, 4] rfl)
  · rw [hs]
    refine lv_tableIn (off := 1016) (tgt := 1055) hx hb dL_law_39 (by decide) (by decide) rfl (by decide) ?_
    exact law_advise l hl9 C0 dC dI tE h0 fq sq gq nq tq zq wq dq pq mq rq sbq vq oq ci cv co hT hK hP hD hS ls (lv_sub hl [0, 1, 2, 3, 4] rfl)
  · rw [hs]
    refine lv_tableIn (off := 1084) (tgt := 1123) hx hb dL_law_39 (by decide) (by decide) rfl (by decide) ?_
    exact law_wouldTurn l hl9 C0 dC dI tE h0 fq sq gq nq tq zq wq dq pq mq rq sbq vq oq ci cv co hT hK hP hD hS ls (lv_sub hl [0, 1, 2, 3, 4] rfl)
  · rw [hs]
    refine lv_tableIn (off := 1140) (tgt := 1179) hx hb dL_law_39 (by decide) (by decide) rfl (by decide) ?_
    exact law_write l hl9 C0 dC dI tE h0 fq sq gq nq tq zq wq dq pq mq rq sbq vq oq ci cv co hT hK hP hD hS ls (lv_sub hl [0, 1, 2, 3, 4] rfl)
  · rw [hs]
    refine lv_tableIn (off := 1153) (tgt := 1192) hx hb dL_law_39 (by decide) (by decide) rfl (by decide) ?_
    exact law_byteAt l hl9 C0 dC dI tE h0 fq sq gq nq tq zq wq dq pq mq rq sbq vq oq ci cv co hT hK hP hD hS ls (lv_sub hl [0, 1, 2, 3, 4] rfl)
  · rw [hs]
    refine lv_tableIn (off := 1209) (tgt := 1248) hx hb dL_law_39 (by decide) (by decide) rfl (by decide) ?_
    exact law_home l hl9 C0 dC dI tE h0 fq sq gq nq tq zq wq dq pq mq rq sbq vq oq ci cv co hT hK hP hD hS ls (lv_sub hl [0, 1, 2, 3, 4] rfl)
  · rw [hs]
    refine lv_tableIn (off := 1250) (tgt := 1289) hx hb dL_law_39 (by decide) (by decide) rfl (by decide) ?_
    exact law_digest l hl9 C0 dC dI tE h0 fq sq gq nq tq zq wq dq pq mq rq sbq vq oq ci cv co hT hK hP hD hS ls (lv_sub hl [0, 1, 2, 3, 4] rfl)
  · refine lv_tableOut (tgt := 1303) hx hb dL_law_39 (Or.inr hsb) (by decide) ?_
    exact law_next l C0 (by omega) (by omega) hS ls (lv_sub hl [0, 4] rfl)
