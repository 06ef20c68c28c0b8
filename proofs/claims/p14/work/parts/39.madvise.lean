theorem dX6_advise_0 : decode cX6_advise 0 = .ok (.aload_n 0, 1) := by decide +kernel
theorem dX6_advise_1 : decode cX6_advise 1 = .ok (.iconst 0, 1) := by decide +kernel
theorem dX6_advise_10 : decode cX6_advise 10 = .ok (.ifCond .ne 9, 3) := by decide +kernel
theorem dX6_advise_102 : decode cX6_advise 102 = .ok (.aload_n 0, 1) := by decide +kernel
theorem dX6_advise_103 : decode cX6_advise 103 = .ok (.iload_n 1, 1) := by decide +kernel
theorem dX6_advise_104 : decode cX6_advise 104 = .ok (.iload 5, 2) := by decide +kernel
theorem dX6_advise_106 : decode cX6_advise 106 = .ok (.invokevirtual 138, 3) := by decide +kernel
theorem dX6_advise_109 : decode cX6_advise 109 = .ok (.iload_n 3, 1) := by decide +kernel
theorem dX6_advise_110 : decode cX6_advise 110 = .ok (.if_icmp .ne 6, 3) := by decide +kernel
theorem dX6_advise_116 : decode cX6_advise 116 = .ok (.iinc 4 1, 3) := by decide +kernel
theorem dX6_advise_119 : decode cX6_advise 119 = .ok (.goto (-65), 3) := by decide +kernel
theorem dX6_advise_122 : decode cX6_advise 122 = .ok (.iinc 3 1, 3) := by decide +kernel
theorem dX6_advise_125 : decode cX6_advise 125 = .ok (.goto (-79), 3) := by decide +kernel
theorem dX6_advise_128 : decode cX6_advise 128 = .ok (.iconst (-1), 1) := by decide +kernel
theorem dX6_advise_129 : decode cX6_advise 129 = .ok (.ireturn, 1) := by decide +kernel
theorem dX6_advise_19 : decode cX6_advise 19 = .ok (.iload_n 2, 1) := by decide +kernel
theorem dX6_advise_2 : decode cX6_advise 2 = .ok (.putfield 20, 3) := by decide +kernel
theorem dX6_advise_20 : decode cX6_advise 20 = .ok (.iconst 1, 1) := by decide +kernel
theorem dX6_advise_21 : decode cX6_advise 21 = .ok (.iconst 5, 1) := by decide +kernel
theorem dX6_advise_22 : decode cX6_advise 22 = .ok (.invokestatic 27, 3) := by decide +kernel
theorem dX6_advise_25 : decode cX6_advise 25 = .ok (.ifCond .ne 9, 3) := by decide +kernel
theorem dX6_advise_34 : decode cX6_advise 34 = .ok (.aload_n 0, 1) := by decide +kernel
theorem dX6_advise_35 : decode cX6_advise 35 = .ok (.iload_n 1, 1) := by decide +kernel
theorem dX6_advise_36 : decode cX6_advise 36 = .ok (.invokevirtual 87, 3) := by decide +kernel
theorem dX6_advise_39 : decode cX6_advise 39 = .ok (.ifCond .eq 5, 3) := by decide +kernel
theorem dX6_advise_44 : decode cX6_advise 44 = .ok (.iconst 1, 1) := by decide +kernel
theorem dX6_advise_45 : decode cX6_advise 45 = .ok (.istore_n 3, 1) := by decide +kernel
theorem dX6_advise_46 : decode cX6_advise 46 = .ok (.iload_n 3, 1) := by decide +kernel
theorem dX6_advise_47 : decode cX6_advise 47 = .ok (.iload_n 2, 1) := by decide +kernel
theorem dX6_advise_48 : decode cX6_advise 48 = .ok (.if_icmp .gt 80, 3) := by decide +kernel
theorem dX6_advise_5 : decode cX6_advise 5 = .ok (.aload_n 0, 1) := by decide +kernel
theorem dX6_advise_51 : decode cX6_advise 51 = .ok (.iconst 0, 1) := by decide +kernel
theorem dX6_advise_52 : decode cX6_advise 52 = .ok (.istore 4, 2) := by decide +kernel
theorem dX6_advise_54 : decode cX6_advise 54 = .ok (.iload 4, 2) := by decide +kernel
theorem dX6_advise_56 : decode cX6_advise 56 = .ok (.iconst 1, 1) := by decide +kernel
theorem dX6_advise_57 : decode cX6_advise 57 = .ok (.iconst 2, 1) := by decide +kernel
theorem dX6_advise_58 : decode cX6_advise 58 = .ok (.iload_n 3, 1) := by decide +kernel
theorem dX6_advise_59 : decode cX6_advise 59 = .ok (.imul, 1) := by decide +kernel
theorem dX6_advise_6 : decode cX6_advise 6 = .ok (.iload_n 1, 1) := by decide +kernel
theorem dX6_advise_60 : decode cX6_advise 60 = .ok (.ishl, 1) := by decide +kernel
theorem dX6_advise_61 : decode cX6_advise 61 = .ok (.if_icmp .ge 61, 3) := by decide +kernel
theorem dX6_advise_64 : decode cX6_advise 64 = .ok (.iconst 0, 1) := by decide +kernel
theorem dX6_advise_65 : decode cX6_advise 65 = .ok (.istore 5, 2) := by decide +kernel
theorem dX6_advise_67 : decode cX6_advise 67 = .ok (.iload_n 3, 1) := by decide +kernel
theorem dX6_advise_68 : decode cX6_advise 68 = .ok (.iconst 1, 1) := by decide +kernel
theorem dX6_advise_69 : decode cX6_advise 69 = .ok (.isub, 1) := by decide +kernel
theorem dX6_advise_7 : decode cX6_advise 7 = .ok (.invokevirtual 81, 3) := by decide +kernel
theorem dX6_advise_70 : decode cX6_advise 70 = .ok (.istore 6, 2) := by decide +kernel
theorem dX6_advise_72 : decode cX6_advise 72 = .ok (.iload 6, 2) := by decide +kernel
theorem dX6_advise_74 : decode cX6_advise 74 = .ok (.ifCond .lt 28, 3) := by decide +kernel
theorem dX6_advise_77 : decode cX6_advise 77 = .ok (.bipush 10, 2) := by decide +kernel
theorem dX6_advise_79 : decode cX6_advise 79 = .ok (.iload 5, 2) := by decide +kernel
theorem dX6_advise_81 : decode cX6_advise 81 = .ok (.imul, 1) := by decide +kernel
theorem dX6_advise_82 : decode cX6_advise 82 = .ok (.iconst 1, 1) := by decide +kernel
theorem dX6_advise_83 : decode cX6_advise 83 = .ok (.iadd, 1) := by decide +kernel
theorem dX6_advise_84 : decode cX6_advise 84 = .ok (.iload 4, 2) := by decide +kernel
theorem dX6_advise_86 : decode cX6_advise 86 = .ok (.iconst 2, 1) := by decide +kernel
theorem dX6_advise_87 : decode cX6_advise 87 = .ok (.iload 6, 2) := by decide +kernel
theorem dX6_advise_89 : decode cX6_advise 89 = .ok (.imul, 1) := by decide +kernel
theorem dX6_advise_90 : decode cX6_advise 90 = .ok (.ishr, 1) := by decide +kernel
theorem dX6_advise_91 : decode cX6_advise 91 = .ok (.iconst 3, 1) := by decide +kernel
theorem dX6_advise_92 : decode cX6_advise 92 = .ok (.iand, 1) := by decide +kernel
theorem dX6_advise_93 : decode cX6_advise 93 = .ok (.iadd, 1) := by decide +kernel
theorem dX6_advise_94 : decode cX6_advise 94 = .ok (.istore 5, 2) := by decide +kernel
theorem dX6_advise_96 : decode cX6_advise 96 = .ok (.iinc 6 (-1), 3) := by decide +kernel
theorem dX6_advise_99 : decode cX6_advise 99 = .ok (.goto (-27), 3) := by decide +kernel
def v_c_Mi_advise : List Cond := .code yX6_advise cX6_advise 7 (some .int) :: ([Cond.code yX6_homeBy cX6_homeBy 7 (some .int), Cond.code yX6_isHome cX6_isHome 2 (some .boolean), Cond.code yX6_gu cX6_gu 3 (some .int), Cond.fieldLink RX6 9 "HotelOfBellsModel" "row" "[I", Cond.methodLink RX6 78 yX6_gu, Cond.instanceMethod yX6_gu, Cond.selects RX6 yX6_gu yX6_gu, Cond.initialized RX6, Cond.methodLink RX6 87 yX6_isHome, Cond.instanceMethod yX6_isHome, Cond.selects RX6 yX6_isHome yX6_isHome, Cond.methodLink RX6 133 ⟨"[I", "clone", "()Ljava/lang/Object;"⟩, Cond.sameMethod "[I" "java/lang/Object" "clone" "()Ljava/lang/Object;", Cond.native ⟨"java/lang/Object", "clone", "()Ljava/lang/Object;"⟩, Cond.instanceMethod ⟨"java/lang/Object", "clone", "()Ljava/lang/Object;"⟩, Cond.selects "[I" ⟨"[I", "clone", "()Ljava/lang/Object;"⟩ ⟨"java/lang/Object", "clone", "()Ljava/lang/Object;"⟩, Cond.classLink RX6 134 "[I", Cond.code yX6_digits cX6_digits 3 (some .int), Cond.code yX6_isIn cX6_isIn 3 (some .boolean), Cond.methodLink RX6 27 yX6_isIn, Cond.static yX6_isIn, Cond.methodLink RX6 53 yX6_digits, Cond.static yX6_digits, Cond.code yX6_power cX6_power 3 (some .int), Cond.methodLink RX6 90 yX6_power, Cond.static yX6_power, Cond.code yX6_ringOne cX6_ringOne 4 (some .int), Cond.fieldLink RX6 34 "HotelOfBellsModel" "guests" "I", Cond.code yX6_setGu cX6_setGu 4 none, Cond.methodLink RX6 84 yX6_setGu, Cond.instanceMethod yX6_setGu, Cond.selects RX6 yX6_setGu yX6_setGu, Cond.fieldLink RX6 24 "HotelOfBellsModel" "floors" "I", Cond.code yX6_begun cX6_begun 4 (some .int), Cond.code yX6_fl cX6_fl 3 (some .int), Cond.methodLink RX6 41 yX6_fl, Cond.instanceMethod yX6_fl, Cond.selects RX6 yX6_fl yX6_fl, Cond.code yX6_latest cX6_latest 2 (some .int), Cond.methodLink RX6 93 yX6_latest, Cond.instanceMethod yX6_latest, Cond.selects RX6 yX6_latest yX6_latest, Cond.methodLink RX6 96 yX6_begun, Cond.instanceMethod yX6_begun, Cond.selects RX6 yX6_begun yX6_begun, Cond.code yX6_setFl cX6_setFl 4 none, Cond.methodLink RX6 49 yX6_setFl, Cond.instanceMethod yX6_setFl, Cond.selects RX6 yX6_setFl yX6_setFl, Cond.fieldLink RX6 31 "HotelOfBellsModel" "lifts" "I", Cond.code yX6_act cX6_act 5 (some .boolean), Cond.methodLink RX6 127 yX6_act, Cond.instanceMethod yX6_act, Cond.selects RX6 yX6_act yX6_act, Cond.methodLink RX6 130 yX6_ringOne, Cond.instanceMethod yX6_ringOne, Cond.selects RX6 yX6_ringOne yX6_ringOne, Cond.methodLink RX6 138 yX6_homeBy, Cond.instanceMethod yX6_homeBy, Cond.selects RX6 yX6_homeBy yX6_homeBy, Cond.fieldLink RX6 20 "HotelOfBellsModel" "thrown" "I", Cond.code yX6_isGuest cX6_isGuest 2 (some .boolean), Cond.methodLink RX6 81 yX6_isGuest, Cond.instanceMethod yX6_isGuest, Cond.selects RX6 yX6_isGuest yX6_isGuest] ++ (wsX60 ++ []))
theorem u_c_Mi_advise_X6 : ∀ w ∈ wsX60, w ∈ v_c_Mi_advise := fun _ h => List.mem_cons_of_mem _ (List.mem_append_right _ (List.mem_append_left _ h))
theorem gg_c_Mi_advise_c_homeBy : GoodIn v_c_Mi_advise v_c_homeBy := goodIn_r _ [1, 2, 3, 4, 5, 6, 7, 8, 9, 10, 11, 12, 13, 14, 15, 16, 17, 18, 19, 20, 21, 22, 23, 24, 25, 26, 27, 28, 29, 30, 31, 32, 33, 34, 35, 36, 37, 38, 39, 40, 41, 42, 43, 44, 45, 46, 47, 48, 49, 50, 51, 52, 53, 54, 55, 56, 57, 66, 67, 68, 69, 70, 71] (by rfl) (by decide +kernel)
theorem gg_c_Mi_advise_c_Mi_isGuest : GoodIn v_c_Mi_advise v_c_Mi_isGuest := goodIn_r _ [62, 28, 19, 20, 21, 8, 66, 67, 68, 69, 70, 71] (by rfl) (by decide +kernel)
theorem gg_c_Mi_advise_c_isIn_4_1_5 : GoodIn v_c_Mi_advise v_c_isIn_4_1_5 := goodIn_r _ [19] (by rfl) (by decide +kernel)
theorem gg_c_Mi_advise_c_isHome : GoodIn v_c_Mi_advise v_c_isHome := goodIn_r _ [2, 3, 4, 5, 6, 7, 8, 66, 67, 68, 69, 70, 71] (by rfl) (by decide +kernel)
set_option maxHeartbeats 4000000 in
set_option maxRecDepth 100000 in
theorem c_Mi_advise (l : Launch) (hl9 : l.stackTraces = false) (dC : Nat → ClassId) (dI : Nat → Nat → Nat) (tE : Nat) (h0 : Nat) (rq : Nat) (sbq : Nat) (th : Int32) (ci : ClassId) (xh : Int32) (xr : Int32) (xt : Int32) (xw : Int32) (sz : Nat) : Met l yX6_advise v_c_Mi_advise ({ frames := 5, cells := 340, slots := 40460, locals := 116 }) (va_Pc [.ref h0, .int 0, .int 4] (Pre0 dC dI tE sz [(ci, .int)] [(h0, .inr (11, [.int th, .int 1, .int 0, .int 1, .ref rq, .ref sbq])), (rq, .inl (ci, 119, .inl (RW xh xr xt xw)))])) (va_Qi (fun (r : Int32) (_ : Unit) => r = (-1)) (fun _ t => ∃ T : List Nat, T.length = 340 ∧ Rw sz T [(h0, .inr (11, [.int 0, .int 1, .int 0, .int 1, .ref rq, .ref sbq])), (rq, .inl (ci, 119, .inl (RW xh xr xt xw)))] t.heap ∧ Pst dC dI [(ci, .int)] (va_A [(h0, .inr (11, [.int th, .int 1, .int 0, .int 1, .ref rq, .ref sbq])), (rq, .inl (ci, 119, .inl (RW xh xr xt xw)))] sz) [(h0, .inr (11, [.int 0, .int 1, .int 0, .int 1, .ref rq, .ref sbq])), (rq, .inl (ci, 119, .inl (RW xh xr xt xw)))] t) (va_A [(h0, .inr (11, [.int th, .int 1, .int 0, .int 1, .ref rq, .ref sbq])), (rq, .inl (ci, 119, .inl (RW xh xr xt xw)))] sz)) 340 40460 (va_A [(h0, .inr (11, [.int th, .int 1, .int 0, .int 1, .ref rq, .ref sbq])), (rq, .inl (ci, 119, .inl (RW xh xr xt xw)))] sz) := by
  refine Met.ofW (cc := cX6_advise) (maxL := 7) (ret := (some .int)) (by decide) rfl ?_
  intro p e s m args below meth c s₁ B hml hv
  obtain ⟨rfl, hsz, hP, hK, hD0, hT⟩ := hv
  have hx := B.exec
  have hb := B.bytes
  have hr := B.returns
  have hts := atoms_spec (ws := v_c_Mi_advise) B.pre
  have hown : s.vm.findClass RX6 = some m.cls := findClass_of_methodNamed B.named
  have hlocks := B.notSynchronized
  subst hsz
  have hD := hD0.self (sz := s.heap.size)
  generalize hAe : va_A [(h0, .inr (11, [.int th, .int 1, .int 0, .int 1, .ref rq, .ref sbq])), (rq, .inl (ci, 119, .inl (RW xh xr xt xw)))] s.heap.size = A at hD hT ⊢
  have hA : ∀ q : Nat, s.heap.size ≤ q → A q := fun q h => by rw [← hAe]; exact Or.inr h
  have hS : va_S A s.heap s.heap [] := va_S.rf
  have hl := lv_entry ([.ref h0, .int 0, .int 4]) (n := 7) (Nat.le_of_ble_eq_true rfl)
  rw [lg_entry_eq]
  generalize (lg_sl ([.ref h0, .int 0, .int 4]) ++ List.replicate (7 - (lg_sl ([.ref h0, .int 0, .int 4])).length) Slot.unset).toArray = ls at hl ⊢
  have hl : lv_has ls 7 [(0, .ref h0), (1, .int 0), (2, .int 4)] := hl
  have X5 : ∀ (H : Heap) (locs : List Loc) (cells slots : Nat) (S : List Nat) (ls : Array Slot), lv_has ls 7 [(3, .int 5), (2, .int 4), (1, .int 0), (0, .ref h0)] → va_P (dC, dI) vwCl [(h0, .inr (11, [.int 0, .int 1, .int 0, .int 1, .ref rq, .ref sbq])), (rq, .inl (ci, 119, .inl (RW xh xr xt xw)))] H → va_D A [(h0, .inr (11, [.int 0, .int 1, .int 0, .int 1, .ref rq, .ref sbq])), (rq, .inl (ci, 119, .inl (RW xh xr xt xw)))] → va_S A s.heap H locs → Rw s.heap.size S [(h0, .inr (11, [.int 0, .int 1, .int 0, .int 1, .ref rq, .ref sbq])), (rq, .inl (ci, 119, .inl (RW xh xr xt xw)))] H → S.length = 340 → cells ≤ S.length → slots ≤ 119 * S.length → W p l e ({ frames := 5, cells := 340, slots := 40460, locals := 116 } : Room) s m ([.ref h0, .int 0, .int 4] : List Value).toArray below meth c H locs cells slots (MQ below (va_Qi (fun (r : Int32) (_ : Unit) => r = (-1)) (fun _ t => ∃ T : List Nat, T.length = 340 ∧ Rw s.heap.size T [(h0, .inr (11, [.int 0, .int 1, .int 0, .int 1, .ref rq, .ref sbq])), (rq, .inl (ci, 119, .inl (RW xh xr xt xw)))] t.heap ∧ Pst dC dI [(ci, .int)] A [(h0, .inr (11, [.int 0, .int 1, .int 0, .int 1, .ref rq, .ref sbq])), (rq, .inl (ci, 119, .inl (RW xh xr xt xw)))] t) A) ([.ref h0, .int 0, .int 4] : List Value).toArray s 340 40460 A) (F0 m 46 ls []) := by
    intro H locs cells slots S ls hl hP hD hS hR hSl hc hs
    refine lv_iload_n hx hb dX6_advise_46 rfl (lv_at hl 0 rfl) ?_
    refine lv_iload_n hx hb dX6_advise_47 rfl (lv_at hl 1 rfl) ?_
    refine lv_icmp_gt (tgt := 128) hx hb dX6_advise_48 (by decide) (fun _ => ?_) (fun c_1 => absurd (by decide) c_1)
    refine lv_iconst (v := (-1)) hx hb dX6_advise_128 (by decide) ?_
    refine W.widen (k := 340) (n := 40460) (by omega) (by omega) ?_
    exact W.iret (v := (-1)) hx hb hr (fun t ht hW => ⟨⟨(-1), (), rfl, rfl, S, hSl, by rw [ht]; exact hR, by rw [ht]; exact hP, va_K.moved hW.alike hK, hD⟩, hS.F ht⟩) hS.2.2 dX6_advise_129
  have X4 : ∀ (H : Heap) (locs : List Loc) (cells slots : Nat) (S : List Nat) (ls : Array Slot), lv_has ls 7 [(3, .int 4), (2, .int 4), (1, .int 0), (0, .ref h0)] → va_P (dC, dI) vwCl [(h0, .inr (11, [.int 0, .int 1, .int 0, .int 1, .ref rq, .ref sbq])), (rq, .inl (ci, 119, .inl (RW xh xr xt xw)))] H → va_D A [(h0, .inr (11, [.int 0, .int 1, .int 0, .int 1, .ref rq, .ref sbq])), (rq, .inl (ci, 119, .inl (RW xh xr xt xw)))] → va_S A s.heap H locs → Rw s.heap.size S [(h0, .inr (11, [.int 0, .int 1, .int 0, .int 1, .ref rq, .ref sbq])), (rq, .inl (ci, 119, .inl (RW xh xr xt xw)))] H → S.length = 84 → cells ≤ S.length → slots ≤ 119 * S.length → W p l e ({ frames := 5, cells := 340, slots := 40460, locals := 116 } : Room) s m ([.ref h0, .int 0, .int 4] : List Value).toArray below meth c H locs cells slots (MQ below (va_Qi (fun (r : Int32) (_ : Unit) => r = (-1)) (fun _ t => ∃ T : List Nat, T.length = 340 ∧ Rw s.heap.size T [(h0, .inr (11, [.int 0, .int 1, .int 0, .int 1, .ref rq, .ref sbq])), (rq, .inl (ci, 119, .inl (RW xh xr xt xw)))] t.heap ∧ Pst dC dI [(ci, .int)] A [(h0, .inr (11, [.int 0, .int 1, .int 0, .int 1, .ref rq, .ref sbq])), (rq, .inl (ci, 119, .inl (RW xh xr xt xw)))] t) A) ([.ref h0, .int 0, .int 4] : List Value).toArray s 340 40460 A) (F0 m 46 ls []) := by
    intro H locs cells slots S ls hl hP hD hS hR hSl hc hs
    refine lv_iload_n hx hb dX6_advise_46 rfl (lv_at hl 0 rfl) ?_
    refine lv_iload_n hx hb dX6_advise_47 rfl (lv_at hl 1 rfl) ?_
    refine lv_icmp_gt (tgt := 128) hx hb dX6_advise_48 (by decide) (fun c_2 => absurd c_2 (by decide)) (fun _ => ?_)
    refine lv_iconst (v := 0) hx hb dX6_advise_51 (by decide) ?_
    refine lv_istore (lv' := [(4, .int 0), (3, .int 4), (2, .int 4), (1, .int 0), (0, .ref h0)]) hx hb dX6_advise_52 hl (by decide) rfl (fun ls hl => ?_)
    suffices loop : ∀ (j : Nat) (H : Heap) (locs : List Loc) (cells slots : Nat) (S : List Nat) (k : Int32) (ls : Array Slot), j ≤ 256 → k = nI (256 - j) → lv_has ls 7 [(4, .int k), (3, .int 4), (2, .int 4), (1, .int 0), (0, .ref h0)] → va_P (dC, dI) vwCl [(h0, .inr (11, [.int 0, .int 1, .int 0, .int 1, .ref rq, .ref sbq])), (rq, .inl (ci, 119, .inl (RW xh xr xt xw)))] H → va_D A [(h0, .inr (11, [.int 0, .int 1, .int 0, .int 1, .ref rq, .ref sbq])), (rq, .inl (ci, 119, .inl (RW xh xr xt xw)))] → va_S A s.heap H locs → Rw s.heap.size S [(h0, .inr (11, [.int 0, .int 1, .int 0, .int 1, .ref rq, .ref sbq])), (rq, .inl (ci, 119, .inl (RW xh xr xt xw)))] H → S.length = 84 + (256 - j) → cells ≤ S.length → slots ≤ 119 * S.length → W p l e ({ frames := 5, cells := 340, slots := 40460, locals := 116 } : Room) s m ([.ref h0, .int 0, .int 4] : List Value).toArray below meth c H locs cells slots (MQ below (va_Qi (fun (r : Int32) (_ : Unit) => r = (-1)) (fun _ t => ∃ T : List Nat, T.length = 340 ∧ Rw s.heap.size T [(h0, .inr (11, [.int 0, .int 1, .int 0, .int 1, .ref rq, .ref sbq])), (rq, .inl (ci, 119, .inl (RW xh xr xt xw)))] t.heap ∧ Pst dC dI [(ci, .int)] A [(h0, .inr (11, [.int 0, .int 1, .int 0, .int 1, .ref rq, .ref sbq])), (rq, .inl (ci, 119, .inl (RW xh xr xt xw)))] t) A) ([.ref h0, .int 0, .int 4] : List Value).toArray s 340 40460 A) (F0 m 54 ls []) from
      loop 256 H locs cells slots S 0 ls (Nat.le_refl _) (by decide) (lv_sub hl [0, 1, 2, 3, 4] rfl) hP hD hS hR (by omega) hc hs
    clear hl hP hD hS hR hSl hc hs
    clear H locs cells slots S
    intro j
    induction j with
    | zero =>
      intro H locs cells slots S k ls hj hk hl hP hD hS hR hSl hc hs
      refine lv_iload hx hb dX6_advise_54 (lv_at hl 0 rfl) ?_
      refine lv_iconst (v := 1) hx hb dX6_advise_56 (by decide) ?_
      refine lv_iconst (v := 2) hx hb dX6_advise_57 (by decide) ?_
      refine lv_iload_n hx hb dX6_advise_58 rfl (lv_at hl 1 rfl) ?_
      refine lv_imul hx hb dX6_advise_59 ?_
      refine lv_topi (fun x_3 e_4 => ?_)
      obtain rfl : x_3 = 8 := e_4.trans (by decide)
      refine lv_ishl hx hb dX6_advise_60 ?_
      refine lv_topi (fun x_5 e_6 => ?_)
      obtain rfl : x_5 = 256 := e_6.trans (by decide)
      refine lv_icmp_ge (tgt := 122) hx hb dX6_advise_61 (by decide) (fun _ => ?_) (fun c_7 => absurd (k_end (N := 256) (by decide) hk) c_7)
      refine lv_iinc (v := 5) (lv' := [(3, .int 5), (4, .int k), (2, .int 4), (1, .int 0), (0, .ref h0)]) hx hb dX6_advise_122 hl (k := 1) rfl (by decide) (by decide) rfl (fun ls hl => ?_)
      refine lv_goto (tgt := 46) hx hb dX6_advise_125 (by decide) ?_
      exact X5 H locs cells slots S ls (lv_sub hl [0, 2, 3, 4] rfl) hP hD hS hR (by omega) hc hs
    | succ j ih =>
      intro H locs cells slots S k ls hj hk hl hP hD hS hR hSl hc hs
      refine lv_iload hx hb dX6_advise_54 (lv_at hl 0 rfl) ?_
      refine lv_iconst (v := 1) hx hb dX6_advise_56 (by decide) ?_
      refine lv_iconst (v := 2) hx hb dX6_advise_57 (by decide) ?_
      refine lv_iload_n hx hb dX6_advise_58 rfl (lv_at hl 1 rfl) ?_
      refine lv_imul hx hb dX6_advise_59 ?_
      refine lv_topi (fun x_8 e_9 => ?_)
      obtain rfl : x_8 = 8 := e_9.trans (by decide)
      refine lv_ishl hx hb dX6_advise_60 ?_
      refine lv_topi (fun x_10 e_11 => ?_)
      obtain rfl : x_10 = 256 := e_11.trans (by decide)
      refine lv_icmp_ge (tgt := 122) hx hb dX6_advise_61 (by decide) (fun c_12 => absurd c_12 (k_lt (N := 256) (by decide) hj hk)) (fun _ => ?_)
      refine lv_iconst (v := 0) hx hb dX6_advise_64 (by decide) ?_
      refine lv_istore (lv' := [(5, .int 0), (4, .int k), (3, .int 4), (2, .int 4), (1, .int 0), (0, .ref h0)]) hx hb dX6_advise_65 hl (by decide) rfl (fun ls hl => ?_)
      refine lv_iload_n hx hb dX6_advise_67 rfl (lv_at hl 2 rfl) ?_
      refine lv_iconst (v := 1) hx hb dX6_advise_68 (by decide) ?_
      refine lv_isub hx hb dX6_advise_69 ?_
      refine lv_topi (fun x_13 e_14 => ?_)
      obtain rfl : x_13 = 3 := e_14.trans (by decide)
      refine lv_istore (lv' := [(6, .int 3), (5, .int 0), (4, .int k), (3, .int 4), (2, .int 4), (1, .int 0), (0, .ref h0)]) hx hb dX6_advise_70 hl (by decide) rfl (fun ls hl => ?_)
      refine lv_iload hx hb dX6_advise_72 (lv_at hl 0 rfl) ?_
      refine lv_if_lt (tgt := 102) hx hb dX6_advise_74 (by decide) (fun c_15 => absurd c_15 (by decide)) (fun _ => ?_)
      refine lv_bipush (v := 10) hx hb dX6_advise_77 (by decide) ?_
      refine lv_iload hx hb dX6_advise_79 (lv_at hl 1 rfl) ?_
      refine lv_imul hx hb dX6_advise_81 ?_
      refine lv_topi (fun x_16 e_17 => ?_)
      obtain rfl : x_16 = 0 := e_17.trans (by decide)
      refine lv_iconst (v := 1) hx hb dX6_advise_82 (by decide) ?_
      refine lv_iadd hx hb dX6_advise_83 ?_
      refine lv_topi (fun x_18 e_19 => ?_)
      obtain rfl : x_18 = 1 := e_19.trans (by decide)
      refine lv_iload hx hb dX6_advise_84 (lv_at hl 2 rfl) ?_
      refine lv_iconst (v := 2) hx hb dX6_advise_86 (by decide) ?_
      refine lv_iload hx hb dX6_advise_87 (lv_at hl 0 rfl) ?_
      refine lv_imul hx hb dX6_advise_89 ?_
      refine lv_topi (fun x_20 e_21 => ?_)
      obtain rfl : x_20 = 6 := e_21.trans (by decide)
      refine lv_ishr hx hb dX6_advise_90 ?_
      refine lv_topi (fun x_22 e_23 => ?_)
      refine lv_iconst (v := 3) hx hb dX6_advise_91 (by decide) ?_
      refine lv_iand hx hb dX6_advise_92 ?_
      refine lv_topi (fun x_24 e_25 => ?_)
      refine lv_iadd hx hb dX6_advise_93 ?_
      refine lv_topi (fun x_26 e_27 => ?_)
      refine lv_istore (lv' := [(5, .int x_26), (6, .int 3), (4, .int k), (3, .int 4), (2, .int 4), (1, .int 0), (0, .ref h0)]) hx hb dX6_advise_94 hl (by decide) rfl (fun ls hl => ?_)
      refine lv_iinc (v := 2) (lv' := [(6, .int 2), (5, .int x_26), (4, .int k), (3, .int 4), (2, .int 4), (1, .int 0), (0, .ref h0)]) hx hb dX6_advise_96 hl (k := 1) rfl (by decide) (by decide) rfl (fun ls hl => ?_)
      refine lv_goto (tgt := 72) hx hb dX6_advise_99 (by decide) ?_
      refine lv_iload hx hb dX6_advise_72 (lv_at hl 0 rfl) ?_
      refine lv_if_lt (tgt := 102) hx hb dX6_advise_74 (by decide) (fun c_28 => absurd c_28 (by decide)) (fun _ => ?_)
      refine lv_bipush (v := 10) hx hb dX6_advise_77 (by decide) ?_
      refine lv_iload hx hb dX6_advise_79 (lv_at hl 1 rfl) ?_
      refine lv_imul hx hb dX6_advise_81 ?_
      refine lv_topi (fun x_29 e_30 => ?_)
      refine lv_iconst (v := 1) hx hb dX6_advise_82 (by decide) ?_
      refine lv_iadd hx hb dX6_advise_83 ?_
      refine lv_topi (fun x_31 e_32 => ?_)
      refine lv_iload hx hb dX6_advise_84 (lv_at hl 2 rfl) ?_
      refine lv_iconst (v := 2) hx hb dX6_advise_86 (by decide) ?_
      refine lv_iload hx hb dX6_advise_87 (lv_at hl 0 rfl) ?_
      refine lv_imul hx hb dX6_advise_89 ?_
      refine lv_topi (fun x_33 e_34 => ?_)
      obtain rfl : x_33 = 4 := e_34.trans (by decide)
      refine lv_ishr hx hb dX6_advise_90 ?_
      refine lv_topi (fun x_35 e_36 => ?_)
      refine lv_iconst (v := 3) hx hb dX6_advise_91 (by decide) ?_
      refine lv_iand hx hb dX6_advise_92 ?_
      refine lv_topi (fun x_37 e_38 => ?_)
      refine lv_iadd hx hb dX6_advise_93 ?_
      refine lv_topi (fun x_39 e_40 => ?_)
      refine lv_istore (lv' := [(5, .int x_39), (6, .int 2), (4, .int k), (3, .int 4), (2, .int 4), (1, .int 0), (0, .ref h0)]) hx hb dX6_advise_94 hl (by decide) rfl (fun ls hl => ?_)
      refine lv_iinc (v := 1) (lv' := [(6, .int 1), (5, .int x_39), (4, .int k), (3, .int 4), (2, .int 4), (1, .int 0), (0, .ref h0)]) hx hb dX6_advise_96 hl (k := 1) rfl (by decide) (by decide) rfl (fun ls hl => ?_)
      refine lv_goto (tgt := 72) hx hb dX6_advise_99 (by decide) ?_
      refine lv_iload hx hb dX6_advise_72 (lv_at hl 0 rfl) ?_
      refine lv_if_lt (tgt := 102) hx hb dX6_advise_74 (by decide) (fun c_41 => absurd c_41 (by decide)) (fun _ => ?_)
      refine lv_bipush (v := 10) hx hb dX6_advise_77 (by decide) ?_
      refine lv_iload hx hb dX6_advise_79 (lv_at hl 1 rfl) ?_
      refine lv_imul hx hb dX6_advise_81 ?_
      refine lv_topi (fun x_42 e_43 => ?_)
      refine lv_iconst (v := 1) hx hb dX6_advise_82 (by decide) ?_
      refine lv_iadd hx hb dX6_advise_83 ?_
      refine lv_topi (fun x_44 e_45 => ?_)
      refine lv_iload hx hb dX6_advise_84 (lv_at hl 2 rfl) ?_
      refine lv_iconst (v := 2) hx hb dX6_advise_86 (by decide) ?_
      refine lv_iload hx hb dX6_advise_87 (lv_at hl 0 rfl) ?_
      refine lv_imul hx hb dX6_advise_89 ?_
      refine lv_topi (fun x_46 e_47 => ?_)
      obtain rfl : x_46 = 2 := e_47.trans (by decide)
      refine lv_ishr hx hb dX6_advise_90 ?_
      refine lv_topi (fun x_48 e_49 => ?_)
      refine lv_iconst (v := 3) hx hb dX6_advise_91 (by decide) ?_
      refine lv_iand hx hb dX6_advise_92 ?_
      refine lv_topi (fun x_50 e_51 => ?_)
      refine lv_iadd hx hb dX6_advise_93 ?_
      refine lv_topi (fun x_52 e_53 => ?_)
      refine lv_istore (lv' := [(5, .int x_52), (6, .int 1), (4, .int k), (3, .int 4), (2, .int 4), (1, .int 0), (0, .ref h0)]) hx hb dX6_advise_94 hl (by decide) rfl (fun ls hl => ?_)
      refine lv_iinc (v := 0) (lv' := [(6, .int 0), (5, .int x_52), (4, .int k), (3, .int 4), (2, .int 4), (1, .int 0), (0, .ref h0)]) hx hb dX6_advise_96 hl (k := 1) rfl (by decide) (by decide) rfl (fun ls hl => ?_)
      refine lv_goto (tgt := 72) hx hb dX6_advise_99 (by decide) ?_
      refine lv_iload hx hb dX6_advise_72 (lv_at hl 0 rfl) ?_
      refine lv_if_lt (tgt := 102) hx hb dX6_advise_74 (by decide) (fun c_54 => absurd c_54 (by decide)) (fun _ => ?_)
      refine lv_bipush (v := 10) hx hb dX6_advise_77 (by decide) ?_
      refine lv_iload hx hb dX6_advise_79 (lv_at hl 1 rfl) ?_
      refine lv_imul hx hb dX6_advise_81 ?_
      refine lv_topi (fun x_55 e_56 => ?_)
      refine lv_iconst (v := 1) hx hb dX6_advise_82 (by decide) ?_
      refine lv_iadd hx hb dX6_advise_83 ?_
      refine lv_topi (fun x_57 e_58 => ?_)
      refine lv_iload hx hb dX6_advise_84 (lv_at hl 2 rfl) ?_
      refine lv_iconst (v := 2) hx hb dX6_advise_86 (by decide) ?_
      refine lv_iload hx hb dX6_advise_87 (lv_at hl 0 rfl) ?_
      refine lv_imul hx hb dX6_advise_89 ?_
      refine lv_topi (fun x_59 e_60 => ?_)
      obtain rfl : x_59 = 0 := e_60.trans (by decide)
      refine lv_ishr hx hb dX6_advise_90 ?_
      refine lv_topi (fun x_61 e_62 => ?_)
      refine lv_iconst (v := 3) hx hb dX6_advise_91 (by decide) ?_
      refine lv_iand hx hb dX6_advise_92 ?_
      refine lv_topi (fun x_63 e_64 => ?_)
      refine lv_iadd hx hb dX6_advise_93 ?_
      refine lv_topi (fun x_65 e_66 => ?_)
      refine lv_istore (lv' := [(5, .int x_65), (6, .int 0), (4, .int k), (3, .int 4), (2, .int 4), (1, .int 0), (0, .ref h0)]) hx hb dX6_advise_94 hl (by decide) rfl (fun ls hl => ?_)
      refine lv_iinc (v := (-1)) (lv' := [(6, .int (-1)), (5, .int x_65), (4, .int k), (3, .int 4), (2, .int 4), (1, .int 0), (0, .ref h0)]) hx hb dX6_advise_96 hl (k := 1) rfl (by decide) (by decide) rfl (fun ls hl => ?_)
      refine lv_goto (tgt := 72) hx hb dX6_advise_99 (by decide) ?_
      refine lv_iload hx hb dX6_advise_72 (lv_at hl 0 rfl) ?_
      refine lv_if_lt (tgt := 102) hx hb dX6_advise_74 (by decide) (fun _ => ?_) (fun c_67 => absurd (by decide) c_67)
      refine lv_aload_n hx hb dX6_advise_102 rfl (lv_at hl 6 rfl) ?_
      refine lv_iload_n hx hb dX6_advise_103 rfl (lv_at hl 5 rfl) ?_
      refine lv_iload hx hb dX6_advise_104 (lv_at hl 1 rfl) ?_
      have hPc := hP.sub (ws' := [(h0, .inr (11, [.int 0, .int 1, .int 0, .int 1, .ref rq, .ref sbq])), (rq, .inl (ci, 119, .inl (RW xh xr xt xw)))]) [0, 1] rfl
      have hDc := hD.sub (ws' := [(h0, .inr (11, [.int 0, .int 1, .int 0, .int 1, .ref rq, .ref sbq])), (rq, .inl (ci, 119, .inl (RW xh xr xt xw)))]) [0, 1] (by decide) rfl
      have hKc := hK.sub (tys' := [(ci, .int)]) [0] rfl
      have hFc := va_free (wc := [(h0, .inr (11, [.int 0, .int 1, .int 0, .int 1, .ref rq, .ref sbq])), (rq, .inl (ci, 119, .inl (RW xh xr xt xw)))]) hD hS hA [0, 1] rfl
      have hb0 := hS.1
      refine va_calli (va_runV (As := [.int 0, .int x_65]) (rest := []) ⟨hx, hb, hml, hown, hts⟩ (c_homeBy l hl9 dC dI tE h0 rq sbq 0 ci xh xr xt xw x_65 _ ) (cwV 2 hts (goodIn_app (goodIn_r _ [58, 59, 60, 8] (by rfl) (by decide +kernel)) gg_c_Mi_advise_c_homeBy) rfl rfl rfl (by decide +kernel) ⟨Nat.le_of_ble_eq_true rfl, Nat.le_of_ble_eq_true rfl⟩) ⟨Pre0.blind, va_recv hKc hPc (ci := 11) (q0 := 0) rfl rfl, Pre0.give hPc hKc hDc hT hS hFc⟩ rfl rfl hl.1 rfl (lv_room (Nat.le_of_ble_eq_true rfl)) dX6_advise_106 ⟨(show _ ≤ 340 by omega), (show _ ≤ 40460 by omega)⟩) hS (fun q _ h => hFc q h) hFc (fun r_68 u t H1 locs ht hvm hw hB hz1 hk1 hS => ?_)
      obtain ⟨qx_69, fx_70, hP1, hK1, hD1⟩ := hB
      rw [ht] at hP1
      have hK1 := va_K.moved hvm.symm hK1
      obtain ⟨hP, hD⟩ := va_join (wr := []) (w1 := [(h0, .inr (11, [.int 0, .int 1, .int 0, .int 1, .ref rq, .ref sbq])), (rq, .inl (ci, 119, .inl (RW xh xr xt xw))), (qx_69, .inl (ci, 119, .inl fx_70))]) hP hD [0, 1] [] rfl rfl (by decide) (by decide) hk1 hFc hP1 hD1
      have hR := Rw.home hR hb0 hk1 hP1 hD1
      generalize H1 = H at hP hS hR ⊢
      have hP : va_P (dC, dI) vwCl [(h0, .inr (11, [.int 0, .int 1, .int 0, .int 1, .ref rq, .ref sbq])), (rq, .inl (ci, 119, .inl (RW xh xr xt xw))), (qx_69, .inl (ci, 119, .inl fx_70))] H := hP
      have hD : va_D A [(h0, .inr (11, [.int 0, .int 1, .int 0, .int 1, .ref rq, .ref sbq])), (rq, .inl (ci, 119, .inl (RW xh xr xt xw))), (qx_69, .inl (ci, 119, .inl fx_70))] := hD
      obtain rfl : r_68 = (-1) := hw
      have hP := hP.sub (ws' := [(h0, .inr (11, [.int 0, .int 1, .int 0, .int 1, .ref rq, .ref sbq])), (rq, .inl (ci, 119, .inl (RW xh xr xt xw)))]) [0, 1] rfl
      have hD := hD.sub (ws' := [(h0, .inr (11, [.int 0, .int 1, .int 0, .int 1, .ref rq, .ref sbq])), (rq, .inl (ci, 119, .inl (RW xh xr xt xw)))]) [0, 1] (by decide) rfl
      refine lv_iload_n hx hb dX6_advise_109 rfl (lv_at hl 3 rfl) ?_
      refine lv_icmp_ne (tgt := 116) hx hb dX6_advise_110 (by decide) (fun _ => ?_) (fun c_71 => absurd c_71 (by decide))
      refine lv_iinc (v := k + 1) (lv' := [(4, .int (k + 1)), (6, .int (-1)), (5, .int x_65), (3, .int 4), (2, .int 4), (1, .int 0), (0, .ref h0)]) hx hb dX6_advise_116 hl (k := 2) rfl rfl (by decide) rfl (fun ls hl => ?_)
      refine lv_goto (tgt := 54) hx hb dX6_advise_119 (by decide) ?_
      exact ih H locs _ _ _ _ ls (by omega) (k_next hj hk) (lv_sub hl [0, 3, 4, 5, 6] rfl) hP hD hS hR (by simp only [List.length_cons]; omega) (by simp only [List.length_cons]; omega) (by simp only [List.length_cons]; omega)
  have X3 : ∀ (H : Heap) (locs : List Loc) (cells slots : Nat) (S : List Nat) (ls : Array Slot), lv_has ls 7 [(3, .int 3), (2, .int 4), (1, .int 0), (0, .ref h0)] → va_P (dC, dI) vwCl [(h0, .inr (11, [.int 0, .int 1, .int 0, .int 1, .ref rq, .ref sbq])), (rq, .inl (ci, 119, .inl (RW xh xr xt xw)))] H → va_D A [(h0, .inr (11, [.int 0, .int 1, .int 0, .int 1, .ref rq, .ref sbq])), (rq, .inl (ci, 119, .inl (RW xh xr xt xw)))] → va_S A s.heap H locs → Rw s.heap.size S [(h0, .inr (11, [.int 0, .int 1, .int 0, .int 1, .ref rq, .ref sbq])), (rq, .inl (ci, 119, .inl (RW xh xr xt xw)))] H → S.length = 20 → cells ≤ S.length → slots ≤ 119 * S.length → W p l e ({ frames := 5, cells := 340, slots := 40460, locals := 116 } : Room) s m ([.ref h0, .int 0, .int 4] : List Value).toArray below meth c H locs cells slots (MQ below (va_Qi (fun (r : Int32) (_ : Unit) => r = (-1)) (fun _ t => ∃ T : List Nat, T.length = 340 ∧ Rw s.heap.size T [(h0, .inr (11, [.int 0, .int 1, .int 0, .int 1, .ref rq, .ref sbq])), (rq, .inl (ci, 119, .inl (RW xh xr xt xw)))] t.heap ∧ Pst dC dI [(ci, .int)] A [(h0, .inr (11, [.int 0, .int 1, .int 0, .int 1, .ref rq, .ref sbq])), (rq, .inl (ci, 119, .inl (RW xh xr xt xw)))] t) A) ([.ref h0, .int 0, .int 4] : List Value).toArray s 340 40460 A) (F0 m 46 ls []) := by
    intro H locs cells slots S ls hl hP hD hS hR hSl hc hs
    refine lv_iload_n hx hb dX6_advise_46 rfl (lv_at hl 0 rfl) ?_
    refine lv_iload_n hx hb dX6_advise_47 rfl (lv_at hl 1 rfl) ?_
    refine lv_icmp_gt (tgt := 128) hx hb dX6_advise_48 (by decide) (fun c_72 => absurd c_72 (by decide)) (fun _ => ?_)
    refine lv_iconst (v := 0) hx hb dX6_advise_51 (by decide) ?_
    refine lv_istore (lv' := [(4, .int 0), (3, .int 3), (2, .int 4), (1, .int 0), (0, .ref h0)]) hx hb dX6_advise_52 hl (by decide) rfl (fun ls hl => ?_)
    suffices loop : ∀ (j : Nat) (H : Heap) (locs : List Loc) (cells slots : Nat) (S : List Nat) (k : Int32) (ls : Array Slot), j ≤ 64 → k = nI (64 - j) → lv_has ls 7 [(4, .int k), (3, .int 3), (2, .int 4), (1, .int 0), (0, .ref h0)] → va_P (dC, dI) vwCl [(h0, .inr (11, [.int 0, .int 1, .int 0, .int 1, .ref rq, .ref sbq])), (rq, .inl (ci, 119, .inl (RW xh xr xt xw)))] H → va_D A [(h0, .inr (11, [.int 0, .int 1, .int 0, .int 1, .ref rq, .ref sbq])), (rq, .inl (ci, 119, .inl (RW xh xr xt xw)))] → va_S A s.heap H locs → Rw s.heap.size S [(h0, .inr (11, [.int 0, .int 1, .int 0, .int 1, .ref rq, .ref sbq])), (rq, .inl (ci, 119, .inl (RW xh xr xt xw)))] H → S.length = 20 + (64 - j) → cells ≤ S.length → slots ≤ 119 * S.length → W p l e ({ frames := 5, cells := 340, slots := 40460, locals := 116 } : Room) s m ([.ref h0, .int 0, .int 4] : List Value).toArray below meth c H locs cells slots (MQ below (va_Qi (fun (r : Int32) (_ : Unit) => r = (-1)) (fun _ t => ∃ T : List Nat, T.length = 340 ∧ Rw s.heap.size T [(h0, .inr (11, [.int 0, .int 1, .int 0, .int 1, .ref rq, .ref sbq])), (rq, .inl (ci, 119, .inl (RW xh xr xt xw)))] t.heap ∧ Pst dC dI [(ci, .int)] A [(h0, .inr (11, [.int 0, .int 1, .int 0, .int 1, .ref rq, .ref sbq])), (rq, .inl (ci, 119, .inl (RW xh xr xt xw)))] t) A) ([.ref h0, .int 0, .int 4] : List Value).toArray s 340 40460 A) (F0 m 54 ls []) from
      loop 64 H locs cells slots S 0 ls (Nat.le_refl _) (by decide) (lv_sub hl [0, 1, 2, 3, 4] rfl) hP hD hS hR (by omega) hc hs
    clear hl hP hD hS hR hSl hc hs
    clear H locs cells slots S
    intro j
    induction j with
    | zero =>
      intro H locs cells slots S k ls hj hk hl hP hD hS hR hSl hc hs
      refine lv_iload hx hb dX6_advise_54 (lv_at hl 0 rfl) ?_
      refine lv_iconst (v := 1) hx hb dX6_advise_56 (by decide) ?_
      refine lv_iconst (v := 2) hx hb dX6_advise_57 (by decide) ?_
      refine lv_iload_n hx hb dX6_advise_58 rfl (lv_at hl 1 rfl) ?_
      refine lv_imul hx hb dX6_advise_59 ?_
      refine lv_topi (fun x_73 e_74 => ?_)
      obtain rfl : x_73 = 6 := e_74.trans (by decide)
      refine lv_ishl hx hb dX6_advise_60 ?_
      refine lv_topi (fun x_75 e_76 => ?_)
      obtain rfl : x_75 = 64 := e_76.trans (by decide)
      refine lv_icmp_ge (tgt := 122) hx hb dX6_advise_61 (by decide) (fun _ => ?_) (fun c_77 => absurd (k_end (N := 64) (by decide) hk) c_77)
      refine lv_iinc (v := 4) (lv' := [(3, .int 4), (4, .int k), (2, .int 4), (1, .int 0), (0, .ref h0)]) hx hb dX6_advise_122 hl (k := 1) rfl (by decide) (by decide) rfl (fun ls hl => ?_)
      refine lv_goto (tgt := 46) hx hb dX6_advise_125 (by decide) ?_
      exact X4 H locs cells slots S ls (lv_sub hl [0, 2, 3, 4] rfl) hP hD hS hR (by omega) hc hs
    | succ j ih =>
      intro H locs cells slots S k ls hj hk hl hP hD hS hR hSl hc hs
      refine lv_iload hx hb dX6_advise_54 (lv_at hl 0 rfl) ?_
      refine lv_iconst (v := 1) hx hb dX6_advise_56 (by decide) ?_
      refine lv_iconst (v := 2) hx hb dX6_advise_57 (by decide) ?_
      refine lv_iload_n hx hb dX6_advise_58 rfl (lv_at hl 1 rfl) ?_
      refine lv_imul hx hb dX6_advise_59 ?_
      refine lv_topi (fun x_78 e_79 => ?_)
      obtain rfl : x_78 = 6 := e_79.trans (by decide)
      refine lv_ishl hx hb dX6_advise_60 ?_
      refine lv_topi (fun x_80 e_81 => ?_)
      obtain rfl : x_80 = 64 := e_81.trans (by decide)
      refine lv_icmp_ge (tgt := 122) hx hb dX6_advise_61 (by decide) (fun c_82 => absurd c_82 (k_lt (N := 64) (by decide) hj hk)) (fun _ => ?_)
      refine lv_iconst (v := 0) hx hb dX6_advise_64 (by decide) ?_
      refine lv_istore (lv' := [(5, .int 0), (4, .int k), (3, .int 3), (2, .int 4), (1, .int 0), (0, .ref h0)]) hx hb dX6_advise_65 hl (by decide) rfl (fun ls hl => ?_)
      refine lv_iload_n hx hb dX6_advise_67 rfl (lv_at hl 2 rfl) ?_
      refine lv_iconst (v := 1) hx hb dX6_advise_68 (by decide) ?_
      refine lv_isub hx hb dX6_advise_69 ?_
      refine lv_topi (fun x_83 e_84 => ?_)
      obtain rfl : x_83 = 2 := e_84.trans (by decide)
      refine lv_istore (lv' := [(6, .int 2), (5, .int 0), (4, .int k), (3, .int 3), (2, .int 4), (1, .int 0), (0, .ref h0)]) hx hb dX6_advise_70 hl (by decide) rfl (fun ls hl => ?_)
      refine lv_iload hx hb dX6_advise_72 (lv_at hl 0 rfl) ?_
      refine lv_if_lt (tgt := 102) hx hb dX6_advise_74 (by decide) (fun c_85 => absurd c_85 (by decide)) (fun _ => ?_)
      refine lv_bipush (v := 10) hx hb dX6_advise_77 (by decide) ?_
      refine lv_iload hx hb dX6_advise_79 (lv_at hl 1 rfl) ?_
      refine lv_imul hx hb dX6_advise_81 ?_
      refine lv_topi (fun x_86 e_87 => ?_)
      obtain rfl : x_86 = 0 := e_87.trans (by decide)
      refine lv_iconst (v := 1) hx hb dX6_advise_82 (by decide) ?_
      refine lv_iadd hx hb dX6_advise_83 ?_
      refine lv_topi (fun x_88 e_89 => ?_)
      obtain rfl : x_88 = 1 := e_89.trans (by decide)
      refine lv_iload hx hb dX6_advise_84 (lv_at hl 2 rfl) ?_
      refine lv_iconst (v := 2) hx hb dX6_advise_86 (by decide) ?_
      refine lv_iload hx hb dX6_advise_87 (lv_at hl 0 rfl) ?_
      refine lv_imul hx hb dX6_advise_89 ?_
      refine lv_topi (fun x_90 e_91 => ?_)
      obtain rfl : x_90 = 4 := e_91.trans (by decide)
      refine lv_ishr hx hb dX6_advise_90 ?_
      refine lv_topi (fun x_92 e_93 => ?_)
      refine lv_iconst (v := 3) hx hb dX6_advise_91 (by decide) ?_
      refine lv_iand hx hb dX6_advise_92 ?_
      refine lv_topi (fun x_94 e_95 => ?_)
      refine lv_iadd hx hb dX6_advise_93 ?_
      refine lv_topi (fun x_96 e_97 => ?_)
      refine lv_istore (lv' := [(5, .int x_96), (6, .int 2), (4, .int k), (3, .int 3), (2, .int 4), (1, .int 0), (0, .ref h0)]) hx hb dX6_advise_94 hl (by decide) rfl (fun ls hl => ?_)
      refine lv_iinc (v := 1) (lv' := [(6, .int 1), (5, .int x_96), (4, .int k), (3, .int 3), (2, .int 4), (1, .int 0), (0, .ref h0)]) hx hb dX6_advise_96 hl (k := 1) rfl (by decide) (by decide) rfl (fun ls hl => ?_)
      refine lv_goto (tgt := 72) hx hb dX6_advise_99 (by decide) ?_
      refine lv_iload hx hb dX6_advise_72 (lv_at hl 0 rfl) ?_
      refine lv_if_lt (tgt := 102) hx hb dX6_advise_74 (by decide) (fun c_98 => absurd c_98 (by decide)) (fun _ => ?_)
      refine lv_bipush (v := 10) hx hb dX6_advise_77 (by decide) ?_
      refine lv_iload hx hb dX6_advise_79 (lv_at hl 1 rfl) ?_
      refine lv_imul hx hb dX6_advise_81 ?_
      refine lv_topi (fun x_99 e_100 => ?_)
      refine lv_iconst (v := 1) hx hb dX6_advise_82 (by decide) ?_
      refine lv_iadd hx hb dX6_advise_83 ?_
      refine lv_topi (fun x_101 e_102 => ?_)
      refine lv_iload hx hb dX6_advise_84 (lv_at hl 2 rfl) ?_
      refine lv_iconst (v := 2) hx hb dX6_advise_86 (by decide) ?_
      refine lv_iload hx hb dX6_advise_87 (lv_at hl 0 rfl) ?_
      refine lv_imul hx hb dX6_advise_89 ?_
      refine lv_topi (fun x_103 e_104 => ?_)
      obtain rfl : x_103 = 2 := e_104.trans (by decide)
      refine lv_ishr hx hb dX6_advise_90 ?_
      refine lv_topi (fun x_105 e_106 => ?_)
      refine lv_iconst (v := 3) hx hb dX6_advise_91 (by decide) ?_
      refine lv_iand hx hb dX6_advise_92 ?_
      refine lv_topi (fun x_107 e_108 => ?_)
      refine lv_iadd hx hb dX6_advise_93 ?_
      refine lv_topi (fun x_109 e_110 => ?_)
      refine lv_istore (lv' := [(5, .int x_109), (6, .int 1), (4, .int k), (3, .int 3), (2, .int 4), (1, .int 0), (0, .ref h0)]) hx hb dX6_advise_94 hl (by decide) rfl (fun ls hl => ?_)
      refine lv_iinc (v := 0) (lv' := [(6, .int 0), (5, .int x_109), (4, .int k), (3, .int 3), (2, .int 4), (1, .int 0), (0, .ref h0)]) hx hb dX6_advise_96 hl (k := 1) rfl (by decide) (by decide) rfl (fun ls hl => ?_)
      refine lv_goto (tgt := 72) hx hb dX6_advise_99 (by decide) ?_
      refine lv_iload hx hb dX6_advise_72 (lv_at hl 0 rfl) ?_
      refine lv_if_lt (tgt := 102) hx hb dX6_advise_74 (by decide) (fun c_111 => absurd c_111 (by decide)) (fun _ => ?_)
      refine lv_bipush (v := 10) hx hb dX6_advise_77 (by decide) ?_
      refine lv_iload hx hb dX6_advise_79 (lv_at hl 1 rfl) ?_
      refine lv_imul hx hb dX6_advise_81 ?_
      refine lv_topi (fun x_112 e_113 => ?_)
      refine lv_iconst (v := 1) hx hb dX6_advise_82 (by decide) ?_
      refine lv_iadd hx hb dX6_advise_83 ?_
      refine lv_topi (fun x_114 e_115 => ?_)
      refine lv_iload hx hb dX6_advise_84 (lv_at hl 2 rfl) ?_
      refine lv_iconst (v := 2) hx hb dX6_advise_86 (by decide) ?_
      refine lv_iload hx hb dX6_advise_87 (lv_at hl 0 rfl) ?_
      refine lv_imul hx hb dX6_advise_89 ?_
      refine lv_topi (fun x_116 e_117 => ?_)
      obtain rfl : x_116 = 0 := e_117.trans (by decide)
      refine lv_ishr hx hb dX6_advise_90 ?_
      refine lv_topi (fun x_118 e_119 => ?_)
      refine lv_iconst (v := 3) hx hb dX6_advise_91 (by decide) ?_
      refine lv_iand hx hb dX6_advise_92 ?_
      refine lv_topi (fun x_120 e_121 => ?_)
      refine lv_iadd hx hb dX6_advise_93 ?_
      refine lv_topi (fun x_122 e_123 => ?_)
      refine lv_istore (lv' := [(5, .int x_122), (6, .int 0), (4, .int k), (3, .int 3), (2, .int 4), (1, .int 0), (0, .ref h0)]) hx hb dX6_advise_94 hl (by decide) rfl (fun ls hl => ?_)
      refine lv_iinc (v := (-1)) (lv' := [(6, .int (-1)), (5, .int x_122), (4, .int k), (3, .int 3), (2, .int 4), (1, .int 0), (0, .ref h0)]) hx hb dX6_advise_96 hl (k := 1) rfl (by decide) (by decide) rfl (fun ls hl => ?_)
      refine lv_goto (tgt := 72) hx hb dX6_advise_99 (by decide) ?_
      refine lv_iload hx hb dX6_advise_72 (lv_at hl 0 rfl) ?_
      refine lv_if_lt (tgt := 102) hx hb dX6_advise_74 (by decide) (fun _ => ?_) (fun c_124 => absurd (by decide) c_124)
      refine lv_aload_n hx hb dX6_advise_102 rfl (lv_at hl 6 rfl) ?_
      refine lv_iload_n hx hb dX6_advise_103 rfl (lv_at hl 5 rfl) ?_
      refine lv_iload hx hb dX6_advise_104 (lv_at hl 1 rfl) ?_
      have hPc := hP.sub (ws' := [(h0, .inr (11, [.int 0, .int 1, .int 0, .int 1, .ref rq, .ref sbq])), (rq, .inl (ci, 119, .inl (RW xh xr xt xw)))]) [0, 1] rfl
      have hDc := hD.sub (ws' := [(h0, .inr (11, [.int 0, .int 1, .int 0, .int 1, .ref rq, .ref sbq])), (rq, .inl (ci, 119, .inl (RW xh xr xt xw)))]) [0, 1] (by decide) rfl
      have hKc := hK.sub (tys' := [(ci, .int)]) [0] rfl
      have hFc := va_free (wc := [(h0, .inr (11, [.int 0, .int 1, .int 0, .int 1, .ref rq, .ref sbq])), (rq, .inl (ci, 119, .inl (RW xh xr xt xw)))]) hD hS hA [0, 1] rfl
      have hb0 := hS.1
      refine va_calli (va_runV (As := [.int 0, .int x_122]) (rest := []) ⟨hx, hb, hml, hown, hts⟩ (c_homeBy l hl9 dC dI tE h0 rq sbq 0 ci xh xr xt xw x_122 _ ) (cwV 2 hts (goodIn_app (goodIn_r _ [58, 59, 60, 8] (by rfl) (by decide +kernel)) gg_c_Mi_advise_c_homeBy) rfl rfl rfl (by decide +kernel) ⟨Nat.le_of_ble_eq_true rfl, Nat.le_of_ble_eq_true rfl⟩) ⟨Pre0.blind, va_recv hKc hPc (ci := 11) (q0 := 0) rfl rfl, Pre0.give hPc hKc hDc hT hS hFc⟩ rfl rfl hl.1 rfl (lv_room (Nat.le_of_ble_eq_true rfl)) dX6_advise_106 ⟨(show _ ≤ 340 by omega), (show _ ≤ 40460 by omega)⟩) hS (fun q _ h => hFc q h) hFc (fun r_125 u t H1 locs ht hvm hw hB hz1 hk1 hS => ?_)
      obtain ⟨qx_126, fx_127, hP1, hK1, hD1⟩ := hB
      rw [ht] at hP1
      have hK1 := va_K.moved hvm.symm hK1
      obtain ⟨hP, hD⟩ := va_join (wr := []) (w1 := [(h0, .inr (11, [.int 0, .int 1, .int 0, .int 1, .ref rq, .ref sbq])), (rq, .inl (ci, 119, .inl (RW xh xr xt xw))), (qx_126, .inl (ci, 119, .inl fx_127))]) hP hD [0, 1] [] rfl rfl (by decide) (by decide) hk1 hFc hP1 hD1
      have hR := Rw.home hR hb0 hk1 hP1 hD1
      generalize H1 = H at hP hS hR ⊢
      have hP : va_P (dC, dI) vwCl [(h0, .inr (11, [.int 0, .int 1, .int 0, .int 1, .ref rq, .ref sbq])), (rq, .inl (ci, 119, .inl (RW xh xr xt xw))), (qx_126, .inl (ci, 119, .inl fx_127))] H := hP
      have hD : va_D A [(h0, .inr (11, [.int 0, .int 1, .int 0, .int 1, .ref rq, .ref sbq])), (rq, .inl (ci, 119, .inl (RW xh xr xt xw))), (qx_126, .inl (ci, 119, .inl fx_127))] := hD
      obtain rfl : r_125 = (-1) := hw
      have hP := hP.sub (ws' := [(h0, .inr (11, [.int 0, .int 1, .int 0, .int 1, .ref rq, .ref sbq])), (rq, .inl (ci, 119, .inl (RW xh xr xt xw)))]) [0, 1] rfl
      have hD := hD.sub (ws' := [(h0, .inr (11, [.int 0, .int 1, .int 0, .int 1, .ref rq, .ref sbq])), (rq, .inl (ci, 119, .inl (RW xh xr xt xw)))]) [0, 1] (by decide) rfl
      refine lv_iload_n hx hb dX6_advise_109 rfl (lv_at hl 3 rfl) ?_
      refine lv_icmp_ne (tgt := 116) hx hb dX6_advise_110 (by decide) (fun _ => ?_) (fun c_128 => absurd c_128 (by decide))
      refine lv_iinc (v := k + 1) (lv' := [(4, .int (k + 1)), (6, .int (-1)), (5, .int x_122), (3, .int 3), (2, .int 4), (1, .int 0), (0, .ref h0)]) hx hb dX6_advise_116 hl (k := 2) rfl rfl (by decide) rfl (fun ls hl => ?_)
      refine lv_goto (tgt := 54) hx hb dX6_advise_119 (by decide) ?_
      exact ih H locs _ _ _ _ ls (by omega) (k_next hj hk) (lv_sub hl [0, 3, 4, 5, 6] rfl) hP hD hS hR (by simp only [List.length_cons]; omega) (by simp only [List.length_cons]; omega) (by simp only [List.length_cons]; omega)
  have X2 : ∀ (H : Heap) (locs : List Loc) (cells slots : Nat) (S : List Nat) (ls : Array Slot), lv_has ls 7 [(3, .int 2), (2, .int 4), (1, .int 0), (0, .ref h0)] → va_P (dC, dI) vwCl [(h0, .inr (11, [.int 0, .int 1, .int 0, .int 1, .ref rq, .ref sbq])), (rq, .inl (ci, 119, .inl (RW xh xr xt xw)))] H → va_D A [(h0, .inr (11, [.int 0, .int 1, .int 0, .int 1, .ref rq, .ref sbq])), (rq, .inl (ci, 119, .inl (RW xh xr xt xw)))] → va_S A s.heap H locs → Rw s.heap.size S [(h0, .inr (11, [.int 0, .int 1, .int 0, .int 1, .ref rq, .ref sbq])), (rq, .inl (ci, 119, .inl (RW xh xr xt xw)))] H → S.length = 4 → cells ≤ S.length → slots ≤ 119 * S.length → W p l e ({ frames := 5, cells := 340, slots := 40460, locals := 116 } : Room) s m ([.ref h0, .int 0, .int 4] : List Value).toArray below meth c H locs cells slots (MQ below (va_Qi (fun (r : Int32) (_ : Unit) => r = (-1)) (fun _ t => ∃ T : List Nat, T.length = 340 ∧ Rw s.heap.size T [(h0, .inr (11, [.int 0, .int 1, .int 0, .int 1, .ref rq, .ref sbq])), (rq, .inl (ci, 119, .inl (RW xh xr xt xw)))] t.heap ∧ Pst dC dI [(ci, .int)] A [(h0, .inr (11, [.int 0, .int 1, .int 0, .int 1, .ref rq, .ref sbq])), (rq, .inl (ci, 119, .inl (RW xh xr xt xw)))] t) A) ([.ref h0, .int 0, .int 4] : List Value).toArray s 340 40460 A) (F0 m 46 ls []) := by
    intro H locs cells slots S ls hl hP hD hS hR hSl hc hs
    refine lv_iload_n hx hb dX6_advise_46 rfl (lv_at hl 0 rfl) ?_
    refine lv_iload_n hx hb dX6_advise_47 rfl (lv_at hl 1 rfl) ?_
    refine lv_icmp_gt (tgt := 128) hx hb dX6_advise_48 (by decide) (fun c_129 => absurd c_129 (by decide)) (fun _ => ?_)
    refine lv_iconst (v := 0) hx hb dX6_advise_51 (by decide) ?_
    refine lv_istore (lv' := [(4, .int 0), (3, .int 2), (2, .int 4), (1, .int 0), (0, .ref h0)]) hx hb dX6_advise_52 hl (by decide) rfl (fun ls hl => ?_)
    suffices loop : ∀ (j : Nat) (H : Heap) (locs : List Loc) (cells slots : Nat) (S : List Nat) (k : Int32) (ls : Array Slot), j ≤ 16 → k = nI (16 - j) → lv_has ls 7 [(4, .int k), (3, .int 2), (2, .int 4), (1, .int 0), (0, .ref h0)] → va_P (dC, dI) vwCl [(h0, .inr (11, [.int 0, .int 1, .int 0, .int 1, .ref rq, .ref sbq])), (rq, .inl (ci, 119, .inl (RW xh xr xt xw)))] H → va_D A [(h0, .inr (11, [.int 0, .int 1, .int 0, .int 1, .ref rq, .ref sbq])), (rq, .inl (ci, 119, .inl (RW xh xr xt xw)))] → va_S A s.heap H locs → Rw s.heap.size S [(h0, .inr (11, [.int 0, .int 1, .int 0, .int 1, .ref rq, .ref sbq])), (rq, .inl (ci, 119, .inl (RW xh xr xt xw)))] H → S.length = 4 + (16 - j) → cells ≤ S.length → slots ≤ 119 * S.length → W p l e ({ frames := 5, cells := 340, slots := 40460, locals := 116 } : Room) s m ([.ref h0, .int 0, .int 4] : List Value).toArray below meth c H locs cells slots (MQ below (va_Qi (fun (r : Int32) (_ : Unit) => r = (-1)) (fun _ t => ∃ T : List Nat, T.length = 340 ∧ Rw s.heap.size T [(h0, .inr (11, [.int 0, .int 1, .int 0, .int 1, .ref rq, .ref sbq])), (rq, .inl (ci, 119, .inl (RW xh xr xt xw)))] t.heap ∧ Pst dC dI [(ci, .int)] A [(h0, .inr (11, [.int 0, .int 1, .int 0, .int 1, .ref rq, .ref sbq])), (rq, .inl (ci, 119, .inl (RW xh xr xt xw)))] t) A) ([.ref h0, .int 0, .int 4] : List Value).toArray s 340 40460 A) (F0 m 54 ls []) from
      loop 16 H locs cells slots S 0 ls (Nat.le_refl _) (by decide) (lv_sub hl [0, 1, 2, 3, 4] rfl) hP hD hS hR (by omega) hc hs
    clear hl hP hD hS hR hSl hc hs
    clear H locs cells slots S
    intro j
    induction j with
    | zero =>
      intro H locs cells slots S k ls hj hk hl hP hD hS hR hSl hc hs
      refine lv_iload hx hb dX6_advise_54 (lv_at hl 0 rfl) ?_
      refine lv_iconst (v := 1) hx hb dX6_advise_56 (by decide) ?_
      refine lv_iconst (v := 2) hx hb dX6_advise_57 (by decide) ?_
      refine lv_iload_n hx hb dX6_advise_58 rfl (lv_at hl 1 rfl) ?_
      refine lv_imul hx hb dX6_advise_59 ?_
      refine lv_topi (fun x_130 e_131 => ?_)
      obtain rfl : x_130 = 4 := e_131.trans (by decide)
      refine lv_ishl hx hb dX6_advise_60 ?_
      refine lv_topi (fun x_132 e_133 => ?_)
      obtain rfl : x_132 = 16 := e_133.trans (by decide)
      refine lv_icmp_ge (tgt := 122) hx hb dX6_advise_61 (by decide) (fun _ => ?_) (fun c_134 => absurd (k_end (N := 16) (by decide) hk) c_134)
      refine lv_iinc (v := 3) (lv' := [(3, .int 3), (4, .int k), (2, .int 4), (1, .int 0), (0, .ref h0)]) hx hb dX6_advise_122 hl (k := 1) rfl (by decide) (by decide) rfl (fun ls hl => ?_)
      refine lv_goto (tgt := 46) hx hb dX6_advise_125 (by decide) ?_
      exact X3 H locs cells slots S ls (lv_sub hl [0, 2, 3, 4] rfl) hP hD hS hR (by omega) hc hs
    | succ j ih =>
      intro H locs cells slots S k ls hj hk hl hP hD hS hR hSl hc hs
      refine lv_iload hx hb dX6_advise_54 (lv_at hl 0 rfl) ?_
      refine lv_iconst (v := 1) hx hb dX6_advise_56 (by decide) ?_
      refine lv_iconst (v := 2) hx hb dX6_advise_57 (by decide) ?_
      refine lv_iload_n hx hb dX6_advise_58 rfl (lv_at hl 1 rfl) ?_
      refine lv_imul hx hb dX6_advise_59 ?_
      refine lv_topi (fun x_135 e_136 => ?_)
      obtain rfl : x_135 = 4 := e_136.trans (by decide)
      refine lv_ishl hx hb dX6_advise_60 ?_
      refine lv_topi (fun x_137 e_138 => ?_)
      obtain rfl : x_137 = 16 := e_138.trans (by decide)
      refine lv_icmp_ge (tgt := 122) hx hb dX6_advise_61 (by decide) (fun c_139 => absurd c_139 (k_lt (N := 16) (by decide) hj hk)) (fun _ => ?_)
      refine lv_iconst (v := 0) hx hb dX6_advise_64 (by decide) ?_
      refine lv_istore (lv' := [(5, .int 0), (4, .int k), (3, .int 2), (2, .int 4), (1, .int 0), (0, .ref h0)]) hx hb dX6_advise_65 hl (by decide) rfl (fun ls hl => ?_)
      refine lv_iload_n hx hb dX6_advise_67 rfl (lv_at hl 2 rfl) ?_
      refine lv_iconst (v := 1) hx hb dX6_advise_68 (by decide) ?_
      refine lv_isub hx hb dX6_advise_69 ?_
      refine lv_topi (fun x_140 e_141 => ?_)
      obtain rfl : x_140 = 1 := e_141.trans (by decide)
      refine lv_istore (lv' := [(6, .int 1), (5, .int 0), (4, .int k), (3, .int 2), (2, .int 4), (1, .int 0), (0, .ref h0)]) hx hb dX6_advise_70 hl (by decide) rfl (fun ls hl => ?_)
      refine lv_iload hx hb dX6_advise_72 (lv_at hl 0 rfl) ?_
      refine lv_if_lt (tgt := 102) hx hb dX6_advise_74 (by decide) (fun c_142 => absurd c_142 (by decide)) (fun _ => ?_)
      refine lv_bipush (v := 10) hx hb dX6_advise_77 (by decide) ?_
      refine lv_iload hx hb dX6_advise_79 (lv_at hl 1 rfl) ?_
      refine lv_imul hx hb dX6_advise_81 ?_
      refine lv_topi (fun x_143 e_144 => ?_)
      obtain rfl : x_143 = 0 := e_144.trans (by decide)
      refine lv_iconst (v := 1) hx hb dX6_advise_82 (by decide) ?_
      refine lv_iadd hx hb dX6_advise_83 ?_
      refine lv_topi (fun x_145 e_146 => ?_)
      obtain rfl : x_145 = 1 := e_146.trans (by decide)
      refine lv_iload hx hb dX6_advise_84 (lv_at hl 2 rfl) ?_
      refine lv_iconst (v := 2) hx hb dX6_advise_86 (by decide) ?_
      refine lv_iload hx hb dX6_advise_87 (lv_at hl 0 rfl) ?_
      refine lv_imul hx hb dX6_advise_89 ?_
      refine lv_topi (fun x_147 e_148 => ?_)
      obtain rfl : x_147 = 2 := e_148.trans (by decide)
      refine lv_ishr hx hb dX6_advise_90 ?_
      refine lv_topi (fun x_149 e_150 => ?_)
      refine lv_iconst (v := 3) hx hb dX6_advise_91 (by decide) ?_
      refine lv_iand hx hb dX6_advise_92 ?_
      refine lv_topi (fun x_151 e_152 => ?_)
      refine lv_iadd hx hb dX6_advise_93 ?_
      refine lv_topi (fun x_153 e_154 => ?_)
      refine lv_istore (lv' := [(5, .int x_153), (6, .int 1), (4, .int k), (3, .int 2), (2, .int 4), (1, .int 0), (0, .ref h0)]) hx hb dX6_advise_94 hl (by decide) rfl (fun ls hl => ?_)
      refine lv_iinc (v := 0) (lv' := [(6, .int 0), (5, .int x_153), (4, .int k), (3, .int 2), (2, .int 4), (1, .int 0), (0, .ref h0)]) hx hb dX6_advise_96 hl (k := 1) rfl (by decide) (by decide) rfl (fun ls hl => ?_)
      refine lv_goto (tgt := 72) hx hb dX6_advise_99 (by decide) ?_
      refine lv_iload hx hb dX6_advise_72 (lv_at hl 0 rfl) ?_
      refine lv_if_lt (tgt := 102) hx hb dX6_advise_74 (by decide) (fun c_155 => absurd c_155 (by decide)) (fun _ => ?_)
      refine lv_bipush (v := 10) hx hb dX6_advise_77 (by decide) ?_
      refine lv_iload hx hb dX6_advise_79 (lv_at hl 1 rfl) ?_
      refine lv_imul hx hb dX6_advise_81 ?_
      refine lv_topi (fun x_156 e_157 => ?_)
      refine lv_iconst (v := 1) hx hb dX6_advise_82 (by decide) ?_
      refine lv_iadd hx hb dX6_advise_83 ?_
      refine lv_topi (fun x_158 e_159 => ?_)
      refine lv_iload hx hb dX6_advise_84 (lv_at hl 2 rfl) ?_
      refine lv_iconst (v := 2) hx hb dX6_advise_86 (by decide) ?_
      refine lv_iload hx hb dX6_advise_87 (lv_at hl 0 rfl) ?_
      refine lv_imul hx hb dX6_advise_89 ?_
      refine lv_topi (fun x_160 e_161 => ?_)
      obtain rfl : x_160 = 0 := e_161.trans (by decide)
      refine lv_ishr hx hb dX6_advise_90 ?_
      refine lv_topi (fun x_162 e_163 => ?_)
      refine lv_iconst (v := 3) hx hb dX6_advise_91 (by decide) ?_
      refine lv_iand hx hb dX6_advise_92 ?_
      refine lv_topi (fun x_164 e_165 => ?_)
      refine lv_iadd hx hb dX6_advise_93 ?_
      refine lv_topi (fun x_166 e_167 => ?_)
      refine lv_istore (lv' := [(5, .int x_166), (6, .int 0), (4, .int k), (3, .int 2), (2, .int 4), (1, .int 0), (0, .ref h0)]) hx hb dX6_advise_94 hl (by decide) rfl (fun ls hl => ?_)
      refine lv_iinc (v := (-1)) (lv' := [(6, .int (-1)), (5, .int x_166), (4, .int k), (3, .int 2), (2, .int 4), (1, .int 0), (0, .ref h0)]) hx hb dX6_advise_96 hl (k := 1) rfl (by decide) (by decide) rfl (fun ls hl => ?_)
      refine lv_goto (tgt := 72) hx hb dX6_advise_99 (by decide) ?_
      refine lv_iload hx hb dX6_advise_72 (lv_at hl 0 rfl) ?_
      refine lv_if_lt (tgt := 102) hx hb dX6_advise_74 (by decide) (fun _ => ?_) (fun c_168 => absurd (by decide) c_168)
      refine lv_aload_n hx hb dX6_advise_102 rfl (lv_at hl 6 rfl) ?_
      refine lv_iload_n hx hb dX6_advise_103 rfl (lv_at hl 5 rfl) ?_
      refine lv_iload hx hb dX6_advise_104 (lv_at hl 1 rfl) ?_
      have hPc := hP.sub (ws' := [(h0, .inr (11, [.int 0, .int 1, .int 0, .int 1, .ref rq, .ref sbq])), (rq, .inl (ci, 119, .inl (RW xh xr xt xw)))]) [0, 1] rfl
      have hDc := hD.sub (ws' := [(h0, .inr (11, [.int 0, .int 1, .int 0, .int 1, .ref rq, .ref sbq])), (rq, .inl (ci, 119, .inl (RW xh xr xt xw)))]) [0, 1] (by decide) rfl
      have hKc := hK.sub (tys' := [(ci, .int)]) [0] rfl
      have hFc := va_free (wc := [(h0, .inr (11, [.int 0, .int 1, .int 0, .int 1, .ref rq, .ref sbq])), (rq, .inl (ci, 119, .inl (RW xh xr xt xw)))]) hD hS hA [0, 1] rfl
      have hb0 := hS.1
      refine va_calli (va_runV (As := [.int 0, .int x_166]) (rest := []) ⟨hx, hb, hml, hown, hts⟩ (c_homeBy l hl9 dC dI tE h0 rq sbq 0 ci xh xr xt xw x_166 _ ) (cwV 2 hts (goodIn_app (goodIn_r _ [58, 59, 60, 8] (by rfl) (by decide +kernel)) gg_c_Mi_advise_c_homeBy) rfl rfl rfl (by decide +kernel) ⟨Nat.le_of_ble_eq_true rfl, Nat.le_of_ble_eq_true rfl⟩) ⟨Pre0.blind, va_recv hKc hPc (ci := 11) (q0 := 0) rfl rfl, Pre0.give hPc hKc hDc hT hS hFc⟩ rfl rfl hl.1 rfl (lv_room (Nat.le_of_ble_eq_true rfl)) dX6_advise_106 ⟨(show _ ≤ 340 by omega), (show _ ≤ 40460 by omega)⟩) hS (fun q _ h => hFc q h) hFc (fun r_169 u t H1 locs ht hvm hw hB hz1 hk1 hS => ?_)
      obtain ⟨qx_170, fx_171, hP1, hK1, hD1⟩ := hB
      rw [ht] at hP1
      have hK1 := va_K.moved hvm.symm hK1
      obtain ⟨hP, hD⟩ := va_join (wr := []) (w1 := [(h0, .inr (11, [.int 0, .int 1, .int 0, .int 1, .ref rq, .ref sbq])), (rq, .inl (ci, 119, .inl (RW xh xr xt xw))), (qx_170, .inl (ci, 119, .inl fx_171))]) hP hD [0, 1] [] rfl rfl (by decide) (by decide) hk1 hFc hP1 hD1
      have hR := Rw.home hR hb0 hk1 hP1 hD1
      generalize H1 = H at hP hS hR ⊢
      have hP : va_P (dC, dI) vwCl [(h0, .inr (11, [.int 0, .int 1, .int 0, .int 1, .ref rq, .ref sbq])), (rq, .inl (ci, 119, .inl (RW xh xr xt xw))), (qx_170, .inl (ci, 119, .inl fx_171))] H := hP
      have hD : va_D A [(h0, .inr (11, [.int 0, .int 1, .int 0, .int 1, .ref rq, .ref sbq])), (rq, .inl (ci, 119, .inl (RW xh xr xt xw))), (qx_170, .inl (ci, 119, .inl fx_171))] := hD
      obtain rfl : r_169 = (-1) := hw
      have hP := hP.sub (ws' := [(h0, .inr (11, [.int 0, .int 1, .int 0, .int 1, .ref rq, .ref sbq])), (rq, .inl (ci, 119, .inl (RW xh xr xt xw)))]) [0, 1] rfl
      have hD := hD.sub (ws' := [(h0, .inr (11, [.int 0, .int 1, .int 0, .int 1, .ref rq, .ref sbq])), (rq, .inl (ci, 119, .inl (RW xh xr xt xw)))]) [0, 1] (by decide) rfl
      refine lv_iload_n hx hb dX6_advise_109 rfl (lv_at hl 3 rfl) ?_
      refine lv_icmp_ne (tgt := 116) hx hb dX6_advise_110 (by decide) (fun _ => ?_) (fun c_172 => absurd c_172 (by decide))
      refine lv_iinc (v := k + 1) (lv' := [(4, .int (k + 1)), (6, .int (-1)), (5, .int x_166), (3, .int 2), (2, .int 4), (1, .int 0), (0, .ref h0)]) hx hb dX6_advise_116 hl (k := 2) rfl rfl (by decide) rfl (fun ls hl => ?_)
      refine lv_goto (tgt := 54) hx hb dX6_advise_119 (by decide) ?_
      exact ih H locs _ _ _ _ ls (by omega) (k_next hj hk) (lv_sub hl [0, 3, 4, 5, 6] rfl) hP hD hS hR (by simp only [List.length_cons]; omega) (by simp only [List.length_cons]; omega) (by simp only [List.length_cons]; omega)
  have X1 : ∀ (H : Heap) (locs : List Loc) (cells slots : Nat) (S : List Nat) (ls : Array Slot), lv_has ls 7 [(3, .int 1), (2, .int 4), (1, .int 0), (0, .ref h0)] → va_P (dC, dI) vwCl [(h0, .inr (11, [.int 0, .int 1, .int 0, .int 1, .ref rq, .ref sbq])), (rq, .inl (ci, 119, .inl (RW xh xr xt xw)))] H → va_D A [(h0, .inr (11, [.int 0, .int 1, .int 0, .int 1, .ref rq, .ref sbq])), (rq, .inl (ci, 119, .inl (RW xh xr xt xw)))] → va_S A s.heap H locs → Rw s.heap.size S [(h0, .inr (11, [.int 0, .int 1, .int 0, .int 1, .ref rq, .ref sbq])), (rq, .inl (ci, 119, .inl (RW xh xr xt xw)))] H → S.length = 0 → cells ≤ S.length → slots ≤ 119 * S.length → W p l e ({ frames := 5, cells := 340, slots := 40460, locals := 116 } : Room) s m ([.ref h0, .int 0, .int 4] : List Value).toArray below meth c H locs cells slots (MQ below (va_Qi (fun (r : Int32) (_ : Unit) => r = (-1)) (fun _ t => ∃ T : List Nat, T.length = 340 ∧ Rw s.heap.size T [(h0, .inr (11, [.int 0, .int 1, .int 0, .int 1, .ref rq, .ref sbq])), (rq, .inl (ci, 119, .inl (RW xh xr xt xw)))] t.heap ∧ Pst dC dI [(ci, .int)] A [(h0, .inr (11, [.int 0, .int 1, .int 0, .int 1, .ref rq, .ref sbq])), (rq, .inl (ci, 119, .inl (RW xh xr xt xw)))] t) A) ([.ref h0, .int 0, .int 4] : List Value).toArray s 340 40460 A) (F0 m 46 ls []) := by
    intro H locs cells slots S ls hl hP hD hS hR hSl hc hs
    refine lv_iload_n hx hb dX6_advise_46 rfl (lv_at hl 0 rfl) ?_
    refine lv_iload_n hx hb dX6_advise_47 rfl (lv_at hl 1 rfl) ?_
    refine lv_icmp_gt (tgt := 128) hx hb dX6_advise_48 (by decide) (fun c_173 => absurd c_173 (by decide)) (fun _ => ?_)
    refine lv_iconst (v := 0) hx hb dX6_advise_51 (by decide) ?_
    refine lv_istore (lv' := [(4, .int 0), (3, .int 1), (2, .int 4), (1, .int 0), (0, .ref h0)]) hx hb dX6_advise_52 hl (by decide) rfl (fun ls hl => ?_)
    suffices loop : ∀ (j : Nat) (H : Heap) (locs : List Loc) (cells slots : Nat) (S : List Nat) (k : Int32) (ls : Array Slot), j ≤ 4 → k = nI (4 - j) → lv_has ls 7 [(4, .int k), (3, .int 1), (2, .int 4), (1, .int 0), (0, .ref h0)] → va_P (dC, dI) vwCl [(h0, .inr (11, [.int 0, .int 1, .int 0, .int 1, .ref rq, .ref sbq])), (rq, .inl (ci, 119, .inl (RW xh xr xt xw)))] H → va_D A [(h0, .inr (11, [.int 0, .int 1, .int 0, .int 1, .ref rq, .ref sbq])), (rq, .inl (ci, 119, .inl (RW xh xr xt xw)))] → va_S A s.heap H locs → Rw s.heap.size S [(h0, .inr (11, [.int 0, .int 1, .int 0, .int 1, .ref rq, .ref sbq])), (rq, .inl (ci, 119, .inl (RW xh xr xt xw)))] H → S.length = 0 + (4 - j) → cells ≤ S.length → slots ≤ 119 * S.length → W p l e ({ frames := 5, cells := 340, slots := 40460, locals := 116 } : Room) s m ([.ref h0, .int 0, .int 4] : List Value).toArray below meth c H locs cells slots (MQ below (va_Qi (fun (r : Int32) (_ : Unit) => r = (-1)) (fun _ t => ∃ T : List Nat, T.length = 340 ∧ Rw s.heap.size T [(h0, .inr (11, [.int 0, .int 1, .int 0, .int 1, .ref rq, .ref sbq])), (rq, .inl (ci, 119, .inl (RW xh xr xt xw)))] t.heap ∧ Pst dC dI [(ci, .int)] A [(h0, .inr (11, [.int 0, .int 1, .int 0, .int 1, .ref rq, .ref sbq])), (rq, .inl (ci, 119, .inl (RW xh xr xt xw)))] t) A) ([.ref h0, .int 0, .int 4] : List Value).toArray s 340 40460 A) (F0 m 54 ls []) from
      loop 4 H locs cells slots S 0 ls (Nat.le_refl _) (by decide) (lv_sub hl [0, 1, 2, 3, 4] rfl) hP hD hS hR (by omega) hc hs
    clear hl hP hD hS hR hSl hc hs
    clear H locs cells slots S
    intro j
    induction j with
    | zero =>
      intro H locs cells slots S k ls hj hk hl hP hD hS hR hSl hc hs
      refine lv_iload hx hb dX6_advise_54 (lv_at hl 0 rfl) ?_
      refine lv_iconst (v := 1) hx hb dX6_advise_56 (by decide) ?_
      refine lv_iconst (v := 2) hx hb dX6_advise_57 (by decide) ?_
      refine lv_iload_n hx hb dX6_advise_58 rfl (lv_at hl 1 rfl) ?_
      refine lv_imul hx hb dX6_advise_59 ?_
      refine lv_topi (fun x_174 e_175 => ?_)
      obtain rfl : x_174 = 2 := e_175.trans (by decide)
      refine lv_ishl hx hb dX6_advise_60 ?_
      refine lv_topi (fun x_176 e_177 => ?_)
      obtain rfl : x_176 = 4 := e_177.trans (by decide)
      refine lv_icmp_ge (tgt := 122) hx hb dX6_advise_61 (by decide) (fun _ => ?_) (fun c_178 => absurd (k_end (N := 4) (by decide) hk) c_178)
      refine lv_iinc (v := 2) (lv' := [(3, .int 2), (4, .int k), (2, .int 4), (1, .int 0), (0, .ref h0)]) hx hb dX6_advise_122 hl (k := 1) rfl (by decide) (by decide) rfl (fun ls hl => ?_)
      refine lv_goto (tgt := 46) hx hb dX6_advise_125 (by decide) ?_
      exact X2 H locs cells slots S ls (lv_sub hl [0, 2, 3, 4] rfl) hP hD hS hR (by omega) hc hs
    | succ j ih =>
      intro H locs cells slots S k ls hj hk hl hP hD hS hR hSl hc hs
      refine lv_iload hx hb dX6_advise_54 (lv_at hl 0 rfl) ?_
      refine lv_iconst (v := 1) hx hb dX6_advise_56 (by decide) ?_
      refine lv_iconst (v := 2) hx hb dX6_advise_57 (by decide) ?_
      refine lv_iload_n hx hb dX6_advise_58 rfl (lv_at hl 1 rfl) ?_
      refine lv_imul hx hb dX6_advise_59 ?_
      refine lv_topi (fun x_179 e_180 => ?_)
      obtain rfl : x_179 = 2 := e_180.trans (by decide)
      refine lv_ishl hx hb dX6_advise_60 ?_
      refine lv_topi (fun x_181 e_182 => ?_)
      obtain rfl : x_181 = 4 := e_182.trans (by decide)
      refine lv_icmp_ge (tgt := 122) hx hb dX6_advise_61 (by decide) (fun c_183 => absurd c_183 (k_lt (N := 4) (by decide) hj hk)) (fun _ => ?_)
      refine lv_iconst (v := 0) hx hb dX6_advise_64 (by decide) ?_
      refine lv_istore (lv' := [(5, .int 0), (4, .int k), (3, .int 1), (2, .int 4), (1, .int 0), (0, .ref h0)]) hx hb dX6_advise_65 hl (by decide) rfl (fun ls hl => ?_)
      refine lv_iload_n hx hb dX6_advise_67 rfl (lv_at hl 2 rfl) ?_
      refine lv_iconst (v := 1) hx hb dX6_advise_68 (by decide) ?_
      refine lv_isub hx hb dX6_advise_69 ?_
      refine lv_topi (fun x_184 e_185 => ?_)
      obtain rfl : x_184 = 0 := e_185.trans (by decide)
      refine lv_istore (lv' := [(6, .int 0), (5, .int 0), (4, .int k), (3, .int 1), (2, .int 4), (1, .int 0), (0, .ref h0)]) hx hb dX6_advise_70 hl (by decide) rfl (fun ls hl => ?_)
      refine lv_iload hx hb dX6_advise_72 (lv_at hl 0 rfl) ?_
      refine lv_if_lt (tgt := 102) hx hb dX6_advise_74 (by decide) (fun c_186 => absurd c_186 (by decide)) (fun _ => ?_)
      refine lv_bipush (v := 10) hx hb dX6_advise_77 (by decide) ?_
      refine lv_iload hx hb dX6_advise_79 (lv_at hl 1 rfl) ?_
      refine lv_imul hx hb dX6_advise_81 ?_
      refine lv_topi (fun x_187 e_188 => ?_)
      obtain rfl : x_187 = 0 := e_188.trans (by decide)
      refine lv_iconst (v := 1) hx hb dX6_advise_82 (by decide) ?_
      refine lv_iadd hx hb dX6_advise_83 ?_
      refine lv_topi (fun x_189 e_190 => ?_)
      obtain rfl : x_189 = 1 := e_190.trans (by decide)
      refine lv_iload hx hb dX6_advise_84 (lv_at hl 2 rfl) ?_
      refine lv_iconst (v := 2) hx hb dX6_advise_86 (by decide) ?_
      refine lv_iload hx hb dX6_advise_87 (lv_at hl 0 rfl) ?_
      refine lv_imul hx hb dX6_advise_89 ?_
      refine lv_topi (fun x_191 e_192 => ?_)
      obtain rfl : x_191 = 0 := e_192.trans (by decide)
      refine lv_ishr hx hb dX6_advise_90 ?_
      refine lv_topi (fun x_193 e_194 => ?_)
      refine lv_iconst (v := 3) hx hb dX6_advise_91 (by decide) ?_
      refine lv_iand hx hb dX6_advise_92 ?_
      refine lv_topi (fun x_195 e_196 => ?_)
      refine lv_iadd hx hb dX6_advise_93 ?_
      refine lv_topi (fun x_197 e_198 => ?_)
      refine lv_istore (lv' := [(5, .int x_197), (6, .int 0), (4, .int k), (3, .int 1), (2, .int 4), (1, .int 0), (0, .ref h0)]) hx hb dX6_advise_94 hl (by decide) rfl (fun ls hl => ?_)
      refine lv_iinc (v := (-1)) (lv' := [(6, .int (-1)), (5, .int x_197), (4, .int k), (3, .int 1), (2, .int 4), (1, .int 0), (0, .ref h0)]) hx hb dX6_advise_96 hl (k := 1) rfl (by decide) (by decide) rfl (fun ls hl => ?_)
      refine lv_goto (tgt := 72) hx hb dX6_advise_99 (by decide) ?_
      refine lv_iload hx hb dX6_advise_72 (lv_at hl 0 rfl) ?_
      refine lv_if_lt (tgt := 102) hx hb dX6_advise_74 (by decide) (fun _ => ?_) (fun c_199 => absurd (by decide) c_199)
      refine lv_aload_n hx hb dX6_advise_102 rfl (lv_at hl 6 rfl) ?_
      refine lv_iload_n hx hb dX6_advise_103 rfl (lv_at hl 5 rfl) ?_
      refine lv_iload hx hb dX6_advise_104 (lv_at hl 1 rfl) ?_
      have hPc := hP.sub (ws' := [(h0, .inr (11, [.int 0, .int 1, .int 0, .int 1, .ref rq, .ref sbq])), (rq, .inl (ci, 119, .inl (RW xh xr xt xw)))]) [0, 1] rfl
      have hDc := hD.sub (ws' := [(h0, .inr (11, [.int 0, .int 1, .int 0, .int 1, .ref rq, .ref sbq])), (rq, .inl (ci, 119, .inl (RW xh xr xt xw)))]) [0, 1] (by decide) rfl
      have hKc := hK.sub (tys' := [(ci, .int)]) [0] rfl
      have hFc := va_free (wc := [(h0, .inr (11, [.int 0, .int 1, .int 0, .int 1, .ref rq, .ref sbq])), (rq, .inl (ci, 119, .inl (RW xh xr xt xw)))]) hD hS hA [0, 1] rfl
      have hb0 := hS.1
      refine va_calli (va_runV (As := [.int 0, .int x_197]) (rest := []) ⟨hx, hb, hml, hown, hts⟩ (c_homeBy l hl9 dC dI tE h0 rq sbq 0 ci xh xr xt xw x_197 _ ) (cwV 2 hts (goodIn_app (goodIn_r _ [58, 59, 60, 8] (by rfl) (by decide +kernel)) gg_c_Mi_advise_c_homeBy) rfl rfl rfl (by decide +kernel) ⟨Nat.le_of_ble_eq_true rfl, Nat.le_of_ble_eq_true rfl⟩) ⟨Pre0.blind, va_recv hKc hPc (ci := 11) (q0 := 0) rfl rfl, Pre0.give hPc hKc hDc hT hS hFc⟩ rfl rfl hl.1 rfl (lv_room (Nat.le_of_ble_eq_true rfl)) dX6_advise_106 ⟨(show _ ≤ 340 by omega), (show _ ≤ 40460 by omega)⟩) hS (fun q _ h => hFc q h) hFc (fun r_200 u t H1 locs ht hvm hw hB hz1 hk1 hS => ?_)
      obtain ⟨qx_201, fx_202, hP1, hK1, hD1⟩ := hB
      rw [ht] at hP1
      have hK1 := va_K.moved hvm.symm hK1
      obtain ⟨hP, hD⟩ := va_join (wr := []) (w1 := [(h0, .inr (11, [.int 0, .int 1, .int 0, .int 1, .ref rq, .ref sbq])), (rq, .inl (ci, 119, .inl (RW xh xr xt xw))), (qx_201, .inl (ci, 119, .inl fx_202))]) hP hD [0, 1] [] rfl rfl (by decide) (by decide) hk1 hFc hP1 hD1
      have hR := Rw.home hR hb0 hk1 hP1 hD1
      generalize H1 = H at hP hS hR ⊢
      have hP : va_P (dC, dI) vwCl [(h0, .inr (11, [.int 0, .int 1, .int 0, .int 1, .ref rq, .ref sbq])), (rq, .inl (ci, 119, .inl (RW xh xr xt xw))), (qx_201, .inl (ci, 119, .inl fx_202))] H := hP
      have hD : va_D A [(h0, .inr (11, [.int 0, .int 1, .int 0, .int 1, .ref rq, .ref sbq])), (rq, .inl (ci, 119, .inl (RW xh xr xt xw))), (qx_201, .inl (ci, 119, .inl fx_202))] := hD
      obtain rfl : r_200 = (-1) := hw
      have hP := hP.sub (ws' := [(h0, .inr (11, [.int 0, .int 1, .int 0, .int 1, .ref rq, .ref sbq])), (rq, .inl (ci, 119, .inl (RW xh xr xt xw)))]) [0, 1] rfl
      have hD := hD.sub (ws' := [(h0, .inr (11, [.int 0, .int 1, .int 0, .int 1, .ref rq, .ref sbq])), (rq, .inl (ci, 119, .inl (RW xh xr xt xw)))]) [0, 1] (by decide) rfl
      refine lv_iload_n hx hb dX6_advise_109 rfl (lv_at hl 3 rfl) ?_
      refine lv_icmp_ne (tgt := 116) hx hb dX6_advise_110 (by decide) (fun _ => ?_) (fun c_203 => absurd c_203 (by decide))
      refine lv_iinc (v := k + 1) (lv' := [(4, .int (k + 1)), (6, .int (-1)), (5, .int x_197), (3, .int 1), (2, .int 4), (1, .int 0), (0, .ref h0)]) hx hb dX6_advise_116 hl (k := 2) rfl rfl (by decide) rfl (fun ls hl => ?_)
      refine lv_goto (tgt := 54) hx hb dX6_advise_119 (by decide) ?_
      exact ih H locs _ _ _ _ ls (by omega) (k_next hj hk) (lv_sub hl [0, 3, 4, 5, 6] rfl) hP hD hS hR (by simp only [List.length_cons]; omega) (by simp only [List.length_cons]; omega) (by simp only [List.length_cons]; omega)
  refine lv_aload_n hx hb dX6_advise_0 rfl (lv_at hl 0 rfl) ?_
  refine lv_iconst (v := 0) hx hb dX6_advise_1 (by decide) ?_
  refine va_put (D := (dC, dI)) (ci := 11) (v := .int 0) (ty := .int) (C := RX6) (T := TX6) (N := 6) hx hb hts u_c_Mi_advise_X6 tyX6 tyX6_ok nmX6 hown hK hP hD hS 0 rfl rfl 0 (by decide) (hts (.fieldLink RX6 20 "HotelOfBellsModel" "thrown" "I") (List.mem_of_getElem? (i := 61) rfl)) (fun _ h9 => h9) rfl (by decide +kernel) rfl rfl (Nat.le_of_ble_eq_true rfl) dX6_advise_2 (fun H locs hP hD hS => ?_)
  have hP : va_P (dC, dI) vwCl [(h0, .inr (11, [.int 0, .int 1, .int 0, .int 1, .ref rq, .ref sbq])), (rq, .inl (ci, 119, .inl (RW xh xr xt xw)))] H := hP
  have hD : va_D A [(h0, .inr (11, [.int 0, .int 1, .int 0, .int 1, .ref rq, .ref sbq])), (rq, .inl (ci, 119, .inl (RW xh xr xt xw)))] := hD
  refine lv_aload_n hx hb dX6_advise_5 rfl (lv_at hl 0 rfl) ?_
  refine lv_iload_n hx hb dX6_advise_6 rfl (lv_at hl 1 rfl) ?_
  have hPc := hP.sub (ws' := [(h0, .inr (11, [.int 0, .int 1, .int 0, .int 1, .ref rq, .ref sbq])), (rq, .inl (ci, 119, .inl (RW xh xr xt xw)))]) [0, 1] rfl
  have hDc := hD.sub (ws' := [(h0, .inr (11, [.int 0, .int 1, .int 0, .int 1, .ref rq, .ref sbq])), (rq, .inl (ci, 119, .inl (RW xh xr xt xw)))]) [0, 1] (by decide) rfl
  have hKc := hK.sub (tys' := [(ci, .int)]) [0] rfl
  have hFc := va_free (wc := [(h0, .inr (11, [.int 0, .int 1, .int 0, .int 1, .ref rq, .ref sbq])), (rq, .inl (ci, 119, .inl (RW xh xr xt xw)))]) hD hS hA [0, 1] rfl
  refine va_calli (va_runV (As := [.int 0]) (rest := []) ⟨hx, hb, hml, hown, hts⟩ (c_Mi_isGuest l hl9 dC dI tE h0 rq sbq 0 ci xh xr xt xw _ ) (cwV 1 hts (goodIn_app (goodIn_r _ [63, 64, 65, 8] (by rfl) (by decide +kernel)) gg_c_Mi_advise_c_Mi_isGuest) rfl rfl rfl (by decide +kernel) ⟨Nat.le_of_ble_eq_true rfl, Nat.le_of_ble_eq_true rfl⟩) ⟨Pre0.blind, va_recv hKc hPc (ci := 11) (q0 := 0) rfl rfl, Pre0.give hPc hKc hDc hT hS hFc⟩ rfl rfl hl.1 rfl (lv_room (Nat.le_of_ble_eq_true rfl)) dX6_advise_7 ⟨Nat.le_of_ble_eq_true rfl, Nat.le_of_ble_eq_true rfl⟩) hS (fun q _ h => hFc q h) hFc (fun r_204 u t H1 locs ht hvm hw hB hz1 hk1 hS => ?_)
  obtain ⟨hP1, hK1, hD1⟩ := hB
  rw [ht] at hP1
  have hK1 := va_K.moved hvm.symm hK1
  obtain ⟨hP, hD⟩ := va_join (wr := []) (w1 := [(h0, .inr (11, [.int 0, .int 1, .int 0, .int 1, .ref rq, .ref sbq])), (rq, .inl (ci, 119, .inl (RW xh xr xt xw)))]) hP hD [0, 1] [] rfl rfl (by decide) (by decide) hk1 hFc hP1 hD1
  generalize H1 = H at hP hS ⊢
  have hP : va_P (dC, dI) vwCl [(h0, .inr (11, [.int 0, .int 1, .int 0, .int 1, .ref rq, .ref sbq])), (rq, .inl (ci, 119, .inl (RW xh xr xt xw)))] H := hP
  have hD : va_D A [(h0, .inr (11, [.int 0, .int 1, .int 0, .int 1, .ref rq, .ref sbq])), (rq, .inl (ci, 119, .inl (RW xh xr xt xw)))] := hD
  refine W.widen (k := 0) (n := 0) (by omega) (by omega) ?_
  obtain rfl : r_204 = 1 := hw
  refine lv_if_ne (tgt := 19) hx hb dX6_advise_10 (by decide) (fun _ => ?_) (fun c_205 => absurd c_205 (by decide))
  refine lv_iload_n hx hb dX6_advise_19 rfl (lv_at hl 2 rfl) ?_
  refine lv_iconst (v := 1) hx hb dX6_advise_20 (by decide) ?_
  refine lv_iconst (v := 5) hx hb dX6_advise_21 (by decide) ?_
  have hPc := hP.sub (ws' := []) [] rfl
  have hDc := hD.sub (ws' := []) [] (by decide) rfl
  have hKc := hK.sub (tys' := []) [] rfl
  have hFc := va_free (wc := []) hD hS hA [] rfl
  refine va_calli (va_runS (As := [.int 4, .int 1, .int 5]) (rest := []) ⟨hx, hb, hml, hown, hts⟩ (c_isIn_4_1_5 l hl9 dC dI tE  _ ) (va_cwS 3 hts (goodIn_app (goodIn_r _ [20, 21, 8] (by rfl) (by decide +kernel)) gg_c_Mi_advise_c_isIn_4_1_5) rfl rfl rfl (by decide +kernel) ⟨Nat.le_of_ble_eq_true rfl, Nat.le_of_ble_eq_true rfl⟩) ⟨Pre0.blind, Pre0.give hPc hKc hDc hT hS hFc⟩ rfl rfl hl.1 rfl (lv_room (Nat.le_of_ble_eq_true rfl)) dX6_advise_22 ⟨Nat.le_of_ble_eq_true rfl, Nat.le_of_ble_eq_true rfl⟩) hS (fun q _ h => hFc q h) hFc (fun r_206 u t H1 locs ht hvm hw hB hz1 hk1 hS => ?_)
  obtain ⟨hP1, hK1, hD1⟩ := hB
  rw [ht] at hP1
  have hK1 := va_K.moved hvm.symm hK1
  obtain ⟨hP, hD⟩ := va_join (wr := [(h0, .inr (11, [.int 0, .int 1, .int 0, .int 1, .ref rq, .ref sbq])), (rq, .inl (ci, 119, .inl (RW xh xr xt xw)))]) (w1 := []) hP hD [] [0, 1] rfl rfl (by decide) (by decide) hk1 hFc hP1 hD1
  generalize H1 = H at hP hS ⊢
  have hP : va_P (dC, dI) vwCl [(h0, .inr (11, [.int 0, .int 1, .int 0, .int 1, .ref rq, .ref sbq])), (rq, .inl (ci, 119, .inl (RW xh xr xt xw)))] H := hP
  have hD : va_D A [(h0, .inr (11, [.int 0, .int 1, .int 0, .int 1, .ref rq, .ref sbq])), (rq, .inl (ci, 119, .inl (RW xh xr xt xw)))] := hD
  refine W.widen (k := 0) (n := 0) (by omega) (by omega) ?_
  obtain rfl : r_206 = 1 := hw
  refine lv_if_ne (tgt := 34) hx hb dX6_advise_25 (by decide) (fun _ => ?_) (fun c_207 => absurd c_207 (by decide))
  refine lv_aload_n hx hb dX6_advise_34 rfl (lv_at hl 0 rfl) ?_
  refine lv_iload_n hx hb dX6_advise_35 rfl (lv_at hl 1 rfl) ?_
  have hPc := hP.sub (ws' := [(h0, .inr (11, [.int 0, .int 1, .int 0, .int 1, .ref rq, .ref sbq])), (rq, .inl (ci, 119, .inl (RW xh xr xt xw)))]) [0, 1] rfl
  have hDc := hD.sub (ws' := [(h0, .inr (11, [.int 0, .int 1, .int 0, .int 1, .ref rq, .ref sbq])), (rq, .inl (ci, 119, .inl (RW xh xr xt xw)))]) [0, 1] (by decide) rfl
  have hKc := hK.sub (tys' := [(ci, .int)]) [0] rfl
  have hFc := va_free (wc := [(h0, .inr (11, [.int 0, .int 1, .int 0, .int 1, .ref rq, .ref sbq])), (rq, .inl (ci, 119, .inl (RW xh xr xt xw)))]) hD hS hA [0, 1] rfl
  refine va_calli (va_runV (As := [.int 0]) (rest := []) ⟨hx, hb, hml, hown, hts⟩ (c_isHome l hl9 dC dI tE h0 rq sbq 0 ci xh xr xt xw _ ) (cwV 1 hts (goodIn_app (goodIn_r _ [9, 10, 11, 8] (by rfl) (by decide +kernel)) gg_c_Mi_advise_c_isHome) rfl rfl rfl (by decide +kernel) ⟨Nat.le_of_ble_eq_true rfl, Nat.le_of_ble_eq_true rfl⟩) ⟨Pre0.blind, va_recv hKc hPc (ci := 11) (q0 := 0) rfl rfl, Pre0.give hPc hKc hDc hT hS hFc⟩ rfl rfl hl.1 rfl (lv_room (Nat.le_of_ble_eq_true rfl)) dX6_advise_36 ⟨Nat.le_of_ble_eq_true rfl, Nat.le_of_ble_eq_true rfl⟩) hS (fun q _ h => hFc q h) hFc (fun r_208 u t H1 locs ht hvm hw hB hz1 hk1 hS => ?_)
  obtain ⟨hP1, hK1, hD1⟩ := hB
  rw [ht] at hP1
  have hK1 := va_K.moved hvm.symm hK1
  obtain ⟨hP, hD⟩ := va_join (wr := []) (w1 := [(h0, .inr (11, [.int 0, .int 1, .int 0, .int 1, .ref rq, .ref sbq])), (rq, .inl (ci, 119, .inl (RW xh xr xt xw)))]) hP hD [0, 1] [] rfl rfl (by decide) (by decide) hk1 hFc hP1 hD1
  generalize H1 = H at hP hS ⊢
  have hP : va_P (dC, dI) vwCl [(h0, .inr (11, [.int 0, .int 1, .int 0, .int 1, .ref rq, .ref sbq])), (rq, .inl (ci, 119, .inl (RW xh xr xt xw)))] H := hP
  have hD : va_D A [(h0, .inr (11, [.int 0, .int 1, .int 0, .int 1, .ref rq, .ref sbq])), (rq, .inl (ci, 119, .inl (RW xh xr xt xw)))] := hD
  refine W.widen (k := 0) (n := 0) (by omega) (by omega) ?_
  obtain rfl : r_208 = 0 := hw
  refine lv_if_eq (tgt := 44) hx hb dX6_advise_39 (by decide) (fun _ => ?_) (fun c_209 => absurd (by decide) c_209)
  refine lv_iconst (v := 1) hx hb dX6_advise_44 (by decide) ?_
  refine lv_istore_n (lv' := [(3, .int 1), (0, .ref h0), (1, .int 0), (2, .int 4)]) hx hb dX6_advise_45 rfl hl (by decide) rfl (fun ls hl => ?_)
  exact X1 H locs 0 0 [] ls (lv_sub hl [0, 3, 2, 1] rfl) hP hD hS Rw.nil rfl (Nat.le_refl _) (Nat.zero_le _)
