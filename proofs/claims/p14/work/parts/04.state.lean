/-! what the tables give of the classes and links that the walks meet, as facts that pass from a caller to a callee -/
def tF (U : State) : Prop :=
  va_Nw (.castable "HotelOfBells$Floor" "java/lang/Object") U ∧
  va_Nw (.castable "HotelOfBells$Guest" "java/lang/Object") U ∧
  va_Nw (.methodLinkNest RX0 9 yX3_init RX5) U ∧
  va_Nw (.methodLinkNest RX5 24 yX3_init RX5) U ∧
  va_Nw (.methodLinkNest RX1 19 yX5_remainder RX5) U ∧
  va_Nw (.castable "[I" "java/lang/Cloneable") U ∧
  va_AO "java/lang/Object" U
theorem tF.a1 {U : State} (h : tF U) : va_Nw (.castable "HotelOfBells$Floor" "java/lang/Object") U := h.1
theorem tF.a5 {U : State} (h : tF U) : va_Nw (.castable "HotelOfBells$Guest" "java/lang/Object") U := h.2.1
theorem tF.n1 {U : State} (h : tF U) : va_Nw (.methodLinkNest RX0 9 yX3_init RX5) U := h.2.2.1
theorem tF.n2 {U : State} (h : tF U) : va_Nw (.methodLinkNest RX5 24 yX3_init RX5) U := h.2.2.2.1
theorem tF.n3 {U : State} (h : tF U) : va_Nw (.methodLinkNest RX1 19 yX5_remainder RX5) U := h.2.2.2.2.1
theorem tF.cl {U : State} (h : tF U) : va_Nw (.castable "[I" "java/lang/Cloneable") U := h.2.2.2.2.2.1
theorem tF.ao {U : State} (h : tF U) : va_AO "java/lang/Object" U := h.2.2.2.2.2.2
theorem tF.warm {s U : State} (hW : s.WarmedH U.vm) (h : tF s) : tF U := ⟨va_Nw.warmC hW (h.1), va_Nw.warmC hW (h.2.1), va_Nw.warmM hW (h.2.2.1), va_Nw.warmM hW (h.2.2.2.1), va_Nw.warmM hW (h.2.2.2.2.1), va_Nw.warmC hW (h.2.2.2.2.2.1), va_AO.moved hW.alike (h.2.2.2.2.2.2)⟩
theorem tF.same {u U : State} (hv : u.vm = U.vm) (h : tF u) : tF U := ⟨va_Nw.same rfl hv (h.1), va_Nw.same rfl hv (h.2.1), va_Nw.same rfl hv (h.2.2.1), va_Nw.same rfl hv (h.2.2.2.1), va_Nw.same rfl hv (h.2.2.2.2.1), va_Nw.same rfl hv (h.2.2.2.2.2.1), va_AO.moved (by rw [hv]; exact Vm.Alike.refl _) (h.2.2.2.2.2.2)⟩
def tK (tE : Nat) (A : Nat → Prop) (U : State) (H : Heap) : Prop :=
  va_Z "java/util/ArrayList" "DEFAULTCAPACITY_EMPTY_ELEMENTDATA" "[Ljava/lang/Object;" (.ref tE) A U H ∧ va_T (.object "java/lang/Object") tE 0 (fun _ => .null) A U H ∧
  va_Z "java/lang/String" "COMPACT_STRINGS" "Z" (.int 1) A U H ∧ tF U
theorem tK.zE {tE : Nat} {A : Nat → Prop} {U : State} {H : Heap} (h : tK tE A U H) : va_Z "java/util/ArrayList" "DEFAULTCAPACITY_EMPTY_ELEMENTDATA" "[Ljava/lang/Object;" (.ref tE) A U H := h.1
theorem tK.tE {tE : Nat} {A : Nat → Prop} {U : State} {H : Heap} (h : tK tE A U H) : va_T (.object "java/lang/Object") tE 0 (fun _ => .null) A U H := h.2.1
theorem tK.zC {tE : Nat} {A : Nat → Prop} {U : State} {H : Heap} (h : tK tE A U H) : va_Z "java/lang/String" "COMPACT_STRINGS" "Z" (.int 1) A U H := h.2.2.1
theorem tK.tf {tE : Nat} {A : Nat → Prop} {U : State} {H : Heap} (h : tK tE A U H) : tF U := h.2.2.2
theorem tK.a1 {tE : Nat} {A : Nat → Prop} {U : State} {H : Heap} (h : tK tE A U H) : va_Nw (.castable "HotelOfBells$Floor" "java/lang/Object") U := h.tf.a1
theorem tK.a5 {tE : Nat} {A : Nat → Prop} {U : State} {H : Heap} (h : tK tE A U H) : va_Nw (.castable "HotelOfBells$Guest" "java/lang/Object") U := h.tf.a5
theorem tK.n1 {tE : Nat} {A : Nat → Prop} {U : State} {H : Heap} (h : tK tE A U H) : va_Nw (.methodLinkNest RX0 9 yX3_init RX5) U := h.tf.n1
theorem tK.n2 {tE : Nat} {A : Nat → Prop} {U : State} {H : Heap} (h : tK tE A U H) : va_Nw (.methodLinkNest RX5 24 yX3_init RX5) U := h.tf.n2
theorem tK.n3 {tE : Nat} {A : Nat → Prop} {U : State} {H : Heap} (h : tK tE A U H) : va_Nw (.methodLinkNest RX1 19 yX5_remainder RX5) U := h.tf.n3
theorem tK.cl {tE : Nat} {A : Nat → Prop} {U : State} {H : Heap} (h : tK tE A U H) : va_Nw (.castable "[I" "java/lang/Cloneable") U := h.tf.cl
theorem tK.ao {tE : Nat} {A : Nat → Prop} {U : State} {H : Heap} (h : tK tE A U H) : va_AO "java/lang/Object" U := h.tf.ao
theorem tK.blind {tE : Nat} {A : Nat → Prop} {u U : State} {H : Heap} (hv : u.vm = U.vm) (h : tK tE A u H) : tK tE A U H := by
  have ha : u.vm.Alike U.vm := by rw [hv]; exact Vm.Alike.refl _
  exact ⟨va_Z.moved ha h.zE, va_T.moved ha h.tE, va_Z.moved ha h.zC, tF.same hv h.tf⟩
theorem tK.to {tE : Nat} {A B : Nat → Prop} {s U : State} {H : Heap} {locs : List Loc} (h : tK tE A s s.heap) (hS : va_S A s.heap H locs) (hU : U.heap = H) (hW : s.WarmedH U.vm) (hAB : ∀ q, B q → A q) : tK tE B U U.heap := by
  rw [hU]
  have ha := hW.alike
  exact ⟨va_Z.moved ha ((h.zE.kept hS.2.1).narrow hAB), va_T.moved ha ((h.tE.kept hS.2.1).narrow hAB), va_Z.moved ha ((h.zC.kept hS.2.1).narrow hAB), tF.warm hW h.tf⟩
/-- a contract's start: the world W, the arrays' classes tys, the heap's size -/
abbrev Pre0 (dC : Nat → ClassId) (dI : Nat → Nat → Nat) (tE : Nat) (sz : Nat) (tys : List (ClassId × FieldType)) (W : va_W) : State → Prop := fun U => U.heap.size = sz ∧ va_P (dC, dI) vwCl W U.heap ∧ va_K (dC, dI) vwCl tys U ∧ va_D (fun _ => True) W ∧ tK tE (va_A W sz) U U.heap
/-- the world behind it -/
abbrev Pst (dC : Nat → ClassId) (dI : Nat → Nat → Nat) (tys : List (ClassId × FieldType)) (A : Nat → Prop) (W : va_W) (t : State) : Prop := va_P (dC, dI) vwCl W t.heap ∧ va_K (dC, dI) vwCl tys t ∧ va_D A W
theorem Pre0.blind {dC : Nat → ClassId} {dI : Nat → Nat → Nat} {tE sz : Nat} {tys : List (ClassId × FieldType)} {W : va_W} {av : List Value} : FrameBlind (va_Pc av (Pre0 dC dI tE sz tys W)) := fun a U g mk q => by
  obtain ⟨q0, q1, qP, qK, qD, qT⟩ := q
  exact ⟨q0, q1, qP, va_K.moved (u := U) (U := U.calling g mk a) (Vm.Alike.refl U.vm) qK, qD, tK.blind (u := U) (U := U.calling g mk a) rfl qT⟩
theorem Pre0.give {dC : Nat → ClassId} {dI : Nat → Nat → Nat} {tE : Nat} {tys : List (ClassId × FieldType)} {W : va_W} {av : List Value} {s : State} {H : Heap} {A : Nat → Prop} {locs : List Loc} (hP : va_P (dC, dI) vwCl W H) (hK : va_K (dC, dI) vwCl tys s) (hD : va_D A W) (hT : tK tE A s s.heap) (hS : va_S A s.heap H locs) (hF : ∀ q, va_A W H.size q → A q) : ∀ U : State, U.heap = H → s.WarmedH U.vm → va_Pc av (Pre0 dC dI tE H.size tys W) av.toArray U := fun U hU hW => ⟨rfl, by rw [hU], by rw [hU]; exact hP, va_K.moved hW.alike hK, hD.weaken (fun _ _ _ _ => trivial), hT.to hS hU hW hF⟩
theorem cmp_self (x : Int64) : lg_cmp x x = 0 := by simp [lg_cmp]
theorem nw_asg {s : State} {C E : String} (h : va_Nw (.castable C E) s) : ∀ comp c0 : ClassId, s.vm.findClass E = some comp → s.vm.findClass C = some c0 → s.vm.assignable c0 comp = true := by
  intro comp c0 h1 h2
  obtain ⟨c3, c4, h3, h4, h5⟩ := Cond.castable_spec h
  cases h1.symm.trans h4
  cases h2.symm.trans h3
  exact h5
theorem ra_int {U : State} {cA : ClassId} (h : va_RA U cA .int) : U.vm.findClass "[I" = some cA := by
  have h2 : U.vm.findClass ("[" ++ (FieldType.int).toString) = some cA := h
  rwa [show "[" ++ (FieldType.int).toString = "[I" from by decide] at h2
theorem ra_inj_I {U : State} {c d : ClassId} (h : va_RA U c .int) (k : va_RA U d .int) : c = d := by
  have h2 : U.vm.findClass ("[" ++ (FieldType.int).toString) = some c := h
  have k2 : U.vm.findClass ("[" ++ (FieldType.int).toString) = some d := k
  exact Option.some.inj (h2.symm.trans k2)
theorem ra_inj_Z {U : State} {c d : ClassId} (h : va_RA U c .boolean) (k : va_RA U d .boolean) : c = d := by
  have h2 : U.vm.findClass ("[" ++ (FieldType.boolean).toString) = some c := h
  have k2 : U.vm.findClass ("[" ++ (FieldType.boolean).toString) = some d := k
  exact Option.some.inj (h2.symm.trans k2)
theorem ra_inj_B {U : State} {c d : ClassId} (h : va_RA U c .byte) (k : va_RA U d .byte) : c = d := by
  have h2 : U.vm.findClass ("[" ++ (FieldType.byte).toString) = some c := h
  have k2 : U.vm.findClass ("[" ++ (FieldType.byte).toString) = some d := k
  exact Option.some.inj (h2.symm.trans k2)
theorem ra_inj_O {U : State} {c d : ClassId} (h : va_RA U c (.object "java/lang/Object")) (k : va_RA U d (.object "java/lang/Object")) : c = d := by
  obtain ⟨-, -, -, -, -, h2⟩ := h
  obtain ⟨-, -, -, -, -, k2⟩ := k
  exact Option.some.inj (h2.symm.trans k2)
theorem fit_i (cA : ClassId) (n : Nat) (f : Nat → Int32) : ∀ (i : Nat) (v : Value), (vp_cell cA (n, .inl f)).slots[i]? = some v → fits .int v = true := by
  intro i v h
  have hsz : (vp_cell cA (n, .inl f)).slots.size = n := arrV_size _ _ _
  have hi : i < n := by
    have h9 := (Array.getElem?_eq_some_iff.mp h).1
    rw [hsz] at h9; exact h9
  have h2 : (vp_cell cA (n, .inl f)).slots[i]? = some (.int (f i)) := arrV_read _ _ hi
  cases h2.symm.trans h
  rfl
theorem up0 (x : Nat) : va_rf (va_up (fun _ => none) (0 : Int32).toNatClampNeg (some x) (0 : Int32).toNatClampNeg) = .ref x := by simp [va_up, va_rf]
theorem upd_z0 (k : Nat) : upd (fun _ => (0 : Int32)) k 0 = fun _ => 0 := by funext j; simp [upd]
theorem upd_z0z (k : Nat) : upd (fun _ => (0 : Int32)) k (vp_nar .boolean 0) = fun _ => 0 := by
  have h : vp_nar .boolean 0 = 0 := by decide
  rw [h]; exact upd_z0 k
/-- the row: one floor of three rooms that has the tune 1 and is not turned; one guest in its room 0 who wants the room 1; h the bells heard, r how many, t the turns, w the bells the guest waited for -/
def RW (h r t w : Int32) : Nat → Int32 := fun k => if k = 116 then h else if k = 117 then r else if k = 118 then t else if k = 61 then w else if k = 0 then 3 else if k = 2 then 1 else if k = 58 then -1 else if k = 60 then 1 else 0
theorem rw_l0 (h r t w : Int32) : RW h r t w (0 : Int32).toNatClampNeg = 3 := by rfl
theorem rw_l1 (h r t w : Int32) : RW h r t w (1 : Int32).toNatClampNeg = 0 := by rfl
theorem rw_l2 (h r t w : Int32) : RW h r t w (2 : Int32).toNatClampNeg = 1 := by rfl
theorem rw_l3 (h r t w : Int32) : RW h r t w (3 : Int32).toNatClampNeg = 0 := by rfl
theorem rw_l56 (h r t w : Int32) : RW h r t w (56 : Int32).toNatClampNeg = 0 := by rfl
theorem rw_l57 (h r t w : Int32) : RW h r t w (57 : Int32).toNatClampNeg = 0 := by rfl
theorem rw_l58 (h r t w : Int32) : RW h r t w (58 : Int32).toNatClampNeg = -1 := by rfl
theorem rw_l59 (h r t w : Int32) : RW h r t w (59 : Int32).toNatClampNeg = 0 := by rfl
theorem rw_l60 (h r t w : Int32) : RW h r t w (60 : Int32).toNatClampNeg = 1 := by rfl
theorem rw_l61 (h r t w : Int32) : RW h r t w (61 : Int32).toNatClampNeg = w := by rfl
theorem rw_l116 (h r t w : Int32) : RW h r t w (116 : Int32).toNatClampNeg = h := by rfl
theorem rw_l117 (h r t w : Int32) : RW h r t w (117 : Int32).toNatClampNeg = r := by rfl
theorem rw_l118 (h r t w : Int32) : RW h r t w (118 : Int32).toNatClampNeg = t := by rfl
theorem rw_s116 (h r t w x : Int32) : upd (RW h r t w) (116 : Int32).toNatClampNeg x = RW x r t w := by
  have e : (116 : Int32).toNatClampNeg = 116 := by decide
  rw [e]; funext j; by_cases hj : j = 116
  · subst hj; rfl
  · simp [upd, RW, hj]
theorem rw_s117 (h r t w x : Int32) : upd (RW h r t w) (117 : Int32).toNatClampNeg x = RW h x t w := by
  have e : (117 : Int32).toNatClampNeg = 117 := by decide
  rw [e]; funext j; by_cases hj : j = 117
  · subst hj; rfl
  · simp [upd, RW, hj]
theorem rw_s118 (h r t w x : Int32) : upd (RW h r t w) (118 : Int32).toNatClampNeg x = RW h r x w := by
  have e : (118 : Int32).toNatClampNeg = 118 := by decide
  rw [e]; funext j; by_cases hj : j = 118
  · subst hj; rfl
  · simp [upd, RW, hj]
theorem rw_s61 (h r t w x : Int32) : upd (RW h r t w) (61 : Int32).toNatClampNeg x = RW h r t x := by
  have e : (61 : Int32).toNatClampNeg = 61 := by decide
  rw [e]; funext j; by_cases hj : j = 61
  · subst hj; rfl
  · simp [upd, RW, hj]
theorem rw_s1 (h r t w : Int32) : upd (RW h r t w) (1 : Int32).toNatClampNeg 0 = RW h r t w := by
  have e : (1 : Int32).toNatClampNeg = 1 := by decide
  rw [e]; funext j; by_cases hj : j = 1
  · subst hj; rfl
  · simp [upd, RW, hj]
