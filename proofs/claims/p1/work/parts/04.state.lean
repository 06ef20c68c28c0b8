/-! what the tables give of the classes, links and texts that the walks meet, as facts that pass from a caller to a callee -/
def tF (U : State) : Prop :=
  va_Nw (.castable "java/lang/IllegalArgumentException" "java/lang/IllegalArgumentException") U ∧
  va_Nw (.castable "java/lang/IndexOutOfBoundsException" "java/lang/IndexOutOfBoundsException") U ∧
  va_Nw (.castable "HotelOfBells$Floor" "java/lang/Object") U ∧
  va_Nw (.castable "HotelOfBells$Shaft" "java/lang/Object") U ∧
  va_Nw (.declares ⟨"java/lang/RuntimeException", "<init>", "(Ljava/lang/String;)V"⟩) U ∧
  va_Nw (.declares ⟨"java/lang/Exception", "<init>", "(Ljava/lang/String;)V"⟩) U ∧
  va_Nw (.declares ⟨"java/lang/Throwable", "<init>", "(Ljava/lang/String;)V"⟩) U ∧
  va_Nw (.methodLinkNest RX0 9 yX3_init RX5) U ∧
  va_Nw (.methodLinkNest RX5 24 yX3_init RX5) U ∧
  va_AO "java/lang/Object" U ∧
  (∃ sa : Nat, vk_R RX5 44 "a floor has 3 to 12 rooms" sa U) ∧
  (∃ sa : Nat, vk_R RX5 55 "there are 6 floors" sa U) ∧
  (∃ sa : Nat, vk_R RX5 73 "no such floor" sa U) ∧
  (∃ sa : Nat, vk_R RX5 80 "no such tune" sa U) ∧
  (∃ sa : Nat, vk_R RX5 82 "a step is -5 to 5" sa U) ∧
  (∃ sa : Nat, vk_R RX5 98 "there are 4 lifts" sa U) ∧
  (∃ sa : Nat, vk_R RX5 106 "no such lift or floor" sa U) ∧
  (∃ sa : Nat, vk_R RX5 111 "no such place" sa U) ∧
  (∃ sa : Nat, vk_R RX5 124 "no such floor or room" sa U) ∧
  (∃ sa : Nat, vk_R RX5 126 "there are 10 guests" sa U) ∧
  (∃ sa : Nat, vk_R RX5 135 "no such guest, floor or room" sa U) ∧
  (∃ sa : Nat, vk_R RX5 162 "a floor tells 0 to 5" sa U) ∧
  (∃ sa : Nat, vk_R RX5 168 "no such lift" sa U) ∧
  (∃ sa : Nat, vk_R RX5 179 "a lift tells 0 to 3" sa U) ∧
  (∃ sa : Nat, vk_R RX5 181 "no such guest" sa U) ∧
  (∃ sa : Nat, vk_R RX5 192 "a guest tells 0 to 6" sa U) ∧
  (∃ sa : Nat, vk_R RX5 209 "there are the counts 0 to 7" sa U) ∧
  (∃ sa : Nat, vk_R RX5 214 "a tone is 0 to 3" sa U) ∧
  (∃ sa : Nat, vk_R RX5 245 "advice is of 1 to 5 bells" sa U) ∧
  (∃ sa : Nat, vk_R RX5 267 "no such place on the paper" sa U)
theorem tF.eI {U : State} (h : tF U) : va_Nw (.castable "java/lang/IllegalArgumentException" "java/lang/IllegalArgumentException") U := h.1
theorem tF.eX {U : State} (h : tF U) : va_Nw (.castable "java/lang/IndexOutOfBoundsException" "java/lang/IndexOutOfBoundsException") U := h.2.1
theorem tF.a1 {U : State} (h : tF U) : va_Nw (.castable "HotelOfBells$Floor" "java/lang/Object") U := h.2.2.1
theorem tF.a4 {U : State} (h : tF U) : va_Nw (.castable "HotelOfBells$Shaft" "java/lang/Object") U := h.2.2.2.1
theorem tF.d1 {U : State} (h : tF U) : va_Nw (.declares ⟨"java/lang/RuntimeException", "<init>", "(Ljava/lang/String;)V"⟩) U := h.2.2.2.2.1
theorem tF.d2 {U : State} (h : tF U) : va_Nw (.declares ⟨"java/lang/Exception", "<init>", "(Ljava/lang/String;)V"⟩) U := h.2.2.2.2.2.1
theorem tF.d3 {U : State} (h : tF U) : va_Nw (.declares ⟨"java/lang/Throwable", "<init>", "(Ljava/lang/String;)V"⟩) U := h.2.2.2.2.2.2.1
theorem tF.n1 {U : State} (h : tF U) : va_Nw (.methodLinkNest RX0 9 yX3_init RX5) U := h.2.2.2.2.2.2.2.1
theorem tF.n2 {U : State} (h : tF U) : va_Nw (.methodLinkNest RX5 24 yX3_init RX5) U := h.2.2.2.2.2.2.2.2.1
theorem tF.ao {U : State} (h : tF U) : va_AO "java/lang/Object" U := h.2.2.2.2.2.2.2.2.2.1
theorem tF.s44 {U : State} (h : tF U) : (∃ sa : Nat, vk_R RX5 44 "a floor has 3 to 12 rooms" sa U) := h.2.2.2.2.2.2.2.2.2.2.1
theorem tF.s55 {U : State} (h : tF U) : (∃ sa : Nat, vk_R RX5 55 "there are 6 floors" sa U) := h.2.2.2.2.2.2.2.2.2.2.2.1
theorem tF.s73 {U : State} (h : tF U) : (∃ sa : Nat, vk_R RX5 73 "no such floor" sa U) := h.2.2.2.2.2.2.2.2.2.2.2.2.1
theorem tF.s80 {U : State} (h : tF U) : (∃ sa : Nat, vk_R RX5 80 "no such tune" sa U) := h.2.2.2.2.2.2.2.2.2.2.2.2.2.1
theorem tF.s82 {U : State} (h : tF U) : (∃ sa : Nat, vk_R RX5 82 "a step is -5 to 5" sa U) := h.2.2.2.2.2.2.2.2.2.2.2.2.2.2.1
theorem tF.s98 {U : State} (h : tF U) : (∃ sa : Nat, vk_R RX5 98 "there are 4 lifts" sa U) := h.2.2.2.2.2.2.2.2.2.2.2.2.2.2.2.1
theorem tF.s106 {U : State} (h : tF U) : (∃ sa : Nat, vk_R RX5 106 "no such lift or floor" sa U) := h.2.2.2.2.2.2.2.2.2.2.2.2.2.2.2.2.1
theorem tF.s111 {U : State} (h : tF U) : (∃ sa : Nat, vk_R RX5 111 "no such place" sa U) := h.2.2.2.2.2.2.2.2.2.2.2.2.2.2.2.2.2.1
theorem tF.s124 {U : State} (h : tF U) : (∃ sa : Nat, vk_R RX5 124 "no such floor or room" sa U) := h.2.2.2.2.2.2.2.2.2.2.2.2.2.2.2.2.2.2.1
theorem tF.s126 {U : State} (h : tF U) : (∃ sa : Nat, vk_R RX5 126 "there are 10 guests" sa U) := h.2.2.2.2.2.2.2.2.2.2.2.2.2.2.2.2.2.2.2.1
theorem tF.s135 {U : State} (h : tF U) : (∃ sa : Nat, vk_R RX5 135 "no such guest, floor or room" sa U) := h.2.2.2.2.2.2.2.2.2.2.2.2.2.2.2.2.2.2.2.2.1
theorem tF.s162 {U : State} (h : tF U) : (∃ sa : Nat, vk_R RX5 162 "a floor tells 0 to 5" sa U) := h.2.2.2.2.2.2.2.2.2.2.2.2.2.2.2.2.2.2.2.2.2.1
theorem tF.s168 {U : State} (h : tF U) : (∃ sa : Nat, vk_R RX5 168 "no such lift" sa U) := h.2.2.2.2.2.2.2.2.2.2.2.2.2.2.2.2.2.2.2.2.2.2.1
theorem tF.s179 {U : State} (h : tF U) : (∃ sa : Nat, vk_R RX5 179 "a lift tells 0 to 3" sa U) := h.2.2.2.2.2.2.2.2.2.2.2.2.2.2.2.2.2.2.2.2.2.2.2.1
theorem tF.s181 {U : State} (h : tF U) : (∃ sa : Nat, vk_R RX5 181 "no such guest" sa U) := h.2.2.2.2.2.2.2.2.2.2.2.2.2.2.2.2.2.2.2.2.2.2.2.2.1
theorem tF.s192 {U : State} (h : tF U) : (∃ sa : Nat, vk_R RX5 192 "a guest tells 0 to 6" sa U) := h.2.2.2.2.2.2.2.2.2.2.2.2.2.2.2.2.2.2.2.2.2.2.2.2.2.1
theorem tF.s209 {U : State} (h : tF U) : (∃ sa : Nat, vk_R RX5 209 "there are the counts 0 to 7" sa U) := h.2.2.2.2.2.2.2.2.2.2.2.2.2.2.2.2.2.2.2.2.2.2.2.2.2.2.1
theorem tF.s214 {U : State} (h : tF U) : (∃ sa : Nat, vk_R RX5 214 "a tone is 0 to 3" sa U) := h.2.2.2.2.2.2.2.2.2.2.2.2.2.2.2.2.2.2.2.2.2.2.2.2.2.2.2.1
theorem tF.s245 {U : State} (h : tF U) : (∃ sa : Nat, vk_R RX5 245 "advice is of 1 to 5 bells" sa U) := h.2.2.2.2.2.2.2.2.2.2.2.2.2.2.2.2.2.2.2.2.2.2.2.2.2.2.2.2.1
theorem tF.s267 {U : State} (h : tF U) : (∃ sa : Nat, vk_R RX5 267 "no such place on the paper" sa U) := h.2.2.2.2.2.2.2.2.2.2.2.2.2.2.2.2.2.2.2.2.2.2.2.2.2.2.2.2.2
theorem tF.warm {s U : State} (hW : s.WarmedH U.vm) (h : tF s) : tF U := ⟨va_Nw.warmC hW (h.1), va_Nw.warmC hW (h.2.1), va_Nw.warmC hW (h.2.2.1), va_Nw.warmC hW (h.2.2.2.1), va_Nw.warmD hW (h.2.2.2.2.1), va_Nw.warmD hW (h.2.2.2.2.2.1), va_Nw.warmD hW (h.2.2.2.2.2.2.1), va_Nw.warmM hW (h.2.2.2.2.2.2.2.1), va_Nw.warmM hW (h.2.2.2.2.2.2.2.2.1), va_AO.moved hW.alike (h.2.2.2.2.2.2.2.2.2.1), (by obtain ⟨sa, q⟩ := h.2.2.2.2.2.2.2.2.2.2.1; exact ⟨sa, vk_R.warm hW q⟩), (by obtain ⟨sa, q⟩ := h.2.2.2.2.2.2.2.2.2.2.2.1; exact ⟨sa, vk_R.warm hW q⟩), (by obtain ⟨sa, q⟩ := h.2.2.2.2.2.2.2.2.2.2.2.2.1; exact ⟨sa, vk_R.warm hW q⟩), (by obtain ⟨sa, q⟩ := h.2.2.2.2.2.2.2.2.2.2.2.2.2.1; exact ⟨sa, vk_R.warm hW q⟩), (by obtain ⟨sa, q⟩ := h.2.2.2.2.2.2.2.2.2.2.2.2.2.2.1; exact ⟨sa, vk_R.warm hW q⟩), (by obtain ⟨sa, q⟩ := h.2.2.2.2.2.2.2.2.2.2.2.2.2.2.2.1; exact ⟨sa, vk_R.warm hW q⟩), (by obtain ⟨sa, q⟩ := h.2.2.2.2.2.2.2.2.2.2.2.2.2.2.2.2.1; exact ⟨sa, vk_R.warm hW q⟩), (by obtain ⟨sa, q⟩ := h.2.2.2.2.2.2.2.2.2.2.2.2.2.2.2.2.2.1; exact ⟨sa, vk_R.warm hW q⟩), (by obtain ⟨sa, q⟩ := h.2.2.2.2.2.2.2.2.2.2.2.2.2.2.2.2.2.2.1; exact ⟨sa, vk_R.warm hW q⟩), (by obtain ⟨sa, q⟩ := h.2.2.2.2.2.2.2.2.2.2.2.2.2.2.2.2.2.2.2.1; exact ⟨sa, vk_R.warm hW q⟩), (by obtain ⟨sa, q⟩ := h.2.2.2.2.2.2.2.2.2.2.2.2.2.2.2.2.2.2.2.2.1; exact ⟨sa, vk_R.warm hW q⟩), (by obtain ⟨sa, q⟩ := h.2.2.2.2.2.2.2.2.2.2.2.2.2.2.2.2.2.2.2.2.2.1; exact ⟨sa, vk_R.warm hW q⟩), (by obtain ⟨sa, q⟩ := h.2.2.2.2.2.2.2.2.2.2.2.2.2.2.2.2.2.2.2.2.2.2.1; exact ⟨sa, vk_R.warm hW q⟩), (by obtain ⟨sa, q⟩ := h.2.2.2.2.2.2.2.2.2.2.2.2.2.2.2.2.2.2.2.2.2.2.2.1; exact ⟨sa, vk_R.warm hW q⟩), (by obtain ⟨sa, q⟩ := h.2.2.2.2.2.2.2.2.2.2.2.2.2.2.2.2.2.2.2.2.2.2.2.2.1; exact ⟨sa, vk_R.warm hW q⟩), (by obtain ⟨sa, q⟩ := h.2.2.2.2.2.2.2.2.2.2.2.2.2.2.2.2.2.2.2.2.2.2.2.2.2.1; exact ⟨sa, vk_R.warm hW q⟩), (by obtain ⟨sa, q⟩ := h.2.2.2.2.2.2.2.2.2.2.2.2.2.2.2.2.2.2.2.2.2.2.2.2.2.2.1; exact ⟨sa, vk_R.warm hW q⟩), (by obtain ⟨sa, q⟩ := h.2.2.2.2.2.2.2.2.2.2.2.2.2.2.2.2.2.2.2.2.2.2.2.2.2.2.2.1; exact ⟨sa, vk_R.warm hW q⟩), (by obtain ⟨sa, q⟩ := h.2.2.2.2.2.2.2.2.2.2.2.2.2.2.2.2.2.2.2.2.2.2.2.2.2.2.2.2.1; exact ⟨sa, vk_R.warm hW q⟩), (by obtain ⟨sa, q⟩ := h.2.2.2.2.2.2.2.2.2.2.2.2.2.2.2.2.2.2.2.2.2.2.2.2.2.2.2.2.2; exact ⟨sa, vk_R.warm hW q⟩)⟩
theorem tF.same {u U : State} (hv : u.vm = U.vm) (h : tF u) : tF U := ⟨va_Nw.same rfl hv (h.1), va_Nw.same rfl hv (h.2.1), va_Nw.same rfl hv (h.2.2.1), va_Nw.same rfl hv (h.2.2.2.1), va_Nw.same rfl hv (h.2.2.2.2.1), va_Nw.same rfl hv (h.2.2.2.2.2.1), va_Nw.same rfl hv (h.2.2.2.2.2.2.1), va_Nw.same rfl hv (h.2.2.2.2.2.2.2.1), va_Nw.same rfl hv (h.2.2.2.2.2.2.2.2.1), va_AO.moved (by rw [hv]; exact Vm.Alike.refl _) (h.2.2.2.2.2.2.2.2.2.1), (by obtain ⟨sa, q⟩ := h.2.2.2.2.2.2.2.2.2.2.1; exact ⟨sa, vk_R.same hv.symm q⟩), (by obtain ⟨sa, q⟩ := h.2.2.2.2.2.2.2.2.2.2.2.1; exact ⟨sa, vk_R.same hv.symm q⟩), (by obtain ⟨sa, q⟩ := h.2.2.2.2.2.2.2.2.2.2.2.2.1; exact ⟨sa, vk_R.same hv.symm q⟩), (by obtain ⟨sa, q⟩ := h.2.2.2.2.2.2.2.2.2.2.2.2.2.1; exact ⟨sa, vk_R.same hv.symm q⟩), (by obtain ⟨sa, q⟩ := h.2.2.2.2.2.2.2.2.2.2.2.2.2.2.1; exact ⟨sa, vk_R.same hv.symm q⟩), (by obtain ⟨sa, q⟩ := h.2.2.2.2.2.2.2.2.2.2.2.2.2.2.2.1; exact ⟨sa, vk_R.same hv.symm q⟩), (by obtain ⟨sa, q⟩ := h.2.2.2.2.2.2.2.2.2.2.2.2.2.2.2.2.1; exact ⟨sa, vk_R.same hv.symm q⟩), (by obtain ⟨sa, q⟩ := h.2.2.2.2.2.2.2.2.2.2.2.2.2.2.2.2.2.1; exact ⟨sa, vk_R.same hv.symm q⟩), (by obtain ⟨sa, q⟩ := h.2.2.2.2.2.2.2.2.2.2.2.2.2.2.2.2.2.2.1; exact ⟨sa, vk_R.same hv.symm q⟩), (by obtain ⟨sa, q⟩ := h.2.2.2.2.2.2.2.2.2.2.2.2.2.2.2.2.2.2.2.1; exact ⟨sa, vk_R.same hv.symm q⟩), (by obtain ⟨sa, q⟩ := h.2.2.2.2.2.2.2.2.2.2.2.2.2.2.2.2.2.2.2.2.1; exact ⟨sa, vk_R.same hv.symm q⟩), (by obtain ⟨sa, q⟩ := h.2.2.2.2.2.2.2.2.2.2.2.2.2.2.2.2.2.2.2.2.2.1; exact ⟨sa, vk_R.same hv.symm q⟩), (by obtain ⟨sa, q⟩ := h.2.2.2.2.2.2.2.2.2.2.2.2.2.2.2.2.2.2.2.2.2.2.1; exact ⟨sa, vk_R.same hv.symm q⟩), (by obtain ⟨sa, q⟩ := h.2.2.2.2.2.2.2.2.2.2.2.2.2.2.2.2.2.2.2.2.2.2.2.1; exact ⟨sa, vk_R.same hv.symm q⟩), (by obtain ⟨sa, q⟩ := h.2.2.2.2.2.2.2.2.2.2.2.2.2.2.2.2.2.2.2.2.2.2.2.2.1; exact ⟨sa, vk_R.same hv.symm q⟩), (by obtain ⟨sa, q⟩ := h.2.2.2.2.2.2.2.2.2.2.2.2.2.2.2.2.2.2.2.2.2.2.2.2.2.1; exact ⟨sa, vk_R.same hv.symm q⟩), (by obtain ⟨sa, q⟩ := h.2.2.2.2.2.2.2.2.2.2.2.2.2.2.2.2.2.2.2.2.2.2.2.2.2.2.1; exact ⟨sa, vk_R.same hv.symm q⟩), (by obtain ⟨sa, q⟩ := h.2.2.2.2.2.2.2.2.2.2.2.2.2.2.2.2.2.2.2.2.2.2.2.2.2.2.2.1; exact ⟨sa, vk_R.same hv.symm q⟩), (by obtain ⟨sa, q⟩ := h.2.2.2.2.2.2.2.2.2.2.2.2.2.2.2.2.2.2.2.2.2.2.2.2.2.2.2.2.1; exact ⟨sa, vk_R.same hv.symm q⟩), (by obtain ⟨sa, q⟩ := h.2.2.2.2.2.2.2.2.2.2.2.2.2.2.2.2.2.2.2.2.2.2.2.2.2.2.2.2.2; exact ⟨sa, vk_R.same hv.symm q⟩)⟩
def tK (tE : Nat) (A : Nat → Prop) (U : State) (H : Heap) : Prop :=
  vx_Zq Bundle.tN "UNASSIGNED_STACK" Bundle.steD A U H ∧ vx_Zq Bundle.tN "SUPPRESSED_SENTINEL" Bundle.listD A U H ∧
  va_Z "java/util/ArrayList" "DEFAULTCAPACITY_EMPTY_ELEMENTDATA" "[Ljava/lang/Object;" (.ref tE) A U H ∧ va_T (.object "java/lang/Object") tE 0 (fun _ => .null) A U H ∧
  va_Z "java/lang/String" "COMPACT_STRINGS" "Z" (.int 1) A U H ∧ tF U
theorem tK.zU {tE : Nat} {A : Nat → Prop} {U : State} {H : Heap} (h : tK tE A U H) : vx_Zq Bundle.tN "UNASSIGNED_STACK" Bundle.steD A U H := h.1
theorem tK.zS {tE : Nat} {A : Nat → Prop} {U : State} {H : Heap} (h : tK tE A U H) : vx_Zq Bundle.tN "SUPPRESSED_SENTINEL" Bundle.listD A U H := h.2.1
theorem tK.zE {tE : Nat} {A : Nat → Prop} {U : State} {H : Heap} (h : tK tE A U H) : va_Z "java/util/ArrayList" "DEFAULTCAPACITY_EMPTY_ELEMENTDATA" "[Ljava/lang/Object;" (.ref tE) A U H := h.2.2.1
theorem tK.tE {tE : Nat} {A : Nat → Prop} {U : State} {H : Heap} (h : tK tE A U H) : va_T (.object "java/lang/Object") tE 0 (fun _ => .null) A U H := h.2.2.2.1
theorem tK.zC {tE : Nat} {A : Nat → Prop} {U : State} {H : Heap} (h : tK tE A U H) : va_Z "java/lang/String" "COMPACT_STRINGS" "Z" (.int 1) A U H := h.2.2.2.2.1
theorem tK.tf {tE : Nat} {A : Nat → Prop} {U : State} {H : Heap} (h : tK tE A U H) : tF U := h.2.2.2.2.2
theorem tK.eI {tE : Nat} {A : Nat → Prop} {U : State} {H : Heap} (h : tK tE A U H) : va_Nw (.castable "java/lang/IllegalArgumentException" "java/lang/IllegalArgumentException") U := h.tf.eI
theorem tK.eX {tE : Nat} {A : Nat → Prop} {U : State} {H : Heap} (h : tK tE A U H) : va_Nw (.castable "java/lang/IndexOutOfBoundsException" "java/lang/IndexOutOfBoundsException") U := h.tf.eX
theorem tK.a1 {tE : Nat} {A : Nat → Prop} {U : State} {H : Heap} (h : tK tE A U H) : va_Nw (.castable "HotelOfBells$Floor" "java/lang/Object") U := h.tf.a1
theorem tK.a4 {tE : Nat} {A : Nat → Prop} {U : State} {H : Heap} (h : tK tE A U H) : va_Nw (.castable "HotelOfBells$Shaft" "java/lang/Object") U := h.tf.a4
theorem tK.d1 {tE : Nat} {A : Nat → Prop} {U : State} {H : Heap} (h : tK tE A U H) : va_Nw (.declares ⟨"java/lang/RuntimeException", "<init>", "(Ljava/lang/String;)V"⟩) U := h.tf.d1
theorem tK.d2 {tE : Nat} {A : Nat → Prop} {U : State} {H : Heap} (h : tK tE A U H) : va_Nw (.declares ⟨"java/lang/Exception", "<init>", "(Ljava/lang/String;)V"⟩) U := h.tf.d2
theorem tK.d3 {tE : Nat} {A : Nat → Prop} {U : State} {H : Heap} (h : tK tE A U H) : va_Nw (.declares ⟨"java/lang/Throwable", "<init>", "(Ljava/lang/String;)V"⟩) U := h.tf.d3
theorem tK.n1 {tE : Nat} {A : Nat → Prop} {U : State} {H : Heap} (h : tK tE A U H) : va_Nw (.methodLinkNest RX0 9 yX3_init RX5) U := h.tf.n1
theorem tK.n2 {tE : Nat} {A : Nat → Prop} {U : State} {H : Heap} (h : tK tE A U H) : va_Nw (.methodLinkNest RX5 24 yX3_init RX5) U := h.tf.n2
theorem tK.ao {tE : Nat} {A : Nat → Prop} {U : State} {H : Heap} (h : tK tE A U H) : va_AO "java/lang/Object" U := h.tf.ao
theorem tK.s44 {tE : Nat} {A : Nat → Prop} {U : State} {H : Heap} (h : tK tE A U H) : (∃ sa : Nat, vk_R RX5 44 "a floor has 3 to 12 rooms" sa U) := h.tf.s44
theorem tK.s55 {tE : Nat} {A : Nat → Prop} {U : State} {H : Heap} (h : tK tE A U H) : (∃ sa : Nat, vk_R RX5 55 "there are 6 floors" sa U) := h.tf.s55
theorem tK.s73 {tE : Nat} {A : Nat → Prop} {U : State} {H : Heap} (h : tK tE A U H) : (∃ sa : Nat, vk_R RX5 73 "no such floor" sa U) := h.tf.s73
theorem tK.s80 {tE : Nat} {A : Nat → Prop} {U : State} {H : Heap} (h : tK tE A U H) : (∃ sa : Nat, vk_R RX5 80 "no such tune" sa U) := h.tf.s80
theorem tK.s82 {tE : Nat} {A : Nat → Prop} {U : State} {H : Heap} (h : tK tE A U H) : (∃ sa : Nat, vk_R RX5 82 "a step is -5 to 5" sa U) := h.tf.s82
theorem tK.s98 {tE : Nat} {A : Nat → Prop} {U : State} {H : Heap} (h : tK tE A U H) : (∃ sa : Nat, vk_R RX5 98 "there are 4 lifts" sa U) := h.tf.s98
theorem tK.s106 {tE : Nat} {A : Nat → Prop} {U : State} {H : Heap} (h : tK tE A U H) : (∃ sa : Nat, vk_R RX5 106 "no such lift or floor" sa U) := h.tf.s106
theorem tK.s111 {tE : Nat} {A : Nat → Prop} {U : State} {H : Heap} (h : tK tE A U H) : (∃ sa : Nat, vk_R RX5 111 "no such place" sa U) := h.tf.s111
theorem tK.s124 {tE : Nat} {A : Nat → Prop} {U : State} {H : Heap} (h : tK tE A U H) : (∃ sa : Nat, vk_R RX5 124 "no such floor or room" sa U) := h.tf.s124
theorem tK.s126 {tE : Nat} {A : Nat → Prop} {U : State} {H : Heap} (h : tK tE A U H) : (∃ sa : Nat, vk_R RX5 126 "there are 10 guests" sa U) := h.tf.s126
theorem tK.s135 {tE : Nat} {A : Nat → Prop} {U : State} {H : Heap} (h : tK tE A U H) : (∃ sa : Nat, vk_R RX5 135 "no such guest, floor or room" sa U) := h.tf.s135
theorem tK.s162 {tE : Nat} {A : Nat → Prop} {U : State} {H : Heap} (h : tK tE A U H) : (∃ sa : Nat, vk_R RX5 162 "a floor tells 0 to 5" sa U) := h.tf.s162
theorem tK.s168 {tE : Nat} {A : Nat → Prop} {U : State} {H : Heap} (h : tK tE A U H) : (∃ sa : Nat, vk_R RX5 168 "no such lift" sa U) := h.tf.s168
theorem tK.s179 {tE : Nat} {A : Nat → Prop} {U : State} {H : Heap} (h : tK tE A U H) : (∃ sa : Nat, vk_R RX5 179 "a lift tells 0 to 3" sa U) := h.tf.s179
theorem tK.s181 {tE : Nat} {A : Nat → Prop} {U : State} {H : Heap} (h : tK tE A U H) : (∃ sa : Nat, vk_R RX5 181 "no such guest" sa U) := h.tf.s181
theorem tK.s192 {tE : Nat} {A : Nat → Prop} {U : State} {H : Heap} (h : tK tE A U H) : (∃ sa : Nat, vk_R RX5 192 "a guest tells 0 to 6" sa U) := h.tf.s192
theorem tK.s209 {tE : Nat} {A : Nat → Prop} {U : State} {H : Heap} (h : tK tE A U H) : (∃ sa : Nat, vk_R RX5 209 "there are the counts 0 to 7" sa U) := h.tf.s209
theorem tK.s214 {tE : Nat} {A : Nat → Prop} {U : State} {H : Heap} (h : tK tE A U H) : (∃ sa : Nat, vk_R RX5 214 "a tone is 0 to 3" sa U) := h.tf.s214
theorem tK.s245 {tE : Nat} {A : Nat → Prop} {U : State} {H : Heap} (h : tK tE A U H) : (∃ sa : Nat, vk_R RX5 245 "advice is of 1 to 5 bells" sa U) := h.tf.s245
theorem tK.s267 {tE : Nat} {A : Nat → Prop} {U : State} {H : Heap} (h : tK tE A U H) : (∃ sa : Nat, vk_R RX5 267 "no such place on the paper" sa U) := h.tf.s267
theorem tK.blind {tE : Nat} {A : Nat → Prop} {u U : State} {H : Heap} (hv : u.vm = U.vm) (h : tK tE A u H) : tK tE A U H := by
  have ha : u.vm.Alike U.vm := by rw [hv]; exact Vm.Alike.refl _
  exact ⟨vx_Zq.moved ha h.zU, vx_Zq.moved ha h.zS, va_Z.moved ha h.zE, va_T.moved ha h.tE, va_Z.moved ha h.zC, tF.same hv h.tf⟩
theorem tK.to {tE : Nat} {A B : Nat → Prop} {s U : State} {H : Heap} {locs : List Loc} (h : tK tE A s s.heap) (hS : va_S A s.heap H locs) (hU : U.heap = H) (hW : s.WarmedH U.vm) (hAB : ∀ q, B q → A q) : tK tE B U U.heap := by
  rw [hU]
  have ha := hW.alike
  exact ⟨vx_Zq.moved ha ((h.zU.kept hS.2.1).narrow hAB), vx_Zq.moved ha ((h.zS.kept hS.2.1).narrow hAB), va_Z.moved ha ((h.zE.kept hS.2.1).narrow hAB), va_T.moved ha ((h.tE.kept hS.2.1).narrow hAB), va_Z.moved ha ((h.zC.kept hS.2.1).narrow hAB), tF.warm hW h.tf⟩
/-- a contract's start: the world W, the arrays' classes tys, the heap's size -/
abbrev Pre0 (dC : Nat → ClassId) (dI : Nat → Nat → Nat) (tE : Nat) (sz : Nat) (tys : List (ClassId × FieldType)) (W : va_W) : State → Prop := fun U => U.heap.size = sz ∧ va_P (dC, dI) vwCl W U.heap ∧ va_K (dC, dI) vwCl tys U ∧ va_D (fun _ => True) W ∧ tK tE (va_A W sz) U U.heap
/-- the world behind it -/
abbrev Pst (dC : Nat → ClassId) (dI : Nat → Nat → Nat) (tys : List (ClassId × FieldType)) (A : Nat → Prop) (W : va_W) (t : State) : Prop := va_P (dC, dI) vwCl W t.heap ∧ va_K (dC, dI) vwCl tys t ∧ va_D A W
theorem Pre0.blind {dC : Nat → ClassId} {dI : Nat → Nat → Nat} {tE sz : Nat} {tys : List (ClassId × FieldType)} {W : va_W} {av : List Value} : FrameBlind (va_Pc av (Pre0 dC dI tE sz tys W)) := fun a U g mk q => by
  obtain ⟨q0, q1, qP, qK, qD, qT⟩ := q
  exact ⟨q0, q1, qP, va_K.moved (u := U) (U := U.calling g mk a) (Vm.Alike.refl U.vm) qK, qD, tK.blind (u := U) (U := U.calling g mk a) rfl qT⟩
theorem Pre0.give {dC : Nat → ClassId} {dI : Nat → Nat → Nat} {tE : Nat} {tys : List (ClassId × FieldType)} {W : va_W} {av : List Value} {s : State} {H : Heap} {A : Nat → Prop} {locs : List Loc} (hP : va_P (dC, dI) vwCl W H) (hK : va_K (dC, dI) vwCl tys s) (hD : va_D A W) (hT : tK tE A s s.heap) (hS : va_S A s.heap H locs) (hF : ∀ q, va_A W H.size q → A q) : ∀ U : State, U.heap = H → s.WarmedH U.vm → va_Pc av (Pre0 dC dI tE H.size tys W) av.toArray U := fun U hU hW => ⟨rfl, by rw [hU], by rw [hU]; exact hP, va_K.moved hW.alike hK, hD.weaken (fun _ _ _ _ => trivial), hT.to hS hU hW hF⟩
theorem cmp_self (x : Int64) : lg_cmp x x = 0 := by simp [lg_cmp]
theorem nw_asg {s : State} {C E : String} (h : va_Nw (.castable C E) s) : ∀ comp c0 : ClassId, s.vm.findClass E = some comp → s.vm.findClass C = some c0 → s.vm.assignable c0 comp = true := by
  intro comp c0 h1 h2
  obtain ⟨c3, c4, h3, h4, h5⟩ := Cond.castable_spec h
  cases h1.symm.trans h4
  cases h2.symm.trans h3
  exact h5
abbrev thrI : List Cond := (vx_atS RX5 46 "java/lang/IllegalArgumentException" ["java/lang/RuntimeException", "java/lang/Exception"]).filter goodWord
abbrev thrX : List Cond := (vx_atS RX5 75 "java/lang/IndexOutOfBoundsException" ["java/lang/RuntimeException", "java/lang/Exception"]).filter goodWord
theorem not_le4 {x : Int32} (h : ¬ 3 < x) : ¬ 4 ≤ x := by
  simp only [Int32.lt_iff_toInt_lt, Int32.le_iff_toInt_le, show (3 : Int32).toInt = 3 from rfl, show (4 : Int32).toInt = 4 from rfl] at *
  omega
theorem le4 {x : Int32} (h : 3 < x) : 4 ≤ x := by
  simp only [Int32.lt_iff_toInt_lt, Int32.le_iff_toInt_le, show (3 : Int32).toInt = 3 from rfl, show (4 : Int32).toInt = 4 from rfl] at *
  omega
theorem none_in (x : Int32) : x < 0 ∨ (-1) < x := by
  simp only [Int32.lt_iff_toInt_lt, show (0 : Int32).toInt = 0 from rfl, show (-1 : Int32).toInt = -1 from rfl]
  omega
theorem sw7 {x : Int32} (h : x < 0 ∨ 7 < x) : x.toInt < 0 ∨ 7 < x.toInt := by
  simpa only [Int32.lt_iff_toInt_lt, show (0 : Int32).toInt = 0 from rfl, show (7 : Int32).toInt = 7 from rfl] using h
