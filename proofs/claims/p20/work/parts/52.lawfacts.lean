theorem mem_r {big : List Cond} (ws : List Cond) (ps : List Nat) (hp : ws = ps.filterMap (fun i => big[i]?)) : ∀ w ∈ ws, w ∈ big := by
  intro w hw
  rw [hp] at hw
  obtain ⟨i, -, hi⟩ := List.mem_filterMap.mp hw
  exact List.mem_of_getElem? hi
/-- the script: a floor of three rooms, a guest in its room 0, who wants the room 1; then advice of at most 4 bells, again and again -/
def sc (k : Nat) : Int32 := if k < 12 then (if k = 1 then 3 else if k = 4 then 4 else if k = 8 then 5 else if k = 11 then 1 else 0) else if k % 4 = 0 then 14 else if k % 4 = 2 then 4 else 0
theorem sc_in {n : Nat} (h : n < 612) : vp_in (nI n) 612 := by
  unfold vp_in
  rw [nI_clamp (by omega)]
  intro h9
  rcases h9 with h9 | h9
  · exact nI_pos (by omega) h9
  · omega
theorem sc_0 {j : Nat} (h : j < 1000) : sc (nI (12 + 4 * j)).toNatClampNeg = 14 := by
  rw [nI_clamp (by omega)]
  have h1 : ¬ (12 + 4 * j < 12) := by omega
  have h2 : (12 + 4 * j) % 4 = 0 := by omega
  simp [sc, h1, h2]
theorem sc_1 {j : Nat} (h : j < 1000) : sc (nI (12 + 4 * j + 1)).toNatClampNeg = 0 := by
  rw [nI_clamp (by omega)]
  have h1 : ¬ (12 + 4 * j + 1 < 12) := by omega
  have h2 : ¬ ((12 + 4 * j + 1) % 4 = 0) := by omega
  have h3 : ¬ ((12 + 4 * j + 1) % 4 = 2) := by omega
  simp [sc, h1, h2, h3]
theorem sc_2 {j : Nat} (h : j < 1000) : sc (nI (12 + 4 * j + 2)).toNatClampNeg = 4 := by
  rw [nI_clamp (by omega)]
  have h1 : ¬ (12 + 4 * j + 2 < 12) := by omega
  have h2 : (12 + 4 * j + 2) % 4 = 2 := by omega
  simp [sc, h1, h2]
theorem nI_plus (a o : Nat) : nI a + nI o = nI (a + o) := (Int32.ofNat_add a o).symm
theorem nI_four (j : Nat) : nI (12 + 4 * j) + 4 = nI (12 + 4 * (j + 1)) := nI_plus (12 + 4 * j) 4
theorem sc_go {j : Nat} (h : j < 150) : ¬ ((608 : Int32) < nI (12 + 4 * j)) := nI_nlt (a := 608) (b := 12 + 4 * j) (by omega) (by decide)
theorem Rw.perm {b : Nat} {S : List Nat} {ws ws' : va_W} {H : Heap} (h : Rw b S ws H) (is : List Nat) (hs : is.filterMap (fun i => ws[i]?) = ws') : Rw b S ws' H := by
  refine ⟨h.1, fun q hq => ?_⟩
  obtain ⟨g1, g2, g3⟩ := h.2 q hq
  refine ⟨g1, fun k c hc => ?_, g3⟩
  have h9 := List.mem_of_getElem? hc
  rw [← hs] at h9
  obtain ⟨i, -, hi⟩ := List.mem_filterMap.mp h9
  exact g2 i c hi
theorem row_rw : (upd (upd (upd (va_cpy (upd (upd (upd (upd (fun _ => 0) (2 : Int32).toNatClampNeg (-1)) (3 : Int32).toNatClampNeg 0) (4 : Int32).toNatClampNeg 0) (5 : Int32).toNatClampNeg 0) (upd (upd (fun _ => 0) (0 : Int32).toNatClampNeg 3) (2 : Int32).toNatClampNeg 1) (0 : Int32).toNatClampNeg (56 : Int32).toNatClampNeg (6 : Int32).toNatClampNeg) (59 : Int32).toNatClampNeg 0) (60 : Int32).toNatClampNeg 1) (61 : Int32).toNatClampNeg 0) = RW 0 0 0 0 := by
  funext k
  have e : ∀ n : Nat, n < 200 → (Int32.ofNat n).toNatClampNeg = n := fun n h => nI_clamp (n := n) (by omega)
  by_cases h : k < 119
  · revert k
    decide +kernel
  · have hn : ∀ n : Nat, n < 119 → ¬ k = n := fun n h1 h2 => h (by omega)
    have e59 : (59 : Int32).toNatClampNeg = 59 := by decide
    have e60 : (60 : Int32).toNatClampNeg = 60 := by decide
    have e61 : (61 : Int32).toNatClampNeg = 61 := by decide
    have e56 : (56 : Int32).toNatClampNeg = 56 := by decide
    have e0 : (0 : Int32).toNatClampNeg = 0 := by decide
    have e2 : (2 : Int32).toNatClampNeg = 2 := by decide
    have e6 : (6 : Int32).toNatClampNeg = 6 := by decide
    have h6 : ¬ k < 62 := by omega
    simp [upd, va_cpy, RW, e59, e60, e61, e56, e0, e2, e6, hn 59 (by decide), hn 60 (by decide), hn 61 (by decide), hn 0 (by decide), hn 2 (by decide), hn 116 (by decide), hn 117 (by decide), hn 118 (by decide), hn 58 (by decide), h6]
/-- a room that is larger than the claim's: what the run takes -/
def room_R : Room := { frames := 2048, cells := 55000, slots := 6109000, locals := 84000 }
def rf_At (p : Program) (s : State) (m : MethodId) (meth : Method) (c : Code) (b : Nat) : Prop := lw_At p s m meth c b 612 sc
def rf_Q (_ : Array Value) (s : State) (_ : Outcome) (t : State) : Prop := ∃ S : List Nat, S.length = 340 * 150 ∧ S.Nodup ∧ ∀ q ∈ S, s.heap.size ≤ q ∧ ∃ cell : Cell, t.heap[q]? = some cell ∧ cell.slots.size = 119
def rf_Z (below : List Frame) (a : Array Value) (s : State) : State → Prop := fun t => ∃ o, t.status = .running ∧ Ended t below o ∧ rf_Q a s o t
theorem rf_ret {p : Program} {l : Launch} {e : Env} {s : State} {m : MethodId} {args : Array Value} {below : List Frame} {meth : Method} {c : Code} {H : Heap} {locs : List Loc} {S : List Nat} {ws : va_W} {ls : Array Slot} {pc : Nat} {A : Nat → Prop} (hx : p.tables.exec = Jvm.exec) (hb : c.code = code) (hr : meth.sig.returnType = ret) (hlocks : meth.locks = false) (hS : va_S A s.heap H locs)
    (hR : Rw s.heap.size S ws H) (hSl : S.length = 340 * 150) (hdg : decode code pc = .ok (.ireturn, 1)) : W p l e room_R s m args below meth c H locs 55000 6109000 (rf_Z below args s) (F0 m pc ls [.int 1]) := by
  intro T hT X
  have K : W p l e room_R s m args below meth c H locs 55000 6109000 (MQ below rf_Q args s 55000 6109000 (fun _ => True)) (F0 m pc ls [.int 1]) := W.zret (v := 1) hx hb hr (by decide) (fun t ht hW => ⟨S, hSl, hR.1, fun q hq => by
    obtain ⟨h1, -, cell, h2, h3⟩ := hR.2 q hq
    exact ⟨h1, cell, by rw [ht]; exact h2, h3⟩⟩) (fun _ _ => trivial) hdg
  obtain ⟨t, h1, o, h2, h3, h4, -⟩ := K T hT X
  exact ⟨t, h1, o, h2, h3, h4⟩
