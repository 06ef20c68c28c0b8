set_option maxHeartbeats 4000000 in
/-- the law over the script: from every start that holds it, in a room that is large enough, the run comes to its end with so many new rows -/
theorem rf_walk (l : Launch) (hflags : l.flags = flags0) (b : Addr) : MetFree l x (headSpec (Jvm.Cond.code x code maxLocals ret :: tables_1) room_R) (fun args s => args = #[.ref b] ∧ va_X b 612 sc s s.heap ∧ b < s.heap.size ∧ (Jvm.Cond.and given_1 narrow_1).before args s = true) (fun _ _ _ _ _ => True) rf_Q := by
  refine MetFree.of_bodyS (code := code) (maxLocals := maxLocals) (ret := ret) (by decide) ?_ ?_
  · intro args s m h hn
    obtain ⟨meth, c, h1, h2, h3, h4, h5, h6, -, -⟩ := Cond.code_spec hn (atoms_spec (ws := Jvm.Cond.code x code maxLocals ret :: tables_1) h _ List.mem_cons_self)
    exact ⟨meth, c, h1, h2, h3, h4, h5, h6⟩
  · intro p e s m args below meth c s₁ B hml0 hP _
    obtain ⟨rfl, hX, hbl, hgv⟩ := hP
    have hown : s.vm.findClass R_law = some m.cls := findClass_of_methodNamed B.named
    have hts0 : ∀ c ∈ (Jvm.Cond.code x code maxLocals ret :: tables_1), c.before #[Value.ref b] s = true := atoms_spec (ws := Jvm.Cond.code x code maxLocals ret :: tables_1) B.pre
    have hts : ∀ w ∈ lw_tbl, w.before #[Value.ref b] s = true := k2_hts_sels lw_privs (fun w hw => hts0 w (List.mem_cons_of_mem _ hw)) lw_privs_ok
    have hml : c.maxLocals = 9 := B.maxLocals_eq (hts0 _ List.mem_cons_self)
    have X₀ : Stand p l e room_R s m #[Value.ref b] below meth c s₁ [] 0 0 := Stand.of_body B
    have hh0 : s₁.heap = s.heap := by rw [B.state]; rfl
    have K : W p l e room_R s m #[Value.ref b] below meth c s₁.heap [] 0 0 (rf_Z below #[Value.ref b] s) (entryFrame m ([Value.ref b] : List Value).toArray 9) := by
      rw [hh0]
      exact law_start l hflags ⟨B.exec, B.bytes, B.returns, hml, hown, hts, hX, hbl, B.notSynchronized, hgv⟩
    obtain ⟨t, a1, o, b1, b2, b3⟩ := K s₁ rfl X₀
    exact ⟨t, o, a1, b1, b2, b3⟩
/-- a list in which so many places hold 119, told from the place z on -/
theorem sum_from (z : Nat) : ∀ (S : List Nat) (l : List Nat), S.Nodup → (∀ q ∈ S, z ≤ q ∧ l[q - z]? = some 119) → 119 * S.length ≤ l.sum := by
  intro S
  induction S with
  | nil => intro l _ _; simp
  | cons q S ih =>
    intro l hn h
    obtain ⟨h1, h2⟩ := List.nodup_cons.mp hn
    obtain ⟨hz, hq⟩ := h q List.mem_cons_self
    have h3 := ih (l.set (q - z) 0) h2 (fun x hx => by
      have hne : q ≠ x := fun e => h1 (by rw [e]; exact hx)
      obtain ⟨hzx, hx2⟩ := h x (List.mem_cons_of_mem _ hx)
      refine ⟨hzx, ?_⟩
      rw [List.getElem?_set_ne (by omega)]
      exact hx2)
    have h4 := sum_set l (q - z) 119 hq
    simp only [List.length_cons]
    omega
/-- THE CLAIM IS FALSE at every such start: the run ends, and it has made more than the claim's room -/
theorem refuted_at {p : Program} {e : Env} {s : State} {m : MethodId} {b : Addr} {below : List Frame} (hL : Lists launch0 classFile x code maxLocals ret tables_1 room_1) (ha : launch0.admits e) (hc : FairCas e.choices) (hk : FairClock e.choices) (hf : s.frames = Frame.invoking m #[.ref b] :: below) (hfit : argsFit s.vm m #[.ref b] = true) (hheap : heapFits s = true)
    (happ : (headSpec (Jvm.Cond.code x code maxLocals ret :: tables_1) room_1).applies x e.platform s = true) (happR : (headSpec (Jvm.Cond.code x code maxLocals ret :: tables_1) room_R).appliesLoose x e.platform s = true)
    (hpre : Calls_1 p.tables e #[.ref b] s ∧ rest_1 p.tables e #[.ref b] s ∧ Pre_1 p.tables e #[.ref b] s) (hX : va_X b 612 sc s s.heap) (hbl : b < s.heap.size) : ¬ Claimed_1_1 := by
  intro h
  obtain ⟨n, o, h1, h2, h3, h4⟩ := h launch0 rfl hL trivial p e ha hc hk s m _ below hf hfit hheap happ hpre
  obtain ⟨k, o', g1, g2, g3, S, hSl, hnd, hS⟩ := rf_walk launch0 rfl b p e ha hc hk s m _ below hf happR ⟨rfl, hX, hbl, hpre.2.2⟩ trivial
  have hnk : n = k := by
    rcases Nat.lt_trichotomy n k with q | q | q
    · exact absurd (g1 n q) h3.not_within
    · exact q
    · exact absurd (h1 k q) g3.not_within
  subst hnk
  generalize stepsAlone p.tables e n s = t at h2 h3 h4 g2 g3 hS
  obtain ⟨-, hd, -⟩ := h4
  obtain ⟨-, -, hsame⟩ := hd
  obtain ⟨-, -, -, -, hsum, -⟩ := hsame
  have hsum2 : ((t.heap.toList.drop s.heap.size).map (·.slots.size)).sum ≤ 6052877 := hsum
  have h9 := sum_from s.heap.size S ((t.heap.toList.drop s.heap.size).map (·.slots.size)) hnd (fun q hq => by
    obtain ⟨hz, cell, hcell, hsz⟩ := hS q hq
    refine ⟨hz, ?_⟩
    rw [List.getElem?_map, List.getElem?_drop, show s.heap.size + (q - s.heap.size) = q by omega, Array.getElem?_toList, hcell]
    simp [hsz])
  rw [hSl] at h9
  omega
