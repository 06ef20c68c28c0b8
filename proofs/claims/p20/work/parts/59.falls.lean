/-- from every such start the run ends outside both posts: it has made more than the claim's room -/
theorem falls_at {p : Program} {e : Env} {s : State} {m : MethodId} {b : Addr} {below : List Frame} (ha : launch0.admits e) (hc : FairCas e.choices) (hk : FairClock e.choices) (hf : s.frames = Frame.invoking m #[.ref b] :: below)
    (happR : (headSpec (Jvm.Cond.code x code maxLocals ret :: tables_1) room_R).appliesLoose x e.platform s = true)
    (hgv : (Jvm.Cond.and given_1 narrow_1).before #[.ref b] s = true) (hX : va_X b 612 sc s s.heap) (hbl : b < s.heap.size) :
    ∃ (n : Nat) (o : Outcome), (∀ k, k < n → Within (stepsAlone p.tables e k s) below) ∧ (stepsAlone p.tables e n s).status = Status.running ∧ Ended (stepsAlone p.tables e n s) below o ∧
      ¬ Post_1_1 p.tables e #[.ref b] s o (stepsAlone p.tables e n s) ∧ ¬ Post_1_2 p.tables e #[.ref b] s o (stepsAlone p.tables e n s) := by
  obtain ⟨n, o, g1, g2, g3, S, hSl, hnd, hS⟩ := rf_walk launch0 rfl b p e ha hc hk s m _ below hf happR ⟨rfl, hX, hbl, hgv⟩ trivial
  refine ⟨n, o, g1, g2, g3, ?_⟩
  generalize stepsAlone p.tables e n s = t at hS
  have h9 := sum_from s.heap.size S ((t.heap.toList.drop s.heap.size).map (·.slots.size)) hnd (fun q hq => by
    obtain ⟨hz, cell, hcell, hsz⟩ := hS q hq
    refine ⟨hz, ?_⟩
    rw [List.getElem?_map, List.getElem?_drop, show s.heap.size + (q - s.heap.size) = q by omega, Array.getElem?_toList, hcell]
    simp [hsz])
  rw [hSl] at h9
  refine ⟨fun h4 => ?_, fun h4 => ?_⟩
  · obtain ⟨-, hd, -⟩ := h4
    obtain ⟨-, -, hsame⟩ := hd
    obtain ⟨-, -, -, -, hsum, -⟩ := hsame
    have hsum2 : ((t.heap.toList.drop s.heap.size).map (·.slots.size)).sum ≤ 6052877 := hsum
    omega
  · obtain ⟨-, hd, -⟩ := h4
    obtain ⟨-, -, hsame⟩ := hd
    obtain ⟨-, -, -, -, hsum, -⟩ := hsame
    have hsum2 : ((t.heap.toList.drop s.heap.size).map (·.slots.size)).sum ≤ 6052877 := hsum
    omega
/-- the start of the script is a start of the claim -/
theorem rf_atStart : AtStart classFile x code maxLocals ret World_1 tables_1 room_1 Calls_1 rest_1 Pre_1 launch0 start1.p0 start1.e0 rf_s ⟨0, 0⟩ #[.ref 0] Lib.HandBits.below0 :=
  ⟨lists_1, trivial, launch0.admits_env _ _ _, launch0.least_env, fairChoices_fair.cas, fairChoices_fair.clock, rfl, rf_fit, rf_heap, rf_app1, trivial, rf_rest, rf_pre⟩
/-- THE STATEMENT'S OWN WORDS FOR 'FALSE', for both limbs -/
theorem falls_both : RefutedClaimed_1_1 ∧ RefutedClaimed_1_2 := by
  obtain ⟨n, o, h1, h2, h3, h4, h5⟩ := falls_at (p := start1.p0) (e := start1.e0) (s := rf_s) (m := ⟨0, 0⟩) (b := 0) (below := Lib.HandBits.below0) (launch0.admits_env _ _ _) fairChoices_fair.cas fairChoices_fair.clock rfl ((Spec.applies_iff_loose (args := #[.ref 0]) (m := ⟨0, 0⟩) (below := Lib.HandBits.below0) rfl).mp rf_appR).1 rf_pre rf_X (by decide +kernel)
  exact ⟨⟨launch0, start1.p0, start1.e0, rf_s, ⟨0, 0⟩, #[.ref 0], Lib.HandBits.below0, rfl, rf_atStart, n, o, h1, h2, h3, h4⟩,
    ⟨launch0, start1.p0, start1.e0, rf_s, ⟨0, 0⟩, #[.ref 0], Lib.HandBits.below0, rfl, rf_atStart, n, o, h1, h2, h3, h5⟩⟩
theorem falls_1_1 : RefutedClaimed_1_1 := falls_both.1
theorem falls_1_2 : RefutedClaimed_1_2 := falls_both.2
