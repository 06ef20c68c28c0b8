/-! rows of bells: a number of at most i digits -/
def RB (i : Nat) (x : Int32) : Prop := ∃ a : Nat, x = nI a ∧ a < 10 ^ i
theorem rb_0 : RB 0 0 := ⟨0, rfl, by decide⟩
theorem rb_sum (a n : Nat) : nI a * 10 + nI n + 1 = nI (a * 10 + n + 1) := by
  have e1 : nI a * 10 = nI (a * 10) := (Int32.ofNat_mul a 10).symm
  have e2 : nI (a * 10) + nI n = nI (a * 10 + n) := (Int32.ofNat_add (a * 10) n).symm
  rw [e1, e2]
  exact (nI_succ _).symm
theorem rb_step {i : Nat} {x t : Int32} (h : RB i x) (ht : ∃ n : Nat, n ≤ 3 ∧ t = nI n) : RB (i + 1) (x * 10 + t + 1) := by
  obtain ⟨a, rfl, ha⟩ := h
  obtain ⟨n, hn, rfl⟩ := ht
  refine ⟨a * 10 + n + 1, rb_sum a n, ?_⟩
  rw [Nat.pow_succ]
  omega
theorem rb_lt {i : Nat} {x t : Int32} (hi : i ≤ 4) (h : RB i x) (ht : ∃ n : Nat, n ≤ 3 ∧ t = nI n) : x * 10 + t + 1 < 100000 := by
  obtain ⟨a, rfl, ha⟩ := h
  obtain ⟨n, hn, rfl⟩ := ht
  have h4 : (10 : Nat) ^ i ≤ 10 ^ 4 := Nat.pow_le_pow_right (by decide) hi
  rw [rb_sum]
  have h5 : a * 10 + n + 1 < 100000 := by omega
  exact nI_lt h5 (by decide)
/-! new rows of 119 numbers: S, made since the heap had the size b, none of them in the world ws -/
def Rw (b : Nat) (S : List Nat) (ws : va_W) (H : Heap) : Prop := S.Nodup ∧ ∀ q ∈ S, b ≤ q ∧ (∀ (k : Nat) (c : Nat × va_E), ws[k]? = some c → c.1 ≠ q) ∧ ∃ cell : Cell, H[q]? = some cell ∧ cell.slots.size = 119
theorem Rw.nil {b : Nat} {ws : va_W} {H : Heap} : Rw b [] ws H := ⟨List.nodup_nil, fun q h => by cases h⟩
theorem Rw.lt {b : Nat} {S : List Nat} {ws : va_W} {H : Heap} (h : Rw b S ws H) {q : Nat} (hq : q ∈ S) : q < H.size := by
  obtain ⟨-, -, cell, h1, -⟩ := h.2 q hq
  exact (Array.getElem?_eq_some_iff.mp h1).1
theorem Rw.at {ws w : va_W} {is : List Nat} (hs : is.map (fun i => ws[i]?) = w.map some) (k : Nat) (q : Nat × va_E) (hq : w[k]? = some q) : ∃ i : Nat, ws[i]? = some q := by
  have h1 : (is.map (fun i => ws[i]?))[k]? = some (some q) := by rw [hs, List.getElem?_map, hq]; rfl
  rw [List.getElem?_map] at h1
  cases hi : is[k]? with
  | none => rw [hi] at h1; cases h1
  | some i => rw [hi] at h1; exact ⟨i, Option.some.inj h1⟩
/-- behind a call: what isn't the callee's stays -/
theorem Rw.call {b : Nat} {S : List Nat} {ws wc wr w1 : va_W} {H H1 : Heap} (h : Rw b S ws H) (isC isR : List Nat) (hC : isC.map (fun i => ws[i]?) = wc.map some) (hR : isR.map (fun i => ws[i]?) = wr.map some)
    (hk : ∀ q : Nat, q < H.size → ¬ va_A wc H.size q → H1[q]? = H[q]?) (hD1 : va_D (va_A wc H.size) w1) : Rw b S (wr ++ w1) H1 := by
  refine ⟨h.1, fun q hq => ?_⟩
  obtain ⟨g1, g2, cell, g3, g4⟩ := h.2 q hq
  have hl := h.lt hq
  have hn : ¬ va_A wc H.size q := by
    intro hA
    rcases hA with ⟨k, e, hk9⟩ | hk9
    · obtain ⟨i, hi⟩ := Rw.at hC k (q, e) hk9
      exact g2 i (q, e) hi rfl
    · omega
  refine ⟨g1, fun k c hc => ?_, cell, by rw [hk q hl hn]; exact g3, g4⟩
  rcases Nat.lt_or_ge k wr.length with hkl | hkl
  · rw [List.getElem?_append_left hkl] at hc
    obtain ⟨i, hi⟩ := Rw.at hR k c hc
    exact g2 i c hi
  · rw [List.getElem?_append_right hkl] at hc
    have h9 := hD1.2 _ c hc
    intro e
    rw [e] at h9
    exact hn h9
theorem cell_size (cA : ClassId) (n : Nat) (f : Nat → Int32) : (vp_cell cA (n, .inl f)).slots.size = n := arrV_size _ _ _
/-- a call that makes one more -/
theorem Rw.home {D : va_G} {cl : List vw_C} {b a0 a1 q : Nat} {S : List Nat} {e0 e1 e0' e1' : va_E} {ci : ClassId} {f : Nat → Int32} {H H1 : Heap} (h : Rw b S [(a0, e0), (a1, e1)] H) (hb : b ≤ H.size)
    (hk : ∀ q : Nat, q < H.size → ¬ va_A [(a0, e0), (a1, e1)] H.size q → H1[q]? = H[q]?) (hP1 : va_P D cl [(a0, e0'), (a1, e1'), (q, .inl (ci, 119, .inl f))] H1)
    (hD1 : va_D (va_A [(a0, e0), (a1, e1)] H.size) [(a0, e0'), (a1, e1'), (q, .inl (ci, 119, .inl f))]) : Rw b (q :: S) [(a0, e0'), (a1, e1')] H1 := by
  have n0 : a0 ≠ q := fun e => absurd (hD1.1 0 2 _ _ rfl rfl e) (by decide)
  have n1 : a1 ≠ q := fun e => absurd (hD1.1 1 2 _ _ rfl rfl e) (by decide)
  have hq : H.size ≤ q := by
    rcases hD1.2 2 _ rfl with ⟨k, e, hk9⟩ | hk9
    · match k, hk9 with
      | 0, hk9 => cases hk9; exact absurd rfl n0
      | 1, hk9 => cases hk9; exact absurd rfl n1
      | k + 2, hk9 => simp at hk9
    · exact hk9
  have hD2 := hD1.sub (ws' := [(a0, e0'), (a1, e1')]) [0, 1] (by decide) rfl
  have h1 : Rw b S [(a0, e0'), (a1, e1')] H1 := Rw.call (wr := []) h [0, 1] [] rfl rfl hk hD2
  refine ⟨List.nodup_cons.mpr ⟨fun hm => ?_, h1.1⟩, fun x hx => ?_⟩
  · have h9 := h.lt hm
    omega
  · rcases List.mem_cons.mp hx with h9 | hx
    · obtain rfl : q = x := h9.symm
      have hc9 : H1[q]? = some (vp_cell ci (119, .inl f)) := hP1 2 _ rfl
      refine ⟨Nat.le_trans hb hq, fun k c hc => ?_, vp_cell ci (119, .inl f), hc9, cell_size ci 119 f⟩
      match k, hc with
      | 0, hc => cases hc; exact n0
      | 1, hc => cases hc; exact n1
      | k + 2, hc => simp at hc
    · exact h1.2 x hx
/-- rows of a call that itself had none at its beginning -/
theorem Rw.add {b z : Nat} {S T : List Nat} {ws w2 : va_W} {H : Heap} (h : Rw b S ws H) (hz : ∀ q ∈ S, q < z) (hb : b ≤ z) (k : Rw z T w2 H) (hw : ∀ (i : Nat) (c : Nat × va_E), ws[i]? = some c → c.1 < z ∨ ∃ j : Nat, w2[j]? = some c) : Rw b (T ++ S) ws H := by
  refine ⟨List.nodup_append.mpr ⟨k.1, h.1, fun a ha c hc e => ?_⟩, fun q hq => ?_⟩
  · have h1 := (k.2 a ha).1
    have h2 := hz c hc
    omega
  · rcases List.mem_append.mp hq with hq | hq
    · obtain ⟨g1, g2, g3⟩ := k.2 q hq
      refine ⟨Nat.le_trans hb g1, fun i c hc e => ?_, g3⟩
      rcases hw i c hc with h9 | ⟨j, h9⟩
      · omega
      · exact g2 j c h9 e
    · exact h.2 q hq
/-- the sum of a list in which so many places hold 119 -/
theorem sum_set (l : List Nat) : ∀ (i v : Nat), l[i]? = some v → (l.set i 0).sum + v = l.sum := by
  induction l with
  | nil => intro i v h; simp at h
  | cons a l ih =>
    intro i v h
    cases i with
    | zero => simp at h; subst h; simp; omega
    | succ i =>
      have h9 : l[i]? = some v := by simpa using h
      have := ih i v h9
      simp
      omega
theorem sum_rows : ∀ (S : List Nat) (l : List Nat), S.Nodup → (∀ q ∈ S, l[q]? = some 119) → 119 * S.length ≤ l.sum := by
  intro S
  induction S with
  | nil => intro l _ _; simp
  | cons q S ih =>
    intro l hn h
    obtain ⟨h1, h2⟩ := List.nodup_cons.mp hn
    have hq := h q List.mem_cons_self
    have h3 := ih (l.set q 0) h2 (fun x hx => by
      have hne : q ≠ x := fun e => h1 (by rw [e]; exact hx)
      rw [List.getElem?_set_ne hne]
      exact h x (List.mem_cons_of_mem _ hx))
    have h4 := sum_set l q 119 hq
    simp only [List.length_cons]
    omega
theorem k_lt {N j : Nat} {k : Int32} (hN : N ≤ 4096) (hj : j + 1 ≤ N) (hk : k = nI (N - (j + 1))) : ¬ nI N ≤ k := by
  rw [hk]
  exact nI_ge (by omega) (by omega)
theorem k_end {N : Nat} {k : Int32} (hN : N ≤ 4096) (hk : k = nI (N - 0)) : nI N ≤ k := by
  rw [hk]
  exact nI_le (by omega) (by omega)
theorem k_next {N j : Nat} {k : Int32} (hj : j + 1 ≤ N) (hk : k = nI (N - (j + 1))) : k + 1 = nI (N - j) := by
  rw [hk, ← nI_succ]
  congr 1
  omega
theorem Rw.join {D : va_G} {cl : List vw_C} {b : Nat} {S T : List Nat} {ws wc wr w1 : va_W} {H H1 : Heap} (h : Rw b S ws H) (isC isR : List Nat) (hC : isC.map (fun i => ws[i]?) = wc.map some) (hR : isR.map (fun i => ws[i]?) = wr.map some)
    (hk : ∀ q : Nat, q < H.size → ¬ va_A wc H.size q → H1[q]? = H[q]?) (hD1 : va_D (va_A wc H.size) w1) (hP : va_P D cl ws H) (hb : b ≤ H.size) (k : Rw H.size T w1 H1) : Rw b (T ++ S) (wr ++ w1) H1 := by
  refine Rw.add (z := H.size) (Rw.call h isC isR hC hR hk hD1) (fun q hq => h.lt hq) hb k (fun i c hc => ?_)
  rcases Nat.lt_or_ge i wr.length with hkl | hkl
  · rw [List.getElem?_append_left hkl] at hc
    obtain ⟨j, hj⟩ := Rw.at hR i c hc
    exact Or.inl (hP j c hj).lt
  · rw [List.getElem?_append_right hkl] at hc
    exact Or.inr ⟨_, hc⟩
