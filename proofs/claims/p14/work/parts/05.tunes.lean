/-! how many digits from 1 to 4 a number has (0: others, none, or more than six), and ten to that, as the two loops go -/
def dgO (x : Int32) : Int32 := x - x / 10 * 10
def dgL : Nat → Int32 → Int32 → Int32
  | 0, many, _ => if many ≤ 6 then many else 0
  | n + 1, many, left => if left = 0 then (if many ≤ 6 then many else 0) else if dgO left < 1 ∨ 4 < dgO left then 0 else dgL n (many + 1) (left / 10)
def dgt (p : Int32) : Int32 := dgL 10 0 p
def sp10 (d : Int32) : Int32 := if d = 1 then 10 else if d = 2 then 100 else if d = 3 then 1000 else if d = 4 then 10000 else if d = 5 then 100000 else if d = 6 then 1000000 else 0
def spL : Nat → Int32 → Int32 → Int32
  | 0, s, _ => s
  | n + 1, s, r => if r ≤ 0 then s else if dgO r < 1 ∨ 4 < dgO r then 0 else spL n (s * 10) (r / 10)
theorem dgL_zero (n : Nat) (many : Int32) : dgL n many 0 = if many ≤ 6 then many else 0 := by
  cases n <;> simp [dgL]
theorem spL_end (n : Nat) (s r : Int32) (h : r ≤ 0) : spL n s r = s := by
  cases n with
  | zero => rfl
  | succ n => simp [spL, h]
theorem i10 (x : Int32) : (x / 10).toInt = x.toInt.tdiv 10 := Int32.toInt_div_of_ne_right _ _ (by decide)
theorem i10_lt {x : Int32} {n : Nat} (h : x.toInt.natAbs < 10 ^ (n + 1)) : (x / 10).toInt.natAbs < 10 ^ n := by
  have e : (x.toInt.tdiv 10).natAbs = x.toInt.natAbs / 10 := by rw [Int.natAbs_tdiv]; rfl
  rw [i10, e]
  rw [Nat.pow_succ] at h
  omega
theorem i32_10 (x : Int32) : x.toInt.natAbs < 10 ^ 10 := by
  have h1 := x.toInt_lt
  have h2 := x.le_toInt
  have h3 : (10 : Nat) ^ 10 = 10000000000 := by decide
  omega
theorem dg_step {n : Nat} {many left : Int32} (h0 : ¬ left = 0) (h : ¬ (dgO left < 1 ∨ 4 < dgO left)) : dgL (n + 1) many left = dgL n (many + 1) (left / 10) := by
  simp only [dgL, if_neg h0, if_neg h]
theorem dg_bad {n : Nat} {many left : Int32} (h0 : ¬ left = 0) (h : dgO left < 1 ∨ 4 < dgO left) : dgL (n + 1) many left = 0 := by
  simp only [dgL, if_neg h0, if_pos h]
theorem sp_step {n : Nat} {s r : Int32} (h0 : ¬ r ≤ 0) (h : ¬ (dgO r < 1 ∨ 4 < dgO r)) : spL (n + 1) s r = spL n (s * 10) (r / 10) := by
  simp only [spL, if_neg h0, if_neg h]
theorem sp_bad {n : Nat} {s r : Int32} (h0 : ¬ r ≤ 0) (h : dgO r < 1 ∨ 4 < dgO r) : spL (n + 1) s r = 0 := by
  simp only [spL, if_neg h0, if_pos h]
theorem fuel_pos {n : Nat} {left : Int32} (h : left.toInt.natAbs < 10 ^ n) (h0 : ¬ left = 0) : ∃ k, n = k + 1 := by
  cases n with
  | zero =>
    exfalso
    apply h0
    apply Int32.toInt_inj.mp
    rw [Nat.pow_zero] at h
    show left.toInt = 0
    omega
  | succ k => exact ⟨k, rfl⟩
theorem le0_ne {r : Int32} (h : ¬ r ≤ 0) : ¬ r = 0 := fun e => h (by rw [e]; decide)
/-- the digits and the span of one number go together -/
theorem sp_dg (n : Nat) : ∀ (k x : Nat), k ≤ 6 → x < 10 ^ n → x < 2 ^ 31 → x * 10 ^ k ≤ 444444 → (0 < k ∨ 0 < x) → spL n (nI (10 ^ k)) (nI x) = sp10 (dgL n (nI k) (nI x)) := by
  have hend : ∀ k : Nat, k ≤ 6 → 0 < k → nI (10 ^ k) = sp10 (if nI k ≤ 6 then nI k else 0) := by
    intro k hk h0
    have : k = 1 ∨ k = 2 ∨ k = 3 ∨ k = 4 ∨ k = 5 ∨ k = 6 := by omega
    rcases this with rfl | rfl | rfl | rfl | rfl | rfl <;> decide
  induction n with
  | zero =>
    intro k x hk hx _ _ h0
    have hx0 : x = 0 := by rw [Nat.pow_zero] at hx; omega
    subst hx0
    show nI (10 ^ k) = sp10 (if nI k ≤ 6 then nI k else 0)
    exact hend k hk (by omega)
  | succ n ih =>
    intro k x hk hx hb h4 h0
    by_cases hx0 : x = 0
    · subst hx0
      rw [spL_end _ _ _ (by decide), show nI 0 = 0 from rfl, dgL_zero]
      exact hend k hk (by omega)
    · have hp : ¬ nI x ≤ 0 := nI_nle (by omega) hb
      have hne : ¬ nI x = 0 := nI_ne0 (by omega) hb
      have hd : dgO (nI x) = nI (x % 10) := pk_rem (d := 10) hb (by decide) (by decide)
      have hq : nI x / 10 = nI (x / 10) := pk_div (d := 10) hb (by decide) (by decide)
      have hx10 : x / 10 < 10 ^ n := by rw [Nat.pow_succ] at hx; omega
      by_cases hbad : dgO (nI x) < 1 ∨ 4 < dgO (nI x)
      · rw [sp_bad hp hbad, dg_bad hne hbad]; decide
      · rw [sp_step hp hbad, dg_step hne hbad, hq, show nI (10 ^ k) * 10 = nI (10 ^ (k + 1)) from pk_mul (10 ^ k) 10, nI_1]
        have hk5 : k ≤ 5 := by
          rcases Nat.lt_or_ge k 6 with h | h
          · omega
          · exfalso
            have hk6 : k = 6 := by omega
            subst hk6
            have : x * 10 ^ 6 = x * 1000000 := by rfl
            omega
        refine ih (k + 1) (x / 10) (by omega) hx10 (by omega) ?_ (Or.inl (by omega))
        have h1 : x / 10 * 10 ≤ x := Nat.div_mul_le_self x 10
        calc x / 10 * 10 ^ (k + 1) = (x / 10 * 10) * 10 ^ k := by rw [Nat.pow_succ, Nat.mul_assoc, Nat.mul_comm 10]
          _ ≤ x * 10 ^ k := Nat.mul_le_mul_right _ h1
          _ ≤ 444444 := h4
def rep4 : Nat → Nat
  | 0 => 0
  | n + 1 => rep4 n * 10 + 4
theorem rep4_mono {a b : Nat} (h : a ≤ b) : rep4 a ≤ rep4 b := by
  induction h with
  | refl => exact Nat.le_refl _
  | step _ ih => exact Nat.le_trans ih (by show _ ≤ rep4 _ * 10 + 4; omega)
/-- a number with digits is not above as many fours -/
theorem dg_le (n : Nat) : ∀ (k x : Nat), k + n ≤ 20 → x < 2 ^ 31 → x < 10 ^ n → dgL n (nI k) (nI x) = 0 ∨ ∃ j, dgL n (nI k) (nI x) = nI (k + j) ∧ k + j ≤ 6 ∧ x ≤ rep4 j := by
  have hend : ∀ k : Nat, k ≤ 20 → (if nI k ≤ 6 then nI k else 0) = 0 ∨ ∃ j, (if nI k ≤ 6 then nI k else 0) = nI (k + j) ∧ k + j ≤ 6 ∧ 0 ≤ rep4 j := by
    intro k hk
    by_cases h : k ≤ 6
    · have h6 : nI k ≤ 6 := (nI_leI (b := 6) (by omega) (by omega)).mpr h
      exact Or.inr ⟨0, by rw [if_pos h6]; rfl, h, Nat.le_refl _⟩
    · have h6 : ¬ nI k ≤ 6 := fun h9 => h ((nI_leI (b := 6) (by omega) (by omega)).mp h9)
      exact Or.inl (by rw [if_neg h6])
  induction n with
  | zero =>
    intro k x hk _ hx
    have hx0 : x = 0 := by rw [Nat.pow_zero] at hx; omega
    subst hx0
    exact hend k (by omega)
  | succ n ih =>
    intro k x hk hb hx
    by_cases hx0 : x = 0
    · subst hx0
      rw [show nI 0 = 0 from rfl, dgL_zero]
      exact hend k (by omega)
    · have hne : ¬ nI x = 0 := nI_ne0 (by omega) hb
      have hd : dgO (nI x) = nI (x % 10) := pk_rem (d := 10) hb (by decide) (by decide)
      have hq : nI x / 10 = nI (x / 10) := pk_div (d := 10) hb (by decide) (by decide)
      by_cases hbad : dgO (nI x) < 1 ∨ 4 < dgO (nI x)
      · exact Or.inl (dg_bad hne hbad)
      · rw [dg_step hne hbad, hq, nI_1]
        rcases ih (k + 1) (x / 10) (by omega) (by omega) (by rw [Nat.pow_succ] at hx; omega) with h | ⟨j, h1, h2, h3⟩
        · exact Or.inl h
        · refine Or.inr ⟨j + 1, by rw [h1]; congr 1; omega, by omega, ?_⟩
          have h4 : ¬ 4 < nI (x % 10) := by rw [← hd]; exact fun h => hbad (Or.inr h)
          have h5 : x % 10 ≤ 4 := by
            rcases Nat.lt_or_ge 4 (x % 10) with h | h
            · exact absurd (nI_lt (a := 4) h (by omega)) h4
            · exact h
          show x ≤ rep4 j * 10 + 4
          omega
theorem neg_dg {x : Int32} (h : x < 0) : dgO x < 1 := by
  have hx : x.toInt < 0 := by simpa [Int32.lt_iff_toInt_lt] using h
  have h2 := x.le_toInt
  have e : (dgO x).toInt = x.toInt.tmod 10 := by
    unfold dgO
    rw [irem_eq_mod, Int32.toInt_mod]
    rfl
  have e2 : x.toInt.tmod 10 = -((-x.toInt) % 10) := by
    rw [← Int.tmod_eq_emod_of_nonneg (by omega), Int.neg_tmod, Int.neg_neg]
  rw [Int32.lt_iff_toInt_lt, e, e2, show (1 : Int32).toInt = 1 from rfl]
  omega
/-- no digits where the class's first look says so -/
theorem dgt_out {p : Int32} (h : p < 1 ∨ 444444 < p) : dgt p = 0 := by
  by_cases hn : p < 0
  · exact dg_bad (fun e => absurd hn (by rw [e]; decide)) (Or.inl (neg_dg hn))
  · obtain ⟨x, hx, rfl⟩ := nI_of hn
    rcases h with h | h
    · have hx0 : x = 0 := by
        rcases Nat.lt_or_ge x 1 with q | q
        · omega
        · exact absurd h (nI_nlt (a := x) (b := 1) q hx)
      subst hx0
      decide
    · have hx4 : 444444 < x := by
        rcases Nat.lt_or_ge 444444 x with q | q
        · exact q
        · exact absurd h (nI_nlt (a := 444444) (b := x) q (by decide))
      rcases dg_le 10 0 x (by decide) hx (by have : (10 : Nat) ^ 10 = 10000000000 := by decide
                                             omega) with h1 | ⟨j, -, h2, h3⟩
      · exact h1
      · have h4 := rep4_mono (a := j) (b := 6) (by omega)
        have h5 : rep4 6 = 444444 := by decide
        omega
theorem spn_eq {p : Int32} (h1 : ¬ p < 1) (h2 : p ≤ 444444) : spL 10 1 p = sp10 (dgt p) := by
  have hn : ¬ p < 0 := fun h => h1 (by
    simp only [Int32.lt_iff_toInt_lt, show (0 : Int32).toInt = 0 from rfl, show (1 : Int32).toInt = 1 from rfl] at *
    omega)
  obtain ⟨x, hx, rfl⟩ := nI_of hn
  have hx4 : x ≤ 444444 := (nI_leI (b := 444444) hx (by decide)).mp h2
  have hx1 : 1 ≤ x := by
    rcases Nat.lt_or_ge x 1 with q | q
    · exact absurd (nI_lt (b := 1) q (by decide)) h1
    · exact q
  exact sp_dg 10 0 x (by decide) (by have : (10 : Nat) ^ 10 = 10000000000 := by decide
                                     omega) hx (by omega) (Or.inr hx1)
theorem nl1 {p : Int32} (h : ¬ p ≤ 444444) : 444444 < p := Int32.not_le.mp h
theorem dgt_cases (p : Int32) : dgt p = 0 ∨ dgt p = 1 ∨ dgt p = 2 ∨ dgt p = 3 ∨ dgt p = 4 ∨ dgt p = 5 ∨ dgt p = 6 := by
  by_cases hn : p < 1
  · exact Or.inl (dgt_out (Or.inl hn))
  · have hn0 : ¬ p < 0 := fun h => hn (by
      simp only [Int32.lt_iff_toInt_lt, show (0 : Int32).toInt = 0 from rfl, show (1 : Int32).toInt = 1 from rfl] at *
      omega)
    obtain ⟨x, hx, rfl⟩ := nI_of hn0
    rcases dg_le 10 0 x (by decide) hx (by have : (10 : Nat) ^ 10 = 10000000000 := by decide
                                           omega) with h1 | ⟨j, h1, h2, -⟩
    · exact Or.inl h1
    · have h1 : dgt (nI x) = nI (0 + j) := h1
      rw [h1, Nat.zero_add]
      have : j = 0 ∨ j = 1 ∨ j = 2 ∨ j = 3 ∨ j = 4 ∨ j = 5 ∨ j = 6 := by omega
      rcases this with rfl | rfl | rfl | rfl | rfl | rfl | rfl <;> decide
