/-! what each call answers and does, in numbers; rules and sluices in the class's pool -/
abbrev ix (x : Int32) : Nat := x.toNatClampNeg
abbrev rk (k : Nat) : Room := { frames := k, cells := 0, slots := 0, locals := 40 * k }
abbrev rkc (k c s : Nat) : Room := { frames := k, cells := c, slots := s, locals := 40 * k }
def sp_level (b : Nat) (lv : Nat → Int32) (x : Int32) : Int32 := if inB x b = true then lv (ix x) else -101
def sp_fill (b : Nat) (lv : Nat → Int32) (x v : Int32) : Int32 × (Nat → Int32) := if inB x b = true then (if lvB v = true then (lv (ix x), upd lv (ix x) v) else (-102, lv)) else (-101, lv)
def sp_basin (b : Nat) (lv : Nat → Int32) (x : Int32) : Int32 × Nat × (Nat → Int32) := if lvB x = true then (if b = 8 then (-103, b, lv) else (nI b, b + 1, upd lv b x)) else (-102, b, lv)
def sp_moon (mn x : Int32) : Int32 × Int32 := if inB x 12 = true then (mn, x) else (-102, mn)
def sp_put (n : Nat) (sl : Nat → Int32) (s r : Int32) : Int32 × (Nat → Int32) := if inB s 8 = true ∧ ptB r n = true then (sl (ix s), upd sl (ix s) r) else (-101, sl)
def sp_told (fs fb wo x : Int32) : Int32 := if x = 0 then fs else if x = 1 then fb else if x = 2 then wo else -101
def sp_counted (n : Nat) (kd ct : Nat → Int32) (x : Int32) : Int32 := if inB x n = true ∧ kd (ix x) = 13 then ct (ix x) else -101
def sp_count (b n sN st : Nat) (sl : Nat → Int32) (x : Int32) : Int32 := if inB (x - 8) 8 = true then sl (ix (x - 8)) else if x = 0 then nI b else if x = 1 then nI n else if x = 2 then nI sN else if x = 3 then nI st else -101
def ruE (kd pt : Nat → Int32) (he : Nat → Int64) (ct : Nat → Int32) (k : Nat) : va_E := .inr (0, [.int (kd k), .int (pt (5 * k)), .int (pt (5 * k + 1)), .int (pt (5 * k + 2)), .int (pt (5 * k + 3)), .int (pt (5 * k + 4)), .long (he k), .int (ct k)])
def suE (fr to rl : Nat → Int32) (k : Nat) : va_E := .inr (1, [.int (fr k), .int (to k), .int (rl k)])
/-- the pool holds the rules 0 .. n - 1 and the sluices 0 .. sN - 1 -/
def xRel (n sN : Nat) (kd pt : Nat → Int32) (he : Nat → Int64) (ct fr to rl : Nat → Int32) (ru su : Nat → Option Nat) (L : List Nat) (f : Nat → va_E) : Prop :=
  (∀ k, k < n → ∃ a, ru k = some a ∧ a ∈ L ∧ f a = ruE kd pt he ct k) ∧ (∀ k, n ≤ k → k < 40 → ru k = none) ∧ (∀ i j a, i < n → j < n → ru i = some a → ru j = some a → i = j) ∧
  (∀ k, k < sN → ∃ a, su k = some a ∧ a ∈ L ∧ f a = suE fr to rl k) ∧ (∀ k, sN ≤ k → k < 8 → su k = none)
def rx (n : Nat) (ru : Nat → Option Nat) (x : Int32) : Option Nat := if inB x n = true then ru (ix x) else none
theorem pl_at {X : va_W} {L : List Nat} {f : Nat → va_E} {a : Nat} {e : va_E} (hL : a ∈ L) (hf : f a = e) : ∃ k : Nat, (X ++ va_pl L f)[k]? = some (a, e) := by
  obtain ⟨k, hk⟩ := va_pl_get (X := X) (f := f) hL
  exact ⟨k, by rw [hk, hf]⟩
theorem inB_ix {x : Int32} {n : Nat} (h : inB x n = true) : ix x < n := by
  have h1 := inB_vp.mp h
  exact Nat.not_le.mp fun q => h1 (Or.inr q)
theorem inB_mono {x : Int32} {n k : Nat} (hk : n ≤ k) (h : inB x k = false) : inB x n = false := by
  simp [inB] at h ⊢; intro h0; have := h h0; omega
theorem ix_ge {x : Int32} {n : Nat} (h0 : ¬ x < 0) (h : inB x n = false) : n ≤ ix x := by
  rcases Nat.lt_or_ge (ix x) n with q | q
  · have : vp_in x n := fun z => by
      rcases z with z | z
      · exact h0 z
      · exact absurd z (Nat.not_le.mpr q)
    rw [inB_vp.mpr this] at h; cases h
  · exact q
/-- a rule that there is: its place in the row, its cell -/
theorem xRel.rule {n sN : Nat} {kd pt : Nat → Int32} {he : Nat → Int64} {ct fr to rl : Nat → Int32} {ru su : Nat → Option Nat} {L : List Nat} {f : Nat → va_E} (h : xRel n sN kd pt he ct fr to rl ru su L f) {x : Int32} {a : Nat} (e : rx n ru x = some a) : inB x n = true ∧ ru (ix x) = some a ∧ a ∈ L ∧ f a = ruE kd pt he ct (ix x) := by
  unfold rx at e
  by_cases hi : inB x n = true
  · rw [if_pos hi] at e
    obtain ⟨a', h1, h2, h3⟩ := h.1 (ix x) (inB_ix hi)
    rw [h1] at e; cases e
    exact ⟨hi, h1, h2, h3⟩
  · rw [if_neg hi] at e; cases e
theorem xRel.norule {n sN : Nat} {kd pt : Nat → Int32} {he : Nat → Int64} {ct fr to rl : Nat → Int32} {ru su : Nat → Option Nat} {L : List Nat} {f : Nat → va_E} (h : xRel n sN kd pt he ct fr to rl ru su L f) {x : Int32} (e : rx n ru x = none) : inB x n = false := by
  unfold rx at e
  by_cases hi : inB x n = true
  · rw [if_pos hi] at e
    obtain ⟨a', h1, -⟩ := h.1 (ix x) (inB_ix hi)
    rw [h1] at e; cases e
  · simpa using hi
theorem xRel.at {n sN : Nat} {kd pt : Nat → Int32} {he : Nat → Int64} {ct fr to rl : Nat → Int32} {ru su : Nat → Option Nat} {L : List Nat} {f : Nat → va_E} (h : xRel n sN kd pt he ct fr to rl ru su L f) {x : Int32} (h0 : ¬ x < 0) (h40 : inB x 40 = true) : ru (ix x) = rx n ru x := by
  unfold rx
  by_cases hi : inB x n = true
  · rw [if_pos hi]
  · rw [if_neg hi]
    exact h.2.1 _ (ix_ge h0 (by simpa using hi)) (inB_ix h40)
theorem inB_up {x : Int32} {n k : Nat} (hk : n ≤ k) (h : inB x n = true) : inB x k = true := by
  simp [inB] at h ⊢; omega
