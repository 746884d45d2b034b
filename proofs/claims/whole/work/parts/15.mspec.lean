/-! the reference: ranges, and its machine of open rules, a step at a time -/
def rgB (v lo hi : Int32) : Bool := decide (lo.toInt ≤ v.toInt ∧ v.toInt ≤ hi.toInt)
theorem rgB_lt {v lo hi : Int32} (h : v < lo) : rgB v lo hi = false := by
  rw [i_lt] at h; simp [rgB]; intro h2; omega
theorem rgB_gt {v lo hi : Int32} (h : hi < v) : rgB v lo hi = false := by
  rw [i_lt] at h; simp [rgB]; intro h2; omega
theorem rgB_in {v lo hi : Int32} (h1 : ¬ v < lo) (h2 : ¬ hi < v) : rgB v lo hi = true := by
  rw [i_lt] at h1 h2; simp [rgB]; omega
theorem nIm1 {n : Nat} (hn : n ≤ 200) : (nI n - 1).toInt = (n : Int) - 1 := pk_sub_toInt (a := n) (b := 1) (by omega) (by decide)
theorem rg_n {x : Int32} {n : Nat} (hn : n ≤ 200) : rgB x 0 (nI n - 1) = inB x n := by
  unfold rgB inB; rw [nIm1 hn, show (0 : Int32).toInt = 0 from rfl]
  congr 1; simp only [eq_iff_iff]; constructor
  · intro h; omega
  · intro h; omega
theorem rg_k {x hi : Int32} {n : Nat} (hh : hi.toInt + 1 = (n : Int)) : rgB x 0 hi = inB x n := by
  unfold rgB inB; rw [show (0 : Int32).toInt = 0 from rfl]
  congr 1; simp only [eq_iff_iff]; constructor
  · intro h; omega
  · intro h; omega
theorem rg_lv {x : Int32} : rgB x 0 1000000000 = lvB x := rfl
theorem rg_815 {x : Int32} : rgB x 8 15 = inB (x - 8) 8 := by
  unfold rgB inB
  have e8 : (8 : Int32).toInt = 8 := rfl
  have e15 : (15 : Int32).toInt = 15 := rfl
  rw [Int32.toInt_sub, e8, e15]
  congr 1; simp only [eq_iff_iff]
  have a := x.toInt_lt; have b := x.le_toInt
  rw [Int.bmod_def]
  constructor
  · intro h; omega
  · intro h; omega
theorem tp1 (T : Nat) : nI T - 1 + 1 = nI T := Int32.sub_add_cancel _ _
theorem mul5 (k : Nat) : (5 : Int32) * nI k = nI (5 * k) := pk_mul 5 k
theorem mul51 (k : Nat) : (5 : Int32) * nI k + 1 = nI (5 * k + 1) := by rw [mul5, nI_1]
theorem mul52 (k : Nat) : (5 : Int32) * nI k + 2 = nI (5 * k + 2) := by rw [mul5]; exact nI_add (5 * k) 2
theorem mul53 (k : Nat) : (5 : Int32) * nI k + 3 = nI (5 * k + 3) := by rw [mul5]; exact nI_add (5 * k) 3
theorem mul54 (k : Nat) : (5 : Int32) * nI k + 4 = nI (5 * k + 4) := by rw [mul5]; exact nI_add (5 * k) 4
abbrev MS : Type := Nat × Int32 × Int64 × Nat × (Nat → Int32) × (Nat → Int32) × (Nat → Int32) × (Nat → Int32) × (Nat → Int64)
def enS (r h : Int32) (M : MS) : MS := match M with
  | (st, fl, va, T, ct, pi, ph, ps, pm) => if r = -1 then (st, -201, va, T, ct, pi, ph, ps, pm) else if st = 120 then (st, -202, va, T, ct, pi, ph, ps, pm) else (st + 1, fl, va, T + 1, ct, upd pi T r, upd ph T h, upd ps T 0, vp_updL pm T 0)
def gvS (v : Int64) (M : MS) : MS := match M with
  | (st, fl, _, T, ct, pi, ph, ps, pm) => (st, fl, v, T - 1, ct, pi, ph, ps, pm)
def jn (k : Int32) (x y : Int64) : Int64 := if k = 4 then x + y else if k = 5 then x - y else if k = 6 then (if x < y then x else y) else if y < x then x else y
def prK (kd pt : Nat → Int32) (k : Nat) (h s : Int32) (M : MS) : MS := match M with
  | (st, fl, va, T, ct, pi, ph, ps, pm) => if s = 1 then enS (pt (5 * k + 1)) h (st, fl, va, T, ct, pi, ph, ps, vp_updL pm (T - 1) va) else gvS (jn (kd k) (pm (T - 1)) va) (st, fl, va, T, ct, pi, ph, ps, pm)
def chK (pt : Nat → Int32) (k : Nat) (h s : Int32) (M : MS) : MS := match M with
  | (st, fl, va, T, ct, pi, ph, ps, pm) => if s = 1 then enS (if 0 < va then pt (5 * k + 1) else pt (5 * k + 2)) h (st, fl, va, T, ct, pi, ph, ps, pm) else gvS va (st, fl, va, T, ct, pi, ph, ps, pm)
def slK (sl pt : Nat → Int32) (k : Nat) (h s : Int32) (M : MS) : MS := match M with
  | (st, fl, va, T, ct, pi, ph, ps, pm) => if pt (5 * k + 1) < pt (5 * k) + s then gvS (pm (T - 1) + (if 0 < s then va else 0)) (st, fl, va, T, ct, pi, ph, ps, vp_updL pm (T - 1) (pm (T - 1) + (if 0 < s then va else 0))) else enS (sl (ix (pt (5 * k) + s))) h (st, fl, va, T, ct, pi, ph, ps, vp_updL pm (T - 1) (pm (T - 1) + (if 0 < s then va else 0)))
def bhK (kd pt : Nat → Int32) (k : Nat) (M : MS) : MS := match M with
  | (st, fl, va, T, ct, pi, ph, ps, pm) => gvS (if kd k = 8 then sd (va * (pt (5 * k + 1)).toInt64) (pt (5 * k + 2)).toInt64 else if kd k = 11 then bd va (pt (5 * k + 1)) (pt (5 * k + 2)) (pt (5 * k + 3)) (pt (5 * k + 4)) else va) (st, fl, va, T, ct, pi, ph, ps, pm)
/-- one step of the rule k on the top -/
def goK (E : EV) (k : Nat) (M : MS) : MS := match E, M with
  | (n, mn, lv, sl, kd, pt, he), (st, fl, va, T, ct, pi, ph, ps, pm) =>
    if kd k ≤ 3 ∨ kd k = 12 ∨ kd k = 14 then gvS (lf (n, mn, lv, sl, kd, pt, he) k (ph (T - 1)) ct) (st, fl, va, T, ct, pi, ph, upd ps (T - 1) (ps (T - 1) + 1), pm)
    else if kd k = 16 then slK sl pt k (ph (T - 1)) (ps (T - 1)) (st, fl, va, T, ct, pi, ph, upd ps (T - 1) (ps (T - 1) + 1), pm)
    else if ps (T - 1) = 0 then enS (if kd k = 15 then sl (ix (pt (5 * k))) else pt (5 * k)) (if kd k = 10 then ph (T - 1) + pt (5 * k + 1) else ph (T - 1)) (st, fl, va, T, upd ct k (ct k + (if kd k = 13 then 1 else 0)), pi, ph, upd ps (T - 1) (ps (T - 1) + 1), pm)
    else if kd k ≤ 7 then prK kd pt k (ph (T - 1)) (ps (T - 1)) (st, fl, va, T, ct, pi, ph, upd ps (T - 1) (ps (T - 1) + 1), pm)
    else if kd k = 9 then chK pt k (ph (T - 1)) (ps (T - 1)) (st, fl, va, T, ct, pi, ph, upd ps (T - 1) (ps (T - 1) + 1), pm)
    else bhK kd pt k (st, fl, va, T, ct, pi, ph, upd ps (T - 1) (ps (T - 1) + 1), pm)
theorem wf_k {b n : Nat} {kd pt : Nat → Int32} {k : Nat} (h : wfR b n kd pt k) : kd k = 0 ∨ kd k = 1 ∨ kd k = 2 ∨ kd k = 3 ∨ kd k = 4 ∨ kd k = 5 ∨ kd k = 6 ∨ kd k = 7 ∨ kd k = 8 ∨ kd k = 9 ∨ kd k = 10 ∨ kd k = 11 ∨ kd k = 12 ∨ kd k = 13 ∨ kd k = 14 ∨ kd k = 15 ∨ kd k = 16 := by
  have h := h.1
  unfold knB at h
  by_cases h1 : kd k = 0 ∨ kd k = 2 ∨ kd k = 3
  · rcases h1 with z | z | z <;> simp [z]
  · rw [if_neg h1] at h
    by_cases h2 : kd k = 1
    · simp [h2]
    · rw [if_neg h2] at h
      by_cases h3 : kd k = 4 ∨ kd k = 5 ∨ kd k = 6 ∨ kd k = 7
      · rcases h3 with z | z | z | z <;> simp [z]
      · rw [if_neg h3] at h
        by_cases h4 : kd k = 9
        · simp [h4]
        · rw [if_neg h4] at h
          by_cases h5 : kd k = 8 ∨ kd k = 10 ∨ kd k = 11 ∨ kd k = 12 ∨ kd k = 13
          · rcases h5 with z | z | z | z | z <;> simp [z]
          · rw [if_neg h5] at h
            by_cases h6 : kd k = 14
            · simp [h6]
            · rw [if_neg h6] at h
              by_cases h7 : kd k = 15
              · simp [h7]
              · rw [if_neg h7] at h
                by_cases h8 : kd k = 16
                · simp [h8]
                · rw [if_neg h8] at h; cases h
theorem wf_lf {b n : Nat} {kd pt : Nat → Int32} {k : Nat} (h : wfR b n kd pt k) (e : kd k ≤ 3 ∨ kd k = 12 ∨ kd k = 14) : kd k = 0 ∨ kd k = 1 ∨ kd k = 2 ∨ kd k = 3 ∨ kd k = 12 ∨ kd k = 14 := by
  rcases wf_k h with z | z | z | z | z | z | z | z | z | z | z | z | z | z | z | z | z <;> rw [z] at e ⊢ <;> revert e <;> decide
