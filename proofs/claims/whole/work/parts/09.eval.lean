/-! what an asking gives: one mathematical value for both sides -/
def td12 (z : Int64) : Int64 := if z - z / 12 * 12 < 0 then z - z / 12 * 12 + 12 else z - z / 12 * 12
def td (mn h : Int32) : Int64 := if td12 (h.toInt64 * mn.toInt64) < 6 then td12 (h.toInt64 * mn.toInt64) else 12 - td12 (h.toInt64 * mn.toInt64)
def sd (a c : Int64) : Int64 := if a - a / c * c < 0 then a / c - 1 else a / c
def bd (v : Int64) (b c d e : Int32) : Int64 := if v < d.toInt64 then b.toInt64 else if e.toInt64 < v then c.toInt64 else v
def knB (b n : Nat) (kd : Nat → Int32) (k a bb c : Int32) : Bool :=
  if k = 0 ∨ k = 2 ∨ k = 3 then true else if k = 1 then inB a b else if k = 4 ∨ k = 5 ∨ k = 6 ∨ k = 7 then ptB a n && ptB bb n
  else if k = 9 then ptB a n && (ptB bb n && ptB c n) else if k = 8 ∨ k = 10 ∨ k = 11 ∨ k = 12 ∨ k = 13 then ptB a n
  else if k = 14 then decide (inB a n = true ∧ kd (ix a) = 13) else if k = 15 then inB a 8 else if k = 16 then inB a 8 && inB bb 8 else false
def fiB (k a b c d e : Int32) : Bool := if k = 8 then decide (1 ≤ c.toInt ∧ c.toInt ≤ 1000) else if k = 11 then decide (d ≤ e) else if k = 16 then decide (a ≤ b) else true
/-- what make() lets in, of the rule k -/
def wfR (b n : Nat) (kd pt : Nat → Int32) (k : Nat) : Prop := knB b n kd (kd k) (pt (5 * k)) (pt (5 * k + 1)) (pt (5 * k + 2)) = true ∧ fiB (kd k) (pt (5 * k)) (pt (5 * k + 1)) (pt (5 * k + 2)) (pt (5 * k + 3)) (pt (5 * k + 4)) = true
def wfA (b n : Nat) (sl kd pt : Nat → Int32) : Prop := (∀ k, k < n → wfR b n kd pt k) ∧ ∀ s, s < 8 → ptB (sl s) n = true
abbrev EV : Type := Nat × Int32 × (Nat → Int32) × (Nat → Int32) × (Nat → Int32) × (Nat → Int32) × (Nat → Int64)
abbrev SS : Type := Nat × Int32 × (Nat → Int32)
def stS (n : Nat) (x : Int32) (st : Nat) (fl : Int32) : Nat × Int32 × Bool := if fl = 0 then (if inB x n = true then (if st < 120 then (st + 1, fl, true) else (st, -202, false)) else (st, -201, false)) else (st, fl, false)
def lf (E : EV) (k : Nat) (h : Int32) (ct : Nat → Int32) : Int64 := match E with
  | (_, mn, lv, _, kd, pt, he) => if kd k = 0 then (pt (5 * k)).toInt64 else if kd k = 1 then (lv (ix (pt (5 * k)))).toInt64 else if kd k = 2 then td mn h else if kd k = 3 then h.toInt64 else if kd k = 12 then he k else if kd k = 14 then (ct (ix (pt (5 * k)))).toInt64 else 0
def evA (rec : Int32 → Int32 → SS → Int64 × SS) (sl : Nat → Int32) (h : Int32) : Nat → Nat → Int64 → SS → Int64 × SS
  | 0, _, acc, S => (acc, S)
  | c + 1, i, acc, S => evA rec sl h c (i + 1) (acc + (rec (sl i) h S).1) (rec (sl i) h S).2
def evB (E : EV) (rec : Int32 → Int32 → SS → Int64 × SS) (k : Nat) (h : Int32) (S : SS) : Int64 × SS := match E with
  | (_, _, _, sl, kd, pt, _) =>
    if kd k = 4 then ((rec (pt (5 * k)) h S).1 + (rec (pt (5 * k + 1)) h (rec (pt (5 * k)) h S).2).1, (rec (pt (5 * k + 1)) h (rec (pt (5 * k)) h S).2).2)
    else if kd k = 5 then ((rec (pt (5 * k)) h S).1 - (rec (pt (5 * k + 1)) h (rec (pt (5 * k)) h S).2).1, (rec (pt (5 * k + 1)) h (rec (pt (5 * k)) h S).2).2)
    else if kd k = 6 then (if (rec (pt (5 * k + 1)) h (rec (pt (5 * k)) h S).2).1 < (rec (pt (5 * k)) h S).1 then (rec (pt (5 * k + 1)) h (rec (pt (5 * k)) h S).2).1 else (rec (pt (5 * k)) h S).1, (rec (pt (5 * k + 1)) h (rec (pt (5 * k)) h S).2).2)
    else if kd k = 7 then (if (rec (pt (5 * k + 1)) h (rec (pt (5 * k)) h S).2).1 < (rec (pt (5 * k)) h S).1 then (rec (pt (5 * k)) h S).1 else (rec (pt (5 * k + 1)) h (rec (pt (5 * k)) h S).2).1, (rec (pt (5 * k + 1)) h (rec (pt (5 * k)) h S).2).2)
    else if kd k = 8 then (sd ((rec (pt (5 * k)) h S).1 * (pt (5 * k + 1)).toInt64) (pt (5 * k + 2)).toInt64, (rec (pt (5 * k)) h S).2)
    else if kd k = 9 then rec (if 0 < (rec (pt (5 * k)) h S).1 then pt (5 * k + 1) else pt (5 * k + 2)) h (rec (pt (5 * k)) h S).2
    else if kd k = 10 then rec (pt (5 * k)) (h + pt (5 * k + 1)) S
    else if kd k = 11 then (bd (rec (pt (5 * k)) h S).1 (pt (5 * k + 1)) (pt (5 * k + 2)) (pt (5 * k + 3)) (pt (5 * k + 4)), (rec (pt (5 * k)) h S).2)
    else if kd k = 13 then rec (pt (5 * k)) h (S.1, S.2.1, upd S.2.2 k (S.2.2 k + 1))
    else if kd k = 15 then rec (sl (ix (pt (5 * k)))) h S
    else if kd k = 16 then evA rec sl h (ix (pt (5 * k + 1)) + 1 - ix (pt (5 * k))) (ix (pt (5 * k))) 0 S
    else (lf E k h S.2.2, S)
/-- the rule x is asked at h: what it gives, and the steps, the failure, the counters behind it -/
def ev (E : EV) : Nat → Int32 → Int32 → SS → Int64 × SS
  | 0, x, _, S => (0, (stS E.1 x S.1 S.2.1).1, (stS E.1 x S.1 S.2.1).2.1, S.2.2)
  | d + 1, x, h, S => if (stS E.1 x S.1 S.2.1).2.2 = true then evB E (ev E d) (ix x) h ((stS E.1 x S.1 S.2.1).1, (stS E.1 x S.1 S.2.1).2.1, S.2.2) else (0, (stS E.1 x S.1 S.2.1).1, (stS E.1 x S.1 S.2.1).2.1, S.2.2)
section EVL
variable {n : Nat} {mn : Int32} {lv sl kd pt : Nat → Int32} {he : Nat → Int64} {d : Nat} {x h : Int32} {st st1 : Nat} {fl fl1 : Int32} {ct : Nat → Int32}
theorem ev_no (hs : stS n x st fl = (st1, fl1, false)) : ((0 : Int64), (st1, fl1, ct)) = ev (n, mn, lv, sl, kd, pt, he) d x h (st, fl, ct) := by
  cases d with
  | zero => simp [ev, hs]
  | succ d => simp [ev, hs]
theorem ev_go (hs : stS n x st fl = (st1, fl1, true)) : ev (n, mn, lv, sl, kd, pt, he) (d + 1) x h (st, fl, ct) = evB (n, mn, lv, sl, kd, pt, he) (ev (n, mn, lv, sl, kd, pt, he) d) (ix x) h (st1, fl1, ct) := by simp [ev, hs]
theorem ev_4 {r1 r2 : Int64} {S1 S2 : SS} (hs : stS n x st fl = (st1, fl1, true)) (hk : kd (ix x) = 4) (e1 : (r1, S1) = ev (n, mn, lv, sl, kd, pt, he) d (pt (5 * ix x)) h (st1, fl1, ct)) (e2 : (r2, S2) = ev (n, mn, lv, sl, kd, pt, he) d (pt (5 * ix x + 1)) h S1) : (r1 + r2, S2) = ev (n, mn, lv, sl, kd, pt, he) (d + 1) x h (st, fl, ct) := by
  rw [ev_go hs]; simp [evB, hk, ← e1, ← e2]
theorem ev_5 {r1 r2 : Int64} {S1 S2 : SS} (hs : stS n x st fl = (st1, fl1, true)) (hk : kd (ix x) = 5) (e1 : (r1, S1) = ev (n, mn, lv, sl, kd, pt, he) d (pt (5 * ix x)) h (st1, fl1, ct)) (e2 : (r2, S2) = ev (n, mn, lv, sl, kd, pt, he) d (pt (5 * ix x + 1)) h S1) : (r1 - r2, S2) = ev (n, mn, lv, sl, kd, pt, he) (d + 1) x h (st, fl, ct) := by
  rw [ev_go hs]; simp [evB, hk, ← e1, ← e2]
theorem ev_6 {r1 r2 : Int64} {S1 S2 : SS} (hs : stS n x st fl = (st1, fl1, true)) (hk : kd (ix x) = 6) (e1 : (r1, S1) = ev (n, mn, lv, sl, kd, pt, he) d (pt (5 * ix x)) h (st1, fl1, ct)) (e2 : (r2, S2) = ev (n, mn, lv, sl, kd, pt, he) d (pt (5 * ix x + 1)) h S1) : (if r2 < r1 then r2 else r1, S2) = ev (n, mn, lv, sl, kd, pt, he) (d + 1) x h (st, fl, ct) := by
  rw [ev_go hs]; simp [evB, hk, ← e1, ← e2]
theorem ev_7 {r1 r2 : Int64} {S1 S2 : SS} (hs : stS n x st fl = (st1, fl1, true)) (hk : kd (ix x) = 7) (e1 : (r1, S1) = ev (n, mn, lv, sl, kd, pt, he) d (pt (5 * ix x)) h (st1, fl1, ct)) (e2 : (r2, S2) = ev (n, mn, lv, sl, kd, pt, he) d (pt (5 * ix x + 1)) h S1) : (if r2 < r1 then r1 else r2, S2) = ev (n, mn, lv, sl, kd, pt, he) (d + 1) x h (st, fl, ct) := by
  rw [ev_go hs]; simp [evB, hk, ← e1, ← e2]
theorem ev_8 {r1 : Int64} {S1 : SS} (hs : stS n x st fl = (st1, fl1, true)) (hk : kd (ix x) = 8) (e1 : (r1, S1) = ev (n, mn, lv, sl, kd, pt, he) d (pt (5 * ix x)) h (st1, fl1, ct)) : (sd (r1 * (pt (5 * ix x + 1)).toInt64) (pt (5 * ix x + 2)).toInt64, S1) = ev (n, mn, lv, sl, kd, pt, he) (d + 1) x h (st, fl, ct) := by
  rw [ev_go hs]; simp [evB, hk, ← e1]
theorem ev_9 {r1 r2 : Int64} {S1 S2 : SS} {y : Int32} (hs : stS n x st fl = (st1, fl1, true)) (hk : kd (ix x) = 9) (e1 : (r1, S1) = ev (n, mn, lv, sl, kd, pt, he) d (pt (5 * ix x)) h (st1, fl1, ct)) (hy : y = if 0 < r1 then pt (5 * ix x + 1) else pt (5 * ix x + 2)) (e2 : (r2, S2) = ev (n, mn, lv, sl, kd, pt, he) d y h S1) : (r2, S2) = ev (n, mn, lv, sl, kd, pt, he) (d + 1) x h (st, fl, ct) := by
  rw [ev_go hs, e2, hy]; simp [evB, hk, ← e1]
theorem ev_10 {r1 : Int64} {S1 : SS} (hs : stS n x st fl = (st1, fl1, true)) (hk : kd (ix x) = 10) (e1 : (r1, S1) = ev (n, mn, lv, sl, kd, pt, he) d (pt (5 * ix x)) (h + pt (5 * ix x + 1)) (st1, fl1, ct)) : (r1, S1) = ev (n, mn, lv, sl, kd, pt, he) (d + 1) x h (st, fl, ct) := by
  rw [ev_go hs]; simp [evB, hk, ← e1]
theorem ev_11 {r1 : Int64} {S1 : SS} (hs : stS n x st fl = (st1, fl1, true)) (hk : kd (ix x) = 11) (e1 : (r1, S1) = ev (n, mn, lv, sl, kd, pt, he) d (pt (5 * ix x)) h (st1, fl1, ct)) : (bd r1 (pt (5 * ix x + 1)) (pt (5 * ix x + 2)) (pt (5 * ix x + 3)) (pt (5 * ix x + 4)), S1) = ev (n, mn, lv, sl, kd, pt, he) (d + 1) x h (st, fl, ct) := by
  rw [ev_go hs]; simp [evB, hk, ← e1]
theorem ev_13 {r1 : Int64} {S1 : SS} (hs : stS n x st fl = (st1, fl1, true)) (hk : kd (ix x) = 13) (e1 : (r1, S1) = ev (n, mn, lv, sl, kd, pt, he) d (pt (5 * ix x)) h (st1, fl1, upd ct (ix x) (ct (ix x) + 1))) : (r1, S1) = ev (n, mn, lv, sl, kd, pt, he) (d + 1) x h (st, fl, ct) := by
  rw [ev_go hs]; simp [evB, hk, ← e1]
theorem ev_15 {r1 : Int64} {S1 : SS} (hs : stS n x st fl = (st1, fl1, true)) (hk : kd (ix x) = 15) (e1 : (r1, S1) = ev (n, mn, lv, sl, kd, pt, he) d (sl (ix (pt (5 * ix x)))) h (st1, fl1, ct)) : (r1, S1) = ev (n, mn, lv, sl, kd, pt, he) (d + 1) x h (st, fl, ct) := by
  rw [ev_go hs]; simp [evB, hk, ← e1]
theorem ev_16 {r1 : Int64} {S1 : SS} (hs : stS n x st fl = (st1, fl1, true)) (hk : kd (ix x) = 16) (e1 : (r1, S1) = evA (ev (n, mn, lv, sl, kd, pt, he) d) sl h (ix (pt (5 * ix x + 1)) + 1 - ix (pt (5 * ix x))) (ix (pt (5 * ix x))) 0 (st1, fl1, ct)) : (r1, S1) = ev (n, mn, lv, sl, kd, pt, he) (d + 1) x h (st, fl, ct) := by
  rw [ev_go hs]; simp [evB, hk, ← e1]
theorem ev_lf (hs : stS n x st fl = (st1, fl1, true)) (h4 : ¬ kd (ix x) = 4) (h5 : ¬ kd (ix x) = 5) (h6 : ¬ kd (ix x) = 6) (h7 : ¬ kd (ix x) = 7) (h8 : ¬ kd (ix x) = 8) (h9 : ¬ kd (ix x) = 9) (h10 : ¬ kd (ix x) = 10) (h11 : ¬ kd (ix x) = 11) (h13 : ¬ kd (ix x) = 13) (h15 : ¬ kd (ix x) = 15) (h16 : ¬ kd (ix x) = 16) : (lf (n, mn, lv, sl, kd, pt, he) (ix x) h ct, (st1, fl1, ct)) = ev (n, mn, lv, sl, kd, pt, he) (d + 1) x h (st, fl, ct) := by
  rw [ev_go hs]; simp [evB, h4, h5, h6, h7, h8, h9, h10, h11, h13, h15, h16]
theorem stS_le (h : st ≤ 120) : (stS n x st fl).1 ≤ 120 := by
  unfold stS; split
  · split
    · split
      · show st + 1 ≤ 120; omega
      · exact h
    · exact h
  · exact h
theorem stS_ge : st ≤ (stS n x st fl).1 := by
  unfold stS; split
  · split
    · split
      · exact Nat.le_succ _
      · exact Nat.le_refl _
    · exact Nat.le_refl _
  · exact Nat.le_refl _
theorem stS_t (hs : stS n x st fl = (st1, fl1, true)) : fl = 0 ∧ fl1 = 0 ∧ inB x n = true ∧ st < 120 ∧ st1 = st + 1 := by
  unfold stS at hs
  by_cases h0 : fl = 0
  · rw [if_pos h0] at hs
    by_cases h1 : inB x n = true
    · rw [if_pos h1] at hs
      by_cases h2 : st < 120
      · rw [if_pos h2] at hs; cases hs; exact ⟨h0, h0, h1, h2, rfl⟩
      · rw [if_neg h2] at hs; cases hs
    · rw [if_neg h1] at hs; cases hs
  · rw [if_neg h0] at hs; cases hs
end EVL
/-- the steps grow, and stay below 121 -/
theorem evA_st {rec : Int32 → Int32 → SS → Int64 × SS} {sl : Nat → Int32} {h : Int32} (hr : ∀ (x h : Int32) (S : SS), S.1 ≤ (rec x h S).2.1 ∧ (S.1 ≤ 120 → (rec x h S).2.1 ≤ 120)) : ∀ (c i : Nat) (acc : Int64) (S : SS), S.1 ≤ (evA rec sl h c i acc S).2.1 ∧ (S.1 ≤ 120 → (evA rec sl h c i acc S).2.1 ≤ 120)
  | 0, _, _, S => ⟨Nat.le_refl _, id⟩
  | c + 1, i, acc, S => ⟨Nat.le_trans (hr _ _ _).1 (evA_st hr c _ _ _).1, fun q => (evA_st hr c _ _ _).2 ((hr _ _ _).2 q)⟩
def stP (S : SS) (r : Int64 × SS) : Prop := S.1 ≤ r.2.1 ∧ (S.1 ≤ 120 → r.2.1 ≤ 120)
theorem iteP {α : Type} {P : α → Prop} {c : Prop} [Decidable c] {a b : α} (ha : P a) (hb : P b) : P (if c then a else b) := by
  split
  · exact ha
  · exact hb
theorem evB_st {E : EV} {rec : Int32 → Int32 → SS → Int64 × SS} (hr : ∀ (x h : Int32) (S : SS), S.1 ≤ (rec x h S).2.1 ∧ (S.1 ≤ 120 → (rec x h S).2.1 ≤ 120)) (k : Nat) (h : Int32) (S : SS) : stP S (evB E rec k h S) := by
  obtain ⟨n, mn, lv, sl, kd, pt, he⟩ := E
  have two : ∀ (v : Int64) (x y g : Int32), stP S (v, (rec y h (rec x g S).2).2) := fun v x y g => ⟨Nat.le_trans (hr _ _ _).1 (hr _ _ _).1, fun q => (hr _ _ _).2 ((hr _ _ _).2 q)⟩
  have two' : ∀ (x y g : Int32), stP S (rec y h (rec x g S).2) := fun x y g => ⟨Nat.le_trans (hr _ _ _).1 (hr _ _ _).1, fun q => (hr _ _ _).2 ((hr _ _ _).2 q)⟩
  have one : ∀ (v : Int64) (x g : Int32), stP S (v, (rec x g S).2) := fun v x g => hr x g S
  have one' : ∀ (x g : Int32), stP S (rec x g S) := fun x g => hr x g S
  show stP S (if kd k = 4 then _ else _)
  refine iteP (two _ _ _ _) (iteP (two _ _ _ _) (iteP (two _ _ _ _) (iteP (two _ _ _ _) (iteP (one _ _ _) (iteP (two' _ _ _) (iteP (one' _ _) (iteP (one _ _ _) (iteP ?_ (iteP (one' _ _) (iteP ?_ ?_))))))))))
  · exact hr (pt (5 * k)) h (S.1, S.2.1, upd S.2.2 k (S.2.2 k + 1))
  · exact evA_st hr _ _ _ _
  · exact ⟨Nat.le_refl _, id⟩
theorem ev_st (E : EV) : ∀ (d : Nat) (x h : Int32) (S : SS), S.1 ≤ (ev E d x h S).2.1 ∧ (S.1 ≤ 120 → (ev E d x h S).2.1 ≤ 120)
  | 0, x, h, S => ⟨stS_ge, stS_le⟩
  | d + 1, x, h, S => by
    have hB := evB_st (E := E) (ev_st E d) (ix x) h ((stS E.1 x S.1 S.2.1).1, (stS E.1 x S.1 S.2.1).2.1, S.2.2)
    show stP S (if (stS E.1 x S.1 S.2.1).2.2 = true then _ else _)
    refine iteP ?_ ?_
    · exact ⟨Nat.le_trans (stS_ge (n := E.1) (x := x) (fl := S.2.1)) hB.1, fun q => hB.2 (stS_le q)⟩
    · exact ⟨stS_ge, stS_le⟩
