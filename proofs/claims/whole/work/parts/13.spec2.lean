/-! ask, make, sluice, run in numbers; the pool grows; a cell's own contract in a larger world -/
def sp_ask (E : EV) (x h : Int32) (st : Nat) (gv : Int64) (ct : Nat → Int32) : Int32 × Nat × Int64 × (Nat → Int32) :=
  if inB x E.1 = true then (if (ev E 120 x h (0, 0, ct)).2.2.1 = 0 then (1, (ev E 120 x h (0, 0, ct)).2.1, (ev E 120 x h (0, 0, ct)).1, (ev E 120 x h (0, 0, ct)).2.2.2) else ((ev E 120 x h (0, 0, ct)).2.2.1, (ev E 120 x h (0, 0, ct)).2.1, gv, (ev E 120 x h (0, 0, ct)).2.2.2)) else (-101, st, gv, ct)
abbrev MK : Type := Nat × (Nat → Int32) × (Nat → Int32) × (Nat → Int64) × (Nat → Int32) × Nat
def pt5 (pt : Nat → Int32) (n : Nat) (a b c d e : Int32) : Nat → Int32 := upd (upd (upd (upd (upd pt (5 * n) a) (5 * n + 1) b) (5 * n + 2) c) (5 * n + 3) d) (5 * n + 4) e
def mkS (n : Nat) (kd pt : Nat → Int32) (he : Nat → Int64) (k a b c d e : Int32) (v : Int64) (ct : Nat → Int32) (st : Nat) : Int32 × MK := (nI n, n + 1, upd kd n k, pt5 pt n a b c d e, vp_updL he n v, upd ct n 0, st)
def sp_make (b n : Nat) (mn : Int32) (lv sl kd pt : Nat → Int32) (he : Nat → Int64) (k a bb c d e : Int32) (ct : Nat → Int32) (st : Nat) : Int32 × MK :=
  if knB b n kd k a bb c = true then (if fiB k a bb c d e = true then (if n = 40 then (-103, n, kd, pt, he, ct, st) else if k = 12 then
    (if (ev (n, mn, lv, sl, kd, pt, he) 120 a bb (0, 0, ct)).2.2.1 = 0 then mkS n kd pt he k a bb c d e (ev (n, mn, lv, sl, kd, pt, he) 120 a bb (0, 0, ct)).1 (ev (n, mn, lv, sl, kd, pt, he) 120 a bb (0, 0, ct)).2.2.2 (ev (n, mn, lv, sl, kd, pt, he) 120 a bb (0, 0, ct)).2.1
     else ((ev (n, mn, lv, sl, kd, pt, he) 120 a bb (0, 0, ct)).2.2.1, n, kd, pt, he, (ev (n, mn, lv, sl, kd, pt, he) 120 a bb (0, 0, ct)).2.2.2, (ev (n, mn, lv, sl, kd, pt, he) 120 a bb (0, 0, ct)).2.1))
    else mkS n kd pt he k a bb c d e 0 ct st) else (-102, n, kd, pt, he, ct, st)) else (-101, n, kd, pt, he, ct, st)
def sp_sluice (b n sN : Nat) (fr to rl : Nat → Int32) (f t r : Int32) : Int32 × Nat × (Nat → Int32) × (Nat → Int32) × (Nat → Int32) :=
  if inB f b = true ∧ inB t b = true ∧ inB r n = true then (if f = t then (-102, sN, fr, to, rl) else if sN = 8 then (-103, sN, fr, to, rl) else (nI sN, sN + 1, upd fr sN f, upd to sN t, upd rl sN r)) else (-101, sN, fr, to, rl)
/-- how much goes over -/
def amt (lf_ lt_ : Int32) (v : Int64) : Int32 := if v < 0 then 0 else if (if lf_ < 1000000000 - lt_ then lf_ else 1000000000 - lt_).toInt64 < v then (if lf_ < 1000000000 - lt_ then lf_ else 1000000000 - lt_) else v.toInt32
def sp_over (lv : Nat → Int32) (f t : Nat) (v : Int64) : Int32 × (Nat → Int32) := (amt (lv f) (lv t) v, upd (upd lv f (lv f - amt (lv f) (lv t) v)) t (upd lv f (lv f - amt (lv f) (lv t) v) t + amt (lv f) (lv t) v))
abbrev PV : Type := Nat × Int32 × (Nat → Int32) × (Nat → Int32) × (Nat → Int32) × (Nat → Int64) × (Nat → Int32) × (Nat → Int32) × (Nat → Int32)
abbrev HS : Type := (Nat → Int32) × (Nat → Int32) × Nat × Int32 × Int32 × Int32
def flS (P : PV) (h : Int32) (k : Nat) (S : HS) : Bool × HS := match P, S with
  | (n, mn, sl, kd, pt, he, fr, to, rl), (lv, ct, _, ts, tw, tm) =>
    if (ev (n, mn, lv, sl, kd, pt, he) 120 (rl k) h (0, 0, ct)).2.2.1 = 0 then (true, (sp_over lv (ix (fr k)) (ix (to k)) (ev (n, mn, lv, sl, kd, pt, he) 120 (rl k) h (0, 0, ct)).1).2, (ev (n, mn, lv, sl, kd, pt, he) 120 (rl k) h (0, 0, ct)).2.2.2, (ev (n, mn, lv, sl, kd, pt, he) 120 (rl k) h (0, 0, ct)).2.1, ts, tw, (sp_over lv (ix (fr k)) (ix (to k)) (ev (n, mn, lv, sl, kd, pt, he) 120 (rl k) h (0, 0, ct)).1).1)
    else (false, lv, (ev (n, mn, lv, sl, kd, pt, he) 120 (rl k) h (0, 0, ct)).2.2.2, (ev (n, mn, lv, sl, kd, pt, he) 120 (rl k) h (0, 0, ct)).2.1, nI k, (ev (n, mn, lv, sl, kd, pt, he) 120 (rl k) h (0, 0, ct)).2.2.1, tm)
def hrS (P : PV) (h : Int32) : Nat → Nat → HS → Bool × HS
  | 0, _, S => (true, S)
  | c + 1, k, S => if (flS P h k S).1 = true then hrS P h c (k + 1) (flS P h k S).2 else (false, (flS P h k S).2)
def rnS (P : PV) (sN : Nat) (h : Int32) : Nat → Nat → HS → Nat × HS
  | 0, w, S => (w, S)
  | c + 1, w, S => if (hrS P (h + nI w) sN 0 S).1 = true then rnS P sN h c (w + 1) (hrS P (h + nI w) sN 0 S).2 else (w, (hrS P (h + nI w) sN 0 S).2)
def sp_run (P : PV) (sN : Nat) (h c : Int32) (S : HS) : Int32 × HS := if inB c 101 = true then (nI (rnS P sN h (ix c) 0 (S.1, S.2.1, S.2.2.1, -1, 0, 0)).1, (rnS P sN h (ix c) 0 (S.1, S.2.1, S.2.2.1, -1, 0, 0)).2) else (-102, S)
def wfL (b : Nat) (lv : Nat → Int32) : Prop := ∀ k, k < b → lvB (lv k) = true
def wfS (b n sN : Nat) (fr to rl : Nat → Int32) : Prop := ∀ k, k < sN → inB (fr k) b = true ∧ inB (to k) b = true ∧ ¬ fr k = to k ∧ inB (rl k) n = true
theorem lvB_iff {x : Int32} : lvB x = true ↔ 0 ≤ x.toInt ∧ x.toInt ≤ 1000000000 := by simp [lvB]
theorem m_toInt {y : Int32} (h : lvB y = true) : (1000000000 - y).toInt = 1000000000 - y.toInt := by
  have h := lvB_iff.mp h
  have e : (1000000000 : Int32).toInt = 1000000000 := rfl
  rw [Jvm.Kit.i32_sub (by rw [e]; omega) (by rw [e]; omega), e]
theorem amt_in {x y : Int32} {v : Int64} (hx : lvB x = true) (hy : lvB y = true) : 0 ≤ (amt x y v).toInt ∧ (amt x y v).toInt ≤ x.toInt ∧ (amt x y v).toInt ≤ 1000000000 - y.toInt := by
  have hx' := lvB_iff.mp hx
  have hy' := lvB_iff.mp hy
  have em := m_toInt hy
  unfold amt
  by_cases h0 : v < 0
  · rw [if_pos h0]
    have : (0 : Int32).toInt = 0 := rfl
    omega
  · rw [if_neg h0]
    by_cases h1 : x < 1000000000 - y
    · rw [if_pos h1]
      rw [i_lt, em] at h1
      by_cases h2 : x.toInt64 < v
      · rw [if_pos h2]; omega
      · rw [if_neg h2]
        rw [l_lt, Int32.toInt_toInt64] at h2
        rw [l_lt, Int64.toInt_zero] at h0
        rw [Jvm.Kit.i32_of_i64 (by omega) (by omega)]
        omega
    · rw [if_neg h1]
      rw [i_lt, em] at h1
      by_cases h2 : (1000000000 - y).toInt64 < v
      · rw [if_pos h2]; omega
      · rw [if_neg h2]
        rw [l_lt, Int32.toInt_toInt64, em] at h2
        rw [l_lt, Int64.toInt_zero] at h0
        rw [Jvm.Kit.i32_of_i64 (by omega) (by omega)]
        omega
theorem amt_lo {x y : Int32} {v : Int64} (hx : lvB x = true) (hy : lvB y = true) : lvB (x - amt x y v) = true := by
  have h := amt_in (v := v) hx hy
  have hx' := lvB_iff.mp hx
  rw [lvB_iff, Jvm.Kit.i32_sub (by omega) (by omega)]
  omega
theorem amt_hi {x y : Int32} {v : Int64} (hx : lvB x = true) (hy : lvB y = true) : lvB (y + amt x y v) = true := by
  have h := amt_in (v := v) hx hy
  have hy' := lvB_iff.mp hy
  have hx' := lvB_iff.mp hx
  rw [lvB_iff, Jvm.Kit.i32_add (by omega) (by omega)]
  omega
/-- the class's own words for it -/
theorem amt_x {x y : Int32} {v : Int64} (hx : lvB x = true) (hy : lvB y = true) : (if (if (if 1000000000 - y < x then 1000000000 - y else x).toInt64 < v then (if 1000000000 - y < x then 1000000000 - y else x).toInt64 else v) < 0 then 0 else (if (if 1000000000 - y < x then 1000000000 - y else x).toInt64 < v then (if 1000000000 - y < x then 1000000000 - y else x).toInt64 else v)).toInt32 = amt x y v := by
  have hx' := lvB_iff.mp hx
  have hy' := lvB_iff.mp hy
  have em := m_toInt hy
  have hmin : (if 1000000000 - y < x then 1000000000 - y else x) = if x < 1000000000 - y then x else 1000000000 - y := by
    by_cases h1 : x < 1000000000 - y
    · rw [if_pos h1, if_neg (fun z => by rw [i_lt] at h1 z; omega)]
    · rw [if_neg h1]
      by_cases h2 : 1000000000 - y < x
      · rw [if_pos h2]
      · rw [if_neg h2]
        rw [i_lt] at h1 h2
        exact Int32.toInt_inj.mp (by omega)
  rw [hmin]
  have hm : 0 ≤ (if x < 1000000000 - y then x else 1000000000 - y).toInt := by
    split
    · omega
    · omega
  unfold amt
  generalize (if x < 1000000000 - y then x else 1000000000 - y) = mo at hm ⊢
  have z0 : ∀ w : Int64, w < 0 ↔ w.toInt < 0 := fun w => by rw [l_lt, Int64.toInt_zero]
  by_cases h0 : v < 0
  · rw [if_pos h0, if_neg (show ¬ mo.toInt64 < v from fun z => by rw [l_lt, Int32.toInt_toInt64] at z; rw [z0] at h0; omega), if_pos h0]; rfl
  · rw [if_neg h0]
    by_cases h1 : mo.toInt64 < v
    · rw [if_pos h1, if_pos h1, if_neg (fun z => by rw [z0, Int32.toInt_toInt64] at z; omega)]
      exact Int32.toInt32_toInt64 mo
    · rw [if_neg h1, if_neg h1, if_neg h0]
theorem over_wfL {b : Nat} {lv : Nat → Int32} {f t : Nat} {v : Int64} (h : wfL b lv) (hf : f < b) (ht : t < b) (hne : ¬ t = f) : wfL b (sp_over lv f t v).2 := by
  intro k hk
  show lvB (upd (upd lv f (lv f - amt (lv f) (lv t) v)) t (upd lv f (lv f - amt (lv f) (lv t) v) t + amt (lv f) (lv t) v) k) = true
  rw [show upd lv f (lv f - amt (lv f) (lv t) v) t = lv t from pk_un hne]
  by_cases h1 : k = t
  · rw [h1, pk_us]; exact amt_hi (h f hf) (h t ht)
  · rw [pk_un h1]
    by_cases h2 : k = f
    · rw [h2, pk_us]; exact amt_lo (h f hf) (h t ht)
    · rw [pk_un h2]; exact h k hk
/-- the pool with one rule more -/
theorem xRel.push {n sN : Nat} {kd pt : Nat → Int32} {he : Nat → Int64} {ct fr to rl : Nat → Int32} {ru su : Nat → Option Nat} {L : List Nat} {f : Nat → va_E} (h : xRel n sN kd pt he ct fr to rl ru su L f) {q : Nat} (hq : q ∉ L) (k a b c d e : Int32) (v : Int64) : xRel (n + 1) sN (upd kd n k) (pt5 pt n a b c d e) (vp_updL he n v) (upd ct n 0) fr to rl (va_up ru n (some q)) su (L ++ [q]) (va_up f q (.inr (0, [.int k, .int a, .int b, .int c, .int d, .int e, .long v, .int 0]))) := by
  obtain ⟨h1, h2, h3, h4, h5⟩ := h
  refine ⟨fun j hj => ?_, fun j hj hj2 => ?_, fun i j a hi hj e1 e2 => ?_, fun j hj => ?_, h5⟩
  · by_cases hjn : j = n
    · subst hjn
      refine ⟨q, va_up_self _ _ _, List.mem_append.mpr (Or.inr (List.mem_singleton.mpr rfl)), ?_⟩
      rw [va_up_self]
      simp [ruE, upd, vp_updL, pt5]
    · obtain ⟨a', g1, g2, g3⟩ := h1 j (by omega)
      have ne : a' ≠ q := fun z => hq (z ▸ g2)
      refine ⟨a', by rw [va_up_ne _ _ hjn]; exact g1, List.mem_append.mpr (Or.inl g2), ?_⟩
      rw [va_up_ne _ _ ne, g3]
      have n0 : ¬ 5 * j = 5 * n := by omega
      have m0 : ∀ i : Nat, i < 5 → ∀ k : Nat, k < 5 → ¬ 5 * j + i = 5 * n + k := fun i _ k _ => by omega
      have m1 : ∀ k : Nat, k < 5 → ¬ 5 * j = 5 * n + k := fun k _ => by omega
      have m2 : ∀ i : Nat, i < 5 → ¬ 5 * j + i = 5 * n := fun i _ => by omega
      simp [ruE, upd, vp_updL, pt5, hjn, n0, m0, m1, m2]
  · rw [va_up_ne _ _ (by omega)]; exact h2 j (by omega) hj2
  · by_cases hin : i = n
    · by_cases hjn : j = n
      · omega
      · rw [hin, va_up_self] at e1
        rw [va_up_ne _ _ hjn] at e2
        obtain ⟨a', g1, g2, -⟩ := h1 j (by omega)
        rw [e2] at g1
        cases g1; cases e1
        exact absurd g2 hq
    · rw [va_up_ne _ _ hin] at e1
      by_cases hjn : j = n
      · rw [hjn, va_up_self] at e2
        obtain ⟨a', g1, g2, -⟩ := h1 i (by omega)
        rw [e1] at g1
        cases g1; cases e2
        exact absurd g2 hq
      · rw [va_up_ne _ _ hjn] at e2
        exact h3 i j a (by omega) (by omega) e1 e2
  · obtain ⟨a', g1, g2, g3⟩ := h4 j hj
    have ne : a' ≠ q := fun z => hq (z ▸ g2)
    exact ⟨a', g1, List.mem_append.mpr (Or.inl g2), by rw [va_up_ne _ _ ne, g3]⟩
/-- the pool with one sluice more -/
theorem xRel.pushS {n sN : Nat} {kd pt : Nat → Int32} {he : Nat → Int64} {ct fr to rl : Nat → Int32} {ru su : Nat → Option Nat} {L : List Nat} {f : Nat → va_E} (h : xRel n sN kd pt he ct fr to rl ru su L f) {q : Nat} (hq : q ∉ L) (a b c : Int32) : xRel n (sN + 1) kd pt he ct (upd fr sN a) (upd to sN b) (upd rl sN c) ru (va_up su sN (some q)) (L ++ [q]) (va_up f q (.inr (1, [.int a, .int b, .int c]))) := by
  obtain ⟨h1, h2, h3, h4, h5⟩ := h
  refine ⟨fun j hj => ?_, h2, h3, fun j hj => ?_, fun j hj hj2 => ?_⟩
  · obtain ⟨a', g1, g2, g3⟩ := h1 j hj
    have ne : a' ≠ q := fun z => hq (z ▸ g2)
    exact ⟨a', g1, List.mem_append.mpr (Or.inl g2), by rw [va_up_ne _ _ ne, g3]⟩
  · by_cases hjn : j = sN
    · subst hjn
      refine ⟨q, va_up_self _ _ _, List.mem_append.mpr (Or.inr (List.mem_singleton.mpr rfl)), ?_⟩
      rw [va_up_self]
      simp [suE, upd]
    · obtain ⟨a', g1, g2, g3⟩ := h4 j (by omega)
      have ne : a' ≠ q := fun z => hq (z ▸ g2)
      refine ⟨a', by rw [va_up_ne _ _ hjn]; exact g1, List.mem_append.mpr (Or.inl g2), ?_⟩
      rw [va_up_ne _ _ ne, g3]
      simp [suE, upd, hjn]
  · rw [va_up_ne _ _ (by omega)]; exact h5 j (by omega) hj2
theorem xRel.sluice {n sN : Nat} {kd pt : Nat → Int32} {he : Nat → Int64} {ct fr to rl : Nat → Int32} {ru su : Nat → Option Nat} {L : List Nat} {f : Nat → va_E} (h : xRel n sN kd pt he ct fr to rl ru su L f) {k : Nat} (hk : k < sN) : ∃ a, su k = some a ∧ a ∈ L ∧ f a = suE fr to rl k := h.2.2.2.1 k hk
theorem last_at {α : Type} (w : List α) (x : α) : (w ++ [x])[w.length]? = some x := by simp
theorem last_set {α : Type} (w : List α) (x y : α) : (w ++ [x]).set w.length y = w ++ [y] := by simp
theorem cell_join {D : va_G} {A : Nat → Prop} {ws : va_W} {p q : Nat} {e0 e1 : va_E} {H H1 : Heap} (hP : va_P D vwCl ws H) (hD : va_D A ws) (hp : ws[p]? = some (q, e0)) (hk : ∀ x : Nat, x < H.size → ¬ va_A [(q, e0)] H.size x → H1[x]? = H[x]?) (h1 : va_P D vwCl [(q, e1)] H1) : va_P D vwCl (ws.set p (q, e1)) H1 ∧ va_D A (ws.set p (q, e1)) := by
  have hl := (List.getElem?_eq_some_iff.mp hp).1
  refine ⟨fun k x hx => ?_, hD.set hp⟩
  by_cases hkp : k = p
  · subst hkp
    rw [List.getElem?_set_self hl] at hx
    cases hx
    exact h1 0 _ rfl
  · rw [List.getElem?_set_ne (Ne.symm hkp)] at hx
    have hlt := (hP k x hx).lt
    refine (hP k x hx).kept (hk x.1 hlt ?_)
    rintro (⟨j, e, hj⟩ | z)
    · have hj0 : j < 1 := (List.getElem?_eq_some_iff.mp hj).1
      rw [show j = 0 by omega] at hj
      cases hj
      exact hkp (hD.1 k p x (x.1, e0) hx hp rfl)
    · omega
section SPL
variable {b n sN st st2 : Nat} {mn fl2 k a bb c d e x h : Int32} {lv sl kd pt ct ct2 : Nat → Int32} {he : Nat → Int64} {r gv : Int64}
theorem sp_ask_1 (hi : inB x n = true) (e : (r, (st2, fl2, ct2)) = ev (n, mn, lv, sl, kd, pt, he) 120 x h (0, 0, ct)) (h0 : fl2 = 0) : ((1 : Int32), st2, r, ct2) = sp_ask (n, mn, lv, sl, kd, pt, he) x h st gv ct := by
  unfold sp_ask; rw [← e]; simp [hi, h0]
theorem sp_ask_f (hi : inB x n = true) (e : (r, (st2, fl2, ct2)) = ev (n, mn, lv, sl, kd, pt, he) 120 x h (0, 0, ct)) (h0 : ¬ fl2 = 0) : (fl2, st2, gv, ct2) = sp_ask (n, mn, lv, sl, kd, pt, he) x h st gv ct := by
  unfold sp_ask; rw [← e]; simp [hi, h0]
theorem sp_ask_u (hi : inB x n = false) : ((-101 : Int32), st, gv, ct) = sp_ask (n, mn, lv, sl, kd, pt, he) x h st gv ct := by
  unfold sp_ask; simp [hi]
theorem sp_make_u (hk : knB b n kd k a bb c = false) : ((-101 : Int32), n, kd, pt, he, ct, st) = sp_make b n mn lv sl kd pt he k a bb c d e ct st := by simp [sp_make, hk]
theorem sp_make_o (hk : knB b n kd k a bb c = true) (hf : fiB k a bb c d e = false) : ((-102 : Int32), n, kd, pt, he, ct, st) = sp_make b n mn lv sl kd pt he k a bb c d e ct st := by simp [sp_make, hk, hf]
theorem sp_make_r (hk : knB b n kd k a bb c = true) (hf : fiB k a bb c d e = true) (hn : n = 40) : ((-103 : Int32), n, kd, pt, he, ct, st) = sp_make b n mn lv sl kd pt he k a bb c d e ct st := by subst hn; simp [sp_make, hk, hf]
theorem sp_make_f (hk : knB b n kd k a bb c = true) (hf : fiB k a bb c d e = true) (hn : ¬ n = 40) (h12 : k = 12) (ee : (r, (st2, fl2, ct2)) = ev (n, mn, lv, sl, kd, pt, he) 120 a bb (0, 0, ct)) (h0 : ¬ fl2 = 0) : (fl2, n, kd, pt, he, ct2, st2) = sp_make b n mn lv sl kd pt he k a bb c d e ct st := by
  subst h12; unfold sp_make; rw [← ee]; simp [hk, hf, hn, h0]
theorem sp_make_h (hk : knB b n kd k a bb c = true) (hf : fiB k a bb c d e = true) (hn : ¬ n = 40) (h12 : k = 12) (ee : (r, (st2, fl2, ct2)) = ev (n, mn, lv, sl, kd, pt, he) 120 a bb (0, 0, ct)) (h0 : fl2 = 0) : mkS n kd pt he k a bb c d e r ct2 st2 = sp_make b n mn lv sl kd pt he k a bb c d e ct st := by
  subst h12; unfold sp_make; rw [← ee]; simp [hk, hf, hn, h0]
theorem sp_make_n (hk : knB b n kd k a bb c = true) (hf : fiB k a bb c d e = true) (hn : ¬ n = 40) (h12 : ¬ k = 12) : mkS n kd pt he k a bb c d e 0 ct st = sp_make b n mn lv sl kd pt he k a bb c d e ct st := by
  unfold sp_make; simp [hk, hf, hn, h12]
theorem sp_fill_ok {x v : Int32} (h1 : inB x b = true) (h2 : lvB v = true) : sp_fill b lv x v = (lv (ix x), upd lv (ix x) v) := by simp [sp_fill, h1, h2]
theorem sp_level_ok {x : Int32} (h1 : inB x b = true) : sp_level b lv x = lv (ix x) := by simp [sp_level, h1]
variable {fr to rl : Nat → Int32} {ts tw tm : Int32} {kq : Nat}
theorem flS_t (e : (r, (st2, fl2, ct2)) = ev (n, mn, lv, sl, kd, pt, he) 120 (rl kq) h (0, 0, ct)) (h0 : fl2 = 0) : flS (n, mn, sl, kd, pt, he, fr, to, rl) h kq (lv, ct, st, ts, tw, tm) = (true, (sp_over lv (ix (fr kq)) (ix (to kq)) r).2, ct2, st2, ts, tw, (sp_over lv (ix (fr kq)) (ix (to kq)) r).1) := by
  unfold flS; simp only [← e]; rw [if_pos h0]
theorem flS_f (e : (r, (st2, fl2, ct2)) = ev (n, mn, lv, sl, kd, pt, he) 120 (rl kq) h (0, 0, ct)) (h0 : ¬ fl2 = 0) : flS (n, mn, sl, kd, pt, he, fr, to, rl) h kq (lv, ct, st, ts, tw, tm) = (false, lv, ct2, st2, nI kq, fl2, tm) := by
  unfold flS; simp only [← e]; rw [if_neg h0]
theorem hrS_t {P : PV} {c k : Nat} {S S2 : HS} (e : flS P h k S = (true, S2)) : hrS P h (c + 1) k S = hrS P h c (k + 1) S2 := by simp [hrS, e]
theorem hrS_f {P : PV} {c k : Nat} {S S2 : HS} (e : flS P h k S = (false, S2)) : hrS P h (c + 1) k S = (false, S2) := by simp [hrS, e]
theorem rnS_t {P : PV} {c k : Nat} {S S2 : HS} (e : hrS P (h + nI k) sN 0 S = (true, S2)) : rnS P sN h (c + 1) k S = rnS P sN h c (k + 1) S2 := by simp [rnS, e]
theorem rnS_f {P : PV} {c k : Nat} {S S2 : HS} (e : hrS P (h + nI k) sN 0 S = (false, S2)) : rnS P sN h (c + 1) k S = (k, S2) := by simp [rnS, e]
end SPL
theorem xw_push {F : Nat → Nat} {Y : Nat → ClassId} {bc mn rc sc st fl : Int32} {gv : Int64} {fs fb wo : Int32} {lv sl : Nat → Int32} {ru su : Nat → Option Nat} {L : List Nat} {f : Nat → va_E} {q : Nat} {e : va_E} (hq : q ∉ L) : xw F Y bc mn rc sc st fl gv fs fb wo lv sl ru su L f ++ [(q, e)] = xw F Y bc mn rc sc st fl gv fs fb wo lv sl ru su (L ++ [q]) (va_up f q e) := by
  show (_ ++ va_pl L f) ++ [(q, e)] = _
  rw [List.append_assoc, va_pl_push hq]
section CIN
variable {p : Program} {l : Launch} {e : Env} {R : Room} {s : State} {m : MethodId} {args : Array Value} {below : List Frame} {meth : Method} {c : Code} {H : Heap} {locs : List Loc} {cells slots : Nat} {Q : State → Prop}
variable {cc : ByteArray} {pc : Nat} {ls : Array Slot} {rest st0 : List Value} {D : va_G} {A : Nat → Prop} {tys : List (ClassId × FieldType)} {w : va_W} {H0 : Heap}
variable {y : MethodName} {bytes : ByteArray} {maxL nL n index : Nat} {ws : List Cond} {rm : Room} {Ts : List Cond} {own host : String} {As : List Value} {σ : Type}
/-- a constructor of a nest mate, by its own cell's contract -/
theorem WrV.callIN {q : Nat} {e0 : va_E} {e1 : σ → va_E} {post : σ → Prop} (h : WrV l y ws rm D tys [(q, e0)] (.ref q :: As) (fun u => [(q, e1 u)]) post 0 0) (S : CallFix p m c cc nL s args Ts own) (cw : va_CN R s args own index y host bytes maxL none ws rm 0 0 n ∧ y.name = "<init>" ∧ (Cond.instanceMethod y).before args s = true) (hP : va_P D vwCl w H) (hD : va_D A w) (hS : va_S A H0 H locs) (hA : ∀ q, H0.size ≤ q → A q) (hK : va_K D vwCl tys s) (hN : nst s) (i : Nat) (hi : w[i]? = some (q, e0))
    (hn : As.length = n) (hsize : ls.size = nL) (hstack : st0 = As.reverse ++ .ref q :: rest) (hW : (rest.map fun v => v.category).sum ≤ 8) (hdg : decode cc pc = .ok (.invokespecial index, 3)) (hf : cells + 0 ≤ R.cells ∧ slots + 0 ≤ R.slots)
    (k : ∀ (u : σ) (H1 : Heap) (locs1 : List Loc), post u → va_P D vwCl (w.set i (q, e1 u)) H1 → va_D A (w.set i (q, e1 u)) → va_S A H0 H1 locs1 → W p l e R s m args below meth c H1 locs1 (cells + 0) (slots + 0) Q (F0 m (pc + 3) ls rest)) : W p l e R s m args below meth c H locs cells slots Q (F0 m pc ls st0) := by
  have hP1 : va_P D vwCl [(q, e0)] H := fun j x hx => by
    have hj0 : j < 1 := (List.getElem?_eq_some_iff.mp hx).1
    rw [show j = 0 by omega] at hx
    cases hx
    exact hP i _ hi
  have hD1 : va_D (fun _ => True) [(q, e0)] := ⟨fun i j x y h1 h2 _ => by
    have a1 : i < 1 := (List.getElem?_eq_some_iff.mp h1).1
    have a2 : j < 1 := (List.getElem?_eq_some_iff.mp h2).1
    omega, fun _ _ _ => trivial⟩
  have hF : ∀ x, va_A [(q, e0)] H.size x → A x := by
    rintro x (⟨j, z, hj⟩ | z)
    · have hj0 : j < 1 := (List.getElem?_eq_some_iff.mp hj).1
      rw [show j = 0 by omega] at hj
      cases hj
      exact hD.2 i _ hi
    · exact hA x (Nat.le_trans hS.1 z)
  refine va_callv (va_runIN S (h H.size) cw ⟨wrP.blind, fun U hU hW => ⟨rfl, by rw [hU], by rw [hU]; exact hP1, kk.warm hW ⟨hK, hN⟩, hD1⟩⟩ rfl hn hsize hstack (lv_room hW) hdg hf) hS (fun q _ h => hF q h) hF (fun u t H1 locs1 ht _ hp hB _ hk1 hS1 => ?_)
  obtain ⟨hP2, -⟩ := hB
  rw [ht] at hP2
  obtain ⟨g1, g2⟩ := cell_join hP hD hi hk1 hP2
  exact k u H1 locs1 hp g1 g2 hS1
theorem my_astq {a : Nat} {ws : va_W} (hx : p.tables.exec = Jvm.exec) (hb : c.code = cc) (hK : va_K D vwCl tys s) (hP : va_P D vwCl ws H) (hD : va_D A ws) (hS : va_S A H0 H locs) (q0 t0 qk ci : Nat) {cA : ClassId} {r : vw_C} {n v : Nat} {vs : List Value} {f : Nat → Option Nat} (ha : ws[q0]? = some (a, .inl (cA, n, .inr (.inr (.inr (.inr f)))))) (ht : tys[t0]? = some (cA, .object r.1)) (hv : ws[qk]? = some (v, .inr (ci, vs))) (hc : vwCl[ci]? = some r) {i : Int32} {j : Nat} (hi : i = nI j) (hj : j < n) (hn : n < 2 ^ 31) (hdg : decode cc pc = .ok (.aastore, 1))
    (kk : ∀ (H1 : Heap) (locs1 : List Loc), va_P D vwCl (ws.set q0 (a, .inl (cA, n, .inr (.inr (.inr (.inr (va_up f j (some v)))))))) H1 → va_D A (ws.set q0 (a, .inl (cA, n, .inr (.inr (.inr (.inr (va_up f j (some v)))))))) → va_S A H0 H1 locs1 → W p l e R s m args below meth c H1 locs1 cells slots Q (F0 m (pc + 1) ls rest)) : W p l e R s m args below meth c H locs cells slots Q (F0 m pc ls (.ref v :: .int i :: .ref a :: rest)) := by
  subst hi
  exact va_astq hx hb hK hP hD hS q0 t0 qk ci ha ht hv hc (vp_in_nI hj hn) hdg (by rw [nI_clamp (by omega)]; exact kk)
end CIN
