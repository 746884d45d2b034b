/-! the reference's machine comes to what an asking gives -/
def okM (E : EV) (M : MS) (k : Nat) : Prop := match E, M with
  | (n, _, _, _, kd, pt, _), (st, fl, _, T, _, pi, _, ps, _) => fl = 0 ∧ 1 ≤ T ∧ T ≤ st ∧ st ≤ 120 ∧ k < n ∧ pi (T - 1) = nI k ∧ (kd k = 16 → ¬ pt (5 * k + 1) < pt (5 * k) + ps (T - 1) → inB (pt (5 * k) + ps (T - 1)) 8 = true)
def pth (E : EV) : Nat → MS → MS → Prop
  | 0, M, M' => M = M'
  | c + 1, M, M' => ∃ k, okM E M k ∧ pth E c (goK E k M) M'
def Res (E : EV) (M0 : MS) (T : Nat) (pi ph ps : Nat → Int32) (pm : Nat → Int64) (R : Int64 × SS) : Prop :=
  (∃ (c : Nat) (M' : MS), pth E c M0 M' ∧ M'.1 = R.2.1 ∧ M'.2.1 = R.2.2.1 ∧ M'.2.2.2.2.1 = R.2.2.2 ∧ ¬ R.2.2.1 = 0) ∨
  (R.2.2.1 = 0 ∧ ∃ (c : Nat) (pi2 ph2 ps2 : Nat → Int32) (pm2 : Nat → Int64), pth E c M0 (R.2.1, 0, R.1, T, R.2.2.2, pi2, ph2, ps2, pm2) ∧ ∀ j, j < T → pi2 j = pi j ∧ ph2 j = ph j ∧ ps2 j = ps j ∧ pm2 j = pm j)
theorem pth_add {E : EV} : ∀ (c d : Nat) {M M1 M2 : MS}, pth E c M M1 → pth E d M1 M2 → pth E (c + d) M M2
  | 0, d, M, M1, M2, h1, h2 => by
    have h1 : M = M1 := h1
    subst h1; rw [Nat.zero_add]; exact h2
  | c + 1, d, M, M1, M2, h1, h2 => by
    obtain ⟨k, hk, h1⟩ := h1
    rw [show c + 1 + d = (c + d) + 1 by omega]
    exact ⟨k, hk, pth_add c d h1 h2⟩
theorem Res.step {E : EV} {M : MS} {T : Nat} {pi ph ps : Nat → Int32} {pm : Nat → Int64} {R : Int64 × SS} {k : Nat} (hk : okM E M k) (h : Res E (goK E k M) T pi ph ps pm R) : Res E M T pi ph ps pm R := by
  rcases h with ⟨c, M', h1, h2⟩ | ⟨h0, c, a1, a2, a3, a4, h1, h2⟩
  · exact Or.inl ⟨c + 1, M', ⟨k, hk, h1⟩, h2⟩
  · exact Or.inr ⟨h0, c + 1, a1, a2, a3, a4, ⟨k, hk, h1⟩, h2⟩
theorem Res.bind {E : EV} {M : MS} {T t : Nat} {pi ph ps pi' ph' ps' : Nat → Int32} {pm pm' : Nat → Int64} {R1 R : Int64 × SS} (h : Res E M T pi ph ps pm R1) (hf : ¬ R1.2.2.1 = 0 → R.2 = R1.2) (hok : R1.2.2.1 = 0 → ∀ (pi2 ph2 ps2 : Nat → Int32) (pm2 : Nat → Int64), (∀ j, j < T → pi2 j = pi j ∧ ph2 j = ph j ∧ ps2 j = ps j ∧ pm2 j = pm j) → Res E (R1.2.1, 0, R1.1, T, R1.2.2.2, pi2, ph2, ps2, pm2) t pi' ph' ps' pm' R) : Res E M t pi' ph' ps' pm' R := by
  rcases h with ⟨c, M', h1, g1, g2, g3, g4⟩ | ⟨h0, c, a1, a2, a3, a4, h1, h2⟩
  · have e := hf g4
    exact Or.inl ⟨c, M', h1, by rw [e]; exact g1, by rw [e]; exact g2, by rw [e]; exact g3, by rw [e]; exact g4⟩
  · rcases hok h0 a1 a2 a3 a4 h2 with ⟨c2, M', q1, q2⟩ | ⟨q0, c2, b1, b2, b3, b4, q1, q2⟩
    · exact Or.inl ⟨c + c2, M', pth_add c c2 h1 q1, q2⟩
    · exact Or.inr ⟨q0, c + c2, b1, b2, b3, b4, pth_add c c2 h1 q1, q2⟩
theorem Res.done {E : EV} {st T : Nat} {v : Int64} {ct pi ph ps pi2 ph2 ps2 : Nat → Int32} {pm pm2 : Nat → Int64} (h : ∀ j, j < T → pi2 j = pi j ∧ ph2 j = ph j ∧ ps2 j = ps j ∧ pm2 j = pm j) : Res E (st, 0, v, T, ct, pi2, ph2, ps2, pm2) T pi ph ps pm (v, (st, 0, ct)) := Or.inr ⟨rfl, 0, pi2, ph2, ps2, pm2, rfl, h⟩
theorem ev_dead (E : EV) (d : Nat) (x h : Int32) {S : SS} (hf : ¬ S.2.1 = 0) : (ev E d x h S).2 = S := by
  have e : stS E.1 x S.1 S.2.1 = (S.1, S.2.1, false) := by unfold stS; rw [if_neg hf]
  cases d with
  | zero => show ((stS E.1 x S.1 S.2.1).1, (stS E.1 x S.1 S.2.1).2.1, S.2.2) = S; rw [e]
  | succ d =>
    unfold ev
    rw [e]
    rfl
theorem evA_dead (E : EV) (d : Nat) (sl : Nat → Int32) (h : Int32) : ∀ (c i : Nat) (acc : Int64) {S : SS}, ¬ S.2.1 = 0 → (evA (ev E d) sl h c i acc S).2 = S
  | 0, _, _, _, _ => rfl
  | c + 1, i, acc, S, hf => by
    show (evA (ev E d) sl h c (i + 1) (acc + (ev E d (sl i) h S).1) (ev E d (sl i) h S).2).2 = S
    have e := ev_dead E d (sl i) h hf
    rw [evA_dead E d sl h c (i + 1) _ (by rw [e]; exact hf), e]
def simE (n : Nat) (E : EV) (d : Nat) : Prop := ∀ (st : Nat) (va : Int64) (T : Nat) (ct pi ph ps : Nat → Int32) (pm : Nat → Int64) (x h : Int32), T ≤ st → st ≤ 120 → 120 ≤ st + d → ptB x n = true → Res E (enS x h (st, 0, va, T, ct, pi, ph, ps, pm)) T pi ph ps pm (ev E d x h (st, 0, ct))
def simB (n : Nat) (E : EV) (d : Nat) : Prop := ∀ (st : Nat) (va : Int64) (t : Nat) (ct pi ph ps : Nat → Int32) (pm : Nat → Int64) (k : Nat) (h : Int32), k < n → pi t = nI k → ph t = h → ps t = 0 → pm t = 0 → t + 1 ≤ st → st ≤ 120 → 120 ≤ st + d → Res E (st, 0, va, t + 1, ct, pi, ph, ps, pm) t pi ph ps pm (evB E (ev E d) k h (st, 0, ct))
section SIM
variable {b n : Nat} {mn : Int32} {lv sl kd pt : Nat → Int32} {he : Nat → Int64}
theorem sim_enter {d : Nat} (hB : ∀ d', d = d' + 1 → simB n (n, mn, lv, sl, kd, pt, he) d') : simE n (n, mn, lv, sl, kd, pt, he) d := by
  intro st va T ct pi ph ps pm x h hT hst hd hx
  have hfail : ∀ (f : Int32), ¬ f = 0 → enS x h (st, 0, va, T, ct, pi, ph, ps, pm) = (st, f, va, T, ct, pi, ph, ps, pm) → stS n x st 0 = (st, f, false) → Res (n, mn, lv, sl, kd, pt, he) (enS x h (st, 0, va, T, ct, pi, ph, ps, pm)) T pi ph ps pm (ev (n, mn, lv, sl, kd, pt, he) d x h (st, 0, ct)) := by
    intro f hf e1 e2
    rw [e1, ← ev_no (d := d) (h := h) (ct := ct) e2]
    exact Or.inl ⟨0, _, rfl, rfl, rfl, rfl, hf⟩
  by_cases h1 : x = -1
  · refine hfail (-201) (by decide) (by simp [enS, h1]) ?_
    rw [stS, if_pos rfl, if_neg]
    rw [h1, inB_lo (by decide)]; exact Bool.false_ne_true
  · have hi : inB x n = true := by
      unfold ptB at hx; rw [decide_eq_false h1] at hx; simpa using hx
    by_cases h2 : st = 120
    · refine hfail (-202) (by decide) (by simp [enS, h1, h2]) ?_
      rw [stS, if_pos rfl, if_pos hi, if_neg (by omega)]
    · have hs : stS n x st 0 = (st + 1, 0, true) := by rw [stS, if_pos rfl, if_pos hi, if_pos (by omega)]
      cases d with
      | zero => omega
      | succ d' =>
        have hlt := inB_ix hi
        have e1 : enS x h (st, 0, va, T, ct, pi, ph, ps, pm) = (st + 1, 0, va, T + 1, ct, upd pi T x, upd ph T h, upd ps T 0, vp_updL pm T 0) := by simp [enS, h1, h2]
        rw [e1, ev_go hs]
        have ex : x = nI (ix x) := by
          have h0 : ¬ x < 0 := fun z => by rw [inB_lo z] at hi; cases hi
          obtain ⟨j, hj9, ej⟩ := nI_of h0
          have : ix x = j := by rw [ej]; exact nI_clamp hj9
          rw [this]; exact ej
        have r := hB d' rfl (st + 1) va T ct (upd pi T x) (upd ph T h) (upd ps T 0) (vp_updL pm T 0) (ix x) h hlt (by rw [pk_us]; exact ex) pk_us pk_us pk_uLs (by omega) (by omega) (by omega)
        rcases r with r | ⟨r0, c, a1, a2, a3, a4, r1, r2⟩
        · exact Or.inl r
        · refine Or.inr ⟨r0, c, a1, a2, a3, a4, r1, fun j hj => ?_⟩
          have hne : j ≠ T := by omega
          obtain ⟨q1, q2, q3, q4⟩ := r2 j hj
          exact ⟨q1.trans (pk_un hne), q2.trans (pk_un hne), q3.trans (pk_un hne), q4.trans (pk_uLn hne)⟩
theorem up0 (ct : Nat → Int32) (k : Nat) : upd ct k (ct k + 0) = ct := by
  funext j; unfold upd; split
  · rename_i h; rw [h]; exact Int32.add_zero _
  · rfl
theorem fr_up {pi ph ps : Nat → Int32} {pm : Nat → Int64} {t : Nat} {v : Int32} : ∀ j, j < t → pi j = pi j ∧ ph j = ph j ∧ upd ps t v j = ps j ∧ pm j = pm j := fun j hj => ⟨rfl, rfl, pk_un (by omega), rfl⟩
theorem sim_body (hW : wfA b n sl kd pt) (hn : n ≤ 40) {d : Nat} (hE : simE n (n, mn, lv, sl, kd, pt, he) d) : simB n (n, mn, lv, sl, kd, pt, he) d := by
  intro st va t ct pi ph ps pm k h hk hpi hph hps hpm ht hst hd
  have hw := hW.1 k hk
  have ok : ∀ {st2 : Nat} {va2 : Int64} {ct2 pi2 ph2 ps2 : Nat → Int32} {pm2 : Nat → Int64}, st ≤ st2 → st2 ≤ 120 → pi2 t = nI k → ¬ kd k = 16 → okM (n, mn, lv, sl, kd, pt, he) (st2, 0, va2, t + 1, ct2, pi2, ph2, ps2, pm2) k := fun h1 h2 h3 h4 => ⟨rfl, by omega, by omega, h2, hk, h3, fun z => absurd z h4⟩
  -- one part asked, then the step behind it
  have una : ∀ (x hr_ : Int32) (ct1 : Nat → Int32) (f : Int64 → Int64), ¬ kd k = 16 → ptB x n = true →
      (∀ va2 st2 ct2 pi2 ph2 ps2 pm2, pi2 t = nI k → ph2 t = h → ps2 t = 1 → goK (n, mn, lv, sl, kd, pt, he) k (st2, 0, va2, t + 1, ct2, pi2, ph2, ps2, pm2) = (st2, 0, f va2, t, ct2, pi2, ph2, upd ps2 t (ps2 t + 1), pm2)) →
      goK (n, mn, lv, sl, kd, pt, he) k (st, 0, va, t + 1, ct, pi, ph, ps, pm) = enS x hr_ (st, 0, va, t + 1, ct1, pi, ph, upd ps t (ps t + 1), pm) →
      Res (n, mn, lv, sl, kd, pt, he) (st, 0, va, t + 1, ct, pi, ph, ps, pm) t pi ph ps pm (f (ev (n, mn, lv, sl, kd, pt, he) d x hr_ (st, 0, ct1)).1, (ev (n, mn, lv, sl, kd, pt, he) d x hr_ (st, 0, ct1)).2) := by
    intro x hr_ ct1 f h16 hx hgo e0
    refine Res.step (ok (Nat.le_refl _) hst hpi h16) ?_
    rw [e0]
    have g := ev_st (n, mn, lv, sl, kd, pt, he) d x hr_ (st, 0, ct1)
    refine Res.bind (hE st va (t + 1) ct1 pi ph (upd ps t (ps t + 1)) pm x hr_ ht hst hd hx) (fun _ => rfl) (fun h0 pi2 ph2 ps2 pm2 fr => ?_)
    obtain ⟨q1, q2, q3, q4⟩ := fr t (by omega)
    rw [pk_us, hps] at q3
    refine Res.step (ok g.1 (g.2 hst) (q1.trans hpi) h16) ?_
    rw [hgo _ _ _ _ _ _ _ (q1.trans hpi) (q2.trans hph) q3]
    generalize ev (n, mn, lv, sl, kd, pt, he) d x hr_ (st, 0, ct1) = R at h0 ⊢
    obtain ⟨v1, st1, fl1, ct2⟩ := R
    have h0 : fl1 = 0 := h0
    subst h0
    refine Res.done (fun j hj => ?_)
    obtain ⟨z1, z2, z3, z4⟩ := fr j (by omega)
    exact ⟨z1, z2, (pk_un (by omega)).trans (z3.trans (pk_un (by omega))), z4⟩
  -- the leaves
  have leaf : (kd k ≤ 3 ∨ kd k = 12 ∨ kd k = 14) → ¬ kd k = 16 → evB (n, mn, lv, sl, kd, pt, he) (ev (n, mn, lv, sl, kd, pt, he) d) k h (st, 0, ct) = (lf (n, mn, lv, sl, kd, pt, he) k h ct, (st, 0, ct)) → Res (n, mn, lv, sl, kd, pt, he) (st, 0, va, t + 1, ct, pi, ph, ps, pm) t pi ph ps pm (evB (n, mn, lv, sl, kd, pt, he) (ev (n, mn, lv, sl, kd, pt, he) d) k h (st, 0, ct)) := by
    intro hl h16 e
    rw [e]
    refine Res.step (ok (Nat.le_refl _) hst hpi h16) ?_
    have eg : goK (n, mn, lv, sl, kd, pt, he) k (st, 0, va, t + 1, ct, pi, ph, ps, pm) = (st, 0, lf (n, mn, lv, sl, kd, pt, he) k h ct, t, ct, pi, ph, upd ps t (ps t + 1), pm) := by
      rw [goK, if_pos hl]; simp only [Nat.add_sub_cancel]; rw [hph]; rfl
    rw [eg]
    exact Res.done fr_up
  -- two parts asked
  have two : ∀ (f : Int64 → Int64 → Int64), (kd k = 4 ∨ kd k = 5 ∨ kd k = 6 ∨ kd k = 7) → (∀ x y, jn (kd k) x y = f x y) → ptB (pt (5 * k)) n = true → ptB (pt (5 * k + 1)) n = true →
      Res (n, mn, lv, sl, kd, pt, he) (st, 0, va, t + 1, ct, pi, ph, ps, pm) t pi ph ps pm (f (ev (n, mn, lv, sl, kd, pt, he) d (pt (5 * k)) h (st, 0, ct)).1 (ev (n, mn, lv, sl, kd, pt, he) d (pt (5 * k + 1)) h (ev (n, mn, lv, sl, kd, pt, he) d (pt (5 * k)) h (st, 0, ct)).2).1, (ev (n, mn, lv, sl, kd, pt, he) d (pt (5 * k + 1)) h (ev (n, mn, lv, sl, kd, pt, he) d (pt (5 * k)) h (st, 0, ct)).2).2) := by
    intro f hkd hj hxa hxb
    have n3 : ¬ (kd k ≤ 3 ∨ kd k = 12 ∨ kd k = 14) := by rcases hkd with z | z | z | z <;> rw [z] <;> decide
    have n16 : ¬ kd k = 16 := by rcases hkd with z | z | z | z <;> rw [z] <;> decide
    have n15 : ¬ kd k = 15 := by rcases hkd with z | z | z | z <;> rw [z] <;> decide
    have n10 : ¬ kd k = 10 := by rcases hkd with z | z | z | z <;> rw [z] <;> decide
    have n13 : ¬ kd k = 13 := by rcases hkd with z | z | z | z <;> rw [z] <;> decide
    have l7 : kd k ≤ 7 := by rcases hkd with z | z | z | z <;> rw [z] <;> decide
    refine Res.step (ok (Nat.le_refl _) hst hpi n16) ?_
    have e0 : goK (n, mn, lv, sl, kd, pt, he) k (st, 0, va, t + 1, ct, pi, ph, ps, pm) = enS (pt (5 * k)) h (st, 0, va, t + 1, ct, pi, ph, upd ps t (ps t + 1), pm) := by
      rw [goK, if_neg n3, if_neg n16]; simp only [Nat.add_sub_cancel]; rw [if_pos hps, if_neg n15, if_neg n10, if_neg n13, up0, hph]
    rw [e0]
    have g := ev_st (n, mn, lv, sl, kd, pt, he) d (pt (5 * k)) h (st, 0, ct)
    refine Res.bind (hE st va (t + 1) ct pi ph (upd ps t (ps t + 1)) pm _ _ ht hst hd hxa) (fun hf => ev_dead _ _ _ _ hf) (fun h0 pi2 ph2 ps2 pm2 fr => ?_)
    obtain ⟨q1, q2, q3, q4⟩ := fr t (by omega)
    rw [pk_us, hps] at q3
    refine Res.step (ok g.1 (g.2 hst) (q1.trans hpi) n16) ?_
    generalize ev (n, mn, lv, sl, kd, pt, he) d (pt (5 * k)) h (st, 0, ct) = R at h0 g ⊢
    obtain ⟨v1, st1, fl1, ct1⟩ := R
    have h0 : fl1 = 0 := h0
    subst h0
    have g1 : st ≤ st1 := g.1
    have g2 : st1 ≤ 120 := g.2 hst
    have e1 : goK (n, mn, lv, sl, kd, pt, he) k (st1, 0, v1, t + 1, ct1, pi2, ph2, ps2, pm2) = enS (pt (5 * k + 1)) h (st1, 0, v1, t + 1, ct1, pi2, ph2, upd ps2 t (ps2 t + 1), vp_updL pm2 t v1) := by
      rw [goK, if_neg n3, if_neg n16]; simp only [Nat.add_sub_cancel]; rw [if_neg (by rw [q3]; decide), if_pos l7, prK, if_pos (by rw [q3]; rfl)]; simp only [Nat.add_sub_cancel]; rw [q2.trans hph]
    show Res _ (goK (n, mn, lv, sl, kd, pt, he) k (st1, 0, v1, t + 1, ct1, pi2, ph2, ps2, pm2)) _ _ _ _ _ _
    rw [e1]
    have gg := ev_st (n, mn, lv, sl, kd, pt, he) d (pt (5 * k + 1)) h (st1, 0, ct1)
    refine Res.bind (hE st1 v1 (t + 1) ct1 pi2 ph2 (upd ps2 t (ps2 t + 1)) (vp_updL pm2 t v1) _ _ (by omega) g2 (by omega) hxb) (fun _ => rfl) (fun h0 pi3 ph3 ps3 pm3 fr2 => ?_)
    obtain ⟨w1, w2, w3, w4⟩ := fr2 t (by omega)
    rw [pk_us, q3] at w3
    rw [pk_uLs] at w4
    show Res _ _ _ _ _ _ _ (f v1 (ev (n, mn, lv, sl, kd, pt, he) d (pt (5 * k + 1)) h (st1, 0, ct1)).1, (ev (n, mn, lv, sl, kd, pt, he) d (pt (5 * k + 1)) h (st1, 0, ct1)).2)
    generalize ev (n, mn, lv, sl, kd, pt, he) d (pt (5 * k + 1)) h (st1, 0, ct1) = R2 at h0 gg ⊢
    obtain ⟨v2, st2, fl2, ct2⟩ := R2
    have h0 : fl2 = 0 := h0
    subst h0
    have gg1 : st1 ≤ st2 := gg.1
    have gg2 : st2 ≤ 120 := gg.2 g2
    refine Res.step (ok (st2 := st2) (va2 := v2) (ct2 := ct2) (pi2 := pi3) (ph2 := ph3) (ps2 := ps3) (pm2 := pm3) (by omega) gg2 (w1.trans (q1.trans hpi)) n16) ?_
    have e2 : goK (n, mn, lv, sl, kd, pt, he) k (st2, 0, v2, t + 1, ct2, pi3, ph3, ps3, pm3) = (st2, 0, f v1 v2, t, ct2, pi3, ph3, upd ps3 t (ps3 t + 1), pm3) := by
      rw [goK, if_neg n3, if_neg n16]; simp only [Nat.add_sub_cancel]; rw [if_neg (by rw [w3]; decide), if_pos l7, prK, if_neg (by rw [w3]; decide)]; simp only [Nat.add_sub_cancel]; rw [w4, hj]; rfl
    rw [e2]
    refine Res.done (fun j hj => ?_)
    obtain ⟨z1, z2, z3, z4⟩ := fr2 j (by omega)
    obtain ⟨y1, y2, y3, y4⟩ := fr j (by omega)
    exact ⟨z1.trans y1, z2.trans y2, (pk_un (by omega)).trans (z3.trans ((pk_un (by omega)).trans (y3.trans (pk_un (by omega))))), z4.trans ((pk_uLn (by omega)).trans y4)⟩
  -- the parts are there
  have hp := hw.1
  rcases wf_k hw with z | z | z | z | z | z | z | z | z | z | z | z | z | z | z | z | z
  · exact leaf (by rw [z]; decide) (by rw [z]; decide) (by simp [evB, z])
  · exact leaf (by rw [z]; decide) (by rw [z]; decide) (by simp [evB, z])
  · exact leaf (by rw [z]; decide) (by rw [z]; decide) (by simp [evB, z])
  · exact leaf (by rw [z]; decide) (by rw [z]; decide) (by simp [evB, z])
  · rw [z] at hp
    have hp : (ptB (pt (5 * k)) n && ptB (pt (5 * k + 1)) n) = true := hp
    rw [Bool.and_eq_true] at hp
    have r := two (fun x y => x + y) (by simp [z]) (fun x y => by simp [jn, z]) hp.1 hp.2
    rw [show evB (n, mn, lv, sl, kd, pt, he) (ev (n, mn, lv, sl, kd, pt, he) d) k h (st, 0, ct) = _ from if_pos z]
    exact r
  · rw [z] at hp
    have hp : (ptB (pt (5 * k)) n && ptB (pt (5 * k + 1)) n) = true := hp
    rw [Bool.and_eq_true] at hp
    have r := two (fun x y => x - y) (by simp [z]) (fun x y => by simp [jn, z]) hp.1 hp.2
    rw [show evB (n, mn, lv, sl, kd, pt, he) (ev (n, mn, lv, sl, kd, pt, he) d) k h (st, 0, ct) = ((ev (n, mn, lv, sl, kd, pt, he) d (pt (5 * k)) h (st, 0, ct)).1 - (ev (n, mn, lv, sl, kd, pt, he) d (pt (5 * k + 1)) h (ev (n, mn, lv, sl, kd, pt, he) d (pt (5 * k)) h (st, 0, ct)).2).1, (ev (n, mn, lv, sl, kd, pt, he) d (pt (5 * k + 1)) h (ev (n, mn, lv, sl, kd, pt, he) d (pt (5 * k)) h (st, 0, ct)).2).2) by simp [evB, z]]
    exact r
  · rw [z] at hp
    have hp : (ptB (pt (5 * k)) n && ptB (pt (5 * k + 1)) n) = true := hp
    rw [Bool.and_eq_true] at hp
    have r := two (fun x y => if y < x then y else x) (by simp [z]) (fun x y => by
      rw [jn, z, if_neg (by decide), if_neg (by decide), if_pos rfl]
      by_cases a : x < y
      · rw [if_pos a, if_neg (fun q => l_asym a q)]
      · rw [if_neg a]
        by_cases c : y < x
        · rw [if_pos c]
        · rw [if_neg c]; rw [l_lt] at a c; exact Int64.toInt_inj.mp (by omega)) hp.1 hp.2
    rw [show evB (n, mn, lv, sl, kd, pt, he) (ev (n, mn, lv, sl, kd, pt, he) d) k h (st, 0, ct) = (if (ev (n, mn, lv, sl, kd, pt, he) d (pt (5 * k + 1)) h (ev (n, mn, lv, sl, kd, pt, he) d (pt (5 * k)) h (st, 0, ct)).2).1 < (ev (n, mn, lv, sl, kd, pt, he) d (pt (5 * k)) h (st, 0, ct)).1 then (ev (n, mn, lv, sl, kd, pt, he) d (pt (5 * k + 1)) h (ev (n, mn, lv, sl, kd, pt, he) d (pt (5 * k)) h (st, 0, ct)).2).1 else (ev (n, mn, lv, sl, kd, pt, he) d (pt (5 * k)) h (st, 0, ct)).1, (ev (n, mn, lv, sl, kd, pt, he) d (pt (5 * k + 1)) h (ev (n, mn, lv, sl, kd, pt, he) d (pt (5 * k)) h (st, 0, ct)).2).2) by simp [evB, z]]
    exact r
  · rw [z] at hp
    have hp : (ptB (pt (5 * k)) n && ptB (pt (5 * k + 1)) n) = true := hp
    rw [Bool.and_eq_true] at hp
    have r := two (fun x y => if y < x then x else y) (by simp [z]) (fun x y => by rw [jn, z, if_neg (by decide), if_neg (by decide), if_neg (by decide)]) hp.1 hp.2
    rw [show evB (n, mn, lv, sl, kd, pt, he) (ev (n, mn, lv, sl, kd, pt, he) d) k h (st, 0, ct) = (if (ev (n, mn, lv, sl, kd, pt, he) d (pt (5 * k + 1)) h (ev (n, mn, lv, sl, kd, pt, he) d (pt (5 * k)) h (st, 0, ct)).2).1 < (ev (n, mn, lv, sl, kd, pt, he) d (pt (5 * k)) h (st, 0, ct)).1 then (ev (n, mn, lv, sl, kd, pt, he) d (pt (5 * k)) h (st, 0, ct)).1 else (ev (n, mn, lv, sl, kd, pt, he) d (pt (5 * k + 1)) h (ev (n, mn, lv, sl, kd, pt, he) d (pt (5 * k)) h (st, 0, ct)).2).1, (ev (n, mn, lv, sl, kd, pt, he) d (pt (5 * k + 1)) h (ev (n, mn, lv, sl, kd, pt, he) d (pt (5 * k)) h (st, 0, ct)).2).2) by simp [evB, z]]
    exact r
  · -- SCALED
    rw [z] at hp
    have r := una (pt (5 * k)) h ct (fun v => sd (v * (pt (5 * k + 1)).toInt64) (pt (5 * k + 2)).toInt64) (by rw [z]; decide) hp (fun va2 st2 ct2 pi2 ph2 ps2 pm2 a1 a2 a3 => by
      rw [goK, if_neg (by rw [z]; decide), if_neg (by rw [z]; decide)]; simp only [Nat.add_sub_cancel]; rw [if_neg (by rw [a3]; decide), if_neg (by rw [z]; decide), if_neg (by rw [z]; decide), bhK, if_pos z]; rfl) (by
      rw [goK, if_neg (by rw [z]; decide), if_neg (by rw [z]; decide)]; simp only [Nat.add_sub_cancel]; rw [if_pos hps, if_neg (by rw [z]; decide), if_neg (by rw [z]; decide), if_neg (by rw [z]; decide), up0, hph])
    rw [show evB (n, mn, lv, sl, kd, pt, he) (ev (n, mn, lv, sl, kd, pt, he) d) k h (st, 0, ct) = (sd ((ev (n, mn, lv, sl, kd, pt, he) d (pt (5 * k)) h (st, 0, ct)).1 * (pt (5 * k + 1)).toInt64) (pt (5 * k + 2)).toInt64, (ev (n, mn, lv, sl, kd, pt, he) d (pt (5 * k)) h (st, 0, ct)).2) by simp [evB, z]]
    exact r
  · -- WHEN
    rw [z] at hp
    have hp : (ptB (pt (5 * k)) n && (ptB (pt (5 * k + 1)) n && ptB (pt (5 * k + 2)) n)) = true := hp
    rw [Bool.and_eq_true, Bool.and_eq_true] at hp
    have n16 : ¬ kd k = 16 := by rw [z]; decide
    rw [show evB (n, mn, lv, sl, kd, pt, he) (ev (n, mn, lv, sl, kd, pt, he) d) k h (st, 0, ct) = ev (n, mn, lv, sl, kd, pt, he) d (if 0 < (ev (n, mn, lv, sl, kd, pt, he) d (pt (5 * k)) h (st, 0, ct)).1 then pt (5 * k + 1) else pt (5 * k + 2)) h (ev (n, mn, lv, sl, kd, pt, he) d (pt (5 * k)) h (st, 0, ct)).2 by simp [evB, z]]
    refine Res.step (ok (Nat.le_refl _) hst hpi n16) ?_
    have e0 : goK (n, mn, lv, sl, kd, pt, he) k (st, 0, va, t + 1, ct, pi, ph, ps, pm) = enS (pt (5 * k)) h (st, 0, va, t + 1, ct, pi, ph, upd ps t (ps t + 1), pm) := by
      rw [goK, if_neg (by rw [z]; decide), if_neg n16]; simp only [Nat.add_sub_cancel]; rw [if_pos hps, if_neg (by rw [z]; decide), if_neg (by rw [z]; decide), if_neg (by rw [z]; decide), up0, hph]
    rw [e0]
    have g := ev_st (n, mn, lv, sl, kd, pt, he) d (pt (5 * k)) h (st, 0, ct)
    refine Res.bind (hE st va (t + 1) ct pi ph (upd ps t (ps t + 1)) pm _ _ ht hst hd hp.1) (fun hf => ev_dead _ _ _ _ hf) (fun h0 pi2 ph2 ps2 pm2 fr => ?_)
    obtain ⟨q1, q2, q3, q4⟩ := fr t (by omega)
    rw [pk_us, hps] at q3
    generalize ev (n, mn, lv, sl, kd, pt, he) d (pt (5 * k)) h (st, 0, ct) = R at h0 g ⊢
    obtain ⟨v1, st1, fl1, ct1⟩ := R
    have h0 : fl1 = 0 := h0
    subst h0
    have g1 : st ≤ st1 := g.1
    have g2 : st1 ≤ 120 := g.2 hst
    refine Res.step (ok (st2 := st1) (va2 := v1) (ct2 := ct1) (ph2 := ph2) (ps2 := ps2) (pm2 := pm2) g1 g2 (q1.trans hpi) n16) ?_
    have e1 : goK (n, mn, lv, sl, kd, pt, he) k (st1, 0, v1, t + 1, ct1, pi2, ph2, ps2, pm2) = enS (if 0 < v1 then pt (5 * k + 1) else pt (5 * k + 2)) h (st1, 0, v1, t + 1, ct1, pi2, ph2, upd ps2 t (ps2 t + 1), pm2) := by
      rw [goK, if_neg (by rw [z]; decide), if_neg n16]; simp only [Nat.add_sub_cancel]; rw [if_neg (by rw [q3]; decide), if_neg (by rw [z]; decide), if_pos z, chK, if_pos (by rw [q3]; rfl), q2.trans hph]
    rw [e1]
    show Res _ _ _ _ _ _ _ (ev (n, mn, lv, sl, kd, pt, he) d (if 0 < v1 then pt (5 * k + 1) else pt (5 * k + 2)) h (st1, 0, ct1))
    have hy : ptB (if 0 < v1 then pt (5 * k + 1) else pt (5 * k + 2)) n = true := iteP (P := fun y => ptB y n = true) hp.2.1 hp.2.2
    generalize (if 0 < v1 then pt (5 * k + 1) else pt (5 * k + 2)) = y at hy ⊢
    have gg := ev_st (n, mn, lv, sl, kd, pt, he) d y h (st1, 0, ct1)
    refine Res.bind (hE st1 v1 (t + 1) ct1 pi2 ph2 (upd ps2 t (ps2 t + 1)) pm2 _ _ (by omega) g2 (by omega) hy) (fun _ => rfl) (fun h0 pi3 ph3 ps3 pm3 fr2 => ?_)
    obtain ⟨w1, w2, w3, w4⟩ := fr2 t (by omega)
    rw [pk_us, q3] at w3
    generalize ev (n, mn, lv, sl, kd, pt, he) d y h (st1, 0, ct1) = R2 at h0 gg ⊢
    obtain ⟨v2, st2, fl2, ct2⟩ := R2
    have h0 : fl2 = 0 := h0
    subst h0
    have gg1 : st1 ≤ st2 := gg.1
    have gg2 : st2 ≤ 120 := gg.2 g2
    refine Res.step (ok (st2 := st2) (va2 := v2) (ct2 := ct2) (pi2 := pi3) (ph2 := ph3) (ps2 := ps3) (pm2 := pm3) (by omega) gg2 (w1.trans (q1.trans hpi)) n16) ?_
    have e2 : goK (n, mn, lv, sl, kd, pt, he) k (st2, 0, v2, t + 1, ct2, pi3, ph3, ps3, pm3) = (st2, 0, v2, t, ct2, pi3, ph3, upd ps3 t (ps3 t + 1), pm3) := by
      rw [goK, if_neg (by rw [z]; decide), if_neg n16]; simp only [Nat.add_sub_cancel]; rw [if_neg (by rw [w3]; decide), if_neg (by rw [z]; decide), if_pos z, chK, if_neg (by rw [w3]; decide)]; rfl
    rw [e2]
    refine Res.done (fun j hj => ?_)
    obtain ⟨z1, z2, z3, z4⟩ := fr2 j (by omega)
    obtain ⟨y1, y2, y3, y4⟩ := fr j (by omega)
    exact ⟨z1.trans y1, z2.trans y2, (pk_un (by omega)).trans (z3.trans ((pk_un (by omega)).trans (y3.trans (pk_un (by omega))))), z4.trans y4⟩
  · -- LATER
    rw [z] at hp
    have r := una (pt (5 * k)) (h + pt (5 * k + 1)) ct (fun v => v) (by rw [z]; decide) hp (fun va2 st2 ct2 pi2 ph2 ps2 pm2 a1 a2 a3 => by
      rw [goK, if_neg (by rw [z]; decide), if_neg (by rw [z]; decide)]; simp only [Nat.add_sub_cancel]; rw [if_neg (by rw [a3]; decide), if_neg (by rw [z]; decide), if_neg (by rw [z]; decide), bhK, if_neg (by rw [z]; decide), if_neg (by rw [z]; decide)]; rfl) (by
      rw [goK, if_neg (by rw [z]; decide), if_neg (by rw [z]; decide)]; simp only [Nat.add_sub_cancel]; rw [if_pos hps, if_neg (by rw [z]; decide), if_pos z, if_neg (by rw [z]; decide), up0, hph])
    rw [show evB (n, mn, lv, sl, kd, pt, he) (ev (n, mn, lv, sl, kd, pt, he) d) k h (st, 0, ct) = ev (n, mn, lv, sl, kd, pt, he) d (pt (5 * k)) (h + pt (5 * k + 1)) (st, 0, ct) by simp [evB, z]]
    exact r
  · -- BAND
    rw [z] at hp
    have r := una (pt (5 * k)) h ct (fun v => bd v (pt (5 * k + 1)) (pt (5 * k + 2)) (pt (5 * k + 3)) (pt (5 * k + 4))) (by rw [z]; decide) hp (fun va2 st2 ct2 pi2 ph2 ps2 pm2 a1 a2 a3 => by
      rw [goK, if_neg (by rw [z]; decide), if_neg (by rw [z]; decide)]; simp only [Nat.add_sub_cancel]; rw [if_neg (by rw [a3]; decide), if_neg (by rw [z]; decide), if_neg (by rw [z]; decide), bhK, if_neg (by rw [z]; decide), if_pos z]; rfl) (by
      rw [goK, if_neg (by rw [z]; decide), if_neg (by rw [z]; decide)]; simp only [Nat.add_sub_cancel]; rw [if_pos hps, if_neg (by rw [z]; decide), if_neg (by rw [z]; decide), if_neg (by rw [z]; decide), up0, hph])
    rw [show evB (n, mn, lv, sl, kd, pt, he) (ev (n, mn, lv, sl, kd, pt, he) d) k h (st, 0, ct) = (bd (ev (n, mn, lv, sl, kd, pt, he) d (pt (5 * k)) h (st, 0, ct)).1 (pt (5 * k + 1)) (pt (5 * k + 2)) (pt (5 * k + 3)) (pt (5 * k + 4)), (ev (n, mn, lv, sl, kd, pt, he) d (pt (5 * k)) h (st, 0, ct)).2) by simp [evB, z]]
    exact r
  · exact leaf (by rw [z]; decide) (by rw [z]; decide) (by simp [evB, z])
  · -- COUNTED
    rw [z] at hp
    have r := una (pt (5 * k)) h (upd ct k (ct k + 1)) (fun v => v) (by rw [z]; decide) hp (fun va2 st2 ct2 pi2 ph2 ps2 pm2 a1 a2 a3 => by
      rw [goK, if_neg (by rw [z]; decide), if_neg (by rw [z]; decide)]; simp only [Nat.add_sub_cancel]; rw [if_neg (by rw [a3]; decide), if_neg (by rw [z]; decide), if_neg (by rw [z]; decide), bhK, if_neg (by rw [z]; decide), if_neg (by rw [z]; decide)]; rfl) (by
      rw [goK, if_neg (by rw [z]; decide), if_neg (by rw [z]; decide)]; simp only [Nat.add_sub_cancel]; rw [if_pos hps, if_neg (by rw [z]; decide), if_neg (by rw [z]; decide), if_pos z, hph])
    rw [show evB (n, mn, lv, sl, kd, pt, he) (ev (n, mn, lv, sl, kd, pt, he) d) k h (st, 0, ct) = ev (n, mn, lv, sl, kd, pt, he) d (pt (5 * k)) h (st, 0, upd ct k (ct k + 1)) by simp [evB, z]]
    exact r
  · exact leaf (by rw [z]; decide) (by rw [z]; decide) (by simp [evB, z])
  · -- SLOT
    have hs8 := wf_15 hw z
    have hx : ptB (sl (ix (pt (5 * k)))) n = true := hW.2 _ (inB_ix hs8)
    have r := una (sl (ix (pt (5 * k)))) h ct (fun v => v) (by rw [z]; decide) hx (fun va2 st2 ct2 pi2 ph2 ps2 pm2 a1 a2 a3 => by
      rw [goK, if_neg (by rw [z]; decide), if_neg (by rw [z]; decide)]; simp only [Nat.add_sub_cancel]; rw [if_neg (by rw [a3]; decide), if_neg (by rw [z]; decide), if_neg (by rw [z]; decide), bhK, if_neg (by rw [z]; decide), if_neg (by rw [z]; decide)]; rfl) (by
      rw [goK, if_neg (by rw [z]; decide), if_neg (by rw [z]; decide)]; simp only [Nat.add_sub_cancel]; rw [if_pos hps, if_pos z, if_neg (by rw [z]; decide), if_neg (by rw [z]; decide), up0, hph])
    rw [show evB (n, mn, lv, sl, kd, pt, he) (ev (n, mn, lv, sl, kd, pt, he) d) k h (st, 0, ct) = ev (n, mn, lv, sl, kd, pt, he) d (sl (ix (pt (5 * k)))) h (st, 0, ct) by simp [evB, z]]
    exact r
  · -- ALL
    obtain ⟨w1, w2, w3⟩ := wf_16 hw z
    obtain ⟨ia, hia, eia⟩ := inB_of w1 (by decide)
    obtain ⟨ib, hib, eib⟩ := inB_of w2 (by decide)
    have hab : ia ≤ ib := by rw [eia, eib] at w3; exact (nI_leI (by omega) (by omega)).mp w3
    have ixa : ix (pt (5 * k)) = ia := by rw [eia]; exact nI_clamp (by omega)
    have ixb : ix (pt (5 * k + 1)) = ib := by rw [eib]; exact nI_clamp (by omega)
    have n3 : ¬ (kd k ≤ 3 ∨ kd k = 12 ∨ kd k = 14) := by rw [z]; decide
    have loop : ∀ (c j : Nat) (acc : Int64) (st1 : Nat) (va1 : Int64) (ct1 pi1 ph1 ps1 : Nat → Int32) (pm1 : Nat → Int64), ia + j + c = ib + 1 → st ≤ st1 → st1 ≤ 120 → pi1 t = nI k → ph1 t = h → ps1 t = nI j → acc = pm1 t + (if 0 < nI j then va1 else 0) → (∀ q, q < t → pi1 q = pi q ∧ ph1 q = ph q ∧ ps1 q = ps q ∧ pm1 q = pm q) → Res (n, mn, lv, sl, kd, pt, he) (st1, 0, va1, t + 1, ct1, pi1, ph1, ps1, pm1) t pi ph ps pm (evA (ev (n, mn, lv, sl, kd, pt, he) d) sl h c (ia + j) acc (st1, 0, ct1)) := by
      intro c
      induction c with
      | zero =>
        intro j acc st1 va1 ct1 pi1 ph1 ps1 pm1 hc g1 g2 a1 a2 a3 hacc fr
        have esum : pt (5 * k) + nI j = nI (ia + j) := by rw [eia, nI_add]
        have hlt : pt (5 * k + 1) < pt (5 * k) + ps1 t := by rw [a3, esum, eib]; exact nI_lt (by omega) (by omega)
        refine Res.step (k := k) ⟨rfl, by omega, by omega, g2, hk, a1, fun _ hn => absurd hlt hn⟩ ?_
        have e : goK (n, mn, lv, sl, kd, pt, he) k (st1, 0, va1, t + 1, ct1, pi1, ph1, ps1, pm1) = (st1, 0, acc, t, ct1, pi1, ph1, upd ps1 t (ps1 t + 1), vp_updL pm1 t acc) := by
          rw [goK, if_neg n3, if_pos z, slK]; simp only [Nat.add_sub_cancel]; rw [if_pos hlt, a3, ← hacc]; rfl
        rw [e]
        refine Res.done (fun q hq => ?_)
        obtain ⟨y1, y2, y3, y4⟩ := fr q hq
        exact ⟨y1, y2, (pk_un (by omega)).trans y3, (pk_uLn (by omega)).trans y4⟩
      | succ c ih =>
        intro j acc st1 va1 ct1 pi1 ph1 ps1 pm1 hc g1 g2 a1 a2 a3 hacc fr
        have esum : pt (5 * k) + nI j = nI (ia + j) := by rw [eia, nI_add]
        have hnlt : ¬ pt (5 * k + 1) < pt (5 * k) + ps1 t := by rw [a3, esum, eib]; exact nI_nlt (by omega) (by omega)
        have hin : inB (pt (5 * k) + ps1 t) 8 = true := by rw [a3, esum, inB_nI (by omega)]; exact decide_eq_true (by omega)
        have eix : ix (pt (5 * k) + ps1 t) = ia + j := by rw [a3, esum]; exact nI_clamp (by omega)
        refine Res.step (k := k) ⟨rfl, by omega, by omega, g2, hk, a1, fun _ _ => hin⟩ ?_
        have e : goK (n, mn, lv, sl, kd, pt, he) k (st1, 0, va1, t + 1, ct1, pi1, ph1, ps1, pm1) = enS (sl (ia + j)) h (st1, 0, va1, t + 1, ct1, pi1, ph1, upd ps1 t (ps1 t + 1), vp_updL pm1 t acc) := by
          rw [goK, if_neg n3, if_pos z, slK]; simp only [Nat.add_sub_cancel]; rw [if_neg hnlt, eix, a2, a3, ← hacc]
        rw [e]
        have g := ev_st (n, mn, lv, sl, kd, pt, he) d (sl (ia + j)) h (st1, 0, ct1)
        refine Res.bind (hE st1 va1 (t + 1) ct1 pi1 ph1 (upd ps1 t (ps1 t + 1)) (vp_updL pm1 t acc) _ _ (by omega) g2 (by omega) (hW.2 _ (by omega))) (fun hf => evA_dead _ _ _ _ _ _ _ hf) (fun h0 pi2 ph2 ps2 pm2 fr2 => ?_)
        obtain ⟨q1, q2, q3, q4⟩ := fr2 t (by omega)
        rw [pk_us, a3, nI_1] at q3
        rw [pk_uLs] at q4
        show Res _ _ _ _ _ _ _ (evA (ev (n, mn, lv, sl, kd, pt, he) d) sl h c (ia + j + 1) (acc + (ev (n, mn, lv, sl, kd, pt, he) d (sl (ia + j)) h (st1, 0, ct1)).1) (ev (n, mn, lv, sl, kd, pt, he) d (sl (ia + j)) h (st1, 0, ct1)).2)
        generalize ev (n, mn, lv, sl, kd, pt, he) d (sl (ia + j)) h (st1, 0, ct1) = R at h0 g ⊢
        obtain ⟨v1, st2, fl1, ct2⟩ := R
        have h0 : fl1 = 0 := h0
        subst h0
        have g3 : st1 ≤ st2 := g.1
        have g4 : st2 ≤ 120 := g.2 g2
        rw [show ia + j + 1 = ia + (j + 1) by omega]
        refine ih (j + 1) (acc + v1) st2 v1 ct2 pi2 ph2 ps2 pm2 (by omega) (by omega) g4 (q1.trans a1) (q2.trans a2) q3 (by rw [q4, if_pos (show (0 : Int32) < nI (j + 1) from nI_lt (a := 0) (by omega) (by omega))]) (fun q hq => ?_)
        obtain ⟨y1, y2, y3, y4⟩ := fr2 q (by omega)
        obtain ⟨x1, x2, x3, x4⟩ := fr q hq
        exact ⟨y1.trans x1, y2.trans x2, y3.trans ((pk_un (by omega)).trans x3), y4.trans ((pk_uLn (by omega)).trans x4)⟩
    have r := loop (ib + 1 - ia) 0 0 st va ct pi ph ps pm (by omega) (Nat.le_refl _) hst hpi hph (by rw [hps, nI_0]) (by rw [hpm, if_neg (by decide)]; rfl) (fun _ _ => ⟨rfl, rfl, rfl, rfl⟩)
    rw [show evB (n, mn, lv, sl, kd, pt, he) (ev (n, mn, lv, sl, kd, pt, he) d) k h (st, 0, ct) = evA (ev (n, mn, lv, sl, kd, pt, he) d) sl h (ix (pt (5 * k + 1)) + 1 - ix (pt (5 * k))) (ix (pt (5 * k))) 0 (st, 0, ct) by simp [evB, z], ixa, ixb]
    exact r
theorem sim_all (hW : wfA b n sl kd pt) (hn : n ≤ 40) : ∀ d, simE n (n, mn, lv, sl, kd, pt, he) d
  | 0 => sim_enter (fun d' h => absurd h (by omega))
  | d + 1 => sim_enter (fun d' h => by
    have e : d = d' := by omega
    subst e
    exact sim_body hW hn (sim_all hW hn d))
end SIM
