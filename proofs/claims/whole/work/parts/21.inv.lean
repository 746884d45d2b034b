/-! what holds between two calls of the law -/
def LInv (b n sN : Nat) (lv sl kd pt fr to rl : Nat → Int32) : Prop := b ≤ 8 ∧ n ≤ 40 ∧ sN ≤ 8 ∧ wfA b n sl kd pt ∧ wfL b lv ∧ wfS b n sN fr to rl
theorem ptB_up {x : Int32} {n k : Nat} (hk : n ≤ k) (h : ptB x n = true) : ptB x k = true := by
  unfold ptB at h ⊢
  rw [Bool.or_eq_true] at h ⊢
  exact h.elim Or.inl (fun q => Or.inr (inB_up hk q))
theorem knB_up {b n b2 n2 : Nat} {kd kd2 : Nat → Int32} {k a bb c : Int32} (hb : b ≤ b2) (hn : n ≤ n2) (hkd : ∀ j, j < n → kd2 j = kd j) (h : knB b n kd k a bb c = true) : knB b2 n2 kd2 k a bb c = true := by
  unfold knB at h ⊢
  by_cases h1 : k = 0 ∨ k = 2 ∨ k = 3
  · rw [if_pos h1]
  · rw [if_neg h1] at h ⊢
    by_cases h2 : k = 1
    · rw [if_pos h2] at h ⊢; exact inB_up hb h
    · rw [if_neg h2] at h ⊢
      by_cases h3 : k = 4 ∨ k = 5 ∨ k = 6 ∨ k = 7
      · rw [if_pos h3] at h ⊢
        rw [Bool.and_eq_true] at h ⊢
        exact ⟨ptB_up hn h.1, ptB_up hn h.2⟩
      · rw [if_neg h3] at h ⊢
        by_cases h4 : k = 9
        · rw [if_pos h4] at h ⊢
          rw [Bool.and_eq_true, Bool.and_eq_true] at h ⊢
          exact ⟨ptB_up hn h.1, ptB_up hn h.2.1, ptB_up hn h.2.2⟩
        · rw [if_neg h4] at h ⊢
          by_cases h5 : k = 8 ∨ k = 10 ∨ k = 11 ∨ k = 12 ∨ k = 13
          · rw [if_pos h5] at h ⊢; exact ptB_up hn h
          · rw [if_neg h5] at h ⊢
            by_cases h6 : k = 14
            · rw [if_pos h6] at h ⊢
              have h := of_decide_eq_true h
              exact decide_eq_true ⟨inB_up hn h.1, by rw [hkd _ (inB_ix h.1)]; exact h.2⟩
            · rw [if_neg h6] at h ⊢; exact h
theorem inv_basin {b n sN : Nat} {lv sl kd pt fr to rl : Nat → Int32} {x r : Int32} {u : Nat × (Nat → Int32)} (h : LInv b n sN lv sl kd pt fr to rl) (e : (r, u) = sp_basin b lv x) : LInv u.1 n sN u.2 sl kd pt fr to rl := by
  obtain ⟨h1, h2, h3, h4, h5, h6⟩ := h
  unfold sp_basin at e
  by_cases hx : lvB x = true
  · rw [if_pos hx] at e
    by_cases hb : b = 8
    · rw [if_pos hb] at e; cases e; exact ⟨h1, h2, h3, h4, h5, h6⟩
    · rw [if_neg hb] at e; cases e
      refine ⟨by show b + 1 ≤ 8; omega, h2, h3, ⟨fun k hk => ⟨knB_up (Nat.le_succ _) (Nat.le_refl _) (fun _ _ => rfl) (h4.1 k hk).1, (h4.1 k hk).2⟩, h4.2⟩, fun k hk => ?_, fun k hk => ?_⟩
      · have hk : k < b + 1 := hk
        show lvB (upd lv b x k) = true
        by_cases q : k = b
        · rw [q, pk_us]; exact hx
        · rw [pk_un q]; exact h5 k (by omega)
      · obtain ⟨a1, a2, a3, a4⟩ := h6 k hk
        exact ⟨inB_up (Nat.le_succ _) a1, inB_up (Nat.le_succ _) a2, a3, a4⟩
  · rw [if_neg hx] at e; cases e; exact ⟨h1, h2, h3, h4, h5, h6⟩
theorem inv_fill {b n sN : Nat} {lv sl kd pt fr to rl : Nat → Int32} {x v r : Int32} {u : Nat → Int32} (h : LInv b n sN lv sl kd pt fr to rl) (e : (r, u) = sp_fill b lv x v) : LInv b n sN u sl kd pt fr to rl := by
  obtain ⟨h1, h2, h3, h4, h5, h6⟩ := h
  unfold sp_fill at e
  by_cases hx : inB x b = true
  · rw [if_pos hx] at e
    by_cases hv : lvB v = true
    · rw [if_pos hv] at e; cases e
      refine ⟨h1, h2, h3, h4, fun k hk => ?_, h6⟩
      by_cases q : k = ix x
      · rw [q, pk_us]; exact hv
      · rw [pk_un q]; exact h5 k hk
    · rw [if_neg hv] at e; cases e; exact ⟨h1, h2, h3, h4, h5, h6⟩
  · rw [if_neg hx] at e; cases e; exact ⟨h1, h2, h3, h4, h5, h6⟩
theorem inv_put {b n sN : Nat} {lv sl kd pt fr to rl : Nat → Int32} {x v r : Int32} {u : Nat → Int32} (h : LInv b n sN lv sl kd pt fr to rl) (e : (r, u) = sp_put n sl x v) : LInv b n sN lv u kd pt fr to rl := by
  obtain ⟨h1, h2, h3, h4, h5, h6⟩ := h
  unfold sp_put at e
  by_cases hx : inB x 8 = true ∧ ptB v n = true
  · rw [if_pos hx] at e; cases e
    refine ⟨h1, h2, h3, ⟨h4.1, fun k hk => ?_⟩, h5, h6⟩
    by_cases q : k = ix x
    · rw [q, pk_us]; exact hx.2
    · rw [pk_un q]; exact h4.2 k hk
  · rw [if_neg hx] at e; cases e; exact ⟨h1, h2, h3, h4, h5, h6⟩
theorem inv_sluice {b n sN : Nat} {lv sl kd pt fr to rl : Nat → Int32} {f t q r : Int32} {u : Nat × (Nat → Int32) × (Nat → Int32) × (Nat → Int32)} (h : LInv b n sN lv sl kd pt fr to rl) (e : (r, u) = sp_sluice b n sN fr to rl f t q) : LInv b n u.1 lv sl kd pt u.2.1 u.2.2.1 u.2.2.2 := by
  obtain ⟨h1, h2, h3, h4, h5, h6⟩ := h
  unfold sp_sluice at e
  by_cases hx : inB f b = true ∧ inB t b = true ∧ inB q n = true
  · rw [if_pos hx] at e
    by_cases hft : f = t
    · rw [if_pos hft] at e; cases e; exact ⟨h1, h2, h3, h4, h5, h6⟩
    · rw [if_neg hft] at e
      by_cases h8 : sN = 8
      · rw [if_pos h8] at e; cases e; exact ⟨h1, h2, h3, h4, h5, h6⟩
      · rw [if_neg h8] at e; cases e
        refine ⟨h1, h2, by show sN + 1 ≤ 8; omega, h4, h5, fun k hk => ?_⟩
        have hk : k < sN + 1 := hk
        show inB (upd fr sN f k) b = true ∧ inB (upd to sN t k) b = true ∧ ¬ upd fr sN f k = upd to sN t k ∧ inB (upd rl sN q k) n = true
        by_cases z : k = sN
        · rw [z, pk_us, pk_us, pk_us]; exact ⟨hx.1, hx.2.1, hft, hx.2.2⟩
        · rw [pk_un z, pk_un z, pk_un z]; exact h6 k (by omega)
  · rw [if_neg hx] at e; cases e; exact ⟨h1, h2, h3, h4, h5, h6⟩
theorem inv_mk {b n sN : Nat} {lv sl kd pt fr to rl : Nat → Int32} {k a bb c d e : Int32} (h : LInv b n sN lv sl kd pt fr to rl) (hk : knB b n kd k a bb c = true) (hf : fiB k a bb c d e = true) (hn : ¬ n = 40) : LInv b (n + 1) sN lv sl (upd kd n k) (pt5 pt n a bb c d e) fr to rl := by
  obtain ⟨h1, h2, h3, h4, h5, h6⟩ := h
  have hkd : ∀ j, j < n → upd kd n k j = kd j := fun j hj => pk_un (by omega)
  refine ⟨h1, by omega, h3, ⟨fun j hj => ?_, fun s hs => ptB_up (Nat.le_succ _) (h4.2 s hs)⟩, h5, fun j hj => ?_⟩
  · by_cases q : j = n
    · subst q
      have e0 : pt5 pt j a bb c d e (5 * j) = a := by simp [pt5, upd]
      have e1 : pt5 pt j a bb c d e (5 * j + 1) = bb := by simp [pt5, upd]
      have e2 : pt5 pt j a bb c d e (5 * j + 2) = c := by simp [pt5, upd]
      have e3 : pt5 pt j a bb c d e (5 * j + 3) = d := by simp [pt5, upd]
      have e4 : pt5 pt j a bb c d e (5 * j + 4) = e := by simp [pt5, upd]
      refine ⟨?_, ?_⟩
      · rw [e0, e1, e2, pk_us]; exact knB_up (Nat.le_refl _) (Nat.le_succ _) hkd hk
      · rw [e0, e1, e2, e3, e4, pk_us]; exact hf
    · have hp : ∀ i, i < 5 → pt5 pt n a bb c d e (5 * j + i) = pt (5 * j + i) := fun i hi => by
        have m0 : ∀ x : Nat, x < 5 → ¬ 5 * j + i = 5 * n + x := fun x _ => by omega
        have m1 : ¬ 5 * j + i = 5 * n := by omega
        simp [pt5, upd, m0, m1]
      obtain ⟨w1, w2⟩ := h4.1 j (by omega)
      refine ⟨?_, ?_⟩
      · rw [show pt5 pt n a bb c d e (5 * j) = pt (5 * j) from hp 0 (by omega), hp 1 (by omega), hp 2 (by omega), pk_un q]; exact knB_up (Nat.le_refl _) (Nat.le_succ _) hkd w1
      · rw [show pt5 pt n a bb c d e (5 * j) = pt (5 * j) from hp 0 (by omega), hp 1 (by omega), hp 2 (by omega), hp 3 (by omega), hp 4 (by omega), pk_un q]; exact w2
  · obtain ⟨a1, a2, a3, a4⟩ := h6 j hj
    exact ⟨a1, a2, a3, inB_up (Nat.le_succ _) a4⟩
theorem inv_make {b n sN : Nat} {mn : Int32} {lv sl kd pt fr to rl ct : Nat → Int32} {he : Nat → Int64} {st : Nat} {k a bb c d e r : Int32} {u : MK} (h : LInv b n sN lv sl kd pt fr to rl) (ee : (r, u) = sp_make b n mn lv sl kd pt he k a bb c d e ct st) : LInv b u.1 sN lv sl u.2.1 u.2.2.1 fr to rl := by
  unfold sp_make at ee
  by_cases hk : knB b n kd k a bb c = true
  · rw [if_pos hk] at ee
    by_cases hf : fiB k a bb c d e = true
    · rw [if_pos hf] at ee
      by_cases hn : n = 40
      · rw [if_pos hn] at ee; cases ee; exact h
      · rw [if_neg hn] at ee
        by_cases h12 : k = 12
        · rw [if_pos h12] at ee
          generalize ev (n, mn, lv, sl, kd, pt, he) 120 a bb (0, 0, ct) = R at ee
          by_cases h0 : R.2.2.1 = 0
          · rw [if_pos h0] at ee; cases ee; exact inv_mk h hk hf hn
          · rw [if_neg h0] at ee; cases ee; exact h
        · rw [if_neg h12] at ee; cases ee; exact inv_mk h hk hf hn
    · rw [if_neg hf] at ee; cases ee; exact h
  · rw [if_neg hk] at ee; cases ee; exact h
theorem in_sc {i L : Nat} (j : Nat) (h : i + j < L) (hL : L ≤ 3584) : vp_in (nI i + nI j) L := by rw [nI_add]; exact vp_in_nI h (by omega)
theorem sc_go {i L : Nat} (hL : L ≤ 3584) (hi : i ≤ L + 7) (h : ¬ nI L - 7 < nI i) : i + 7 ≤ L := by
  rw [i_lt, show (nI L - 7).toInt = (L : Int) - 7 from pk_sub_toInt (a := L) (b := 7) (by omega) (by decide), nI_toInt (by omega)] at h
  omega
theorem nI_7 (i : Nat) : nI i + 7 = nI (i + 7) := nI_add i 7
