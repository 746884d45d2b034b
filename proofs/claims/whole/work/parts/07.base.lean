/-! small rows: truth values, ranges, compares of longs, arrays by a natural place; the two worlds -/
def bI (b : Bool) : Int32 := if b = true then 1 else 0
theorem bI_z {b : Bool} (h : bI b = 0) : b = false := by cases b with
  | false => rfl
  | true => exact absurd h (by decide)
theorem bI_n {b : Bool} (h : ¬ bI b = 0) : b = true := by cases b with
  | false => exact absurd rfl h
  | true => rfl
theorem bI_nar (b : Bool) : narrow .boolean (.int (bI b)) = .int (bI b) := by cases b <;> rfl
theorem nar0 : narrow .boolean (.int 0) = .int 0 := rfl
theorem nar1 : narrow .boolean (.int 1) = .int 1 := rfl
def lvB (x : Int32) : Bool := decide (0 ≤ x.toInt ∧ x.toInt ≤ 1000000000)
def inB (x : Int32) (n : Nat) : Bool := decide (0 ≤ x.toInt ∧ x.toInt < (n : Int))
def ptB (x : Int32) (n : Nat) : Bool := decide (x = -1) || inB x n
theorem i_lt {x y : Int32} : x < y ↔ x.toInt < y.toInt := Int32.lt_iff_toInt_lt
theorem i_le {x y : Int32} : x ≤ y ↔ x.toInt ≤ y.toInt := Int32.le_iff_toInt_le
theorem l_lt {x y : Int64} : x < y ↔ x.toInt < y.toInt := Int64.lt_iff_toInt_lt
theorem l_le {x y : Int64} : x ≤ y ↔ x.toInt ≤ y.toInt := Int64.le_iff_toInt_le
theorem inB_vp {x : Int32} {n : Nat} : inB x n = true ↔ vp_in x n := by
  rw [vp_in_iff]; simp [inB]
theorem inB_of {x : Int32} {n : Nat} (h : inB x n = true) (hn : n < 2 ^ 31) : ∃ j : Nat, j < n ∧ x = nI j := vp_in_of (inB_vp.mp h) hn
theorem inB_nI {j n : Nat} (hj : j < 2 ^ 31) : inB (nI j) n = decide (j < n) := by
  unfold inB; rw [nI_toInt hj]; congr 1; simp
theorem inB_lo {x : Int32} {n : Nat} (h : x < 0) : inB x n = false := by
  have h := i_lt.mp h; simp [inB]; intro h2; have : (0 : Int32).toInt = 0 := rfl; omega
theorem inB_hi {x : Int32} {n : Nat} (hn : n < 2 ^ 31) (h : nI n ≤ x) : inB x n = false := by
  have h := i_le.mp h; rw [nI_toInt hn] at h; simp [inB]; intro h2; omega
theorem inB_hi' {x : Int32} {n : Nat} (hn : n < 2 ^ 31) (h : x ≥ nI n) : inB x n = false := inB_hi hn h
theorem inB_in {x : Int32} {n : Nat} (hn : n < 2 ^ 31) (h0 : ¬ x < 0) (h : ¬ nI n ≤ x) : inB x n = true := by
  rw [i_lt] at h0; rw [i_le, nI_toInt hn] at h; have : (0 : Int32).toInt = 0 := rfl; simp [inB]; omega
theorem lvB_lo {x : Int32} (h : x < 0) : lvB x = false := by
  have h := i_lt.mp h; simp [lvB]; intro h2; have : (0 : Int32).toInt = 0 := rfl; omega
theorem lvB_hi {x : Int32} (h : x > 1000000000) : lvB x = false := by
  have h : (1000000000 : Int32) < x := h
  rw [i_lt] at h; simp [lvB]; intro h2; have : (1000000000 : Int32).toInt = 1000000000 := rfl; omega
theorem lvB_in {x : Int32} (h0 : ¬ x < 0) (h : ¬ x > 1000000000) : lvB x = true := by
  have h : ¬ (1000000000 : Int32) < x := h
  rw [i_lt] at h0 h; have : (0 : Int32).toInt = 0 := rfl; have : (1000000000 : Int32).toInt = 1000000000 := rfl; simp [lvB]; omega
theorem lc_def (x y : Int64) : (x > y ∧ lg_cmp x y = 1) ∨ (x = y ∧ lg_cmp x y = 0) ∨ (x < y ∧ lg_cmp x y = -1) := by
  unfold lg_cmp
  by_cases h : x > y
  · exact Or.inl ⟨h, if_pos h⟩
  · rw [if_neg h]
    by_cases h2 : x = y
    · exact Or.inr (Or.inl ⟨h2, if_pos h2⟩)
    · refine Or.inr (Or.inr ⟨?_, if_neg h2⟩)
      have h : ¬ y < x := h
      rw [l_lt] at h ⊢
      have h3 : ¬ x.toInt = y.toInt := fun q => h2 (Int64.toInt_inj.mp q)
      omega
theorem l_irr {x : Int64} (h : x < x) : False := by rw [l_lt] at h; omega
theorem l_asym {x y : Int64} (h : x < y) (h2 : y < x) : False := by rw [l_lt] at h h2; omega
theorem lc_ltp {x y : Int64} (h : lg_cmp x y < 0) : x < y := by
  rcases lc_def x y with ⟨-, e⟩ | ⟨-, e⟩ | ⟨a, -⟩
  · rw [e] at h; exact absurd h (by decide)
  · rw [e] at h; exact absurd h (by decide)
  · exact a
theorem lc_ltn {x y : Int64} (h : ¬ lg_cmp x y < 0) : ¬ x < y := by
  rcases lc_def x y with ⟨a, -⟩ | ⟨a, -⟩ | ⟨-, e⟩
  · exact fun q => l_asym q a
  · exact fun q => l_irr (a ▸ q)
  · rw [e] at h; exact absurd (by decide) h
theorem lc_gtp {x y : Int64} (h : lg_cmp x y > 0) : y < x := by
  rcases lc_def x y with ⟨a, -⟩ | ⟨-, e⟩ | ⟨-, e⟩
  · exact a
  · rw [e] at h; exact absurd h (by decide)
  · rw [e] at h; exact absurd h (by decide)
theorem lc_gtn {x y : Int64} (h : ¬ lg_cmp x y > 0) : ¬ y < x := by
  rcases lc_def x y with ⟨-, e⟩ | ⟨a, -⟩ | ⟨a, -⟩
  · rw [e] at h; exact absurd (by decide) h
  · exact fun q => l_irr (a ▸ q)
  · exact fun q => l_asym q a
theorem lc_gep {x y : Int64} (h : lg_cmp x y ≥ 0) : ¬ x < y := lc_ltn (fun q => by
  have h : (0 : Int32) ≤ lg_cmp x y := h
  rw [i_le] at h; rw [i_lt] at q; omega)
theorem lc_gen {x y : Int64} (h : ¬ lg_cmp x y ≥ 0) : x < y := lc_ltp (by
  have h : ¬ (0 : Int32) ≤ lg_cmp x y := h
  rw [i_le] at h; rw [i_lt]; omega)
theorem lc_lep {x y : Int64} (h : lg_cmp x y ≤ 0) : ¬ y < x := lc_gtn (fun q => by
  have q : (0 : Int32) < lg_cmp x y := q
  rw [i_le] at h; rw [i_lt] at q; omega)
theorem lc_len {x y : Int64} (h : ¬ lg_cmp x y ≤ 0) : y < x := lc_gtp (by
  show (0 : Int32) < lg_cmp x y
  rw [i_le] at h; rw [i_lt]; omega)
theorem lc_eqp {x y : Int64} (h : lg_cmp x y = 0) : x = y := by
  rcases lc_def x y with ⟨-, e⟩ | ⟨a, -⟩ | ⟨-, e⟩
  · rw [e] at h; exact absurd h (by decide)
  · exact a
  · rw [e] at h; exact absurd h (by decide)
theorem lc_eqn {x y : Int64} (h : ¬ lg_cmp x y = 0) : ¬ x = y := by
  rcases lc_def x y with ⟨a, -⟩ | ⟨-, e⟩ | ⟨a, -⟩
  · exact fun q => l_irr (q ▸ a)
  · exact absurd e h
  · exact fun q => l_irr (q ▸ a)
section MYARR
variable {p : Program} {l : Launch} {e : Env} {R : Room} {s : State} {m : MethodId} {args : Array Value} {below : List Frame} {meth : Method} {c : Code} {H : Heap} {locs : List Loc} {cells slots : Nat} {Q : State → Prop}
variable {cc : ByteArray} {pc : Nat} {ls : Array Slot} {rest : List Value} {D : va_G} {cl : List vw_C} {A : Nat → Prop} {a : Nat} {tys : List (ClassId × FieldType)} {ws : va_W} {H0 : Heap}
theorem my_iald (hx : p.tables.exec = Jvm.exec) (hb : c.code = cc) (hK : va_K D cl tys s) (hP : va_P D cl ws H) (q0 t0 : Nat) {cA : ClassId} {n : Nat} {f : Nat → Int32} (ha : ws[q0]? = some (a, .inl (cA, n, .inl f))) (ht : tys[t0]? = some (cA, .int)) {i : Int32} {j : Nat} (hi : i = nI j) (hj : j < n) (hn : n < 2 ^ 31) (hdg : decode cc pc = .ok (.iaload, 1))
    (kk : W p l e R s m args below meth c H locs cells slots Q (F0 m (pc + 1) ls (.int (f j) :: rest))) : W p l e R s m args below meth c H locs cells slots Q (F0 m pc ls (.int i :: .ref a :: rest)) := by
  subst hi
  exact va_iald hx hb hK hP q0 t0 ha ht (vp_in_nI hj hn) hdg (by rw [nI_clamp (by omega)]; exact kk)
theorem my_lald (hx : p.tables.exec = Jvm.exec) (hb : c.code = cc) (hK : va_K D cl tys s) (hP : va_P D cl ws H) (q0 t0 : Nat) {cA : ClassId} {n : Nat} {f : Nat → Int64} (ha : ws[q0]? = some (a, .inl (cA, n, .inr (.inl f)))) (ht : tys[t0]? = some (cA, .long)) {i : Int32} {j : Nat} (hi : i = nI j) (hj : j < n) (hn : n < 2 ^ 31) (hdg : decode cc pc = .ok (.laload, 1))
    (kk : W p l e R s m args below meth c H locs cells slots Q (F0 m (pc + 1) ls (.long (f j) :: rest))) : W p l e R s m args below meth c H locs cells slots Q (F0 m pc ls (.int i :: .ref a :: rest)) := by
  subst hi
  exact va_lald hx hb hK hP q0 t0 ha ht (vp_in_nI hj hn) hdg (by rw [nI_clamp (by omega)]; exact kk)
theorem my_aldq (hx : p.tables.exec = Jvm.exec) (hb : c.code = cc) (hK : va_K D cl tys s) (hP : va_P D cl ws H) (q0 t0 : Nat) {cA : ClassId} {C : String} {n : Nat} {f : Nat → Option Nat} (ha : ws[q0]? = some (a, .inl (cA, n, .inr (.inr (.inr (.inr f)))))) (ht : tys[t0]? = some (cA, .object C)) {i : Int32} {j : Nat} (hi : i = nI j) (hj : j < n) (hn : n < 2 ^ 31) (hdg : decode cc pc = .ok (.aaload, 1))
    (kk : W p l e R s m args below meth c H locs cells slots Q (F0 m (pc + 1) ls (va_rf (f j) :: rest))) : W p l e R s m args below meth c H locs cells slots Q (F0 m pc ls (.int i :: .ref a :: rest)) := by
  subst hi
  exact va_aldq hx hb hK hP q0 t0 ha ht (vp_in_nI hj hn) hdg (by rw [nI_clamp (by omega)]; exact kk)
theorem my_iast (hx : p.tables.exec = Jvm.exec) (hb : c.code = cc) (hK : va_K D cl tys s) (hP : va_P D cl ws H) (hD : va_D A ws) (hS : va_S A H0 H locs) (q0 t0 : Nat) {cA : ClassId} {n : Nat} {f : Nat → Int32} (ha : ws[q0]? = some (a, .inl (cA, n, .inl f))) (ht : tys[t0]? = some (cA, .int)) {i x : Int32} {j : Nat} (hi : i = nI j) (hj : j < n) (hn : n < 2 ^ 31) (hdg : decode cc pc = .ok (.iastore, 1))
    (kk : ∀ (H1 : Heap) (locs1 : List Loc), va_P D cl (ws.set q0 (a, .inl (cA, n, .inl (upd f j x)))) H1 → va_D A (ws.set q0 (a, .inl (cA, n, .inl (upd f j x)))) → va_S A H0 H1 locs1 → W p l e R s m args below meth c H1 locs1 cells slots Q (F0 m (pc + 1) ls rest)) : W p l e R s m args below meth c H locs cells slots Q (F0 m pc ls (.int x :: .int i :: .ref a :: rest)) := by
  subst hi
  exact va_iast hx hb hK hP hD hS q0 t0 ha ht (vp_in_nI hj hn) hdg (by rw [nI_clamp (by omega)]; exact kk)
theorem my_last (hx : p.tables.exec = Jvm.exec) (hb : c.code = cc) (hK : va_K D cl tys s) (hP : va_P D cl ws H) (hD : va_D A ws) (hS : va_S A H0 H locs) (q0 t0 : Nat) {cA : ClassId} {n : Nat} {f : Nat → Int64} (ha : ws[q0]? = some (a, .inl (cA, n, .inr (.inl f)))) (ht : tys[t0]? = some (cA, .long)) {i : Int32} {x : Int64} {j : Nat} (hi : i = nI j) (hj : j < n) (hn : n < 2 ^ 31) (hdg : decode cc pc = .ok (.lastore, 1))
    (kk : ∀ (H1 : Heap) (locs1 : List Loc), va_P D cl (ws.set q0 (a, .inl (cA, n, .inr (.inl (vp_updL f j x))))) H1 → va_D A (ws.set q0 (a, .inl (cA, n, .inr (.inl (vp_updL f j x))))) → va_S A H0 H1 locs1 → W p l e R s m args below meth c H1 locs1 cells slots Q (F0 m (pc + 1) ls rest)) : W p l e R s m args below meth c H locs cells slots Q (F0 m pc ls (.long x :: .int i :: .ref a :: rest)) := by
  subst hi
  exact va_last hx hb hK hP hD hS q0 t0 ha ht (vp_in_nI hj hn) hdg (by rw [nI_clamp (by omega)]; exact kk)
end MYARR
/-- the world of the class: the object, its four rows, the pool of its rules and sluices -/
abbrev xw (F : Nat → Nat) (Y : Nat → ClassId) (bc mn rc sc st fl : Int32) (gv : Int64) (fs fb wo : Int32) (lv sl : Nat → Int32) (ru su : Nat → Option Nat) (L : List Nat) (f : Nat → va_E) : va_W :=
  [(F 0, .inr (2, [.ref (F 1), .int bc, .int mn, .ref (F 2), .ref (F 3), .int rc, .ref (F 4), .int sc, .int st, .int fl, .long gv, .int fs, .int fb, .int wo])), (F 1, .inl (Y 1, 8, .inl lv)), (F 2, .inl (Y 2, 8, .inl sl)), (F 3, .inl (Y 3, 40, .inr (.inr (.inr (.inr ru))))), (F 4, .inl (Y 4, 8, .inr (.inr (.inr (.inr su)))))] ++ va_pl L f
abbrev xty (Y : Nat → ClassId) : List (ClassId × FieldType) := [(Y 1, .int), (Y 2, .int), (Y 3, .object "SluiceRules$Rule"), (Y 4, .object "SluiceRules$Sluice")]
/-- the world of the reference: the object and its thirteen rows -/
abbrev mw (G : Nat → Nat) (Z : Nat → ClassId) (bc mn rc sc st fl : Int32) (va : Int64) (tp : Int32) (gv : Int64) (ts tw tm : Int32) (lv sl kd pt : Nat → Int32) (he : Nat → Int64) (ct fr to rl pi ph ps : Nat → Int32) (pm : Nat → Int64) : va_W :=
  [(G 0, .inr (3, [.int bc, .ref (G 1), .int mn, .ref (G 2), .int rc, .ref (G 3), .ref (G 4), .ref (G 5), .ref (G 6), .int sc, .ref (G 7), .ref (G 8), .ref (G 9), .int st, .int fl, .long va, .int tp, .ref (G 10), .ref (G 11), .ref (G 12), .ref (G 13), .long gv, .int ts, .int tw, .int tm])), (G 1, .inl (Z 1, 8, .inl lv)), (G 2, .inl (Z 2, 8, .inl sl)), (G 3, .inl (Z 3, 40, .inl kd)), (G 4, .inl (Z 4, 200, .inl pt)), (G 5, .inl (Z 5, 40, .inr (.inl he))), (G 6, .inl (Z 6, 40, .inl ct)), (G 7, .inl (Z 7, 8, .inl fr)), (G 8, .inl (Z 8, 8, .inl to)), (G 9, .inl (Z 9, 8, .inl rl)), (G 10, .inl (Z 10, 120, .inl pi)), (G 11, .inl (Z 11, 120, .inl ph)), (G 12, .inl (Z 12, 120, .inl ps)), (G 13, .inl (Z 13, 120, .inr (.inl pm)))]
abbrev mty (Z : Nat → ClassId) : List (ClassId × FieldType) := [(Z 1, .int), (Z 2, .int), (Z 3, .int), (Z 4, .int), (Z 5, .long), (Z 6, .int), (Z 7, .int), (Z 8, .int), (Z 9, .int), (Z 10, .int), (Z 11, .int), (Z 12, .int), (Z 13, .long)]
