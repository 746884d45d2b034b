/-! the reference: an asking by a call, ask, make, flows, run -/
abbrev JK : Type := Int32 × Int64 × Int32 × (Nat → Int32) × (Nat → Int32) × (Nat → Int32) × (Nat → Int64)
theorem ptB_in {x : Int32} {n : Nat} (h : inB x n = true) : ptB x n = true := by unfold ptB; rw [h]; simp
theorem sim_end {b n : Nat} {mn : Int32} {lv sl kd pt : Nat → Int32} {he : Nat → Int64} (hW : wfA b n sl kd pt) (hn : n ≤ 40) {x : Int32} (hx : ptB x n = true) (h : Int32) (va : Int64) (ct pi ph ps : Nat → Int32) (pm : Nat → Int64) : ∃ (c : Nat) (Mf : MS), pth (n, mn, lv, sl, kd, pt, he) c (enS x h (0, 0, va, 0, ct, pi, ph, ps, pm)) Mf ∧ ((ev (n, mn, lv, sl, kd, pt, he) 120 x h (0, 0, ct)).1, (Mf.1, Mf.2.1, Mf.2.2.2.2.1)) = ev (n, mn, lv, sl, kd, pt, he) 120 x h (0, 0, ct) ∧ (Mf.2.1 = 0 → Mf.2.2.1 = (ev (n, mn, lv, sl, kd, pt, he) 120 x h (0, 0, ct)).1 ∧ Mf.2.2.2.1 = 0) := by
  have r := sim_all (mn := mn) (lv := lv) (he := he) hW hn 120 0 va 0 ct pi ph ps pm x h (Nat.le_refl _) (by decide) (by decide) hx
  generalize ev (n, mn, lv, sl, kd, pt, he) 120 x h (0, 0, ct) = R at r ⊢
  obtain ⟨v, st1, fl1, ct1⟩ := R
  rcases r with ⟨c, M', h1, g1, g2, g3, g4⟩ | ⟨h0, c, a1, a2, a3, a4, h1, -⟩
  · refine ⟨c, M', h1, ?_, fun q => absurd (g2.symm.trans q) g4⟩
    have g1 : M'.1 = st1 := g1
    have g2 : M'.2.1 = fl1 := g2
    have g3 : M'.2.2.2.2.1 = ct1 := g3
    show (v, (M'.1, M'.2.1, M'.2.2.2.2.1)) = (v, (st1, fl1, ct1))
    rw [g1, g2, g3]
  · have h0 : fl1 = 0 := h0
    subst h0
    exact ⟨c, _, h1, rfl, fun _ => ⟨rfl, rfl⟩⟩

theorem iw_X3_asks_X3 : ∀ w ∈ u_ws RX3 TX3 25, w ∈ wsX3_asks := by decide +kernel
set_option maxRecDepth 100000 in
set_option maxHeartbeats 4000000 in
/-- asks -/
theorem c_X3_asks {l : Launch} {D : va_G} {G : Nat → Nat} {Z : Nat → ClassId} {mn fl : Int32} {va gv : Int64} {tp ts tw tm : Int32} {lv sl kd pt : Nat → Int32} {he : Nat → Int64} {ct fr to rl pi ph ps : Nat → Int32} {pm : Nat → Int64} {b n sN st : Nat} (hn40 : n ≤ 40) (hb8 : b ≤ 8) (hW : wfA b n sl kd pt) {x : Int32} (hptx : ptB x n = true) (h : Int32) : WrI l yX3_asks wsX3_asks (rk 3) D (mty Z) (mw G Z (nI b) mn (nI n) (nI sN) (nI st) fl va tp gv ts tw tm lv sl kd pt he ct fr to rl pi ph ps pm) [.ref (G 0), .int x, .int h] (σ := MS) (fun u => mw G Z (nI b) mn (nI n) (nI sN) (nI u.1) u.2.1 u.2.2.1 (nI u.2.2.2.1 - 1) gv ts tw tm lv sl kd pt he u.2.2.2.2.1 fr to rl u.2.2.2.2.2.1 u.2.2.2.2.2.2.1 u.2.2.2.2.2.2.2.1 u.2.2.2.2.2.2.2.2) (fun r u => ((ev (n, mn, lv, sl, kd, pt, he) 120 x h (0, 0, ct)).1, (u.1, u.2.1, u.2.2.2.2.1)) = ev (n, mn, lv, sl, kd, pt, he) 120 x h (0, 0, ct) ∧ (u.2.1 = 0 → u.2.2.1 = (ev (n, mn, lv, sl, kd, pt, he) 120 x h (0, 0, ct)).1) ∧ r = bI (decide (u.2.1 = 0))) 0 0 := by
  intro sz
  refine wrEnter (cc := cX3_asks) (maxL := 3) (ret := (some .boolean)) (by decide) rfl (Nat.le_of_ble_eq_true rfl) ?_
  intro p e s m below meth c hx hb hr hml hown hts hlk hP hK hN hsz hD hS hA hin ls hl
  have hown : s.vm.findClass RX3 = some m.cls := hown
  have hl : lv_has ls 3 [(0, .ref (G 0)), (1, .int x), (2, .int h)] := hl
  refine lv_aload_n hx hb dX3_asks_0 rfl (lv_at hl 0 rfl) ?_
  refine lv_iconst (v := 0) hx hb dX3_asks_1 (by decide) ?_
  refine va_put (D := D) (ci := 3) (v := .int 0) (ty := .int) (C := RX3) (T := TX3) (N := 25) hx hb hts iw_X3_asks_X3 tyX3 tyX3_ok nmX3 hown hK hP hD hS 0 rfl rfl 13 (by decide) (hts (.fieldLink RX3 96 "SluiceRulesModel" "steps" "I") (by decide +kernel)) (fun _ h9 => h9) rfl (by decide +kernel) rfl rfl (Nat.le_of_ble_eq_true rfl) dX3_asks_2 (fun H locs hP hD hS => ?_)
  have hP : va_P D vwCl (mw G Z (nI b) mn (nI n) (nI sN) 0 fl va tp gv ts tw tm lv sl kd pt he ct fr to rl pi ph ps pm) H := hP
  have hD : va_D (va_A (mw G Z (nI b) mn (nI n) (nI sN) (nI st) fl va tp gv ts tw tm lv sl kd pt he ct fr to rl pi ph ps pm) sz) (mw G Z (nI b) mn (nI n) (nI sN) 0 fl va tp gv ts tw tm lv sl kd pt he ct fr to rl pi ph ps pm) := hD
  refine lv_aload_n hx hb dX3_asks_5 rfl (lv_at hl 0 rfl) ?_
  refine lv_iconst (v := 0) hx hb dX3_asks_6 (by decide) ?_
  refine va_put (D := D) (ci := 3) (v := .int 0) (ty := .int) (C := RX3) (T := TX3) (N := 25) hx hb hts iw_X3_asks_X3 tyX3 tyX3_ok nmX3 hown hK hP hD hS 0 rfl rfl 14 (by decide) (hts (.fieldLink RX3 89 "SluiceRulesModel" "failure" "I") (by decide +kernel)) (fun _ h9 => h9) rfl (by decide +kernel) rfl rfl (Nat.le_of_ble_eq_true rfl) dX3_asks_7 (fun H locs hP hD hS => ?_)
  have hP : va_P D vwCl (mw G Z (nI b) mn (nI n) (nI sN) 0 0 va tp gv ts tw tm lv sl kd pt he ct fr to rl pi ph ps pm) H := hP
  have hD : va_D (va_A (mw G Z (nI b) mn (nI n) (nI sN) (nI st) fl va tp gv ts tw tm lv sl kd pt he ct fr to rl pi ph ps pm) sz) (mw G Z (nI b) mn (nI n) (nI sN) 0 0 va tp gv ts tw tm lv sl kd pt he ct fr to rl pi ph ps pm) := hD
  refine lv_aload_n hx hb dX3_asks_10 rfl (lv_at hl 0 rfl) ?_
  refine lv_iconst (v := (-1)) hx hb dX3_asks_11 (by decide) ?_
  refine va_put (D := D) (ci := 3) (v := .int (-1)) (ty := .int) (C := RX3) (T := TX3) (N := 25) hx hb hts iw_X3_asks_X3 tyX3 tyX3_ok nmX3 hown hK hP hD hS 0 rfl rfl 16 (by decide) (hts (.fieldLink RX3 99 "SluiceRulesModel" "top" "I") (by decide +kernel)) (fun _ h9 => h9) rfl (by decide +kernel) rfl rfl (Nat.le_of_ble_eq_true rfl) dX3_asks_12 (fun H locs hP hD hS => ?_)
  have hP : va_P D vwCl (mw G Z (nI b) mn (nI n) (nI sN) 0 0 va (-1) gv ts tw tm lv sl kd pt he ct fr to rl pi ph ps pm) H := hP
  have hD : va_D (va_A (mw G Z (nI b) mn (nI n) (nI sN) (nI st) fl va tp gv ts tw tm lv sl kd pt he ct fr to rl pi ph ps pm) sz) (mw G Z (nI b) mn (nI n) (nI sN) 0 0 va (-1) gv ts tw tm lv sl kd pt he ct fr to rl pi ph ps pm) := hD
  have e9 : 0 = nI 0 := nI_0.symm
  have hP : va_P D vwCl (mw G Z (nI b) mn (nI n) (nI sN) (nI 0) 0 va (-1) gv ts tw tm lv sl kd pt he ct fr to rl pi ph ps pm) H := (congrArg (fun z9 => va_P D vwCl (mw G Z (nI b) mn (nI n) (nI sN) z9 0 va (-1) gv ts tw tm lv sl kd pt he ct fr to rl pi ph ps pm) H) e9).mp hP
  have hD : va_D (va_A (mw G Z (nI b) mn (nI n) (nI sN) (nI st) fl va tp gv ts tw tm lv sl kd pt he ct fr to rl pi ph ps pm) sz) (mw G Z (nI b) mn (nI n) (nI sN) (nI 0) 0 va (-1) gv ts tw tm lv sl kd pt he ct fr to rl pi ph ps pm) := (congrArg (fun z9 => va_D (va_A (mw G Z (nI b) mn (nI n) (nI sN) (nI st) fl va tp gv ts tw tm lv sl kd pt he ct fr to rl pi ph ps pm) sz) (mw G Z (nI b) mn (nI n) (nI sN) z9 0 va (-1) gv ts tw tm lv sl kd pt he ct fr to rl pi ph ps pm)) e9).mp hD
  have e9 : -1 = nI 0 - 1 := by decide
  have hP : va_P D vwCl (mw G Z (nI b) mn (nI n) (nI sN) (nI 0) 0 va (nI 0 - 1) gv ts tw tm lv sl kd pt he ct fr to rl pi ph ps pm) H := (congrArg (fun z9 => va_P D vwCl (mw G Z (nI b) mn (nI n) (nI sN) (nI 0) 0 va z9 gv ts tw tm lv sl kd pt he ct fr to rl pi ph ps pm) H) e9).mp hP
  have hD : va_D (va_A (mw G Z (nI b) mn (nI n) (nI sN) (nI st) fl va tp gv ts tw tm lv sl kd pt he ct fr to rl pi ph ps pm) sz) (mw G Z (nI b) mn (nI n) (nI sN) (nI 0) 0 va (nI 0 - 1) gv ts tw tm lv sl kd pt he ct fr to rl pi ph ps pm) := (congrArg (fun z9 => va_D (va_A (mw G Z (nI b) mn (nI n) (nI sN) (nI st) fl va tp gv ts tw tm lv sl kd pt he ct fr to rl pi ph ps pm) sz) (mw G Z (nI b) mn (nI n) (nI sN) (nI 0) 0 va z9 gv ts tw tm lv sl kd pt he ct fr to rl pi ph ps pm)) e9).mp hD
  refine lv_aload_n hx hb dX3_asks_15 rfl (lv_at hl 0 rfl) ?_
  refine lv_iload_n hx hb dX3_asks_16 rfl (lv_at hl 1 rfl) ?_
  refine lv_iload_n hx hb dX3_asks_17 rfl (lv_at hl 2 rfl) ?_
  refine WrV.callV (As := [.int x, .int h]) (rest := []) (c_X3_enter (Nat.zero_le _) (Nat.le_refl _) x h) ⟨hx, hb, hml, hown, hts⟩ (cwV 2 hts gX3_asks_X3_enter rfl rfl rfl (by decide +kernel) ⟨by decide, by decide⟩) hP hD hS hA hK hN 0 3 rfl rfl rfl hl.1 rfl (Nat.le_of_ble_eq_true rfl) dX3_asks_18 ⟨Nat.le_of_ble_eq_true rfl, Nat.le_of_ble_eq_true rfl⟩ (fun ur_1 H locs hr_1 hP hD hS => ?_)
  obtain ⟨cq9, Mf, hpth, hfin1, hfin2⟩ := sim_end (mn := mn) (lv := lv) (he := he) hW hn40 hptx h va ct pi ph ps pm
  rw [← hr_1] at hpth
  have loop : ∀ (c2 : Nat) (M9 : MS) (H : Heap) (locs : List Loc) (ls : Array Slot), pth (n, mn, lv, sl, kd, pt, he) c2 M9 Mf → va_P D vwCl (mw G Z (nI b) mn (nI n) (nI sN) (nI M9.1) M9.2.1 M9.2.2.1 (nI M9.2.2.2.1 - 1) gv ts tw tm lv sl kd pt he M9.2.2.2.2.1 fr to rl M9.2.2.2.2.2.1 M9.2.2.2.2.2.2.1 M9.2.2.2.2.2.2.2.1 M9.2.2.2.2.2.2.2.2) H → va_D (va_A (mw G Z (nI b) mn (nI n) (nI sN) (nI st) fl va tp gv ts tw tm lv sl kd pt he ct fr to rl pi ph ps pm) sz) (mw G Z (nI b) mn (nI n) (nI sN) (nI M9.1) M9.2.1 M9.2.2.1 (nI M9.2.2.2.1 - 1) gv ts tw tm lv sl kd pt he M9.2.2.2.2.1 fr to rl M9.2.2.2.2.2.1 M9.2.2.2.2.2.2.1 M9.2.2.2.2.2.2.2.1 M9.2.2.2.2.2.2.2.2) → va_S (va_A (mw G Z (nI b) mn (nI n) (nI sN) (nI st) fl va tp gv ts tw tm lv sl kd pt he ct fr to rl pi ph ps pm) sz) s.heap H locs → lv_has ls 3 [(0, .ref (G 0)), (1, .int x), (2, .int h)] → W p l e (rk 3) s m ([.ref (G 0), .int x, .int h] : List Value).toArray below meth c H locs 0 0 (MQ below (va_Qi (fun r u => ((ev (n, mn, lv, sl, kd, pt, he) 120 x h (0, 0, ct)).1, (u.1, u.2.1, u.2.2.2.2.1)) = ev (n, mn, lv, sl, kd, pt, he) 120 x h (0, 0, ct) ∧ (u.2.1 = 0 → u.2.2.1 = (ev (n, mn, lv, sl, kd, pt, he) 120 x h (0, 0, ct)).1) ∧ r = bI (decide (u.2.1 = 0))) (wrB (σ := MS) D (mw G Z (nI b) mn (nI n) (nI sN) (nI st) fl va tp gv ts tw tm lv sl kd pt he ct fr to rl pi ph ps pm) (fun u => mw G Z (nI b) mn (nI n) (nI sN) (nI u.1) u.2.1 u.2.2.1 (nI u.2.2.2.1 - 1) gv ts tw tm lv sl kd pt he u.2.2.2.2.1 fr to rl u.2.2.2.2.2.1 u.2.2.2.2.2.2.1 u.2.2.2.2.2.2.2.1 u.2.2.2.2.2.2.2.2) sz) (va_A (mw G Z (nI b) mn (nI n) (nI sN) (nI st) fl va tp gv ts tw tm lv sl kd pt he ct fr to rl pi ph ps pm) sz)) ([.ref (G 0), .int x, .int h] : List Value).toArray s 0 0 (va_A (mw G Z (nI b) mn (nI n) (nI sN) (nI st) fl va tp gv ts tw tm lv sl kd pt he ct fr to rl pi ph ps pm) sz)) (F0 m 21 ls []) := by
    intro c2
    induction c2 with
    | zero =>
      intro M9 H locs ls hpt9 hP hD hS hl
      have hpt9 : M9 = Mf := hpt9
      subst hpt9
      refine lv_aload_n hx hb dX3_asks_21 rfl (lv_at hl 0 rfl) ?_
      refine va_get (D := D) (ci := 3) (v := .int M9.2.1) (C := RX3) (T := TX3) (N := 25) hx hb hts iw_X3_asks_X3 hown hK hP 0 rfl rfl 14 (by decide) (hts (.fieldLink RX3 89 "SluiceRulesModel" "failure" "I") (by decide +kernel)) (fun _ h9 => h9) rfl dX3_asks_22 ?_
      refine lv_if_ne (tgt := 42) hx hb dX3_asks_25 (by decide) (fun c_25 => ?_) (fun c_25 => ?_)
      · refine lv_aload_n hx hb dX3_asks_42 rfl (lv_at hl 0 rfl) ?_
        refine va_get (D := D) (ci := 3) (v := .int M9.2.1) (C := RX3) (T := TX3) (N := 25) hx hb hts iw_X3_asks_X3 hown hK hP 0 rfl rfl 14 (by decide) (hts (.fieldLink RX3 89 "SluiceRulesModel" "failure" "I") (by decide +kernel)) (fun _ h9 => h9) rfl dX3_asks_43 ?_
        refine lv_if_ne (tgt := 53) hx hb dX3_asks_46 (by decide) (fun c_46 => ?_) (fun c_46 => ?_)
        · refine lv_iconst (v := 0) hx hb dX3_asks_53 (by decide) ?_
          exact wrZ M9 hx hb hr hlk dX3_asks_54 nar0 hP hD hS ⟨hfin1, fun q9 => (hfin2 q9).1, by rw [decide_eq_false c_25]; rfl⟩
        · refine lv_iconst (v := 1) hx hb dX3_asks_49 (by decide) ?_
          refine lv_goto (tgt := 54) hx hb dX3_asks_50 (by decide) ?_
          exact absurd c_46 c_25
      · refine lv_aload_n hx hb dX3_asks_28 rfl (lv_at hl 0 rfl) ?_
        refine va_get (D := D) (ci := 3) (v := .int (nI M9.2.2.2.1 - 1)) (C := RX3) (T := TX3) (N := 25) hx hb hts iw_X3_asks_X3 hown hK hP 0 rfl rfl 16 (by decide) (hts (.fieldLink RX3 99 "SluiceRulesModel" "top" "I") (by decide +kernel)) (fun _ h9 => h9) rfl dX3_asks_29 ?_
        refine lv_if_lt (tgt := 42) hx hb dX3_asks_32 (by decide) (fun c_32 => ?_) (fun c_32 => ?_)
        · refine lv_aload_n hx hb dX3_asks_42 rfl (lv_at hl 0 rfl) ?_
          refine va_get (D := D) (ci := 3) (v := .int M9.2.1) (C := RX3) (T := TX3) (N := 25) hx hb hts iw_X3_asks_X3 hown hK hP 0 rfl rfl 14 (by decide) (hts (.fieldLink RX3 89 "SluiceRulesModel" "failure" "I") (by decide +kernel)) (fun _ h9 => h9) rfl dX3_asks_43 ?_
          refine lv_if_ne (tgt := 53) hx hb dX3_asks_46 (by decide) (fun c_46 => ?_) (fun c_46 => ?_)
          · refine lv_iconst (v := 0) hx hb dX3_asks_53 (by decide) ?_
            exact absurd c_25 c_46
          · refine lv_iconst (v := 1) hx hb dX3_asks_49 (by decide) ?_
            refine lv_goto (tgt := 54) hx hb dX3_asks_50 (by decide) ?_
            exact wrZ M9 hx hb hr hlk dX3_asks_54 nar1 hP hD hS ⟨hfin1, fun q9 => (hfin2 q9).1, by rw [decide_eq_true c_25]; rfl⟩
        · exact absurd (show nI M9.2.2.2.1 - 1 < 0 by rw [(hfin2 c_25).2]; decide) c_32
    | succ c2 ih2 =>
      intro M9 H locs ls hpt9 hP hD hS hl
      obtain ⟨st2, fl2, va2, T2, ct2, pi2, ph2, ps2, pm2⟩ := M9
      obtain ⟨k2, ⟨o1, o2, o3, o4, o5, o6, o7⟩, hpt9⟩ := hpt9
      obtain ⟨t2, rfl⟩ : ∃ t2, T2 = t2 + 1 := ⟨T2 - 1, by omega⟩
      subst o1
      have hP : va_P D vwCl (mw G Z (nI b) mn (nI n) (nI sN) (nI st2) 0 va2 (nI (t2 + 1) - 1) gv ts tw tm lv sl kd pt he ct2 fr to rl pi2 ph2 ps2 pm2) H := hP
      have hD : va_D (va_A (mw G Z (nI b) mn (nI n) (nI sN) (nI st) fl va tp gv ts tw tm lv sl kd pt he ct fr to rl pi ph ps pm) sz) (mw G Z (nI b) mn (nI n) (nI sN) (nI st2) 0 va2 (nI (t2 + 1) - 1) gv ts tw tm lv sl kd pt he ct2 fr to rl pi2 ph2 ps2 pm2) := hD
      refine lv_aload_n hx hb dX3_asks_21 rfl (lv_at hl 0 rfl) ?_
      refine va_get (D := D) (ci := 3) (v := .int 0) (C := RX3) (T := TX3) (N := 25) hx hb hts iw_X3_asks_X3 hown hK hP 0 rfl rfl 14 (by decide) (hts (.fieldLink RX3 89 "SluiceRulesModel" "failure" "I") (by decide +kernel)) (fun _ h9 => h9) rfl dX3_asks_22 ?_
      refine lv_if_ne (tgt := 42) hx hb dX3_asks_25 (by decide) (fun c_25 => ?_) (fun c_25 => ?_)
      · exact absurd rfl c_25
      · refine lv_aload_n hx hb dX3_asks_28 rfl (lv_at hl 0 rfl) ?_
        refine va_get (D := D) (ci := 3) (v := .int (nI (t2 + 1) - 1)) (C := RX3) (T := TX3) (N := 25) hx hb hts iw_X3_asks_X3 hown hK hP 0 rfl rfl 16 (by decide) (hts (.fieldLink RX3 99 "SluiceRulesModel" "top" "I") (by decide +kernel)) (fun _ h9 => h9) rfl dX3_asks_29 ?_
        refine lv_if_lt (tgt := 42) hx hb dX3_asks_32 (by decide) (fun c_32 => ?_) (fun c_32 => ?_)
        · exact absurd c_32 (by rw [nI_pred]; exact nI_pos (by omega))
        · refine lv_aload_n hx hb dX3_asks_35 rfl (lv_at hl 0 rfl) ?_
          refine WrV.callV (As := []) (rest := []) (c_X3_go o5 hn40 hb8 o4 o3 hW o6 o7) ⟨hx, hb, hml, hown, hts⟩ (cwV 0 hts gX3_asks_X3_go rfl rfl rfl (by decide +kernel) ⟨by decide, by decide⟩) hP hD hS hA hK hN 0 3 rfl rfl rfl hl.1 rfl (Nat.le_of_ble_eq_true rfl) dX3_asks_36 ⟨Nat.le_of_ble_eq_true rfl, Nat.le_of_ble_eq_true rfl⟩ (fun ur_2 H locs hr_2 hP hD hS => ?_)
          refine lv_goto (tgt := 21) hx hb dX3_asks_39 (by decide) ?_
          exact ih2 ur_2 _ _ _ (by rw [hr_2]; exact hpt9) hP hD hS (lv_sub (l' := [(0, .ref (G 0)), (1, .int x), (2, .int h)]) hl [0, 1, 2] rfl)
  exact loop cq9 ur_1 _ _ ls hpth hP hD hS (lv_sub (l' := [(0, .ref (G 0)), (1, .int x), (2, .int h)]) hl [0, 1, 2] rfl)

theorem iw_X3_ask_X3 : ∀ w ∈ u_ws RX3 TX3 25, w ∈ wsX3_ask := by decide +kernel
set_option maxRecDepth 100000 in
set_option maxHeartbeats 4000000 in
/-- ask -/
theorem c_X3_ask {l : Launch} {D : va_G} {G : Nat → Nat} {Z : Nat → ClassId} {mn fl : Int32} {va gv : Int64} {tp ts tw tm : Int32} {lv sl kd pt : Nat → Int32} {he : Nat → Int64} {ct fr to rl pi ph ps : Nat → Int32} {pm : Nat → Int64} {b n sN st : Nat} (hn40 : n ≤ 40) (hb8 : b ≤ 8) (hW : wfA b n sl kd pt) (x h : Int32) : WrI l yX3_ask wsX3_ask (rk 4) D (mty Z) (mw G Z (nI b) mn (nI n) (nI sN) (nI st) fl va tp gv ts tw tm lv sl kd pt he ct fr to rl pi ph ps pm) [.ref (G 0), .int x, .int h] (σ := (Nat × Int64 × (Nat → Int32)) × JK) (fun u => mw G Z (nI b) mn (nI n) (nI sN) (nI u.1.1) u.2.1 u.2.2.1 u.2.2.2.1 u.1.2.1 ts tw tm lv sl kd pt he u.1.2.2 fr to rl u.2.2.2.2.1 u.2.2.2.2.2.1 u.2.2.2.2.2.2.1 u.2.2.2.2.2.2.2) (fun r u => (r, u.1) = sp_ask (n, mn, lv, sl, kd, pt, he) x h st gv ct) 0 0 := by
  intro sz
  refine wrEnter (cc := cX3_ask) (maxL := 3) (ret := (some .int)) (by decide) rfl (Nat.le_of_ble_eq_true rfl) ?_
  intro p e s m below meth c hx hb hr hml hown hts hlk hP hK hN hsz hD hS hA hin ls hl
  have hown : s.vm.findClass RX3 = some m.cls := hown
  have hl : lv_has ls 3 [(0, .ref (G 0)), (1, .int x), (2, .int h)] := hl
  refine lv_aload_n hx hb dX3_ask_0 rfl (lv_at hl 0 rfl) ?_
  refine lv_iload_n hx hb dX3_ask_1 rfl (lv_at hl 1 rfl) ?_
  refine RoI.callV (As := [.int x]) (rest := []) (c_X3_isRule hn40 x) ⟨hx, hb, hml, hown, hts⟩ (cwV 1 hts gX3_ask_X3_isRule rfl rfl rfl (by decide +kernel) ⟨by decide, by decide⟩) hP hK hN 0 3 rfl rfl rfl hl.1 rfl (Nat.le_of_ble_eq_true rfl) dX3_ask_2 ⟨Nat.le_of_ble_eq_true rfl, Nat.le_of_ble_eq_true rfl⟩ (fun r_1 hr_1 => ?_)
  refine lv_if_ne (tgt := 11) hx hb dX3_ask_5 (by decide) (fun c_5 => ?_) (fun c_5 => ?_)
  · have b_5 : inB x n = true := bI_n (by rw [← hr_1]; exact c_5)
    refine lv_aload_n hx hb dX3_ask_11 rfl (lv_at hl 0 rfl) ?_
    refine lv_iload_n hx hb dX3_ask_12 rfl (lv_at hl 1 rfl) ?_
    refine lv_iload_n hx hb dX3_ask_13 rfl (lv_at hl 2 rfl) ?_
    refine WrI.callV (As := [.int x, .int h]) (rest := []) (c_X3_asks hn40 hb8 hW (ptB_in b_5) h) ⟨hx, hb, hml, hown, hts⟩ (cwV 2 hts gX3_ask_X3_asks rfl rfl rfl (by decide +kernel) ⟨by decide, by decide⟩) hP hD hS hA hK hN 0 3 rfl rfl rfl hl.1 rfl (Nat.le_of_ble_eq_true rfl) dX3_ask_14 ⟨Nat.le_of_ble_eq_true rfl, Nat.le_of_ble_eq_true rfl⟩ (fun r_2 ur_2 H locs hr_2 hP hD hS => ?_)
    obtain ⟨st_2, fl_2, va_2, T_2, ct_2, pi_2, ph_2, ps_2, pm_2⟩ := ur_2
    obtain ⟨e_2, v_2, b_2⟩ := hr_2
    have e_2 : ((ev (n, mn, lv, sl, kd, pt, he) 120 x h (0, 0, ct)).1, (st_2, fl_2, ct_2)) = ev (n, mn, lv, sl, kd, pt, he) 120 x h (0, 0, ct) := e_2
    have v_2 : fl_2 = 0 → va_2 = (ev (n, mn, lv, sl, kd, pt, he) 120 x h (0, 0, ct)).1 := v_2
    have hP : va_P D vwCl (mw G Z (nI b) mn (nI n) (nI sN) (nI st_2) fl_2 va_2 (nI T_2 - 1) gv ts tw tm lv sl kd pt he ct_2 fr to rl pi_2 ph_2 ps_2 pm_2) H := hP
    have hD : va_D (va_A (mw G Z (nI b) mn (nI n) (nI sN) (nI st) fl va tp gv ts tw tm lv sl kd pt he ct fr to rl pi ph ps pm) sz) (mw G Z (nI b) mn (nI n) (nI sN) (nI st_2) fl_2 va_2 (nI T_2 - 1) gv ts tw tm lv sl kd pt he ct_2 fr to rl pi_2 ph_2 ps_2 pm_2) := hD
    refine lv_if_ne (tgt := 25) hx hb dX3_ask_17 (by decide) (fun c_17 => ?_) (fun c_17 => ?_)
    · have b_17 : decide (fl_2 = 0) = true := bI_n (by rw [← b_2]; exact c_17)
      refine lv_aload_n hx hb dX3_ask_25 rfl (lv_at hl 0 rfl) ?_
      refine lv_aload_n hx hb dX3_ask_26 rfl (lv_at hl 0 rfl) ?_
      refine va_get (D := D) (ci := 3) (v := .long va_2) (C := RX3) (T := TX3) (N := 25) hx hb hts iw_X3_ask_X3 hown hK hP 0 rfl rfl 15 (by decide) (hts (.fieldLink RX3 92 "SluiceRulesModel" "value" "J") (by decide +kernel)) (fun _ h9 => h9) rfl dX3_ask_27 ?_
      refine va_put (D := D) (ci := 3) (v := .long va_2) (ty := .long) (C := RX3) (T := TX3) (N := 25) hx hb hts iw_X3_ask_X3 tyX3 tyX3_ok nmX3 hown hK hP hD hS 0 rfl rfl 21 (by decide) (hts (.fieldLink RX3 146 "SluiceRulesModel" "given" "J") (by decide +kernel)) (fun _ h9 => h9) rfl (by decide +kernel) rfl rfl (Nat.le_of_ble_eq_true rfl) dX3_ask_30 (fun H locs hP hD hS => ?_)
      have hP : va_P D vwCl (mw G Z (nI b) mn (nI n) (nI sN) (nI st_2) fl_2 va_2 (nI T_2 - 1) va_2 ts tw tm lv sl kd pt he ct_2 fr to rl pi_2 ph_2 ps_2 pm_2) H := hP
      have hD : va_D (va_A (mw G Z (nI b) mn (nI n) (nI sN) (nI st) fl va tp gv ts tw tm lv sl kd pt he ct fr to rl pi ph ps pm) sz) (mw G Z (nI b) mn (nI n) (nI sN) (nI st_2) fl_2 va_2 (nI T_2 - 1) va_2 ts tw tm lv sl kd pt he ct_2 fr to rl pi_2 ph_2 ps_2 pm_2) := hD
      refine lv_iconst (v := 1) hx hb dX3_ask_33 (by decide) ?_
      have f_0 : fl_2 = 0 := of_decide_eq_true b_17
      have e_3 : (va_2, (st_2, fl_2, ct_2)) = ev (n, mn, lv, sl, kd, pt, he) 120 x h (0, 0, ct) := by rw [v_2 f_0]; exact e_2
      exact wrI ((st_2, va_2, ct_2), (fl_2, va_2, nI T_2 - 1, pi_2, ph_2, ps_2, pm_2)) hx hb hr hlk dX3_ask_34 hP hD hS (sp_ask_1 b_5 e_3 f_0)
    · have b_17 : decide (fl_2 = 0) = false := bI_z (by rw [← b_2]; exact c_17)
      refine lv_aload_n hx hb dX3_ask_20 rfl (lv_at hl 0 rfl) ?_
      refine va_get (D := D) (ci := 3) (v := .int fl_2) (C := RX3) (T := TX3) (N := 25) hx hb hts iw_X3_ask_X3 hown hK hP 0 rfl rfl 14 (by decide) (hts (.fieldLink RX3 89 "SluiceRulesModel" "failure" "I") (by decide +kernel)) (fun _ h9 => h9) rfl dX3_ask_21 ?_
      exact wrI ((st_2, gv, ct_2), (fl_2, va_2, nI T_2 - 1, pi_2, ph_2, ps_2, pm_2)) hx hb hr hlk dX3_ask_24 hP hD hS (sp_ask_f b_5 e_2 (of_decide_eq_false b_17))
  · have b_5 : inB x n = false := bI_z (by rw [← hr_1]; exact c_5)
    refine lv_bipush (v := (-101)) hx hb dX3_ask_8 (by decide) ?_
    exact wrI ((st, gv, ct), (fl, va, tp, pi, ph, ps, pm)) hx hb hr hlk dX3_ask_10 hP hD hS (sp_ask_u b_5)

section FI
variable {k a b c d e : Int32}
theorem fi_8 (h : k = 8) (q : rgB c 1 1000 = true) : fiB k a b c d e = true := by rw [fiB, if_pos h]; exact q
theorem fi_8f (h : k = 8) (q : rgB c 1 1000 = false) : fiB k a b c d e = false := by rw [fiB, if_pos h]; exact q
theorem fi_11 (h : k = 11) (q : d ≤ e) : fiB k a b c d e = true := by rw [fiB, if_neg (by rw [h]; decide), if_pos h]; exact decide_eq_true q
theorem fi_11f (h : k = 11) (q : ¬ d ≤ e) : fiB k a b c d e = false := by rw [fiB, if_neg (by rw [h]; decide), if_pos h]; exact decide_eq_false q
theorem fi_16 (h : k = 16) (q : a ≤ b) : fiB k a b c d e = true := by rw [fiB, if_neg (by rw [h]; decide), if_neg (by rw [h]; decide), if_pos h]; exact decide_eq_true q
theorem fi_16f (h : k = 16) (q : ¬ a ≤ b) : fiB k a b c d e = false := by rw [fiB, if_neg (by rw [h]; decide), if_neg (by rw [h]; decide), if_pos h]; exact decide_eq_false q
theorem fi_0 (h8 : ¬ k = 8) (h11 : ¬ k = 11) (h16 : ¬ k = 16) : fiB k a b c d e = true := by rw [fiB, if_neg h8, if_neg h11, if_neg h16]
theorem h12 {b n : Nat} {kd : Nat → Int32} {k a bb c : Int32} (h : knB b n kd k a bb c = true) (e : k = 12) : ptB a n = true := by rw [e] at h; exact h
end FI

theorem iw_X3_make_X3 : ∀ w ∈ u_ws RX3 TX3 25, w ∈ wsX3_make := by decide +kernel
set_option maxRecDepth 100000 in
set_option maxHeartbeats 4000000 in
/-- make -/
theorem c_X3_make {l : Launch} {D : va_G} {G : Nat → Nat} {Z : Nat → ClassId} {mn fl : Int32} {va gv : Int64} {tp ts tw tm : Int32} {lv sl kd pt : Nat → Int32} {he : Nat → Int64} {ct fr to rl pi ph ps : Nat → Int32} {pm : Nat → Int64} {b n sN st : Nat} (hn40 : n ≤ 40) (hb8 : b ≤ 8) (hW : wfA b n sl kd pt) (k_ a_ b_ c_ d_ e_ : Int32) : WrI l yX3_make wsX3_make (rk 4) D (mty Z) (mw G Z (nI b) mn (nI n) (nI sN) (nI st) fl va tp gv ts tw tm lv sl kd pt he ct fr to rl pi ph ps pm) [.ref (G 0), .int k_, .int a_, .int b_, .int c_, .int d_, .int e_] (σ := MK × JK) (fun u => mw G Z (nI b) mn (nI u.1.1) (nI sN) (nI u.1.2.2.2.2.2) u.2.1 u.2.2.1 u.2.2.2.1 gv ts tw tm lv sl u.1.2.1 u.1.2.2.1 u.1.2.2.2.1 u.1.2.2.2.2.1 fr to rl u.2.2.2.2.1 u.2.2.2.2.2.1 u.2.2.2.2.2.2.1 u.2.2.2.2.2.2.2) (fun r u => (r, u.1) = sp_make b n mn lv sl kd pt he k_ a_ b_ c_ d_ e_ ct st) 0 0 := by
  intro sz
  refine wrEnter (cc := cX3_make) (maxL := 7) (ret := (some .int)) (by decide) rfl (Nat.le_of_ble_eq_true rfl) ?_
  intro p e s m below meth c hx hb hr hml hown hts hlk hP hK hN hsz hD hS hA hin ls hl
  have hown : s.vm.findClass RX3 = some m.cls := hown
  have hl : lv_has ls 7 [(0, .ref (G 0)), (1, .int k_), (2, .int a_), (3, .int b_), (4, .int c_), (5, .int d_), (6, .int e_)] := hl
  refine lv_aload_n hx hb dX3_make_0 rfl (lv_at hl 0 rfl) ?_
  refine lv_iload_n hx hb dX3_make_1 rfl (lv_at hl 1 rfl) ?_
  refine lv_iload_n hx hb dX3_make_2 rfl (lv_at hl 2 rfl) ?_
  refine lv_iload_n hx hb dX3_make_3 rfl (lv_at hl 3 rfl) ?_
  refine lv_iload hx hb dX3_make_4 (lv_at hl 4 rfl) ?_
  refine RoI.callV (As := [.int k_, .int a_, .int b_, .int c_]) (rest := []) (c_X3_areKnown hn40 hb8 k_ a_ b_ c_) ⟨hx, hb, hml, hown, hts⟩ (cwV 4 hts gX3_make_X3_areKnown rfl rfl rfl (by decide +kernel) ⟨by decide, by decide⟩) hP hK hN 0 3 rfl rfl rfl hl.1 rfl (Nat.le_of_ble_eq_true rfl) dX3_make_6 ⟨Nat.le_of_ble_eq_true rfl, Nat.le_of_ble_eq_true rfl⟩ (fun r_1 hr_1 => ?_)
  refine lv_if_ne (tgt := 15) hx hb dX3_make_9 (by decide) (fun c_9 => ?_) (fun c_9 => ?_)
  · have b_9 : knB b n kd k_ a_ b_ c_ = true := bI_n (by rw [← hr_1]; exact c_9)
    have K60 : fiB k_ a_ b_ c_ d_ e_ = true → W p l e (rk 4) s m ([.ref (G 0), .int k_, .int a_, .int b_, .int c_, .int d_, .int e_] : List Value).toArray below meth c s.heap [] 0 0 (MQ below (va_Qi (fun r u => (r, u.1) = sp_make b n mn lv sl kd pt he k_ a_ b_ c_ d_ e_ ct st) (wrB (σ := MK × JK) D (mw G Z (nI b) mn (nI n) (nI sN) (nI st) fl va tp gv ts tw tm lv sl kd pt he ct fr to rl pi ph ps pm) (fun u => mw G Z (nI b) mn (nI u.1.1) (nI sN) (nI u.1.2.2.2.2.2) u.2.1 u.2.2.1 u.2.2.2.1 gv ts tw tm lv sl u.1.2.1 u.1.2.2.1 u.1.2.2.2.1 u.1.2.2.2.2.1 fr to rl u.2.2.2.2.1 u.2.2.2.2.2.1 u.2.2.2.2.2.2.1 u.2.2.2.2.2.2.2) sz) (va_A (mw G Z (nI b) mn (nI n) (nI sN) (nI st) fl va tp gv ts tw tm lv sl kd pt he ct fr to rl pi ph ps pm) sz)) ([.ref (G 0), .int k_, .int a_, .int b_, .int c_, .int d_, .int e_] : List Value).toArray s 0 0 (va_A (mw G Z (nI b) mn (nI n) (nI sN) (nI st) fl va tp gv ts tw tm lv sl kd pt he ct fr to rl pi ph ps pm) sz)) (F0 m 60 ls []) := by
      intro b_f
      refine lv_aload_n hx hb dX3_make_60 rfl (lv_at hl 0 rfl) ?_
      refine va_get (D := D) (ci := 3) (v := .int (nI n)) (C := RX3) (T := TX3) (N := 25) hx hb hts iw_X3_make_X3 hown hK hP 0 rfl rfl 4 (by decide) (hts (.fieldLink RX3 64 "SluiceRulesModel" "rules" "I") (by decide +kernel)) (fun _ h9 => h9) rfl dX3_make_61 ?_
      refine lv_bipush (v := 40) hx hb dX3_make_64 (by decide) ?_
      refine lv_icmp_ne (tgt := 72) hx hb dX3_make_66 (by decide) (fun c_66 => ?_) (fun c_66 => ?_)
      · have n_n9 : ¬ n = 40 := fun z => c_66 (by rw [z]; rfl)
        refine lv_iload_n hx hb dX3_make_72 rfl (lv_at hl 1 rfl) ?_
        refine lv_bipush (v := 12) hx hb dX3_make_73 (by decide) ?_
        refine lv_icmp_ne (tgt := 92) hx hb dX3_make_75 (by decide) (fun c_75 => ?_) (fun c_75 => ?_)
        · have n_n : ¬ n = 40 := fun z => c_66 (by rw [z]; rfl)
          have n_l : n < 40 := by omega
          refine lv_aload_n hx hb dX3_make_92 rfl (lv_at hl 0 rfl) ?_
          refine va_get (D := D) (ci := 3) (v := .ref (G 3)) (C := RX3) (T := TX3) (N := 25) hx hb hts iw_X3_make_X3 hown hK hP 0 rfl rfl 5 (by decide) (hts (.fieldLink RX3 20 "SluiceRulesModel" "kindOf" "[I") (by decide +kernel)) (fun _ h9 => h9) rfl dX3_make_93 ?_
          refine lv_aload_n hx hb dX3_make_96 rfl (lv_at hl 0 rfl) ?_
          refine va_get (D := D) (ci := 3) (v := .int (nI n)) (C := RX3) (T := TX3) (N := 25) hx hb hts iw_X3_make_X3 hown hK hP 0 rfl rfl 4 (by decide) (hts (.fieldLink RX3 64 "SluiceRulesModel" "rules" "I") (by decide +kernel)) (fun _ h9 => h9) rfl dX3_make_97 ?_
          refine lv_iload_n hx hb dX3_make_100 rfl (lv_at hl 1 rfl) ?_
          refine my_iast (j := n) hx hb hK hP hD hS 3 2 rfl rfl (rfl) (n_l) (by decide) dX3_make_101 (fun H locs hP hD hS => ?_)
          have hP : va_P D vwCl (mw G Z (nI b) mn (nI n) (nI sN) (nI st) fl va tp gv ts tw tm lv sl (upd kd n k_) pt he ct fr to rl pi ph ps pm) H := hP
          have hD : va_D (va_A (mw G Z (nI b) mn (nI n) (nI sN) (nI st) fl va tp gv ts tw tm lv sl kd pt he ct fr to rl pi ph ps pm) sz) (mw G Z (nI b) mn (nI n) (nI sN) (nI st) fl va tp gv ts tw tm lv sl (upd kd n k_) pt he ct fr to rl pi ph ps pm) := hD
          refine lv_aload_n hx hb dX3_make_102 rfl (lv_at hl 0 rfl) ?_
          refine va_get (D := D) (ci := 3) (v := .ref (G 4)) (C := RX3) (T := TX3) (N := 25) hx hb hts iw_X3_make_X3 hown hK hP 0 rfl rfl 6 (by decide) (hts (.fieldLink RX3 23 "SluiceRulesModel" "parts" "[I") (by decide +kernel)) (fun _ h9 => h9) rfl dX3_make_103 ?_
          refine lv_iconst (v := 5) hx hb dX3_make_106 (by decide) ?_
          refine lv_aload_n hx hb dX3_make_107 rfl (lv_at hl 0 rfl) ?_
          refine va_get (D := D) (ci := 3) (v := .int (nI n)) (C := RX3) (T := TX3) (N := 25) hx hb hts iw_X3_make_X3 hown hK hP 0 rfl rfl 4 (by decide) (hts (.fieldLink RX3 64 "SluiceRulesModel" "rules" "I") (by decide +kernel)) (fun _ h9 => h9) rfl dX3_make_108 ?_
          refine lv_imul hx hb dX3_make_111 ?_
          refine lv_iload_n hx hb dX3_make_112 rfl (lv_at hl 2 rfl) ?_
          refine my_iast (j := 5 * n) hx hb hK hP hD hS 4 3 rfl rfl (mul5 n) (by omega) (by decide) dX3_make_113 (fun H locs hP hD hS => ?_)
          have hP : va_P D vwCl (mw G Z (nI b) mn (nI n) (nI sN) (nI st) fl va tp gv ts tw tm lv sl (upd kd n k_) (upd pt (5 * n) a_) he ct fr to rl pi ph ps pm) H := hP
          have hD : va_D (va_A (mw G Z (nI b) mn (nI n) (nI sN) (nI st) fl va tp gv ts tw tm lv sl kd pt he ct fr to rl pi ph ps pm) sz) (mw G Z (nI b) mn (nI n) (nI sN) (nI st) fl va tp gv ts tw tm lv sl (upd kd n k_) (upd pt (5 * n) a_) he ct fr to rl pi ph ps pm) := hD
          refine lv_aload_n hx hb dX3_make_114 rfl (lv_at hl 0 rfl) ?_
          refine va_get (D := D) (ci := 3) (v := .ref (G 4)) (C := RX3) (T := TX3) (N := 25) hx hb hts iw_X3_make_X3 hown hK hP 0 rfl rfl 6 (by decide) (hts (.fieldLink RX3 23 "SluiceRulesModel" "parts" "[I") (by decide +kernel)) (fun _ h9 => h9) rfl dX3_make_115 ?_
          refine lv_iconst (v := 5) hx hb dX3_make_118 (by decide) ?_
          refine lv_aload_n hx hb dX3_make_119 rfl (lv_at hl 0 rfl) ?_
          refine va_get (D := D) (ci := 3) (v := .int (nI n)) (C := RX3) (T := TX3) (N := 25) hx hb hts iw_X3_make_X3 hown hK hP 0 rfl rfl 4 (by decide) (hts (.fieldLink RX3 64 "SluiceRulesModel" "rules" "I") (by decide +kernel)) (fun _ h9 => h9) rfl dX3_make_120 ?_
          refine lv_imul hx hb dX3_make_123 ?_
          refine lv_iconst (v := 1) hx hb dX3_make_124 (by decide) ?_
          refine lv_iadd hx hb dX3_make_125 ?_
          refine lv_iload_n hx hb dX3_make_126 rfl (lv_at hl 3 rfl) ?_
          refine my_iast (j := 5 * n + 1) hx hb hK hP hD hS 4 3 rfl rfl (mul51 n) (by omega) (by decide) dX3_make_127 (fun H locs hP hD hS => ?_)
          have hP : va_P D vwCl (mw G Z (nI b) mn (nI n) (nI sN) (nI st) fl va tp gv ts tw tm lv sl (upd kd n k_) (upd (upd pt (5 * n) a_) (5 * n + 1) b_) he ct fr to rl pi ph ps pm) H := hP
          have hD : va_D (va_A (mw G Z (nI b) mn (nI n) (nI sN) (nI st) fl va tp gv ts tw tm lv sl kd pt he ct fr to rl pi ph ps pm) sz) (mw G Z (nI b) mn (nI n) (nI sN) (nI st) fl va tp gv ts tw tm lv sl (upd kd n k_) (upd (upd pt (5 * n) a_) (5 * n + 1) b_) he ct fr to rl pi ph ps pm) := hD
          refine lv_aload_n hx hb dX3_make_128 rfl (lv_at hl 0 rfl) ?_
          refine va_get (D := D) (ci := 3) (v := .ref (G 4)) (C := RX3) (T := TX3) (N := 25) hx hb hts iw_X3_make_X3 hown hK hP 0 rfl rfl 6 (by decide) (hts (.fieldLink RX3 23 "SluiceRulesModel" "parts" "[I") (by decide +kernel)) (fun _ h9 => h9) rfl dX3_make_129 ?_
          refine lv_iconst (v := 5) hx hb dX3_make_132 (by decide) ?_
          refine lv_aload_n hx hb dX3_make_133 rfl (lv_at hl 0 rfl) ?_
          refine va_get (D := D) (ci := 3) (v := .int (nI n)) (C := RX3) (T := TX3) (N := 25) hx hb hts iw_X3_make_X3 hown hK hP 0 rfl rfl 4 (by decide) (hts (.fieldLink RX3 64 "SluiceRulesModel" "rules" "I") (by decide +kernel)) (fun _ h9 => h9) rfl dX3_make_134 ?_
          refine lv_imul hx hb dX3_make_137 ?_
          refine lv_iconst (v := 2) hx hb dX3_make_138 (by decide) ?_
          refine lv_iadd hx hb dX3_make_139 ?_
          refine lv_iload hx hb dX3_make_140 (lv_at hl 4 rfl) ?_
          refine my_iast (j := 5 * n + 2) hx hb hK hP hD hS 4 3 rfl rfl (mul52 n) (by omega) (by decide) dX3_make_142 (fun H locs hP hD hS => ?_)
          have hP : va_P D vwCl (mw G Z (nI b) mn (nI n) (nI sN) (nI st) fl va tp gv ts tw tm lv sl (upd kd n k_) (upd (upd (upd pt (5 * n) a_) (5 * n + 1) b_) (5 * n + 2) c_) he ct fr to rl pi ph ps pm) H := hP
          have hD : va_D (va_A (mw G Z (nI b) mn (nI n) (nI sN) (nI st) fl va tp gv ts tw tm lv sl kd pt he ct fr to rl pi ph ps pm) sz) (mw G Z (nI b) mn (nI n) (nI sN) (nI st) fl va tp gv ts tw tm lv sl (upd kd n k_) (upd (upd (upd pt (5 * n) a_) (5 * n + 1) b_) (5 * n + 2) c_) he ct fr to rl pi ph ps pm) := hD
          refine lv_aload_n hx hb dX3_make_143 rfl (lv_at hl 0 rfl) ?_
          refine va_get (D := D) (ci := 3) (v := .ref (G 4)) (C := RX3) (T := TX3) (N := 25) hx hb hts iw_X3_make_X3 hown hK hP 0 rfl rfl 6 (by decide) (hts (.fieldLink RX3 23 "SluiceRulesModel" "parts" "[I") (by decide +kernel)) (fun _ h9 => h9) rfl dX3_make_144 ?_
          refine lv_iconst (v := 5) hx hb dX3_make_147 (by decide) ?_
          refine lv_aload_n hx hb dX3_make_148 rfl (lv_at hl 0 rfl) ?_
          refine va_get (D := D) (ci := 3) (v := .int (nI n)) (C := RX3) (T := TX3) (N := 25) hx hb hts iw_X3_make_X3 hown hK hP 0 rfl rfl 4 (by decide) (hts (.fieldLink RX3 64 "SluiceRulesModel" "rules" "I") (by decide +kernel)) (fun _ h9 => h9) rfl dX3_make_149 ?_
          refine lv_imul hx hb dX3_make_152 ?_
          refine lv_iconst (v := 3) hx hb dX3_make_153 (by decide) ?_
          refine lv_iadd hx hb dX3_make_154 ?_
          refine lv_iload hx hb dX3_make_155 (lv_at hl 5 rfl) ?_
          refine my_iast (j := 5 * n + 3) hx hb hK hP hD hS 4 3 rfl rfl (mul53 n) (by omega) (by decide) dX3_make_157 (fun H locs hP hD hS => ?_)
          have hP : va_P D vwCl (mw G Z (nI b) mn (nI n) (nI sN) (nI st) fl va tp gv ts tw tm lv sl (upd kd n k_) (upd (upd (upd (upd pt (5 * n) a_) (5 * n + 1) b_) (5 * n + 2) c_) (5 * n + 3) d_) he ct fr to rl pi ph ps pm) H := hP
          have hD : va_D (va_A (mw G Z (nI b) mn (nI n) (nI sN) (nI st) fl va tp gv ts tw tm lv sl kd pt he ct fr to rl pi ph ps pm) sz) (mw G Z (nI b) mn (nI n) (nI sN) (nI st) fl va tp gv ts tw tm lv sl (upd kd n k_) (upd (upd (upd (upd pt (5 * n) a_) (5 * n + 1) b_) (5 * n + 2) c_) (5 * n + 3) d_) he ct fr to rl pi ph ps pm) := hD
          refine lv_aload_n hx hb dX3_make_158 rfl (lv_at hl 0 rfl) ?_
          refine va_get (D := D) (ci := 3) (v := .ref (G 4)) (C := RX3) (T := TX3) (N := 25) hx hb hts iw_X3_make_X3 hown hK hP 0 rfl rfl 6 (by decide) (hts (.fieldLink RX3 23 "SluiceRulesModel" "parts" "[I") (by decide +kernel)) (fun _ h9 => h9) rfl dX3_make_159 ?_
          refine lv_iconst (v := 5) hx hb dX3_make_162 (by decide) ?_
          refine lv_aload_n hx hb dX3_make_163 rfl (lv_at hl 0 rfl) ?_
          refine va_get (D := D) (ci := 3) (v := .int (nI n)) (C := RX3) (T := TX3) (N := 25) hx hb hts iw_X3_make_X3 hown hK hP 0 rfl rfl 4 (by decide) (hts (.fieldLink RX3 64 "SluiceRulesModel" "rules" "I") (by decide +kernel)) (fun _ h9 => h9) rfl dX3_make_164 ?_
          refine lv_imul hx hb dX3_make_167 ?_
          refine lv_iconst (v := 4) hx hb dX3_make_168 (by decide) ?_
          refine lv_iadd hx hb dX3_make_169 ?_
          refine lv_iload hx hb dX3_make_170 (lv_at hl 6 rfl) ?_
          refine my_iast (j := 5 * n + 4) hx hb hK hP hD hS 4 3 rfl rfl (mul54 n) (by omega) (by decide) dX3_make_172 (fun H locs hP hD hS => ?_)
          have hP : va_P D vwCl (mw G Z (nI b) mn (nI n) (nI sN) (nI st) fl va tp gv ts tw tm lv sl (upd kd n k_) (upd (upd (upd (upd (upd pt (5 * n) a_) (5 * n + 1) b_) (5 * n + 2) c_) (5 * n + 3) d_) (5 * n + 4) e_) he ct fr to rl pi ph ps pm) H := hP
          have hD : va_D (va_A (mw G Z (nI b) mn (nI n) (nI sN) (nI st) fl va tp gv ts tw tm lv sl kd pt he ct fr to rl pi ph ps pm) sz) (mw G Z (nI b) mn (nI n) (nI sN) (nI st) fl va tp gv ts tw tm lv sl (upd kd n k_) (upd (upd (upd (upd (upd pt (5 * n) a_) (5 * n + 1) b_) (5 * n + 2) c_) (5 * n + 3) d_) (5 * n + 4) e_) he ct fr to rl pi ph ps pm) := hD
          refine lv_aload_n hx hb dX3_make_173 rfl (lv_at hl 0 rfl) ?_
          refine va_get (D := D) (ci := 3) (v := .ref (G 5)) (C := RX3) (T := TX3) (N := 25) hx hb hts iw_X3_make_X3 hown hK hP 0 rfl rfl 7 (by decide) (hts (.fieldLink RX3 26 "SluiceRulesModel" "held" "[J") (by decide +kernel)) (fun _ h9 => h9) rfl dX3_make_174 ?_
          refine lv_aload_n hx hb dX3_make_177 rfl (lv_at hl 0 rfl) ?_
          refine va_get (D := D) (ci := 3) (v := .int (nI n)) (C := RX3) (T := TX3) (N := 25) hx hb hts iw_X3_make_X3 hown hK hP 0 rfl rfl 4 (by decide) (hts (.fieldLink RX3 64 "SluiceRulesModel" "rules" "I") (by decide +kernel)) (fun _ h9 => h9) rfl dX3_make_178 ?_
          refine lv_iload_n hx hb dX3_make_181 rfl (lv_at hl 1 rfl) ?_
          refine lv_bipush (v := 12) hx hb dX3_make_182 (by decide) ?_
          refine lv_icmp_ne (tgt := 194) hx hb dX3_make_184 (by decide) (fun c_184 => ?_) (fun c_184 => ?_)
          · refine lv_lconst (v := 0) hx hb dX3_make_194 (by decide) ?_
            refine my_last (j := n) hx hb hK hP hD hS 5 4 rfl rfl (rfl) (n_l) (by decide) dX3_make_195 (fun H locs hP hD hS => ?_)
            have hP : va_P D vwCl (mw G Z (nI b) mn (nI n) (nI sN) (nI st) fl va tp gv ts tw tm lv sl (upd kd n k_) (upd (upd (upd (upd (upd pt (5 * n) a_) (5 * n + 1) b_) (5 * n + 2) c_) (5 * n + 3) d_) (5 * n + 4) e_) (vp_updL he n 0) ct fr to rl pi ph ps pm) H := hP
            have hD : va_D (va_A (mw G Z (nI b) mn (nI n) (nI sN) (nI st) fl va tp gv ts tw tm lv sl kd pt he ct fr to rl pi ph ps pm) sz) (mw G Z (nI b) mn (nI n) (nI sN) (nI st) fl va tp gv ts tw tm lv sl (upd kd n k_) (upd (upd (upd (upd (upd pt (5 * n) a_) (5 * n + 1) b_) (5 * n + 2) c_) (5 * n + 3) d_) (5 * n + 4) e_) (vp_updL he n 0) ct fr to rl pi ph ps pm) := hD
            refine lv_aload_n hx hb dX3_make_196 rfl (lv_at hl 0 rfl) ?_
            refine va_get (D := D) (ci := 3) (v := .ref (G 6)) (C := RX3) (T := TX3) (N := 25) hx hb hts iw_X3_make_X3 hown hK hP 0 rfl rfl 8 (by decide) (hts (.fieldLink RX3 30 "SluiceRulesModel" "counter" "[I") (by decide +kernel)) (fun _ h9 => h9) rfl dX3_make_197 ?_
            refine lv_aload_n hx hb dX3_make_200 rfl (lv_at hl 0 rfl) ?_
            refine va_get (D := D) (ci := 3) (v := .int (nI n)) (C := RX3) (T := TX3) (N := 25) hx hb hts iw_X3_make_X3 hown hK hP 0 rfl rfl 4 (by decide) (hts (.fieldLink RX3 64 "SluiceRulesModel" "rules" "I") (by decide +kernel)) (fun _ h9 => h9) rfl dX3_make_201 ?_
            refine lv_iconst (v := 0) hx hb dX3_make_204 (by decide) ?_
            refine my_iast (j := n) hx hb hK hP hD hS 6 5 rfl rfl (rfl) (n_l) (by decide) dX3_make_205 (fun H locs hP hD hS => ?_)
            have hP : va_P D vwCl (mw G Z (nI b) mn (nI n) (nI sN) (nI st) fl va tp gv ts tw tm lv sl (upd kd n k_) (upd (upd (upd (upd (upd pt (5 * n) a_) (5 * n + 1) b_) (5 * n + 2) c_) (5 * n + 3) d_) (5 * n + 4) e_) (vp_updL he n 0) (upd ct n 0) fr to rl pi ph ps pm) H := hP
            have hD : va_D (va_A (mw G Z (nI b) mn (nI n) (nI sN) (nI st) fl va tp gv ts tw tm lv sl kd pt he ct fr to rl pi ph ps pm) sz) (mw G Z (nI b) mn (nI n) (nI sN) (nI st) fl va tp gv ts tw tm lv sl (upd kd n k_) (upd (upd (upd (upd (upd pt (5 * n) a_) (5 * n + 1) b_) (5 * n + 2) c_) (5 * n + 3) d_) (5 * n + 4) e_) (vp_updL he n 0) (upd ct n 0) fr to rl pi ph ps pm) := hD
            refine lv_aload_n hx hb dX3_make_206 rfl (lv_at hl 0 rfl) ?_
            refine lv_dup hx hb dX3_make_207 rfl ?_
            refine va_get (D := D) (ci := 3) (v := .int (nI n)) (C := RX3) (T := TX3) (N := 25) hx hb hts iw_X3_make_X3 hown hK hP 0 rfl rfl 4 (by decide) (hts (.fieldLink RX3 64 "SluiceRulesModel" "rules" "I") (by decide +kernel)) (fun _ h9 => h9) rfl dX3_make_208 ?_
            refine lv_iconst (v := 1) hx hb dX3_make_211 (by decide) ?_
            refine lv_iadd hx hb dX3_make_212 ?_
            refine va_put (D := D) (ci := 3) (v := .int ((nI n) + 1)) (ty := .int) (C := RX3) (T := TX3) (N := 25) hx hb hts iw_X3_make_X3 tyX3 tyX3_ok nmX3 hown hK hP hD hS 0 rfl rfl 4 (by decide) (hts (.fieldLink RX3 64 "SluiceRulesModel" "rules" "I") (by decide +kernel)) (fun _ h9 => h9) rfl (by decide +kernel) rfl rfl (Nat.le_of_ble_eq_true rfl) dX3_make_213 (fun H locs hP hD hS => ?_)
            have hP : va_P D vwCl (mw G Z (nI b) mn ((nI n) + 1) (nI sN) (nI st) fl va tp gv ts tw tm lv sl (upd kd n k_) (upd (upd (upd (upd (upd pt (5 * n) a_) (5 * n + 1) b_) (5 * n + 2) c_) (5 * n + 3) d_) (5 * n + 4) e_) (vp_updL he n 0) (upd ct n 0) fr to rl pi ph ps pm) H := hP
            have hD : va_D (va_A (mw G Z (nI b) mn (nI n) (nI sN) (nI st) fl va tp gv ts tw tm lv sl kd pt he ct fr to rl pi ph ps pm) sz) (mw G Z (nI b) mn ((nI n) + 1) (nI sN) (nI st) fl va tp gv ts tw tm lv sl (upd kd n k_) (upd (upd (upd (upd (upd pt (5 * n) a_) (5 * n + 1) b_) (5 * n + 2) c_) (5 * n + 3) d_) (5 * n + 4) e_) (vp_updL he n 0) (upd ct n 0) fr to rl pi ph ps pm) := hD
            refine lv_aload_n hx hb dX3_make_216 rfl (lv_at hl 0 rfl) ?_
            refine va_get (D := D) (ci := 3) (v := .int ((nI n) + 1)) (C := RX3) (T := TX3) (N := 25) hx hb hts iw_X3_make_X3 hown hK hP 0 rfl rfl 4 (by decide) (hts (.fieldLink RX3 64 "SluiceRulesModel" "rules" "I") (by decide +kernel)) (fun _ h9 => h9) rfl dX3_make_217 ?_
            refine lv_iconst (v := 1) hx hb dX3_make_220 (by decide) ?_
            refine lv_isub hx hb dX3_make_221 ?_
            rw [nI_1] at hP hD
            exact wrI ((n + 1, upd kd n k_, pt5 pt n a_ b_ c_ d_ e_, vp_updL he n 0, upd ct n 0, st), (fl, va, tp, pi, ph, ps, pm)) hx hb hr hlk dX3_make_222 hP hD hS (by rw [nI_1, nI_pred]; exact sp_make_n b_9 b_f n_n c_75)
          · refine lv_aload_n hx hb dX3_make_187 rfl (lv_at hl 0 rfl) ?_
            refine va_get (D := D) (ci := 3) (v := .long va) (C := RX3) (T := TX3) (N := 25) hx hb hts iw_X3_make_X3 hown hK hP 0 rfl rfl 15 (by decide) (hts (.fieldLink RX3 92 "SluiceRulesModel" "value" "J") (by decide +kernel)) (fun _ h9 => h9) rfl dX3_make_188 ?_
            refine lv_goto (tgt := 195) hx hb dX3_make_191 (by decide) ?_
            refine my_last (j := n) hx hb hK hP hD hS 5 4 rfl rfl (rfl) (n_l) (by decide) dX3_make_195 (fun H locs hP hD hS => ?_)
            have hP : va_P D vwCl (mw G Z (nI b) mn (nI n) (nI sN) (nI st) fl va tp gv ts tw tm lv sl (upd kd n k_) (upd (upd (upd (upd (upd pt (5 * n) a_) (5 * n + 1) b_) (5 * n + 2) c_) (5 * n + 3) d_) (5 * n + 4) e_) (vp_updL he n va) ct fr to rl pi ph ps pm) H := hP
            have hD : va_D (va_A (mw G Z (nI b) mn (nI n) (nI sN) (nI st) fl va tp gv ts tw tm lv sl kd pt he ct fr to rl pi ph ps pm) sz) (mw G Z (nI b) mn (nI n) (nI sN) (nI st) fl va tp gv ts tw tm lv sl (upd kd n k_) (upd (upd (upd (upd (upd pt (5 * n) a_) (5 * n + 1) b_) (5 * n + 2) c_) (5 * n + 3) d_) (5 * n + 4) e_) (vp_updL he n va) ct fr to rl pi ph ps pm) := hD
            refine lv_aload_n hx hb dX3_make_196 rfl (lv_at hl 0 rfl) ?_
            refine va_get (D := D) (ci := 3) (v := .ref (G 6)) (C := RX3) (T := TX3) (N := 25) hx hb hts iw_X3_make_X3 hown hK hP 0 rfl rfl 8 (by decide) (hts (.fieldLink RX3 30 "SluiceRulesModel" "counter" "[I") (by decide +kernel)) (fun _ h9 => h9) rfl dX3_make_197 ?_
            refine lv_aload_n hx hb dX3_make_200 rfl (lv_at hl 0 rfl) ?_
            refine va_get (D := D) (ci := 3) (v := .int (nI n)) (C := RX3) (T := TX3) (N := 25) hx hb hts iw_X3_make_X3 hown hK hP 0 rfl rfl 4 (by decide) (hts (.fieldLink RX3 64 "SluiceRulesModel" "rules" "I") (by decide +kernel)) (fun _ h9 => h9) rfl dX3_make_201 ?_
            refine lv_iconst (v := 0) hx hb dX3_make_204 (by decide) ?_
            refine my_iast (j := n) hx hb hK hP hD hS 6 5 rfl rfl (rfl) (n_l) (by decide) dX3_make_205 (fun H locs hP hD hS => ?_)
            have hP : va_P D vwCl (mw G Z (nI b) mn (nI n) (nI sN) (nI st) fl va tp gv ts tw tm lv sl (upd kd n k_) (upd (upd (upd (upd (upd pt (5 * n) a_) (5 * n + 1) b_) (5 * n + 2) c_) (5 * n + 3) d_) (5 * n + 4) e_) (vp_updL he n va) (upd ct n 0) fr to rl pi ph ps pm) H := hP
            have hD : va_D (va_A (mw G Z (nI b) mn (nI n) (nI sN) (nI st) fl va tp gv ts tw tm lv sl kd pt he ct fr to rl pi ph ps pm) sz) (mw G Z (nI b) mn (nI n) (nI sN) (nI st) fl va tp gv ts tw tm lv sl (upd kd n k_) (upd (upd (upd (upd (upd pt (5 * n) a_) (5 * n + 1) b_) (5 * n + 2) c_) (5 * n + 3) d_) (5 * n + 4) e_) (vp_updL he n va) (upd ct n 0) fr to rl pi ph ps pm) := hD
            refine lv_aload_n hx hb dX3_make_206 rfl (lv_at hl 0 rfl) ?_
            refine lv_dup hx hb dX3_make_207 rfl ?_
            refine va_get (D := D) (ci := 3) (v := .int (nI n)) (C := RX3) (T := TX3) (N := 25) hx hb hts iw_X3_make_X3 hown hK hP 0 rfl rfl 4 (by decide) (hts (.fieldLink RX3 64 "SluiceRulesModel" "rules" "I") (by decide +kernel)) (fun _ h9 => h9) rfl dX3_make_208 ?_
            refine lv_iconst (v := 1) hx hb dX3_make_211 (by decide) ?_
            refine lv_iadd hx hb dX3_make_212 ?_
            refine va_put (D := D) (ci := 3) (v := .int ((nI n) + 1)) (ty := .int) (C := RX3) (T := TX3) (N := 25) hx hb hts iw_X3_make_X3 tyX3 tyX3_ok nmX3 hown hK hP hD hS 0 rfl rfl 4 (by decide) (hts (.fieldLink RX3 64 "SluiceRulesModel" "rules" "I") (by decide +kernel)) (fun _ h9 => h9) rfl (by decide +kernel) rfl rfl (Nat.le_of_ble_eq_true rfl) dX3_make_213 (fun H locs hP hD hS => ?_)
            have hP : va_P D vwCl (mw G Z (nI b) mn ((nI n) + 1) (nI sN) (nI st) fl va tp gv ts tw tm lv sl (upd kd n k_) (upd (upd (upd (upd (upd pt (5 * n) a_) (5 * n + 1) b_) (5 * n + 2) c_) (5 * n + 3) d_) (5 * n + 4) e_) (vp_updL he n va) (upd ct n 0) fr to rl pi ph ps pm) H := hP
            have hD : va_D (va_A (mw G Z (nI b) mn (nI n) (nI sN) (nI st) fl va tp gv ts tw tm lv sl kd pt he ct fr to rl pi ph ps pm) sz) (mw G Z (nI b) mn ((nI n) + 1) (nI sN) (nI st) fl va tp gv ts tw tm lv sl (upd kd n k_) (upd (upd (upd (upd (upd pt (5 * n) a_) (5 * n + 1) b_) (5 * n + 2) c_) (5 * n + 3) d_) (5 * n + 4) e_) (vp_updL he n va) (upd ct n 0) fr to rl pi ph ps pm) := hD
            refine lv_aload_n hx hb dX3_make_216 rfl (lv_at hl 0 rfl) ?_
            refine va_get (D := D) (ci := 3) (v := .int ((nI n) + 1)) (C := RX3) (T := TX3) (N := 25) hx hb hts iw_X3_make_X3 hown hK hP 0 rfl rfl 4 (by decide) (hts (.fieldLink RX3 64 "SluiceRulesModel" "rules" "I") (by decide +kernel)) (fun _ h9 => h9) rfl dX3_make_217 ?_
            refine lv_iconst (v := 1) hx hb dX3_make_220 (by decide) ?_
            refine lv_isub hx hb dX3_make_221 ?_
            rw [nI_1] at hP hD
            exact absurd c_184 c_75
        · refine lv_aload_n hx hb dX3_make_78 rfl (lv_at hl 0 rfl) ?_
          refine lv_iload_n hx hb dX3_make_79 rfl (lv_at hl 2 rfl) ?_
          refine lv_iload_n hx hb dX3_make_80 rfl (lv_at hl 3 rfl) ?_
          refine WrI.callV (As := [.int a_, .int b_]) (rest := []) (c_X3_asks hn40 hb8 hW (h12 b_9 c_75) b_) ⟨hx, hb, hml, hown, hts⟩ (cwV 2 hts gX3_make_X3_asks rfl rfl rfl (by decide +kernel) ⟨by decide, by decide⟩) hP hD hS hA hK hN 0 3 rfl rfl rfl hl.1 rfl (Nat.le_of_ble_eq_true rfl) dX3_make_81 ⟨Nat.le_of_ble_eq_true rfl, Nat.le_of_ble_eq_true rfl⟩ (fun r_2 ur_2 H locs hr_2 hP hD hS => ?_)
          obtain ⟨st_2, fl_2, va_2, T_2, ct_2, pi_2, ph_2, ps_2, pm_2⟩ := ur_2
          obtain ⟨e_2, v_2, b_2⟩ := hr_2
          have e_2 : ((ev (n, mn, lv, sl, kd, pt, he) 120 a_ b_ (0, 0, ct)).1, (st_2, fl_2, ct_2)) = ev (n, mn, lv, sl, kd, pt, he) 120 a_ b_ (0, 0, ct) := e_2
          have v_2 : fl_2 = 0 → va_2 = (ev (n, mn, lv, sl, kd, pt, he) 120 a_ b_ (0, 0, ct)).1 := v_2
          have hP : va_P D vwCl (mw G Z (nI b) mn (nI n) (nI sN) (nI st_2) fl_2 va_2 (nI T_2 - 1) gv ts tw tm lv sl kd pt he ct_2 fr to rl pi_2 ph_2 ps_2 pm_2) H := hP
          have hD : va_D (va_A (mw G Z (nI b) mn (nI n) (nI sN) (nI st) fl va tp gv ts tw tm lv sl kd pt he ct fr to rl pi ph ps pm) sz) (mw G Z (nI b) mn (nI n) (nI sN) (nI st_2) fl_2 va_2 (nI T_2 - 1) gv ts tw tm lv sl kd pt he ct_2 fr to rl pi_2 ph_2 ps_2 pm_2) := hD
          refine lv_if_ne (tgt := 92) hx hb dX3_make_84 (by decide) (fun c_84 => ?_) (fun c_84 => ?_)
          · have b_84 : decide (fl_2 = 0) = true := bI_n (by rw [← b_2]; exact c_84)
            have n_n : ¬ n = 40 := fun z => c_66 (by rw [z]; rfl)
            have n_l : n < 40 := by omega
            refine lv_aload_n hx hb dX3_make_92 rfl (lv_at hl 0 rfl) ?_
            refine va_get (D := D) (ci := 3) (v := .ref (G 3)) (C := RX3) (T := TX3) (N := 25) hx hb hts iw_X3_make_X3 hown hK hP 0 rfl rfl 5 (by decide) (hts (.fieldLink RX3 20 "SluiceRulesModel" "kindOf" "[I") (by decide +kernel)) (fun _ h9 => h9) rfl dX3_make_93 ?_
            refine lv_aload_n hx hb dX3_make_96 rfl (lv_at hl 0 rfl) ?_
            refine va_get (D := D) (ci := 3) (v := .int (nI n)) (C := RX3) (T := TX3) (N := 25) hx hb hts iw_X3_make_X3 hown hK hP 0 rfl rfl 4 (by decide) (hts (.fieldLink RX3 64 "SluiceRulesModel" "rules" "I") (by decide +kernel)) (fun _ h9 => h9) rfl dX3_make_97 ?_
            refine lv_iload_n hx hb dX3_make_100 rfl (lv_at hl 1 rfl) ?_
            refine my_iast (j := n) hx hb hK hP hD hS 3 2 rfl rfl (rfl) (n_l) (by decide) dX3_make_101 (fun H locs hP hD hS => ?_)
            have hP : va_P D vwCl (mw G Z (nI b) mn (nI n) (nI sN) (nI st_2) fl_2 va_2 (nI T_2 - 1) gv ts tw tm lv sl (upd kd n k_) pt he ct_2 fr to rl pi_2 ph_2 ps_2 pm_2) H := hP
            have hD : va_D (va_A (mw G Z (nI b) mn (nI n) (nI sN) (nI st) fl va tp gv ts tw tm lv sl kd pt he ct fr to rl pi ph ps pm) sz) (mw G Z (nI b) mn (nI n) (nI sN) (nI st_2) fl_2 va_2 (nI T_2 - 1) gv ts tw tm lv sl (upd kd n k_) pt he ct_2 fr to rl pi_2 ph_2 ps_2 pm_2) := hD
            refine lv_aload_n hx hb dX3_make_102 rfl (lv_at hl 0 rfl) ?_
            refine va_get (D := D) (ci := 3) (v := .ref (G 4)) (C := RX3) (T := TX3) (N := 25) hx hb hts iw_X3_make_X3 hown hK hP 0 rfl rfl 6 (by decide) (hts (.fieldLink RX3 23 "SluiceRulesModel" "parts" "[I") (by decide +kernel)) (fun _ h9 => h9) rfl dX3_make_103 ?_
            refine lv_iconst (v := 5) hx hb dX3_make_106 (by decide) ?_
            refine lv_aload_n hx hb dX3_make_107 rfl (lv_at hl 0 rfl) ?_
            refine va_get (D := D) (ci := 3) (v := .int (nI n)) (C := RX3) (T := TX3) (N := 25) hx hb hts iw_X3_make_X3 hown hK hP 0 rfl rfl 4 (by decide) (hts (.fieldLink RX3 64 "SluiceRulesModel" "rules" "I") (by decide +kernel)) (fun _ h9 => h9) rfl dX3_make_108 ?_
            refine lv_imul hx hb dX3_make_111 ?_
            refine lv_iload_n hx hb dX3_make_112 rfl (lv_at hl 2 rfl) ?_
            refine my_iast (j := 5 * n) hx hb hK hP hD hS 4 3 rfl rfl (mul5 n) (by omega) (by decide) dX3_make_113 (fun H locs hP hD hS => ?_)
            have hP : va_P D vwCl (mw G Z (nI b) mn (nI n) (nI sN) (nI st_2) fl_2 va_2 (nI T_2 - 1) gv ts tw tm lv sl (upd kd n k_) (upd pt (5 * n) a_) he ct_2 fr to rl pi_2 ph_2 ps_2 pm_2) H := hP
            have hD : va_D (va_A (mw G Z (nI b) mn (nI n) (nI sN) (nI st) fl va tp gv ts tw tm lv sl kd pt he ct fr to rl pi ph ps pm) sz) (mw G Z (nI b) mn (nI n) (nI sN) (nI st_2) fl_2 va_2 (nI T_2 - 1) gv ts tw tm lv sl (upd kd n k_) (upd pt (5 * n) a_) he ct_2 fr to rl pi_2 ph_2 ps_2 pm_2) := hD
            refine lv_aload_n hx hb dX3_make_114 rfl (lv_at hl 0 rfl) ?_
            refine va_get (D := D) (ci := 3) (v := .ref (G 4)) (C := RX3) (T := TX3) (N := 25) hx hb hts iw_X3_make_X3 hown hK hP 0 rfl rfl 6 (by decide) (hts (.fieldLink RX3 23 "SluiceRulesModel" "parts" "[I") (by decide +kernel)) (fun _ h9 => h9) rfl dX3_make_115 ?_
            refine lv_iconst (v := 5) hx hb dX3_make_118 (by decide) ?_
            refine lv_aload_n hx hb dX3_make_119 rfl (lv_at hl 0 rfl) ?_
            refine va_get (D := D) (ci := 3) (v := .int (nI n)) (C := RX3) (T := TX3) (N := 25) hx hb hts iw_X3_make_X3 hown hK hP 0 rfl rfl 4 (by decide) (hts (.fieldLink RX3 64 "SluiceRulesModel" "rules" "I") (by decide +kernel)) (fun _ h9 => h9) rfl dX3_make_120 ?_
            refine lv_imul hx hb dX3_make_123 ?_
            refine lv_iconst (v := 1) hx hb dX3_make_124 (by decide) ?_
            refine lv_iadd hx hb dX3_make_125 ?_
            refine lv_iload_n hx hb dX3_make_126 rfl (lv_at hl 3 rfl) ?_
            refine my_iast (j := 5 * n + 1) hx hb hK hP hD hS 4 3 rfl rfl (mul51 n) (by omega) (by decide) dX3_make_127 (fun H locs hP hD hS => ?_)
            have hP : va_P D vwCl (mw G Z (nI b) mn (nI n) (nI sN) (nI st_2) fl_2 va_2 (nI T_2 - 1) gv ts tw tm lv sl (upd kd n k_) (upd (upd pt (5 * n) a_) (5 * n + 1) b_) he ct_2 fr to rl pi_2 ph_2 ps_2 pm_2) H := hP
            have hD : va_D (va_A (mw G Z (nI b) mn (nI n) (nI sN) (nI st) fl va tp gv ts tw tm lv sl kd pt he ct fr to rl pi ph ps pm) sz) (mw G Z (nI b) mn (nI n) (nI sN) (nI st_2) fl_2 va_2 (nI T_2 - 1) gv ts tw tm lv sl (upd kd n k_) (upd (upd pt (5 * n) a_) (5 * n + 1) b_) he ct_2 fr to rl pi_2 ph_2 ps_2 pm_2) := hD
            refine lv_aload_n hx hb dX3_make_128 rfl (lv_at hl 0 rfl) ?_
            refine va_get (D := D) (ci := 3) (v := .ref (G 4)) (C := RX3) (T := TX3) (N := 25) hx hb hts iw_X3_make_X3 hown hK hP 0 rfl rfl 6 (by decide) (hts (.fieldLink RX3 23 "SluiceRulesModel" "parts" "[I") (by decide +kernel)) (fun _ h9 => h9) rfl dX3_make_129 ?_
            refine lv_iconst (v := 5) hx hb dX3_make_132 (by decide) ?_
            refine lv_aload_n hx hb dX3_make_133 rfl (lv_at hl 0 rfl) ?_
            refine va_get (D := D) (ci := 3) (v := .int (nI n)) (C := RX3) (T := TX3) (N := 25) hx hb hts iw_X3_make_X3 hown hK hP 0 rfl rfl 4 (by decide) (hts (.fieldLink RX3 64 "SluiceRulesModel" "rules" "I") (by decide +kernel)) (fun _ h9 => h9) rfl dX3_make_134 ?_
            refine lv_imul hx hb dX3_make_137 ?_
            refine lv_iconst (v := 2) hx hb dX3_make_138 (by decide) ?_
            refine lv_iadd hx hb dX3_make_139 ?_
            refine lv_iload hx hb dX3_make_140 (lv_at hl 4 rfl) ?_
            refine my_iast (j := 5 * n + 2) hx hb hK hP hD hS 4 3 rfl rfl (mul52 n) (by omega) (by decide) dX3_make_142 (fun H locs hP hD hS => ?_)
            have hP : va_P D vwCl (mw G Z (nI b) mn (nI n) (nI sN) (nI st_2) fl_2 va_2 (nI T_2 - 1) gv ts tw tm lv sl (upd kd n k_) (upd (upd (upd pt (5 * n) a_) (5 * n + 1) b_) (5 * n + 2) c_) he ct_2 fr to rl pi_2 ph_2 ps_2 pm_2) H := hP
            have hD : va_D (va_A (mw G Z (nI b) mn (nI n) (nI sN) (nI st) fl va tp gv ts tw tm lv sl kd pt he ct fr to rl pi ph ps pm) sz) (mw G Z (nI b) mn (nI n) (nI sN) (nI st_2) fl_2 va_2 (nI T_2 - 1) gv ts tw tm lv sl (upd kd n k_) (upd (upd (upd pt (5 * n) a_) (5 * n + 1) b_) (5 * n + 2) c_) he ct_2 fr to rl pi_2 ph_2 ps_2 pm_2) := hD
            refine lv_aload_n hx hb dX3_make_143 rfl (lv_at hl 0 rfl) ?_
            refine va_get (D := D) (ci := 3) (v := .ref (G 4)) (C := RX3) (T := TX3) (N := 25) hx hb hts iw_X3_make_X3 hown hK hP 0 rfl rfl 6 (by decide) (hts (.fieldLink RX3 23 "SluiceRulesModel" "parts" "[I") (by decide +kernel)) (fun _ h9 => h9) rfl dX3_make_144 ?_
            refine lv_iconst (v := 5) hx hb dX3_make_147 (by decide) ?_
            refine lv_aload_n hx hb dX3_make_148 rfl (lv_at hl 0 rfl) ?_
            refine va_get (D := D) (ci := 3) (v := .int (nI n)) (C := RX3) (T := TX3) (N := 25) hx hb hts iw_X3_make_X3 hown hK hP 0 rfl rfl 4 (by decide) (hts (.fieldLink RX3 64 "SluiceRulesModel" "rules" "I") (by decide +kernel)) (fun _ h9 => h9) rfl dX3_make_149 ?_
            refine lv_imul hx hb dX3_make_152 ?_
            refine lv_iconst (v := 3) hx hb dX3_make_153 (by decide) ?_
            refine lv_iadd hx hb dX3_make_154 ?_
            refine lv_iload hx hb dX3_make_155 (lv_at hl 5 rfl) ?_
            refine my_iast (j := 5 * n + 3) hx hb hK hP hD hS 4 3 rfl rfl (mul53 n) (by omega) (by decide) dX3_make_157 (fun H locs hP hD hS => ?_)
            have hP : va_P D vwCl (mw G Z (nI b) mn (nI n) (nI sN) (nI st_2) fl_2 va_2 (nI T_2 - 1) gv ts tw tm lv sl (upd kd n k_) (upd (upd (upd (upd pt (5 * n) a_) (5 * n + 1) b_) (5 * n + 2) c_) (5 * n + 3) d_) he ct_2 fr to rl pi_2 ph_2 ps_2 pm_2) H := hP
            have hD : va_D (va_A (mw G Z (nI b) mn (nI n) (nI sN) (nI st) fl va tp gv ts tw tm lv sl kd pt he ct fr to rl pi ph ps pm) sz) (mw G Z (nI b) mn (nI n) (nI sN) (nI st_2) fl_2 va_2 (nI T_2 - 1) gv ts tw tm lv sl (upd kd n k_) (upd (upd (upd (upd pt (5 * n) a_) (5 * n + 1) b_) (5 * n + 2) c_) (5 * n + 3) d_) he ct_2 fr to rl pi_2 ph_2 ps_2 pm_2) := hD
            refine lv_aload_n hx hb dX3_make_158 rfl (lv_at hl 0 rfl) ?_
            refine va_get (D := D) (ci := 3) (v := .ref (G 4)) (C := RX3) (T := TX3) (N := 25) hx hb hts iw_X3_make_X3 hown hK hP 0 rfl rfl 6 (by decide) (hts (.fieldLink RX3 23 "SluiceRulesModel" "parts" "[I") (by decide +kernel)) (fun _ h9 => h9) rfl dX3_make_159 ?_
            refine lv_iconst (v := 5) hx hb dX3_make_162 (by decide) ?_
            refine lv_aload_n hx hb dX3_make_163 rfl (lv_at hl 0 rfl) ?_
            refine va_get (D := D) (ci := 3) (v := .int (nI n)) (C := RX3) (T := TX3) (N := 25) hx hb hts iw_X3_make_X3 hown hK hP 0 rfl rfl 4 (by decide) (hts (.fieldLink RX3 64 "SluiceRulesModel" "rules" "I") (by decide +kernel)) (fun _ h9 => h9) rfl dX3_make_164 ?_
            refine lv_imul hx hb dX3_make_167 ?_
            refine lv_iconst (v := 4) hx hb dX3_make_168 (by decide) ?_
            refine lv_iadd hx hb dX3_make_169 ?_
            refine lv_iload hx hb dX3_make_170 (lv_at hl 6 rfl) ?_
            refine my_iast (j := 5 * n + 4) hx hb hK hP hD hS 4 3 rfl rfl (mul54 n) (by omega) (by decide) dX3_make_172 (fun H locs hP hD hS => ?_)
            have hP : va_P D vwCl (mw G Z (nI b) mn (nI n) (nI sN) (nI st_2) fl_2 va_2 (nI T_2 - 1) gv ts tw tm lv sl (upd kd n k_) (upd (upd (upd (upd (upd pt (5 * n) a_) (5 * n + 1) b_) (5 * n + 2) c_) (5 * n + 3) d_) (5 * n + 4) e_) he ct_2 fr to rl pi_2 ph_2 ps_2 pm_2) H := hP
            have hD : va_D (va_A (mw G Z (nI b) mn (nI n) (nI sN) (nI st) fl va tp gv ts tw tm lv sl kd pt he ct fr to rl pi ph ps pm) sz) (mw G Z (nI b) mn (nI n) (nI sN) (nI st_2) fl_2 va_2 (nI T_2 - 1) gv ts tw tm lv sl (upd kd n k_) (upd (upd (upd (upd (upd pt (5 * n) a_) (5 * n + 1) b_) (5 * n + 2) c_) (5 * n + 3) d_) (5 * n + 4) e_) he ct_2 fr to rl pi_2 ph_2 ps_2 pm_2) := hD
            refine lv_aload_n hx hb dX3_make_173 rfl (lv_at hl 0 rfl) ?_
            refine va_get (D := D) (ci := 3) (v := .ref (G 5)) (C := RX3) (T := TX3) (N := 25) hx hb hts iw_X3_make_X3 hown hK hP 0 rfl rfl 7 (by decide) (hts (.fieldLink RX3 26 "SluiceRulesModel" "held" "[J") (by decide +kernel)) (fun _ h9 => h9) rfl dX3_make_174 ?_
            refine lv_aload_n hx hb dX3_make_177 rfl (lv_at hl 0 rfl) ?_
            refine va_get (D := D) (ci := 3) (v := .int (nI n)) (C := RX3) (T := TX3) (N := 25) hx hb hts iw_X3_make_X3 hown hK hP 0 rfl rfl 4 (by decide) (hts (.fieldLink RX3 64 "SluiceRulesModel" "rules" "I") (by decide +kernel)) (fun _ h9 => h9) rfl dX3_make_178 ?_
            refine lv_iload_n hx hb dX3_make_181 rfl (lv_at hl 1 rfl) ?_
            refine lv_bipush (v := 12) hx hb dX3_make_182 (by decide) ?_
            refine lv_icmp_ne (tgt := 194) hx hb dX3_make_184 (by decide) (fun c_184 => ?_) (fun c_184 => ?_)
            · refine lv_lconst (v := 0) hx hb dX3_make_194 (by decide) ?_
              refine my_last (j := n) hx hb hK hP hD hS 5 4 rfl rfl (rfl) (n_l) (by decide) dX3_make_195 (fun H locs hP hD hS => ?_)
              have hP : va_P D vwCl (mw G Z (nI b) mn (nI n) (nI sN) (nI st_2) fl_2 va_2 (nI T_2 - 1) gv ts tw tm lv sl (upd kd n k_) (upd (upd (upd (upd (upd pt (5 * n) a_) (5 * n + 1) b_) (5 * n + 2) c_) (5 * n + 3) d_) (5 * n + 4) e_) (vp_updL he n 0) ct_2 fr to rl pi_2 ph_2 ps_2 pm_2) H := hP
              have hD : va_D (va_A (mw G Z (nI b) mn (nI n) (nI sN) (nI st) fl va tp gv ts tw tm lv sl kd pt he ct fr to rl pi ph ps pm) sz) (mw G Z (nI b) mn (nI n) (nI sN) (nI st_2) fl_2 va_2 (nI T_2 - 1) gv ts tw tm lv sl (upd kd n k_) (upd (upd (upd (upd (upd pt (5 * n) a_) (5 * n + 1) b_) (5 * n + 2) c_) (5 * n + 3) d_) (5 * n + 4) e_) (vp_updL he n 0) ct_2 fr to rl pi_2 ph_2 ps_2 pm_2) := hD
              refine lv_aload_n hx hb dX3_make_196 rfl (lv_at hl 0 rfl) ?_
              refine va_get (D := D) (ci := 3) (v := .ref (G 6)) (C := RX3) (T := TX3) (N := 25) hx hb hts iw_X3_make_X3 hown hK hP 0 rfl rfl 8 (by decide) (hts (.fieldLink RX3 30 "SluiceRulesModel" "counter" "[I") (by decide +kernel)) (fun _ h9 => h9) rfl dX3_make_197 ?_
              refine lv_aload_n hx hb dX3_make_200 rfl (lv_at hl 0 rfl) ?_
              refine va_get (D := D) (ci := 3) (v := .int (nI n)) (C := RX3) (T := TX3) (N := 25) hx hb hts iw_X3_make_X3 hown hK hP 0 rfl rfl 4 (by decide) (hts (.fieldLink RX3 64 "SluiceRulesModel" "rules" "I") (by decide +kernel)) (fun _ h9 => h9) rfl dX3_make_201 ?_
              refine lv_iconst (v := 0) hx hb dX3_make_204 (by decide) ?_
              refine my_iast (j := n) hx hb hK hP hD hS 6 5 rfl rfl (rfl) (n_l) (by decide) dX3_make_205 (fun H locs hP hD hS => ?_)
              have hP : va_P D vwCl (mw G Z (nI b) mn (nI n) (nI sN) (nI st_2) fl_2 va_2 (nI T_2 - 1) gv ts tw tm lv sl (upd kd n k_) (upd (upd (upd (upd (upd pt (5 * n) a_) (5 * n + 1) b_) (5 * n + 2) c_) (5 * n + 3) d_) (5 * n + 4) e_) (vp_updL he n 0) (upd ct_2 n 0) fr to rl pi_2 ph_2 ps_2 pm_2) H := hP
              have hD : va_D (va_A (mw G Z (nI b) mn (nI n) (nI sN) (nI st) fl va tp gv ts tw tm lv sl kd pt he ct fr to rl pi ph ps pm) sz) (mw G Z (nI b) mn (nI n) (nI sN) (nI st_2) fl_2 va_2 (nI T_2 - 1) gv ts tw tm lv sl (upd kd n k_) (upd (upd (upd (upd (upd pt (5 * n) a_) (5 * n + 1) b_) (5 * n + 2) c_) (5 * n + 3) d_) (5 * n + 4) e_) (vp_updL he n 0) (upd ct_2 n 0) fr to rl pi_2 ph_2 ps_2 pm_2) := hD
              refine lv_aload_n hx hb dX3_make_206 rfl (lv_at hl 0 rfl) ?_
              refine lv_dup hx hb dX3_make_207 rfl ?_
              refine va_get (D := D) (ci := 3) (v := .int (nI n)) (C := RX3) (T := TX3) (N := 25) hx hb hts iw_X3_make_X3 hown hK hP 0 rfl rfl 4 (by decide) (hts (.fieldLink RX3 64 "SluiceRulesModel" "rules" "I") (by decide +kernel)) (fun _ h9 => h9) rfl dX3_make_208 ?_
              refine lv_iconst (v := 1) hx hb dX3_make_211 (by decide) ?_
              refine lv_iadd hx hb dX3_make_212 ?_
              refine va_put (D := D) (ci := 3) (v := .int ((nI n) + 1)) (ty := .int) (C := RX3) (T := TX3) (N := 25) hx hb hts iw_X3_make_X3 tyX3 tyX3_ok nmX3 hown hK hP hD hS 0 rfl rfl 4 (by decide) (hts (.fieldLink RX3 64 "SluiceRulesModel" "rules" "I") (by decide +kernel)) (fun _ h9 => h9) rfl (by decide +kernel) rfl rfl (Nat.le_of_ble_eq_true rfl) dX3_make_213 (fun H locs hP hD hS => ?_)
              have hP : va_P D vwCl (mw G Z (nI b) mn ((nI n) + 1) (nI sN) (nI st_2) fl_2 va_2 (nI T_2 - 1) gv ts tw tm lv sl (upd kd n k_) (upd (upd (upd (upd (upd pt (5 * n) a_) (5 * n + 1) b_) (5 * n + 2) c_) (5 * n + 3) d_) (5 * n + 4) e_) (vp_updL he n 0) (upd ct_2 n 0) fr to rl pi_2 ph_2 ps_2 pm_2) H := hP
              have hD : va_D (va_A (mw G Z (nI b) mn (nI n) (nI sN) (nI st) fl va tp gv ts tw tm lv sl kd pt he ct fr to rl pi ph ps pm) sz) (mw G Z (nI b) mn ((nI n) + 1) (nI sN) (nI st_2) fl_2 va_2 (nI T_2 - 1) gv ts tw tm lv sl (upd kd n k_) (upd (upd (upd (upd (upd pt (5 * n) a_) (5 * n + 1) b_) (5 * n + 2) c_) (5 * n + 3) d_) (5 * n + 4) e_) (vp_updL he n 0) (upd ct_2 n 0) fr to rl pi_2 ph_2 ps_2 pm_2) := hD
              refine lv_aload_n hx hb dX3_make_216 rfl (lv_at hl 0 rfl) ?_
              refine va_get (D := D) (ci := 3) (v := .int ((nI n) + 1)) (C := RX3) (T := TX3) (N := 25) hx hb hts iw_X3_make_X3 hown hK hP 0 rfl rfl 4 (by decide) (hts (.fieldLink RX3 64 "SluiceRulesModel" "rules" "I") (by decide +kernel)) (fun _ h9 => h9) rfl dX3_make_217 ?_
              refine lv_iconst (v := 1) hx hb dX3_make_220 (by decide) ?_
              refine lv_isub hx hb dX3_make_221 ?_
              rw [nI_1] at hP hD
              exact absurd c_75 c_184
            · refine lv_aload_n hx hb dX3_make_187 rfl (lv_at hl 0 rfl) ?_
              refine va_get (D := D) (ci := 3) (v := .long va_2) (C := RX3) (T := TX3) (N := 25) hx hb hts iw_X3_make_X3 hown hK hP 0 rfl rfl 15 (by decide) (hts (.fieldLink RX3 92 "SluiceRulesModel" "value" "J") (by decide +kernel)) (fun _ h9 => h9) rfl dX3_make_188 ?_
              refine lv_goto (tgt := 195) hx hb dX3_make_191 (by decide) ?_
              refine my_last (j := n) hx hb hK hP hD hS 5 4 rfl rfl (rfl) (n_l) (by decide) dX3_make_195 (fun H locs hP hD hS => ?_)
              have hP : va_P D vwCl (mw G Z (nI b) mn (nI n) (nI sN) (nI st_2) fl_2 va_2 (nI T_2 - 1) gv ts tw tm lv sl (upd kd n k_) (upd (upd (upd (upd (upd pt (5 * n) a_) (5 * n + 1) b_) (5 * n + 2) c_) (5 * n + 3) d_) (5 * n + 4) e_) (vp_updL he n va_2) ct_2 fr to rl pi_2 ph_2 ps_2 pm_2) H := hP
              have hD : va_D (va_A (mw G Z (nI b) mn (nI n) (nI sN) (nI st) fl va tp gv ts tw tm lv sl kd pt he ct fr to rl pi ph ps pm) sz) (mw G Z (nI b) mn (nI n) (nI sN) (nI st_2) fl_2 va_2 (nI T_2 - 1) gv ts tw tm lv sl (upd kd n k_) (upd (upd (upd (upd (upd pt (5 * n) a_) (5 * n + 1) b_) (5 * n + 2) c_) (5 * n + 3) d_) (5 * n + 4) e_) (vp_updL he n va_2) ct_2 fr to rl pi_2 ph_2 ps_2 pm_2) := hD
              refine lv_aload_n hx hb dX3_make_196 rfl (lv_at hl 0 rfl) ?_
              refine va_get (D := D) (ci := 3) (v := .ref (G 6)) (C := RX3) (T := TX3) (N := 25) hx hb hts iw_X3_make_X3 hown hK hP 0 rfl rfl 8 (by decide) (hts (.fieldLink RX3 30 "SluiceRulesModel" "counter" "[I") (by decide +kernel)) (fun _ h9 => h9) rfl dX3_make_197 ?_
              refine lv_aload_n hx hb dX3_make_200 rfl (lv_at hl 0 rfl) ?_
              refine va_get (D := D) (ci := 3) (v := .int (nI n)) (C := RX3) (T := TX3) (N := 25) hx hb hts iw_X3_make_X3 hown hK hP 0 rfl rfl 4 (by decide) (hts (.fieldLink RX3 64 "SluiceRulesModel" "rules" "I") (by decide +kernel)) (fun _ h9 => h9) rfl dX3_make_201 ?_
              refine lv_iconst (v := 0) hx hb dX3_make_204 (by decide) ?_
              refine my_iast (j := n) hx hb hK hP hD hS 6 5 rfl rfl (rfl) (n_l) (by decide) dX3_make_205 (fun H locs hP hD hS => ?_)
              have hP : va_P D vwCl (mw G Z (nI b) mn (nI n) (nI sN) (nI st_2) fl_2 va_2 (nI T_2 - 1) gv ts tw tm lv sl (upd kd n k_) (upd (upd (upd (upd (upd pt (5 * n) a_) (5 * n + 1) b_) (5 * n + 2) c_) (5 * n + 3) d_) (5 * n + 4) e_) (vp_updL he n va_2) (upd ct_2 n 0) fr to rl pi_2 ph_2 ps_2 pm_2) H := hP
              have hD : va_D (va_A (mw G Z (nI b) mn (nI n) (nI sN) (nI st) fl va tp gv ts tw tm lv sl kd pt he ct fr to rl pi ph ps pm) sz) (mw G Z (nI b) mn (nI n) (nI sN) (nI st_2) fl_2 va_2 (nI T_2 - 1) gv ts tw tm lv sl (upd kd n k_) (upd (upd (upd (upd (upd pt (5 * n) a_) (5 * n + 1) b_) (5 * n + 2) c_) (5 * n + 3) d_) (5 * n + 4) e_) (vp_updL he n va_2) (upd ct_2 n 0) fr to rl pi_2 ph_2 ps_2 pm_2) := hD
              refine lv_aload_n hx hb dX3_make_206 rfl (lv_at hl 0 rfl) ?_
              refine lv_dup hx hb dX3_make_207 rfl ?_
              refine va_get (D := D) (ci := 3) (v := .int (nI n)) (C := RX3) (T := TX3) (N := 25) hx hb hts iw_X3_make_X3 hown hK hP 0 rfl rfl 4 (by decide) (hts (.fieldLink RX3 64 "SluiceRulesModel" "rules" "I") (by decide +kernel)) (fun _ h9 => h9) rfl dX3_make_208 ?_
              refine lv_iconst (v := 1) hx hb dX3_make_211 (by decide) ?_
              refine lv_iadd hx hb dX3_make_212 ?_
              refine va_put (D := D) (ci := 3) (v := .int ((nI n) + 1)) (ty := .int) (C := RX3) (T := TX3) (N := 25) hx hb hts iw_X3_make_X3 tyX3 tyX3_ok nmX3 hown hK hP hD hS 0 rfl rfl 4 (by decide) (hts (.fieldLink RX3 64 "SluiceRulesModel" "rules" "I") (by decide +kernel)) (fun _ h9 => h9) rfl (by decide +kernel) rfl rfl (Nat.le_of_ble_eq_true rfl) dX3_make_213 (fun H locs hP hD hS => ?_)
              have hP : va_P D vwCl (mw G Z (nI b) mn ((nI n) + 1) (nI sN) (nI st_2) fl_2 va_2 (nI T_2 - 1) gv ts tw tm lv sl (upd kd n k_) (upd (upd (upd (upd (upd pt (5 * n) a_) (5 * n + 1) b_) (5 * n + 2) c_) (5 * n + 3) d_) (5 * n + 4) e_) (vp_updL he n va_2) (upd ct_2 n 0) fr to rl pi_2 ph_2 ps_2 pm_2) H := hP
              have hD : va_D (va_A (mw G Z (nI b) mn (nI n) (nI sN) (nI st) fl va tp gv ts tw tm lv sl kd pt he ct fr to rl pi ph ps pm) sz) (mw G Z (nI b) mn ((nI n) + 1) (nI sN) (nI st_2) fl_2 va_2 (nI T_2 - 1) gv ts tw tm lv sl (upd kd n k_) (upd (upd (upd (upd (upd pt (5 * n) a_) (5 * n + 1) b_) (5 * n + 2) c_) (5 * n + 3) d_) (5 * n + 4) e_) (vp_updL he n va_2) (upd ct_2 n 0) fr to rl pi_2 ph_2 ps_2 pm_2) := hD
              refine lv_aload_n hx hb dX3_make_216 rfl (lv_at hl 0 rfl) ?_
              refine va_get (D := D) (ci := 3) (v := .int ((nI n) + 1)) (C := RX3) (T := TX3) (N := 25) hx hb hts iw_X3_make_X3 hown hK hP 0 rfl rfl 4 (by decide) (hts (.fieldLink RX3 64 "SluiceRulesModel" "rules" "I") (by decide +kernel)) (fun _ h9 => h9) rfl dX3_make_217 ?_
              refine lv_iconst (v := 1) hx hb dX3_make_220 (by decide) ?_
              refine lv_isub hx hb dX3_make_221 ?_
              rw [nI_1] at hP hD
              have f_0 : fl_2 = 0 := of_decide_eq_true b_84
              have e_3 : (va_2, (st_2, fl_2, ct_2)) = ev (n, mn, lv, sl, kd, pt, he) 120 a_ b_ (0, 0, ct) := by rw [v_2 f_0]; exact e_2
              exact wrI ((n + 1, upd kd n k_, pt5 pt n a_ b_ c_ d_ e_, vp_updL he n va_2, upd ct_2 n 0, st_2), (fl_2, va_2, nI T_2 - 1, pi_2, ph_2, ps_2, pm_2)) hx hb hr hlk dX3_make_222 hP hD hS (by rw [nI_1, nI_pred]; exact sp_make_h b_9 b_f n_n c_75 e_3 f_0)
          · have b_84 : decide (fl_2 = 0) = false := bI_z (by rw [← b_2]; exact c_84)
            refine lv_aload_n hx hb dX3_make_87 rfl (lv_at hl 0 rfl) ?_
            refine va_get (D := D) (ci := 3) (v := .int fl_2) (C := RX3) (T := TX3) (N := 25) hx hb hts iw_X3_make_X3 hown hK hP 0 rfl rfl 14 (by decide) (hts (.fieldLink RX3 89 "SluiceRulesModel" "failure" "I") (by decide +kernel)) (fun _ h9 => h9) rfl dX3_make_88 ?_
            exact wrI ((n, kd, pt, he, ct_2, st_2), (fl_2, va_2, nI T_2 - 1, pi_2, ph_2, ps_2, pm_2)) hx hb hr hlk dX3_make_91 hP hD hS (sp_make_f b_9 b_f n_n9 c_75 e_2 (of_decide_eq_false b_84))
      · have n_e : n = 40 := (nI_eq (b := 40) (by omega) (by decide)).mp c_66
        refine lv_bipush (v := (-103)) hx hb dX3_make_69 (by decide) ?_
        exact wrI ((n, kd, pt, he, ct, st), (fl, va, tp, pi, ph, ps, pm)) hx hb hr hlk dX3_make_71 hP hD hS (sp_make_r b_9 b_f n_e)
    refine lv_iload_n hx hb dX3_make_15 rfl (lv_at hl 1 rfl) ?_
    refine lv_bipush (v := 8) hx hb dX3_make_16 (by decide) ?_
    refine lv_icmp_ne (tgt := 33) hx hb dX3_make_18 (by decide) (fun c_18 => ?_) (fun c_18 => ?_)
    · refine lv_iload_n hx hb dX3_make_33 rfl (lv_at hl 1 rfl) ?_
      refine lv_bipush (v := 11) hx hb dX3_make_34 (by decide) ?_
      refine lv_icmp_ne (tgt := 46) hx hb dX3_make_36 (by decide) (fun c_36 => ?_) (fun c_36 => ?_)
      · refine lv_iload_n hx hb dX3_make_46 rfl (lv_at hl 1 rfl) ?_
        refine lv_bipush (v := 16) hx hb dX3_make_47 (by decide) ?_
        refine lv_icmp_ne (tgt := 60) hx hb dX3_make_49 (by decide) (fun c_49 => ?_) (fun c_49 => ?_)
        · exact K60 (fi_0 c_18 c_36 c_49)
        · refine lv_iload_n hx hb dX3_make_52 rfl (lv_at hl 2 rfl) ?_
          refine lv_iload_n hx hb dX3_make_53 rfl (lv_at hl 3 rfl) ?_
          refine lv_icmp_le (tgt := 60) hx hb dX3_make_54 (by decide) (fun c_54 => ?_) (fun c_54 => ?_)
          · exact K60 (fi_16 c_49 c_54)
          · refine lv_bipush (v := (-102)) hx hb dX3_make_57 (by decide) ?_
            exact wrI ((n, kd, pt, he, ct, st), (fl, va, tp, pi, ph, ps, pm)) hx hb hr hlk dX3_make_59 hP hD hS (sp_make_o b_9 (fi_16f c_49 c_54))
      · refine lv_iload hx hb dX3_make_39 (lv_at hl 5 rfl) ?_
        refine lv_iload hx hb dX3_make_41 (lv_at hl 6 rfl) ?_
        refine lv_icmp_gt (tgt := 57) hx hb dX3_make_43 (by decide) (fun c_43 => ?_) (fun c_43 => ?_)
        · refine lv_bipush (v := (-102)) hx hb dX3_make_57 (by decide) ?_
          exact wrI ((n, kd, pt, he, ct, st), (fl, va, tp, pi, ph, ps, pm)) hx hb hr hlk dX3_make_59 hP hD hS (sp_make_o b_9 (fi_11f c_36 (by rw [i_le]; rw [i_lt] at c_43; omega)))
        · refine lv_iload_n hx hb dX3_make_46 rfl (lv_at hl 1 rfl) ?_
          refine lv_bipush (v := 16) hx hb dX3_make_47 (by decide) ?_
          refine lv_icmp_ne (tgt := 60) hx hb dX3_make_49 (by decide) (fun c_49 => ?_) (fun c_49 => ?_)
          · exact K60 (fi_11 c_36 (by rw [i_le]; rw [i_lt] at c_43; omega))
          · refine lv_iload_n hx hb dX3_make_52 rfl (lv_at hl 2 rfl) ?_
            refine lv_iload_n hx hb dX3_make_53 rfl (lv_at hl 3 rfl) ?_
            refine lv_icmp_le (tgt := 60) hx hb dX3_make_54 (by decide) (fun c_54 => ?_) (fun c_54 => ?_)
            · exact K60 (absurd (c_36.symm.trans c_49) (by decide))
            · refine lv_bipush (v := (-102)) hx hb dX3_make_57 (by decide) ?_
              exact wrI ((n, kd, pt, he, ct, st), (fl, va, tp, pi, ph, ps, pm)) hx hb hr hlk dX3_make_59 hP hD hS (sp_make_o b_9 (fi_16f c_49 c_54))
    · refine lv_iload hx hb dX3_make_21 (lv_at hl 4 rfl) ?_
      refine lv_iconst (v := 1) hx hb dX3_make_23 (by decide) ?_
      refine lv_sipush (v := 1000) hx hb dX3_make_24 (by decide) ?_
      refine RoI.callS (As := [.int c_, .int 1, .int 1000]) (rest := []) (c_X3_in c_ 1 1000) ⟨hx, hb, hml, hown, hts⟩ (va_cwS 3 hts gX3_make_X3_in rfl rfl rfl (by decide +kernel) ⟨by decide, by decide⟩) hP hK hN rfl hl.1 rfl (Nat.le_of_ble_eq_true rfl) dX3_make_27 ⟨Nat.le_of_ble_eq_true rfl, Nat.le_of_ble_eq_true rfl⟩ (fun r_3 hr_3 => ?_)
      refine lv_if_eq (tgt := 57) hx hb dX3_make_30 (by decide) (fun c_30 => ?_) (fun c_30 => ?_)
      · have b_30 : rgB c_ 1 1000 = false := bI_z (by rw [← hr_3]; exact c_30)
        refine lv_bipush (v := (-102)) hx hb dX3_make_57 (by decide) ?_
        exact wrI ((n, kd, pt, he, ct, st), (fl, va, tp, pi, ph, ps, pm)) hx hb hr hlk dX3_make_59 hP hD hS (sp_make_o b_9 (fi_8f c_18 b_30))
      · have b_30 : rgB c_ 1 1000 = true := bI_n (by rw [← hr_3]; exact c_30)
        refine lv_iload_n hx hb dX3_make_33 rfl (lv_at hl 1 rfl) ?_
        refine lv_bipush (v := 11) hx hb dX3_make_34 (by decide) ?_
        refine lv_icmp_ne (tgt := 46) hx hb dX3_make_36 (by decide) (fun c_36 => ?_) (fun c_36 => ?_)
        · refine lv_iload_n hx hb dX3_make_46 rfl (lv_at hl 1 rfl) ?_
          refine lv_bipush (v := 16) hx hb dX3_make_47 (by decide) ?_
          refine lv_icmp_ne (tgt := 60) hx hb dX3_make_49 (by decide) (fun c_49 => ?_) (fun c_49 => ?_)
          · exact K60 (fi_8 c_18 b_30)
          · refine lv_iload_n hx hb dX3_make_52 rfl (lv_at hl 2 rfl) ?_
            refine lv_iload_n hx hb dX3_make_53 rfl (lv_at hl 3 rfl) ?_
            refine lv_icmp_le (tgt := 60) hx hb dX3_make_54 (by decide) (fun c_54 => ?_) (fun c_54 => ?_)
            · exact K60 (absurd (c_18.symm.trans c_49) (by decide))
            · refine lv_bipush (v := (-102)) hx hb dX3_make_57 (by decide) ?_
              exact wrI ((n, kd, pt, he, ct, st), (fl, va, tp, pi, ph, ps, pm)) hx hb hr hlk dX3_make_59 hP hD hS (sp_make_o b_9 (fi_16f c_49 c_54))
        · refine lv_iload hx hb dX3_make_39 (lv_at hl 5 rfl) ?_
          refine lv_iload hx hb dX3_make_41 (lv_at hl 6 rfl) ?_
          refine lv_icmp_gt (tgt := 57) hx hb dX3_make_43 (by decide) (fun c_43 => ?_) (fun c_43 => ?_)
          · refine lv_bipush (v := (-102)) hx hb dX3_make_57 (by decide) ?_
            exact wrI ((n, kd, pt, he, ct, st), (fl, va, tp, pi, ph, ps, pm)) hx hb hr hlk dX3_make_59 hP hD hS (sp_make_o b_9 (fi_11f c_36 (by rw [i_le]; rw [i_lt] at c_43; omega)))
          · refine lv_iload_n hx hb dX3_make_46 rfl (lv_at hl 1 rfl) ?_
            refine lv_bipush (v := 16) hx hb dX3_make_47 (by decide) ?_
            refine lv_icmp_ne (tgt := 60) hx hb dX3_make_49 (by decide) (fun c_49 => ?_) (fun c_49 => ?_)
            · exact K60 (absurd (c_18.symm.trans c_36) (by decide))
            · refine lv_iload_n hx hb dX3_make_52 rfl (lv_at hl 2 rfl) ?_
              refine lv_iload_n hx hb dX3_make_53 rfl (lv_at hl 3 rfl) ?_
              refine lv_icmp_le (tgt := 60) hx hb dX3_make_54 (by decide) (fun c_54 => ?_) (fun c_54 => ?_)
              · exact K60 (absurd (c_18.symm.trans c_36) (by decide))
              · refine lv_bipush (v := (-102)) hx hb dX3_make_57 (by decide) ?_
                exact wrI ((n, kd, pt, he, ct, st), (fl, va, tp, pi, ph, ps, pm)) hx hb hr hlk dX3_make_59 hP hD hS (sp_make_o b_9 (fi_16f c_49 c_54))
  · have b_9 : knB b n kd k_ a_ b_ c_ = false := bI_z (by rw [← hr_1]; exact c_9)
    refine lv_bipush (v := (-101)) hx hb dX3_make_12 (by decide) ?_
    exact wrI ((n, kd, pt, he, ct, st), (fl, va, tp, pi, ph, ps, pm)) hx hb hr hlk dX3_make_14 hP hD hS (sp_make_u b_9)

theorem iw_X3_flows_X3 : ∀ w ∈ u_ws RX3 TX3 25, w ∈ wsX3_flows := by decide +kernel
set_option maxRecDepth 100000 in
set_option maxHeartbeats 4000000 in
/-- flows -/
theorem c_X3_flows {l : Launch} {D : va_G} {G : Nat → Nat} {Z : Nat → ClassId} {mn fl : Int32} {va gv : Int64} {tp ts tw tm : Int32} {lv sl kd pt : Nat → Int32} {he : Nat → Int64} {ct fr to rl pi ph ps : Nat → Int32} {pm : Nat → Int64} {b n sN st : Nat} (hn40 : n ≤ 40) (hb8 : b ≤ 8) (hW : wfA b n sl kd pt) (hwl : wfL b lv) {k : Nat} (k_l8 : k < 8) (hf1 : inB (fr k) b = true) (hf2 : inB (to k) b = true) (hft : ¬ fr k = to k) (hf3 : inB (rl k) n = true) (h : Int32) : WrI l yX3_flows wsX3_flows (rk 4) D (mty Z) (mw G Z (nI b) mn (nI n) (nI sN) (nI st) fl va tp gv ts tw tm lv sl kd pt he ct fr to rl pi ph ps pm) [.ref (G 0), .int (nI k), .int h] (σ := HS × JK) (fun u => mw G Z (nI b) mn (nI n) (nI sN) (nI u.1.2.2.1) u.2.1 u.2.2.1 u.2.2.2.1 gv u.1.2.2.2.1 u.1.2.2.2.2.1 u.1.2.2.2.2.2 u.1.1 sl kd pt he u.1.2.1 fr to rl u.2.2.2.2.1 u.2.2.2.2.2.1 u.2.2.2.2.2.2.1 u.2.2.2.2.2.2.2) (fun r u => (r, u.1) = (bI (flS (n, mn, sl, kd, pt, he, fr, to, rl) h k (lv, ct, st, ts, tw, tm)).1, (flS (n, mn, sl, kd, pt, he, fr, to, rl) h k (lv, ct, st, ts, tw, tm)).2) ∧ wfL b u.1.1) 0 0 := by
  intro sz
  refine wrEnter (cc := cX3_flows) (maxL := 6) (ret := (some .boolean)) (by decide) rfl (Nat.le_of_ble_eq_true rfl) ?_
  intro p e s m below meth c hx hb hr hml hown hts hlk hP hK hN hsz hD hS hA hin ls hl
  have hown : s.vm.findClass RX3 = some m.cls := hown
  have hl : lv_has ls 6 [(0, .ref (G 0)), (1, .int (nI k)), (2, .int h)] := hl
  have hne : ¬ ix (to k) = ix (fr k) := fun z => hft (by obtain ⟨j1, g1, e1⟩ := inB_of hf1 (by omega); obtain ⟨j2, g2, e2⟩ := inB_of hf2 (by omega); rw [e1, e2] at z ⊢; rw [show ix (nI j2) = j2 from nI_clamp (by omega), show ix (nI j1) = j1 from nI_clamp (by omega)] at z; rw [z])
  refine lv_aload_n hx hb dX3_flows_0 rfl (lv_at hl 0 rfl) ?_
  refine lv_aload_n hx hb dX3_flows_1 rfl (lv_at hl 0 rfl) ?_
  refine va_get (D := D) (ci := 3) (v := .ref (G 9)) (C := RX3) (T := TX3) (N := 25) hx hb hts iw_X3_flows_X3 hown hK hP 0 rfl rfl 12 (by decide) (hts (.fieldLink RX3 39 "SluiceRulesModel" "ruleOf" "[I") (by decide +kernel)) (fun _ h9 => h9) rfl dX3_flows_2 ?_
  refine lv_iload_n hx hb dX3_flows_5 rfl (lv_at hl 1 rfl) ?_
  refine my_iald (j := k) hx hb hK hP 9 8 rfl rfl (rfl) (k_l8) (by decide) dX3_flows_6 ?_
  refine lv_iload_n hx hb dX3_flows_7 rfl (lv_at hl 2 rfl) ?_
  refine WrI.callV (As := [.int (rl k), .int h]) (rest := []) (c_X3_asks hn40 hb8 hW (ptB_in hf3) h) ⟨hx, hb, hml, hown, hts⟩ (cwV 2 hts gX3_flows_X3_asks rfl rfl rfl (by decide +kernel) ⟨by decide, by decide⟩) hP hD hS hA hK hN 0 3 rfl rfl rfl hl.1 rfl (Nat.le_of_ble_eq_true rfl) dX3_flows_8 ⟨Nat.le_of_ble_eq_true rfl, Nat.le_of_ble_eq_true rfl⟩ (fun r_1 ur_1 H locs hr_1 hP hD hS => ?_)
  obtain ⟨st_2, fl_2, va_2, T_2, ct_2, pi_2, ph_2, ps_2, pm_2⟩ := ur_1
  obtain ⟨e_2, v_2, b_2⟩ := hr_1
  have e_2 : ((ev (n, mn, lv, sl, kd, pt, he) 120 (rl k) h (0, 0, ct)).1, (st_2, fl_2, ct_2)) = ev (n, mn, lv, sl, kd, pt, he) 120 (rl k) h (0, 0, ct) := e_2
  have v_2 : fl_2 = 0 → va_2 = (ev (n, mn, lv, sl, kd, pt, he) 120 (rl k) h (0, 0, ct)).1 := v_2
  have hP : va_P D vwCl (mw G Z (nI b) mn (nI n) (nI sN) (nI st_2) fl_2 va_2 (nI T_2 - 1) gv ts tw tm lv sl kd pt he ct_2 fr to rl pi_2 ph_2 ps_2 pm_2) H := hP
  have hD : va_D (va_A (mw G Z (nI b) mn (nI n) (nI sN) (nI st) fl va tp gv ts tw tm lv sl kd pt he ct fr to rl pi ph ps pm) sz) (mw G Z (nI b) mn (nI n) (nI sN) (nI st_2) fl_2 va_2 (nI T_2 - 1) gv ts tw tm lv sl kd pt he ct_2 fr to rl pi_2 ph_2 ps_2 pm_2) := hD
  refine lv_if_ne (tgt := 29) hx hb dX3_flows_11 (by decide) (fun c_11 => ?_) (fun c_11 => ?_)
  · have b_11 : decide (fl_2 = 0) = true := bI_n (by rw [← b_2]; exact c_11)
    have f_0 : fl_2 = 0 := of_decide_eq_true b_11
    have e_3 : (va_2, (st_2, fl_2, ct_2)) = ev (n, mn, lv, sl, kd, pt, he) 120 (rl k) h (0, 0, ct) := by rw [v_2 f_0]; exact e_2
    refine lv_ldc (v := 1000000000) hx hb hown (hts (.constant RX3 71 (1000000000)) (by decide +kernel)) dX3_flows_29 ?_
    refine lv_aload_n hx hb dX3_flows_31 rfl (lv_at hl 0 rfl) ?_
    refine va_get (D := D) (ci := 3) (v := .ref (G 1)) (C := RX3) (T := TX3) (N := 25) hx hb hts iw_X3_flows_X3 hown hK hP 0 rfl rfl 1 (by decide) (hts (.fieldLink RX3 7 "SluiceRulesModel" "levels" "[I") (by decide +kernel)) (fun _ h9 => h9) rfl dX3_flows_32 ?_
    refine lv_aload_n hx hb dX3_flows_35 rfl (lv_at hl 0 rfl) ?_
    refine va_get (D := D) (ci := 3) (v := .ref (G 8)) (C := RX3) (T := TX3) (N := 25) hx hb hts iw_X3_flows_X3 hown hK hP 0 rfl rfl 11 (by decide) (hts (.fieldLink RX3 36 "SluiceRulesModel" "toOf" "[I") (by decide +kernel)) (fun _ h9 => h9) rfl dX3_flows_36 ?_
    refine lv_iload_n hx hb dX3_flows_39 rfl (lv_at hl 1 rfl) ?_
    refine my_iald (j := k) hx hb hK hP 8 7 rfl rfl (rfl) (k_l8) (by decide) dX3_flows_40 ?_
    refine va_iald hx hb hK hP 1 0 rfl rfl (inB_vp.mp (inB_up hb8 hf2)) dX3_flows_41 ?_
    refine lv_isub hx hb dX3_flows_42 ?_
    refine lv_istore_n (lv' := [(3, .int (1000000000 - (lv (ix (to k))))), (0, .ref (G 0)), (1, .int (nI k)), (2, .int h)]) hx hb dX3_flows_43 rfl hl (by decide) rfl (fun ls hl => ?_)
    refine lv_aload_n hx hb dX3_flows_44 rfl (lv_at hl 1 rfl) ?_
    refine va_get (D := D) (ci := 3) (v := .ref (G 1)) (C := RX3) (T := TX3) (N := 25) hx hb hts iw_X3_flows_X3 hown hK hP 0 rfl rfl 1 (by decide) (hts (.fieldLink RX3 7 "SluiceRulesModel" "levels" "[I") (by decide +kernel)) (fun _ h9 => h9) rfl dX3_flows_45 ?_
    refine lv_aload_n hx hb dX3_flows_48 rfl (lv_at hl 1 rfl) ?_
    refine va_get (D := D) (ci := 3) (v := .ref (G 7)) (C := RX3) (T := TX3) (N := 25) hx hb hts iw_X3_flows_X3 hown hK hP 0 rfl rfl 10 (by decide) (hts (.fieldLink RX3 33 "SluiceRulesModel" "fromOf" "[I") (by decide +kernel)) (fun _ h9 => h9) rfl dX3_flows_49 ?_
    refine lv_iload_n hx hb dX3_flows_52 rfl (lv_at hl 2 rfl) ?_
    refine my_iald (j := k) hx hb hK hP 7 6 rfl rfl (rfl) (k_l8) (by decide) dX3_flows_53 ?_
    refine va_iald hx hb hK hP 1 0 rfl rfl (inB_vp.mp (inB_up hb8 hf1)) dX3_flows_54 ?_
    refine lv_iload_n hx hb dX3_flows_55 rfl (lv_at hl 0 rfl) ?_
    refine lv_icmp_ge (tgt := 73) hx hb dX3_flows_56 (by decide) (fun c_56 => ?_) (fun c_56 => ?_)
    · have q56 : 1000000000 - lv (ix (to k)) ≤ lv (ix (fr k)) := c_56
      have q_56 : ¬ lv (ix (fr k)) < 1000000000 - lv (ix (to k)) := by rw [i_lt]; rw [i_le] at q56; omega
      refine lv_iload_n hx hb dX3_flows_73 rfl (lv_at hl 0 rfl) ?_
      refine lv_istore (lv' := [(4, .int (1000000000 - (lv (ix (to k))))), (3, .int (1000000000 - (lv (ix (to k))))), (0, .ref (G 0)), (1, .int (nI k)), (2, .int h)]) hx hb dX3_flows_74 hl (by decide) rfl (fun ls hl => ?_)
      refine lv_aload_n hx hb dX3_flows_76 rfl (lv_at hl 2 rfl) ?_
      refine va_get (D := D) (ci := 3) (v := .long va_2) (C := RX3) (T := TX3) (N := 25) hx hb hts iw_X3_flows_X3 hown hK hP 0 rfl rfl 15 (by decide) (hts (.fieldLink RX3 92 "SluiceRulesModel" "value" "J") (by decide +kernel)) (fun _ h9 => h9) rfl dX3_flows_77 ?_
      refine lv_lconst (v := 0) hx hb dX3_flows_80 (by decide) ?_
      refine W.lcmp hx hb dX3_flows_81 ?_
      refine lv_if_ge (tgt := 89) hx hb dX3_flows_82 (by decide) (fun c_82 => ?_) (fun c_82 => ?_)
      · have c_82 := lc_gep c_82
        refine lv_aload_n hx hb dX3_flows_89 rfl (lv_at hl 2 rfl) ?_
        refine va_get (D := D) (ci := 3) (v := .long va_2) (C := RX3) (T := TX3) (N := 25) hx hb hts iw_X3_flows_X3 hown hK hP 0 rfl rfl 15 (by decide) (hts (.fieldLink RX3 92 "SluiceRulesModel" "value" "J") (by decide +kernel)) (fun _ h9 => h9) rfl dX3_flows_90 ?_
        refine lv_iload hx hb dX3_flows_93 (lv_at hl 0 rfl) ?_
        refine lv_i2l hx hb dX3_flows_95 rfl ?_
        refine W.lcmp hx hb dX3_flows_96 ?_
        refine lv_if_le (tgt := 105) hx hb dX3_flows_97 (by decide) (fun c_97 => ?_) (fun c_97 => ?_)
        · have c_97 := lc_lep c_97
          refine lv_aload_n hx hb dX3_flows_105 rfl (lv_at hl 2 rfl) ?_
          refine va_get (D := D) (ci := 3) (v := .long va_2) (C := RX3) (T := TX3) (N := 25) hx hb hts iw_X3_flows_X3 hown hK hP 0 rfl rfl 15 (by decide) (hts (.fieldLink RX3 92 "SluiceRulesModel" "value" "J") (by decide +kernel)) (fun _ h9 => h9) rfl dX3_flows_106 ?_
          refine lv_l2i hx hb dX3_flows_109 rfl ?_
          refine lv_topi (fun am9 eam9 => ?_)
          have eam9 : am9 = amt (lv (ix (fr k))) (lv (ix (to k))) va_2 := by rw [eam9, amt, if_neg c_82, if_neg q_56, if_neg c_97]
          subst eam9
          refine lv_istore (lv' := [(5, .int (amt (lv (ix (fr k))) (lv (ix (to k))) va_2)), (4, .int (1000000000 - (lv (ix (to k))))), (3, .int (1000000000 - (lv (ix (to k))))), (0, .ref (G 0)), (1, .int (nI k)), (2, .int h)]) hx hb dX3_flows_110 hl (by decide) rfl (fun ls hl => ?_)
          refine lv_aload_n hx hb dX3_flows_112 rfl (lv_at hl 3 rfl) ?_
          refine va_get (D := D) (ci := 3) (v := .ref (G 1)) (C := RX3) (T := TX3) (N := 25) hx hb hts iw_X3_flows_X3 hown hK hP 0 rfl rfl 1 (by decide) (hts (.fieldLink RX3 7 "SluiceRulesModel" "levels" "[I") (by decide +kernel)) (fun _ h9 => h9) rfl dX3_flows_113 ?_
          refine lv_aload_n hx hb dX3_flows_116 rfl (lv_at hl 3 rfl) ?_
          refine va_get (D := D) (ci := 3) (v := .ref (G 7)) (C := RX3) (T := TX3) (N := 25) hx hb hts iw_X3_flows_X3 hown hK hP 0 rfl rfl 10 (by decide) (hts (.fieldLink RX3 33 "SluiceRulesModel" "fromOf" "[I") (by decide +kernel)) (fun _ h9 => h9) rfl dX3_flows_117 ?_
          refine lv_iload_n hx hb dX3_flows_120 rfl (lv_at hl 4 rfl) ?_
          refine my_iald (j := k) hx hb hK hP 7 6 rfl rfl (rfl) (k_l8) (by decide) dX3_flows_121 ?_
          refine lv_dup2_11 hx hb dX3_flows_122 rfl rfl ?_
          refine va_iald hx hb hK hP 1 0 rfl rfl (inB_vp.mp (inB_up hb8 hf1)) dX3_flows_123 ?_
          refine lv_iload hx hb dX3_flows_124 (lv_at hl 0 rfl) ?_
          refine lv_isub hx hb dX3_flows_126 ?_
          refine va_iast hx hb hK hP hD hS 1 0 rfl rfl (inB_vp.mp (inB_up hb8 hf1)) dX3_flows_127 (fun H locs hP hD hS => ?_)
          have hP : va_P D vwCl (mw G Z (nI b) mn (nI n) (nI sN) (nI st_2) fl_2 va_2 (nI T_2 - 1) gv ts tw tm (upd lv (ix (fr k)) ((lv (ix (fr k))) - (amt (lv (ix (fr k))) (lv (ix (to k))) va_2))) sl kd pt he ct_2 fr to rl pi_2 ph_2 ps_2 pm_2) H := hP
          have hD : va_D (va_A (mw G Z (nI b) mn (nI n) (nI sN) (nI st) fl va tp gv ts tw tm lv sl kd pt he ct fr to rl pi ph ps pm) sz) (mw G Z (nI b) mn (nI n) (nI sN) (nI st_2) fl_2 va_2 (nI T_2 - 1) gv ts tw tm (upd lv (ix (fr k)) ((lv (ix (fr k))) - (amt (lv (ix (fr k))) (lv (ix (to k))) va_2))) sl kd pt he ct_2 fr to rl pi_2 ph_2 ps_2 pm_2) := hD
          refine lv_aload_n hx hb dX3_flows_128 rfl (lv_at hl 3 rfl) ?_
          refine va_get (D := D) (ci := 3) (v := .ref (G 1)) (C := RX3) (T := TX3) (N := 25) hx hb hts iw_X3_flows_X3 hown hK hP 0 rfl rfl 1 (by decide) (hts (.fieldLink RX3 7 "SluiceRulesModel" "levels" "[I") (by decide +kernel)) (fun _ h9 => h9) rfl dX3_flows_129 ?_
          refine lv_aload_n hx hb dX3_flows_132 rfl (lv_at hl 3 rfl) ?_
          refine va_get (D := D) (ci := 3) (v := .ref (G 8)) (C := RX3) (T := TX3) (N := 25) hx hb hts iw_X3_flows_X3 hown hK hP 0 rfl rfl 11 (by decide) (hts (.fieldLink RX3 36 "SluiceRulesModel" "toOf" "[I") (by decide +kernel)) (fun _ h9 => h9) rfl dX3_flows_133 ?_
          refine lv_iload_n hx hb dX3_flows_136 rfl (lv_at hl 4 rfl) ?_
          refine my_iald (j := k) hx hb hK hP 8 7 rfl rfl (rfl) (k_l8) (by decide) dX3_flows_137 ?_
          refine lv_dup2_11 hx hb dX3_flows_138 rfl rfl ?_
          refine va_iald hx hb hK hP 1 0 rfl rfl (inB_vp.mp (inB_up hb8 hf2)) dX3_flows_139 ?_
          refine lv_iload hx hb dX3_flows_140 (lv_at hl 0 rfl) ?_
          refine lv_iadd hx hb dX3_flows_142 ?_
          refine va_iast hx hb hK hP hD hS 1 0 rfl rfl (inB_vp.mp (inB_up hb8 hf2)) dX3_flows_143 (fun H locs hP hD hS => ?_)
          have hP : va_P D vwCl (mw G Z (nI b) mn (nI n) (nI sN) (nI st_2) fl_2 va_2 (nI T_2 - 1) gv ts tw tm (upd (upd lv (ix (fr k)) ((lv (ix (fr k))) - (amt (lv (ix (fr k))) (lv (ix (to k))) va_2))) (ix (to k)) (((upd lv (ix (fr k)) ((lv (ix (fr k))) - (amt (lv (ix (fr k))) (lv (ix (to k))) va_2))) (ix (to k))) + (amt (lv (ix (fr k))) (lv (ix (to k))) va_2))) sl kd pt he ct_2 fr to rl pi_2 ph_2 ps_2 pm_2) H := hP
          have hD : va_D (va_A (mw G Z (nI b) mn (nI n) (nI sN) (nI st) fl va tp gv ts tw tm lv sl kd pt he ct fr to rl pi ph ps pm) sz) (mw G Z (nI b) mn (nI n) (nI sN) (nI st_2) fl_2 va_2 (nI T_2 - 1) gv ts tw tm (upd (upd lv (ix (fr k)) ((lv (ix (fr k))) - (amt (lv (ix (fr k))) (lv (ix (to k))) va_2))) (ix (to k)) (((upd lv (ix (fr k)) ((lv (ix (fr k))) - (amt (lv (ix (fr k))) (lv (ix (to k))) va_2))) (ix (to k))) + (amt (lv (ix (fr k))) (lv (ix (to k))) va_2))) sl kd pt he ct_2 fr to rl pi_2 ph_2 ps_2 pm_2) := hD
          refine lv_aload_n hx hb dX3_flows_144 rfl (lv_at hl 3 rfl) ?_
          refine lv_iload hx hb dX3_flows_145 (lv_at hl 0 rfl) ?_
          refine va_put (D := D) (ci := 3) (v := .int (amt (lv (ix (fr k))) (lv (ix (to k))) va_2)) (ty := .int) (C := RX3) (T := TX3) (N := 25) hx hb hts iw_X3_flows_X3 tyX3 tyX3_ok nmX3 hown hK hP hD hS 0 rfl rfl 24 (by decide) (hts (.fieldLink RX3 155 "SluiceRulesModel" "toldMuch" "I") (by decide +kernel)) (fun _ h9 => h9) rfl (by decide +kernel) rfl rfl (Nat.le_of_ble_eq_true rfl) dX3_flows_147 (fun H locs hP hD hS => ?_)
          have hP : va_P D vwCl (mw G Z (nI b) mn (nI n) (nI sN) (nI st_2) fl_2 va_2 (nI T_2 - 1) gv ts tw (amt (lv (ix (fr k))) (lv (ix (to k))) va_2) (upd (upd lv (ix (fr k)) ((lv (ix (fr k))) - (amt (lv (ix (fr k))) (lv (ix (to k))) va_2))) (ix (to k)) (((upd lv (ix (fr k)) ((lv (ix (fr k))) - (amt (lv (ix (fr k))) (lv (ix (to k))) va_2))) (ix (to k))) + (amt (lv (ix (fr k))) (lv (ix (to k))) va_2))) sl kd pt he ct_2 fr to rl pi_2 ph_2 ps_2 pm_2) H := hP
          have hD : va_D (va_A (mw G Z (nI b) mn (nI n) (nI sN) (nI st) fl va tp gv ts tw tm lv sl kd pt he ct fr to rl pi ph ps pm) sz) (mw G Z (nI b) mn (nI n) (nI sN) (nI st_2) fl_2 va_2 (nI T_2 - 1) gv ts tw (amt (lv (ix (fr k))) (lv (ix (to k))) va_2) (upd (upd lv (ix (fr k)) ((lv (ix (fr k))) - (amt (lv (ix (fr k))) (lv (ix (to k))) va_2))) (ix (to k)) (((upd lv (ix (fr k)) ((lv (ix (fr k))) - (amt (lv (ix (fr k))) (lv (ix (to k))) va_2))) (ix (to k))) + (amt (lv (ix (fr k))) (lv (ix (to k))) va_2))) sl kd pt he ct_2 fr to rl pi_2 ph_2 ps_2 pm_2) := hD
          refine lv_iconst (v := 1) hx hb dX3_flows_150 (by decide) ?_
          exact wrZ (((sp_over lv (ix (fr k)) (ix (to k)) va_2).2, ct_2, st_2, ts, tw, (sp_over lv (ix (fr k)) (ix (to k)) va_2).1), (fl_2, va_2, nI T_2 - 1, pi_2, ph_2, ps_2, pm_2)) hx hb hr hlk dX3_flows_151 nar1 hP hD hS ⟨by rw [flS_t (st := st) (fr := fr) (to := to) (ts := ts) (tw := tw) (tm := tm) e_3 f_0]; rfl, over_wfL hwl (inB_ix hf1) (inB_ix hf2) hne⟩
        · have c_97 := lc_len c_97
          refine lv_iload hx hb dX3_flows_100 (lv_at hl 0 rfl) ?_
          refine lv_goto (tgt := 110) hx hb dX3_flows_102 (by decide) ?_
          refine lv_topi (fun am9 eam9 => ?_)
          have eam9 : am9 = amt (lv (ix (fr k))) (lv (ix (to k))) va_2 := by rw [eam9, amt, if_neg c_82, if_neg q_56, if_pos c_97]
          subst eam9
          refine lv_istore (lv' := [(5, .int (amt (lv (ix (fr k))) (lv (ix (to k))) va_2)), (4, .int (1000000000 - (lv (ix (to k))))), (3, .int (1000000000 - (lv (ix (to k))))), (0, .ref (G 0)), (1, .int (nI k)), (2, .int h)]) hx hb dX3_flows_110 hl (by decide) rfl (fun ls hl => ?_)
          refine lv_aload_n hx hb dX3_flows_112 rfl (lv_at hl 3 rfl) ?_
          refine va_get (D := D) (ci := 3) (v := .ref (G 1)) (C := RX3) (T := TX3) (N := 25) hx hb hts iw_X3_flows_X3 hown hK hP 0 rfl rfl 1 (by decide) (hts (.fieldLink RX3 7 "SluiceRulesModel" "levels" "[I") (by decide +kernel)) (fun _ h9 => h9) rfl dX3_flows_113 ?_
          refine lv_aload_n hx hb dX3_flows_116 rfl (lv_at hl 3 rfl) ?_
          refine va_get (D := D) (ci := 3) (v := .ref (G 7)) (C := RX3) (T := TX3) (N := 25) hx hb hts iw_X3_flows_X3 hown hK hP 0 rfl rfl 10 (by decide) (hts (.fieldLink RX3 33 "SluiceRulesModel" "fromOf" "[I") (by decide +kernel)) (fun _ h9 => h9) rfl dX3_flows_117 ?_
          refine lv_iload_n hx hb dX3_flows_120 rfl (lv_at hl 4 rfl) ?_
          refine my_iald (j := k) hx hb hK hP 7 6 rfl rfl (rfl) (k_l8) (by decide) dX3_flows_121 ?_
          refine lv_dup2_11 hx hb dX3_flows_122 rfl rfl ?_
          refine va_iald hx hb hK hP 1 0 rfl rfl (inB_vp.mp (inB_up hb8 hf1)) dX3_flows_123 ?_
          refine lv_iload hx hb dX3_flows_124 (lv_at hl 0 rfl) ?_
          refine lv_isub hx hb dX3_flows_126 ?_
          refine va_iast hx hb hK hP hD hS 1 0 rfl rfl (inB_vp.mp (inB_up hb8 hf1)) dX3_flows_127 (fun H locs hP hD hS => ?_)
          have hP : va_P D vwCl (mw G Z (nI b) mn (nI n) (nI sN) (nI st_2) fl_2 va_2 (nI T_2 - 1) gv ts tw tm (upd lv (ix (fr k)) ((lv (ix (fr k))) - (amt (lv (ix (fr k))) (lv (ix (to k))) va_2))) sl kd pt he ct_2 fr to rl pi_2 ph_2 ps_2 pm_2) H := hP
          have hD : va_D (va_A (mw G Z (nI b) mn (nI n) (nI sN) (nI st) fl va tp gv ts tw tm lv sl kd pt he ct fr to rl pi ph ps pm) sz) (mw G Z (nI b) mn (nI n) (nI sN) (nI st_2) fl_2 va_2 (nI T_2 - 1) gv ts tw tm (upd lv (ix (fr k)) ((lv (ix (fr k))) - (amt (lv (ix (fr k))) (lv (ix (to k))) va_2))) sl kd pt he ct_2 fr to rl pi_2 ph_2 ps_2 pm_2) := hD
          refine lv_aload_n hx hb dX3_flows_128 rfl (lv_at hl 3 rfl) ?_
          refine va_get (D := D) (ci := 3) (v := .ref (G 1)) (C := RX3) (T := TX3) (N := 25) hx hb hts iw_X3_flows_X3 hown hK hP 0 rfl rfl 1 (by decide) (hts (.fieldLink RX3 7 "SluiceRulesModel" "levels" "[I") (by decide +kernel)) (fun _ h9 => h9) rfl dX3_flows_129 ?_
          refine lv_aload_n hx hb dX3_flows_132 rfl (lv_at hl 3 rfl) ?_
          refine va_get (D := D) (ci := 3) (v := .ref (G 8)) (C := RX3) (T := TX3) (N := 25) hx hb hts iw_X3_flows_X3 hown hK hP 0 rfl rfl 11 (by decide) (hts (.fieldLink RX3 36 "SluiceRulesModel" "toOf" "[I") (by decide +kernel)) (fun _ h9 => h9) rfl dX3_flows_133 ?_
          refine lv_iload_n hx hb dX3_flows_136 rfl (lv_at hl 4 rfl) ?_
          refine my_iald (j := k) hx hb hK hP 8 7 rfl rfl (rfl) (k_l8) (by decide) dX3_flows_137 ?_
          refine lv_dup2_11 hx hb dX3_flows_138 rfl rfl ?_
          refine va_iald hx hb hK hP 1 0 rfl rfl (inB_vp.mp (inB_up hb8 hf2)) dX3_flows_139 ?_
          refine lv_iload hx hb dX3_flows_140 (lv_at hl 0 rfl) ?_
          refine lv_iadd hx hb dX3_flows_142 ?_
          refine va_iast hx hb hK hP hD hS 1 0 rfl rfl (inB_vp.mp (inB_up hb8 hf2)) dX3_flows_143 (fun H locs hP hD hS => ?_)
          have hP : va_P D vwCl (mw G Z (nI b) mn (nI n) (nI sN) (nI st_2) fl_2 va_2 (nI T_2 - 1) gv ts tw tm (upd (upd lv (ix (fr k)) ((lv (ix (fr k))) - (amt (lv (ix (fr k))) (lv (ix (to k))) va_2))) (ix (to k)) (((upd lv (ix (fr k)) ((lv (ix (fr k))) - (amt (lv (ix (fr k))) (lv (ix (to k))) va_2))) (ix (to k))) + (amt (lv (ix (fr k))) (lv (ix (to k))) va_2))) sl kd pt he ct_2 fr to rl pi_2 ph_2 ps_2 pm_2) H := hP
          have hD : va_D (va_A (mw G Z (nI b) mn (nI n) (nI sN) (nI st) fl va tp gv ts tw tm lv sl kd pt he ct fr to rl pi ph ps pm) sz) (mw G Z (nI b) mn (nI n) (nI sN) (nI st_2) fl_2 va_2 (nI T_2 - 1) gv ts tw tm (upd (upd lv (ix (fr k)) ((lv (ix (fr k))) - (amt (lv (ix (fr k))) (lv (ix (to k))) va_2))) (ix (to k)) (((upd lv (ix (fr k)) ((lv (ix (fr k))) - (amt (lv (ix (fr k))) (lv (ix (to k))) va_2))) (ix (to k))) + (amt (lv (ix (fr k))) (lv (ix (to k))) va_2))) sl kd pt he ct_2 fr to rl pi_2 ph_2 ps_2 pm_2) := hD
          refine lv_aload_n hx hb dX3_flows_144 rfl (lv_at hl 3 rfl) ?_
          refine lv_iload hx hb dX3_flows_145 (lv_at hl 0 rfl) ?_
          refine va_put (D := D) (ci := 3) (v := .int (amt (lv (ix (fr k))) (lv (ix (to k))) va_2)) (ty := .int) (C := RX3) (T := TX3) (N := 25) hx hb hts iw_X3_flows_X3 tyX3 tyX3_ok nmX3 hown hK hP hD hS 0 rfl rfl 24 (by decide) (hts (.fieldLink RX3 155 "SluiceRulesModel" "toldMuch" "I") (by decide +kernel)) (fun _ h9 => h9) rfl (by decide +kernel) rfl rfl (Nat.le_of_ble_eq_true rfl) dX3_flows_147 (fun H locs hP hD hS => ?_)
          have hP : va_P D vwCl (mw G Z (nI b) mn (nI n) (nI sN) (nI st_2) fl_2 va_2 (nI T_2 - 1) gv ts tw (amt (lv (ix (fr k))) (lv (ix (to k))) va_2) (upd (upd lv (ix (fr k)) ((lv (ix (fr k))) - (amt (lv (ix (fr k))) (lv (ix (to k))) va_2))) (ix (to k)) (((upd lv (ix (fr k)) ((lv (ix (fr k))) - (amt (lv (ix (fr k))) (lv (ix (to k))) va_2))) (ix (to k))) + (amt (lv (ix (fr k))) (lv (ix (to k))) va_2))) sl kd pt he ct_2 fr to rl pi_2 ph_2 ps_2 pm_2) H := hP
          have hD : va_D (va_A (mw G Z (nI b) mn (nI n) (nI sN) (nI st) fl va tp gv ts tw tm lv sl kd pt he ct fr to rl pi ph ps pm) sz) (mw G Z (nI b) mn (nI n) (nI sN) (nI st_2) fl_2 va_2 (nI T_2 - 1) gv ts tw (amt (lv (ix (fr k))) (lv (ix (to k))) va_2) (upd (upd lv (ix (fr k)) ((lv (ix (fr k))) - (amt (lv (ix (fr k))) (lv (ix (to k))) va_2))) (ix (to k)) (((upd lv (ix (fr k)) ((lv (ix (fr k))) - (amt (lv (ix (fr k))) (lv (ix (to k))) va_2))) (ix (to k))) + (amt (lv (ix (fr k))) (lv (ix (to k))) va_2))) sl kd pt he ct_2 fr to rl pi_2 ph_2 ps_2 pm_2) := hD
          refine lv_iconst (v := 1) hx hb dX3_flows_150 (by decide) ?_
          exact wrZ (((sp_over lv (ix (fr k)) (ix (to k)) va_2).2, ct_2, st_2, ts, tw, (sp_over lv (ix (fr k)) (ix (to k)) va_2).1), (fl_2, va_2, nI T_2 - 1, pi_2, ph_2, ps_2, pm_2)) hx hb hr hlk dX3_flows_151 nar1 hP hD hS ⟨by rw [flS_t (st := st) (fr := fr) (to := to) (ts := ts) (tw := tw) (tm := tm) e_3 f_0]; rfl, over_wfL hwl (inB_ix hf1) (inB_ix hf2) hne⟩
      · have c_82 := lc_gen c_82
        refine lv_iconst (v := 0) hx hb dX3_flows_85 (by decide) ?_
        refine lv_goto (tgt := 110) hx hb dX3_flows_86 (by decide) ?_
        refine lv_topi (fun am9 eam9 => ?_)
        have eam9 : am9 = amt (lv (ix (fr k))) (lv (ix (to k))) va_2 := by rw [eam9, amt, if_pos c_82]
        subst eam9
        refine lv_istore (lv' := [(5, .int (amt (lv (ix (fr k))) (lv (ix (to k))) va_2)), (4, .int (1000000000 - (lv (ix (to k))))), (3, .int (1000000000 - (lv (ix (to k))))), (0, .ref (G 0)), (1, .int (nI k)), (2, .int h)]) hx hb dX3_flows_110 hl (by decide) rfl (fun ls hl => ?_)
        refine lv_aload_n hx hb dX3_flows_112 rfl (lv_at hl 3 rfl) ?_
        refine va_get (D := D) (ci := 3) (v := .ref (G 1)) (C := RX3) (T := TX3) (N := 25) hx hb hts iw_X3_flows_X3 hown hK hP 0 rfl rfl 1 (by decide) (hts (.fieldLink RX3 7 "SluiceRulesModel" "levels" "[I") (by decide +kernel)) (fun _ h9 => h9) rfl dX3_flows_113 ?_
        refine lv_aload_n hx hb dX3_flows_116 rfl (lv_at hl 3 rfl) ?_
        refine va_get (D := D) (ci := 3) (v := .ref (G 7)) (C := RX3) (T := TX3) (N := 25) hx hb hts iw_X3_flows_X3 hown hK hP 0 rfl rfl 10 (by decide) (hts (.fieldLink RX3 33 "SluiceRulesModel" "fromOf" "[I") (by decide +kernel)) (fun _ h9 => h9) rfl dX3_flows_117 ?_
        refine lv_iload_n hx hb dX3_flows_120 rfl (lv_at hl 4 rfl) ?_
        refine my_iald (j := k) hx hb hK hP 7 6 rfl rfl (rfl) (k_l8) (by decide) dX3_flows_121 ?_
        refine lv_dup2_11 hx hb dX3_flows_122 rfl rfl ?_
        refine va_iald hx hb hK hP 1 0 rfl rfl (inB_vp.mp (inB_up hb8 hf1)) dX3_flows_123 ?_
        refine lv_iload hx hb dX3_flows_124 (lv_at hl 0 rfl) ?_
        refine lv_isub hx hb dX3_flows_126 ?_
        refine va_iast hx hb hK hP hD hS 1 0 rfl rfl (inB_vp.mp (inB_up hb8 hf1)) dX3_flows_127 (fun H locs hP hD hS => ?_)
        have hP : va_P D vwCl (mw G Z (nI b) mn (nI n) (nI sN) (nI st_2) fl_2 va_2 (nI T_2 - 1) gv ts tw tm (upd lv (ix (fr k)) ((lv (ix (fr k))) - (amt (lv (ix (fr k))) (lv (ix (to k))) va_2))) sl kd pt he ct_2 fr to rl pi_2 ph_2 ps_2 pm_2) H := hP
        have hD : va_D (va_A (mw G Z (nI b) mn (nI n) (nI sN) (nI st) fl va tp gv ts tw tm lv sl kd pt he ct fr to rl pi ph ps pm) sz) (mw G Z (nI b) mn (nI n) (nI sN) (nI st_2) fl_2 va_2 (nI T_2 - 1) gv ts tw tm (upd lv (ix (fr k)) ((lv (ix (fr k))) - (amt (lv (ix (fr k))) (lv (ix (to k))) va_2))) sl kd pt he ct_2 fr to rl pi_2 ph_2 ps_2 pm_2) := hD
        refine lv_aload_n hx hb dX3_flows_128 rfl (lv_at hl 3 rfl) ?_
        refine va_get (D := D) (ci := 3) (v := .ref (G 1)) (C := RX3) (T := TX3) (N := 25) hx hb hts iw_X3_flows_X3 hown hK hP 0 rfl rfl 1 (by decide) (hts (.fieldLink RX3 7 "SluiceRulesModel" "levels" "[I") (by decide +kernel)) (fun _ h9 => h9) rfl dX3_flows_129 ?_
        refine lv_aload_n hx hb dX3_flows_132 rfl (lv_at hl 3 rfl) ?_
        refine va_get (D := D) (ci := 3) (v := .ref (G 8)) (C := RX3) (T := TX3) (N := 25) hx hb hts iw_X3_flows_X3 hown hK hP 0 rfl rfl 11 (by decide) (hts (.fieldLink RX3 36 "SluiceRulesModel" "toOf" "[I") (by decide +kernel)) (fun _ h9 => h9) rfl dX3_flows_133 ?_
        refine lv_iload_n hx hb dX3_flows_136 rfl (lv_at hl 4 rfl) ?_
        refine my_iald (j := k) hx hb hK hP 8 7 rfl rfl (rfl) (k_l8) (by decide) dX3_flows_137 ?_
        refine lv_dup2_11 hx hb dX3_flows_138 rfl rfl ?_
        refine va_iald hx hb hK hP 1 0 rfl rfl (inB_vp.mp (inB_up hb8 hf2)) dX3_flows_139 ?_
        refine lv_iload hx hb dX3_flows_140 (lv_at hl 0 rfl) ?_
        refine lv_iadd hx hb dX3_flows_142 ?_
        refine va_iast hx hb hK hP hD hS 1 0 rfl rfl (inB_vp.mp (inB_up hb8 hf2)) dX3_flows_143 (fun H locs hP hD hS => ?_)
        have hP : va_P D vwCl (mw G Z (nI b) mn (nI n) (nI sN) (nI st_2) fl_2 va_2 (nI T_2 - 1) gv ts tw tm (upd (upd lv (ix (fr k)) ((lv (ix (fr k))) - (amt (lv (ix (fr k))) (lv (ix (to k))) va_2))) (ix (to k)) (((upd lv (ix (fr k)) ((lv (ix (fr k))) - (amt (lv (ix (fr k))) (lv (ix (to k))) va_2))) (ix (to k))) + (amt (lv (ix (fr k))) (lv (ix (to k))) va_2))) sl kd pt he ct_2 fr to rl pi_2 ph_2 ps_2 pm_2) H := hP
        have hD : va_D (va_A (mw G Z (nI b) mn (nI n) (nI sN) (nI st) fl va tp gv ts tw tm lv sl kd pt he ct fr to rl pi ph ps pm) sz) (mw G Z (nI b) mn (nI n) (nI sN) (nI st_2) fl_2 va_2 (nI T_2 - 1) gv ts tw tm (upd (upd lv (ix (fr k)) ((lv (ix (fr k))) - (amt (lv (ix (fr k))) (lv (ix (to k))) va_2))) (ix (to k)) (((upd lv (ix (fr k)) ((lv (ix (fr k))) - (amt (lv (ix (fr k))) (lv (ix (to k))) va_2))) (ix (to k))) + (amt (lv (ix (fr k))) (lv (ix (to k))) va_2))) sl kd pt he ct_2 fr to rl pi_2 ph_2 ps_2 pm_2) := hD
        refine lv_aload_n hx hb dX3_flows_144 rfl (lv_at hl 3 rfl) ?_
        refine lv_iload hx hb dX3_flows_145 (lv_at hl 0 rfl) ?_
        refine va_put (D := D) (ci := 3) (v := .int (amt (lv (ix (fr k))) (lv (ix (to k))) va_2)) (ty := .int) (C := RX3) (T := TX3) (N := 25) hx hb hts iw_X3_flows_X3 tyX3 tyX3_ok nmX3 hown hK hP hD hS 0 rfl rfl 24 (by decide) (hts (.fieldLink RX3 155 "SluiceRulesModel" "toldMuch" "I") (by decide +kernel)) (fun _ h9 => h9) rfl (by decide +kernel) rfl rfl (Nat.le_of_ble_eq_true rfl) dX3_flows_147 (fun H locs hP hD hS => ?_)
        have hP : va_P D vwCl (mw G Z (nI b) mn (nI n) (nI sN) (nI st_2) fl_2 va_2 (nI T_2 - 1) gv ts tw (amt (lv (ix (fr k))) (lv (ix (to k))) va_2) (upd (upd lv (ix (fr k)) ((lv (ix (fr k))) - (amt (lv (ix (fr k))) (lv (ix (to k))) va_2))) (ix (to k)) (((upd lv (ix (fr k)) ((lv (ix (fr k))) - (amt (lv (ix (fr k))) (lv (ix (to k))) va_2))) (ix (to k))) + (amt (lv (ix (fr k))) (lv (ix (to k))) va_2))) sl kd pt he ct_2 fr to rl pi_2 ph_2 ps_2 pm_2) H := hP
        have hD : va_D (va_A (mw G Z (nI b) mn (nI n) (nI sN) (nI st) fl va tp gv ts tw tm lv sl kd pt he ct fr to rl pi ph ps pm) sz) (mw G Z (nI b) mn (nI n) (nI sN) (nI st_2) fl_2 va_2 (nI T_2 - 1) gv ts tw (amt (lv (ix (fr k))) (lv (ix (to k))) va_2) (upd (upd lv (ix (fr k)) ((lv (ix (fr k))) - (amt (lv (ix (fr k))) (lv (ix (to k))) va_2))) (ix (to k)) (((upd lv (ix (fr k)) ((lv (ix (fr k))) - (amt (lv (ix (fr k))) (lv (ix (to k))) va_2))) (ix (to k))) + (amt (lv (ix (fr k))) (lv (ix (to k))) va_2))) sl kd pt he ct_2 fr to rl pi_2 ph_2 ps_2 pm_2) := hD
        refine lv_iconst (v := 1) hx hb dX3_flows_150 (by decide) ?_
        exact wrZ (((sp_over lv (ix (fr k)) (ix (to k)) va_2).2, ct_2, st_2, ts, tw, (sp_over lv (ix (fr k)) (ix (to k)) va_2).1), (fl_2, va_2, nI T_2 - 1, pi_2, ph_2, ps_2, pm_2)) hx hb hr hlk dX3_flows_151 nar1 hP hD hS ⟨by rw [flS_t (st := st) (fr := fr) (to := to) (ts := ts) (tw := tw) (tm := tm) e_3 f_0]; rfl, over_wfL hwl (inB_ix hf1) (inB_ix hf2) hne⟩
    · have q56 : ¬ 1000000000 - lv (ix (to k)) ≤ lv (ix (fr k)) := c_56
      have q_56 : lv (ix (fr k)) < 1000000000 - lv (ix (to k)) := by rw [i_lt]; rw [i_le] at q56; omega
      refine lv_aload_n hx hb dX3_flows_59 rfl (lv_at hl 1 rfl) ?_
      refine va_get (D := D) (ci := 3) (v := .ref (G 1)) (C := RX3) (T := TX3) (N := 25) hx hb hts iw_X3_flows_X3 hown hK hP 0 rfl rfl 1 (by decide) (hts (.fieldLink RX3 7 "SluiceRulesModel" "levels" "[I") (by decide +kernel)) (fun _ h9 => h9) rfl dX3_flows_60 ?_
      refine lv_aload_n hx hb dX3_flows_63 rfl (lv_at hl 1 rfl) ?_
      refine va_get (D := D) (ci := 3) (v := .ref (G 7)) (C := RX3) (T := TX3) (N := 25) hx hb hts iw_X3_flows_X3 hown hK hP 0 rfl rfl 10 (by decide) (hts (.fieldLink RX3 33 "SluiceRulesModel" "fromOf" "[I") (by decide +kernel)) (fun _ h9 => h9) rfl dX3_flows_64 ?_
      refine lv_iload_n hx hb dX3_flows_67 rfl (lv_at hl 2 rfl) ?_
      refine my_iald (j := k) hx hb hK hP 7 6 rfl rfl (rfl) (k_l8) (by decide) dX3_flows_68 ?_
      refine va_iald hx hb hK hP 1 0 rfl rfl (inB_vp.mp (inB_up hb8 hf1)) dX3_flows_69 ?_
      refine lv_goto (tgt := 74) hx hb dX3_flows_70 (by decide) ?_
      refine lv_istore (lv' := [(4, .int (lv (ix (fr k)))), (3, .int (1000000000 - (lv (ix (to k))))), (0, .ref (G 0)), (1, .int (nI k)), (2, .int h)]) hx hb dX3_flows_74 hl (by decide) rfl (fun ls hl => ?_)
      refine lv_aload_n hx hb dX3_flows_76 rfl (lv_at hl 2 rfl) ?_
      refine va_get (D := D) (ci := 3) (v := .long va_2) (C := RX3) (T := TX3) (N := 25) hx hb hts iw_X3_flows_X3 hown hK hP 0 rfl rfl 15 (by decide) (hts (.fieldLink RX3 92 "SluiceRulesModel" "value" "J") (by decide +kernel)) (fun _ h9 => h9) rfl dX3_flows_77 ?_
      refine lv_lconst (v := 0) hx hb dX3_flows_80 (by decide) ?_
      refine W.lcmp hx hb dX3_flows_81 ?_
      refine lv_if_ge (tgt := 89) hx hb dX3_flows_82 (by decide) (fun c_82 => ?_) (fun c_82 => ?_)
      · have c_82 := lc_gep c_82
        refine lv_aload_n hx hb dX3_flows_89 rfl (lv_at hl 2 rfl) ?_
        refine va_get (D := D) (ci := 3) (v := .long va_2) (C := RX3) (T := TX3) (N := 25) hx hb hts iw_X3_flows_X3 hown hK hP 0 rfl rfl 15 (by decide) (hts (.fieldLink RX3 92 "SluiceRulesModel" "value" "J") (by decide +kernel)) (fun _ h9 => h9) rfl dX3_flows_90 ?_
        refine lv_iload hx hb dX3_flows_93 (lv_at hl 0 rfl) ?_
        refine lv_i2l hx hb dX3_flows_95 rfl ?_
        refine W.lcmp hx hb dX3_flows_96 ?_
        refine lv_if_le (tgt := 105) hx hb dX3_flows_97 (by decide) (fun c_97 => ?_) (fun c_97 => ?_)
        · have c_97 := lc_lep c_97
          refine lv_aload_n hx hb dX3_flows_105 rfl (lv_at hl 2 rfl) ?_
          refine va_get (D := D) (ci := 3) (v := .long va_2) (C := RX3) (T := TX3) (N := 25) hx hb hts iw_X3_flows_X3 hown hK hP 0 rfl rfl 15 (by decide) (hts (.fieldLink RX3 92 "SluiceRulesModel" "value" "J") (by decide +kernel)) (fun _ h9 => h9) rfl dX3_flows_106 ?_
          refine lv_l2i hx hb dX3_flows_109 rfl ?_
          refine lv_topi (fun am9 eam9 => ?_)
          have eam9 : am9 = amt (lv (ix (fr k))) (lv (ix (to k))) va_2 := by rw [eam9, amt, if_neg c_82, if_pos q_56, if_neg c_97]
          subst eam9
          refine lv_istore (lv' := [(5, .int (amt (lv (ix (fr k))) (lv (ix (to k))) va_2)), (4, .int (lv (ix (fr k)))), (3, .int (1000000000 - (lv (ix (to k))))), (0, .ref (G 0)), (1, .int (nI k)), (2, .int h)]) hx hb dX3_flows_110 hl (by decide) rfl (fun ls hl => ?_)
          refine lv_aload_n hx hb dX3_flows_112 rfl (lv_at hl 3 rfl) ?_
          refine va_get (D := D) (ci := 3) (v := .ref (G 1)) (C := RX3) (T := TX3) (N := 25) hx hb hts iw_X3_flows_X3 hown hK hP 0 rfl rfl 1 (by decide) (hts (.fieldLink RX3 7 "SluiceRulesModel" "levels" "[I") (by decide +kernel)) (fun _ h9 => h9) rfl dX3_flows_113 ?_
          refine lv_aload_n hx hb dX3_flows_116 rfl (lv_at hl 3 rfl) ?_
          refine va_get (D := D) (ci := 3) (v := .ref (G 7)) (C := RX3) (T := TX3) (N := 25) hx hb hts iw_X3_flows_X3 hown hK hP 0 rfl rfl 10 (by decide) (hts (.fieldLink RX3 33 "SluiceRulesModel" "fromOf" "[I") (by decide +kernel)) (fun _ h9 => h9) rfl dX3_flows_117 ?_
          refine lv_iload_n hx hb dX3_flows_120 rfl (lv_at hl 4 rfl) ?_
          refine my_iald (j := k) hx hb hK hP 7 6 rfl rfl (rfl) (k_l8) (by decide) dX3_flows_121 ?_
          refine lv_dup2_11 hx hb dX3_flows_122 rfl rfl ?_
          refine va_iald hx hb hK hP 1 0 rfl rfl (inB_vp.mp (inB_up hb8 hf1)) dX3_flows_123 ?_
          refine lv_iload hx hb dX3_flows_124 (lv_at hl 0 rfl) ?_
          refine lv_isub hx hb dX3_flows_126 ?_
          refine va_iast hx hb hK hP hD hS 1 0 rfl rfl (inB_vp.mp (inB_up hb8 hf1)) dX3_flows_127 (fun H locs hP hD hS => ?_)
          have hP : va_P D vwCl (mw G Z (nI b) mn (nI n) (nI sN) (nI st_2) fl_2 va_2 (nI T_2 - 1) gv ts tw tm (upd lv (ix (fr k)) ((lv (ix (fr k))) - (amt (lv (ix (fr k))) (lv (ix (to k))) va_2))) sl kd pt he ct_2 fr to rl pi_2 ph_2 ps_2 pm_2) H := hP
          have hD : va_D (va_A (mw G Z (nI b) mn (nI n) (nI sN) (nI st) fl va tp gv ts tw tm lv sl kd pt he ct fr to rl pi ph ps pm) sz) (mw G Z (nI b) mn (nI n) (nI sN) (nI st_2) fl_2 va_2 (nI T_2 - 1) gv ts tw tm (upd lv (ix (fr k)) ((lv (ix (fr k))) - (amt (lv (ix (fr k))) (lv (ix (to k))) va_2))) sl kd pt he ct_2 fr to rl pi_2 ph_2 ps_2 pm_2) := hD
          refine lv_aload_n hx hb dX3_flows_128 rfl (lv_at hl 3 rfl) ?_
          refine va_get (D := D) (ci := 3) (v := .ref (G 1)) (C := RX3) (T := TX3) (N := 25) hx hb hts iw_X3_flows_X3 hown hK hP 0 rfl rfl 1 (by decide) (hts (.fieldLink RX3 7 "SluiceRulesModel" "levels" "[I") (by decide +kernel)) (fun _ h9 => h9) rfl dX3_flows_129 ?_
          refine lv_aload_n hx hb dX3_flows_132 rfl (lv_at hl 3 rfl) ?_
          refine va_get (D := D) (ci := 3) (v := .ref (G 8)) (C := RX3) (T := TX3) (N := 25) hx hb hts iw_X3_flows_X3 hown hK hP 0 rfl rfl 11 (by decide) (hts (.fieldLink RX3 36 "SluiceRulesModel" "toOf" "[I") (by decide +kernel)) (fun _ h9 => h9) rfl dX3_flows_133 ?_
          refine lv_iload_n hx hb dX3_flows_136 rfl (lv_at hl 4 rfl) ?_
          refine my_iald (j := k) hx hb hK hP 8 7 rfl rfl (rfl) (k_l8) (by decide) dX3_flows_137 ?_
          refine lv_dup2_11 hx hb dX3_flows_138 rfl rfl ?_
          refine va_iald hx hb hK hP 1 0 rfl rfl (inB_vp.mp (inB_up hb8 hf2)) dX3_flows_139 ?_
          refine lv_iload hx hb dX3_flows_140 (lv_at hl 0 rfl) ?_
          refine lv_iadd hx hb dX3_flows_142 ?_
          refine va_iast hx hb hK hP hD hS 1 0 rfl rfl (inB_vp.mp (inB_up hb8 hf2)) dX3_flows_143 (fun H locs hP hD hS => ?_)
          have hP : va_P D vwCl (mw G Z (nI b) mn (nI n) (nI sN) (nI st_2) fl_2 va_2 (nI T_2 - 1) gv ts tw tm (upd (upd lv (ix (fr k)) ((lv (ix (fr k))) - (amt (lv (ix (fr k))) (lv (ix (to k))) va_2))) (ix (to k)) (((upd lv (ix (fr k)) ((lv (ix (fr k))) - (amt (lv (ix (fr k))) (lv (ix (to k))) va_2))) (ix (to k))) + (amt (lv (ix (fr k))) (lv (ix (to k))) va_2))) sl kd pt he ct_2 fr to rl pi_2 ph_2 ps_2 pm_2) H := hP
          have hD : va_D (va_A (mw G Z (nI b) mn (nI n) (nI sN) (nI st) fl va tp gv ts tw tm lv sl kd pt he ct fr to rl pi ph ps pm) sz) (mw G Z (nI b) mn (nI n) (nI sN) (nI st_2) fl_2 va_2 (nI T_2 - 1) gv ts tw tm (upd (upd lv (ix (fr k)) ((lv (ix (fr k))) - (amt (lv (ix (fr k))) (lv (ix (to k))) va_2))) (ix (to k)) (((upd lv (ix (fr k)) ((lv (ix (fr k))) - (amt (lv (ix (fr k))) (lv (ix (to k))) va_2))) (ix (to k))) + (amt (lv (ix (fr k))) (lv (ix (to k))) va_2))) sl kd pt he ct_2 fr to rl pi_2 ph_2 ps_2 pm_2) := hD
          refine lv_aload_n hx hb dX3_flows_144 rfl (lv_at hl 3 rfl) ?_
          refine lv_iload hx hb dX3_flows_145 (lv_at hl 0 rfl) ?_
          refine va_put (D := D) (ci := 3) (v := .int (amt (lv (ix (fr k))) (lv (ix (to k))) va_2)) (ty := .int) (C := RX3) (T := TX3) (N := 25) hx hb hts iw_X3_flows_X3 tyX3 tyX3_ok nmX3 hown hK hP hD hS 0 rfl rfl 24 (by decide) (hts (.fieldLink RX3 155 "SluiceRulesModel" "toldMuch" "I") (by decide +kernel)) (fun _ h9 => h9) rfl (by decide +kernel) rfl rfl (Nat.le_of_ble_eq_true rfl) dX3_flows_147 (fun H locs hP hD hS => ?_)
          have hP : va_P D vwCl (mw G Z (nI b) mn (nI n) (nI sN) (nI st_2) fl_2 va_2 (nI T_2 - 1) gv ts tw (amt (lv (ix (fr k))) (lv (ix (to k))) va_2) (upd (upd lv (ix (fr k)) ((lv (ix (fr k))) - (amt (lv (ix (fr k))) (lv (ix (to k))) va_2))) (ix (to k)) (((upd lv (ix (fr k)) ((lv (ix (fr k))) - (amt (lv (ix (fr k))) (lv (ix (to k))) va_2))) (ix (to k))) + (amt (lv (ix (fr k))) (lv (ix (to k))) va_2))) sl kd pt he ct_2 fr to rl pi_2 ph_2 ps_2 pm_2) H := hP
          have hD : va_D (va_A (mw G Z (nI b) mn (nI n) (nI sN) (nI st) fl va tp gv ts tw tm lv sl kd pt he ct fr to rl pi ph ps pm) sz) (mw G Z (nI b) mn (nI n) (nI sN) (nI st_2) fl_2 va_2 (nI T_2 - 1) gv ts tw (amt (lv (ix (fr k))) (lv (ix (to k))) va_2) (upd (upd lv (ix (fr k)) ((lv (ix (fr k))) - (amt (lv (ix (fr k))) (lv (ix (to k))) va_2))) (ix (to k)) (((upd lv (ix (fr k)) ((lv (ix (fr k))) - (amt (lv (ix (fr k))) (lv (ix (to k))) va_2))) (ix (to k))) + (amt (lv (ix (fr k))) (lv (ix (to k))) va_2))) sl kd pt he ct_2 fr to rl pi_2 ph_2 ps_2 pm_2) := hD
          refine lv_iconst (v := 1) hx hb dX3_flows_150 (by decide) ?_
          exact wrZ (((sp_over lv (ix (fr k)) (ix (to k)) va_2).2, ct_2, st_2, ts, tw, (sp_over lv (ix (fr k)) (ix (to k)) va_2).1), (fl_2, va_2, nI T_2 - 1, pi_2, ph_2, ps_2, pm_2)) hx hb hr hlk dX3_flows_151 nar1 hP hD hS ⟨by rw [flS_t (st := st) (fr := fr) (to := to) (ts := ts) (tw := tw) (tm := tm) e_3 f_0]; rfl, over_wfL hwl (inB_ix hf1) (inB_ix hf2) hne⟩
        · have c_97 := lc_len c_97
          refine lv_iload hx hb dX3_flows_100 (lv_at hl 0 rfl) ?_
          refine lv_goto (tgt := 110) hx hb dX3_flows_102 (by decide) ?_
          refine lv_topi (fun am9 eam9 => ?_)
          have eam9 : am9 = amt (lv (ix (fr k))) (lv (ix (to k))) va_2 := by rw [eam9, amt, if_neg c_82, if_pos q_56, if_pos c_97]
          subst eam9
          refine lv_istore (lv' := [(5, .int (amt (lv (ix (fr k))) (lv (ix (to k))) va_2)), (4, .int (lv (ix (fr k)))), (3, .int (1000000000 - (lv (ix (to k))))), (0, .ref (G 0)), (1, .int (nI k)), (2, .int h)]) hx hb dX3_flows_110 hl (by decide) rfl (fun ls hl => ?_)
          refine lv_aload_n hx hb dX3_flows_112 rfl (lv_at hl 3 rfl) ?_
          refine va_get (D := D) (ci := 3) (v := .ref (G 1)) (C := RX3) (T := TX3) (N := 25) hx hb hts iw_X3_flows_X3 hown hK hP 0 rfl rfl 1 (by decide) (hts (.fieldLink RX3 7 "SluiceRulesModel" "levels" "[I") (by decide +kernel)) (fun _ h9 => h9) rfl dX3_flows_113 ?_
          refine lv_aload_n hx hb dX3_flows_116 rfl (lv_at hl 3 rfl) ?_
          refine va_get (D := D) (ci := 3) (v := .ref (G 7)) (C := RX3) (T := TX3) (N := 25) hx hb hts iw_X3_flows_X3 hown hK hP 0 rfl rfl 10 (by decide) (hts (.fieldLink RX3 33 "SluiceRulesModel" "fromOf" "[I") (by decide +kernel)) (fun _ h9 => h9) rfl dX3_flows_117 ?_
          refine lv_iload_n hx hb dX3_flows_120 rfl (lv_at hl 4 rfl) ?_
          refine my_iald (j := k) hx hb hK hP 7 6 rfl rfl (rfl) (k_l8) (by decide) dX3_flows_121 ?_
          refine lv_dup2_11 hx hb dX3_flows_122 rfl rfl ?_
          refine va_iald hx hb hK hP 1 0 rfl rfl (inB_vp.mp (inB_up hb8 hf1)) dX3_flows_123 ?_
          refine lv_iload hx hb dX3_flows_124 (lv_at hl 0 rfl) ?_
          refine lv_isub hx hb dX3_flows_126 ?_
          refine va_iast hx hb hK hP hD hS 1 0 rfl rfl (inB_vp.mp (inB_up hb8 hf1)) dX3_flows_127 (fun H locs hP hD hS => ?_)
          have hP : va_P D vwCl (mw G Z (nI b) mn (nI n) (nI sN) (nI st_2) fl_2 va_2 (nI T_2 - 1) gv ts tw tm (upd lv (ix (fr k)) ((lv (ix (fr k))) - (amt (lv (ix (fr k))) (lv (ix (to k))) va_2))) sl kd pt he ct_2 fr to rl pi_2 ph_2 ps_2 pm_2) H := hP
          have hD : va_D (va_A (mw G Z (nI b) mn (nI n) (nI sN) (nI st) fl va tp gv ts tw tm lv sl kd pt he ct fr to rl pi ph ps pm) sz) (mw G Z (nI b) mn (nI n) (nI sN) (nI st_2) fl_2 va_2 (nI T_2 - 1) gv ts tw tm (upd lv (ix (fr k)) ((lv (ix (fr k))) - (amt (lv (ix (fr k))) (lv (ix (to k))) va_2))) sl kd pt he ct_2 fr to rl pi_2 ph_2 ps_2 pm_2) := hD
          refine lv_aload_n hx hb dX3_flows_128 rfl (lv_at hl 3 rfl) ?_
          refine va_get (D := D) (ci := 3) (v := .ref (G 1)) (C := RX3) (T := TX3) (N := 25) hx hb hts iw_X3_flows_X3 hown hK hP 0 rfl rfl 1 (by decide) (hts (.fieldLink RX3 7 "SluiceRulesModel" "levels" "[I") (by decide +kernel)) (fun _ h9 => h9) rfl dX3_flows_129 ?_
          refine lv_aload_n hx hb dX3_flows_132 rfl (lv_at hl 3 rfl) ?_
          refine va_get (D := D) (ci := 3) (v := .ref (G 8)) (C := RX3) (T := TX3) (N := 25) hx hb hts iw_X3_flows_X3 hown hK hP 0 rfl rfl 11 (by decide) (hts (.fieldLink RX3 36 "SluiceRulesModel" "toOf" "[I") (by decide +kernel)) (fun _ h9 => h9) rfl dX3_flows_133 ?_
          refine lv_iload_n hx hb dX3_flows_136 rfl (lv_at hl 4 rfl) ?_
          refine my_iald (j := k) hx hb hK hP 8 7 rfl rfl (rfl) (k_l8) (by decide) dX3_flows_137 ?_
          refine lv_dup2_11 hx hb dX3_flows_138 rfl rfl ?_
          refine va_iald hx hb hK hP 1 0 rfl rfl (inB_vp.mp (inB_up hb8 hf2)) dX3_flows_139 ?_
          refine lv_iload hx hb dX3_flows_140 (lv_at hl 0 rfl) ?_
          refine lv_iadd hx hb dX3_flows_142 ?_
          refine va_iast hx hb hK hP hD hS 1 0 rfl rfl (inB_vp.mp (inB_up hb8 hf2)) dX3_flows_143 (fun H locs hP hD hS => ?_)
          have hP : va_P D vwCl (mw G Z (nI b) mn (nI n) (nI sN) (nI st_2) fl_2 va_2 (nI T_2 - 1) gv ts tw tm (upd (upd lv (ix (fr k)) ((lv (ix (fr k))) - (amt (lv (ix (fr k))) (lv (ix (to k))) va_2))) (ix (to k)) (((upd lv (ix (fr k)) ((lv (ix (fr k))) - (amt (lv (ix (fr k))) (lv (ix (to k))) va_2))) (ix (to k))) + (amt (lv (ix (fr k))) (lv (ix (to k))) va_2))) sl kd pt he ct_2 fr to rl pi_2 ph_2 ps_2 pm_2) H := hP
          have hD : va_D (va_A (mw G Z (nI b) mn (nI n) (nI sN) (nI st) fl va tp gv ts tw tm lv sl kd pt he ct fr to rl pi ph ps pm) sz) (mw G Z (nI b) mn (nI n) (nI sN) (nI st_2) fl_2 va_2 (nI T_2 - 1) gv ts tw tm (upd (upd lv (ix (fr k)) ((lv (ix (fr k))) - (amt (lv (ix (fr k))) (lv (ix (to k))) va_2))) (ix (to k)) (((upd lv (ix (fr k)) ((lv (ix (fr k))) - (amt (lv (ix (fr k))) (lv (ix (to k))) va_2))) (ix (to k))) + (amt (lv (ix (fr k))) (lv (ix (to k))) va_2))) sl kd pt he ct_2 fr to rl pi_2 ph_2 ps_2 pm_2) := hD
          refine lv_aload_n hx hb dX3_flows_144 rfl (lv_at hl 3 rfl) ?_
          refine lv_iload hx hb dX3_flows_145 (lv_at hl 0 rfl) ?_
          refine va_put (D := D) (ci := 3) (v := .int (amt (lv (ix (fr k))) (lv (ix (to k))) va_2)) (ty := .int) (C := RX3) (T := TX3) (N := 25) hx hb hts iw_X3_flows_X3 tyX3 tyX3_ok nmX3 hown hK hP hD hS 0 rfl rfl 24 (by decide) (hts (.fieldLink RX3 155 "SluiceRulesModel" "toldMuch" "I") (by decide +kernel)) (fun _ h9 => h9) rfl (by decide +kernel) rfl rfl (Nat.le_of_ble_eq_true rfl) dX3_flows_147 (fun H locs hP hD hS => ?_)
          have hP : va_P D vwCl (mw G Z (nI b) mn (nI n) (nI sN) (nI st_2) fl_2 va_2 (nI T_2 - 1) gv ts tw (amt (lv (ix (fr k))) (lv (ix (to k))) va_2) (upd (upd lv (ix (fr k)) ((lv (ix (fr k))) - (amt (lv (ix (fr k))) (lv (ix (to k))) va_2))) (ix (to k)) (((upd lv (ix (fr k)) ((lv (ix (fr k))) - (amt (lv (ix (fr k))) (lv (ix (to k))) va_2))) (ix (to k))) + (amt (lv (ix (fr k))) (lv (ix (to k))) va_2))) sl kd pt he ct_2 fr to rl pi_2 ph_2 ps_2 pm_2) H := hP
          have hD : va_D (va_A (mw G Z (nI b) mn (nI n) (nI sN) (nI st) fl va tp gv ts tw tm lv sl kd pt he ct fr to rl pi ph ps pm) sz) (mw G Z (nI b) mn (nI n) (nI sN) (nI st_2) fl_2 va_2 (nI T_2 - 1) gv ts tw (amt (lv (ix (fr k))) (lv (ix (to k))) va_2) (upd (upd lv (ix (fr k)) ((lv (ix (fr k))) - (amt (lv (ix (fr k))) (lv (ix (to k))) va_2))) (ix (to k)) (((upd lv (ix (fr k)) ((lv (ix (fr k))) - (amt (lv (ix (fr k))) (lv (ix (to k))) va_2))) (ix (to k))) + (amt (lv (ix (fr k))) (lv (ix (to k))) va_2))) sl kd pt he ct_2 fr to rl pi_2 ph_2 ps_2 pm_2) := hD
          refine lv_iconst (v := 1) hx hb dX3_flows_150 (by decide) ?_
          exact wrZ (((sp_over lv (ix (fr k)) (ix (to k)) va_2).2, ct_2, st_2, ts, tw, (sp_over lv (ix (fr k)) (ix (to k)) va_2).1), (fl_2, va_2, nI T_2 - 1, pi_2, ph_2, ps_2, pm_2)) hx hb hr hlk dX3_flows_151 nar1 hP hD hS ⟨by rw [flS_t (st := st) (fr := fr) (to := to) (ts := ts) (tw := tw) (tm := tm) e_3 f_0]; rfl, over_wfL hwl (inB_ix hf1) (inB_ix hf2) hne⟩
      · have c_82 := lc_gen c_82
        refine lv_iconst (v := 0) hx hb dX3_flows_85 (by decide) ?_
        refine lv_goto (tgt := 110) hx hb dX3_flows_86 (by decide) ?_
        refine lv_topi (fun am9 eam9 => ?_)
        have eam9 : am9 = amt (lv (ix (fr k))) (lv (ix (to k))) va_2 := by rw [eam9, amt, if_pos c_82]
        subst eam9
        refine lv_istore (lv' := [(5, .int (amt (lv (ix (fr k))) (lv (ix (to k))) va_2)), (4, .int (lv (ix (fr k)))), (3, .int (1000000000 - (lv (ix (to k))))), (0, .ref (G 0)), (1, .int (nI k)), (2, .int h)]) hx hb dX3_flows_110 hl (by decide) rfl (fun ls hl => ?_)
        refine lv_aload_n hx hb dX3_flows_112 rfl (lv_at hl 3 rfl) ?_
        refine va_get (D := D) (ci := 3) (v := .ref (G 1)) (C := RX3) (T := TX3) (N := 25) hx hb hts iw_X3_flows_X3 hown hK hP 0 rfl rfl 1 (by decide) (hts (.fieldLink RX3 7 "SluiceRulesModel" "levels" "[I") (by decide +kernel)) (fun _ h9 => h9) rfl dX3_flows_113 ?_
        refine lv_aload_n hx hb dX3_flows_116 rfl (lv_at hl 3 rfl) ?_
        refine va_get (D := D) (ci := 3) (v := .ref (G 7)) (C := RX3) (T := TX3) (N := 25) hx hb hts iw_X3_flows_X3 hown hK hP 0 rfl rfl 10 (by decide) (hts (.fieldLink RX3 33 "SluiceRulesModel" "fromOf" "[I") (by decide +kernel)) (fun _ h9 => h9) rfl dX3_flows_117 ?_
        refine lv_iload_n hx hb dX3_flows_120 rfl (lv_at hl 4 rfl) ?_
        refine my_iald (j := k) hx hb hK hP 7 6 rfl rfl (rfl) (k_l8) (by decide) dX3_flows_121 ?_
        refine lv_dup2_11 hx hb dX3_flows_122 rfl rfl ?_
        refine va_iald hx hb hK hP 1 0 rfl rfl (inB_vp.mp (inB_up hb8 hf1)) dX3_flows_123 ?_
        refine lv_iload hx hb dX3_flows_124 (lv_at hl 0 rfl) ?_
        refine lv_isub hx hb dX3_flows_126 ?_
        refine va_iast hx hb hK hP hD hS 1 0 rfl rfl (inB_vp.mp (inB_up hb8 hf1)) dX3_flows_127 (fun H locs hP hD hS => ?_)
        have hP : va_P D vwCl (mw G Z (nI b) mn (nI n) (nI sN) (nI st_2) fl_2 va_2 (nI T_2 - 1) gv ts tw tm (upd lv (ix (fr k)) ((lv (ix (fr k))) - (amt (lv (ix (fr k))) (lv (ix (to k))) va_2))) sl kd pt he ct_2 fr to rl pi_2 ph_2 ps_2 pm_2) H := hP
        have hD : va_D (va_A (mw G Z (nI b) mn (nI n) (nI sN) (nI st) fl va tp gv ts tw tm lv sl kd pt he ct fr to rl pi ph ps pm) sz) (mw G Z (nI b) mn (nI n) (nI sN) (nI st_2) fl_2 va_2 (nI T_2 - 1) gv ts tw tm (upd lv (ix (fr k)) ((lv (ix (fr k))) - (amt (lv (ix (fr k))) (lv (ix (to k))) va_2))) sl kd pt he ct_2 fr to rl pi_2 ph_2 ps_2 pm_2) := hD
        refine lv_aload_n hx hb dX3_flows_128 rfl (lv_at hl 3 rfl) ?_
        refine va_get (D := D) (ci := 3) (v := .ref (G 1)) (C := RX3) (T := TX3) (N := 25) hx hb hts iw_X3_flows_X3 hown hK hP 0 rfl rfl 1 (by decide) (hts (.fieldLink RX3 7 "SluiceRulesModel" "levels" "[I") (by decide +kernel)) (fun _ h9 => h9) rfl dX3_flows_129 ?_
        refine lv_aload_n hx hb dX3_flows_132 rfl (lv_at hl 3 rfl) ?_
        refine va_get (D := D) (ci := 3) (v := .ref (G 8)) (C := RX3) (T := TX3) (N := 25) hx hb hts iw_X3_flows_X3 hown hK hP 0 rfl rfl 11 (by decide) (hts (.fieldLink RX3 36 "SluiceRulesModel" "toOf" "[I") (by decide +kernel)) (fun _ h9 => h9) rfl dX3_flows_133 ?_
        refine lv_iload_n hx hb dX3_flows_136 rfl (lv_at hl 4 rfl) ?_
        refine my_iald (j := k) hx hb hK hP 8 7 rfl rfl (rfl) (k_l8) (by decide) dX3_flows_137 ?_
        refine lv_dup2_11 hx hb dX3_flows_138 rfl rfl ?_
        refine va_iald hx hb hK hP 1 0 rfl rfl (inB_vp.mp (inB_up hb8 hf2)) dX3_flows_139 ?_
        refine lv_iload hx hb dX3_flows_140 (lv_at hl 0 rfl) ?_
        refine lv_iadd hx hb dX3_flows_142 ?_
        refine va_iast hx hb hK hP hD hS 1 0 rfl rfl (inB_vp.mp (inB_up hb8 hf2)) dX3_flows_143 (fun H locs hP hD hS => ?_)
        have hP : va_P D vwCl (mw G Z (nI b) mn (nI n) (nI sN) (nI st_2) fl_2 va_2 (nI T_2 - 1) gv ts tw tm (upd (upd lv (ix (fr k)) ((lv (ix (fr k))) - (amt (lv (ix (fr k))) (lv (ix (to k))) va_2))) (ix (to k)) (((upd lv (ix (fr k)) ((lv (ix (fr k))) - (amt (lv (ix (fr k))) (lv (ix (to k))) va_2))) (ix (to k))) + (amt (lv (ix (fr k))) (lv (ix (to k))) va_2))) sl kd pt he ct_2 fr to rl pi_2 ph_2 ps_2 pm_2) H := hP
        have hD : va_D (va_A (mw G Z (nI b) mn (nI n) (nI sN) (nI st) fl va tp gv ts tw tm lv sl kd pt he ct fr to rl pi ph ps pm) sz) (mw G Z (nI b) mn (nI n) (nI sN) (nI st_2) fl_2 va_2 (nI T_2 - 1) gv ts tw tm (upd (upd lv (ix (fr k)) ((lv (ix (fr k))) - (amt (lv (ix (fr k))) (lv (ix (to k))) va_2))) (ix (to k)) (((upd lv (ix (fr k)) ((lv (ix (fr k))) - (amt (lv (ix (fr k))) (lv (ix (to k))) va_2))) (ix (to k))) + (amt (lv (ix (fr k))) (lv (ix (to k))) va_2))) sl kd pt he ct_2 fr to rl pi_2 ph_2 ps_2 pm_2) := hD
        refine lv_aload_n hx hb dX3_flows_144 rfl (lv_at hl 3 rfl) ?_
        refine lv_iload hx hb dX3_flows_145 (lv_at hl 0 rfl) ?_
        refine va_put (D := D) (ci := 3) (v := .int (amt (lv (ix (fr k))) (lv (ix (to k))) va_2)) (ty := .int) (C := RX3) (T := TX3) (N := 25) hx hb hts iw_X3_flows_X3 tyX3 tyX3_ok nmX3 hown hK hP hD hS 0 rfl rfl 24 (by decide) (hts (.fieldLink RX3 155 "SluiceRulesModel" "toldMuch" "I") (by decide +kernel)) (fun _ h9 => h9) rfl (by decide +kernel) rfl rfl (Nat.le_of_ble_eq_true rfl) dX3_flows_147 (fun H locs hP hD hS => ?_)
        have hP : va_P D vwCl (mw G Z (nI b) mn (nI n) (nI sN) (nI st_2) fl_2 va_2 (nI T_2 - 1) gv ts tw (amt (lv (ix (fr k))) (lv (ix (to k))) va_2) (upd (upd lv (ix (fr k)) ((lv (ix (fr k))) - (amt (lv (ix (fr k))) (lv (ix (to k))) va_2))) (ix (to k)) (((upd lv (ix (fr k)) ((lv (ix (fr k))) - (amt (lv (ix (fr k))) (lv (ix (to k))) va_2))) (ix (to k))) + (amt (lv (ix (fr k))) (lv (ix (to k))) va_2))) sl kd pt he ct_2 fr to rl pi_2 ph_2 ps_2 pm_2) H := hP
        have hD : va_D (va_A (mw G Z (nI b) mn (nI n) (nI sN) (nI st) fl va tp gv ts tw tm lv sl kd pt he ct fr to rl pi ph ps pm) sz) (mw G Z (nI b) mn (nI n) (nI sN) (nI st_2) fl_2 va_2 (nI T_2 - 1) gv ts tw (amt (lv (ix (fr k))) (lv (ix (to k))) va_2) (upd (upd lv (ix (fr k)) ((lv (ix (fr k))) - (amt (lv (ix (fr k))) (lv (ix (to k))) va_2))) (ix (to k)) (((upd lv (ix (fr k)) ((lv (ix (fr k))) - (amt (lv (ix (fr k))) (lv (ix (to k))) va_2))) (ix (to k))) + (amt (lv (ix (fr k))) (lv (ix (to k))) va_2))) sl kd pt he ct_2 fr to rl pi_2 ph_2 ps_2 pm_2) := hD
        refine lv_iconst (v := 1) hx hb dX3_flows_150 (by decide) ?_
        exact wrZ (((sp_over lv (ix (fr k)) (ix (to k)) va_2).2, ct_2, st_2, ts, tw, (sp_over lv (ix (fr k)) (ix (to k)) va_2).1), (fl_2, va_2, nI T_2 - 1, pi_2, ph_2, ps_2, pm_2)) hx hb hr hlk dX3_flows_151 nar1 hP hD hS ⟨by rw [flS_t (st := st) (fr := fr) (to := to) (ts := ts) (tw := tw) (tm := tm) e_3 f_0]; rfl, over_wfL hwl (inB_ix hf1) (inB_ix hf2) hne⟩
  · have b_11 : decide (fl_2 = 0) = false := bI_z (by rw [← b_2]; exact c_11)
    refine lv_aload_n hx hb dX3_flows_14 rfl (lv_at hl 0 rfl) ?_
    refine lv_iload_n hx hb dX3_flows_15 rfl (lv_at hl 1 rfl) ?_
    refine va_put (D := D) (ci := 3) (v := .int (nI k)) (ty := .int) (C := RX3) (T := TX3) (N := 25) hx hb hts iw_X3_flows_X3 tyX3 tyX3_ok nmX3 hown hK hP hD hS 0 rfl rfl 22 (by decide) (hts (.fieldLink RX3 54 "SluiceRulesModel" "toldSluice" "I") (by decide +kernel)) (fun _ h9 => h9) rfl (by decide +kernel) rfl rfl (Nat.le_of_ble_eq_true rfl) dX3_flows_16 (fun H locs hP hD hS => ?_)
    have hP : va_P D vwCl (mw G Z (nI b) mn (nI n) (nI sN) (nI st_2) fl_2 va_2 (nI T_2 - 1) gv (nI k) tw tm lv sl kd pt he ct_2 fr to rl pi_2 ph_2 ps_2 pm_2) H := hP
    have hD : va_D (va_A (mw G Z (nI b) mn (nI n) (nI sN) (nI st) fl va tp gv ts tw tm lv sl kd pt he ct fr to rl pi ph ps pm) sz) (mw G Z (nI b) mn (nI n) (nI sN) (nI st_2) fl_2 va_2 (nI T_2 - 1) gv (nI k) tw tm lv sl kd pt he ct_2 fr to rl pi_2 ph_2 ps_2 pm_2) := hD
    refine lv_aload_n hx hb dX3_flows_19 rfl (lv_at hl 0 rfl) ?_
    refine lv_aload_n hx hb dX3_flows_20 rfl (lv_at hl 0 rfl) ?_
    refine va_get (D := D) (ci := 3) (v := .int fl_2) (C := RX3) (T := TX3) (N := 25) hx hb hts iw_X3_flows_X3 hown hK hP 0 rfl rfl 14 (by decide) (hts (.fieldLink RX3 89 "SluiceRulesModel" "failure" "I") (by decide +kernel)) (fun _ h9 => h9) rfl dX3_flows_21 ?_
    refine va_put (D := D) (ci := 3) (v := .int fl_2) (ty := .int) (C := RX3) (T := TX3) (N := 25) hx hb hts iw_X3_flows_X3 tyX3 tyX3_ok nmX3 hown hK hP hD hS 0 rfl rfl 23 (by decide) (hts (.fieldLink RX3 152 "SluiceRulesModel" "toldWhy" "I") (by decide +kernel)) (fun _ h9 => h9) rfl (by decide +kernel) rfl rfl (Nat.le_of_ble_eq_true rfl) dX3_flows_24 (fun H locs hP hD hS => ?_)
    have hP : va_P D vwCl (mw G Z (nI b) mn (nI n) (nI sN) (nI st_2) fl_2 va_2 (nI T_2 - 1) gv (nI k) fl_2 tm lv sl kd pt he ct_2 fr to rl pi_2 ph_2 ps_2 pm_2) H := hP
    have hD : va_D (va_A (mw G Z (nI b) mn (nI n) (nI sN) (nI st) fl va tp gv ts tw tm lv sl kd pt he ct fr to rl pi ph ps pm) sz) (mw G Z (nI b) mn (nI n) (nI sN) (nI st_2) fl_2 va_2 (nI T_2 - 1) gv (nI k) fl_2 tm lv sl kd pt he ct_2 fr to rl pi_2 ph_2 ps_2 pm_2) := hD
    refine lv_iconst (v := 0) hx hb dX3_flows_27 (by decide) ?_
    exact wrZ ((lv, ct_2, st_2, nI k, fl_2, tm), (fl_2, va_2, nI T_2 - 1, pi_2, ph_2, ps_2, pm_2)) hx hb hr hlk dX3_flows_28 nar0 hP hD hS ⟨by rw [flS_f (st := st) (fr := fr) (to := to) (ts := ts) (tw := tw) (tm := tm) e_2 (of_decide_eq_false b_11)]; rfl, hwl⟩

theorem iw_X3_run_X3 : ∀ w ∈ u_ws RX3 TX3 25, w ∈ wsX3_run := by decide +kernel
set_option maxRecDepth 100000 in
set_option maxHeartbeats 4000000 in
/-- run -/
theorem c_X3_run {l : Launch} {D : va_G} {G : Nat → Nat} {Z : Nat → ClassId} {mn fl : Int32} {va gv : Int64} {tp ts tw tm : Int32} {lv sl kd pt : Nat → Int32} {he : Nat → Int64} {ct fr to rl pi ph ps : Nat → Int32} {pm : Nat → Int64} {b n sN st : Nat} (hn40 : n ≤ 40) (hb8 : b ≤ 8) (hW : wfA b n sl kd pt) (hs8 : sN ≤ 8) (hwl : wfL b lv) (hWS : wfS b n sN fr to rl) (h c_ : Int32) : WrI l yX3_run wsX3_run (rk 5) D (mty Z) (mw G Z (nI b) mn (nI n) (nI sN) (nI st) fl va tp gv ts tw tm lv sl kd pt he ct fr to rl pi ph ps pm) [.ref (G 0), .int h, .int c_] (σ := HS × JK) (fun u => mw G Z (nI b) mn (nI n) (nI sN) (nI u.1.2.2.1) u.2.1 u.2.2.1 u.2.2.2.1 gv u.1.2.2.2.1 u.1.2.2.2.2.1 u.1.2.2.2.2.2 u.1.1 sl kd pt he u.1.2.1 fr to rl u.2.2.2.2.1 u.2.2.2.2.2.1 u.2.2.2.2.2.2.1 u.2.2.2.2.2.2.2) (fun r u => (r, u.1) = sp_run (n, mn, sl, kd, pt, he, fr, to, rl) sN h c_ (lv, ct, st, ts, tw, tm) ∧ wfL b u.1.1) 0 0 := by
  intro sz
  refine wrEnter (cc := cX3_run) (maxL := 6) (ret := (some .int)) (by decide) rfl (Nat.le_of_ble_eq_true rfl) ?_
  intro p e s m below meth c hx hb hr hml hown hts hlk hP hK hN hsz hD hS hA hin ls hl
  have hown : s.vm.findClass RX3 = some m.cls := hown
  have hl : lv_has ls 6 [(0, .ref (G 0)), (1, .int h), (2, .int c_)] := hl
  refine lv_iload_n hx hb dX3_run_0 rfl (lv_at hl 2 rfl) ?_
  refine lv_iconst (v := 0) hx hb dX3_run_1 (by decide) ?_
  refine lv_bipush (v := 100) hx hb dX3_run_2 (by decide) ?_
  refine RoI.callS (As := [.int c_, .int 0, .int 100]) (rest := []) (c_X3_in c_ 0 100) ⟨hx, hb, hml, hown, hts⟩ (va_cwS 3 hts gX3_run_X3_in rfl rfl rfl (by decide +kernel) ⟨by decide, by decide⟩) hP hK hN rfl hl.1 rfl (Nat.le_of_ble_eq_true rfl) dX3_run_4 ⟨Nat.le_of_ble_eq_true rfl, Nat.le_of_ble_eq_true rfl⟩ (fun r_1 hr_1 => ?_)
  refine lv_if_ne (tgt := 13) hx hb dX3_run_7 (by decide) (fun c_7 => ?_) (fun c_7 => ?_)
  · have b_7 : rgB c_ 0 100 = true := bI_n (by rw [← hr_1]; exact c_7)
    have b_c : inB c_ 101 = true := by rw [← rg_k (hi := 100) (n := 101) (by decide), b_7]
    refine lv_aload_n hx hb dX3_run_13 rfl (lv_at hl 0 rfl) ?_
    refine lv_iconst (v := (-1)) hx hb dX3_run_14 (by decide) ?_
    refine va_put (D := D) (ci := 3) (v := .int (-1)) (ty := .int) (C := RX3) (T := TX3) (N := 25) hx hb hts iw_X3_run_X3 tyX3 tyX3_ok nmX3 hown hK hP hD hS 0 rfl rfl 22 (by decide) (hts (.fieldLink RX3 54 "SluiceRulesModel" "toldSluice" "I") (by decide +kernel)) (fun _ h9 => h9) rfl (by decide +kernel) rfl rfl (Nat.le_of_ble_eq_true rfl) dX3_run_15 (fun H locs hP hD hS => ?_)
    have hP : va_P D vwCl (mw G Z (nI b) mn (nI n) (nI sN) (nI st) fl va tp gv (-1) tw tm lv sl kd pt he ct fr to rl pi ph ps pm) H := hP
    have hD : va_D (va_A (mw G Z (nI b) mn (nI n) (nI sN) (nI st) fl va tp gv ts tw tm lv sl kd pt he ct fr to rl pi ph ps pm) sz) (mw G Z (nI b) mn (nI n) (nI sN) (nI st) fl va tp gv (-1) tw tm lv sl kd pt he ct fr to rl pi ph ps pm) := hD
    refine lv_aload_n hx hb dX3_run_18 rfl (lv_at hl 0 rfl) ?_
    refine lv_iconst (v := 0) hx hb dX3_run_19 (by decide) ?_
    refine va_put (D := D) (ci := 3) (v := .int 0) (ty := .int) (C := RX3) (T := TX3) (N := 25) hx hb hts iw_X3_run_X3 tyX3 tyX3_ok nmX3 hown hK hP hD hS 0 rfl rfl 23 (by decide) (hts (.fieldLink RX3 152 "SluiceRulesModel" "toldWhy" "I") (by decide +kernel)) (fun _ h9 => h9) rfl (by decide +kernel) rfl rfl (Nat.le_of_ble_eq_true rfl) dX3_run_20 (fun H locs hP hD hS => ?_)
    have hP : va_P D vwCl (mw G Z (nI b) mn (nI n) (nI sN) (nI st) fl va tp gv (-1) 0 tm lv sl kd pt he ct fr to rl pi ph ps pm) H := hP
    have hD : va_D (va_A (mw G Z (nI b) mn (nI n) (nI sN) (nI st) fl va tp gv ts tw tm lv sl kd pt he ct fr to rl pi ph ps pm) sz) (mw G Z (nI b) mn (nI n) (nI sN) (nI st) fl va tp gv (-1) 0 tm lv sl kd pt he ct fr to rl pi ph ps pm) := hD
    refine lv_aload_n hx hb dX3_run_23 rfl (lv_at hl 0 rfl) ?_
    refine lv_iconst (v := 0) hx hb dX3_run_24 (by decide) ?_
    refine va_put (D := D) (ci := 3) (v := .int 0) (ty := .int) (C := RX3) (T := TX3) (N := 25) hx hb hts iw_X3_run_X3 tyX3 tyX3_ok nmX3 hown hK hP hD hS 0 rfl rfl 24 (by decide) (hts (.fieldLink RX3 155 "SluiceRulesModel" "toldMuch" "I") (by decide +kernel)) (fun _ h9 => h9) rfl (by decide +kernel) rfl rfl (Nat.le_of_ble_eq_true rfl) dX3_run_25 (fun H locs hP hD hS => ?_)
    have hP : va_P D vwCl (mw G Z (nI b) mn (nI n) (nI sN) (nI st) fl va tp gv (-1) 0 0 lv sl kd pt he ct fr to rl pi ph ps pm) H := hP
    have hD : va_D (va_A (mw G Z (nI b) mn (nI n) (nI sN) (nI st) fl va tp gv ts tw tm lv sl kd pt he ct fr to rl pi ph ps pm) sz) (mw G Z (nI b) mn (nI n) (nI sN) (nI st) fl va tp gv (-1) 0 0 lv sl kd pt he ct fr to rl pi ph ps pm) := hD
    refine lv_iconst (v := 0) hx hb dX3_run_28 (by decide) ?_
    refine lv_istore_n (lv' := [(3, .int 0), (0, .ref (G 0)), (1, .int h), (2, .int c_)]) hx hb dX3_run_29 rfl hl (by decide) rfl (fun ls hl => ?_)
    refine lv_iconst (v := 1) hx hb dX3_run_30 (by decide) ?_
    refine lv_istore (lv' := [(4, .int 1), (3, .int 0), (0, .ref (G 0)), (1, .int h), (2, .int c_)]) hx hb dX3_run_31 hl (by decide) rfl (fun ls hl => ?_)
    obtain ⟨cn, hcn, ecn⟩ := inB_of b_c (by decide)
    have hixc : ix c_ = cn := by rw [ecn]; exact nI_clamp (by omega)
    have hspec : sp_run (n, mn, sl, kd, pt, he, fr, to, rl) sN h c_ (lv, ct, st, ts, tw, tm) = (nI (rnS (n, mn, sl, kd, pt, he, fr, to, rl) sN h cn 0 (lv, ct, st, -1, 0, 0)).1, (rnS (n, mn, sl, kd, pt, he, fr, to, rl) sN h cn 0 (lv, ct, st, -1, 0, 0)).2) := by rw [sp_run, if_pos b_c, hixc]
    have inner : ∀ (w2 c2 k2 : Nat) (lv2 ct2 : Nat → Int32) (st2 : Nat) (ts2 tw2 tm2 fl2 : Int32) (va2 : Int64) (tp2 : Int32) (pi2 ph2 ps2 : Nat → Int32) (pm2 : Nat → Int64) (H : Heap) (locs : List Loc) (ls : Array Slot), k2 + c2 = sN → wfL b lv2 → (∀ (gq : Bool) (Sq : HS), hrS (n, mn, sl, kd, pt, he, fr, to, rl) (h + nI w2) c2 k2 (lv2, ct2, st2, ts2, tw2, tm2) = (gq, Sq) → ∀ (lv2 ct2 : Nat → Int32) (st2 : Nat) (ts2 tw2 tm2 fl2 : Int32) (va2 : Int64) (tp2 : Int32) (pi2 ph2 ps2 : Nat → Int32) (pm2 : Nat → Int64) (H : Heap) (locs : List Loc) (ls : Array Slot), (lv2, ct2, st2, ts2, tw2, tm2) = Sq → wfL b lv2 → va_P D vwCl (mw G Z (nI b) mn (nI n) (nI sN) (nI st2) fl2 va2 tp2 gv ts2 tw2 tm2 lv2 sl kd pt he ct2 fr to rl pi2 ph2 ps2 pm2) H → va_D (va_A (mw G Z (nI b) mn (nI n) (nI sN) (nI st) fl va tp gv ts tw tm lv sl kd pt he ct fr to rl pi ph ps pm) sz) (mw G Z (nI b) mn (nI n) (nI sN) (nI st2) fl2 va2 tp2 gv ts2 tw2 tm2 lv2 sl kd pt he ct2 fr to rl pi2 ph2 ps2 pm2) → va_S (va_A (mw G Z (nI b) mn (nI n) (nI sN) (nI st) fl va tp gv ts tw tm lv sl kd pt he ct fr to rl pi ph ps pm) sz) s.heap H locs → lv_has ls 6 [(3, .int (nI w2)), (4, .int (bI gq)), (0, .ref (G 0)), (1, .int h), (2, .int c_)] → W p l e (rk 5) s m ([.ref (G 0), .int h, .int c_] : List Value).toArray below meth c H locs 0 0 (MQ below (va_Qi (fun r u => (r, u.1) = sp_run (n, mn, sl, kd, pt, he, fr, to, rl) sN h c_ (lv, ct, st, ts, tw, tm) ∧ wfL b u.1.1) (wrB (σ := HS × JK) D (mw G Z (nI b) mn (nI n) (nI sN) (nI st) fl va tp gv ts tw tm lv sl kd pt he ct fr to rl pi ph ps pm) (fun u => mw G Z (nI b) mn (nI n) (nI sN) (nI u.1.2.2.1) u.2.1 u.2.2.1 u.2.2.2.1 gv u.1.2.2.2.1 u.1.2.2.2.2.1 u.1.2.2.2.2.2 u.1.1 sl kd pt he u.1.2.1 fr to rl u.2.2.2.2.1 u.2.2.2.2.2.1 u.2.2.2.2.2.2.1 u.2.2.2.2.2.2.2) sz) (va_A (mw G Z (nI b) mn (nI n) (nI sN) (nI st) fl va tp gv ts tw tm lv sl kd pt he ct fr to rl pi ph ps pm) sz)) ([.ref (G 0), .int h, .int c_] : List Value).toArray s 0 0 (va_A (mw G Z (nI b) mn (nI n) (nI sN) (nI st) fl va tp gv ts tw tm lv sl kd pt he ct fr to rl pi ph ps pm) sz)) (F0 m 77 ls [])) → va_P D vwCl (mw G Z (nI b) mn (nI n) (nI sN) (nI st2) fl2 va2 tp2 gv ts2 tw2 tm2 lv2 sl kd pt he ct2 fr to rl pi2 ph2 ps2 pm2) H → va_D (va_A (mw G Z (nI b) mn (nI n) (nI sN) (nI st) fl va tp gv ts tw tm lv sl kd pt he ct fr to rl pi ph ps pm) sz) (mw G Z (nI b) mn (nI n) (nI sN) (nI st2) fl2 va2 tp2 gv ts2 tw2 tm2 lv2 sl kd pt he ct2 fr to rl pi2 ph2 ps2 pm2) → va_S (va_A (mw G Z (nI b) mn (nI n) (nI sN) (nI st) fl va tp gv ts tw tm lv sl kd pt he ct fr to rl pi ph ps pm) sz) s.heap H locs → lv_has ls 6 [(5, .int (nI k2)), (3, .int (nI w2)), (4, .int 1), (0, .ref (G 0)), (1, .int h), (2, .int c_)] → W p l e (rk 5) s m ([.ref (G 0), .int h, .int c_] : List Value).toArray below meth c H locs 0 0 (MQ below (va_Qi (fun r u => (r, u.1) = sp_run (n, mn, sl, kd, pt, he, fr, to, rl) sN h c_ (lv, ct, st, ts, tw, tm) ∧ wfL b u.1.1) (wrB (σ := HS × JK) D (mw G Z (nI b) mn (nI n) (nI sN) (nI st) fl va tp gv ts tw tm lv sl kd pt he ct fr to rl pi ph ps pm) (fun u => mw G Z (nI b) mn (nI n) (nI sN) (nI u.1.2.2.1) u.2.1 u.2.2.1 u.2.2.2.1 gv u.1.2.2.2.1 u.1.2.2.2.2.1 u.1.2.2.2.2.2 u.1.1 sl kd pt he u.1.2.1 fr to rl u.2.2.2.2.1 u.2.2.2.2.2.1 u.2.2.2.2.2.2.1 u.2.2.2.2.2.2.2) sz) (va_A (mw G Z (nI b) mn (nI n) (nI sN) (nI st) fl va tp gv ts tw tm lv sl kd pt he ct fr to rl pi ph ps pm) sz)) ([.ref (G 0), .int h, .int c_] : List Value).toArray s 0 0 (va_A (mw G Z (nI b) mn (nI n) (nI sN) (nI st) fl va tp gv ts tw tm lv sl kd pt he ct fr to rl pi ph ps pm) sz)) (F0 m 46 ls []) := by
      intro w2 c2
      induction c2 with
      | zero =>
        intro k2 lv2 ct2 st2 ts2 tw2 tm2 fl2 va2 tp2 pi2 ph2 ps2 pm2 H locs ls hkc hwl2 hK77 hP hD hS hl
        refine lv_iload hx hb dX3_run_46 (lv_at hl 0 rfl) ?_
        refine lv_aload_n hx hb dX3_run_48 rfl (lv_at hl 3 rfl) ?_
        refine va_get (D := D) (ci := 3) (v := .int (nI sN)) (C := RX3) (T := TX3) (N := 25) hx hb hts iw_X3_run_X3 hown hK hP 0 rfl rfl 9 (by decide) (hts (.fieldLink RX3 149 "SluiceRulesModel" "sluices" "I") (by decide +kernel)) (fun _ h9 => h9) rfl dX3_run_49 ?_
        refine lv_icmp_ge (tgt := 77) hx hb dX3_run_52 (by decide) (fun c_52 => ?_) (fun c_52 => ?_)
        · exact hK77 true (lv2, ct2, st2, ts2, tw2, tm2) rfl lv2 ct2 st2 ts2 tw2 tm2 fl2 va2 tp2 pi2 ph2 ps2 pm2 _ _ _ rfl hwl2 hP hD hS (lv_sub (l' := [(3, .int (nI w2)), (4, .int (bI true)), (0, .ref (G 0)), (1, .int h), (2, .int c_)]) hl [1, 2, 3, 4, 5] rfl)
        · exact absurd (show nI sN ≤ nI k2 by rw [show k2 = sN by omega]; exact Int32.le_refl _) c_52
      | succ c2 ih2 =>
        intro k2 lv2 ct2 st2 ts2 tw2 tm2 fl2 va2 tp2 pi2 ph2 ps2 pm2 H locs ls hkc hwl2 hK77 hP hD hS hl
        obtain ⟨hf1, hf2, hft, hf3⟩ := hWS k2 (by omega)
        refine lv_iload hx hb dX3_run_46 (lv_at hl 0 rfl) ?_
        refine lv_aload_n hx hb dX3_run_48 rfl (lv_at hl 3 rfl) ?_
        refine va_get (D := D) (ci := 3) (v := .int (nI sN)) (C := RX3) (T := TX3) (N := 25) hx hb hts iw_X3_run_X3 hown hK hP 0 rfl rfl 9 (by decide) (hts (.fieldLink RX3 149 "SluiceRulesModel" "sluices" "I") (by decide +kernel)) (fun _ h9 => h9) rfl dX3_run_49 ?_
        refine lv_icmp_ge (tgt := 77) hx hb dX3_run_52 (by decide) (fun c_52 => ?_) (fun c_52 => ?_)
        · exact absurd (show nI sN ≤ nI k2 from c_52) (nI_ge (by omega) (by omega))
        · refine lv_iload hx hb dX3_run_55 (lv_at hl 2 rfl) ?_
          refine lv_if_eq (tgt := 77) hx hb dX3_run_57 (by decide) (fun c_57 => ?_) (fun c_57 => ?_)
          · exact absurd c_57 (by decide)
          · refine lv_aload_n hx hb dX3_run_60 rfl (lv_at hl 3 rfl) ?_
            refine lv_iload hx hb dX3_run_61 (lv_at hl 0 rfl) ?_
            refine lv_iload_n hx hb dX3_run_63 rfl (lv_at hl 4 rfl) ?_
            refine lv_iload_n hx hb dX3_run_64 rfl (lv_at hl 1 rfl) ?_
            refine lv_iadd hx hb dX3_run_65 ?_
            refine WrI.callV (As := [.int (nI k2), .int (h + (nI w2))]) (rest := []) (c_X3_flows hn40 hb8 hW hwl2 (by omega) hf1 hf2 hft hf3 (h + (nI w2))) ⟨hx, hb, hml, hown, hts⟩ (cwV 2 hts gX3_run_X3_flows rfl rfl rfl (by decide +kernel) ⟨by decide, by decide⟩) hP hD hS hA hK hN 0 3 rfl rfl rfl hl.1 rfl (Nat.le_of_ble_eq_true rfl) dX3_run_66 ⟨Nat.le_of_ble_eq_true rfl, Nat.le_of_ble_eq_true rfl⟩ (fun r_2 ur_2 H locs hr_2 hP hD hS => ?_)
            obtain ⟨⟨lv3, ct3, st3, ts3, tw3, tm3⟩, fl3, va3, tp3, pi3, ph3, ps3, pm3⟩ := ur_2
            obtain ⟨e_3, hwl3⟩ := hr_2
            have hwl3 : wfL b lv3 := hwl3
            have x_3 := (Prod.mk.inj e_3).1
            have y_3 : (lv3, ct3, st3, ts3, tw3, tm3) = (flS (n, mn, sl, kd, pt, he, fr, to, rl) (h + nI w2) k2 (lv2, ct2, st2, ts2, tw2, tm2)).2 := (Prod.mk.inj e_3).2
            have hP : va_P D vwCl (mw G Z (nI b) mn (nI n) (nI sN) (nI st3) fl3 va3 tp3 gv ts3 tw3 tm3 lv3 sl kd pt he ct3 fr to rl pi3 ph3 ps3 pm3) H := hP
            have hD : va_D (va_A (mw G Z (nI b) mn (nI n) (nI sN) (nI st) fl va tp gv ts tw tm lv sl kd pt he ct fr to rl pi ph ps pm) sz) (mw G Z (nI b) mn (nI n) (nI sN) (nI st3) fl3 va3 tp3 gv ts3 tw3 tm3 lv3 sl kd pt he ct3 fr to rl pi3 ph3 ps3 pm3) := hD
            subst x_3
            generalize hg3 : (flS (n, mn, sl, kd, pt, he, fr, to, rl) (h + nI w2) k2 (lv2, ct2, st2, ts2, tw2, tm2)).1 = gb3
            rcases gb3 with _ | _
            · have hfl : flS (n, mn, sl, kd, pt, he, fr, to, rl) (h + nI w2) k2 (lv2, ct2, st2, ts2, tw2, tm2) = (false, (lv3, ct3, st3, ts3, tw3, tm3)) := Prod.ext hg3 y_3.symm
              refine lv_istore (lv' := [(4, .int (bI false)), (5, .int (nI k2)), (3, .int (nI w2)), (0, .ref (G 0)), (1, .int h), (2, .int c_)]) hx hb dX3_run_69 hl (by decide) rfl (fun ls hl => ?_)
              refine lv_iinc (v := (nI k2) + 1) (lv' := [(5, .int ((nI k2) + 1)), (4, .int (bI false)), (3, .int (nI w2)), (0, .ref (G 0)), (1, .int h), (2, .int c_)]) hx hb dX3_run_71 hl (k := 1) rfl rfl (by decide) rfl (fun ls hl => ?_)
              refine lv_goto (tgt := 46) hx hb dX3_run_74 (by decide) ?_
              refine lv_iload hx hb dX3_run_46 (lv_at hl 0 rfl) ?_
              refine lv_aload_n hx hb dX3_run_48 rfl (lv_at hl 3 rfl) ?_
              refine va_get (D := D) (ci := 3) (v := .int (nI sN)) (C := RX3) (T := TX3) (N := 25) hx hb hts iw_X3_run_X3 hown hK hP 0 rfl rfl 9 (by decide) (hts (.fieldLink RX3 149 "SluiceRulesModel" "sluices" "I") (by decide +kernel)) (fun _ h9 => h9) rfl dX3_run_49 ?_
              refine lv_icmp_ge (tgt := 77) hx hb dX3_run_52 (by decide) (fun c_52 => ?_) (fun c_52 => ?_)
              · exact hK77 false (lv3, ct3, st3, ts3, tw3, tm3) (hrS_f hfl) lv3 ct3 st3 ts3 tw3 tm3 fl3 va3 tp3 pi3 ph3 ps3 pm3 _ _ _ rfl hwl3 hP hD hS (lv_sub (l' := [(3, .int (nI w2)), (4, .int (bI false)), (0, .ref (G 0)), (1, .int h), (2, .int c_)]) hl [2, 1, 3, 4, 5] rfl)
              · refine lv_iload hx hb dX3_run_55 (lv_at hl 1 rfl) ?_
                refine lv_if_eq (tgt := 77) hx hb dX3_run_57 (by decide) (fun c_57 => ?_) (fun c_57 => ?_)
                · exact hK77 false (lv3, ct3, st3, ts3, tw3, tm3) (hrS_f hfl) lv3 ct3 st3 ts3 tw3 tm3 fl3 va3 tp3 pi3 ph3 ps3 pm3 _ _ _ rfl hwl3 hP hD hS (lv_sub (l' := [(3, .int (nI w2)), (4, .int (bI false)), (0, .ref (G 0)), (1, .int h), (2, .int c_)]) hl [2, 1, 3, 4, 5] rfl)
                · exact absurd (show bI false = 0 from rfl) c_57
            · have hfl : flS (n, mn, sl, kd, pt, he, fr, to, rl) (h + nI w2) k2 (lv2, ct2, st2, ts2, tw2, tm2) = (true, (lv3, ct3, st3, ts3, tw3, tm3)) := Prod.ext hg3 y_3.symm
              refine lv_istore (lv' := [(4, .int (bI true)), (5, .int (nI k2)), (3, .int (nI w2)), (0, .ref (G 0)), (1, .int h), (2, .int c_)]) hx hb dX3_run_69 hl (by decide) rfl (fun ls hl => ?_)
              refine lv_iinc (v := (nI k2) + 1) (lv' := [(5, .int ((nI k2) + 1)), (4, .int (bI true)), (3, .int (nI w2)), (0, .ref (G 0)), (1, .int h), (2, .int c_)]) hx hb dX3_run_71 hl (k := 1) rfl rfl (by decide) rfl (fun ls hl => ?_)
              refine lv_goto (tgt := 46) hx hb dX3_run_74 (by decide) ?_
              refine ih2 (k2 + 1) lv3 ct3 st3 ts3 tw3 tm3 fl3 va3 tp3 pi3 ph3 ps3 pm3 _ _ _ (by omega) hwl3 (fun gq Sq hq => hK77 gq Sq (by rw [hrS_t hfl]; exact hq)) hP hD hS (lv_sub (l' := [(5, .int (nI (k2 + 1))), (3, .int (nI w2)), (4, .int 1), (0, .ref (G 0)), (1, .int h), (2, .int c_)]) hl [0, 2, 1, 3, 4, 5] (by rw [← nI_1]; rfl))
    have loop : ∀ (c2 w2 : Nat) (lv2 ct2 : Nat → Int32) (st2 : Nat) (ts2 tw2 tm2 fl2 : Int32) (va2 : Int64) (tp2 : Int32) (pi2 ph2 ps2 : Nat → Int32) (pm2 : Nat → Int64) (H : Heap) (locs : List Loc) (ls : Array Slot), w2 + c2 = cn → wfL b lv2 → rnS (n, mn, sl, kd, pt, he, fr, to, rl) sN h c2 w2 (lv2, ct2, st2, ts2, tw2, tm2) = rnS (n, mn, sl, kd, pt, he, fr, to, rl) sN h cn 0 (lv, ct, st, -1, 0, 0) → va_P D vwCl (mw G Z (nI b) mn (nI n) (nI sN) (nI st2) fl2 va2 tp2 gv ts2 tw2 tm2 lv2 sl kd pt he ct2 fr to rl pi2 ph2 ps2 pm2) H → va_D (va_A (mw G Z (nI b) mn (nI n) (nI sN) (nI st) fl va tp gv ts tw tm lv sl kd pt he ct fr to rl pi ph ps pm) sz) (mw G Z (nI b) mn (nI n) (nI sN) (nI st2) fl2 va2 tp2 gv ts2 tw2 tm2 lv2 sl kd pt he ct2 fr to rl pi2 ph2 ps2 pm2) → va_S (va_A (mw G Z (nI b) mn (nI n) (nI sN) (nI st) fl va tp gv ts tw tm lv sl kd pt he ct fr to rl pi ph ps pm) sz) s.heap H locs → lv_has ls 6 [(3, .int (nI w2)), (4, .int 1), (0, .ref (G 0)), (1, .int h), (2, .int c_)] → W p l e (rk 5) s m ([.ref (G 0), .int h, .int c_] : List Value).toArray below meth c H locs 0 0 (MQ below (va_Qi (fun r u => (r, u.1) = sp_run (n, mn, sl, kd, pt, he, fr, to, rl) sN h c_ (lv, ct, st, ts, tw, tm) ∧ wfL b u.1.1) (wrB (σ := HS × JK) D (mw G Z (nI b) mn (nI n) (nI sN) (nI st) fl va tp gv ts tw tm lv sl kd pt he ct fr to rl pi ph ps pm) (fun u => mw G Z (nI b) mn (nI n) (nI sN) (nI u.1.2.2.1) u.2.1 u.2.2.1 u.2.2.2.1 gv u.1.2.2.2.1 u.1.2.2.2.2.1 u.1.2.2.2.2.2 u.1.1 sl kd pt he u.1.2.1 fr to rl u.2.2.2.2.1 u.2.2.2.2.2.1 u.2.2.2.2.2.2.1 u.2.2.2.2.2.2.2) sz) (va_A (mw G Z (nI b) mn (nI n) (nI sN) (nI st) fl va tp gv ts tw tm lv sl kd pt he ct fr to rl pi ph ps pm) sz)) ([.ref (G 0), .int h, .int c_] : List Value).toArray s 0 0 (va_A (mw G Z (nI b) mn (nI n) (nI sN) (nI st) fl va tp gv ts tw tm lv sl kd pt he ct fr to rl pi ph ps pm) sz)) (F0 m 33 ls []) := by
      intro c2
      induction c2 with
      | zero =>
        intro w2 lv2 ct2 st2 ts2 tw2 tm2 fl2 va2 tp2 pi2 ph2 ps2 pm2 H locs ls hkc hwl2 hev hP hD hS hl
        refine lv_iload hx hb dX3_run_33 (lv_at hl 1 rfl) ?_
        refine lv_if_eq (tgt := 93) hx hb dX3_run_35 (by decide) (fun c_35 => ?_) (fun c_35 => ?_)
        · refine lv_iload_n hx hb dX3_run_93 rfl (lv_at hl 0 rfl) ?_
          exact absurd c_35 (by decide)
        · refine lv_iload_n hx hb dX3_run_38 rfl (lv_at hl 0 rfl) ?_
          refine lv_iload_n hx hb dX3_run_39 rfl (lv_at hl 4 rfl) ?_
          refine lv_icmp_ge (tgt := 93) hx hb dX3_run_40 (by decide) (fun c_40 => ?_) (fun c_40 => ?_)
          · refine lv_iload_n hx hb dX3_run_93 rfl (lv_at hl 0 rfl) ?_
            exact wrI ((lv2, ct2, st2, ts2, tw2, tm2), (fl2, va2, tp2, pi2, ph2, ps2, pm2)) hx hb hr hlk dX3_run_94 hP hD hS ⟨by rw [hspec, ← hev]; rfl, hwl2⟩
          · exact absurd (show nI w2 ≥ c_ by rw [ecn, show w2 = cn by omega]; exact Int32.le_refl _) c_40
      | succ c2 ih2 =>
        intro w2 lv2 ct2 st2 ts2 tw2 tm2 fl2 va2 tp2 pi2 ph2 ps2 pm2 H locs ls hkc hwl2 hev hP hD hS hl
        refine lv_iload hx hb dX3_run_33 (lv_at hl 1 rfl) ?_
        refine lv_if_eq (tgt := 93) hx hb dX3_run_35 (by decide) (fun c_35 => ?_) (fun c_35 => ?_)
        · exact absurd c_35 (by decide)
        · refine lv_iload_n hx hb dX3_run_38 rfl (lv_at hl 0 rfl) ?_
          refine lv_iload_n hx hb dX3_run_39 rfl (lv_at hl 4 rfl) ?_
          refine lv_icmp_ge (tgt := 93) hx hb dX3_run_40 (by decide) (fun c_40 => ?_) (fun c_40 => ?_)
          · exact absurd (show c_ ≤ nI w2 from c_40) (by rw [ecn]; exact nI_ge (by omega) (by omega))
          · refine lv_iconst (v := 0) hx hb dX3_run_43 (by decide) ?_
            refine lv_istore (lv' := [(5, .int 0), (3, .int (nI w2)), (4, .int 1), (0, .ref (G 0)), (1, .int h), (2, .int c_)]) hx hb dX3_run_44 hl (by decide) rfl (fun ls hl => ?_)
            refine inner w2 sN 0 lv2 ct2 st2 ts2 tw2 tm2 fl2 va2 tp2 pi2 ph2 ps2 pm2 _ _ _ (by omega) hwl2 (fun gq Sq hq => ?_) hP hD hS (lv_sub (l' := [(5, .int (nI 0)), (3, .int (nI w2)), (4, .int 1), (0, .ref (G 0)), (1, .int h), (2, .int c_)]) hl [0, 1, 2, 3, 4, 5] (by rw [nI_0]; rfl))
            intro lv3 ct3 st3 ts3 tw3 tm3 fl3 va3 tp3 pi3 ph3 ps3 pm3 H locs ls eSq hwl3 hP hD hS hl
            subst eSq
            rcases gq with _ | _
            · have hP : va_P D vwCl (mw G Z (nI b) mn (nI n) (nI sN) (nI st3) fl3 va3 tp3 gv ts3 tw3 tm3 lv3 sl kd pt he ct3 fr to rl pi3 ph3 ps3 pm3) H := hP
              have hD : va_D (va_A (mw G Z (nI b) mn (nI n) (nI sN) (nI st) fl va tp gv ts tw tm lv sl kd pt he ct fr to rl pi ph ps pm) sz) (mw G Z (nI b) mn (nI n) (nI sN) (nI st3) fl3 va3 tp3 gv ts3 tw3 tm3 lv3 sl kd pt he ct3 fr to rl pi3 ph3 ps3 pm3) := hD
              refine lv_iload_n hx hb dX3_run_77 rfl (lv_at hl 0 rfl) ?_
              refine lv_iload hx hb dX3_run_78 (lv_at hl 1 rfl) ?_
              refine lv_if_eq (tgt := 87) hx hb dX3_run_80 (by decide) (fun c_80 => ?_) (fun c_80 => ?_)
              · refine lv_iconst (v := 0) hx hb dX3_run_87 (by decide) ?_
                refine lv_iadd hx hb dX3_run_88 ?_
                refine lv_istore_n (lv' := [(3, .int ((nI w2) + 0)), (4, .int (bI false)), (0, .ref (G 0)), (1, .int h), (2, .int c_)]) hx hb dX3_run_89 rfl hl (by decide) rfl (fun ls hl => ?_)
                refine lv_goto (tgt := 33) hx hb dX3_run_90 (by decide) ?_
                refine lv_iload hx hb dX3_run_33 (lv_at hl 1 rfl) ?_
                refine lv_if_eq (tgt := 93) hx hb dX3_run_35 (by decide) (fun c_35 => ?_) (fun c_35 => ?_)
                · refine lv_iload_n hx hb dX3_run_93 rfl (lv_at hl 0 rfl) ?_
                  exact wrI ((lv3, ct3, st3, ts3, tw3, tm3), (fl3, va3, tp3, pi3, ph3, ps3, pm3)) hx hb hr hlk dX3_run_94 hP hD hS ⟨by rw [hspec, ← hev, rnS_f hq]; show (nI w2 + 0, _) = _; rw [Int32.add_zero], hwl3⟩
                · exact absurd (show bI false = 0 from rfl) c_35
              · refine lv_iconst (v := 1) hx hb dX3_run_83 (by decide) ?_
                refine lv_goto (tgt := 88) hx hb dX3_run_84 (by decide) ?_
                refine lv_iadd hx hb dX3_run_88 ?_
                refine lv_istore_n (lv' := [(3, .int ((nI w2) + 1)), (4, .int (bI false)), (0, .ref (G 0)), (1, .int h), (2, .int c_)]) hx hb dX3_run_89 rfl hl (by decide) rfl (fun ls hl => ?_)
                refine lv_goto (tgt := 33) hx hb dX3_run_90 (by decide) ?_
                exact absurd rfl c_80
            · have hP : va_P D vwCl (mw G Z (nI b) mn (nI n) (nI sN) (nI st3) fl3 va3 tp3 gv ts3 tw3 tm3 lv3 sl kd pt he ct3 fr to rl pi3 ph3 ps3 pm3) H := hP
              have hD : va_D (va_A (mw G Z (nI b) mn (nI n) (nI sN) (nI st) fl va tp gv ts tw tm lv sl kd pt he ct fr to rl pi ph ps pm) sz) (mw G Z (nI b) mn (nI n) (nI sN) (nI st3) fl3 va3 tp3 gv ts3 tw3 tm3 lv3 sl kd pt he ct3 fr to rl pi3 ph3 ps3 pm3) := hD
              refine lv_iload_n hx hb dX3_run_77 rfl (lv_at hl 0 rfl) ?_
              refine lv_iload hx hb dX3_run_78 (lv_at hl 1 rfl) ?_
              refine lv_if_eq (tgt := 87) hx hb dX3_run_80 (by decide) (fun c_80 => ?_) (fun c_80 => ?_)
              · refine lv_iconst (v := 0) hx hb dX3_run_87 (by decide) ?_
                refine lv_iadd hx hb dX3_run_88 ?_
                refine lv_istore_n (lv' := [(3, .int ((nI w2) + 0)), (4, .int (bI true)), (0, .ref (G 0)), (1, .int h), (2, .int c_)]) hx hb dX3_run_89 rfl hl (by decide) rfl (fun ls hl => ?_)
                refine lv_goto (tgt := 33) hx hb dX3_run_90 (by decide) ?_
                exact absurd c_80 (by decide)
              · refine lv_iconst (v := 1) hx hb dX3_run_83 (by decide) ?_
                refine lv_goto (tgt := 88) hx hb dX3_run_84 (by decide) ?_
                refine lv_iadd hx hb dX3_run_88 ?_
                refine lv_istore_n (lv' := [(3, .int ((nI w2) + 1)), (4, .int (bI true)), (0, .ref (G 0)), (1, .int h), (2, .int c_)]) hx hb dX3_run_89 rfl hl (by decide) rfl (fun ls hl => ?_)
                refine lv_goto (tgt := 33) hx hb dX3_run_90 (by decide) ?_
                refine ih2 (w2 + 1) lv3 ct3 st3 ts3 tw3 tm3 fl3 va3 tp3 pi3 ph3 ps3 pm3 _ _ _ (by omega) hwl3 ?_ hP hD hS (lv_sub (l' := [(3, .int (nI (w2 + 1))), (4, .int 1), (0, .ref (G 0)), (1, .int h), (2, .int c_)]) hl [0, 1, 2, 3, 4] (by rw [← nI_1]; rfl))
                rw [← hev, rnS_t hq]
    exact loop cn 0 lv ct st (-1) 0 0 fl va tp pi ph ps pm _ _ ls (by omega) hwl rfl hP hD hS (lv_sub (l' := [(3, .int (nI 0)), (4, .int 1), (0, .ref (G 0)), (1, .int h), (2, .int c_)]) hl [1, 0, 2, 3, 4] (by rw [nI_0]; rfl))
  · have b_7 : rgB c_ 0 100 = false := bI_z (by rw [← hr_1]; exact c_7)
    refine lv_bipush (v := (-102)) hx hb dX3_run_10 (by decide) ?_
    exact wrI ((lv, ct, st, ts, tw, tm), (fl, va, tp, pi, ph, ps, pm)) hx hb hr hlk dX3_run_12 hP hD hS ⟨by rw [sp_run, if_neg (by rw [← rg_k (hi := 100) (n := 101) (by decide), b_7]; exact Bool.false_ne_true)], hwl⟩
