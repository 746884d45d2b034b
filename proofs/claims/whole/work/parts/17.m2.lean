/-! the reference: its machine of open rules -/
theorem iw_X3_gives_X3 : ∀ w ∈ u_ws RX3 TX3 25, w ∈ wsX3_gives := by decide +kernel
set_option maxRecDepth 100000 in
set_option maxHeartbeats 4000000 in
/-- gives -/
theorem c_X3_gives {l : Launch} {D : va_G} {G : Nat → Nat} {Z : Nat → ClassId} {mn fl : Int32} {va gv : Int64} {ts tw tm : Int32} {lv sl kd pt : Nat → Int32} {he : Nat → Int64} {ct fr to rl pi ph ps : Nat → Int32} {pm : Nat → Int64} {b n sN st : Nat} {t : Nat} (v : Int64) : WrV l yX3_gives wsX3_gives (rk 0) D (mty Z) (mw G Z (nI b) mn (nI n) (nI sN) (nI st) fl va (nI (t + 1) - 1) gv ts tw tm lv sl kd pt he ct fr to rl pi ph ps pm) [.ref (G 0), .long v] (σ := MS) (fun u => mw G Z (nI b) mn (nI n) (nI sN) (nI u.1) u.2.1 u.2.2.1 (nI u.2.2.2.1 - 1) gv ts tw tm lv sl kd pt he u.2.2.2.2.1 fr to rl u.2.2.2.2.2.1 u.2.2.2.2.2.2.1 u.2.2.2.2.2.2.2.1 u.2.2.2.2.2.2.2.2) (fun u => u = gvS v (st, fl, va, t + 1, ct, pi, ph, ps, pm)) 0 0 := by
  intro sz
  refine wrEnter (cc := cX3_gives) (maxL := 3) (ret := none) (by decide) rfl (Nat.le_of_ble_eq_true rfl) ?_
  intro p e s m below meth c hx hb hr hml hown hts hlk hP hK hN hsz hD hS hA hin ls hl
  have hown : s.vm.findClass RX3 = some m.cls := hown
  have hl : lv_has ls 3 [(0, .ref (G 0)), (1, .long v)] := hl
  refine lv_aload_n hx hb dX3_gives_0 rfl (lv_at hl 0 rfl) ?_
  refine lv_lload_n hx hb dX3_gives_1 rfl (lv_at hl 1 rfl) ?_
  refine va_put (D := D) (ci := 3) (v := .long v) (ty := .long) (C := RX3) (T := TX3) (N := 25) hx hb hts iw_X3_gives_X3 tyX3 tyX3_ok nmX3 hown hK hP hD hS 0 rfl rfl 15 (by decide) (hts (.fieldLink RX3 92 "SluiceRulesModel" "value" "J") (by decide +kernel)) (fun _ h9 => h9) rfl (by decide +kernel) rfl rfl (Nat.le_of_ble_eq_true rfl) dX3_gives_2 (fun H locs hP hD hS => ?_)
  have hP : va_P D vwCl (mw G Z (nI b) mn (nI n) (nI sN) (nI st) fl v (nI (t + 1) - 1) gv ts tw tm lv sl kd pt he ct fr to rl pi ph ps pm) H := hP
  have hD : va_D (va_A (mw G Z (nI b) mn (nI n) (nI sN) (nI st) fl va (nI (t + 1) - 1) gv ts tw tm lv sl kd pt he ct fr to rl pi ph ps pm) sz) (mw G Z (nI b) mn (nI n) (nI sN) (nI st) fl v (nI (t + 1) - 1) gv ts tw tm lv sl kd pt he ct fr to rl pi ph ps pm) := hD
  refine lv_aload_n hx hb dX3_gives_5 rfl (lv_at hl 0 rfl) ?_
  refine lv_dup hx hb dX3_gives_6 rfl ?_
  refine va_get (D := D) (ci := 3) (v := .int (nI (t + 1) - 1)) (C := RX3) (T := TX3) (N := 25) hx hb hts iw_X3_gives_X3 hown hK hP 0 rfl rfl 16 (by decide) (hts (.fieldLink RX3 99 "SluiceRulesModel" "top" "I") (by decide +kernel)) (fun _ h9 => h9) rfl dX3_gives_7 ?_
  refine lv_iconst (v := 1) hx hb dX3_gives_10 (by decide) ?_
  refine lv_isub hx hb dX3_gives_11 ?_
  refine va_put (D := D) (ci := 3) (v := .int ((nI (t + 1) - 1) - 1)) (ty := .int) (C := RX3) (T := TX3) (N := 25) hx hb hts iw_X3_gives_X3 tyX3 tyX3_ok nmX3 hown hK hP hD hS 0 rfl rfl 16 (by decide) (hts (.fieldLink RX3 99 "SluiceRulesModel" "top" "I") (by decide +kernel)) (fun _ h9 => h9) rfl (by decide +kernel) rfl rfl (Nat.le_of_ble_eq_true rfl) dX3_gives_12 (fun H locs hP hD hS => ?_)
  have hP : va_P D vwCl (mw G Z (nI b) mn (nI n) (nI sN) (nI st) fl v ((nI (t + 1) - 1) - 1) gv ts tw tm lv sl kd pt he ct fr to rl pi ph ps pm) H := hP
  have hD : va_D (va_A (mw G Z (nI b) mn (nI n) (nI sN) (nI st) fl va (nI (t + 1) - 1) gv ts tw tm lv sl kd pt he ct fr to rl pi ph ps pm) sz) (mw G Z (nI b) mn (nI n) (nI sN) (nI st) fl v ((nI (t + 1) - 1) - 1) gv ts tw tm lv sl kd pt he ct fr to rl pi ph ps pm) := hD
  have e9 : (nI (t + 1) - 1) - 1 = nI t - 1 := by rw [nI_pred]
  have hP : va_P D vwCl (mw G Z (nI b) mn (nI n) (nI sN) (nI st) fl v (nI t - 1) gv ts tw tm lv sl kd pt he ct fr to rl pi ph ps pm) H := (congrArg (fun z9 => va_P D vwCl (mw G Z (nI b) mn (nI n) (nI sN) (nI st) fl v z9 gv ts tw tm lv sl kd pt he ct fr to rl pi ph ps pm) H) e9).mp hP
  have hD : va_D (va_A (mw G Z (nI b) mn (nI n) (nI sN) (nI st) fl va (nI (t + 1) - 1) gv ts tw tm lv sl kd pt he ct fr to rl pi ph ps pm) sz) (mw G Z (nI b) mn (nI n) (nI sN) (nI st) fl v (nI t - 1) gv ts tw tm lv sl kd pt he ct fr to rl pi ph ps pm) := (congrArg (fun z9 => va_D (va_A (mw G Z (nI b) mn (nI n) (nI sN) (nI st) fl va (nI (t + 1) - 1) gv ts tw tm lv sl kd pt he ct fr to rl pi ph ps pm) sz) (mw G Z (nI b) mn (nI n) (nI sN) (nI st) fl v z9 gv ts tw tm lv sl kd pt he ct fr to rl pi ph ps pm)) e9).mp hD
  exact wrV (st, fl, v, t, ct, pi, ph, ps, pm) hx hb hr hlk dX3_gives_15 hP hD hS rfl

theorem iw_X3_enter_X3 : ∀ w ∈ u_ws RX3 TX3 25, w ∈ wsX3_enter := by decide +kernel
set_option maxRecDepth 100000 in
set_option maxHeartbeats 4000000 in
/-- enter -/
theorem c_X3_enter {l : Launch} {D : va_G} {G : Nat → Nat} {Z : Nat → ClassId} {mn fl : Int32} {va gv : Int64} {ts tw tm : Int32} {lv sl kd pt : Nat → Int32} {he : Nat → Int64} {ct fr to rl pi ph ps : Nat → Int32} {pm : Nat → Int64} {b n sN st : Nat} {T : Nat} (hst : st ≤ 120) (hT : T ≤ st) (x h : Int32) : WrV l yX3_enter wsX3_enter (rk 0) D (mty Z) (mw G Z (nI b) mn (nI n) (nI sN) (nI st) fl va (nI T - 1) gv ts tw tm lv sl kd pt he ct fr to rl pi ph ps pm) [.ref (G 0), .int x, .int h] (σ := MS) (fun u => mw G Z (nI b) mn (nI n) (nI sN) (nI u.1) u.2.1 u.2.2.1 (nI u.2.2.2.1 - 1) gv ts tw tm lv sl kd pt he u.2.2.2.2.1 fr to rl u.2.2.2.2.2.1 u.2.2.2.2.2.2.1 u.2.2.2.2.2.2.2.1 u.2.2.2.2.2.2.2.2) (fun u => u = enS x h (st, fl, va, T, ct, pi, ph, ps, pm)) 0 0 := by
  intro sz
  refine wrEnter (cc := cX3_enter) (maxL := 3) (ret := none) (by decide) rfl (Nat.le_of_ble_eq_true rfl) ?_
  intro p e s m below meth c hx hb hr hml hown hts hlk hP hK hN hsz hD hS hA hin ls hl
  have hown : s.vm.findClass RX3 = some m.cls := hown
  have hl : lv_has ls 3 [(0, .ref (G 0)), (1, .int x), (2, .int h)] := hl
  refine lv_iload_n hx hb dX3_enter_0 rfl (lv_at hl 1 rfl) ?_
  refine lv_iconst (v := (-1)) hx hb dX3_enter_1 (by decide) ?_
  refine lv_icmp_ne (tgt := 15) hx hb dX3_enter_2 (by decide) (fun c_2 => ?_) (fun c_2 => ?_)
  · refine lv_aload_n hx hb dX3_enter_15 rfl (lv_at hl 0 rfl) ?_
    refine va_get (D := D) (ci := 3) (v := .int (nI st)) (C := RX3) (T := TX3) (N := 25) hx hb hts iw_X3_enter_X3 hown hK hP 0 rfl rfl 13 (by decide) (hts (.fieldLink RX3 96 "SluiceRulesModel" "steps" "I") (by decide +kernel)) (fun _ h9 => h9) rfl dX3_enter_16 ?_
    refine lv_bipush (v := 120) hx hb dX3_enter_19 (by decide) ?_
    refine lv_icmp_ne (tgt := 34) hx hb dX3_enter_21 (by decide) (fun c_21 => ?_) (fun c_21 => ?_)
    · have s_n : ¬ st = 120 := fun z => c_21 (by rw [z]; rfl)
      have t_l : T < 120 := by omega
      refine lv_aload_n hx hb dX3_enter_34 rfl (lv_at hl 0 rfl) ?_
      refine lv_dup hx hb dX3_enter_35 rfl ?_
      refine va_get (D := D) (ci := 3) (v := .int (nI st)) (C := RX3) (T := TX3) (N := 25) hx hb hts iw_X3_enter_X3 hown hK hP 0 rfl rfl 13 (by decide) (hts (.fieldLink RX3 96 "SluiceRulesModel" "steps" "I") (by decide +kernel)) (fun _ h9 => h9) rfl dX3_enter_36 ?_
      refine lv_iconst (v := 1) hx hb dX3_enter_39 (by decide) ?_
      refine lv_iadd hx hb dX3_enter_40 ?_
      refine va_put (D := D) (ci := 3) (v := .int ((nI st) + 1)) (ty := .int) (C := RX3) (T := TX3) (N := 25) hx hb hts iw_X3_enter_X3 tyX3 tyX3_ok nmX3 hown hK hP hD hS 0 rfl rfl 13 (by decide) (hts (.fieldLink RX3 96 "SluiceRulesModel" "steps" "I") (by decide +kernel)) (fun _ h9 => h9) rfl (by decide +kernel) rfl rfl (Nat.le_of_ble_eq_true rfl) dX3_enter_41 (fun H locs hP hD hS => ?_)
      have hP : va_P D vwCl (mw G Z (nI b) mn (nI n) (nI sN) ((nI st) + 1) fl va (nI T - 1) gv ts tw tm lv sl kd pt he ct fr to rl pi ph ps pm) H := hP
      have hD : va_D (va_A (mw G Z (nI b) mn (nI n) (nI sN) (nI st) fl va (nI T - 1) gv ts tw tm lv sl kd pt he ct fr to rl pi ph ps pm) sz) (mw G Z (nI b) mn (nI n) (nI sN) ((nI st) + 1) fl va (nI T - 1) gv ts tw tm lv sl kd pt he ct fr to rl pi ph ps pm) := hD
      refine lv_aload_n hx hb dX3_enter_44 rfl (lv_at hl 0 rfl) ?_
      refine lv_dup hx hb dX3_enter_45 rfl ?_
      refine va_get (D := D) (ci := 3) (v := .int (nI T - 1)) (C := RX3) (T := TX3) (N := 25) hx hb hts iw_X3_enter_X3 hown hK hP 0 rfl rfl 16 (by decide) (hts (.fieldLink RX3 99 "SluiceRulesModel" "top" "I") (by decide +kernel)) (fun _ h9 => h9) rfl dX3_enter_46 ?_
      refine lv_iconst (v := 1) hx hb dX3_enter_49 (by decide) ?_
      refine lv_iadd hx hb dX3_enter_50 ?_
      refine va_put (D := D) (ci := 3) (v := .int ((nI T - 1) + 1)) (ty := .int) (C := RX3) (T := TX3) (N := 25) hx hb hts iw_X3_enter_X3 tyX3 tyX3_ok nmX3 hown hK hP hD hS 0 rfl rfl 16 (by decide) (hts (.fieldLink RX3 99 "SluiceRulesModel" "top" "I") (by decide +kernel)) (fun _ h9 => h9) rfl (by decide +kernel) rfl rfl (Nat.le_of_ble_eq_true rfl) dX3_enter_51 (fun H locs hP hD hS => ?_)
      have hP : va_P D vwCl (mw G Z (nI b) mn (nI n) (nI sN) ((nI st) + 1) fl va ((nI T - 1) + 1) gv ts tw tm lv sl kd pt he ct fr to rl pi ph ps pm) H := hP
      have hD : va_D (va_A (mw G Z (nI b) mn (nI n) (nI sN) (nI st) fl va (nI T - 1) gv ts tw tm lv sl kd pt he ct fr to rl pi ph ps pm) sz) (mw G Z (nI b) mn (nI n) (nI sN) ((nI st) + 1) fl va ((nI T - 1) + 1) gv ts tw tm lv sl kd pt he ct fr to rl pi ph ps pm) := hD
      refine lv_aload_n hx hb dX3_enter_54 rfl (lv_at hl 0 rfl) ?_
      refine va_get (D := D) (ci := 3) (v := .ref (G 10)) (C := RX3) (T := TX3) (N := 25) hx hb hts iw_X3_enter_X3 hown hK hP 0 rfl rfl 17 (by decide) (hts (.fieldLink RX3 42 "SluiceRulesModel" "pile" "[I") (by decide +kernel)) (fun _ h9 => h9) rfl dX3_enter_55 ?_
      refine lv_aload_n hx hb dX3_enter_58 rfl (lv_at hl 0 rfl) ?_
      refine va_get (D := D) (ci := 3) (v := .int ((nI T - 1) + 1)) (C := RX3) (T := TX3) (N := 25) hx hb hts iw_X3_enter_X3 hown hK hP 0 rfl rfl 16 (by decide) (hts (.fieldLink RX3 99 "SluiceRulesModel" "top" "I") (by decide +kernel)) (fun _ h9 => h9) rfl dX3_enter_59 ?_
      refine lv_iload_n hx hb dX3_enter_62 rfl (lv_at hl 1 rfl) ?_
      refine my_iast (j := T) hx hb hK hP hD hS 10 9 rfl rfl (tp1 T) (t_l) (by decide) dX3_enter_63 (fun H locs hP hD hS => ?_)
      have hP : va_P D vwCl (mw G Z (nI b) mn (nI n) (nI sN) ((nI st) + 1) fl va ((nI T - 1) + 1) gv ts tw tm lv sl kd pt he ct fr to rl (upd pi T x) ph ps pm) H := hP
      have hD : va_D (va_A (mw G Z (nI b) mn (nI n) (nI sN) (nI st) fl va (nI T - 1) gv ts tw tm lv sl kd pt he ct fr to rl pi ph ps pm) sz) (mw G Z (nI b) mn (nI n) (nI sN) ((nI st) + 1) fl va ((nI T - 1) + 1) gv ts tw tm lv sl kd pt he ct fr to rl (upd pi T x) ph ps pm) := hD
      refine lv_aload_n hx hb dX3_enter_64 rfl (lv_at hl 0 rfl) ?_
      refine va_get (D := D) (ci := 3) (v := .ref (G 11)) (C := RX3) (T := TX3) (N := 25) hx hb hts iw_X3_enter_X3 hown hK hP 0 rfl rfl 18 (by decide) (hts (.fieldLink RX3 45 "SluiceRulesModel" "pileHour" "[I") (by decide +kernel)) (fun _ h9 => h9) rfl dX3_enter_65 ?_
      refine lv_aload_n hx hb dX3_enter_68 rfl (lv_at hl 0 rfl) ?_
      refine va_get (D := D) (ci := 3) (v := .int ((nI T - 1) + 1)) (C := RX3) (T := TX3) (N := 25) hx hb hts iw_X3_enter_X3 hown hK hP 0 rfl rfl 16 (by decide) (hts (.fieldLink RX3 99 "SluiceRulesModel" "top" "I") (by decide +kernel)) (fun _ h9 => h9) rfl dX3_enter_69 ?_
      refine lv_iload_n hx hb dX3_enter_72 rfl (lv_at hl 2 rfl) ?_
      refine my_iast (j := T) hx hb hK hP hD hS 11 10 rfl rfl (tp1 T) (t_l) (by decide) dX3_enter_73 (fun H locs hP hD hS => ?_)
      have hP : va_P D vwCl (mw G Z (nI b) mn (nI n) (nI sN) ((nI st) + 1) fl va ((nI T - 1) + 1) gv ts tw tm lv sl kd pt he ct fr to rl (upd pi T x) (upd ph T h) ps pm) H := hP
      have hD : va_D (va_A (mw G Z (nI b) mn (nI n) (nI sN) (nI st) fl va (nI T - 1) gv ts tw tm lv sl kd pt he ct fr to rl pi ph ps pm) sz) (mw G Z (nI b) mn (nI n) (nI sN) ((nI st) + 1) fl va ((nI T - 1) + 1) gv ts tw tm lv sl kd pt he ct fr to rl (upd pi T x) (upd ph T h) ps pm) := hD
      refine lv_aload_n hx hb dX3_enter_74 rfl (lv_at hl 0 rfl) ?_
      refine va_get (D := D) (ci := 3) (v := .ref (G 12)) (C := RX3) (T := TX3) (N := 25) hx hb hts iw_X3_enter_X3 hown hK hP 0 rfl rfl 19 (by decide) (hts (.fieldLink RX3 48 "SluiceRulesModel" "pileState" "[I") (by decide +kernel)) (fun _ h9 => h9) rfl dX3_enter_75 ?_
      refine lv_aload_n hx hb dX3_enter_78 rfl (lv_at hl 0 rfl) ?_
      refine va_get (D := D) (ci := 3) (v := .int ((nI T - 1) + 1)) (C := RX3) (T := TX3) (N := 25) hx hb hts iw_X3_enter_X3 hown hK hP 0 rfl rfl 16 (by decide) (hts (.fieldLink RX3 99 "SluiceRulesModel" "top" "I") (by decide +kernel)) (fun _ h9 => h9) rfl dX3_enter_79 ?_
      refine lv_iconst (v := 0) hx hb dX3_enter_82 (by decide) ?_
      refine my_iast (j := T) hx hb hK hP hD hS 12 11 rfl rfl (tp1 T) (t_l) (by decide) dX3_enter_83 (fun H locs hP hD hS => ?_)
      have hP : va_P D vwCl (mw G Z (nI b) mn (nI n) (nI sN) ((nI st) + 1) fl va ((nI T - 1) + 1) gv ts tw tm lv sl kd pt he ct fr to rl (upd pi T x) (upd ph T h) (upd ps T 0) pm) H := hP
      have hD : va_D (va_A (mw G Z (nI b) mn (nI n) (nI sN) (nI st) fl va (nI T - 1) gv ts tw tm lv sl kd pt he ct fr to rl pi ph ps pm) sz) (mw G Z (nI b) mn (nI n) (nI sN) ((nI st) + 1) fl va ((nI T - 1) + 1) gv ts tw tm lv sl kd pt he ct fr to rl (upd pi T x) (upd ph T h) (upd ps T 0) pm) := hD
      refine lv_aload_n hx hb dX3_enter_84 rfl (lv_at hl 0 rfl) ?_
      refine va_get (D := D) (ci := 3) (v := .ref (G 13)) (C := RX3) (T := TX3) (N := 25) hx hb hts iw_X3_enter_X3 hown hK hP 0 rfl rfl 20 (by decide) (hts (.fieldLink RX3 51 "SluiceRulesModel" "pileSum" "[J") (by decide +kernel)) (fun _ h9 => h9) rfl dX3_enter_85 ?_
      refine lv_aload_n hx hb dX3_enter_88 rfl (lv_at hl 0 rfl) ?_
      refine va_get (D := D) (ci := 3) (v := .int ((nI T - 1) + 1)) (C := RX3) (T := TX3) (N := 25) hx hb hts iw_X3_enter_X3 hown hK hP 0 rfl rfl 16 (by decide) (hts (.fieldLink RX3 99 "SluiceRulesModel" "top" "I") (by decide +kernel)) (fun _ h9 => h9) rfl dX3_enter_89 ?_
      refine lv_lconst (v := 0) hx hb dX3_enter_92 (by decide) ?_
      refine my_last (j := T) hx hb hK hP hD hS 13 12 rfl rfl (tp1 T) (t_l) (by decide) dX3_enter_93 (fun H locs hP hD hS => ?_)
      have hP : va_P D vwCl (mw G Z (nI b) mn (nI n) (nI sN) ((nI st) + 1) fl va ((nI T - 1) + 1) gv ts tw tm lv sl kd pt he ct fr to rl (upd pi T x) (upd ph T h) (upd ps T 0) (vp_updL pm T 0)) H := hP
      have hD : va_D (va_A (mw G Z (nI b) mn (nI n) (nI sN) (nI st) fl va (nI T - 1) gv ts tw tm lv sl kd pt he ct fr to rl pi ph ps pm) sz) (mw G Z (nI b) mn (nI n) (nI sN) ((nI st) + 1) fl va ((nI T - 1) + 1) gv ts tw tm lv sl kd pt he ct fr to rl (upd pi T x) (upd ph T h) (upd ps T 0) (vp_updL pm T 0)) := hD
      have e9 : (nI T - 1) + 1 = nI (T + 1) - 1 := (tp1 T).trans (nI_pred T).symm
      have hP : va_P D vwCl (mw G Z (nI b) mn (nI n) (nI sN) ((nI st) + 1) fl va (nI (T + 1) - 1) gv ts tw tm lv sl kd pt he ct fr to rl (upd pi T x) (upd ph T h) (upd ps T 0) (vp_updL pm T 0)) H := (congrArg (fun z9 => va_P D vwCl (mw G Z (nI b) mn (nI n) (nI sN) ((nI st) + 1) fl va z9 gv ts tw tm lv sl kd pt he ct fr to rl (upd pi T x) (upd ph T h) (upd ps T 0) (vp_updL pm T 0)) H) e9).mp hP
      have hD : va_D (va_A (mw G Z (nI b) mn (nI n) (nI sN) (nI st) fl va (nI T - 1) gv ts tw tm lv sl kd pt he ct fr to rl pi ph ps pm) sz) (mw G Z (nI b) mn (nI n) (nI sN) ((nI st) + 1) fl va (nI (T + 1) - 1) gv ts tw tm lv sl kd pt he ct fr to rl (upd pi T x) (upd ph T h) (upd ps T 0) (vp_updL pm T 0)) := (congrArg (fun z9 => va_D (va_A (mw G Z (nI b) mn (nI n) (nI sN) (nI st) fl va (nI T - 1) gv ts tw tm lv sl kd pt he ct fr to rl pi ph ps pm) sz) (mw G Z (nI b) mn (nI n) (nI sN) ((nI st) + 1) fl va z9 gv ts tw tm lv sl kd pt he ct fr to rl (upd pi T x) (upd ph T h) (upd ps T 0) (vp_updL pm T 0))) e9).mp hD
      have e9 : (nI st) + 1 = nI (st + 1) := nI_1 st
      have hP : va_P D vwCl (mw G Z (nI b) mn (nI n) (nI sN) (nI (st + 1)) fl va (nI (T + 1) - 1) gv ts tw tm lv sl kd pt he ct fr to rl (upd pi T x) (upd ph T h) (upd ps T 0) (vp_updL pm T 0)) H := (congrArg (fun z9 => va_P D vwCl (mw G Z (nI b) mn (nI n) (nI sN) z9 fl va (nI (T + 1) - 1) gv ts tw tm lv sl kd pt he ct fr to rl (upd pi T x) (upd ph T h) (upd ps T 0) (vp_updL pm T 0)) H) e9).mp hP
      have hD : va_D (va_A (mw G Z (nI b) mn (nI n) (nI sN) (nI st) fl va (nI T - 1) gv ts tw tm lv sl kd pt he ct fr to rl pi ph ps pm) sz) (mw G Z (nI b) mn (nI n) (nI sN) (nI (st + 1)) fl va (nI (T + 1) - 1) gv ts tw tm lv sl kd pt he ct fr to rl (upd pi T x) (upd ph T h) (upd ps T 0) (vp_updL pm T 0)) := (congrArg (fun z9 => va_D (va_A (mw G Z (nI b) mn (nI n) (nI sN) (nI st) fl va (nI T - 1) gv ts tw tm lv sl kd pt he ct fr to rl pi ph ps pm) sz) (mw G Z (nI b) mn (nI n) (nI sN) z9 fl va (nI (T + 1) - 1) gv ts tw tm lv sl kd pt he ct fr to rl (upd pi T x) (upd ph T h) (upd ps T 0) (vp_updL pm T 0))) e9).mp hD
      exact wrV (st + 1, fl, va, T + 1, ct, upd pi T x, upd ph T h, upd ps T 0, vp_updL pm T 0) hx hb hr hlk dX3_enter_94 hP hD hS (by rw [enS, if_neg c_2, if_neg s_n])
    · have s_e : st = 120 := (nI_eq (b := 120) (by omega) (by decide)).mp c_21
      refine lv_aload_n hx hb dX3_enter_24 rfl (lv_at hl 0 rfl) ?_
      refine lv_sipush (v := (-202)) hx hb dX3_enter_25 (by decide) ?_
      refine va_put (D := D) (ci := 3) (v := .int (-202)) (ty := .int) (C := RX3) (T := TX3) (N := 25) hx hb hts iw_X3_enter_X3 tyX3 tyX3_ok nmX3 hown hK hP hD hS 0 rfl rfl 14 (by decide) (hts (.fieldLink RX3 89 "SluiceRulesModel" "failure" "I") (by decide +kernel)) (fun _ h9 => h9) rfl (by decide +kernel) rfl rfl (Nat.le_of_ble_eq_true rfl) dX3_enter_28 (fun H locs hP hD hS => ?_)
      have hP : va_P D vwCl (mw G Z (nI b) mn (nI n) (nI sN) (nI st) (-202) va (nI T - 1) gv ts tw tm lv sl kd pt he ct fr to rl pi ph ps pm) H := hP
      have hD : va_D (va_A (mw G Z (nI b) mn (nI n) (nI sN) (nI st) fl va (nI T - 1) gv ts tw tm lv sl kd pt he ct fr to rl pi ph ps pm) sz) (mw G Z (nI b) mn (nI n) (nI sN) (nI st) (-202) va (nI T - 1) gv ts tw tm lv sl kd pt he ct fr to rl pi ph ps pm) := hD
      refine lv_goto (tgt := 94) hx hb dX3_enter_31 (by decide) ?_
      exact wrV (st, -202, va, T, ct, pi, ph, ps, pm) hx hb hr hlk dX3_enter_94 hP hD hS (by rw [enS, if_neg c_2, if_pos s_e])
  · refine lv_aload_n hx hb dX3_enter_5 rfl (lv_at hl 0 rfl) ?_
    refine lv_sipush (v := (-201)) hx hb dX3_enter_6 (by decide) ?_
    refine va_put (D := D) (ci := 3) (v := .int (-201)) (ty := .int) (C := RX3) (T := TX3) (N := 25) hx hb hts iw_X3_enter_X3 tyX3 tyX3_ok nmX3 hown hK hP hD hS 0 rfl rfl 14 (by decide) (hts (.fieldLink RX3 89 "SluiceRulesModel" "failure" "I") (by decide +kernel)) (fun _ h9 => h9) rfl (by decide +kernel) rfl rfl (Nat.le_of_ble_eq_true rfl) dX3_enter_9 (fun H locs hP hD hS => ?_)
    have hP : va_P D vwCl (mw G Z (nI b) mn (nI n) (nI sN) (nI st) (-201) va (nI T - 1) gv ts tw tm lv sl kd pt he ct fr to rl pi ph ps pm) H := hP
    have hD : va_D (va_A (mw G Z (nI b) mn (nI n) (nI sN) (nI st) fl va (nI T - 1) gv ts tw tm lv sl kd pt he ct fr to rl pi ph ps pm) sz) (mw G Z (nI b) mn (nI n) (nI sN) (nI st) (-201) va (nI T - 1) gv ts tw tm lv sl kd pt he ct fr to rl pi ph ps pm) := hD
    refine lv_goto (tgt := 94) hx hb dX3_enter_12 (by decide) ?_
    exact wrV (st, -201, va, T, ct, pi, ph, ps, pm) hx hb hr hlk dX3_enter_94 hP hD hS (by rw [enS, if_pos c_2])

set_option maxRecDepth 100000 in
set_option maxHeartbeats 4000000 in
/-- downward -/
theorem c_X3_downward {l : Launch} {D : va_G} {tys : List (ClassId × FieldType)} {w : va_W} (x y : Int64) (hy : ¬ y = 0) : RoL l yX3_downward wsX3_downward (rk 0) D (tys) (w) [.long x, .long y] (fun r => r = sd x y) := by
  refine roEnter (cc := cX3_downward) (maxL := 6) (ret := (some .long)) (by decide) rfl (Nat.le_of_ble_eq_true rfl) ?_
  intro p e s m below meth c hx hb hr hml hown hts hlk hP hK hN ls hl
  have hown : s.vm.findClass RX3 = some m.cls := hown
  have hl : lv_has ls 6 [(0, .long x), (2, .long y)] := hl
  refine lv_lload_n hx hb dX3_downward_0 rfl (lv_at hl 0 rfl) ?_
  refine lv_lload_n hx hb dX3_downward_1 rfl (lv_at hl 1 rfl) ?_
  refine lv_ldiv hx hb dX3_downward_2 (hy) ?_
  refine lv_lstore (lv' := [(4, .long (x / y)), (0, .long x), (2, .long y)]) hx hb dX3_downward_3 hl (by decide) rfl (fun ls hl => ?_)
  refine lv_lload_n hx hb dX3_downward_5 rfl (lv_at hl 1 rfl) ?_
  refine lv_lload_n hx hb dX3_downward_6 rfl (lv_at hl 2 rfl) ?_
  refine lv_lrem hx hb dX3_downward_7 (hy) ?_
  refine lv_lconst (v := 0) hx hb dX3_downward_8 (by decide) ?_
  refine W.lcmp hx hb dX3_downward_9 ?_
  refine lv_if_ge (tgt := 20) hx hb dX3_downward_10 (by decide) (fun c_10 => ?_) (fun c_10 => ?_)
  · have c_10 := lc_gep c_10
    refine lv_lload hx hb dX3_downward_20 (lv_at hl 0 rfl) ?_
    exact roL hx hb hr hlk dX3_downward_22 (by rw [sd, if_neg c_10])
  · have c_10 := lc_gen c_10
    refine lv_lload hx hb dX3_downward_13 (lv_at hl 0 rfl) ?_
    refine lv_lconst (v := 1) hx hb dX3_downward_15 (by decide) ?_
    refine lv_lsub hx hb dX3_downward_16 ?_
    refine lv_goto (tgt := 22) hx hb dX3_downward_17 (by decide) ?_
    exact roL hx hb hr hlk dX3_downward_22 (by rw [sd, if_pos c_10])

theorem iw_X3_tide_X3 : ∀ w ∈ u_ws RX3 TX3 25, w ∈ wsX3_tide := by decide +kernel
set_option maxRecDepth 100000 in
set_option maxHeartbeats 4000000 in
/-- tide -/
theorem c_X3_tide {l : Launch} {D : va_G} {G : Nat → Nat} {Z : Nat → ClassId} {mn fl : Int32} {va gv : Int64} {tp ts tw tm : Int32} {lv sl kd pt : Nat → Int32} {he : Nat → Int64} {ct fr to rl pi ph ps : Nat → Int32} {pm : Nat → Int64} {b n sN st : Nat} (h : Int32) : RoL l yX3_tide wsX3_tide (rk 0) D (mty Z) (mw G Z (nI b) mn (nI n) (nI sN) (nI st) fl va tp gv ts tw tm lv sl kd pt he ct fr to rl pi ph ps pm) [.ref (G 0), .int h] (fun r => r = td mn h) := by
  refine roEnter (cc := cX3_tide) (maxL := 4) (ret := (some .long)) (by decide) rfl (Nat.le_of_ble_eq_true rfl) ?_
  intro p e s m below meth c hx hb hr hml hown hts hlk hP hK hN ls hl
  have hown : s.vm.findClass RX3 = some m.cls := hown
  have hl : lv_has ls 4 [(0, .ref (G 0)), (1, .int h)] := hl
  refine lv_iload_n hx hb dX3_tide_0 rfl (lv_at hl 1 rfl) ?_
  refine lv_i2l hx hb dX3_tide_1 rfl ?_
  refine lv_aload_n hx hb dX3_tide_2 rfl (lv_at hl 0 rfl) ?_
  refine va_get (D := D) (ci := 3) (v := .int mn) (C := RX3) (T := TX3) (N := 25) hx hb hts iw_X3_tide_X3 hown hK hP 0 rfl rfl 2 (by decide) (hts (.fieldLink RX3 13 "SluiceRulesModel" "moon" "I") (by decide +kernel)) (fun _ h9 => h9) rfl dX3_tide_3 ?_
  refine lv_i2l hx hb dX3_tide_6 rfl ?_
  refine lv_lmul hx hb dX3_tide_7 ?_
  refine lv_ldc2 (v := 12) hx hb hown (hts (.constantLong RX3 102 (12)) (by decide +kernel)) dX3_tide_8 ?_
  refine lv_lrem hx hb dX3_tide_11 (by decide) ?_
  refine lv_lstore_n (lv' := [(2, .long ((h.toInt64 * mn.toInt64) - (h.toInt64 * mn.toInt64) / 12 * 12)), (0, .ref (G 0)), (1, .int h)]) hx hb dX3_tide_12 rfl hl (by decide) rfl (fun ls hl => ?_)
  refine lv_lload_n hx hb dX3_tide_13 rfl (lv_at hl 0 rfl) ?_
  refine lv_lconst (v := 0) hx hb dX3_tide_14 (by decide) ?_
  refine W.lcmp hx hb dX3_tide_15 ?_
  refine lv_if_ge (tgt := 27) hx hb dX3_tide_16 (by decide) (fun c_16 => ?_) (fun c_16 => ?_)
  · have c_16 := lc_gep c_16
    refine lv_lload_n hx hb dX3_tide_27 rfl (lv_at hl 0 rfl) ?_
    refine lv_lstore_n (lv' := [(2, .long ((h.toInt64 * mn.toInt64) - (h.toInt64 * mn.toInt64) / 12 * 12)), (0, .ref (G 0)), (1, .int h)]) hx hb dX3_tide_28 rfl hl (by decide) rfl (fun ls hl => ?_)
    refine lv_lload_n hx hb dX3_tide_29 rfl (lv_at hl 0 rfl) ?_
    refine lv_ldc2 (v := 6) hx hb hown (hts (.constantLong RX3 104 (6)) (by decide +kernel)) dX3_tide_30 ?_
    refine W.lcmp hx hb dX3_tide_33 ?_
    refine lv_if_ge (tgt := 41) hx hb dX3_tide_34 (by decide) (fun c_34 => ?_) (fun c_34 => ?_)
    · have c_34 := lc_gep c_34
      refine lv_ldc2 (v := 12) hx hb hown (hts (.constantLong RX3 102 (12)) (by decide +kernel)) dX3_tide_41 ?_
      refine lv_lload_n hx hb dX3_tide_44 rfl (lv_at hl 0 rfl) ?_
      refine lv_lsub hx hb dX3_tide_45 ?_
      exact roL hx hb hr hlk dX3_tide_46 (by have e12 : td12 (h.toInt64 * mn.toInt64) = _ := if_neg c_16; rw [td, e12, if_neg c_34])
    · have c_34 := lc_gen c_34
      refine lv_lload_n hx hb dX3_tide_37 rfl (lv_at hl 0 rfl) ?_
      refine lv_goto (tgt := 46) hx hb dX3_tide_38 (by decide) ?_
      exact roL hx hb hr hlk dX3_tide_46 (by have e12 : td12 (h.toInt64 * mn.toInt64) = _ := if_neg c_16; rw [td, e12, if_pos c_34])
  · have c_16 := lc_gen c_16
    refine lv_lload_n hx hb dX3_tide_19 rfl (lv_at hl 0 rfl) ?_
    refine lv_ldc2 (v := 12) hx hb hown (hts (.constantLong RX3 102 (12)) (by decide +kernel)) dX3_tide_20 ?_
    refine lv_ladd hx hb dX3_tide_23 ?_
    refine lv_goto (tgt := 28) hx hb dX3_tide_24 (by decide) ?_
    refine lv_lstore_n (lv' := [(2, .long (((h.toInt64 * mn.toInt64) - (h.toInt64 * mn.toInt64) / 12 * 12) + 12)), (0, .ref (G 0)), (1, .int h)]) hx hb dX3_tide_28 rfl hl (by decide) rfl (fun ls hl => ?_)
    refine lv_lload_n hx hb dX3_tide_29 rfl (lv_at hl 0 rfl) ?_
    refine lv_ldc2 (v := 6) hx hb hown (hts (.constantLong RX3 104 (6)) (by decide +kernel)) dX3_tide_30 ?_
    refine W.lcmp hx hb dX3_tide_33 ?_
    refine lv_if_ge (tgt := 41) hx hb dX3_tide_34 (by decide) (fun c_34 => ?_) (fun c_34 => ?_)
    · have c_34 := lc_gep c_34
      refine lv_ldc2 (v := 12) hx hb hown (hts (.constantLong RX3 102 (12)) (by decide +kernel)) dX3_tide_41 ?_
      refine lv_lload_n hx hb dX3_tide_44 rfl (lv_at hl 0 rfl) ?_
      refine lv_lsub hx hb dX3_tide_45 ?_
      exact roL hx hb hr hlk dX3_tide_46 (by have e12 : td12 (h.toInt64 * mn.toInt64) = _ := if_pos c_16; rw [td, e12, if_neg c_34])
    · have c_34 := lc_gen c_34
      refine lv_lload_n hx hb dX3_tide_37 rfl (lv_at hl 0 rfl) ?_
      refine lv_goto (tgt := 46) hx hb dX3_tide_38 (by decide) ?_
      exact roL hx hb hr hlk dX3_tide_46 (by have e12 : td12 (h.toInt64 * mn.toInt64) = _ := if_pos c_16; rw [td, e12, if_pos c_34])

set_option maxRecDepth 100000 in
set_option maxHeartbeats 4000000 in
/-- joined -/
theorem c_X3_joined {l : Launch} {D : va_G} {tys : List (ClassId × FieldType)} {w : va_W} (k_ : Int32) (x y : Int64) : RoL l yX3_joined wsX3_joined (rk 0) D (tys) (w) [.int k_, .long x, .long y] (fun r => r = jn k_ x y) := by
  refine roEnter (cc := cX3_joined) (maxL := 5) (ret := (some .long)) (by decide) rfl (Nat.le_of_ble_eq_true rfl) ?_
  intro p e s m below meth c hx hb hr hml hown hts hlk hP hK hN ls hl
  have hown : s.vm.findClass RX3 = some m.cls := hown
  have hl : lv_has ls 5 [(0, .int k_), (1, .long x), (3, .long y)] := hl
  refine lv_iload_n hx hb dX3_joined_0 rfl (lv_at hl 0 rfl) ?_
  refine lv_iconst (v := 4) hx hb dX3_joined_1 (by decide) ?_
  refine lv_icmp_ne (tgt := 11) hx hb dX3_joined_2 (by decide) (fun c_2 => ?_) (fun c_2 => ?_)
  · refine lv_iload_n hx hb dX3_joined_11 rfl (lv_at hl 0 rfl) ?_
    refine lv_iconst (v := 5) hx hb dX3_joined_12 (by decide) ?_
    refine lv_icmp_ne (tgt := 22) hx hb dX3_joined_13 (by decide) (fun c_13 => ?_) (fun c_13 => ?_)
    · refine lv_iload_n hx hb dX3_joined_22 rfl (lv_at hl 0 rfl) ?_
      refine lv_bipush (v := 6) hx hb dX3_joined_23 (by decide) ?_
      refine lv_icmp_ne (tgt := 42) hx hb dX3_joined_25 (by decide) (fun c_25 => ?_) (fun c_25 => ?_)
      · refine lv_lload_n hx hb dX3_joined_42 rfl (lv_at hl 1 rfl) ?_
        refine lv_lload_n hx hb dX3_joined_43 rfl (lv_at hl 2 rfl) ?_
        refine W.lcmp hx hb dX3_joined_44 ?_
        refine lv_if_le (tgt := 52) hx hb dX3_joined_45 (by decide) (fun c_45 => ?_) (fun c_45 => ?_)
        · have c_45 := lc_lep c_45
          refine lv_lload_n hx hb dX3_joined_52 rfl (lv_at hl 2 rfl) ?_
          exact roL hx hb hr hlk dX3_joined_53 (by rw [jn, if_neg c_2, if_neg c_13, if_neg c_25, if_neg c_45])
        · have c_45 := lc_len c_45
          refine lv_lload_n hx hb dX3_joined_48 rfl (lv_at hl 1 rfl) ?_
          refine lv_goto (tgt := 53) hx hb dX3_joined_49 (by decide) ?_
          exact roL hx hb hr hlk dX3_joined_53 (by rw [jn, if_neg c_2, if_neg c_13, if_neg c_25, if_pos c_45])
      · refine lv_lload_n hx hb dX3_joined_28 rfl (lv_at hl 1 rfl) ?_
        refine lv_lload_n hx hb dX3_joined_29 rfl (lv_at hl 2 rfl) ?_
        refine W.lcmp hx hb dX3_joined_30 ?_
        refine lv_if_ge (tgt := 38) hx hb dX3_joined_31 (by decide) (fun c_31 => ?_) (fun c_31 => ?_)
        · have c_31 := lc_gep c_31
          refine lv_lload_n hx hb dX3_joined_38 rfl (lv_at hl 2 rfl) ?_
          refine lv_goto (tgt := 53) hx hb dX3_joined_39 (by decide) ?_
          exact roL hx hb hr hlk dX3_joined_53 (by rw [jn, if_neg c_2, if_neg c_13, if_pos c_25, if_neg c_31])
        · have c_31 := lc_gen c_31
          refine lv_lload_n hx hb dX3_joined_34 rfl (lv_at hl 1 rfl) ?_
          refine lv_goto (tgt := 53) hx hb dX3_joined_35 (by decide) ?_
          exact roL hx hb hr hlk dX3_joined_53 (by rw [jn, if_neg c_2, if_neg c_13, if_pos c_25, if_pos c_31])
    · refine lv_lload_n hx hb dX3_joined_16 rfl (lv_at hl 1 rfl) ?_
      refine lv_lload_n hx hb dX3_joined_17 rfl (lv_at hl 2 rfl) ?_
      refine lv_lsub hx hb dX3_joined_18 ?_
      refine lv_goto (tgt := 53) hx hb dX3_joined_19 (by decide) ?_
      exact roL hx hb hr hlk dX3_joined_53 (by rw [jn, if_neg c_2, if_pos c_13])
  · refine lv_lload_n hx hb dX3_joined_5 rfl (lv_at hl 1 rfl) ?_
    refine lv_lload_n hx hb dX3_joined_6 rfl (lv_at hl 2 rfl) ?_
    refine lv_ladd hx hb dX3_joined_7 ?_
    refine lv_goto (tgt := 53) hx hb dX3_joined_8 (by decide) ?_
    exact roL hx hb hr hlk dX3_joined_53 (by rw [jn, if_pos c_2])

theorem iw_X3_plain_X3 : ∀ w ∈ u_ws RX3 TX3 25, w ∈ wsX3_plain := by decide +kernel
set_option maxRecDepth 100000 in
set_option maxHeartbeats 4000000 in
/-- plain -/
theorem c_X3_plain {l : Launch} {D : va_G} {G : Nat → Nat} {Z : Nat → ClassId} {mn fl : Int32} {va gv : Int64} {ts tw tm : Int32} {lv sl kd pt : Nat → Int32} {he : Nat → Int64} {ct fr to rl pi ph ps : Nat → Int32} {pm : Nat → Int64} {b n sN st : Nat} {t k : Nat} (hk : k < n) (hn40 : n ≤ 40) (hst : st ≤ 120) (ht : t + 1 ≤ st) (hb8 : b ≤ 8) (hw : wfR b n kd pt k) (hkd : kd k = 0 ∨ kd k = 1 ∨ kd k = 2 ∨ kd k = 3 ∨ kd k = 12 ∨ kd k = 14) (h : Int32) : WrV l yX3_plain wsX3_plain (rk 1) D (mty Z) (mw G Z (nI b) mn (nI n) (nI sN) (nI st) fl va (nI (t + 1) - 1) gv ts tw tm lv sl kd pt he ct fr to rl pi ph ps pm) [.ref (G 0), .int (nI k), .int h] (σ := MS) (fun u => mw G Z (nI b) mn (nI n) (nI sN) (nI u.1) u.2.1 u.2.2.1 (nI u.2.2.2.1 - 1) gv ts tw tm lv sl kd pt he u.2.2.2.2.1 fr to rl u.2.2.2.2.2.1 u.2.2.2.2.2.2.1 u.2.2.2.2.2.2.2.1 u.2.2.2.2.2.2.2.2) (fun u => u = gvS (lf (n, mn, lv, sl, kd, pt, he) k h ct) (st, fl, va, t + 1, ct, pi, ph, ps, pm)) 0 0 := by
  intro sz
  refine wrEnter (cc := cX3_plain) (maxL := 4) (ret := none) (by decide) rfl (Nat.le_of_ble_eq_true rfl) ?_
  intro p e s m below meth c hx hb hr hml hown hts hlk hP hK hN hsz hD hS hA hin ls hl
  have hown : s.vm.findClass RX3 = some m.cls := hown
  have hl : lv_has ls 4 [(0, .ref (G 0)), (1, .int (nI k)), (2, .int h)] := hl
  refine lv_aload_n hx hb dX3_plain_0 rfl (lv_at hl 0 rfl) ?_
  refine va_get (D := D) (ci := 3) (v := .ref (G 4)) (C := RX3) (T := TX3) (N := 25) hx hb hts iw_X3_plain_X3 hown hK hP 0 rfl rfl 6 (by decide) (hts (.fieldLink RX3 23 "SluiceRulesModel" "parts" "[I") (by decide +kernel)) (fun _ h9 => h9) rfl dX3_plain_1 ?_
  refine lv_iconst (v := 5) hx hb dX3_plain_4 (by decide) ?_
  refine lv_iload_n hx hb dX3_plain_5 rfl (lv_at hl 1 rfl) ?_
  refine lv_imul hx hb dX3_plain_6 ?_
  refine my_iald (j := 5 * k) hx hb hK hP 4 3 rfl rfl (mul5 k) (by omega) (by decide) dX3_plain_7 ?_
  refine lv_istore_n (lv' := [(3, .int (pt (5 * k))), (0, .ref (G 0)), (1, .int (nI k)), (2, .int h)]) hx hb dX3_plain_8 rfl hl (by decide) rfl (fun ls hl => ?_)
  refine lv_aload_n hx hb dX3_plain_9 rfl (lv_at hl 1 rfl) ?_
  refine va_get (D := D) (ci := 3) (v := .ref (G 3)) (C := RX3) (T := TX3) (N := 25) hx hb hts iw_X3_plain_X3 hown hK hP 0 rfl rfl 5 (by decide) (hts (.fieldLink RX3 20 "SluiceRulesModel" "kindOf" "[I") (by decide +kernel)) (fun _ h9 => h9) rfl dX3_plain_10 ?_
  refine lv_iload_n hx hb dX3_plain_13 rfl (lv_at hl 2 rfl) ?_
  refine my_iald (j := k) hx hb hK hP 3 2 rfl rfl (rfl) (by omega) (by decide) dX3_plain_14 ?_
  by_cases k_15_0 : (kd k) = 0
  · refine lv_tableIn (off := 65) (tgt := 80) hx hb dX3_plain_15 (by rw [k_15_0]; decide) (by rw [k_15_0]; decide) (by rw [k_15_0]; rfl) (by decide) ?_
    refine lv_aload_n hx hb dX3_plain_80 rfl (lv_at hl 1 rfl) ?_
    refine lv_iload_n hx hb dX3_plain_81 rfl (lv_at hl 0 rfl) ?_
    refine lv_i2l hx hb dX3_plain_82 rfl ?_
    refine WrV.callV (As := [.long ((pt (5 * k)).toInt64)]) (rest := []) (c_X3_gives ((pt (5 * k)).toInt64)) ⟨hx, hb, hml, hown, hts⟩ (cwV 1 hts gX3_plain_X3_gives rfl rfl rfl (by decide +kernel) ⟨by decide, by decide⟩) hP hD hS hA hK hN 0 3 rfl rfl rfl hl.1 rfl (Nat.le_of_ble_eq_true rfl) dX3_plain_83 ⟨Nat.le_of_ble_eq_true rfl, Nat.le_of_ble_eq_true rfl⟩ (fun ur_1 H locs hr_1 hP hD hS => ?_)
    refine lv_goto (tgt := 148) hx hb dX3_plain_86 (by decide) ?_
    exact wrV ur_1 hx hb hr hlk dX3_plain_148 hP hD hS (by rw [hr_1]; simp [lf, k_15_0])
  by_cases k_15_1 : (kd k) = 1
  · refine lv_tableIn (off := 74) (tgt := 89) hx hb dX3_plain_15 (by rw [k_15_1]; decide) (by rw [k_15_1]; decide) (by rw [k_15_1]; rfl) (by decide) ?_
    refine lv_aload_n hx hb dX3_plain_89 rfl (lv_at hl 1 rfl) ?_
    refine lv_aload_n hx hb dX3_plain_90 rfl (lv_at hl 1 rfl) ?_
    refine va_get (D := D) (ci := 3) (v := .ref (G 1)) (C := RX3) (T := TX3) (N := 25) hx hb hts iw_X3_plain_X3 hown hK hP 0 rfl rfl 1 (by decide) (hts (.fieldLink RX3 7 "SluiceRulesModel" "levels" "[I") (by decide +kernel)) (fun _ h9 => h9) rfl dX3_plain_91 ?_
    refine lv_iload_n hx hb dX3_plain_94 rfl (lv_at hl 0 rfl) ?_
    refine va_iald hx hb hK hP 1 0 rfl rfl (inB_vp.mp (inB_up hb8 (wf_1 hw k_15_1))) dX3_plain_95 ?_
    refine lv_i2l hx hb dX3_plain_96 rfl ?_
    refine WrV.callV (As := [.long ((lv (pt (5 * k)).toNatClampNeg).toInt64)]) (rest := []) (c_X3_gives ((lv (pt (5 * k)).toNatClampNeg).toInt64)) ⟨hx, hb, hml, hown, hts⟩ (cwV 1 hts gX3_plain_X3_gives rfl rfl rfl (by decide +kernel) ⟨by decide, by decide⟩) hP hD hS hA hK hN 0 3 rfl rfl rfl hl.1 rfl (Nat.le_of_ble_eq_true rfl) dX3_plain_97 ⟨Nat.le_of_ble_eq_true rfl, Nat.le_of_ble_eq_true rfl⟩ (fun ur_2 H locs hr_2 hP hD hS => ?_)
    refine lv_goto (tgt := 148) hx hb dX3_plain_100 (by decide) ?_
    exact wrV ur_2 hx hb hr hlk dX3_plain_148 hP hD hS (by rw [hr_2]; simp [lf, k_15_1])
  by_cases k_15_2 : (kd k) = 2
  · refine lv_tableIn (off := 88) (tgt := 103) hx hb dX3_plain_15 (by rw [k_15_2]; decide) (by rw [k_15_2]; decide) (by rw [k_15_2]; rfl) (by decide) ?_
    refine lv_aload_n hx hb dX3_plain_103 rfl (lv_at hl 1 rfl) ?_
    refine lv_aload_n hx hb dX3_plain_104 rfl (lv_at hl 1 rfl) ?_
    refine lv_iload_n hx hb dX3_plain_105 rfl (lv_at hl 3 rfl) ?_
    refine RoL.callV (As := [.int h]) (rest := [.ref (G 0)]) (c_X3_tide h) ⟨hx, hb, hml, hown, hts⟩ (cwV 1 hts gX3_plain_X3_tide rfl rfl rfl (by decide +kernel) ⟨by decide, by decide⟩) hP hK hN 0 3 rfl rfl rfl hl.1 rfl (Nat.le_of_ble_eq_true rfl) dX3_plain_106 ⟨Nat.le_of_ble_eq_true rfl, Nat.le_of_ble_eq_true rfl⟩ (fun r_3 hr_3 => ?_)
    refine WrV.callV (As := [.long r_3]) (rest := []) (c_X3_gives r_3) ⟨hx, hb, hml, hown, hts⟩ (cwV 1 hts gX3_plain_X3_gives rfl rfl rfl (by decide +kernel) ⟨by decide, by decide⟩) hP hD hS hA hK hN 0 3 rfl rfl rfl hl.1 rfl (Nat.le_of_ble_eq_true rfl) dX3_plain_109 ⟨Nat.le_of_ble_eq_true rfl, Nat.le_of_ble_eq_true rfl⟩ (fun ur_4 H locs hr_4 hP hD hS => ?_)
    refine lv_goto (tgt := 148) hx hb dX3_plain_112 (by decide) ?_
    exact wrV ur_4 hx hb hr hlk dX3_plain_148 hP hD hS (by rw [hr_4, hr_3]; simp [lf, k_15_2])
  by_cases k_15_3 : (kd k) = 3
  · refine lv_tableIn (off := 100) (tgt := 115) hx hb dX3_plain_15 (by rw [k_15_3]; decide) (by rw [k_15_3]; decide) (by rw [k_15_3]; rfl) (by decide) ?_
    refine lv_aload_n hx hb dX3_plain_115 rfl (lv_at hl 1 rfl) ?_
    refine lv_iload_n hx hb dX3_plain_116 rfl (lv_at hl 3 rfl) ?_
    refine lv_i2l hx hb dX3_plain_117 rfl ?_
    refine WrV.callV (As := [.long h.toInt64]) (rest := []) (c_X3_gives h.toInt64) ⟨hx, hb, hml, hown, hts⟩ (cwV 1 hts gX3_plain_X3_gives rfl rfl rfl (by decide +kernel) ⟨by decide, by decide⟩) hP hD hS hA hK hN 0 3 rfl rfl rfl hl.1 rfl (Nat.le_of_ble_eq_true rfl) dX3_plain_118 ⟨Nat.le_of_ble_eq_true rfl, Nat.le_of_ble_eq_true rfl⟩ (fun ur_5 H locs hr_5 hP hD hS => ?_)
    refine lv_goto (tgt := 148) hx hb dX3_plain_121 (by decide) ?_
    exact wrV ur_5 hx hb hr hlk dX3_plain_148 hP hD hS (by rw [hr_5]; simp [lf, k_15_3])
  by_cases k_15_12 : (kd k) = 12
  · refine lv_tableIn (off := 109) (tgt := 124) hx hb dX3_plain_15 (by rw [k_15_12]; decide) (by rw [k_15_12]; decide) (by rw [k_15_12]; rfl) (by decide) ?_
    refine lv_aload_n hx hb dX3_plain_124 rfl (lv_at hl 1 rfl) ?_
    refine lv_aload_n hx hb dX3_plain_125 rfl (lv_at hl 1 rfl) ?_
    refine va_get (D := D) (ci := 3) (v := .ref (G 5)) (C := RX3) (T := TX3) (N := 25) hx hb hts iw_X3_plain_X3 hown hK hP 0 rfl rfl 7 (by decide) (hts (.fieldLink RX3 26 "SluiceRulesModel" "held" "[J") (by decide +kernel)) (fun _ h9 => h9) rfl dX3_plain_126 ?_
    refine lv_iload_n hx hb dX3_plain_129 rfl (lv_at hl 2 rfl) ?_
    refine my_lald (j := k) hx hb hK hP 5 4 rfl rfl (rfl) (by omega) (by decide) dX3_plain_130 ?_
    refine WrV.callV (As := [.long (he k)]) (rest := []) (c_X3_gives (he k)) ⟨hx, hb, hml, hown, hts⟩ (cwV 1 hts gX3_plain_X3_gives rfl rfl rfl (by decide +kernel) ⟨by decide, by decide⟩) hP hD hS hA hK hN 0 3 rfl rfl rfl hl.1 rfl (Nat.le_of_ble_eq_true rfl) dX3_plain_131 ⟨Nat.le_of_ble_eq_true rfl, Nat.le_of_ble_eq_true rfl⟩ (fun ur_6 H locs hr_6 hP hD hS => ?_)
    refine lv_goto (tgt := 148) hx hb dX3_plain_134 (by decide) ?_
    exact wrV ur_6 hx hb hr hlk dX3_plain_148 hP hD hS (by rw [hr_6]; simp [lf, k_15_12])
  · have z_15 : ¬ (kd k).toInt = 0 ∧ ¬ (kd k).toInt = 1 ∧ ¬ (kd k).toInt = 2 ∧ ¬ (kd k).toInt = 3 ∧ ¬ (kd k).toInt = 12 := by
      exact ⟨lv_neT k_15_0 (by decide), lv_neT k_15_1 (by decide), lv_neT k_15_2 (by decide), lv_neT k_15_3 (by decide), lv_neT k_15_12 (by decide)⟩
    by_cases zo_15 : (kd k).toInt < 0 ∨ 12 < (kd k).toInt
    · refine lv_tableOut (tgt := 137) hx hb dX3_plain_15 zo_15 (by decide) ?_
      have k14 : kd k = 14 := by simpa [k_15_0, k_15_1, k_15_2, k_15_3, k_15_12] using hkd
      refine lv_aload_n hx hb dX3_plain_137 rfl (lv_at hl 1 rfl) ?_
      refine lv_aload_n hx hb dX3_plain_138 rfl (lv_at hl 1 rfl) ?_
      refine va_get (D := D) (ci := 3) (v := .ref (G 6)) (C := RX3) (T := TX3) (N := 25) hx hb hts iw_X3_plain_X3 hown hK hP 0 rfl rfl 8 (by decide) (hts (.fieldLink RX3 30 "SluiceRulesModel" "counter" "[I") (by decide +kernel)) (fun _ h9 => h9) rfl dX3_plain_139 ?_
      refine lv_iload_n hx hb dX3_plain_142 rfl (lv_at hl 0 rfl) ?_
      refine va_iald hx hb hK hP 6 5 rfl rfl (inB_vp.mp (inB_up hn40 (wf_14 hw k14).1)) dX3_plain_143 ?_
      refine lv_i2l hx hb dX3_plain_144 rfl ?_
      refine WrV.callV (As := [.long ((ct (pt (5 * k)).toNatClampNeg).toInt64)]) (rest := []) (c_X3_gives ((ct (pt (5 * k)).toNatClampNeg).toInt64)) ⟨hx, hb, hml, hown, hts⟩ (cwV 1 hts gX3_plain_X3_gives rfl rfl rfl (by decide +kernel) ⟨by decide, by decide⟩) hP hD hS hA hK hN 0 3 rfl rfl rfl hl.1 rfl (Nat.le_of_ble_eq_true rfl) dX3_plain_145 ⟨Nat.le_of_ble_eq_true rfl, Nat.le_of_ble_eq_true rfl⟩ (fun ur_7 H locs hr_7 hP hD hS => ?_)
      exact wrV ur_7 hx hb hr hlk dX3_plain_148 hP hD hS (by rw [hr_7]; simp [lf, k14])
    · have zi_15 : (kd k).toInt = 4 ∨ (kd k).toInt = 5 ∨ (kd k).toInt = 6 ∨ (kd k).toInt = 7 ∨ (kd k).toInt = 8 ∨ (kd k).toInt = 9 ∨ (kd k).toInt = 10 ∨ (kd k).toInt = 11 := by omega
      refine lv_tableIn (off := 122) (tgt := 137) hx hb dX3_plain_15 (by omega) (by omega) (by rcases zi_15 with z | z | z | z | z | z | z | z <;> rw [z] <;> rfl) (by decide) ?_
      have k14 : kd k = 14 := by simpa [k_15_0, k_15_1, k_15_2, k_15_3, k_15_12] using hkd
      refine lv_aload_n hx hb dX3_plain_137 rfl (lv_at hl 1 rfl) ?_
      refine lv_aload_n hx hb dX3_plain_138 rfl (lv_at hl 1 rfl) ?_
      refine va_get (D := D) (ci := 3) (v := .ref (G 6)) (C := RX3) (T := TX3) (N := 25) hx hb hts iw_X3_plain_X3 hown hK hP 0 rfl rfl 8 (by decide) (hts (.fieldLink RX3 30 "SluiceRulesModel" "counter" "[I") (by decide +kernel)) (fun _ h9 => h9) rfl dX3_plain_139 ?_
      refine lv_iload_n hx hb dX3_plain_142 rfl (lv_at hl 0 rfl) ?_
      refine va_iald hx hb hK hP 6 5 rfl rfl (inB_vp.mp (inB_up hn40 (wf_14 hw k14).1)) dX3_plain_143 ?_
      refine lv_i2l hx hb dX3_plain_144 rfl ?_
      refine WrV.callV (As := [.long ((ct (pt (5 * k)).toNatClampNeg).toInt64)]) (rest := []) (c_X3_gives ((ct (pt (5 * k)).toNatClampNeg).toInt64)) ⟨hx, hb, hml, hown, hts⟩ (cwV 1 hts gX3_plain_X3_gives rfl rfl rfl (by decide +kernel) ⟨by decide, by decide⟩) hP hD hS hA hK hN 0 3 rfl rfl rfl hl.1 rfl (Nat.le_of_ble_eq_true rfl) dX3_plain_145 ⟨Nat.le_of_ble_eq_true rfl, Nat.le_of_ble_eq_true rfl⟩ (fun ur_8 H locs hr_8 hP hD hS => ?_)
      exact wrV ur_8 hx hb hr hlk dX3_plain_148 hP hD hS (by rw [hr_8]; simp [lf, k14])

theorem iw_X3_behind_X3 : ∀ w ∈ u_ws RX3 TX3 25, w ∈ wsX3_behind := by decide +kernel
set_option maxRecDepth 100000 in
set_option maxHeartbeats 4000000 in
/-- behind -/
theorem c_X3_behind {l : Launch} {D : va_G} {G : Nat → Nat} {Z : Nat → ClassId} {mn fl : Int32} {va gv : Int64} {ts tw tm : Int32} {lv sl kd pt : Nat → Int32} {he : Nat → Int64} {ct fr to rl pi ph ps : Nat → Int32} {pm : Nat → Int64} {b n sN st : Nat} {t k : Nat} (hk : k < n) (hn40 : n ≤ 40) (hst : st ≤ 120) (ht : t + 1 ≤ st) (hc8 : kd k = 8 → ¬ (pt (5 * k + 2)).toInt64 = 0) : WrV l yX3_behind wsX3_behind (rk 1) D (mty Z) (mw G Z (nI b) mn (nI n) (nI sN) (nI st) fl va (nI (t + 1) - 1) gv ts tw tm lv sl kd pt he ct fr to rl pi ph ps pm) [.ref (G 0), .int (nI k)] (σ := MS) (fun u => mw G Z (nI b) mn (nI n) (nI sN) (nI u.1) u.2.1 u.2.2.1 (nI u.2.2.2.1 - 1) gv ts tw tm lv sl kd pt he u.2.2.2.2.1 fr to rl u.2.2.2.2.2.1 u.2.2.2.2.2.2.1 u.2.2.2.2.2.2.2.1 u.2.2.2.2.2.2.2.2) (fun u => u = bhK kd pt k (st, fl, va, t + 1, ct, pi, ph, ps, pm)) 0 0 := by
  intro sz
  refine wrEnter (cc := cX3_behind) (maxL := 4) (ret := none) (by decide) rfl (Nat.le_of_ble_eq_true rfl) ?_
  intro p e s m below meth c hx hb hr hml hown hts hlk hP hK hN hsz hD hS hA hin ls hl
  have hown : s.vm.findClass RX3 = some m.cls := hown
  have hl : lv_has ls 4 [(0, .ref (G 0)), (1, .int (nI k))] := hl
  refine lv_aload_n hx hb dX3_behind_0 rfl (lv_at hl 0 rfl) ?_
  refine va_get (D := D) (ci := 3) (v := .ref (G 4)) (C := RX3) (T := TX3) (N := 25) hx hb hts iw_X3_behind_X3 hown hK hP 0 rfl rfl 6 (by decide) (hts (.fieldLink RX3 23 "SluiceRulesModel" "parts" "[I") (by decide +kernel)) (fun _ h9 => h9) rfl dX3_behind_1 ?_
  refine lv_iconst (v := 5) hx hb dX3_behind_4 (by decide) ?_
  refine lv_iload_n hx hb dX3_behind_5 rfl (lv_at hl 1 rfl) ?_
  refine lv_imul hx hb dX3_behind_6 ?_
  refine lv_iconst (v := 1) hx hb dX3_behind_7 (by decide) ?_
  refine lv_iadd hx hb dX3_behind_8 ?_
  refine my_iald (j := 5 * k + 1) hx hb hK hP 4 3 rfl rfl (mul51 k) (by omega) (by decide) dX3_behind_9 ?_
  refine lv_istore_n (lv' := [(2, .int (pt (5 * k + 1))), (0, .ref (G 0)), (1, .int (nI k))]) hx hb dX3_behind_10 rfl hl (by decide) rfl (fun ls hl => ?_)
  refine lv_aload_n hx hb dX3_behind_11 rfl (lv_at hl 1 rfl) ?_
  refine va_get (D := D) (ci := 3) (v := .ref (G 4)) (C := RX3) (T := TX3) (N := 25) hx hb hts iw_X3_behind_X3 hown hK hP 0 rfl rfl 6 (by decide) (hts (.fieldLink RX3 23 "SluiceRulesModel" "parts" "[I") (by decide +kernel)) (fun _ h9 => h9) rfl dX3_behind_12 ?_
  refine lv_iconst (v := 5) hx hb dX3_behind_15 (by decide) ?_
  refine lv_iload_n hx hb dX3_behind_16 rfl (lv_at hl 2 rfl) ?_
  refine lv_imul hx hb dX3_behind_17 ?_
  refine lv_iconst (v := 2) hx hb dX3_behind_18 (by decide) ?_
  refine lv_iadd hx hb dX3_behind_19 ?_
  refine my_iald (j := 5 * k + 2) hx hb hK hP 4 3 rfl rfl (mul52 k) (by omega) (by decide) dX3_behind_20 ?_
  refine lv_istore_n (lv' := [(3, .int (pt (5 * k + 2))), (2, .int (pt (5 * k + 1))), (0, .ref (G 0)), (1, .int (nI k))]) hx hb dX3_behind_21 rfl hl (by decide) rfl (fun ls hl => ?_)
  refine lv_aload_n hx hb dX3_behind_22 rfl (lv_at hl 2 rfl) ?_
  refine va_get (D := D) (ci := 3) (v := .ref (G 3)) (C := RX3) (T := TX3) (N := 25) hx hb hts iw_X3_behind_X3 hown hK hP 0 rfl rfl 5 (by decide) (hts (.fieldLink RX3 20 "SluiceRulesModel" "kindOf" "[I") (by decide +kernel)) (fun _ h9 => h9) rfl dX3_behind_23 ?_
  refine lv_iload_n hx hb dX3_behind_26 rfl (lv_at hl 3 rfl) ?_
  refine my_iald (j := k) hx hb hK hP 3 2 rfl rfl (rfl) (by omega) (by decide) dX3_behind_27 ?_
  refine lv_bipush (v := 8) hx hb dX3_behind_28 (by decide) ?_
  refine lv_icmp_ne (tgt := 52) hx hb dX3_behind_30 (by decide) (fun c_30 => ?_) (fun c_30 => ?_)
  · refine lv_aload_n hx hb dX3_behind_52 rfl (lv_at hl 2 rfl) ?_
    refine va_get (D := D) (ci := 3) (v := .ref (G 3)) (C := RX3) (T := TX3) (N := 25) hx hb hts iw_X3_behind_X3 hown hK hP 0 rfl rfl 5 (by decide) (hts (.fieldLink RX3 20 "SluiceRulesModel" "kindOf" "[I") (by decide +kernel)) (fun _ h9 => h9) rfl dX3_behind_53 ?_
    refine lv_iload_n hx hb dX3_behind_56 rfl (lv_at hl 3 rfl) ?_
    refine my_iald (j := k) hx hb hK hP 3 2 rfl rfl (rfl) (by omega) (by decide) dX3_behind_57 ?_
    refine lv_bipush (v := 11) hx hb dX3_behind_58 (by decide) ?_
    refine lv_icmp_ne (tgt := 122) hx hb dX3_behind_60 (by decide) (fun c_60 => ?_) (fun c_60 => ?_)
    · refine lv_aload_n hx hb dX3_behind_122 rfl (lv_at hl 2 rfl) ?_
      refine lv_aload_n hx hb dX3_behind_123 rfl (lv_at hl 2 rfl) ?_
      refine va_get (D := D) (ci := 3) (v := .long va) (C := RX3) (T := TX3) (N := 25) hx hb hts iw_X3_behind_X3 hown hK hP 0 rfl rfl 15 (by decide) (hts (.fieldLink RX3 92 "SluiceRulesModel" "value" "J") (by decide +kernel)) (fun _ h9 => h9) rfl dX3_behind_124 ?_
      refine WrV.callV (As := [.long va]) (rest := []) (c_X3_gives va) ⟨hx, hb, hml, hown, hts⟩ (cwV 1 hts gX3_behind_X3_gives rfl rfl rfl (by decide +kernel) ⟨by decide, by decide⟩) hP hD hS hA hK hN 0 3 rfl rfl rfl hl.1 rfl (Nat.le_of_ble_eq_true rfl) dX3_behind_127 ⟨Nat.le_of_ble_eq_true rfl, Nat.le_of_ble_eq_true rfl⟩ (fun ur_1 H locs hr_1 hP hD hS => ?_)
      exact wrV ur_1 hx hb hr hlk dX3_behind_130 hP hD hS (by rw [hr_1, bhK, if_neg c_30, if_neg c_60])
    · refine lv_aload_n hx hb dX3_behind_63 rfl (lv_at hl 2 rfl) ?_
      refine lv_aload_n hx hb dX3_behind_64 rfl (lv_at hl 2 rfl) ?_
      refine va_get (D := D) (ci := 3) (v := .long va) (C := RX3) (T := TX3) (N := 25) hx hb hts iw_X3_behind_X3 hown hK hP 0 rfl rfl 15 (by decide) (hts (.fieldLink RX3 92 "SluiceRulesModel" "value" "J") (by decide +kernel)) (fun _ h9 => h9) rfl dX3_behind_65 ?_
      refine lv_aload_n hx hb dX3_behind_68 rfl (lv_at hl 2 rfl) ?_
      refine va_get (D := D) (ci := 3) (v := .ref (G 4)) (C := RX3) (T := TX3) (N := 25) hx hb hts iw_X3_behind_X3 hown hK hP 0 rfl rfl 6 (by decide) (hts (.fieldLink RX3 23 "SluiceRulesModel" "parts" "[I") (by decide +kernel)) (fun _ h9 => h9) rfl dX3_behind_69 ?_
      refine lv_iconst (v := 5) hx hb dX3_behind_72 (by decide) ?_
      refine lv_iload_n hx hb dX3_behind_73 rfl (lv_at hl 3 rfl) ?_
      refine lv_imul hx hb dX3_behind_74 ?_
      refine lv_iconst (v := 3) hx hb dX3_behind_75 (by decide) ?_
      refine lv_iadd hx hb dX3_behind_76 ?_
      refine my_iald (j := 5 * k + 3) hx hb hK hP 4 3 rfl rfl (mul53 k) (by omega) (by decide) dX3_behind_77 ?_
      refine lv_i2l hx hb dX3_behind_78 rfl ?_
      refine W.lcmp hx hb dX3_behind_79 ?_
      refine lv_if_ge (tgt := 88) hx hb dX3_behind_80 (by decide) (fun c_80 => ?_) (fun c_80 => ?_)
      · have c_80 := lc_gep c_80
        refine lv_aload_n hx hb dX3_behind_88 rfl (lv_at hl 2 rfl) ?_
        refine va_get (D := D) (ci := 3) (v := .long va) (C := RX3) (T := TX3) (N := 25) hx hb hts iw_X3_behind_X3 hown hK hP 0 rfl rfl 15 (by decide) (hts (.fieldLink RX3 92 "SluiceRulesModel" "value" "J") (by decide +kernel)) (fun _ h9 => h9) rfl dX3_behind_89 ?_
        refine lv_aload_n hx hb dX3_behind_92 rfl (lv_at hl 2 rfl) ?_
        refine va_get (D := D) (ci := 3) (v := .ref (G 4)) (C := RX3) (T := TX3) (N := 25) hx hb hts iw_X3_behind_X3 hown hK hP 0 rfl rfl 6 (by decide) (hts (.fieldLink RX3 23 "SluiceRulesModel" "parts" "[I") (by decide +kernel)) (fun _ h9 => h9) rfl dX3_behind_93 ?_
        refine lv_iconst (v := 5) hx hb dX3_behind_96 (by decide) ?_
        refine lv_iload_n hx hb dX3_behind_97 rfl (lv_at hl 3 rfl) ?_
        refine lv_imul hx hb dX3_behind_98 ?_
        refine lv_iconst (v := 4) hx hb dX3_behind_99 (by decide) ?_
        refine lv_iadd hx hb dX3_behind_100 ?_
        refine my_iald (j := 5 * k + 4) hx hb hK hP 4 3 rfl rfl (mul54 k) (by omega) (by decide) dX3_behind_101 ?_
        refine lv_i2l hx hb dX3_behind_102 rfl ?_
        refine W.lcmp hx hb dX3_behind_103 ?_
        refine lv_if_le (tgt := 112) hx hb dX3_behind_104 (by decide) (fun c_104 => ?_) (fun c_104 => ?_)
        · have c_104 := lc_lep c_104
          refine lv_aload_n hx hb dX3_behind_112 rfl (lv_at hl 2 rfl) ?_
          refine va_get (D := D) (ci := 3) (v := .long va) (C := RX3) (T := TX3) (N := 25) hx hb hts iw_X3_behind_X3 hown hK hP 0 rfl rfl 15 (by decide) (hts (.fieldLink RX3 92 "SluiceRulesModel" "value" "J") (by decide +kernel)) (fun _ h9 => h9) rfl dX3_behind_113 ?_
          refine WrV.callV (As := [.long va]) (rest := []) (c_X3_gives va) ⟨hx, hb, hml, hown, hts⟩ (cwV 1 hts gX3_behind_X3_gives rfl rfl rfl (by decide +kernel) ⟨by decide, by decide⟩) hP hD hS hA hK hN 0 3 rfl rfl rfl hl.1 rfl (Nat.le_of_ble_eq_true rfl) dX3_behind_116 ⟨Nat.le_of_ble_eq_true rfl, Nat.le_of_ble_eq_true rfl⟩ (fun ur_2 H locs hr_2 hP hD hS => ?_)
          refine lv_goto (tgt := 130) hx hb dX3_behind_119 (by decide) ?_
          exact wrV ur_2 hx hb hr hlk dX3_behind_130 hP hD hS (by rw [hr_2, bhK, if_neg c_30, if_pos c_60, bd, if_neg c_80, if_neg c_104])
        · have c_104 := lc_len c_104
          refine lv_iload_n hx hb dX3_behind_107 rfl (lv_at hl 0 rfl) ?_
          refine lv_i2l hx hb dX3_behind_108 rfl ?_
          refine lv_goto (tgt := 116) hx hb dX3_behind_109 (by decide) ?_
          refine WrV.callV (As := [.long ((pt (5 * k + 2)).toInt64)]) (rest := []) (c_X3_gives ((pt (5 * k + 2)).toInt64)) ⟨hx, hb, hml, hown, hts⟩ (cwV 1 hts gX3_behind_X3_gives rfl rfl rfl (by decide +kernel) ⟨by decide, by decide⟩) hP hD hS hA hK hN 0 3 rfl rfl rfl hl.1 rfl (Nat.le_of_ble_eq_true rfl) dX3_behind_116 ⟨Nat.le_of_ble_eq_true rfl, Nat.le_of_ble_eq_true rfl⟩ (fun ur_3 H locs hr_3 hP hD hS => ?_)
          refine lv_goto (tgt := 130) hx hb dX3_behind_119 (by decide) ?_
          exact wrV ur_3 hx hb hr hlk dX3_behind_130 hP hD hS (by rw [hr_3, bhK, if_neg c_30, if_pos c_60, bd, if_neg c_80, if_pos c_104])
      · have c_80 := lc_gen c_80
        refine lv_iload_n hx hb dX3_behind_83 rfl (lv_at hl 1 rfl) ?_
        refine lv_i2l hx hb dX3_behind_84 rfl ?_
        refine lv_goto (tgt := 116) hx hb dX3_behind_85 (by decide) ?_
        refine WrV.callV (As := [.long ((pt (5 * k + 1)).toInt64)]) (rest := []) (c_X3_gives ((pt (5 * k + 1)).toInt64)) ⟨hx, hb, hml, hown, hts⟩ (cwV 1 hts gX3_behind_X3_gives rfl rfl rfl (by decide +kernel) ⟨by decide, by decide⟩) hP hD hS hA hK hN 0 3 rfl rfl rfl hl.1 rfl (Nat.le_of_ble_eq_true rfl) dX3_behind_116 ⟨Nat.le_of_ble_eq_true rfl, Nat.le_of_ble_eq_true rfl⟩ (fun ur_4 H locs hr_4 hP hD hS => ?_)
        refine lv_goto (tgt := 130) hx hb dX3_behind_119 (by decide) ?_
        exact wrV ur_4 hx hb hr hlk dX3_behind_130 hP hD hS (by rw [hr_4, bhK, if_neg c_30, if_pos c_60, bd, if_pos c_80])
  · refine lv_aload_n hx hb dX3_behind_33 rfl (lv_at hl 2 rfl) ?_
    refine lv_aload_n hx hb dX3_behind_34 rfl (lv_at hl 2 rfl) ?_
    refine va_get (D := D) (ci := 3) (v := .long va) (C := RX3) (T := TX3) (N := 25) hx hb hts iw_X3_behind_X3 hown hK hP 0 rfl rfl 15 (by decide) (hts (.fieldLink RX3 92 "SluiceRulesModel" "value" "J") (by decide +kernel)) (fun _ h9 => h9) rfl dX3_behind_35 ?_
    refine lv_iload_n hx hb dX3_behind_38 rfl (lv_at hl 1 rfl) ?_
    refine lv_i2l hx hb dX3_behind_39 rfl ?_
    refine lv_lmul hx hb dX3_behind_40 ?_
    refine lv_iload_n hx hb dX3_behind_41 rfl (lv_at hl 0 rfl) ?_
    refine lv_i2l hx hb dX3_behind_42 rfl ?_
    refine RoL.callS (As := [.long (va * ((pt (5 * k + 1)).toInt64)), .long ((pt (5 * k + 2)).toInt64)]) (rest := [.ref (G 0)]) (c_X3_downward (va * ((pt (5 * k + 1)).toInt64)) ((pt (5 * k + 2)).toInt64) (hc8 c_30)) ⟨hx, hb, hml, hown, hts⟩ (va_cwS 2 hts gX3_behind_X3_downward rfl rfl rfl (by decide +kernel) ⟨by decide, by decide⟩) hP hK hN rfl hl.1 rfl (Nat.le_of_ble_eq_true rfl) dX3_behind_43 ⟨Nat.le_of_ble_eq_true rfl, Nat.le_of_ble_eq_true rfl⟩ (fun r_5 hr_5 => ?_)
    refine WrV.callV (As := [.long r_5]) (rest := []) (c_X3_gives r_5) ⟨hx, hb, hml, hown, hts⟩ (cwV 1 hts gX3_behind_X3_gives rfl rfl rfl (by decide +kernel) ⟨by decide, by decide⟩) hP hD hS hA hK hN 0 3 rfl rfl rfl hl.1 rfl (Nat.le_of_ble_eq_true rfl) dX3_behind_46 ⟨Nat.le_of_ble_eq_true rfl, Nat.le_of_ble_eq_true rfl⟩ (fun ur_6 H locs hr_6 hP hD hS => ?_)
    refine lv_goto (tgt := 130) hx hb dX3_behind_49 (by decide) ?_
    exact wrV ur_6 hx hb hr hlk dX3_behind_130 hP hD hS (by rw [hr_6, bhK, if_pos c_30, hr_5])

theorem iw_X3_pair_X3 : ∀ w ∈ u_ws RX3 TX3 25, w ∈ wsX3_pair := by decide +kernel
set_option maxRecDepth 100000 in
set_option maxHeartbeats 4000000 in
/-- pair -/
theorem c_X3_pair {l : Launch} {D : va_G} {G : Nat → Nat} {Z : Nat → ClassId} {mn fl : Int32} {va gv : Int64} {ts tw tm : Int32} {lv sl kd pt : Nat → Int32} {he : Nat → Int64} {ct fr to rl pi ph ps : Nat → Int32} {pm : Nat → Int64} {b n sN st : Nat} {t k : Nat} (hk : k < n) (hn40 : n ≤ 40) (hst : st ≤ 120) (ht : t + 1 ≤ st) (h s_ : Int32) : WrV l yX3_pair wsX3_pair (rk 1) D (mty Z) (mw G Z (nI b) mn (nI n) (nI sN) (nI st) fl va (nI (t + 1) - 1) gv ts tw tm lv sl kd pt he ct fr to rl pi ph ps pm) [.ref (G 0), .int (nI k), .int h, .int s_] (σ := MS) (fun u => mw G Z (nI b) mn (nI n) (nI sN) (nI u.1) u.2.1 u.2.2.1 (nI u.2.2.2.1 - 1) gv ts tw tm lv sl kd pt he u.2.2.2.2.1 fr to rl u.2.2.2.2.2.1 u.2.2.2.2.2.2.1 u.2.2.2.2.2.2.2.1 u.2.2.2.2.2.2.2.2) (fun u => u = prK kd pt k h s_ (st, fl, va, t + 1, ct, pi, ph, ps, pm)) 0 0 := by
  intro sz
  refine wrEnter (cc := cX3_pair) (maxL := 4) (ret := none) (by decide) rfl (Nat.le_of_ble_eq_true rfl) ?_
  intro p e s m below meth c hx hb hr hml hown hts hlk hP hK hN hsz hD hS hA hin ls hl
  have hown : s.vm.findClass RX3 = some m.cls := hown
  have hl : lv_has ls 4 [(0, .ref (G 0)), (1, .int (nI k)), (2, .int h), (3, .int s_)] := hl
  refine lv_iload_n hx hb dX3_pair_0 rfl (lv_at hl 3 rfl) ?_
  refine lv_iconst (v := 1) hx hb dX3_pair_1 (by decide) ?_
  refine lv_icmp_ne (tgt := 36) hx hb dX3_pair_2 (by decide) (fun c_2 => ?_) (fun c_2 => ?_)
  · refine lv_aload_n hx hb dX3_pair_36 rfl (lv_at hl 0 rfl) ?_
    refine lv_aload_n hx hb dX3_pair_37 rfl (lv_at hl 0 rfl) ?_
    refine va_get (D := D) (ci := 3) (v := .ref (G 3)) (C := RX3) (T := TX3) (N := 25) hx hb hts iw_X3_pair_X3 hown hK hP 0 rfl rfl 5 (by decide) (hts (.fieldLink RX3 20 "SluiceRulesModel" "kindOf" "[I") (by decide +kernel)) (fun _ h9 => h9) rfl dX3_pair_38 ?_
    refine lv_iload_n hx hb dX3_pair_41 rfl (lv_at hl 1 rfl) ?_
    refine my_iald (j := k) hx hb hK hP 3 2 rfl rfl (rfl) (by omega) (by decide) dX3_pair_42 ?_
    refine lv_aload_n hx hb dX3_pair_43 rfl (lv_at hl 0 rfl) ?_
    refine va_get (D := D) (ci := 3) (v := .ref (G 13)) (C := RX3) (T := TX3) (N := 25) hx hb hts iw_X3_pair_X3 hown hK hP 0 rfl rfl 20 (by decide) (hts (.fieldLink RX3 51 "SluiceRulesModel" "pileSum" "[J") (by decide +kernel)) (fun _ h9 => h9) rfl dX3_pair_44 ?_
    refine lv_aload_n hx hb dX3_pair_47 rfl (lv_at hl 0 rfl) ?_
    refine va_get (D := D) (ci := 3) (v := .int (nI (t + 1) - 1)) (C := RX3) (T := TX3) (N := 25) hx hb hts iw_X3_pair_X3 hown hK hP 0 rfl rfl 16 (by decide) (hts (.fieldLink RX3 99 "SluiceRulesModel" "top" "I") (by decide +kernel)) (fun _ h9 => h9) rfl dX3_pair_48 ?_
    refine my_lald (j := t) hx hb hK hP 13 12 rfl rfl (nI_pred t) (by omega) (by decide) dX3_pair_51 ?_
    refine lv_aload_n hx hb dX3_pair_52 rfl (lv_at hl 0 rfl) ?_
    refine va_get (D := D) (ci := 3) (v := .long va) (C := RX3) (T := TX3) (N := 25) hx hb hts iw_X3_pair_X3 hown hK hP 0 rfl rfl 15 (by decide) (hts (.fieldLink RX3 92 "SluiceRulesModel" "value" "J") (by decide +kernel)) (fun _ h9 => h9) rfl dX3_pair_53 ?_
    refine RoL.callS (As := [.int (kd k), .long (pm t), .long va]) (rest := [.ref (G 0)]) (c_X3_joined (kd k) (pm t) va) ⟨hx, hb, hml, hown, hts⟩ (va_cwS 3 hts gX3_pair_X3_joined rfl rfl rfl (by decide +kernel) ⟨by decide, by decide⟩) hP hK hN rfl hl.1 rfl (Nat.le_of_ble_eq_true rfl) dX3_pair_56 ⟨Nat.le_of_ble_eq_true rfl, Nat.le_of_ble_eq_true rfl⟩ (fun r_1 hr_1 => ?_)
    refine WrV.callV (As := [.long r_1]) (rest := []) (c_X3_gives r_1) ⟨hx, hb, hml, hown, hts⟩ (cwV 1 hts gX3_pair_X3_gives rfl rfl rfl (by decide +kernel) ⟨by decide, by decide⟩) hP hD hS hA hK hN 0 3 rfl rfl rfl hl.1 rfl (Nat.le_of_ble_eq_true rfl) dX3_pair_59 ⟨Nat.le_of_ble_eq_true rfl, Nat.le_of_ble_eq_true rfl⟩ (fun ur_2 H locs hr_2 hP hD hS => ?_)
    exact wrV ur_2 hx hb hr hlk dX3_pair_62 hP hD hS (by rw [hr_2, prK, if_neg c_2, hr_1]; rfl)
  · refine lv_aload_n hx hb dX3_pair_5 rfl (lv_at hl 0 rfl) ?_
    refine va_get (D := D) (ci := 3) (v := .ref (G 13)) (C := RX3) (T := TX3) (N := 25) hx hb hts iw_X3_pair_X3 hown hK hP 0 rfl rfl 20 (by decide) (hts (.fieldLink RX3 51 "SluiceRulesModel" "pileSum" "[J") (by decide +kernel)) (fun _ h9 => h9) rfl dX3_pair_6 ?_
    refine lv_aload_n hx hb dX3_pair_9 rfl (lv_at hl 0 rfl) ?_
    refine va_get (D := D) (ci := 3) (v := .int (nI (t + 1) - 1)) (C := RX3) (T := TX3) (N := 25) hx hb hts iw_X3_pair_X3 hown hK hP 0 rfl rfl 16 (by decide) (hts (.fieldLink RX3 99 "SluiceRulesModel" "top" "I") (by decide +kernel)) (fun _ h9 => h9) rfl dX3_pair_10 ?_
    refine lv_aload_n hx hb dX3_pair_13 rfl (lv_at hl 0 rfl) ?_
    refine va_get (D := D) (ci := 3) (v := .long va) (C := RX3) (T := TX3) (N := 25) hx hb hts iw_X3_pair_X3 hown hK hP 0 rfl rfl 15 (by decide) (hts (.fieldLink RX3 92 "SluiceRulesModel" "value" "J") (by decide +kernel)) (fun _ h9 => h9) rfl dX3_pair_14 ?_
    refine my_last (j := t) hx hb hK hP hD hS 13 12 rfl rfl (nI_pred t) (by omega) (by decide) dX3_pair_17 (fun H locs hP hD hS => ?_)
    have hP : va_P D vwCl (mw G Z (nI b) mn (nI n) (nI sN) (nI st) fl va (nI (t + 1) - 1) gv ts tw tm lv sl kd pt he ct fr to rl pi ph ps (vp_updL pm t va)) H := hP
    have hD : va_D (va_A (mw G Z (nI b) mn (nI n) (nI sN) (nI st) fl va (nI (t + 1) - 1) gv ts tw tm lv sl kd pt he ct fr to rl pi ph ps pm) sz) (mw G Z (nI b) mn (nI n) (nI sN) (nI st) fl va (nI (t + 1) - 1) gv ts tw tm lv sl kd pt he ct fr to rl pi ph ps (vp_updL pm t va)) := hD
    refine lv_aload_n hx hb dX3_pair_18 rfl (lv_at hl 0 rfl) ?_
    refine lv_aload_n hx hb dX3_pair_19 rfl (lv_at hl 0 rfl) ?_
    refine va_get (D := D) (ci := 3) (v := .ref (G 4)) (C := RX3) (T := TX3) (N := 25) hx hb hts iw_X3_pair_X3 hown hK hP 0 rfl rfl 6 (by decide) (hts (.fieldLink RX3 23 "SluiceRulesModel" "parts" "[I") (by decide +kernel)) (fun _ h9 => h9) rfl dX3_pair_20 ?_
    refine lv_iconst (v := 5) hx hb dX3_pair_23 (by decide) ?_
    refine lv_iload_n hx hb dX3_pair_24 rfl (lv_at hl 1 rfl) ?_
    refine lv_imul hx hb dX3_pair_25 ?_
    refine lv_iconst (v := 1) hx hb dX3_pair_26 (by decide) ?_
    refine lv_iadd hx hb dX3_pair_27 ?_
    refine my_iald (j := 5 * k + 1) hx hb hK hP 4 3 rfl rfl (mul51 k) (by omega) (by decide) dX3_pair_28 ?_
    refine lv_iload_n hx hb dX3_pair_29 rfl (lv_at hl 2 rfl) ?_
    refine WrV.callV (As := [.int (pt (5 * k + 1)), .int h]) (rest := []) (c_X3_enter hst ht (pt (5 * k + 1)) h) ⟨hx, hb, hml, hown, hts⟩ (cwV 2 hts gX3_pair_X3_enter rfl rfl rfl (by decide +kernel) ⟨by decide, by decide⟩) hP hD hS hA hK hN 0 3 rfl rfl rfl hl.1 rfl (Nat.le_of_ble_eq_true rfl) dX3_pair_30 ⟨Nat.le_of_ble_eq_true rfl, Nat.le_of_ble_eq_true rfl⟩ (fun ur_3 H locs hr_3 hP hD hS => ?_)
    refine lv_goto (tgt := 62) hx hb dX3_pair_33 (by decide) ?_
    exact wrV ur_3 hx hb hr hlk dX3_pair_62 hP hD hS (by rw [hr_3, prK, if_pos c_2]; rfl)

theorem iw_X3_choice_X3 : ∀ w ∈ u_ws RX3 TX3 25, w ∈ wsX3_choice := by decide +kernel
set_option maxRecDepth 100000 in
set_option maxHeartbeats 4000000 in
/-- choice -/
theorem c_X3_choice {l : Launch} {D : va_G} {G : Nat → Nat} {Z : Nat → ClassId} {mn fl : Int32} {va gv : Int64} {ts tw tm : Int32} {lv sl kd pt : Nat → Int32} {he : Nat → Int64} {ct fr to rl pi ph ps : Nat → Int32} {pm : Nat → Int64} {b n sN st : Nat} {t k : Nat} (hk : k < n) (hn40 : n ≤ 40) (hst : st ≤ 120) (ht : t + 1 ≤ st) (h s_ : Int32) : WrV l yX3_choice wsX3_choice (rk 1) D (mty Z) (mw G Z (nI b) mn (nI n) (nI sN) (nI st) fl va (nI (t + 1) - 1) gv ts tw tm lv sl kd pt he ct fr to rl pi ph ps pm) [.ref (G 0), .int (nI k), .int h, .int s_] (σ := MS) (fun u => mw G Z (nI b) mn (nI n) (nI sN) (nI u.1) u.2.1 u.2.2.1 (nI u.2.2.2.1 - 1) gv ts tw tm lv sl kd pt he u.2.2.2.2.1 fr to rl u.2.2.2.2.2.1 u.2.2.2.2.2.2.1 u.2.2.2.2.2.2.2.1 u.2.2.2.2.2.2.2.2) (fun u => u = chK pt k h s_ (st, fl, va, t + 1, ct, pi, ph, ps, pm)) 0 0 := by
  intro sz
  refine wrEnter (cc := cX3_choice) (maxL := 4) (ret := none) (by decide) rfl (Nat.le_of_ble_eq_true rfl) ?_
  intro p e s m below meth c hx hb hr hml hown hts hlk hP hK hN hsz hD hS hA hin ls hl
  have hown : s.vm.findClass RX3 = some m.cls := hown
  have hl : lv_has ls 4 [(0, .ref (G 0)), (1, .int (nI k)), (2, .int h), (3, .int s_)] := hl
  refine lv_iload_n hx hb dX3_choice_0 rfl (lv_at hl 3 rfl) ?_
  refine lv_iconst (v := 1) hx hb dX3_choice_1 (by decide) ?_
  refine lv_icmp_ne (tgt := 45) hx hb dX3_choice_2 (by decide) (fun c_2 => ?_) (fun c_2 => ?_)
  · refine lv_aload_n hx hb dX3_choice_45 rfl (lv_at hl 0 rfl) ?_
    refine lv_aload_n hx hb dX3_choice_46 rfl (lv_at hl 0 rfl) ?_
    refine va_get (D := D) (ci := 3) (v := .long va) (C := RX3) (T := TX3) (N := 25) hx hb hts iw_X3_choice_X3 hown hK hP 0 rfl rfl 15 (by decide) (hts (.fieldLink RX3 92 "SluiceRulesModel" "value" "J") (by decide +kernel)) (fun _ h9 => h9) rfl dX3_choice_47 ?_
    refine WrV.callV (As := [.long va]) (rest := []) (c_X3_gives va) ⟨hx, hb, hml, hown, hts⟩ (cwV 1 hts gX3_choice_X3_gives rfl rfl rfl (by decide +kernel) ⟨by decide, by decide⟩) hP hD hS hA hK hN 0 3 rfl rfl rfl hl.1 rfl (Nat.le_of_ble_eq_true rfl) dX3_choice_50 ⟨Nat.le_of_ble_eq_true rfl, Nat.le_of_ble_eq_true rfl⟩ (fun ur_1 H locs hr_1 hP hD hS => ?_)
    exact wrV ur_1 hx hb hr hlk dX3_choice_53 hP hD hS (by rw [hr_1, chK, if_neg c_2])
  · refine lv_aload_n hx hb dX3_choice_5 rfl (lv_at hl 0 rfl) ?_
    refine lv_aload_n hx hb dX3_choice_6 rfl (lv_at hl 0 rfl) ?_
    refine va_get (D := D) (ci := 3) (v := .long va) (C := RX3) (T := TX3) (N := 25) hx hb hts iw_X3_choice_X3 hown hK hP 0 rfl rfl 15 (by decide) (hts (.fieldLink RX3 92 "SluiceRulesModel" "value" "J") (by decide +kernel)) (fun _ h9 => h9) rfl dX3_choice_7 ?_
    refine lv_lconst (v := 0) hx hb dX3_choice_10 (by decide) ?_
    refine W.lcmp hx hb dX3_choice_11 ?_
    refine lv_if_le (tgt := 28) hx hb dX3_choice_12 (by decide) (fun c_12 => ?_) (fun c_12 => ?_)
    · have c_12 := lc_lep c_12
      refine lv_aload_n hx hb dX3_choice_28 rfl (lv_at hl 0 rfl) ?_
      refine va_get (D := D) (ci := 3) (v := .ref (G 4)) (C := RX3) (T := TX3) (N := 25) hx hb hts iw_X3_choice_X3 hown hK hP 0 rfl rfl 6 (by decide) (hts (.fieldLink RX3 23 "SluiceRulesModel" "parts" "[I") (by decide +kernel)) (fun _ h9 => h9) rfl dX3_choice_29 ?_
      refine lv_iconst (v := 5) hx hb dX3_choice_32 (by decide) ?_
      refine lv_iload_n hx hb dX3_choice_33 rfl (lv_at hl 1 rfl) ?_
      refine lv_imul hx hb dX3_choice_34 ?_
      refine lv_iconst (v := 2) hx hb dX3_choice_35 (by decide) ?_
      refine lv_iadd hx hb dX3_choice_36 ?_
      refine my_iald (j := 5 * k + 2) hx hb hK hP 4 3 rfl rfl (mul52 k) (by omega) (by decide) dX3_choice_37 ?_
      refine lv_iload_n hx hb dX3_choice_38 rfl (lv_at hl 2 rfl) ?_
      refine WrV.callV (As := [.int (pt (5 * k + 2)), .int h]) (rest := []) (c_X3_enter hst ht (pt (5 * k + 2)) h) ⟨hx, hb, hml, hown, hts⟩ (cwV 2 hts gX3_choice_X3_enter rfl rfl rfl (by decide +kernel) ⟨by decide, by decide⟩) hP hD hS hA hK hN 0 3 rfl rfl rfl hl.1 rfl (Nat.le_of_ble_eq_true rfl) dX3_choice_39 ⟨Nat.le_of_ble_eq_true rfl, Nat.le_of_ble_eq_true rfl⟩ (fun ur_2 H locs hr_2 hP hD hS => ?_)
      refine lv_goto (tgt := 53) hx hb dX3_choice_42 (by decide) ?_
      exact wrV ur_2 hx hb hr hlk dX3_choice_53 hP hD hS (by rw [hr_2, chK, if_pos c_2, if_neg c_12])
    · have c_12 := lc_len c_12
      refine lv_aload_n hx hb dX3_choice_15 rfl (lv_at hl 0 rfl) ?_
      refine va_get (D := D) (ci := 3) (v := .ref (G 4)) (C := RX3) (T := TX3) (N := 25) hx hb hts iw_X3_choice_X3 hown hK hP 0 rfl rfl 6 (by decide) (hts (.fieldLink RX3 23 "SluiceRulesModel" "parts" "[I") (by decide +kernel)) (fun _ h9 => h9) rfl dX3_choice_16 ?_
      refine lv_iconst (v := 5) hx hb dX3_choice_19 (by decide) ?_
      refine lv_iload_n hx hb dX3_choice_20 rfl (lv_at hl 1 rfl) ?_
      refine lv_imul hx hb dX3_choice_21 ?_
      refine lv_iconst (v := 1) hx hb dX3_choice_22 (by decide) ?_
      refine lv_iadd hx hb dX3_choice_23 ?_
      refine my_iald (j := 5 * k + 1) hx hb hK hP 4 3 rfl rfl (mul51 k) (by omega) (by decide) dX3_choice_24 ?_
      refine lv_goto (tgt := 38) hx hb dX3_choice_25 (by decide) ?_
      refine lv_iload_n hx hb dX3_choice_38 rfl (lv_at hl 2 rfl) ?_
      refine WrV.callV (As := [.int (pt (5 * k + 1)), .int h]) (rest := []) (c_X3_enter hst ht (pt (5 * k + 1)) h) ⟨hx, hb, hml, hown, hts⟩ (cwV 2 hts gX3_choice_X3_enter rfl rfl rfl (by decide +kernel) ⟨by decide, by decide⟩) hP hD hS hA hK hN 0 3 rfl rfl rfl hl.1 rfl (Nat.le_of_ble_eq_true rfl) dX3_choice_39 ⟨Nat.le_of_ble_eq_true rfl, Nat.le_of_ble_eq_true rfl⟩ (fun ur_3 H locs hr_3 hP hD hS => ?_)
      refine lv_goto (tgt := 53) hx hb dX3_choice_42 (by decide) ?_
      exact wrV ur_3 hx hb hr hlk dX3_choice_53 hP hD hS (by rw [hr_3, chK, if_pos c_2, if_pos c_12])

theorem iw_X3_slots_X3 : ∀ w ∈ u_ws RX3 TX3 25, w ∈ wsX3_slots := by decide +kernel
set_option maxRecDepth 100000 in
set_option maxHeartbeats 4000000 in
/-- slots -/
theorem c_X3_slots {l : Launch} {D : va_G} {G : Nat → Nat} {Z : Nat → ClassId} {mn fl : Int32} {va gv : Int64} {ts tw tm : Int32} {lv sl kd pt : Nat → Int32} {he : Nat → Int64} {ct fr to rl pi ph ps : Nat → Int32} {pm : Nat → Int64} {b n sN st : Nat} {t k : Nat} (hk : k < n) (hn40 : n ≤ 40) (hst : st ≤ 120) (ht : t + 1 ≤ st) (h s_ : Int32) (hsl : ¬ pt (5 * k + 1) < pt (5 * k) + s_ → inB (pt (5 * k) + s_) 8 = true) : WrV l yX3_slots wsX3_slots (rk 1) D (mty Z) (mw G Z (nI b) mn (nI n) (nI sN) (nI st) fl va (nI (t + 1) - 1) gv ts tw tm lv sl kd pt he ct fr to rl pi ph ps pm) [.ref (G 0), .int (nI k), .int h, .int s_] (σ := MS) (fun u => mw G Z (nI b) mn (nI n) (nI sN) (nI u.1) u.2.1 u.2.2.1 (nI u.2.2.2.1 - 1) gv ts tw tm lv sl kd pt he u.2.2.2.2.1 fr to rl u.2.2.2.2.2.1 u.2.2.2.2.2.2.1 u.2.2.2.2.2.2.2.1 u.2.2.2.2.2.2.2.2) (fun u => u = slK sl pt k h s_ (st, fl, va, t + 1, ct, pi, ph, ps, pm)) 0 0 := by
  intro sz
  refine wrEnter (cc := cX3_slots) (maxL := 5) (ret := none) (by decide) rfl (Nat.le_of_ble_eq_true rfl) ?_
  intro p e s m below meth c hx hb hr hml hown hts hlk hP hK hN hsz hD hS hA hin ls hl
  have hown : s.vm.findClass RX3 = some m.cls := hown
  have hl : lv_has ls 5 [(0, .ref (G 0)), (1, .int (nI k)), (2, .int h), (3, .int s_)] := hl
  refine lv_aload_n hx hb dX3_slots_0 rfl (lv_at hl 0 rfl) ?_
  refine va_get (D := D) (ci := 3) (v := .ref (G 13)) (C := RX3) (T := TX3) (N := 25) hx hb hts iw_X3_slots_X3 hown hK hP 0 rfl rfl 20 (by decide) (hts (.fieldLink RX3 51 "SluiceRulesModel" "pileSum" "[J") (by decide +kernel)) (fun _ h9 => h9) rfl dX3_slots_1 ?_
  refine lv_aload_n hx hb dX3_slots_4 rfl (lv_at hl 0 rfl) ?_
  refine va_get (D := D) (ci := 3) (v := .int (nI (t + 1) - 1)) (C := RX3) (T := TX3) (N := 25) hx hb hts iw_X3_slots_X3 hown hK hP 0 rfl rfl 16 (by decide) (hts (.fieldLink RX3 99 "SluiceRulesModel" "top" "I") (by decide +kernel)) (fun _ h9 => h9) rfl dX3_slots_5 ?_
  refine lv_dup2_11 hx hb dX3_slots_8 rfl rfl ?_
  refine my_lald (j := t) hx hb hK hP 13 12 rfl rfl (nI_pred t) (by omega) (by decide) dX3_slots_9 ?_
  refine lv_iload_n hx hb dX3_slots_10 rfl (lv_at hl 3 rfl) ?_
  refine lv_if_le (tgt := 21) hx hb dX3_slots_11 (by decide) (fun c_11 => ?_) (fun c_11 => ?_)
  · have c_11 : ¬ 0 < s_ := by rw [i_lt]; rw [i_le] at c_11; omega
    refine lv_lconst (v := 0) hx hb dX3_slots_21 (by decide) ?_
    refine lv_ladd hx hb dX3_slots_22 ?_
    refine my_last (j := t) hx hb hK hP hD hS 13 12 rfl rfl (nI_pred t) (by omega) (by decide) dX3_slots_23 (fun H locs hP hD hS => ?_)
    have hP : va_P D vwCl (mw G Z (nI b) mn (nI n) (nI sN) (nI st) fl va (nI (t + 1) - 1) gv ts tw tm lv sl kd pt he ct fr to rl pi ph ps (vp_updL pm t ((pm t) + 0))) H := hP
    have hD : va_D (va_A (mw G Z (nI b) mn (nI n) (nI sN) (nI st) fl va (nI (t + 1) - 1) gv ts tw tm lv sl kd pt he ct fr to rl pi ph ps pm) sz) (mw G Z (nI b) mn (nI n) (nI sN) (nI st) fl va (nI (t + 1) - 1) gv ts tw tm lv sl kd pt he ct fr to rl pi ph ps (vp_updL pm t ((pm t) + 0))) := hD
    refine lv_aload_n hx hb dX3_slots_24 rfl (lv_at hl 0 rfl) ?_
    refine va_get (D := D) (ci := 3) (v := .ref (G 4)) (C := RX3) (T := TX3) (N := 25) hx hb hts iw_X3_slots_X3 hown hK hP 0 rfl rfl 6 (by decide) (hts (.fieldLink RX3 23 "SluiceRulesModel" "parts" "[I") (by decide +kernel)) (fun _ h9 => h9) rfl dX3_slots_25 ?_
    refine lv_iconst (v := 5) hx hb dX3_slots_28 (by decide) ?_
    refine lv_iload_n hx hb dX3_slots_29 rfl (lv_at hl 1 rfl) ?_
    refine lv_imul hx hb dX3_slots_30 ?_
    refine my_iald (j := 5 * k) hx hb hK hP 4 3 rfl rfl (mul5 k) (by omega) (by decide) dX3_slots_31 ?_
    refine lv_iload_n hx hb dX3_slots_32 rfl (lv_at hl 3 rfl) ?_
    refine lv_iadd hx hb dX3_slots_33 ?_
    refine lv_istore (lv' := [(4, .int ((pt (5 * k)) + s_)), (0, .ref (G 0)), (1, .int (nI k)), (2, .int h), (3, .int s_)]) hx hb dX3_slots_34 hl (by decide) rfl (fun ls hl => ?_)
    refine lv_iload hx hb dX3_slots_36 (lv_at hl 0 rfl) ?_
    refine lv_aload_n hx hb dX3_slots_38 rfl (lv_at hl 1 rfl) ?_
    refine va_get (D := D) (ci := 3) (v := .ref (G 4)) (C := RX3) (T := TX3) (N := 25) hx hb hts iw_X3_slots_X3 hown hK hP 0 rfl rfl 6 (by decide) (hts (.fieldLink RX3 23 "SluiceRulesModel" "parts" "[I") (by decide +kernel)) (fun _ h9 => h9) rfl dX3_slots_39 ?_
    refine lv_iconst (v := 5) hx hb dX3_slots_42 (by decide) ?_
    refine lv_iload_n hx hb dX3_slots_43 rfl (lv_at hl 2 rfl) ?_
    refine lv_imul hx hb dX3_slots_44 ?_
    refine lv_iconst (v := 1) hx hb dX3_slots_45 (by decide) ?_
    refine lv_iadd hx hb dX3_slots_46 ?_
    refine my_iald (j := 5 * k + 1) hx hb hK hP 4 3 rfl rfl (mul51 k) (by omega) (by decide) dX3_slots_47 ?_
    refine lv_icmp_le (tgt := 67) hx hb dX3_slots_48 (by decide) (fun c_48 => ?_) (fun c_48 => ?_)
    · have q_48 : ¬ pt (5 * k + 1) < pt (5 * k) + s_ := by rw [i_lt]; rw [i_le] at c_48; omega
      refine lv_aload_n hx hb dX3_slots_67 rfl (lv_at hl 1 rfl) ?_
      refine lv_aload_n hx hb dX3_slots_68 rfl (lv_at hl 1 rfl) ?_
      refine va_get (D := D) (ci := 3) (v := .ref (G 2)) (C := RX3) (T := TX3) (N := 25) hx hb hts iw_X3_slots_X3 hown hK hP 0 rfl rfl 3 (by decide) (hts (.fieldLink RX3 17 "SluiceRulesModel" "slot" "[I") (by decide +kernel)) (fun _ h9 => h9) rfl dX3_slots_69 ?_
      refine lv_iload hx hb dX3_slots_72 (lv_at hl 0 rfl) ?_
      refine va_iald hx hb hK hP 2 1 rfl rfl (inB_vp.mp (hsl q_48)) dX3_slots_74 ?_
      refine lv_iload_n hx hb dX3_slots_75 rfl (lv_at hl 3 rfl) ?_
      refine WrV.callV (As := [.int (sl ((pt (5 * k)) + s_).toNatClampNeg), .int h]) (rest := []) (c_X3_enter hst ht (sl ((pt (5 * k)) + s_).toNatClampNeg) h) ⟨hx, hb, hml, hown, hts⟩ (cwV 2 hts gX3_slots_X3_enter rfl rfl rfl (by decide +kernel) ⟨by decide, by decide⟩) hP hD hS hA hK hN 0 3 rfl rfl rfl hl.1 rfl (Nat.le_of_ble_eq_true rfl) dX3_slots_76 ⟨Nat.le_of_ble_eq_true rfl, Nat.le_of_ble_eq_true rfl⟩ (fun ur_1 H locs hr_1 hP hD hS => ?_)
      exact wrV ur_1 hx hb hr hlk dX3_slots_79 hP hD hS (by rw [hr_1, slK, if_neg q_48, if_neg c_11]; rfl)
    · have q_48 : pt (5 * k + 1) < pt (5 * k) + s_ := by rw [i_lt]; rw [i_le] at c_48; omega
      refine lv_aload_n hx hb dX3_slots_51 rfl (lv_at hl 1 rfl) ?_
      refine lv_aload_n hx hb dX3_slots_52 rfl (lv_at hl 1 rfl) ?_
      refine va_get (D := D) (ci := 3) (v := .ref (G 13)) (C := RX3) (T := TX3) (N := 25) hx hb hts iw_X3_slots_X3 hown hK hP 0 rfl rfl 20 (by decide) (hts (.fieldLink RX3 51 "SluiceRulesModel" "pileSum" "[J") (by decide +kernel)) (fun _ h9 => h9) rfl dX3_slots_53 ?_
      refine lv_aload_n hx hb dX3_slots_56 rfl (lv_at hl 1 rfl) ?_
      refine va_get (D := D) (ci := 3) (v := .int (nI (t + 1) - 1)) (C := RX3) (T := TX3) (N := 25) hx hb hts iw_X3_slots_X3 hown hK hP 0 rfl rfl 16 (by decide) (hts (.fieldLink RX3 99 "SluiceRulesModel" "top" "I") (by decide +kernel)) (fun _ h9 => h9) rfl dX3_slots_57 ?_
      refine my_lald (j := t) hx hb hK hP 13 12 rfl rfl (nI_pred t) (by omega) (by decide) dX3_slots_60 ?_
      refine WrV.callV (As := [.long ((vp_updL pm t ((pm t) + 0)) t)]) (rest := []) (c_X3_gives ((vp_updL pm t ((pm t) + 0)) t)) ⟨hx, hb, hml, hown, hts⟩ (cwV 1 hts gX3_slots_X3_gives rfl rfl rfl (by decide +kernel) ⟨by decide, by decide⟩) hP hD hS hA hK hN 0 3 rfl rfl rfl hl.1 rfl (Nat.le_of_ble_eq_true rfl) dX3_slots_61 ⟨Nat.le_of_ble_eq_true rfl, Nat.le_of_ble_eq_true rfl⟩ (fun ur_2 H locs hr_2 hP hD hS => ?_)
      refine lv_goto (tgt := 79) hx hb dX3_slots_64 (by decide) ?_
      exact wrV ur_2 hx hb hr hlk dX3_slots_79 hP hD hS (by rw [hr_2, slK, if_pos q_48, if_neg c_11]; simp [gvS, vp_updL])
  · have c_11 : 0 < s_ := by rw [i_lt]; rw [i_le] at c_11; omega
    refine lv_aload_n hx hb dX3_slots_14 rfl (lv_at hl 0 rfl) ?_
    refine va_get (D := D) (ci := 3) (v := .long va) (C := RX3) (T := TX3) (N := 25) hx hb hts iw_X3_slots_X3 hown hK hP 0 rfl rfl 15 (by decide) (hts (.fieldLink RX3 92 "SluiceRulesModel" "value" "J") (by decide +kernel)) (fun _ h9 => h9) rfl dX3_slots_15 ?_
    refine lv_goto (tgt := 22) hx hb dX3_slots_18 (by decide) ?_
    refine lv_ladd hx hb dX3_slots_22 ?_
    refine my_last (j := t) hx hb hK hP hD hS 13 12 rfl rfl (nI_pred t) (by omega) (by decide) dX3_slots_23 (fun H locs hP hD hS => ?_)
    have hP : va_P D vwCl (mw G Z (nI b) mn (nI n) (nI sN) (nI st) fl va (nI (t + 1) - 1) gv ts tw tm lv sl kd pt he ct fr to rl pi ph ps (vp_updL pm t ((pm t) + va))) H := hP
    have hD : va_D (va_A (mw G Z (nI b) mn (nI n) (nI sN) (nI st) fl va (nI (t + 1) - 1) gv ts tw tm lv sl kd pt he ct fr to rl pi ph ps pm) sz) (mw G Z (nI b) mn (nI n) (nI sN) (nI st) fl va (nI (t + 1) - 1) gv ts tw tm lv sl kd pt he ct fr to rl pi ph ps (vp_updL pm t ((pm t) + va))) := hD
    refine lv_aload_n hx hb dX3_slots_24 rfl (lv_at hl 0 rfl) ?_
    refine va_get (D := D) (ci := 3) (v := .ref (G 4)) (C := RX3) (T := TX3) (N := 25) hx hb hts iw_X3_slots_X3 hown hK hP 0 rfl rfl 6 (by decide) (hts (.fieldLink RX3 23 "SluiceRulesModel" "parts" "[I") (by decide +kernel)) (fun _ h9 => h9) rfl dX3_slots_25 ?_
    refine lv_iconst (v := 5) hx hb dX3_slots_28 (by decide) ?_
    refine lv_iload_n hx hb dX3_slots_29 rfl (lv_at hl 1 rfl) ?_
    refine lv_imul hx hb dX3_slots_30 ?_
    refine my_iald (j := 5 * k) hx hb hK hP 4 3 rfl rfl (mul5 k) (by omega) (by decide) dX3_slots_31 ?_
    refine lv_iload_n hx hb dX3_slots_32 rfl (lv_at hl 3 rfl) ?_
    refine lv_iadd hx hb dX3_slots_33 ?_
    refine lv_istore (lv' := [(4, .int ((pt (5 * k)) + s_)), (0, .ref (G 0)), (1, .int (nI k)), (2, .int h), (3, .int s_)]) hx hb dX3_slots_34 hl (by decide) rfl (fun ls hl => ?_)
    refine lv_iload hx hb dX3_slots_36 (lv_at hl 0 rfl) ?_
    refine lv_aload_n hx hb dX3_slots_38 rfl (lv_at hl 1 rfl) ?_
    refine va_get (D := D) (ci := 3) (v := .ref (G 4)) (C := RX3) (T := TX3) (N := 25) hx hb hts iw_X3_slots_X3 hown hK hP 0 rfl rfl 6 (by decide) (hts (.fieldLink RX3 23 "SluiceRulesModel" "parts" "[I") (by decide +kernel)) (fun _ h9 => h9) rfl dX3_slots_39 ?_
    refine lv_iconst (v := 5) hx hb dX3_slots_42 (by decide) ?_
    refine lv_iload_n hx hb dX3_slots_43 rfl (lv_at hl 2 rfl) ?_
    refine lv_imul hx hb dX3_slots_44 ?_
    refine lv_iconst (v := 1) hx hb dX3_slots_45 (by decide) ?_
    refine lv_iadd hx hb dX3_slots_46 ?_
    refine my_iald (j := 5 * k + 1) hx hb hK hP 4 3 rfl rfl (mul51 k) (by omega) (by decide) dX3_slots_47 ?_
    refine lv_icmp_le (tgt := 67) hx hb dX3_slots_48 (by decide) (fun c_48 => ?_) (fun c_48 => ?_)
    · have q_48 : ¬ pt (5 * k + 1) < pt (5 * k) + s_ := by rw [i_lt]; rw [i_le] at c_48; omega
      refine lv_aload_n hx hb dX3_slots_67 rfl (lv_at hl 1 rfl) ?_
      refine lv_aload_n hx hb dX3_slots_68 rfl (lv_at hl 1 rfl) ?_
      refine va_get (D := D) (ci := 3) (v := .ref (G 2)) (C := RX3) (T := TX3) (N := 25) hx hb hts iw_X3_slots_X3 hown hK hP 0 rfl rfl 3 (by decide) (hts (.fieldLink RX3 17 "SluiceRulesModel" "slot" "[I") (by decide +kernel)) (fun _ h9 => h9) rfl dX3_slots_69 ?_
      refine lv_iload hx hb dX3_slots_72 (lv_at hl 0 rfl) ?_
      refine va_iald hx hb hK hP 2 1 rfl rfl (inB_vp.mp (hsl q_48)) dX3_slots_74 ?_
      refine lv_iload_n hx hb dX3_slots_75 rfl (lv_at hl 3 rfl) ?_
      refine WrV.callV (As := [.int (sl ((pt (5 * k)) + s_).toNatClampNeg), .int h]) (rest := []) (c_X3_enter hst ht (sl ((pt (5 * k)) + s_).toNatClampNeg) h) ⟨hx, hb, hml, hown, hts⟩ (cwV 2 hts gX3_slots_X3_enter rfl rfl rfl (by decide +kernel) ⟨by decide, by decide⟩) hP hD hS hA hK hN 0 3 rfl rfl rfl hl.1 rfl (Nat.le_of_ble_eq_true rfl) dX3_slots_76 ⟨Nat.le_of_ble_eq_true rfl, Nat.le_of_ble_eq_true rfl⟩ (fun ur_3 H locs hr_3 hP hD hS => ?_)
      exact wrV ur_3 hx hb hr hlk dX3_slots_79 hP hD hS (by rw [hr_3, slK, if_neg q_48, if_pos c_11]; rfl)
    · have q_48 : pt (5 * k + 1) < pt (5 * k) + s_ := by rw [i_lt]; rw [i_le] at c_48; omega
      refine lv_aload_n hx hb dX3_slots_51 rfl (lv_at hl 1 rfl) ?_
      refine lv_aload_n hx hb dX3_slots_52 rfl (lv_at hl 1 rfl) ?_
      refine va_get (D := D) (ci := 3) (v := .ref (G 13)) (C := RX3) (T := TX3) (N := 25) hx hb hts iw_X3_slots_X3 hown hK hP 0 rfl rfl 20 (by decide) (hts (.fieldLink RX3 51 "SluiceRulesModel" "pileSum" "[J") (by decide +kernel)) (fun _ h9 => h9) rfl dX3_slots_53 ?_
      refine lv_aload_n hx hb dX3_slots_56 rfl (lv_at hl 1 rfl) ?_
      refine va_get (D := D) (ci := 3) (v := .int (nI (t + 1) - 1)) (C := RX3) (T := TX3) (N := 25) hx hb hts iw_X3_slots_X3 hown hK hP 0 rfl rfl 16 (by decide) (hts (.fieldLink RX3 99 "SluiceRulesModel" "top" "I") (by decide +kernel)) (fun _ h9 => h9) rfl dX3_slots_57 ?_
      refine my_lald (j := t) hx hb hK hP 13 12 rfl rfl (nI_pred t) (by omega) (by decide) dX3_slots_60 ?_
      refine WrV.callV (As := [.long ((vp_updL pm t ((pm t) + va)) t)]) (rest := []) (c_X3_gives ((vp_updL pm t ((pm t) + va)) t)) ⟨hx, hb, hml, hown, hts⟩ (cwV 1 hts gX3_slots_X3_gives rfl rfl rfl (by decide +kernel) ⟨by decide, by decide⟩) hP hD hS hA hK hN 0 3 rfl rfl rfl hl.1 rfl (Nat.le_of_ble_eq_true rfl) dX3_slots_61 ⟨Nat.le_of_ble_eq_true rfl, Nat.le_of_ble_eq_true rfl⟩ (fun ur_4 H locs hr_4 hP hD hS => ?_)
      refine lv_goto (tgt := 79) hx hb dX3_slots_64 (by decide) ?_
      exact wrV ur_4 hx hb hr hlk dX3_slots_79 hP hD hS (by rw [hr_4, slK, if_pos q_48, if_pos c_11]; simp [gvS, vp_updL])

theorem not3 {x : Int32} (a : ¬ x ≤ 3) (b : ¬ x = 12) (c : ¬ x = 14) : ¬ (x ≤ 3 ∨ x = 12 ∨ x = 14) := fun z => z.elim a (fun z => z.elim b c)
theorem l_ne0 {x : Int32} (h : 1 ≤ x.toInt) : ¬ x.toInt64 = 0 := fun z => by
  have e : x.toInt64.toInt = x.toInt := Int32.toInt_toInt64 x
  rw [z, Int64.toInt_zero] at e; omega

theorem iw_X3_go_X3 : ∀ w ∈ u_ws RX3 TX3 25, w ∈ wsX3_go := by decide +kernel
set_option maxRecDepth 100000 in
set_option maxHeartbeats 4000000 in
/-- go -/
theorem c_X3_go {l : Launch} {D : va_G} {G : Nat → Nat} {Z : Nat → ClassId} {mn fl : Int32} {va gv : Int64} {ts tw tm : Int32} {lv sl kd pt : Nat → Int32} {he : Nat → Int64} {ct fr to rl pi ph ps : Nat → Int32} {pm : Nat → Int64} {b n sN st : Nat} {t k : Nat} (hk : k < n) (hn40 : n ≤ 40) (hb8 : b ≤ 8) (hst : st ≤ 120) (ht : t + 1 ≤ st) (hW : wfA b n sl kd pt) (hpi : pi t = nI k) (hsl : kd k = 16 → ¬ pt (5 * k + 1) < pt (5 * k) + ps t → inB (pt (5 * k) + ps t) 8 = true) : WrV l yX3_go wsX3_go (rk 2) D (mty Z) (mw G Z (nI b) mn (nI n) (nI sN) (nI st) fl va (nI (t + 1) - 1) gv ts tw tm lv sl kd pt he ct fr to rl pi ph ps pm) [.ref (G 0)] (σ := MS) (fun u => mw G Z (nI b) mn (nI n) (nI sN) (nI u.1) u.2.1 u.2.2.1 (nI u.2.2.2.1 - 1) gv ts tw tm lv sl kd pt he u.2.2.2.2.1 fr to rl u.2.2.2.2.2.1 u.2.2.2.2.2.2.1 u.2.2.2.2.2.2.2.1 u.2.2.2.2.2.2.2.2) (fun u => u = goK (n, mn, lv, sl, kd, pt, he) k (st, fl, va, t + 1, ct, pi, ph, ps, pm)) 0 0 := by
  intro sz
  refine wrEnter (cc := cX3_go) (maxL := 5) (ret := none) (by decide) rfl (Nat.le_of_ble_eq_true rfl) ?_
  intro p e s m below meth c hx hb hr hml hown hts hlk hP hK hN hsz hD hS hA hin ls hl
  have hown : s.vm.findClass RX3 = some m.cls := hown
  have hl : lv_has ls 5 [(0, .ref (G 0))] := hl
  refine lv_aload_n hx hb dX3_go_0 rfl (lv_at hl 0 rfl) ?_
  refine va_get (D := D) (ci := 3) (v := .ref (G 10)) (C := RX3) (T := TX3) (N := 25) hx hb hts iw_X3_go_X3 hown hK hP 0 rfl rfl 17 (by decide) (hts (.fieldLink RX3 42 "SluiceRulesModel" "pile" "[I") (by decide +kernel)) (fun _ h9 => h9) rfl dX3_go_1 ?_
  refine lv_aload_n hx hb dX3_go_4 rfl (lv_at hl 0 rfl) ?_
  refine va_get (D := D) (ci := 3) (v := .int (nI (t + 1) - 1)) (C := RX3) (T := TX3) (N := 25) hx hb hts iw_X3_go_X3 hown hK hP 0 rfl rfl 16 (by decide) (hts (.fieldLink RX3 99 "SluiceRulesModel" "top" "I") (by decide +kernel)) (fun _ h9 => h9) rfl dX3_go_5 ?_
  refine my_iald (j := t) hx hb hK hP 10 9 rfl rfl (nI_pred t) (by omega) (by decide) dX3_go_8 ?_
  refine lv_topi (fun kq9 ekq9 => ?_)
  have ekq9 : kq9 = nI k := ekq9.trans hpi
  subst ekq9
  refine lv_istore_n (lv' := [(1, .int (nI k)), (0, .ref (G 0))]) hx hb dX3_go_9 rfl hl (by decide) rfl (fun ls hl => ?_)
  refine lv_aload_n hx hb dX3_go_10 rfl (lv_at hl 1 rfl) ?_
  refine va_get (D := D) (ci := 3) (v := .ref (G 11)) (C := RX3) (T := TX3) (N := 25) hx hb hts iw_X3_go_X3 hown hK hP 0 rfl rfl 18 (by decide) (hts (.fieldLink RX3 45 "SluiceRulesModel" "pileHour" "[I") (by decide +kernel)) (fun _ h9 => h9) rfl dX3_go_11 ?_
  refine lv_aload_n hx hb dX3_go_14 rfl (lv_at hl 1 rfl) ?_
  refine va_get (D := D) (ci := 3) (v := .int (nI (t + 1) - 1)) (C := RX3) (T := TX3) (N := 25) hx hb hts iw_X3_go_X3 hown hK hP 0 rfl rfl 16 (by decide) (hts (.fieldLink RX3 99 "SluiceRulesModel" "top" "I") (by decide +kernel)) (fun _ h9 => h9) rfl dX3_go_15 ?_
  refine my_iald (j := t) hx hb hK hP 11 10 rfl rfl (nI_pred t) (by omega) (by decide) dX3_go_18 ?_
  refine lv_istore_n (lv' := [(2, .int (ph t)), (1, .int (nI k)), (0, .ref (G 0))]) hx hb dX3_go_19 rfl hl (by decide) rfl (fun ls hl => ?_)
  refine lv_aload_n hx hb dX3_go_20 rfl (lv_at hl 2 rfl) ?_
  refine va_get (D := D) (ci := 3) (v := .ref (G 12)) (C := RX3) (T := TX3) (N := 25) hx hb hts iw_X3_go_X3 hown hK hP 0 rfl rfl 19 (by decide) (hts (.fieldLink RX3 48 "SluiceRulesModel" "pileState" "[I") (by decide +kernel)) (fun _ h9 => h9) rfl dX3_go_21 ?_
  refine lv_aload_n hx hb dX3_go_24 rfl (lv_at hl 2 rfl) ?_
  refine va_get (D := D) (ci := 3) (v := .int (nI (t + 1) - 1)) (C := RX3) (T := TX3) (N := 25) hx hb hts iw_X3_go_X3 hown hK hP 0 rfl rfl 16 (by decide) (hts (.fieldLink RX3 99 "SluiceRulesModel" "top" "I") (by decide +kernel)) (fun _ h9 => h9) rfl dX3_go_25 ?_
  refine my_iald (j := t) hx hb hK hP 12 11 rfl rfl (nI_pred t) (by omega) (by decide) dX3_go_28 ?_
  refine lv_istore_n (lv' := [(3, .int (ps t)), (2, .int (ph t)), (1, .int (nI k)), (0, .ref (G 0))]) hx hb dX3_go_29 rfl hl (by decide) rfl (fun ls hl => ?_)
  refine lv_aload_n hx hb dX3_go_30 rfl (lv_at hl 3 rfl) ?_
  refine va_get (D := D) (ci := 3) (v := .ref (G 12)) (C := RX3) (T := TX3) (N := 25) hx hb hts iw_X3_go_X3 hown hK hP 0 rfl rfl 19 (by decide) (hts (.fieldLink RX3 48 "SluiceRulesModel" "pileState" "[I") (by decide +kernel)) (fun _ h9 => h9) rfl dX3_go_31 ?_
  refine lv_aload_n hx hb dX3_go_34 rfl (lv_at hl 3 rfl) ?_
  refine va_get (D := D) (ci := 3) (v := .int (nI (t + 1) - 1)) (C := RX3) (T := TX3) (N := 25) hx hb hts iw_X3_go_X3 hown hK hP 0 rfl rfl 16 (by decide) (hts (.fieldLink RX3 99 "SluiceRulesModel" "top" "I") (by decide +kernel)) (fun _ h9 => h9) rfl dX3_go_35 ?_
  refine lv_dup2_11 hx hb dX3_go_38 rfl rfl ?_
  refine my_iald (j := t) hx hb hK hP 12 11 rfl rfl (nI_pred t) (by omega) (by decide) dX3_go_39 ?_
  refine lv_iconst (v := 1) hx hb dX3_go_40 (by decide) ?_
  refine lv_iadd hx hb dX3_go_41 ?_
  refine my_iast (j := t) hx hb hK hP hD hS 12 11 rfl rfl (nI_pred t) (by omega) (by decide) dX3_go_42 (fun H locs hP hD hS => ?_)
  have hP : va_P D vwCl (mw G Z (nI b) mn (nI n) (nI sN) (nI st) fl va (nI (t + 1) - 1) gv ts tw tm lv sl kd pt he ct fr to rl pi ph (upd ps t ((ps t) + 1)) pm) H := hP
  have hD : va_D (va_A (mw G Z (nI b) mn (nI n) (nI sN) (nI st) fl va (nI (t + 1) - 1) gv ts tw tm lv sl kd pt he ct fr to rl pi ph ps pm) sz) (mw G Z (nI b) mn (nI n) (nI sN) (nI st) fl va (nI (t + 1) - 1) gv ts tw tm lv sl kd pt he ct fr to rl pi ph (upd ps t ((ps t) + 1)) pm) := hD
  refine lv_aload_n hx hb dX3_go_43 rfl (lv_at hl 3 rfl) ?_
  refine va_get (D := D) (ci := 3) (v := .ref (G 3)) (C := RX3) (T := TX3) (N := 25) hx hb hts iw_X3_go_X3 hown hK hP 0 rfl rfl 5 (by decide) (hts (.fieldLink RX3 20 "SluiceRulesModel" "kindOf" "[I") (by decide +kernel)) (fun _ h9 => h9) rfl dX3_go_44 ?_
  refine lv_iload_n hx hb dX3_go_47 rfl (lv_at hl 2 rfl) ?_
  refine my_iald (j := k) hx hb hK hP 3 2 rfl rfl (rfl) (by omega) (by decide) dX3_go_48 ?_
  refine lv_istore (lv' := [(4, .int (kd k)), (3, .int (ps t)), (2, .int (ph t)), (1, .int (nI k)), (0, .ref (G 0))]) hx hb dX3_go_49 hl (by decide) rfl (fun ls hl => ?_)
  refine lv_iload hx hb dX3_go_51 (lv_at hl 0 rfl) ?_
  refine lv_iconst (v := 3) hx hb dX3_go_53 (by decide) ?_
  refine lv_icmp_le (tgt := 71) hx hb dX3_go_54 (by decide) (fun c_54 => ?_) (fun c_54 => ?_)
  · refine lv_aload_n hx hb dX3_go_71 rfl (lv_at hl 4 rfl) ?_
    refine lv_iload_n hx hb dX3_go_72 rfl (lv_at hl 3 rfl) ?_
    refine lv_iload_n hx hb dX3_go_73 rfl (lv_at hl 2 rfl) ?_
    refine WrV.callV (As := [.int (nI k), .int (ph t)]) (rest := []) (c_X3_plain hk hn40 hst ht hb8 (hW.1 k hk) (wf_lf (hW.1 k hk) (Or.inl c_54)) (ph t)) ⟨hx, hb, hml, hown, hts⟩ (cwV 2 hts gX3_go_X3_plain rfl rfl rfl (by decide +kernel) ⟨by decide, by decide⟩) hP hD hS hA hK hN 0 3 rfl rfl rfl hl.1 rfl (Nat.le_of_ble_eq_true rfl) dX3_go_74 ⟨Nat.le_of_ble_eq_true rfl, Nat.le_of_ble_eq_true rfl⟩ (fun ur_1 H locs hr_1 hP hD hS => ?_)
    refine lv_goto (tgt := 222) hx hb dX3_go_77 (by decide) ?_
    exact wrV ur_1 hx hb hr hlk dX3_go_222 hP hD hS (by rw [hr_1, goK, if_pos (Or.inl c_54)]; rfl)
  · refine lv_iload hx hb dX3_go_57 (lv_at hl 0 rfl) ?_
    refine lv_bipush (v := 12) hx hb dX3_go_59 (by decide) ?_
    refine lv_icmp_eq (tgt := 71) hx hb dX3_go_61 (by decide) (fun c_61 => ?_) (fun c_61 => ?_)
    · refine lv_aload_n hx hb dX3_go_71 rfl (lv_at hl 4 rfl) ?_
      refine lv_iload_n hx hb dX3_go_72 rfl (lv_at hl 3 rfl) ?_
      refine lv_iload_n hx hb dX3_go_73 rfl (lv_at hl 2 rfl) ?_
      refine WrV.callV (As := [.int (nI k), .int (ph t)]) (rest := []) (c_X3_plain hk hn40 hst ht hb8 (hW.1 k hk) (wf_lf (hW.1 k hk) (Or.inr (Or.inl c_61))) (ph t)) ⟨hx, hb, hml, hown, hts⟩ (cwV 2 hts gX3_go_X3_plain rfl rfl rfl (by decide +kernel) ⟨by decide, by decide⟩) hP hD hS hA hK hN 0 3 rfl rfl rfl hl.1 rfl (Nat.le_of_ble_eq_true rfl) dX3_go_74 ⟨Nat.le_of_ble_eq_true rfl, Nat.le_of_ble_eq_true rfl⟩ (fun ur_2 H locs hr_2 hP hD hS => ?_)
      refine lv_goto (tgt := 222) hx hb dX3_go_77 (by decide) ?_
      exact wrV ur_2 hx hb hr hlk dX3_go_222 hP hD hS (by rw [hr_2, goK, if_pos (Or.inr (Or.inl c_61))]; rfl)
    · refine lv_iload hx hb dX3_go_64 (lv_at hl 0 rfl) ?_
      refine lv_bipush (v := 14) hx hb dX3_go_66 (by decide) ?_
      refine lv_icmp_ne (tgt := 80) hx hb dX3_go_68 (by decide) (fun c_68 => ?_) (fun c_68 => ?_)
      · refine lv_iload hx hb dX3_go_80 (lv_at hl 0 rfl) ?_
        refine lv_bipush (v := 16) hx hb dX3_go_82 (by decide) ?_
        refine lv_icmp_ne (tgt := 97) hx hb dX3_go_84 (by decide) (fun c_84 => ?_) (fun c_84 => ?_)
        · refine lv_iload_n hx hb dX3_go_97 rfl (lv_at hl 1 rfl) ?_
          refine lv_if_ne (tgt := 183) hx hb dX3_go_98 (by decide) (fun c_98 => ?_) (fun c_98 => ?_)
          · refine lv_iload hx hb dX3_go_183 (lv_at hl 0 rfl) ?_
            refine lv_bipush (v := 7) hx hb dX3_go_185 (by decide) ?_
            refine lv_icmp_gt (tgt := 200) hx hb dX3_go_187 (by decide) (fun c_187 => ?_) (fun c_187 => ?_)
            · have q_187 : ¬ kd k ≤ 7 := by rw [i_le]; have q9 := c_187; rw [i_lt] at q9; omega
              refine lv_iload hx hb dX3_go_200 (lv_at hl 0 rfl) ?_
              refine lv_bipush (v := 9) hx hb dX3_go_202 (by decide) ?_
              refine lv_icmp_ne (tgt := 217) hx hb dX3_go_204 (by decide) (fun c_204 => ?_) (fun c_204 => ?_)
              · refine lv_aload_n hx hb dX3_go_217 rfl (lv_at hl 4 rfl) ?_
                refine lv_iload_n hx hb dX3_go_218 rfl (lv_at hl 3 rfl) ?_
                refine WrV.callV (As := [.int (nI k)]) (rest := []) (c_X3_behind hk hn40 hst ht (fun z9 => l_ne0 (wf_8 (hW.1 k hk) z9).1)) ⟨hx, hb, hml, hown, hts⟩ (cwV 1 hts gX3_go_X3_behind rfl rfl rfl (by decide +kernel) ⟨by decide, by decide⟩) hP hD hS hA hK hN 0 3 rfl rfl rfl hl.1 rfl (Nat.le_of_ble_eq_true rfl) dX3_go_219 ⟨Nat.le_of_ble_eq_true rfl, Nat.le_of_ble_eq_true rfl⟩ (fun ur_3 H locs hr_3 hP hD hS => ?_)
                exact wrV ur_3 hx hb hr hlk dX3_go_222 hP hD hS (by rw [hr_3, goK, if_neg (not3 c_54 c_61 c_68), if_neg c_84, if_neg (show ¬ ps (t + 1 - 1) = 0 from c_98), if_neg q_187, if_neg c_204]; rfl)
              · refine lv_aload_n hx hb dX3_go_207 rfl (lv_at hl 4 rfl) ?_
                refine lv_iload_n hx hb dX3_go_208 rfl (lv_at hl 3 rfl) ?_
                refine lv_iload_n hx hb dX3_go_209 rfl (lv_at hl 2 rfl) ?_
                refine lv_iload_n hx hb dX3_go_210 rfl (lv_at hl 1 rfl) ?_
                refine WrV.callV (As := [.int (nI k), .int (ph t), .int (ps t)]) (rest := []) (c_X3_choice hk hn40 hst ht (ph t) (ps t)) ⟨hx, hb, hml, hown, hts⟩ (cwV 3 hts gX3_go_X3_choice rfl rfl rfl (by decide +kernel) ⟨by decide, by decide⟩) hP hD hS hA hK hN 0 3 rfl rfl rfl hl.1 rfl (Nat.le_of_ble_eq_true rfl) dX3_go_211 ⟨Nat.le_of_ble_eq_true rfl, Nat.le_of_ble_eq_true rfl⟩ (fun ur_4 H locs hr_4 hP hD hS => ?_)
                refine lv_goto (tgt := 222) hx hb dX3_go_214 (by decide) ?_
                exact wrV ur_4 hx hb hr hlk dX3_go_222 hP hD hS (by rw [hr_4, goK, if_neg (not3 c_54 c_61 c_68), if_neg c_84, if_neg (show ¬ ps (t + 1 - 1) = 0 from c_98), if_neg q_187, if_pos c_204]; rfl)
            · have q_187 : kd k ≤ 7 := by rw [i_le]; have q9 := c_187; rw [i_lt] at q9; omega
              refine lv_aload_n hx hb dX3_go_190 rfl (lv_at hl 4 rfl) ?_
              refine lv_iload_n hx hb dX3_go_191 rfl (lv_at hl 3 rfl) ?_
              refine lv_iload_n hx hb dX3_go_192 rfl (lv_at hl 2 rfl) ?_
              refine lv_iload_n hx hb dX3_go_193 rfl (lv_at hl 1 rfl) ?_
              refine WrV.callV (As := [.int (nI k), .int (ph t), .int (ps t)]) (rest := []) (c_X3_pair hk hn40 hst ht (ph t) (ps t)) ⟨hx, hb, hml, hown, hts⟩ (cwV 3 hts gX3_go_X3_pair rfl rfl rfl (by decide +kernel) ⟨by decide, by decide⟩) hP hD hS hA hK hN 0 3 rfl rfl rfl hl.1 rfl (Nat.le_of_ble_eq_true rfl) dX3_go_194 ⟨Nat.le_of_ble_eq_true rfl, Nat.le_of_ble_eq_true rfl⟩ (fun ur_5 H locs hr_5 hP hD hS => ?_)
              refine lv_goto (tgt := 222) hx hb dX3_go_197 (by decide) ?_
              exact wrV ur_5 hx hb hr hlk dX3_go_222 hP hD hS (by rw [hr_5, goK, if_neg (not3 c_54 c_61 c_68), if_neg c_84, if_neg (show ¬ ps (t + 1 - 1) = 0 from c_98), if_pos q_187]; rfl)
          · refine lv_aload_n hx hb dX3_go_101 rfl (lv_at hl 4 rfl) ?_
            refine va_get (D := D) (ci := 3) (v := .ref (G 6)) (C := RX3) (T := TX3) (N := 25) hx hb hts iw_X3_go_X3 hown hK hP 0 rfl rfl 8 (by decide) (hts (.fieldLink RX3 30 "SluiceRulesModel" "counter" "[I") (by decide +kernel)) (fun _ h9 => h9) rfl dX3_go_102 ?_
            refine lv_iload_n hx hb dX3_go_105 rfl (lv_at hl 3 rfl) ?_
            refine lv_dup2_11 hx hb dX3_go_106 rfl rfl ?_
            refine my_iald (j := k) hx hb hK hP 6 5 rfl rfl (rfl) (by omega) (by decide) dX3_go_107 ?_
            refine lv_iload hx hb dX3_go_108 (lv_at hl 0 rfl) ?_
            refine lv_bipush (v := 13) hx hb dX3_go_110 (by decide) ?_
            refine lv_icmp_ne (tgt := 119) hx hb dX3_go_112 (by decide) (fun c_112 => ?_) (fun c_112 => ?_)
            · refine lv_iconst (v := 0) hx hb dX3_go_119 (by decide) ?_
              refine lv_iadd hx hb dX3_go_120 ?_
              refine my_iast (j := k) hx hb hK hP hD hS 6 5 rfl rfl (rfl) (by omega) (by decide) dX3_go_121 (fun H locs hP hD hS => ?_)
              have hP : va_P D vwCl (mw G Z (nI b) mn (nI n) (nI sN) (nI st) fl va (nI (t + 1) - 1) gv ts tw tm lv sl kd pt he (upd ct k ((ct k) + 0)) fr to rl pi ph (upd ps t ((ps t) + 1)) pm) H := hP
              have hD : va_D (va_A (mw G Z (nI b) mn (nI n) (nI sN) (nI st) fl va (nI (t + 1) - 1) gv ts tw tm lv sl kd pt he ct fr to rl pi ph ps pm) sz) (mw G Z (nI b) mn (nI n) (nI sN) (nI st) fl va (nI (t + 1) - 1) gv ts tw tm lv sl kd pt he (upd ct k ((ct k) + 0)) fr to rl pi ph (upd ps t ((ps t) + 1)) pm) := hD
              refine lv_aload_n hx hb dX3_go_122 rfl (lv_at hl 4 rfl) ?_
              refine lv_iload hx hb dX3_go_123 (lv_at hl 0 rfl) ?_
              refine lv_bipush (v := 15) hx hb dX3_go_125 (by decide) ?_
              refine lv_icmp_ne (tgt := 146) hx hb dX3_go_127 (by decide) (fun c_127 => ?_) (fun c_127 => ?_)
              · refine lv_aload_n hx hb dX3_go_146 rfl (lv_at hl 4 rfl) ?_
                refine va_get (D := D) (ci := 3) (v := .ref (G 4)) (C := RX3) (T := TX3) (N := 25) hx hb hts iw_X3_go_X3 hown hK hP 0 rfl rfl 6 (by decide) (hts (.fieldLink RX3 23 "SluiceRulesModel" "parts" "[I") (by decide +kernel)) (fun _ h9 => h9) rfl dX3_go_147 ?_
                refine lv_iconst (v := 5) hx hb dX3_go_150 (by decide) ?_
                refine lv_iload_n hx hb dX3_go_151 rfl (lv_at hl 3 rfl) ?_
                refine lv_imul hx hb dX3_go_152 ?_
                refine my_iald (j := 5 * k) hx hb hK hP 4 3 rfl rfl (mul5 k) (by omega) (by decide) dX3_go_153 ?_
                refine lv_iload hx hb dX3_go_154 (lv_at hl 0 rfl) ?_
                refine lv_bipush (v := 10) hx hb dX3_go_156 (by decide) ?_
                refine lv_icmp_ne (tgt := 176) hx hb dX3_go_158 (by decide) (fun c_158 => ?_) (fun c_158 => ?_)
                · refine lv_iload_n hx hb dX3_go_176 rfl (lv_at hl 2 rfl) ?_
                  refine WrV.callV (As := [.int (pt (5 * k)), .int (ph t)]) (rest := []) (c_X3_enter hst ht (pt (5 * k)) (ph t)) ⟨hx, hb, hml, hown, hts⟩ (cwV 2 hts gX3_go_X3_enter rfl rfl rfl (by decide +kernel) ⟨by decide, by decide⟩) hP hD hS hA hK hN 0 3 rfl rfl rfl hl.1 rfl (Nat.le_of_ble_eq_true rfl) dX3_go_177 ⟨Nat.le_of_ble_eq_true rfl, Nat.le_of_ble_eq_true rfl⟩ (fun ur_6 H locs hr_6 hP hD hS => ?_)
                  refine lv_goto (tgt := 222) hx hb dX3_go_180 (by decide) ?_
                  exact wrV ur_6 hx hb hr hlk dX3_go_222 hP hD hS (by rw [hr_6, goK, if_neg (not3 c_54 c_61 c_68), if_neg c_84, if_pos (show ps (t + 1 - 1) = 0 from c_98), if_neg c_127, if_neg c_158, if_neg c_112]; rfl)
                · refine lv_iload_n hx hb dX3_go_161 rfl (lv_at hl 2 rfl) ?_
                  refine lv_aload_n hx hb dX3_go_162 rfl (lv_at hl 4 rfl) ?_
                  refine va_get (D := D) (ci := 3) (v := .ref (G 4)) (C := RX3) (T := TX3) (N := 25) hx hb hts iw_X3_go_X3 hown hK hP 0 rfl rfl 6 (by decide) (hts (.fieldLink RX3 23 "SluiceRulesModel" "parts" "[I") (by decide +kernel)) (fun _ h9 => h9) rfl dX3_go_163 ?_
                  refine lv_iconst (v := 5) hx hb dX3_go_166 (by decide) ?_
                  refine lv_iload_n hx hb dX3_go_167 rfl (lv_at hl 3 rfl) ?_
                  refine lv_imul hx hb dX3_go_168 ?_
                  refine lv_iconst (v := 1) hx hb dX3_go_169 (by decide) ?_
                  refine lv_iadd hx hb dX3_go_170 ?_
                  refine my_iald (j := 5 * k + 1) hx hb hK hP 4 3 rfl rfl (mul51 k) (by omega) (by decide) dX3_go_171 ?_
                  refine lv_iadd hx hb dX3_go_172 ?_
                  refine lv_goto (tgt := 177) hx hb dX3_go_173 (by decide) ?_
                  refine WrV.callV (As := [.int (pt (5 * k)), .int ((ph t) + (pt (5 * k + 1)))]) (rest := []) (c_X3_enter hst ht (pt (5 * k)) ((ph t) + (pt (5 * k + 1)))) ⟨hx, hb, hml, hown, hts⟩ (cwV 2 hts gX3_go_X3_enter rfl rfl rfl (by decide +kernel) ⟨by decide, by decide⟩) hP hD hS hA hK hN 0 3 rfl rfl rfl hl.1 rfl (Nat.le_of_ble_eq_true rfl) dX3_go_177 ⟨Nat.le_of_ble_eq_true rfl, Nat.le_of_ble_eq_true rfl⟩ (fun ur_7 H locs hr_7 hP hD hS => ?_)
                  refine lv_goto (tgt := 222) hx hb dX3_go_180 (by decide) ?_
                  exact wrV ur_7 hx hb hr hlk dX3_go_222 hP hD hS (by rw [hr_7, goK, if_neg (not3 c_54 c_61 c_68), if_neg c_84, if_pos (show ps (t + 1 - 1) = 0 from c_98), if_neg c_127, if_pos c_158, if_neg c_112]; rfl)
              · refine lv_aload_n hx hb dX3_go_130 rfl (lv_at hl 4 rfl) ?_
                refine va_get (D := D) (ci := 3) (v := .ref (G 2)) (C := RX3) (T := TX3) (N := 25) hx hb hts iw_X3_go_X3 hown hK hP 0 rfl rfl 3 (by decide) (hts (.fieldLink RX3 17 "SluiceRulesModel" "slot" "[I") (by decide +kernel)) (fun _ h9 => h9) rfl dX3_go_131 ?_
                refine lv_aload_n hx hb dX3_go_134 rfl (lv_at hl 4 rfl) ?_
                refine va_get (D := D) (ci := 3) (v := .ref (G 4)) (C := RX3) (T := TX3) (N := 25) hx hb hts iw_X3_go_X3 hown hK hP 0 rfl rfl 6 (by decide) (hts (.fieldLink RX3 23 "SluiceRulesModel" "parts" "[I") (by decide +kernel)) (fun _ h9 => h9) rfl dX3_go_135 ?_
                refine lv_iconst (v := 5) hx hb dX3_go_138 (by decide) ?_
                refine lv_iload_n hx hb dX3_go_139 rfl (lv_at hl 3 rfl) ?_
                refine lv_imul hx hb dX3_go_140 ?_
                refine my_iald (j := 5 * k) hx hb hK hP 4 3 rfl rfl (mul5 k) (by omega) (by decide) dX3_go_141 ?_
                refine va_iald hx hb hK hP 2 1 rfl rfl (inB_vp.mp (wf_15 (hW.1 k hk) c_127)) dX3_go_142 ?_
                refine lv_goto (tgt := 154) hx hb dX3_go_143 (by decide) ?_
                refine lv_iload hx hb dX3_go_154 (lv_at hl 0 rfl) ?_
                refine lv_bipush (v := 10) hx hb dX3_go_156 (by decide) ?_
                refine lv_icmp_ne (tgt := 176) hx hb dX3_go_158 (by decide) (fun c_158 => ?_) (fun c_158 => ?_)
                · refine lv_iload_n hx hb dX3_go_176 rfl (lv_at hl 2 rfl) ?_
                  refine WrV.callV (As := [.int (sl (pt (5 * k)).toNatClampNeg), .int (ph t)]) (rest := []) (c_X3_enter hst ht (sl (pt (5 * k)).toNatClampNeg) (ph t)) ⟨hx, hb, hml, hown, hts⟩ (cwV 2 hts gX3_go_X3_enter rfl rfl rfl (by decide +kernel) ⟨by decide, by decide⟩) hP hD hS hA hK hN 0 3 rfl rfl rfl hl.1 rfl (Nat.le_of_ble_eq_true rfl) dX3_go_177 ⟨Nat.le_of_ble_eq_true rfl, Nat.le_of_ble_eq_true rfl⟩ (fun ur_8 H locs hr_8 hP hD hS => ?_)
                  refine lv_goto (tgt := 222) hx hb dX3_go_180 (by decide) ?_
                  exact wrV ur_8 hx hb hr hlk dX3_go_222 hP hD hS (by rw [hr_8, goK, if_neg (not3 c_54 c_61 c_68), if_neg c_84, if_pos (show ps (t + 1 - 1) = 0 from c_98), if_pos c_127, if_neg c_158, if_neg c_112]; rfl)
                · refine lv_iload_n hx hb dX3_go_161 rfl (lv_at hl 2 rfl) ?_
                  refine lv_aload_n hx hb dX3_go_162 rfl (lv_at hl 4 rfl) ?_
                  refine va_get (D := D) (ci := 3) (v := .ref (G 4)) (C := RX3) (T := TX3) (N := 25) hx hb hts iw_X3_go_X3 hown hK hP 0 rfl rfl 6 (by decide) (hts (.fieldLink RX3 23 "SluiceRulesModel" "parts" "[I") (by decide +kernel)) (fun _ h9 => h9) rfl dX3_go_163 ?_
                  refine lv_iconst (v := 5) hx hb dX3_go_166 (by decide) ?_
                  refine lv_iload_n hx hb dX3_go_167 rfl (lv_at hl 3 rfl) ?_
                  refine lv_imul hx hb dX3_go_168 ?_
                  refine lv_iconst (v := 1) hx hb dX3_go_169 (by decide) ?_
                  refine lv_iadd hx hb dX3_go_170 ?_
                  refine my_iald (j := 5 * k + 1) hx hb hK hP 4 3 rfl rfl (mul51 k) (by omega) (by decide) dX3_go_171 ?_
                  refine lv_iadd hx hb dX3_go_172 ?_
                  refine lv_goto (tgt := 177) hx hb dX3_go_173 (by decide) ?_
                  refine WrV.callV (As := [.int (sl (pt (5 * k)).toNatClampNeg), .int ((ph t) + (pt (5 * k + 1)))]) (rest := []) (c_X3_enter hst ht (sl (pt (5 * k)).toNatClampNeg) ((ph t) + (pt (5 * k + 1)))) ⟨hx, hb, hml, hown, hts⟩ (cwV 2 hts gX3_go_X3_enter rfl rfl rfl (by decide +kernel) ⟨by decide, by decide⟩) hP hD hS hA hK hN 0 3 rfl rfl rfl hl.1 rfl (Nat.le_of_ble_eq_true rfl) dX3_go_177 ⟨Nat.le_of_ble_eq_true rfl, Nat.le_of_ble_eq_true rfl⟩ (fun ur_9 H locs hr_9 hP hD hS => ?_)
                  refine lv_goto (tgt := 222) hx hb dX3_go_180 (by decide) ?_
                  exact wrV ur_9 hx hb hr hlk dX3_go_222 hP hD hS (by rw [hr_9, goK, if_neg (not3 c_54 c_61 c_68), if_neg c_84, if_pos (show ps (t + 1 - 1) = 0 from c_98), if_pos c_127, if_pos c_158, if_neg c_112]; rfl)
            · refine lv_iconst (v := 1) hx hb dX3_go_115 (by decide) ?_
              refine lv_goto (tgt := 120) hx hb dX3_go_116 (by decide) ?_
              refine lv_iadd hx hb dX3_go_120 ?_
              refine my_iast (j := k) hx hb hK hP hD hS 6 5 rfl rfl (rfl) (by omega) (by decide) dX3_go_121 (fun H locs hP hD hS => ?_)
              have hP : va_P D vwCl (mw G Z (nI b) mn (nI n) (nI sN) (nI st) fl va (nI (t + 1) - 1) gv ts tw tm lv sl kd pt he (upd ct k ((ct k) + 1)) fr to rl pi ph (upd ps t ((ps t) + 1)) pm) H := hP
              have hD : va_D (va_A (mw G Z (nI b) mn (nI n) (nI sN) (nI st) fl va (nI (t + 1) - 1) gv ts tw tm lv sl kd pt he ct fr to rl pi ph ps pm) sz) (mw G Z (nI b) mn (nI n) (nI sN) (nI st) fl va (nI (t + 1) - 1) gv ts tw tm lv sl kd pt he (upd ct k ((ct k) + 1)) fr to rl pi ph (upd ps t ((ps t) + 1)) pm) := hD
              refine lv_aload_n hx hb dX3_go_122 rfl (lv_at hl 4 rfl) ?_
              refine lv_iload hx hb dX3_go_123 (lv_at hl 0 rfl) ?_
              refine lv_bipush (v := 15) hx hb dX3_go_125 (by decide) ?_
              refine lv_icmp_ne (tgt := 146) hx hb dX3_go_127 (by decide) (fun c_127 => ?_) (fun c_127 => ?_)
              · refine lv_aload_n hx hb dX3_go_146 rfl (lv_at hl 4 rfl) ?_
                refine va_get (D := D) (ci := 3) (v := .ref (G 4)) (C := RX3) (T := TX3) (N := 25) hx hb hts iw_X3_go_X3 hown hK hP 0 rfl rfl 6 (by decide) (hts (.fieldLink RX3 23 "SluiceRulesModel" "parts" "[I") (by decide +kernel)) (fun _ h9 => h9) rfl dX3_go_147 ?_
                refine lv_iconst (v := 5) hx hb dX3_go_150 (by decide) ?_
                refine lv_iload_n hx hb dX3_go_151 rfl (lv_at hl 3 rfl) ?_
                refine lv_imul hx hb dX3_go_152 ?_
                refine my_iald (j := 5 * k) hx hb hK hP 4 3 rfl rfl (mul5 k) (by omega) (by decide) dX3_go_153 ?_
                refine lv_iload hx hb dX3_go_154 (lv_at hl 0 rfl) ?_
                refine lv_bipush (v := 10) hx hb dX3_go_156 (by decide) ?_
                refine lv_icmp_ne (tgt := 176) hx hb dX3_go_158 (by decide) (fun c_158 => ?_) (fun c_158 => ?_)
                · refine lv_iload_n hx hb dX3_go_176 rfl (lv_at hl 2 rfl) ?_
                  refine WrV.callV (As := [.int (pt (5 * k)), .int (ph t)]) (rest := []) (c_X3_enter hst ht (pt (5 * k)) (ph t)) ⟨hx, hb, hml, hown, hts⟩ (cwV 2 hts gX3_go_X3_enter rfl rfl rfl (by decide +kernel) ⟨by decide, by decide⟩) hP hD hS hA hK hN 0 3 rfl rfl rfl hl.1 rfl (Nat.le_of_ble_eq_true rfl) dX3_go_177 ⟨Nat.le_of_ble_eq_true rfl, Nat.le_of_ble_eq_true rfl⟩ (fun ur_10 H locs hr_10 hP hD hS => ?_)
                  refine lv_goto (tgt := 222) hx hb dX3_go_180 (by decide) ?_
                  exact wrV ur_10 hx hb hr hlk dX3_go_222 hP hD hS (by rw [hr_10, goK, if_neg (not3 c_54 c_61 c_68), if_neg c_84, if_pos (show ps (t + 1 - 1) = 0 from c_98), if_neg c_127, if_neg c_158, if_pos c_112]; rfl)
                · refine lv_iload_n hx hb dX3_go_161 rfl (lv_at hl 2 rfl) ?_
                  refine lv_aload_n hx hb dX3_go_162 rfl (lv_at hl 4 rfl) ?_
                  refine va_get (D := D) (ci := 3) (v := .ref (G 4)) (C := RX3) (T := TX3) (N := 25) hx hb hts iw_X3_go_X3 hown hK hP 0 rfl rfl 6 (by decide) (hts (.fieldLink RX3 23 "SluiceRulesModel" "parts" "[I") (by decide +kernel)) (fun _ h9 => h9) rfl dX3_go_163 ?_
                  refine lv_iconst (v := 5) hx hb dX3_go_166 (by decide) ?_
                  refine lv_iload_n hx hb dX3_go_167 rfl (lv_at hl 3 rfl) ?_
                  refine lv_imul hx hb dX3_go_168 ?_
                  refine lv_iconst (v := 1) hx hb dX3_go_169 (by decide) ?_
                  refine lv_iadd hx hb dX3_go_170 ?_
                  refine my_iald (j := 5 * k + 1) hx hb hK hP 4 3 rfl rfl (mul51 k) (by omega) (by decide) dX3_go_171 ?_
                  refine lv_iadd hx hb dX3_go_172 ?_
                  refine lv_goto (tgt := 177) hx hb dX3_go_173 (by decide) ?_
                  refine WrV.callV (As := [.int (pt (5 * k)), .int ((ph t) + (pt (5 * k + 1)))]) (rest := []) (c_X3_enter hst ht (pt (5 * k)) ((ph t) + (pt (5 * k + 1)))) ⟨hx, hb, hml, hown, hts⟩ (cwV 2 hts gX3_go_X3_enter rfl rfl rfl (by decide +kernel) ⟨by decide, by decide⟩) hP hD hS hA hK hN 0 3 rfl rfl rfl hl.1 rfl (Nat.le_of_ble_eq_true rfl) dX3_go_177 ⟨Nat.le_of_ble_eq_true rfl, Nat.le_of_ble_eq_true rfl⟩ (fun ur_11 H locs hr_11 hP hD hS => ?_)
                  refine lv_goto (tgt := 222) hx hb dX3_go_180 (by decide) ?_
                  exact wrV ur_11 hx hb hr hlk dX3_go_222 hP hD hS (by rw [hr_11, goK, if_neg (not3 c_54 c_61 c_68), if_neg c_84, if_pos (show ps (t + 1 - 1) = 0 from c_98), if_neg c_127, if_pos c_158, if_pos c_112]; rfl)
              · refine lv_aload_n hx hb dX3_go_130 rfl (lv_at hl 4 rfl) ?_
                refine va_get (D := D) (ci := 3) (v := .ref (G 2)) (C := RX3) (T := TX3) (N := 25) hx hb hts iw_X3_go_X3 hown hK hP 0 rfl rfl 3 (by decide) (hts (.fieldLink RX3 17 "SluiceRulesModel" "slot" "[I") (by decide +kernel)) (fun _ h9 => h9) rfl dX3_go_131 ?_
                refine lv_aload_n hx hb dX3_go_134 rfl (lv_at hl 4 rfl) ?_
                refine va_get (D := D) (ci := 3) (v := .ref (G 4)) (C := RX3) (T := TX3) (N := 25) hx hb hts iw_X3_go_X3 hown hK hP 0 rfl rfl 6 (by decide) (hts (.fieldLink RX3 23 "SluiceRulesModel" "parts" "[I") (by decide +kernel)) (fun _ h9 => h9) rfl dX3_go_135 ?_
                refine lv_iconst (v := 5) hx hb dX3_go_138 (by decide) ?_
                refine lv_iload_n hx hb dX3_go_139 rfl (lv_at hl 3 rfl) ?_
                refine lv_imul hx hb dX3_go_140 ?_
                refine my_iald (j := 5 * k) hx hb hK hP 4 3 rfl rfl (mul5 k) (by omega) (by decide) dX3_go_141 ?_
                refine va_iald hx hb hK hP 2 1 rfl rfl (inB_vp.mp (wf_15 (hW.1 k hk) c_127)) dX3_go_142 ?_
                refine lv_goto (tgt := 154) hx hb dX3_go_143 (by decide) ?_
                refine lv_iload hx hb dX3_go_154 (lv_at hl 0 rfl) ?_
                refine lv_bipush (v := 10) hx hb dX3_go_156 (by decide) ?_
                refine lv_icmp_ne (tgt := 176) hx hb dX3_go_158 (by decide) (fun c_158 => ?_) (fun c_158 => ?_)
                · refine lv_iload_n hx hb dX3_go_176 rfl (lv_at hl 2 rfl) ?_
                  refine WrV.callV (As := [.int (sl (pt (5 * k)).toNatClampNeg), .int (ph t)]) (rest := []) (c_X3_enter hst ht (sl (pt (5 * k)).toNatClampNeg) (ph t)) ⟨hx, hb, hml, hown, hts⟩ (cwV 2 hts gX3_go_X3_enter rfl rfl rfl (by decide +kernel) ⟨by decide, by decide⟩) hP hD hS hA hK hN 0 3 rfl rfl rfl hl.1 rfl (Nat.le_of_ble_eq_true rfl) dX3_go_177 ⟨Nat.le_of_ble_eq_true rfl, Nat.le_of_ble_eq_true rfl⟩ (fun ur_12 H locs hr_12 hP hD hS => ?_)
                  refine lv_goto (tgt := 222) hx hb dX3_go_180 (by decide) ?_
                  exact wrV ur_12 hx hb hr hlk dX3_go_222 hP hD hS (by rw [hr_12, goK, if_neg (not3 c_54 c_61 c_68), if_neg c_84, if_pos (show ps (t + 1 - 1) = 0 from c_98), if_pos c_127, if_neg c_158, if_pos c_112]; rfl)
                · refine lv_iload_n hx hb dX3_go_161 rfl (lv_at hl 2 rfl) ?_
                  refine lv_aload_n hx hb dX3_go_162 rfl (lv_at hl 4 rfl) ?_
                  refine va_get (D := D) (ci := 3) (v := .ref (G 4)) (C := RX3) (T := TX3) (N := 25) hx hb hts iw_X3_go_X3 hown hK hP 0 rfl rfl 6 (by decide) (hts (.fieldLink RX3 23 "SluiceRulesModel" "parts" "[I") (by decide +kernel)) (fun _ h9 => h9) rfl dX3_go_163 ?_
                  refine lv_iconst (v := 5) hx hb dX3_go_166 (by decide) ?_
                  refine lv_iload_n hx hb dX3_go_167 rfl (lv_at hl 3 rfl) ?_
                  refine lv_imul hx hb dX3_go_168 ?_
                  refine lv_iconst (v := 1) hx hb dX3_go_169 (by decide) ?_
                  refine lv_iadd hx hb dX3_go_170 ?_
                  refine my_iald (j := 5 * k + 1) hx hb hK hP 4 3 rfl rfl (mul51 k) (by omega) (by decide) dX3_go_171 ?_
                  refine lv_iadd hx hb dX3_go_172 ?_
                  refine lv_goto (tgt := 177) hx hb dX3_go_173 (by decide) ?_
                  refine WrV.callV (As := [.int (sl (pt (5 * k)).toNatClampNeg), .int ((ph t) + (pt (5 * k + 1)))]) (rest := []) (c_X3_enter hst ht (sl (pt (5 * k)).toNatClampNeg) ((ph t) + (pt (5 * k + 1)))) ⟨hx, hb, hml, hown, hts⟩ (cwV 2 hts gX3_go_X3_enter rfl rfl rfl (by decide +kernel) ⟨by decide, by decide⟩) hP hD hS hA hK hN 0 3 rfl rfl rfl hl.1 rfl (Nat.le_of_ble_eq_true rfl) dX3_go_177 ⟨Nat.le_of_ble_eq_true rfl, Nat.le_of_ble_eq_true rfl⟩ (fun ur_13 H locs hr_13 hP hD hS => ?_)
                  refine lv_goto (tgt := 222) hx hb dX3_go_180 (by decide) ?_
                  exact wrV ur_13 hx hb hr hlk dX3_go_222 hP hD hS (by rw [hr_13, goK, if_neg (not3 c_54 c_61 c_68), if_neg c_84, if_pos (show ps (t + 1 - 1) = 0 from c_98), if_pos c_127, if_pos c_158, if_pos c_112]; rfl)
        · refine lv_aload_n hx hb dX3_go_87 rfl (lv_at hl 4 rfl) ?_
          refine lv_iload_n hx hb dX3_go_88 rfl (lv_at hl 3 rfl) ?_
          refine lv_iload_n hx hb dX3_go_89 rfl (lv_at hl 2 rfl) ?_
          refine lv_iload_n hx hb dX3_go_90 rfl (lv_at hl 1 rfl) ?_
          refine WrV.callV (As := [.int (nI k), .int (ph t), .int (ps t)]) (rest := []) (c_X3_slots hk hn40 hst ht (ph t) (ps t) (hsl c_84)) ⟨hx, hb, hml, hown, hts⟩ (cwV 3 hts gX3_go_X3_slots rfl rfl rfl (by decide +kernel) ⟨by decide, by decide⟩) hP hD hS hA hK hN 0 3 rfl rfl rfl hl.1 rfl (Nat.le_of_ble_eq_true rfl) dX3_go_91 ⟨Nat.le_of_ble_eq_true rfl, Nat.le_of_ble_eq_true rfl⟩ (fun ur_14 H locs hr_14 hP hD hS => ?_)
          refine lv_goto (tgt := 222) hx hb dX3_go_94 (by decide) ?_
          exact wrV ur_14 hx hb hr hlk dX3_go_222 hP hD hS (by rw [hr_14, goK, if_neg (not3 c_54 c_61 c_68), if_pos c_84]; rfl)
      · refine lv_aload_n hx hb dX3_go_71 rfl (lv_at hl 4 rfl) ?_
        refine lv_iload_n hx hb dX3_go_72 rfl (lv_at hl 3 rfl) ?_
        refine lv_iload_n hx hb dX3_go_73 rfl (lv_at hl 2 rfl) ?_
        refine WrV.callV (As := [.int (nI k), .int (ph t)]) (rest := []) (c_X3_plain hk hn40 hst ht hb8 (hW.1 k hk) (wf_lf (hW.1 k hk) (Or.inr (Or.inr c_68))) (ph t)) ⟨hx, hb, hml, hown, hts⟩ (cwV 2 hts gX3_go_X3_plain rfl rfl rfl (by decide +kernel) ⟨by decide, by decide⟩) hP hD hS hA hK hN 0 3 rfl rfl rfl hl.1 rfl (Nat.le_of_ble_eq_true rfl) dX3_go_74 ⟨Nat.le_of_ble_eq_true rfl, Nat.le_of_ble_eq_true rfl⟩ (fun ur_15 H locs hr_15 hP hD hS => ?_)
        refine lv_goto (tgt := 222) hx hb dX3_go_77 (by decide) ?_
        exact wrV ur_15 hx hb hr hlk dX3_go_222 hP hD hS (by rw [hr_15, goK, if_pos (Or.inr (Or.inr c_68))]; rfl)
