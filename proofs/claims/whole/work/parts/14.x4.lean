/-! the class: constructors of rules and sluices, askByCall, ask, make, sluice, letOver, goesWhole, run -/
theorem iw_X0_init_X0 : ∀ w ∈ u_ws RX0 TX0 8, w ∈ wsX0_init := by decide +kernel
set_option maxRecDepth 100000 in
set_option maxHeartbeats 4000000 in
theorem c_X0_init {l : Launch} {D : va_G} {tys : List (ClassId × FieldType)} {q : Nat} (k_ : Int32) (a_ : Int32) (b_ : Int32) (c_ : Int32) (d_ : Int32) (e_ : Int32) : WrV l yX0_init wsX0_init (rk 1) D tys [(q, .inr (0, [.int 0, .int 0, .int 0, .int 0, .int 0, .int 0, .long 0, .int 0]))] [.ref q, .int k_, .int a_, .int b_, .int c_, .int d_, .int e_] (σ := Unit) (fun _ => [(q, .inr (0, [.int k_, .int a_, .int b_, .int c_, .int d_, .int e_, .long 0, .int 0]))]) (fun _ => True) 0 0 := by
  intro sz
  refine wrEnter (cc := cX0_init) (maxL := 7) (ret := none) (by decide) rfl (Nat.le_of_ble_eq_true rfl) ?_
  intro p e s m below meth c hx hb hr hml hown hts hlk hP hK hN hsz hD hS hA hin ls hl
  have hown : s.vm.findClass RX0 = some m.cls := hown
  have hl : lv_has ls 7 [(0, .ref q), (1, .int k_), (2, .int a_), (3, .int b_), (4, .int c_), (5, .int d_), (6, .int e_)] := hl
  have hin : meth.name = "<init>" := hin
  refine lv_aload_n hx hb dX0_init_0 rfl (lv_at hl 0 rfl) ?_
  refine W.objInit hx hb hown (hts (.methodLink RX0 1 objectInit) (by decide +kernel)) (hts (.instanceMethod objectInit) (by decide +kernel)) (hts _ (List.mem_cons_of_mem _ (List.mem_append_left _ (List.mem_of_getElem? (i := 2) rfl)))) rfl (by rw [hml]; exact hl.1) rfl dX0_init_1 (Nat.le_of_ble_eq_true rfl) (Nat.le_of_ble_eq_true rfl) ?_
  refine W.eq (g2 := F0 m 4 ls []) rfl ?_
  refine lv_aload_n hx hb dX0_init_4 rfl (lv_at hl 0 rfl) ?_
  refine lv_lconst (v := 0) hx hb dX0_init_5 (by decide) ?_
  refine va_put (D := D) (ci := 0) (v := .long 0) (ty := .long) (C := RX0) (T := TX0) (N := 8) hx hb hts iw_X0_init_X0 tyX0 tyX0_ok nmX0 hown hK hP hD hS 0 rfl rfl 6 (by decide) (hts (.fieldLink RX0 7 "SluiceRules$Rule" "held" "J") (by decide +kernel)) (fun _ h9 => h9) rfl (by decide +kernel) rfl rfl (Nat.le_of_ble_eq_true rfl) dX0_init_6 (fun H locs hP hD hS => ?_)
  have hP : va_P D vwCl ([(q, .inr (0, [.int 0, .int 0, .int 0, .int 0, .int 0, .int 0, .long 0, .int 0]))]) H := hP
  have hD : va_D (va_A _ sz) ([(q, .inr (0, [.int 0, .int 0, .int 0, .int 0, .int 0, .int 0, .long 0, .int 0]))]) := hD
  refine lv_aload_n hx hb dX0_init_9 rfl (lv_at hl 0 rfl) ?_
  refine lv_iconst (v := 0) hx hb dX0_init_10 (by decide) ?_
  refine va_put (D := D) (ci := 0) (v := .int 0) (ty := .int) (C := RX0) (T := TX0) (N := 8) hx hb hts iw_X0_init_X0 tyX0 tyX0_ok nmX0 hown hK hP hD hS 0 rfl rfl 7 (by decide) (hts (.fieldLink RX0 13 "SluiceRules$Rule" "counter" "I") (by decide +kernel)) (fun _ h9 => h9) rfl (by decide +kernel) rfl rfl (Nat.le_of_ble_eq_true rfl) dX0_init_11 (fun H locs hP hD hS => ?_)
  have hP : va_P D vwCl ([(q, .inr (0, [.int 0, .int 0, .int 0, .int 0, .int 0, .int 0, .long 0, .int 0]))]) H := hP
  have hD : va_D (va_A _ sz) ([(q, .inr (0, [.int 0, .int 0, .int 0, .int 0, .int 0, .int 0, .long 0, .int 0]))]) := hD
  refine lv_aload_n hx hb dX0_init_14 rfl (lv_at hl 0 rfl) ?_
  refine lv_iload_n hx hb dX0_init_15 rfl (lv_at hl 1 rfl) ?_
  refine va_putF (D := D) (ci := 0) (v := .int k_) (ty := .int) (C := RX0) (T := TX0) (N := 8) hx hb hts iw_X0_init_X0 tyX0 tyX0_ok nmX0 hown hK hP hD hS 0 rfl rfl 0 (by decide) (hts (.fieldLink RX0 17 "SluiceRules$Rule" "kind" "I") (by decide +kernel)) (fun _ h9 => h9) rfl hin rfl (by decide +kernel) rfl rfl (Nat.le_of_ble_eq_true rfl) dX0_init_16 (fun H locs hP hD hS => ?_)
  have hP : va_P D vwCl ([(q, .inr (0, [.int k_, .int 0, .int 0, .int 0, .int 0, .int 0, .long 0, .int 0]))]) H := hP
  have hD : va_D (va_A _ sz) ([(q, .inr (0, [.int k_, .int 0, .int 0, .int 0, .int 0, .int 0, .long 0, .int 0]))]) := hD
  refine lv_aload_n hx hb dX0_init_19 rfl (lv_at hl 0 rfl) ?_
  refine lv_iload_n hx hb dX0_init_20 rfl (lv_at hl 2 rfl) ?_
  refine va_putF (D := D) (ci := 0) (v := .int a_) (ty := .int) (C := RX0) (T := TX0) (N := 8) hx hb hts iw_X0_init_X0 tyX0 tyX0_ok nmX0 hown hK hP hD hS 0 rfl rfl 1 (by decide) (hts (.fieldLink RX0 20 "SluiceRules$Rule" "a" "I") (by decide +kernel)) (fun _ h9 => h9) rfl hin rfl (by decide +kernel) rfl rfl (Nat.le_of_ble_eq_true rfl) dX0_init_21 (fun H locs hP hD hS => ?_)
  have hP : va_P D vwCl ([(q, .inr (0, [.int k_, .int a_, .int 0, .int 0, .int 0, .int 0, .long 0, .int 0]))]) H := hP
  have hD : va_D (va_A _ sz) ([(q, .inr (0, [.int k_, .int a_, .int 0, .int 0, .int 0, .int 0, .long 0, .int 0]))]) := hD
  refine lv_aload_n hx hb dX0_init_24 rfl (lv_at hl 0 rfl) ?_
  refine lv_iload_n hx hb dX0_init_25 rfl (lv_at hl 3 rfl) ?_
  refine va_putF (D := D) (ci := 0) (v := .int b_) (ty := .int) (C := RX0) (T := TX0) (N := 8) hx hb hts iw_X0_init_X0 tyX0 tyX0_ok nmX0 hown hK hP hD hS 0 rfl rfl 2 (by decide) (hts (.fieldLink RX0 23 "SluiceRules$Rule" "b" "I") (by decide +kernel)) (fun _ h9 => h9) rfl hin rfl (by decide +kernel) rfl rfl (Nat.le_of_ble_eq_true rfl) dX0_init_26 (fun H locs hP hD hS => ?_)
  have hP : va_P D vwCl ([(q, .inr (0, [.int k_, .int a_, .int b_, .int 0, .int 0, .int 0, .long 0, .int 0]))]) H := hP
  have hD : va_D (va_A _ sz) ([(q, .inr (0, [.int k_, .int a_, .int b_, .int 0, .int 0, .int 0, .long 0, .int 0]))]) := hD
  refine lv_aload_n hx hb dX0_init_29 rfl (lv_at hl 0 rfl) ?_
  refine lv_iload hx hb dX0_init_30 (lv_at hl 4 rfl) ?_
  refine va_putF (D := D) (ci := 0) (v := .int c_) (ty := .int) (C := RX0) (T := TX0) (N := 8) hx hb hts iw_X0_init_X0 tyX0 tyX0_ok nmX0 hown hK hP hD hS 0 rfl rfl 3 (by decide) (hts (.fieldLink RX0 26 "SluiceRules$Rule" "c" "I") (by decide +kernel)) (fun _ h9 => h9) rfl hin rfl (by decide +kernel) rfl rfl (Nat.le_of_ble_eq_true rfl) dX0_init_32 (fun H locs hP hD hS => ?_)
  have hP : va_P D vwCl ([(q, .inr (0, [.int k_, .int a_, .int b_, .int c_, .int 0, .int 0, .long 0, .int 0]))]) H := hP
  have hD : va_D (va_A _ sz) ([(q, .inr (0, [.int k_, .int a_, .int b_, .int c_, .int 0, .int 0, .long 0, .int 0]))]) := hD
  refine lv_aload_n hx hb dX0_init_35 rfl (lv_at hl 0 rfl) ?_
  refine lv_iload hx hb dX0_init_36 (lv_at hl 5 rfl) ?_
  refine va_putF (D := D) (ci := 0) (v := .int d_) (ty := .int) (C := RX0) (T := TX0) (N := 8) hx hb hts iw_X0_init_X0 tyX0 tyX0_ok nmX0 hown hK hP hD hS 0 rfl rfl 4 (by decide) (hts (.fieldLink RX0 29 "SluiceRules$Rule" "d" "I") (by decide +kernel)) (fun _ h9 => h9) rfl hin rfl (by decide +kernel) rfl rfl (Nat.le_of_ble_eq_true rfl) dX0_init_38 (fun H locs hP hD hS => ?_)
  have hP : va_P D vwCl ([(q, .inr (0, [.int k_, .int a_, .int b_, .int c_, .int d_, .int 0, .long 0, .int 0]))]) H := hP
  have hD : va_D (va_A _ sz) ([(q, .inr (0, [.int k_, .int a_, .int b_, .int c_, .int d_, .int 0, .long 0, .int 0]))]) := hD
  refine lv_aload_n hx hb dX0_init_41 rfl (lv_at hl 0 rfl) ?_
  refine lv_iload hx hb dX0_init_42 (lv_at hl 6 rfl) ?_
  refine va_putF (D := D) (ci := 0) (v := .int e_) (ty := .int) (C := RX0) (T := TX0) (N := 8) hx hb hts iw_X0_init_X0 tyX0 tyX0_ok nmX0 hown hK hP hD hS 0 rfl rfl 5 (by decide) (hts (.fieldLink RX0 32 "SluiceRules$Rule" "e" "I") (by decide +kernel)) (fun _ h9 => h9) rfl hin rfl (by decide +kernel) rfl rfl (Nat.le_of_ble_eq_true rfl) dX0_init_44 (fun H locs hP hD hS => ?_)
  have hP : va_P D vwCl ([(q, .inr (0, [.int k_, .int a_, .int b_, .int c_, .int d_, .int e_, .long 0, .int 0]))]) H := hP
  have hD : va_D (va_A _ sz) ([(q, .inr (0, [.int k_, .int a_, .int b_, .int c_, .int d_, .int e_, .long 0, .int 0]))]) := hD
  exact wrV () hx hb hr hlk dX0_init_47 hP hD hS trivial

theorem iw_X1_init_X1 : ∀ w ∈ u_ws RX1 TX1 3, w ∈ wsX1_init := by decide +kernel
set_option maxRecDepth 100000 in
set_option maxHeartbeats 4000000 in
theorem c_X1_init {l : Launch} {D : va_G} {tys : List (ClassId × FieldType)} {q : Nat} (a_ : Int32) (b_ : Int32) (c_ : Int32) : WrV l yX1_init wsX1_init (rk 1) D tys [(q, .inr (1, [.int 0, .int 0, .int 0]))] [.ref q, .int a_, .int b_, .int c_] (σ := Unit) (fun _ => [(q, .inr (1, [.int a_, .int b_, .int c_]))]) (fun _ => True) 0 0 := by
  intro sz
  refine wrEnter (cc := cX1_init) (maxL := 4) (ret := none) (by decide) rfl (Nat.le_of_ble_eq_true rfl) ?_
  intro p e s m below meth c hx hb hr hml hown hts hlk hP hK hN hsz hD hS hA hin ls hl
  have hown : s.vm.findClass RX1 = some m.cls := hown
  have hl : lv_has ls 4 [(0, .ref q), (1, .int a_), (2, .int b_), (3, .int c_)] := hl
  have hin : meth.name = "<init>" := hin
  refine lv_aload_n hx hb dX1_init_0 rfl (lv_at hl 0 rfl) ?_
  refine W.objInit hx hb hown (hts (.methodLink RX1 1 objectInit) (by decide +kernel)) (hts (.instanceMethod objectInit) (by decide +kernel)) (hts _ (List.mem_cons_of_mem _ (List.mem_append_left _ (List.mem_of_getElem? (i := 2) rfl)))) rfl (by rw [hml]; exact hl.1) rfl dX1_init_1 (Nat.le_of_ble_eq_true rfl) (Nat.le_of_ble_eq_true rfl) ?_
  refine W.eq (g2 := F0 m 4 ls []) rfl ?_
  refine lv_aload_n hx hb dX1_init_4 rfl (lv_at hl 0 rfl) ?_
  refine lv_iload_n hx hb dX1_init_5 rfl (lv_at hl 1 rfl) ?_
  refine va_putF (D := D) (ci := 1) (v := .int a_) (ty := .int) (C := RX1) (T := TX1) (N := 3) hx hb hts iw_X1_init_X1 tyX1 tyX1_ok nmX1 hown hK hP hD hS 0 rfl rfl 0 (by decide) (hts (.fieldLink RX1 7 "SluiceRules$Sluice" "from" "I") (by decide +kernel)) (fun _ h9 => h9) rfl hin rfl (by decide +kernel) rfl rfl (Nat.le_of_ble_eq_true rfl) dX1_init_6 (fun H locs hP hD hS => ?_)
  have hP : va_P D vwCl ([(q, .inr (1, [.int a_, .int 0, .int 0]))]) H := hP
  have hD : va_D (va_A _ sz) ([(q, .inr (1, [.int a_, .int 0, .int 0]))]) := hD
  refine lv_aload_n hx hb dX1_init_9 rfl (lv_at hl 0 rfl) ?_
  refine lv_iload_n hx hb dX1_init_10 rfl (lv_at hl 2 rfl) ?_
  refine va_putF (D := D) (ci := 1) (v := .int b_) (ty := .int) (C := RX1) (T := TX1) (N := 3) hx hb hts iw_X1_init_X1 tyX1 tyX1_ok nmX1 hown hK hP hD hS 0 rfl rfl 1 (by decide) (hts (.fieldLink RX1 13 "SluiceRules$Sluice" "to" "I") (by decide +kernel)) (fun _ h9 => h9) rfl hin rfl (by decide +kernel) rfl rfl (Nat.le_of_ble_eq_true rfl) dX1_init_11 (fun H locs hP hD hS => ?_)
  have hP : va_P D vwCl ([(q, .inr (1, [.int a_, .int b_, .int 0]))]) H := hP
  have hD : va_D (va_A _ sz) ([(q, .inr (1, [.int a_, .int b_, .int 0]))]) := hD
  refine lv_aload_n hx hb dX1_init_14 rfl (lv_at hl 0 rfl) ?_
  refine lv_iload_n hx hb dX1_init_15 rfl (lv_at hl 3 rfl) ?_
  refine va_putF (D := D) (ci := 1) (v := .int c_) (ty := .int) (C := RX1) (T := TX1) (N := 3) hx hb hts iw_X1_init_X1 tyX1 tyX1_ok nmX1 hown hK hP hD hS 0 rfl rfl 2 (by decide) (hts (.fieldLink RX1 16 "SluiceRules$Sluice" "rule" "I") (by decide +kernel)) (fun _ h9 => h9) rfl hin rfl (by decide +kernel) rfl rfl (Nat.le_of_ble_eq_true rfl) dX1_init_16 (fun H locs hP hD hS => ?_)
  have hP : va_P D vwCl ([(q, .inr (1, [.int a_, .int b_, .int c_]))]) H := hP
  have hD : va_D (va_A _ sz) ([(q, .inr (1, [.int a_, .int b_, .int c_]))]) := hD
  exact wrV () hx hb hr hlk dX1_init_19 hP hD hS trivial

theorem iw_X2_askByCall_X2 : ∀ w ∈ u_ws RX2 TX2 14, w ∈ wsX2_askByCall := by decide +kernel
set_option maxRecDepth 100000 in
set_option maxHeartbeats 4000000 in
/-- askByCall -/
theorem c_X2_askByCall {l : Launch} {D : va_G} {F : Nat → Nat} {Y : Nat → ClassId} {mn fl : Int32} {gv : Int64} {fs fb wo : Int32} {lv sl : Nat → Int32} {ru su : Nat → Option Nat} {L : List Nat} {f : Nat → va_E} {b n sN st : Nat} {kd pt : Nat → Int32} {he : Nat → Int64} {ct fr to rl : Nat → Int32} (hR : xRel n sN kd pt he ct fr to rl ru su L f) (hn40 : n ≤ 40) (hb8 : b ≤ 8) (hW : wfA b n sl kd pt) (x h : Int32) : WrL l yX2_askByCall wsX2_askByCall (rk 129) D (xty Y) (xw F Y (nI b) mn (nI n) (nI sN) (nI st) fl gv fs fb wo lv sl ru su L f) [.ref (F 0), .int x, .int h] (σ := SS × (Nat → va_E)) (fun u => xw F Y (nI b) mn (nI n) (nI sN) (nI u.1.1) u.1.2.1 gv fs fb wo lv sl ru su L u.2) (fun r u => (r, u.1) = ev (n, mn, lv, sl, kd, pt, he) 120 x h (0, 0, ct) ∧ xRel n sN kd pt he u.1.2.2 fr to rl ru su L u.2) 0 0 := by
  intro sz
  refine wrEnter (cc := cX2_askByCall) (maxL := 3) (ret := (some .long)) (by decide) rfl (Nat.le_of_ble_eq_true rfl) ?_
  intro p e s m below meth c hx hb hr hml hown hts hlk hP hK hN hsz hD hS hA hin ls hl
  have hown : s.vm.findClass RX2 = some m.cls := hown
  have hl : lv_has ls 3 [(0, .ref (F 0)), (1, .int x), (2, .int h)] := hl
  refine lv_aload_n hx hb dX2_askByCall_0 rfl (lv_at hl 0 rfl) ?_
  refine lv_iconst (v := 0) hx hb dX2_askByCall_1 (by decide) ?_
  refine va_put (D := D) (ci := 2) (v := .int 0) (ty := .int) (C := RX2) (T := TX2) (N := 14) hx hb hts iw_X2_askByCall_X2 tyX2 tyX2_ok nmX2 hown hK hP hD hS 0 rfl rfl 8 (by decide) (hts (.fieldLink RX2 41 "SluiceRules" "steps" "I") (by decide +kernel)) (fun _ h9 => h9) rfl (by decide +kernel) rfl rfl (Nat.le_of_ble_eq_true rfl) dX2_askByCall_2 (fun H locs hP hD hS => ?_)
  have hP : va_P D vwCl (xw F Y (nI b) mn (nI n) (nI sN) 0 fl gv fs fb wo lv sl ru su L f) H := hP
  have hD : va_D (va_A (xw F Y (nI b) mn (nI n) (nI sN) (nI st) fl gv fs fb wo lv sl ru su L f) sz) (xw F Y (nI b) mn (nI n) (nI sN) 0 fl gv fs fb wo lv sl ru su L f) := hD
  refine lv_aload_n hx hb dX2_askByCall_5 rfl (lv_at hl 0 rfl) ?_
  refine lv_iconst (v := 0) hx hb dX2_askByCall_6 (by decide) ?_
  refine va_put (D := D) (ci := 2) (v := .int 0) (ty := .int) (C := RX2) (T := TX2) (N := 14) hx hb hts iw_X2_askByCall_X2 tyX2 tyX2_ok nmX2 hown hK hP hD hS 0 rfl rfl 9 (by decide) (hts (.fieldLink RX2 44 "SluiceRules" "failure" "I") (by decide +kernel)) (fun _ h9 => h9) rfl (by decide +kernel) rfl rfl (Nat.le_of_ble_eq_true rfl) dX2_askByCall_7 (fun H locs hP hD hS => ?_)
  have hP : va_P D vwCl (xw F Y (nI b) mn (nI n) (nI sN) 0 0 gv fs fb wo lv sl ru su L f) H := hP
  have hD : va_D (va_A (xw F Y (nI b) mn (nI n) (nI sN) (nI st) fl gv fs fb wo lv sl ru su L f) sz) (xw F Y (nI b) mn (nI n) (nI sN) 0 0 gv fs fb wo lv sl ru su L f) := hD
  have hP : va_P D vwCl (xw F Y (nI b) mn (nI n) (nI sN) (nI 0) 0 gv fs fb wo lv sl ru su L f) H := by rw [nI_0]; exact hP
  have hD : va_D (va_A (xw F Y (nI b) mn (nI n) (nI sN) (nI st) fl gv fs fb wo lv sl ru su L f) sz) (xw F Y (nI b) mn (nI n) (nI sN) (nI 0) 0 gv fs fb wo lv sl ru su L f) := by rw [nI_0]; exact hD
  refine lv_aload_n hx hb dX2_askByCall_10 rfl (lv_at hl 0 rfl) ?_
  refine lv_iload_n hx hb dX2_askByCall_11 rfl (lv_at hl 1 rfl) ?_
  refine lv_iload_n hx hb dX2_askByCall_12 rfl (lv_at hl 2 rfl) ?_
  refine WrL.callV (As := [.int x, .int h]) (rest := []) (c_X2_valueOf 120 hR hn40 hb8 hW (Nat.zero_le _) (by decide) x h) ⟨hx, hb, hml, hown, hts⟩ (cwV 2 hts gX2_askByCall_X2_valueOf rfl rfl rfl (by decide +kernel) ⟨by decide, by decide⟩) hP hD hS hA hK hN 0 2 rfl rfl rfl hl.1 rfl (Nat.le_of_ble_eq_true rfl) dX2_askByCall_13 ⟨Nat.le_of_ble_eq_true rfl, Nat.le_of_ble_eq_true rfl⟩ (fun r_1 ur_1 H locs hr_1 hP hD hS => ?_)
  exact wrL ur_1 hx hb hr hlk dX2_askByCall_16 hP hD hS hr_1

theorem iw_X2_ask_X2 : ∀ w ∈ u_ws RX2 TX2 14, w ∈ wsX2_ask := by decide +kernel
set_option maxRecDepth 100000 in
set_option maxHeartbeats 4000000 in
/-- ask -/
theorem c_X2_ask {l : Launch} {D : va_G} {F : Nat → Nat} {Y : Nat → ClassId} {mn fl : Int32} {gv : Int64} {fs fb wo : Int32} {lv sl : Nat → Int32} {ru su : Nat → Option Nat} {L : List Nat} {f : Nat → va_E} {b n sN st : Nat} {kd pt : Nat → Int32} {he : Nat → Int64} {ct fr to rl : Nat → Int32} (hR : xRel n sN kd pt he ct fr to rl ru su L f) (hn40 : n ≤ 40) (hb8 : b ≤ 8) (hW : wfA b n sl kd pt) (x h : Int32) : WrI l yX2_ask wsX2_ask (rk 130) D (xty Y) (xw F Y (nI b) mn (nI n) (nI sN) (nI st) fl gv fs fb wo lv sl ru su L f) [.ref (F 0), .int x, .int h] (σ := (Nat × Int64 × (Nat → Int32)) × Int32 × (Nat → va_E)) (fun u => xw F Y (nI b) mn (nI n) (nI sN) (nI u.1.1) u.2.1 u.1.2.1 fs fb wo lv sl ru su L u.2.2) (fun r u => (r, u.1) = sp_ask (n, mn, lv, sl, kd, pt, he) x h st gv ct ∧ xRel n sN kd pt he u.1.2.2 fr to rl ru su L u.2.2) 0 0 := by
  intro sz
  refine wrEnter (cc := cX2_ask) (maxL := 5) (ret := (some .int)) (by decide) rfl (Nat.le_of_ble_eq_true rfl) ?_
  intro p e s m below meth c hx hb hr hml hown hts hlk hP hK hN hsz hD hS hA hin ls hl
  have hown : s.vm.findClass RX2 = some m.cls := hown
  have hl : lv_has ls 5 [(0, .ref (F 0)), (1, .int x), (2, .int h)] := hl
  refine lv_aload_n hx hb dX2_ask_0 rfl (lv_at hl 0 rfl) ?_
  refine lv_iload_n hx hb dX2_ask_1 rfl (lv_at hl 1 rfl) ?_
  refine RoQ.callV (As := [.int x]) (rest := []) (c_X2_ruleAt hR hn40 x) ⟨hx, hb, hml, hown, hts⟩ (cwV 1 hts gX2_ask_X2_ruleAt rfl rfl rfl (by decide +kernel) ⟨by decide, by decide⟩) hP hK hN 0 2 rfl rfl rfl hl.1 rfl (Nat.le_of_ble_eq_true rfl) dX2_ask_2 ⟨Nat.le_of_ble_eq_true rfl, Nat.le_of_ble_eq_true rfl⟩ (fun r_1 hr_1 => ?_)
  rcases r_1 with _ | ar_1
  · have q_r_1 := hR.norule hr_1.symm
    refine lv_ifnonnullN hx hb dX2_ask_5 ?_
    refine lv_bipush (v := (-101)) hx hb dX2_ask_8 (by decide) ?_
    exact wrI ((st, gv, ct), fl, f) hx hb hr hlk dX2_ask_10 hP hD hS ⟨sp_ask_u q_r_1, hR⟩
  · have q_r_1 := (hR.rule hr_1.symm).1
    refine lv_ifnonnull (tgt := 11) hx hb dX2_ask_5 (by decide) ?_
    refine lv_aload_n hx hb dX2_ask_11 rfl (lv_at hl 0 rfl) ?_
    refine lv_iload_n hx hb dX2_ask_12 rfl (lv_at hl 1 rfl) ?_
    refine lv_iload_n hx hb dX2_ask_13 rfl (lv_at hl 2 rfl) ?_
    refine WrL.callV (As := [.int x, .int h]) (rest := []) (c_X2_askByCall hR hn40 hb8 hW x h) ⟨hx, hb, hml, hown, hts⟩ (cwV 2 hts gX2_ask_X2_askByCall rfl rfl rfl (by decide +kernel) ⟨by decide, by decide⟩) hP hD hS hA hK hN 0 2 rfl rfl rfl hl.1 rfl (Nat.le_of_ble_eq_true rfl) dX2_ask_14 ⟨Nat.le_of_ble_eq_true rfl, Nat.le_of_ble_eq_true rfl⟩ (fun r_2 ur_2 H locs hr_2 hP hD hS => ?_)
    obtain ⟨⟨st_2, fl_2, ct_2⟩, f_2⟩ := ur_2
    obtain ⟨e_2, hR_2⟩ := hr_2
    have e_2 : (r_2, (st_2, fl_2, ct_2)) = ev (n, mn, lv, sl, kd, pt, he) 120 x h (0, 0, ct) := e_2
    have hR_2 : xRel n sN kd pt he ct_2 fr to rl ru su L f_2 := hR_2
    have hP : va_P D vwCl (xw F Y (nI b) mn (nI n) (nI sN) (nI st_2) fl_2 gv fs fb wo lv sl ru su L f_2) H := hP
    have hD : va_D (va_A (xw F Y (nI b) mn (nI n) (nI sN) (nI st) fl gv fs fb wo lv sl ru su L f) sz) (xw F Y (nI b) mn (nI n) (nI sN) (nI st_2) fl_2 gv fs fb wo lv sl ru su L f_2) := hD
    refine lv_lstore_n (lv' := [(3, .long r_2), (0, .ref (F 0)), (1, .int x), (2, .int h)]) hx hb dX2_ask_17 rfl hl (by decide) rfl (fun ls hl => ?_)
    refine lv_aload_n hx hb dX2_ask_18 rfl (lv_at hl 1 rfl) ?_
    refine va_get (D := D) (ci := 2) (v := .int fl_2) (C := RX2) (T := TX2) (N := 14) hx hb hts iw_X2_ask_X2 hown hK hP 0 rfl rfl 9 (by decide) (hts (.fieldLink RX2 44 "SluiceRules" "failure" "I") (by decide +kernel)) (fun _ h9 => h9) rfl dX2_ask_19 ?_
    refine lv_if_eq (tgt := 30) hx hb dX2_ask_22 (by decide) (fun c_22 => ?_) (fun c_22 => ?_)
    · refine lv_aload_n hx hb dX2_ask_30 rfl (lv_at hl 1 rfl) ?_
      refine lv_lload_n hx hb dX2_ask_31 rfl (lv_at hl 0 rfl) ?_
      refine va_put (D := D) (ci := 2) (v := .long r_2) (ty := .long) (C := RX2) (T := TX2) (N := 14) hx hb hts iw_X2_ask_X2 tyX2 tyX2_ok nmX2 hown hK hP hD hS 0 rfl rfl 10 (by decide) (hts (.fieldLink RX2 47 "SluiceRules" "latestGiven" "J") (by decide +kernel)) (fun _ h9 => h9) rfl (by decide +kernel) rfl rfl (Nat.le_of_ble_eq_true rfl) dX2_ask_32 (fun H locs hP hD hS => ?_)
      have hP : va_P D vwCl (xw F Y (nI b) mn (nI n) (nI sN) (nI st_2) fl_2 r_2 fs fb wo lv sl ru su L f_2) H := hP
      have hD : va_D (va_A (xw F Y (nI b) mn (nI n) (nI sN) (nI st) fl gv fs fb wo lv sl ru su L f) sz) (xw F Y (nI b) mn (nI n) (nI sN) (nI st_2) fl_2 r_2 fs fb wo lv sl ru su L f_2) := hD
      refine lv_iconst (v := 1) hx hb dX2_ask_35 (by decide) ?_
      exact wrI ((st_2, r_2, ct_2), fl_2, f_2) hx hb hr hlk dX2_ask_36 hP hD hS ⟨sp_ask_1 q_r_1 e_2 c_22, hR_2⟩
    · refine lv_aload_n hx hb dX2_ask_25 rfl (lv_at hl 1 rfl) ?_
      refine va_get (D := D) (ci := 2) (v := .int fl_2) (C := RX2) (T := TX2) (N := 14) hx hb hts iw_X2_ask_X2 hown hK hP 0 rfl rfl 9 (by decide) (hts (.fieldLink RX2 44 "SluiceRules" "failure" "I") (by decide +kernel)) (fun _ h9 => h9) rfl dX2_ask_26 ?_
      exact wrI ((st_2, gv, ct_2), fl_2, f_2) hx hb hr hlk dX2_ask_29 hP hD hS ⟨sp_ask_f q_r_1 e_2 c_22, hR_2⟩

theorem iw_X2_make_X2 : ∀ w ∈ u_ws RX2 TX2 14, w ∈ wsX2_make := by decide +kernel
theorem iw_X2_make_X0 : ∀ w ∈ u_ws RX0 TX0 8, w ∈ wsX2_make := by decide +kernel
set_option maxRecDepth 100000 in
set_option maxHeartbeats 4000000 in
/-- make -/
theorem c_X2_make {l : Launch} {D : va_G} {F : Nat → Nat} {Y : Nat → ClassId} {mn fl : Int32} {gv : Int64} {fs fb wo : Int32} {lv sl : Nat → Int32} {ru su : Nat → Option Nat} {L : List Nat} {f : Nat → va_E} {b n sN st : Nat} {kd pt : Nat → Int32} {he : Nat → Int64} {ct fr to rl : Nat → Int32} (hR : xRel n sN kd pt he ct fr to rl ru su L f) (hn40 : n ≤ 40) (hb8 : b ≤ 8) (hW : wfA b n sl kd pt) (k_ a_ b_ c_ d_ e_ : Int32) : WrI l yX2_make wsX2_make (rkc 130 1 8) D (xty Y) (xw F Y (nI b) mn (nI n) (nI sN) (nI st) fl gv fs fb wo lv sl ru su L f) [.ref (F 0), .int k_, .int a_, .int b_, .int c_, .int d_, .int e_] (σ := MK × Int32 × (Nat → Option Nat) × List Nat × (Nat → va_E)) (fun u => xw F Y (nI b) mn (nI u.1.1) (nI sN) (nI u.1.2.2.2.2.2) u.2.1 gv fs fb wo lv sl u.2.2.1 su u.2.2.2.1 u.2.2.2.2) (fun r u => (r, u.1) = sp_make b n mn lv sl kd pt he k_ a_ b_ c_ d_ e_ ct st ∧ xRel u.1.1 sN u.1.2.1 u.1.2.2.1 u.1.2.2.2.1 u.1.2.2.2.2.1 fr to rl u.2.2.1 su u.2.2.2.1 u.2.2.2.2) 1 8 := by
  intro sz
  refine wrEnter (cc := cX2_make) (maxL := 10) (ret := (some .int)) (by decide) rfl (Nat.le_of_ble_eq_true rfl) ?_
  intro p e s m below meth c hx hb hr hml hown hts hlk hP hK hN hsz hD hS hA hin ls hl
  have hown : s.vm.findClass RX2 = some m.cls := hown
  have hl : lv_has ls 10 [(0, .ref (F 0)), (1, .int k_), (2, .int a_), (3, .int b_), (4, .int c_), (5, .int d_), (6, .int e_)] := hl
  refine lv_aload_n hx hb dX2_make_0 rfl (lv_at hl 0 rfl) ?_
  refine lv_iload_n hx hb dX2_make_1 rfl (lv_at hl 1 rfl) ?_
  refine lv_iload_n hx hb dX2_make_2 rfl (lv_at hl 2 rfl) ?_
  refine lv_iload_n hx hb dX2_make_3 rfl (lv_at hl 3 rfl) ?_
  refine lv_iload hx hb dX2_make_4 (lv_at hl 4 rfl) ?_
  refine RoI.callV (As := [.int k_, .int a_, .int b_, .int c_]) (rest := []) (c_X2_hasKnownParts hR hn40 hb8 k_ a_ b_ c_) ⟨hx, hb, hml, hown, hts⟩ (cwV 4 hts gX2_make_X2_hasKnownParts rfl rfl rfl (by decide +kernel) ⟨by decide, by decide⟩) hP hK hN 0 2 rfl rfl rfl hl.1 rfl (Nat.le_of_ble_eq_true rfl) dX2_make_6 ⟨Nat.le_of_ble_eq_true rfl, Nat.le_of_ble_eq_true rfl⟩ (fun r_1 hr_1 => ?_)
  refine lv_if_ne (tgt := 15) hx hb dX2_make_9 (by decide) (fun c_9 => ?_) (fun c_9 => ?_)
  · have b_9 : knB b n kd k_ a_ b_ c_ = true := bI_n (by rw [← hr_1]; exact c_9)
    refine lv_iload_n hx hb dX2_make_15 rfl (lv_at hl 1 rfl) ?_
    refine lv_iload_n hx hb dX2_make_16 rfl (lv_at hl 2 rfl) ?_
    refine lv_iload_n hx hb dX2_make_17 rfl (lv_at hl 3 rfl) ?_
    refine lv_iload hx hb dX2_make_18 (lv_at hl 4 rfl) ?_
    refine lv_iload hx hb dX2_make_20 (lv_at hl 5 rfl) ?_
    refine lv_iload hx hb dX2_make_22 (lv_at hl 6 rfl) ?_
    refine RoI.callS (As := [.int k_, .int a_, .int b_, .int c_, .int d_, .int e_]) (rest := []) (c_X2_hasFitNumbers k_ a_ b_ c_ d_ e_) ⟨hx, hb, hml, hown, hts⟩ (va_cwS 6 hts gX2_make_X2_hasFitNumbers rfl rfl rfl (by decide +kernel) ⟨by decide, by decide⟩) hP hK hN rfl hl.1 rfl (Nat.le_of_ble_eq_true rfl) dX2_make_24 ⟨Nat.le_of_ble_eq_true rfl, Nat.le_of_ble_eq_true rfl⟩ (fun r_2 hr_2 => ?_)
    refine lv_if_ne (tgt := 33) hx hb dX2_make_27 (by decide) (fun c_27 => ?_) (fun c_27 => ?_)
    · have b_27 : fiB k_ a_ b_ c_ d_ e_ = true := bI_n (by rw [← hr_2]; exact c_27)
      refine lv_aload_n hx hb dX2_make_33 rfl (lv_at hl 0 rfl) ?_
      refine va_get (D := D) (ci := 2) (v := .int (nI n)) (C := RX2) (T := TX2) (N := 14) hx hb hts iw_X2_make_X2 hown hK hP 0 rfl rfl 5 (by decide) (hts (.fieldLink RX2 29 "SluiceRules" "ruleCount" "I") (by decide +kernel)) (fun _ h9 => h9) rfl dX2_make_34 ?_
      refine lv_aload_n hx hb dX2_make_37 rfl (lv_at hl 0 rfl) ?_
      refine va_get (D := D) (ci := 2) (v := .ref (F 3)) (C := RX2) (T := TX2) (N := 14) hx hb hts iw_X2_make_X2 hown hK hP 0 rfl rfl 4 (by decide) (hts (.fieldLink RX2 25 "SluiceRules" "rules" "[LSluiceRules$Rule;") (by decide +kernel)) (fun _ h9 => h9) rfl dX2_make_38 ?_
      refine va_alen (v := 40) hx hb hK hP 3 2 rfl rfl rfl dX2_make_41 ?_
      refine lv_icmp_lt (tgt := 48) hx hb dX2_make_42 (by decide) (fun c_42 => ?_) (fun c_42 => ?_)
      · have n_l40 : n < 40 := by rw [i_lt, nI_toInt (by omega)] at c_42; have : (40 : Int32).toInt = 40 := rfl; omega
        have n_40 : ¬ n = 40 := by omega
        refine lv_lconst (v := 0) hx hb dX2_make_48 (by decide) ?_
        refine lv_lstore (lv' := [(7, .long 0), (0, .ref (F 0)), (1, .int k_), (2, .int a_), (3, .int b_), (4, .int c_), (5, .int d_), (6, .int e_)]) hx hb dX2_make_49 hl (by decide) rfl (fun ls hl => ?_)
        refine lv_iload_n hx hb dX2_make_51 rfl (lv_at hl 2 rfl) ?_
        refine lv_bipush (v := 12) hx hb dX2_make_52 (by decide) ?_
        refine lv_icmp_ne (tgt := 77) hx hb dX2_make_54 (by decide) (fun c_54 => ?_) (fun c_54 => ?_)
        · refine va_new (ci := 0) (fs := [.int 0, .int 0, .int 0, .int 0, .int 0, .int 0, .long 0, .int 0]) (C := RX0) (T := TX0) (N := 8) hx hb hts iw_X2_make_X0 tyX0 tyX0_ok hown (hts (.classLink RX2 23 RX0) (by decide +kernel)) (hts (.instantiable RX0 8) (by decide +kernel)) (hts (.initialized RX0) (by decide +kernel)) hK hP hD hS hA rfl (fun j hj => by rcases (show j = 0 ∨ j = 1 ∨ j = 2 ∨ j = 3 ∨ j = 4 ∨ j = 5 ∨ j = 6 ∨ j = 7 by omega) with rfl | rfl | rfl | rfl | rfl | rfl | rfl | rfl <;> rfl) (Nat.le_of_ble_eq_true rfl) (Nat.le_of_ble_eq_true rfl) dX2_make_77 (fun q77 H hP hD hS => ?_)
          refine W.widen (k := 1) (n := 8) (by omega) (by omega) ?_
          have hP : va_P D vwCl (xw F Y (nI b) mn (nI n) (nI sN) (nI st) fl gv fs fb wo lv sl ru su L f ++ [(q77, .inr (0, [.int 0, .int 0, .int 0, .int 0, .int 0, .int 0, .long 0, .int 0]))]) H := hP
          have hD : va_D (va_A (xw F Y (nI b) mn (nI n) (nI sN) (nI st) fl gv fs fb wo lv sl ru su L f) sz) (xw F Y (nI b) mn (nI n) (nI sN) (nI st) fl gv fs fb wo lv sl ru su L f ++ [(q77, .inr (0, [.int 0, .int 0, .int 0, .int 0, .int 0, .int 0, .long 0, .int 0]))]) := hD
          have hq := va_pl_fresh2 hD
          refine lv_dup hx hb dX2_make_80 rfl ?_
          refine lv_iload_n hx hb dX2_make_81 rfl (lv_at hl 2 rfl) ?_
          refine lv_iload_n hx hb dX2_make_82 rfl (lv_at hl 3 rfl) ?_
          refine lv_iload_n hx hb dX2_make_83 rfl (lv_at hl 4 rfl) ?_
          refine lv_iload hx hb dX2_make_84 (lv_at hl 5 rfl) ?_
          refine lv_iload hx hb dX2_make_86 (lv_at hl 6 rfl) ?_
          refine lv_iload hx hb dX2_make_88 (lv_at hl 7 rfl) ?_
          refine WrV.callIN (As := [.int k_, .int a_, .int b_, .int c_, .int d_, .int e_]) (rest := [.ref q77]) (c_X0_init k_ a_ b_ c_ d_ e_) ⟨hx, hb, hml, hown, hts⟩ ⟨va_cnB 6 hts gX2_make_X0_init_n79 rfl rfl rfl (nm_79 hN) (hts (.initialized RX0) (by decide +kernel)) (by decide +kernel) ⟨by decide, by decide⟩, rfl, hts (.instanceMethod yX0_init) (by decide +kernel)⟩ hP hD hS hA hK hN _ (last_at _ _) rfl hl.1 rfl (Nat.le_of_ble_eq_true rfl) dX2_make_90 ⟨Nat.le_of_ble_eq_true rfl, Nat.le_of_ble_eq_true rfl⟩ (fun _ H locs _ hP hD hS => ?_)
          rw [last_set] at hP hD
          have hP : va_P D vwCl (xw F Y (nI b) mn (nI n) (nI sN) (nI st) fl gv fs fb wo lv sl ru su L f ++ [(q77, .inr (0, [.int k_, .int a_, .int b_, .int c_, .int d_, .int e_, .long 0, .int 0]))]) H := hP
          have hD : va_D (va_A (xw F Y (nI b) mn (nI n) (nI sN) (nI st) fl gv fs fb wo lv sl ru su L f) sz) (xw F Y (nI b) mn (nI n) (nI sN) (nI st) fl gv fs fb wo lv sl ru su L f ++ [(q77, .inr (0, [.int k_, .int a_, .int b_, .int c_, .int d_, .int e_, .long 0, .int 0]))]) := hD
          refine lv_astore (lv' := [(9, .ref q77), (7, .long 0), (0, .ref (F 0)), (1, .int k_), (2, .int a_), (3, .int b_), (4, .int c_), (5, .int d_), (6, .int e_)]) hx hb dX2_make_93 hl (by decide) rfl (fun ls hl => ?_)
          refine lv_aload hx hb dX2_make_95 (lv_at hl 0 rfl) ?_
          refine lv_lload hx hb dX2_make_97 (lv_at hl 1 rfl) ?_
          refine va_putN (D := D) (ci := 0) (v := .long 0) (ty := .long) (C := RX0) (T := TX0) (N := 8) (host := RX2) hx hb hts iw_X2_make_X0 tyX0 tyX0_ok nmX0 hown hK hP hD hS _ (last_at _ _) rfl 6 (by decide) (nf_82 hN) (fun _ h9 => h9) rfl (by decide +kernel) rfl rfl (Nat.le_of_ble_eq_true rfl) dX2_make_99 (fun H locs hP hD hS => ?_)
          rw [last_set] at hP hD
          have hP : va_P D vwCl (xw F Y (nI b) mn (nI n) (nI sN) (nI st) fl gv fs fb wo lv sl ru su L f ++ [(q77, .inr (0, [.int k_, .int a_, .int b_, .int c_, .int d_, .int e_, .long 0, .int 0]))]) H := hP
          have hD : va_D (va_A (xw F Y (nI b) mn (nI n) (nI sN) (nI st) fl gv fs fb wo lv sl ru su L f) sz) (xw F Y (nI b) mn (nI n) (nI sN) (nI st) fl gv fs fb wo lv sl ru su L f ++ [(q77, .inr (0, [.int k_, .int a_, .int b_, .int c_, .int d_, .int e_, .long 0, .int 0]))]) := hD
          refine lv_aload_n hx hb dX2_make_102 rfl (lv_at hl 2 rfl) ?_
          refine va_get (D := D) (ci := 2) (v := .ref (F 3)) (C := RX2) (T := TX2) (N := 14) hx hb hts iw_X2_make_X2 hown hK hP 0 rfl rfl 4 (by decide) (hts (.fieldLink RX2 25 "SluiceRules" "rules" "[LSluiceRules$Rule;") (by decide +kernel)) (fun _ h9 => h9) rfl dX2_make_103 ?_
          refine lv_aload_n hx hb dX2_make_106 rfl (lv_at hl 2 rfl) ?_
          refine va_get (D := D) (ci := 2) (v := .int (nI n)) (C := RX2) (T := TX2) (N := 14) hx hb hts iw_X2_make_X2 hown hK hP 0 rfl rfl 5 (by decide) (hts (.fieldLink RX2 29 "SluiceRules" "ruleCount" "I") (by decide +kernel)) (fun _ h9 => h9) rfl dX2_make_107 ?_
          refine lv_aload hx hb dX2_make_110 (lv_at hl 0 rfl) ?_
          refine my_astq (j := n) (r := (RX0, TX0, 8)) hx hb hK hP hD hS 3 2 _ 0 rfl rfl (last_at _ _) rfl (rfl) (n_l40) (by decide) dX2_make_112 (fun H locs hP hD hS => ?_)
          have hP : va_P D vwCl (xw F Y (nI b) mn (nI n) (nI sN) (nI st) fl gv fs fb wo lv sl (va_up ru n (some q77)) su L f ++ [(q77, .inr (0, [.int k_, .int a_, .int b_, .int c_, .int d_, .int e_, .long 0, .int 0]))]) H := hP
          have hD : va_D (va_A (xw F Y (nI b) mn (nI n) (nI sN) (nI st) fl gv fs fb wo lv sl ru su L f) sz) (xw F Y (nI b) mn (nI n) (nI sN) (nI st) fl gv fs fb wo lv sl (va_up ru n (some q77)) su L f ++ [(q77, .inr (0, [.int k_, .int a_, .int b_, .int c_, .int d_, .int e_, .long 0, .int 0]))]) := hD
          refine lv_aload_n hx hb dX2_make_113 rfl (lv_at hl 2 rfl) ?_
          refine lv_dup hx hb dX2_make_114 rfl ?_
          refine va_get (D := D) (ci := 2) (v := .int (nI n)) (C := RX2) (T := TX2) (N := 14) hx hb hts iw_X2_make_X2 hown hK hP 0 rfl rfl 5 (by decide) (hts (.fieldLink RX2 29 "SluiceRules" "ruleCount" "I") (by decide +kernel)) (fun _ h9 => h9) rfl dX2_make_115 ?_
          refine lv_iconst (v := 1) hx hb dX2_make_118 (by decide) ?_
          refine lv_iadd hx hb dX2_make_119 ?_
          refine va_put (D := D) (ci := 2) (v := .int ((nI n) + 1)) (ty := .int) (C := RX2) (T := TX2) (N := 14) hx hb hts iw_X2_make_X2 tyX2 tyX2_ok nmX2 hown hK hP hD hS 0 rfl rfl 5 (by decide) (hts (.fieldLink RX2 29 "SluiceRules" "ruleCount" "I") (by decide +kernel)) (fun _ h9 => h9) rfl (by decide +kernel) rfl rfl (Nat.le_of_ble_eq_true rfl) dX2_make_120 (fun H locs hP hD hS => ?_)
          have hP : va_P D vwCl (xw F Y (nI b) mn ((nI n) + 1) (nI sN) (nI st) fl gv fs fb wo lv sl (va_up ru n (some q77)) su L f ++ [(q77, .inr (0, [.int k_, .int a_, .int b_, .int c_, .int d_, .int e_, .long 0, .int 0]))]) H := hP
          have hD : va_D (va_A (xw F Y (nI b) mn (nI n) (nI sN) (nI st) fl gv fs fb wo lv sl ru su L f) sz) (xw F Y (nI b) mn ((nI n) + 1) (nI sN) (nI st) fl gv fs fb wo lv sl (va_up ru n (some q77)) su L f ++ [(q77, .inr (0, [.int k_, .int a_, .int b_, .int c_, .int d_, .int e_, .long 0, .int 0]))]) := hD
          refine lv_aload_n hx hb dX2_make_123 rfl (lv_at hl 2 rfl) ?_
          refine va_get (D := D) (ci := 2) (v := .int ((nI n) + 1)) (C := RX2) (T := TX2) (N := 14) hx hb hts iw_X2_make_X2 hown hK hP 0 rfl rfl 5 (by decide) (hts (.fieldLink RX2 29 "SluiceRules" "ruleCount" "I") (by decide +kernel)) (fun _ h9 => h9) rfl dX2_make_124 ?_
          refine lv_iconst (v := 1) hx hb dX2_make_127 (by decide) ?_
          refine lv_isub hx hb dX2_make_128 ?_
          rw [nI_1] at hP hD
          have hP : va_P D vwCl (xw F Y (nI b) mn (nI (n + 1)) (nI sN) (nI st) fl gv fs fb wo lv sl (va_up ru n (some q77)) su (L ++ [q77]) (va_up f q77 (.inr (0, [.int k_, .int a_, .int b_, .int c_, .int d_, .int e_, .long 0, .int 0])))) H := (congrArg (fun w => va_P D vwCl w H) (xw_push hq)).mp hP
          have hD : va_D (va_A (xw F Y (nI b) mn (nI n) (nI sN) (nI st) fl gv fs fb wo lv sl ru su L f) sz) (xw F Y (nI b) mn (nI (n + 1)) (nI sN) (nI st) fl gv fs fb wo lv sl (va_up ru n (some q77)) su (L ++ [q77]) (va_up f q77 (.inr (0, [.int k_, .int a_, .int b_, .int c_, .int d_, .int e_, .long 0, .int 0])))) := (congrArg (fun w => va_D _ w) (xw_push hq)).mp hD
          exact wrI ((n + 1, upd kd n k_, pt5 pt n a_ b_ c_ d_ e_, vp_updL he n 0, upd ct n 0, st), fl, va_up ru n (some q77), L ++ [q77], va_up f q77 (.inr (0, [.int k_, .int a_, .int b_, .int c_, .int d_, .int e_, .long 0, .int 0]))) hx hb hr hlk dX2_make_129 hP hD hS ⟨by rw [nI_1, nI_pred]; exact sp_make_n b_9 b_27 n_40 (by simpa using c_54), hR.push hq k_ a_ b_ c_ d_ e_ 0⟩
        · refine lv_aload_n hx hb dX2_make_57 rfl (lv_at hl 1 rfl) ?_
          refine lv_iload_n hx hb dX2_make_58 rfl (lv_at hl 3 rfl) ?_
          refine lv_iload_n hx hb dX2_make_59 rfl (lv_at hl 4 rfl) ?_
          refine WrL.callV (As := [.int a_, .int b_]) (rest := []) (c_X2_askByCall hR hn40 hb8 hW a_ b_) ⟨hx, hb, hml, hown, hts⟩ (cwV 2 hts gX2_make_X2_askByCall rfl rfl rfl (by decide +kernel) ⟨by decide, by decide⟩) hP hD hS hA hK hN 0 2 rfl rfl rfl hl.1 rfl (Nat.le_of_ble_eq_true rfl) dX2_make_60 ⟨Nat.le_of_ble_eq_true rfl, Nat.le_of_ble_eq_true rfl⟩ (fun r_3 ur_3 H locs hr_3 hP hD hS => ?_)
          obtain ⟨⟨st_2, fl_2, ct_2⟩, f_2⟩ := ur_3
          obtain ⟨e_2, hR_2⟩ := hr_3
          have e_2 : (r_3, (st_2, fl_2, ct_2)) = ev (n, mn, lv, sl, kd, pt, he) 120 a_ b_ (0, 0, ct) := e_2
          have hR_2 : xRel n sN kd pt he ct_2 fr to rl ru su L f_2 := hR_2
          have hP : va_P D vwCl (xw F Y (nI b) mn (nI n) (nI sN) (nI st_2) fl_2 gv fs fb wo lv sl ru su L f_2) H := hP
          have hD : va_D (va_A (xw F Y (nI b) mn (nI n) (nI sN) (nI st) fl gv fs fb wo lv sl ru su L f) sz) (xw F Y (nI b) mn (nI n) (nI sN) (nI st_2) fl_2 gv fs fb wo lv sl ru su L f_2) := hD
          refine lv_lstore (lv' := [(7, .long r_3), (0, .ref (F 0)), (1, .int k_), (2, .int a_), (3, .int b_), (4, .int c_), (5, .int d_), (6, .int e_)]) hx hb dX2_make_63 hl (by decide) rfl (fun ls hl => ?_)
          refine lv_aload_n hx hb dX2_make_65 rfl (lv_at hl 1 rfl) ?_
          refine va_get (D := D) (ci := 2) (v := .int fl_2) (C := RX2) (T := TX2) (N := 14) hx hb hts iw_X2_make_X2 hown hK hP 0 rfl rfl 9 (by decide) (hts (.fieldLink RX2 44 "SluiceRules" "failure" "I") (by decide +kernel)) (fun _ h9 => h9) rfl dX2_make_66 ?_
          refine lv_if_eq (tgt := 77) hx hb dX2_make_69 (by decide) (fun c_69 => ?_) (fun c_69 => ?_)
          · refine va_new (ci := 0) (fs := [.int 0, .int 0, .int 0, .int 0, .int 0, .int 0, .long 0, .int 0]) (C := RX0) (T := TX0) (N := 8) hx hb hts iw_X2_make_X0 tyX0 tyX0_ok hown (hts (.classLink RX2 23 RX0) (by decide +kernel)) (hts (.instantiable RX0 8) (by decide +kernel)) (hts (.initialized RX0) (by decide +kernel)) hK hP hD hS hA rfl (fun j hj => by rcases (show j = 0 ∨ j = 1 ∨ j = 2 ∨ j = 3 ∨ j = 4 ∨ j = 5 ∨ j = 6 ∨ j = 7 by omega) with rfl | rfl | rfl | rfl | rfl | rfl | rfl | rfl <;> rfl) (Nat.le_of_ble_eq_true rfl) (Nat.le_of_ble_eq_true rfl) dX2_make_77 (fun q77 H hP hD hS => ?_)
            refine W.widen (k := 1) (n := 8) (by omega) (by omega) ?_
            have hP : va_P D vwCl (xw F Y (nI b) mn (nI n) (nI sN) (nI st_2) fl_2 gv fs fb wo lv sl ru su L f_2 ++ [(q77, .inr (0, [.int 0, .int 0, .int 0, .int 0, .int 0, .int 0, .long 0, .int 0]))]) H := hP
            have hD : va_D (va_A (xw F Y (nI b) mn (nI n) (nI sN) (nI st) fl gv fs fb wo lv sl ru su L f) sz) (xw F Y (nI b) mn (nI n) (nI sN) (nI st_2) fl_2 gv fs fb wo lv sl ru su L f_2 ++ [(q77, .inr (0, [.int 0, .int 0, .int 0, .int 0, .int 0, .int 0, .long 0, .int 0]))]) := hD
            have hq := va_pl_fresh2 hD
            refine lv_dup hx hb dX2_make_80 rfl ?_
            refine lv_iload_n hx hb dX2_make_81 rfl (lv_at hl 2 rfl) ?_
            refine lv_iload_n hx hb dX2_make_82 rfl (lv_at hl 3 rfl) ?_
            refine lv_iload_n hx hb dX2_make_83 rfl (lv_at hl 4 rfl) ?_
            refine lv_iload hx hb dX2_make_84 (lv_at hl 5 rfl) ?_
            refine lv_iload hx hb dX2_make_86 (lv_at hl 6 rfl) ?_
            refine lv_iload hx hb dX2_make_88 (lv_at hl 7 rfl) ?_
            refine WrV.callIN (As := [.int k_, .int a_, .int b_, .int c_, .int d_, .int e_]) (rest := [.ref q77]) (c_X0_init k_ a_ b_ c_ d_ e_) ⟨hx, hb, hml, hown, hts⟩ ⟨va_cnB 6 hts gX2_make_X0_init_n79 rfl rfl rfl (nm_79 hN) (hts (.initialized RX0) (by decide +kernel)) (by decide +kernel) ⟨by decide, by decide⟩, rfl, hts (.instanceMethod yX0_init) (by decide +kernel)⟩ hP hD hS hA hK hN _ (last_at _ _) rfl hl.1 rfl (Nat.le_of_ble_eq_true rfl) dX2_make_90 ⟨Nat.le_of_ble_eq_true rfl, Nat.le_of_ble_eq_true rfl⟩ (fun _ H locs _ hP hD hS => ?_)
            rw [last_set] at hP hD
            have hP : va_P D vwCl (xw F Y (nI b) mn (nI n) (nI sN) (nI st_2) fl_2 gv fs fb wo lv sl ru su L f_2 ++ [(q77, .inr (0, [.int k_, .int a_, .int b_, .int c_, .int d_, .int e_, .long 0, .int 0]))]) H := hP
            have hD : va_D (va_A (xw F Y (nI b) mn (nI n) (nI sN) (nI st) fl gv fs fb wo lv sl ru su L f) sz) (xw F Y (nI b) mn (nI n) (nI sN) (nI st_2) fl_2 gv fs fb wo lv sl ru su L f_2 ++ [(q77, .inr (0, [.int k_, .int a_, .int b_, .int c_, .int d_, .int e_, .long 0, .int 0]))]) := hD
            refine lv_astore (lv' := [(9, .ref q77), (7, .long r_3), (0, .ref (F 0)), (1, .int k_), (2, .int a_), (3, .int b_), (4, .int c_), (5, .int d_), (6, .int e_)]) hx hb dX2_make_93 hl (by decide) rfl (fun ls hl => ?_)
            refine lv_aload hx hb dX2_make_95 (lv_at hl 0 rfl) ?_
            refine lv_lload hx hb dX2_make_97 (lv_at hl 1 rfl) ?_
            refine va_putN (D := D) (ci := 0) (v := .long r_3) (ty := .long) (C := RX0) (T := TX0) (N := 8) (host := RX2) hx hb hts iw_X2_make_X0 tyX0 tyX0_ok nmX0 hown hK hP hD hS _ (last_at _ _) rfl 6 (by decide) (nf_82 hN) (fun _ h9 => h9) rfl (by decide +kernel) rfl rfl (Nat.le_of_ble_eq_true rfl) dX2_make_99 (fun H locs hP hD hS => ?_)
            rw [last_set] at hP hD
            have hP : va_P D vwCl (xw F Y (nI b) mn (nI n) (nI sN) (nI st_2) fl_2 gv fs fb wo lv sl ru su L f_2 ++ [(q77, .inr (0, [.int k_, .int a_, .int b_, .int c_, .int d_, .int e_, .long r_3, .int 0]))]) H := hP
            have hD : va_D (va_A (xw F Y (nI b) mn (nI n) (nI sN) (nI st) fl gv fs fb wo lv sl ru su L f) sz) (xw F Y (nI b) mn (nI n) (nI sN) (nI st_2) fl_2 gv fs fb wo lv sl ru su L f_2 ++ [(q77, .inr (0, [.int k_, .int a_, .int b_, .int c_, .int d_, .int e_, .long r_3, .int 0]))]) := hD
            refine lv_aload_n hx hb dX2_make_102 rfl (lv_at hl 2 rfl) ?_
            refine va_get (D := D) (ci := 2) (v := .ref (F 3)) (C := RX2) (T := TX2) (N := 14) hx hb hts iw_X2_make_X2 hown hK hP 0 rfl rfl 4 (by decide) (hts (.fieldLink RX2 25 "SluiceRules" "rules" "[LSluiceRules$Rule;") (by decide +kernel)) (fun _ h9 => h9) rfl dX2_make_103 ?_
            refine lv_aload_n hx hb dX2_make_106 rfl (lv_at hl 2 rfl) ?_
            refine va_get (D := D) (ci := 2) (v := .int (nI n)) (C := RX2) (T := TX2) (N := 14) hx hb hts iw_X2_make_X2 hown hK hP 0 rfl rfl 5 (by decide) (hts (.fieldLink RX2 29 "SluiceRules" "ruleCount" "I") (by decide +kernel)) (fun _ h9 => h9) rfl dX2_make_107 ?_
            refine lv_aload hx hb dX2_make_110 (lv_at hl 0 rfl) ?_
            refine my_astq (j := n) (r := (RX0, TX0, 8)) hx hb hK hP hD hS 3 2 _ 0 rfl rfl (last_at _ _) rfl (rfl) (n_l40) (by decide) dX2_make_112 (fun H locs hP hD hS => ?_)
            have hP : va_P D vwCl (xw F Y (nI b) mn (nI n) (nI sN) (nI st_2) fl_2 gv fs fb wo lv sl (va_up ru n (some q77)) su L f_2 ++ [(q77, .inr (0, [.int k_, .int a_, .int b_, .int c_, .int d_, .int e_, .long r_3, .int 0]))]) H := hP
            have hD : va_D (va_A (xw F Y (nI b) mn (nI n) (nI sN) (nI st) fl gv fs fb wo lv sl ru su L f) sz) (xw F Y (nI b) mn (nI n) (nI sN) (nI st_2) fl_2 gv fs fb wo lv sl (va_up ru n (some q77)) su L f_2 ++ [(q77, .inr (0, [.int k_, .int a_, .int b_, .int c_, .int d_, .int e_, .long r_3, .int 0]))]) := hD
            refine lv_aload_n hx hb dX2_make_113 rfl (lv_at hl 2 rfl) ?_
            refine lv_dup hx hb dX2_make_114 rfl ?_
            refine va_get (D := D) (ci := 2) (v := .int (nI n)) (C := RX2) (T := TX2) (N := 14) hx hb hts iw_X2_make_X2 hown hK hP 0 rfl rfl 5 (by decide) (hts (.fieldLink RX2 29 "SluiceRules" "ruleCount" "I") (by decide +kernel)) (fun _ h9 => h9) rfl dX2_make_115 ?_
            refine lv_iconst (v := 1) hx hb dX2_make_118 (by decide) ?_
            refine lv_iadd hx hb dX2_make_119 ?_
            refine va_put (D := D) (ci := 2) (v := .int ((nI n) + 1)) (ty := .int) (C := RX2) (T := TX2) (N := 14) hx hb hts iw_X2_make_X2 tyX2 tyX2_ok nmX2 hown hK hP hD hS 0 rfl rfl 5 (by decide) (hts (.fieldLink RX2 29 "SluiceRules" "ruleCount" "I") (by decide +kernel)) (fun _ h9 => h9) rfl (by decide +kernel) rfl rfl (Nat.le_of_ble_eq_true rfl) dX2_make_120 (fun H locs hP hD hS => ?_)
            have hP : va_P D vwCl (xw F Y (nI b) mn ((nI n) + 1) (nI sN) (nI st_2) fl_2 gv fs fb wo lv sl (va_up ru n (some q77)) su L f_2 ++ [(q77, .inr (0, [.int k_, .int a_, .int b_, .int c_, .int d_, .int e_, .long r_3, .int 0]))]) H := hP
            have hD : va_D (va_A (xw F Y (nI b) mn (nI n) (nI sN) (nI st) fl gv fs fb wo lv sl ru su L f) sz) (xw F Y (nI b) mn ((nI n) + 1) (nI sN) (nI st_2) fl_2 gv fs fb wo lv sl (va_up ru n (some q77)) su L f_2 ++ [(q77, .inr (0, [.int k_, .int a_, .int b_, .int c_, .int d_, .int e_, .long r_3, .int 0]))]) := hD
            refine lv_aload_n hx hb dX2_make_123 rfl (lv_at hl 2 rfl) ?_
            refine va_get (D := D) (ci := 2) (v := .int ((nI n) + 1)) (C := RX2) (T := TX2) (N := 14) hx hb hts iw_X2_make_X2 hown hK hP 0 rfl rfl 5 (by decide) (hts (.fieldLink RX2 29 "SluiceRules" "ruleCount" "I") (by decide +kernel)) (fun _ h9 => h9) rfl dX2_make_124 ?_
            refine lv_iconst (v := 1) hx hb dX2_make_127 (by decide) ?_
            refine lv_isub hx hb dX2_make_128 ?_
            rw [nI_1] at hP hD
            have hP : va_P D vwCl (xw F Y (nI b) mn (nI (n + 1)) (nI sN) (nI st_2) fl_2 gv fs fb wo lv sl (va_up ru n (some q77)) su (L ++ [q77]) (va_up f_2 q77 (.inr (0, [.int k_, .int a_, .int b_, .int c_, .int d_, .int e_, .long r_3, .int 0])))) H := (congrArg (fun w => va_P D vwCl w H) (xw_push hq)).mp hP
            have hD : va_D (va_A (xw F Y (nI b) mn (nI n) (nI sN) (nI st) fl gv fs fb wo lv sl ru su L f) sz) (xw F Y (nI b) mn (nI (n + 1)) (nI sN) (nI st_2) fl_2 gv fs fb wo lv sl (va_up ru n (some q77)) su (L ++ [q77]) (va_up f_2 q77 (.inr (0, [.int k_, .int a_, .int b_, .int c_, .int d_, .int e_, .long r_3, .int 0])))) := (congrArg (fun w => va_D _ w) (xw_push hq)).mp hD
            exact wrI ((n + 1, upd kd n k_, pt5 pt n a_ b_ c_ d_ e_, vp_updL he n r_3, upd ct_2 n 0, st_2), fl_2, va_up ru n (some q77), L ++ [q77], va_up f_2 q77 (.inr (0, [.int k_, .int a_, .int b_, .int c_, .int d_, .int e_, .long r_3, .int 0]))) hx hb hr hlk dX2_make_129 hP hD hS ⟨by rw [nI_1, nI_pred]; exact sp_make_h b_9 b_27 n_40 (by simpa using c_54) e_2 c_69, hR_2.push hq k_ a_ b_ c_ d_ e_ r_3⟩
          · refine lv_aload_n hx hb dX2_make_72 rfl (lv_at hl 1 rfl) ?_
            refine va_get (D := D) (ci := 2) (v := .int fl_2) (C := RX2) (T := TX2) (N := 14) hx hb hts iw_X2_make_X2 hown hK hP 0 rfl rfl 9 (by decide) (hts (.fieldLink RX2 44 "SluiceRules" "failure" "I") (by decide +kernel)) (fun _ h9 => h9) rfl dX2_make_73 ?_
            refine W.widen (k := 1) (n := 8) (by omega) (by omega) ?_
            exact wrI ((n, kd, pt, he, ct_2, st_2), fl_2, ru, L, f_2) hx hb hr hlk dX2_make_76 hP hD hS ⟨sp_make_f b_9 b_27 n_40 (by simpa using c_54) e_2 c_69, hR_2⟩
      · have n_40 : n = 40 := by rw [i_lt, nI_toInt (by omega)] at c_42; have : (40 : Int32).toInt = 40 := rfl; omega
        refine lv_bipush (v := (-103)) hx hb dX2_make_45 (by decide) ?_
        refine W.widen (k := 1) (n := 8) (by omega) (by omega) ?_
        exact wrI ((n, kd, pt, he, ct, st), fl, ru, L, f) hx hb hr hlk dX2_make_47 hP hD hS ⟨sp_make_r b_9 b_27 n_40, hR⟩
    · have b_27 : fiB k_ a_ b_ c_ d_ e_ = false := bI_z (by rw [← hr_2]; exact c_27)
      refine lv_bipush (v := (-102)) hx hb dX2_make_30 (by decide) ?_
      refine W.widen (k := 1) (n := 8) (by omega) (by omega) ?_
      exact wrI ((n, kd, pt, he, ct, st), fl, ru, L, f) hx hb hr hlk dX2_make_32 hP hD hS ⟨sp_make_o b_9 b_27, hR⟩
  · have b_9 : knB b n kd k_ a_ b_ c_ = false := bI_z (by rw [← hr_1]; exact c_9)
    refine lv_bipush (v := (-101)) hx hb dX2_make_12 (by decide) ?_
    refine W.widen (k := 1) (n := 8) (by omega) (by omega) ?_
    exact wrI ((n, kd, pt, he, ct, st), fl, ru, L, f) hx hb hr hlk dX2_make_14 hP hD hS ⟨sp_make_u b_9, hR⟩

theorem iw_X2_sluice_X2 : ∀ w ∈ u_ws RX2 TX2 14, w ∈ wsX2_sluice := by decide +kernel
theorem iw_X2_sluice_X1 : ∀ w ∈ u_ws RX1 TX1 3, w ∈ wsX2_sluice := by decide +kernel
set_option maxRecDepth 100000 in
set_option maxHeartbeats 4000000 in
/-- sluice -/
theorem c_X2_sluice {l : Launch} {D : va_G} {F : Nat → Nat} {Y : Nat → ClassId} {mn fl : Int32} {gv : Int64} {fs fb wo : Int32} {lv sl : Nat → Int32} {ru su : Nat → Option Nat} {L : List Nat} {f : Nat → va_E} {b n sN st : Nat} {kd pt : Nat → Int32} {he : Nat → Int64} {ct fr to rl : Nat → Int32} (hR : xRel n sN kd pt he ct fr to rl ru su L f) (hn40 : n ≤ 40) (hb8 : b ≤ 8) (hs8 : sN ≤ 8) (f_ t_ r_ : Int32) : WrI l yX2_sluice wsX2_sluice (rkc 2 1 3) D (xty Y) (xw F Y (nI b) mn (nI n) (nI sN) (nI st) fl gv fs fb wo lv sl ru su L f) [.ref (F 0), .int f_, .int t_, .int r_] (σ := (Nat × (Nat → Int32) × (Nat → Int32) × (Nat → Int32)) × (Nat → Option Nat) × List Nat × (Nat → va_E)) (fun u => xw F Y (nI b) mn (nI n) (nI u.1.1) (nI st) fl gv fs fb wo lv sl ru u.2.1 u.2.2.1 u.2.2.2) (fun r u => (r, u.1) = sp_sluice b n sN fr to rl f_ t_ r_ ∧ xRel n u.1.1 kd pt he ct u.1.2.1 u.1.2.2.1 u.1.2.2.2 ru u.2.1 u.2.2.1 u.2.2.2) 1 3 := by
  intro sz
  refine wrEnter (cc := cX2_sluice) (maxL := 4) (ret := (some .int)) (by decide) rfl (Nat.le_of_ble_eq_true rfl) ?_
  intro p e s m below meth c hx hb hr hml hown hts hlk hP hK hN hsz hD hS hA hin ls hl
  have hown : s.vm.findClass RX2 = some m.cls := hown
  have hl : lv_has ls 4 [(0, .ref (F 0)), (1, .int f_), (2, .int t_), (3, .int r_)] := hl
  refine lv_aload_n hx hb dX2_sluice_0 rfl (lv_at hl 0 rfl) ?_
  refine lv_iload_n hx hb dX2_sluice_1 rfl (lv_at hl 1 rfl) ?_
  refine RoI.callV (As := [.int f_]) (rest := []) (c_X2_isBasin hb8 f_) ⟨hx, hb, hml, hown, hts⟩ (cwV 1 hts gX2_sluice_X2_isBasin rfl rfl rfl (by decide +kernel) ⟨by decide, by decide⟩) hP hK hN 0 2 rfl rfl rfl hl.1 rfl (Nat.le_of_ble_eq_true rfl) dX2_sluice_2 ⟨Nat.le_of_ble_eq_true rfl, Nat.le_of_ble_eq_true rfl⟩ (fun r_1 hr_1 => ?_)
  refine lv_if_eq (tgt := 24) hx hb dX2_sluice_5 (by decide) (fun c_5 => ?_) (fun c_5 => ?_)
  · have b_5 : inB f_ b = false := bI_z (by rw [← hr_1]; exact c_5)
    refine lv_bipush (v := (-101)) hx hb dX2_sluice_24 (by decide) ?_
    refine W.widen (k := 1) (n := 3) (by omega) (by omega) ?_
    exact wrI ((sN, fr, to, rl), su, L, f) hx hb hr hlk dX2_sluice_26 hP hD hS ⟨by rw [sp_sluice, if_neg (fun z => by rw [b_5] at z; exact absurd z.1 Bool.false_ne_true)], hR⟩
  · have b_5 : inB f_ b = true := bI_n (by rw [← hr_1]; exact c_5)
    refine lv_aload_n hx hb dX2_sluice_8 rfl (lv_at hl 0 rfl) ?_
    refine lv_iload_n hx hb dX2_sluice_9 rfl (lv_at hl 2 rfl) ?_
    refine RoI.callV (As := [.int t_]) (rest := []) (c_X2_isBasin hb8 t_) ⟨hx, hb, hml, hown, hts⟩ (cwV 1 hts gX2_sluice_X2_isBasin rfl rfl rfl (by decide +kernel) ⟨by decide, by decide⟩) hP hK hN 0 2 rfl rfl rfl hl.1 rfl (Nat.le_of_ble_eq_true rfl) dX2_sluice_10 ⟨Nat.le_of_ble_eq_true rfl, Nat.le_of_ble_eq_true rfl⟩ (fun r_2 hr_2 => ?_)
    refine lv_if_eq (tgt := 24) hx hb dX2_sluice_13 (by decide) (fun c_13 => ?_) (fun c_13 => ?_)
    · have b_13 : inB t_ b = false := bI_z (by rw [← hr_2]; exact c_13)
      refine lv_bipush (v := (-101)) hx hb dX2_sluice_24 (by decide) ?_
      refine W.widen (k := 1) (n := 3) (by omega) (by omega) ?_
      exact wrI ((sN, fr, to, rl), su, L, f) hx hb hr hlk dX2_sluice_26 hP hD hS ⟨by rw [sp_sluice, if_neg (fun z => by rw [b_13] at z; exact absurd z.2.1 Bool.false_ne_true)], hR⟩
    · have b_13 : inB t_ b = true := bI_n (by rw [← hr_2]; exact c_13)
      refine lv_aload_n hx hb dX2_sluice_16 rfl (lv_at hl 0 rfl) ?_
      refine lv_iload_n hx hb dX2_sluice_17 rfl (lv_at hl 3 rfl) ?_
      refine RoQ.callV (As := [.int r_]) (rest := []) (c_X2_ruleAt hR hn40 r_) ⟨hx, hb, hml, hown, hts⟩ (cwV 1 hts gX2_sluice_X2_ruleAt rfl rfl rfl (by decide +kernel) ⟨by decide, by decide⟩) hP hK hN 0 2 rfl rfl rfl hl.1 rfl (Nat.le_of_ble_eq_true rfl) dX2_sluice_18 ⟨Nat.le_of_ble_eq_true rfl, Nat.le_of_ble_eq_true rfl⟩ (fun r_3 hr_3 => ?_)
      rcases r_3 with _ | ar_3
      · have q_r_3 := hR.norule hr_3.symm
        refine lv_ifnonnullN hx hb dX2_sluice_21 ?_
        refine lv_bipush (v := (-101)) hx hb dX2_sluice_24 (by decide) ?_
        refine W.widen (k := 1) (n := 3) (by omega) (by omega) ?_
        exact wrI ((sN, fr, to, rl), su, L, f) hx hb hr hlk dX2_sluice_26 hP hD hS ⟨by rw [sp_sluice, if_neg (fun z => by rw [q_r_3] at z; exact absurd z.2.2 Bool.false_ne_true)], hR⟩
      · have q_r_3 := (hR.rule hr_3.symm).1
        refine lv_ifnonnull (tgt := 27) hx hb dX2_sluice_21 (by decide) ?_
        refine lv_iload_n hx hb dX2_sluice_27 rfl (lv_at hl 1 rfl) ?_
        refine lv_iload_n hx hb dX2_sluice_28 rfl (lv_at hl 2 rfl) ?_
        refine lv_icmp_ne (tgt := 35) hx hb dX2_sluice_29 (by decide) (fun c_29 => ?_) (fun c_29 => ?_)
        · refine lv_aload_n hx hb dX2_sluice_35 rfl (lv_at hl 0 rfl) ?_
          refine va_get (D := D) (ci := 2) (v := .int (nI sN)) (C := RX2) (T := TX2) (N := 14) hx hb hts iw_X2_sluice_X2 hown hK hP 0 rfl rfl 7 (by decide) (hts (.fieldLink RX2 38 "SluiceRules" "sluiceCount" "I") (by decide +kernel)) (fun _ h9 => h9) rfl dX2_sluice_36 ?_
          refine lv_aload_n hx hb dX2_sluice_39 rfl (lv_at hl 0 rfl) ?_
          refine va_get (D := D) (ci := 2) (v := .ref (F 4)) (C := RX2) (T := TX2) (N := 14) hx hb hts iw_X2_sluice_X2 hown hK hP 0 rfl rfl 6 (by decide) (hts (.fieldLink RX2 34 "SluiceRules" "sluices" "[LSluiceRules$Sluice;") (by decide +kernel)) (fun _ h9 => h9) rfl dX2_sluice_40 ?_
          refine va_alen (v := 8) hx hb hK hP 4 3 rfl rfl rfl dX2_sluice_43 ?_
          refine lv_icmp_lt (tgt := 50) hx hb dX2_sluice_44 (by decide) (fun c_44 => ?_) (fun c_44 => ?_)
          · have s_l8 : sN < 8 := by rw [i_lt, nI_toInt (by omega)] at c_44; have : (8 : Int32).toInt = 8 := rfl; omega
            have s_8 : ¬ sN = 8 := by omega
            refine lv_aload_n hx hb dX2_sluice_50 rfl (lv_at hl 0 rfl) ?_
            refine va_get (D := D) (ci := 2) (v := .ref (F 4)) (C := RX2) (T := TX2) (N := 14) hx hb hts iw_X2_sluice_X2 hown hK hP 0 rfl rfl 6 (by decide) (hts (.fieldLink RX2 34 "SluiceRules" "sluices" "[LSluiceRules$Sluice;") (by decide +kernel)) (fun _ h9 => h9) rfl dX2_sluice_51 ?_
            refine lv_aload_n hx hb dX2_sluice_54 rfl (lv_at hl 0 rfl) ?_
            refine va_get (D := D) (ci := 2) (v := .int (nI sN)) (C := RX2) (T := TX2) (N := 14) hx hb hts iw_X2_sluice_X2 hown hK hP 0 rfl rfl 7 (by decide) (hts (.fieldLink RX2 38 "SluiceRules" "sluiceCount" "I") (by decide +kernel)) (fun _ h9 => h9) rfl dX2_sluice_55 ?_
            refine va_new (ci := 1) (fs := [.int 0, .int 0, .int 0]) (C := RX1) (T := TX1) (N := 3) hx hb hts iw_X2_sluice_X1 tyX1 tyX1_ok hown (hts (.classLink RX2 32 RX1) (by decide +kernel)) (hts (.instantiable RX1 3) (by decide +kernel)) (hts (.initialized RX1) (by decide +kernel)) hK hP hD hS hA rfl (fun j hj => by rcases (show j = 0 ∨ j = 1 ∨ j = 2 by omega) with rfl | rfl | rfl <;> rfl) (Nat.le_of_ble_eq_true rfl) (Nat.le_of_ble_eq_true rfl) dX2_sluice_58 (fun q58 H hP hD hS => ?_)
            refine W.widen (k := 1) (n := 3) (by omega) (by omega) ?_
            have hP : va_P D vwCl (xw F Y (nI b) mn (nI n) (nI sN) (nI st) fl gv fs fb wo lv sl ru su L f ++ [(q58, .inr (1, [.int 0, .int 0, .int 0]))]) H := hP
            have hD : va_D (va_A (xw F Y (nI b) mn (nI n) (nI sN) (nI st) fl gv fs fb wo lv sl ru su L f) sz) (xw F Y (nI b) mn (nI n) (nI sN) (nI st) fl gv fs fb wo lv sl ru su L f ++ [(q58, .inr (1, [.int 0, .int 0, .int 0]))]) := hD
            have hq := va_pl_fresh2 hD
            refine lv_dup hx hb dX2_sluice_61 rfl ?_
            refine lv_iload_n hx hb dX2_sluice_62 rfl (lv_at hl 1 rfl) ?_
            refine lv_iload_n hx hb dX2_sluice_63 rfl (lv_at hl 2 rfl) ?_
            refine lv_iload_n hx hb dX2_sluice_64 rfl (lv_at hl 3 rfl) ?_
            refine WrV.callIN (As := [.int f_, .int t_, .int r_]) (rest := [.ref q58, .int (nI sN), .ref (F 4)]) (c_X1_init f_ t_ r_) ⟨hx, hb, hml, hown, hts⟩ ⟨va_cnB 3 hts gX2_sluice_X1_init_n95 rfl rfl rfl (nm_95 hN) (hts (.initialized RX1) (by decide +kernel)) (by decide +kernel) ⟨by decide, by decide⟩, rfl, hts (.instanceMethod yX1_init) (by decide +kernel)⟩ hP hD hS hA hK hN _ (last_at _ _) rfl hl.1 rfl (Nat.le_of_ble_eq_true rfl) dX2_sluice_65 ⟨Nat.le_of_ble_eq_true rfl, Nat.le_of_ble_eq_true rfl⟩ (fun _ H locs _ hP hD hS => ?_)
            rw [last_set] at hP hD
            have hP : va_P D vwCl (xw F Y (nI b) mn (nI n) (nI sN) (nI st) fl gv fs fb wo lv sl ru su L f ++ [(q58, .inr (1, [.int f_, .int t_, .int r_]))]) H := hP
            have hD : va_D (va_A (xw F Y (nI b) mn (nI n) (nI sN) (nI st) fl gv fs fb wo lv sl ru su L f) sz) (xw F Y (nI b) mn (nI n) (nI sN) (nI st) fl gv fs fb wo lv sl ru su L f ++ [(q58, .inr (1, [.int f_, .int t_, .int r_]))]) := hD
            refine my_astq (j := sN) (r := (RX1, TX1, 3)) hx hb hK hP hD hS 4 3 _ 1 rfl rfl (last_at _ _) rfl (rfl) (s_l8) (by decide) dX2_sluice_68 (fun H locs hP hD hS => ?_)
            have hP : va_P D vwCl (xw F Y (nI b) mn (nI n) (nI sN) (nI st) fl gv fs fb wo lv sl ru (va_up su sN (some q58)) L f ++ [(q58, .inr (1, [.int f_, .int t_, .int r_]))]) H := hP
            have hD : va_D (va_A (xw F Y (nI b) mn (nI n) (nI sN) (nI st) fl gv fs fb wo lv sl ru su L f) sz) (xw F Y (nI b) mn (nI n) (nI sN) (nI st) fl gv fs fb wo lv sl ru (va_up su sN (some q58)) L f ++ [(q58, .inr (1, [.int f_, .int t_, .int r_]))]) := hD
            refine lv_aload_n hx hb dX2_sluice_69 rfl (lv_at hl 0 rfl) ?_
            refine lv_dup hx hb dX2_sluice_70 rfl ?_
            refine va_get (D := D) (ci := 2) (v := .int (nI sN)) (C := RX2) (T := TX2) (N := 14) hx hb hts iw_X2_sluice_X2 hown hK hP 0 rfl rfl 7 (by decide) (hts (.fieldLink RX2 38 "SluiceRules" "sluiceCount" "I") (by decide +kernel)) (fun _ h9 => h9) rfl dX2_sluice_71 ?_
            refine lv_iconst (v := 1) hx hb dX2_sluice_74 (by decide) ?_
            refine lv_iadd hx hb dX2_sluice_75 ?_
            refine va_put (D := D) (ci := 2) (v := .int ((nI sN) + 1)) (ty := .int) (C := RX2) (T := TX2) (N := 14) hx hb hts iw_X2_sluice_X2 tyX2 tyX2_ok nmX2 hown hK hP hD hS 0 rfl rfl 7 (by decide) (hts (.fieldLink RX2 38 "SluiceRules" "sluiceCount" "I") (by decide +kernel)) (fun _ h9 => h9) rfl (by decide +kernel) rfl rfl (Nat.le_of_ble_eq_true rfl) dX2_sluice_76 (fun H locs hP hD hS => ?_)
            have hP : va_P D vwCl (xw F Y (nI b) mn (nI n) ((nI sN) + 1) (nI st) fl gv fs fb wo lv sl ru (va_up su sN (some q58)) L f ++ [(q58, .inr (1, [.int f_, .int t_, .int r_]))]) H := hP
            have hD : va_D (va_A (xw F Y (nI b) mn (nI n) (nI sN) (nI st) fl gv fs fb wo lv sl ru su L f) sz) (xw F Y (nI b) mn (nI n) ((nI sN) + 1) (nI st) fl gv fs fb wo lv sl ru (va_up su sN (some q58)) L f ++ [(q58, .inr (1, [.int f_, .int t_, .int r_]))]) := hD
            refine lv_aload_n hx hb dX2_sluice_79 rfl (lv_at hl 0 rfl) ?_
            refine va_get (D := D) (ci := 2) (v := .int ((nI sN) + 1)) (C := RX2) (T := TX2) (N := 14) hx hb hts iw_X2_sluice_X2 hown hK hP 0 rfl rfl 7 (by decide) (hts (.fieldLink RX2 38 "SluiceRules" "sluiceCount" "I") (by decide +kernel)) (fun _ h9 => h9) rfl dX2_sluice_80 ?_
            refine lv_iconst (v := 1) hx hb dX2_sluice_83 (by decide) ?_
            refine lv_isub hx hb dX2_sluice_84 ?_
            rw [nI_1] at hP hD
            have hP : va_P D vwCl (xw F Y (nI b) mn (nI n) (nI (sN + 1)) (nI st) fl gv fs fb wo lv sl ru (va_up su sN (some q58)) (L ++ [q58]) (va_up f q58 (.inr (1, [.int f_, .int t_, .int r_])))) H := (congrArg (fun w => va_P D vwCl w H) (xw_push hq)).mp hP
            have hD : va_D (va_A (xw F Y (nI b) mn (nI n) (nI sN) (nI st) fl gv fs fb wo lv sl ru su L f) sz) (xw F Y (nI b) mn (nI n) (nI (sN + 1)) (nI st) fl gv fs fb wo lv sl ru (va_up su sN (some q58)) (L ++ [q58]) (va_up f q58 (.inr (1, [.int f_, .int t_, .int r_])))) := (congrArg (fun w => va_D _ w) (xw_push hq)).mp hD
            exact wrI ((sN + 1, upd fr sN f_, upd to sN t_, upd rl sN r_), va_up su sN (some q58), L ++ [q58], va_up f q58 (.inr (1, [.int f_, .int t_, .int r_]))) hx hb hr hlk dX2_sluice_85 hP hD hS ⟨by rw [sp_sluice, if_pos ⟨b_5, b_13, q_r_3⟩, if_neg (by simpa using c_29), if_neg s_8, nI_1, nI_pred], hR.pushS hq f_ t_ r_⟩
          · have s_8 : sN = 8 := by rw [i_lt, nI_toInt (by omega)] at c_44; have : (8 : Int32).toInt = 8 := rfl; omega
            refine lv_bipush (v := (-103)) hx hb dX2_sluice_47 (by decide) ?_
            refine W.widen (k := 1) (n := 3) (by omega) (by omega) ?_
            exact wrI ((sN, fr, to, rl), su, L, f) hx hb hr hlk dX2_sluice_49 hP hD hS ⟨by rw [sp_sluice, if_pos ⟨b_5, b_13, q_r_3⟩, if_neg (by simpa using c_29), if_pos s_8], hR⟩
        · refine lv_bipush (v := (-102)) hx hb dX2_sluice_32 (by decide) ?_
          refine W.widen (k := 1) (n := 3) (by omega) (by omega) ?_
          exact wrI ((sN, fr, to, rl), su, L, f) hx hb hr hlk dX2_sluice_34 hP hD hS ⟨by rw [sp_sluice, if_pos ⟨b_5, b_13, q_r_3⟩, if_pos (by simpa using c_29)], hR⟩

theorem iw_X2_letOver_X2 : ∀ w ∈ u_ws RX2 TX2 14, w ∈ wsX2_letOver := by decide +kernel
theorem iw_X2_letOver_X1 : ∀ w ∈ u_ws RX1 TX1 3, w ∈ wsX2_letOver := by decide +kernel
set_option maxRecDepth 100000 in
set_option maxHeartbeats 4000000 in
/-- letOver -/
theorem c_X2_letOver {l : Launch} {D : va_G} {F : Nat → Nat} {Y : Nat → ClassId} {mn fl : Int32} {gv : Int64} {fs fb wo : Int32} {lv sl : Nat → Int32} {ru su : Nat → Option Nat} {L : List Nat} {f : Nat → va_E} {b n sN st : Nat} (hb8 : b ≤ 8) {fr to rl : Nat → Int32} {a k : Nat} (hL : a ∈ L) (hf : f a = suE fr to rl k) (hf1 : inB (fr k) b = true) (hf2 : inB (to k) b = true) (hft : ¬ fr k = to k) (hwl : wfL b lv) (v : Int64) : WrI l yX2_letOver wsX2_letOver (rk 2) D (xty Y) (xw F Y (nI b) mn (nI n) (nI sN) (nI st) fl gv fs fb wo lv sl ru su L f) [.ref (F 0), .ref a, .long v] (σ := Nat → Int32) (fun u => xw F Y (nI b) mn (nI n) (nI sN) (nI st) fl gv fs fb wo u sl ru su L f) (fun r u => (r, u) = sp_over lv (ix (fr k)) (ix (to k)) v) 0 0 := by
  intro sz
  refine wrEnter (cc := cX2_letOver) (maxL := 7) (ret := (some .int)) (by decide) rfl (Nat.le_of_ble_eq_true rfl) ?_
  intro p e s m below meth c hx hb hr hml hown hts hlk hP hK hN hsz hD hS hA hin ls hl
  have hown : s.vm.findClass RX2 = some m.cls := hown
  have hl : lv_has ls 7 [(0, .ref (F 0)), (1, .ref a), (2, .long v)] := hl
  obtain ⟨p_a, e_a⟩ : ∃ q : Nat, (xw F Y (nI b) mn (nI n) (nI sN) (nI st) fl gv fs fb wo lv sl ru su L f)[q]? = some (a, suE fr to rl k) := pl_at hL hf
  refine lv_aload_n hx hb dX2_letOver_0 rfl (lv_at hl 0 rfl) ?_
  refine lv_aload_n hx hb dX2_letOver_1 rfl (lv_at hl 1 rfl) ?_
  refine va_getN (D := D) (ci := 1) (v := .int (fr k)) (C := RX1) (T := TX1) (N := 3) (host := RX2) hx hb hts iw_X2_letOver_X1 hown hK hP p_a e_a rfl 0 (by decide) (nf_188 hN) (fun _ h9 => h9) rfl dX2_letOver_2 ?_
  refine RoI.callV (As := [.int (fr k)]) (rest := []) (c_X2_level hb8 (fr k)) ⟨hx, hb, hml, hown, hts⟩ (cwV 1 hts gX2_letOver_X2_level rfl rfl rfl (by decide +kernel) ⟨by decide, by decide⟩) hP hK hN 0 2 rfl rfl rfl hl.1 rfl (Nat.le_of_ble_eq_true rfl) dX2_letOver_5 ⟨Nat.le_of_ble_eq_true rfl, Nat.le_of_ble_eq_true rfl⟩ (fun r_1 hr_1 => ?_)
  have xr_1 : r_1 = lv (ix (fr k)) := by rw [hr_1]; exact sp_level_ok hf1
  subst xr_1
  refine lv_istore (lv' := [(4, .int (lv (ix (fr k)))), (0, .ref (F 0)), (1, .ref a), (2, .long v)]) hx hb dX2_letOver_8 hl (by decide) rfl (fun ls hl => ?_)
  refine lv_ldc (v := 1000000000) hx hb hown (hts (.constant RX2 107 (1000000000)) (by decide +kernel)) dX2_letOver_10 ?_
  refine lv_aload_n hx hb dX2_letOver_12 rfl (lv_at hl 1 rfl) ?_
  refine lv_aload_n hx hb dX2_letOver_13 rfl (lv_at hl 2 rfl) ?_
  refine va_getN (D := D) (ci := 1) (v := .int (to k)) (C := RX1) (T := TX1) (N := 3) (host := RX2) hx hb hts iw_X2_letOver_X1 hown hK hP p_a e_a rfl 1 (by decide) (nf_191 hN) (fun _ h9 => h9) rfl dX2_letOver_14 ?_
  refine RoI.callV (As := [.int (to k)]) (rest := [.int 1000000000]) (c_X2_level hb8 (to k)) ⟨hx, hb, hml, hown, hts⟩ (cwV 1 hts gX2_letOver_X2_level rfl rfl rfl (by decide +kernel) ⟨by decide, by decide⟩) hP hK hN 0 2 rfl rfl rfl hl.1 rfl (Nat.le_of_ble_eq_true rfl) dX2_letOver_17 ⟨Nat.le_of_ble_eq_true rfl, Nat.le_of_ble_eq_true rfl⟩ (fun r_2 hr_2 => ?_)
  have xr_2 : r_2 = lv (ix (to k)) := by rw [hr_2]; exact sp_level_ok hf2
  subst xr_2
  refine lv_isub hx hb dX2_letOver_20 ?_
  refine lv_istore (lv' := [(5, .int (1000000000 - (lv (ix (to k))))), (4, .int (lv (ix (fr k)))), (0, .ref (F 0)), (1, .ref a), (2, .long v)]) hx hb dX2_letOver_21 hl (by decide) rfl (fun ls hl => ?_)
  refine lv_lconst (v := 0) hx hb dX2_letOver_23 (by decide) ?_
  refine lv_lload_n hx hb dX2_letOver_24 rfl (lv_at hl 4 rfl) ?_
  refine lv_iload hx hb dX2_letOver_25 (lv_at hl 1 rfl) ?_
  refine lv_iload hx hb dX2_letOver_27 (lv_at hl 0 rfl) ?_
  refine va_mmin hx hb (hml.trans hl.1.symm) hown (hts (.methodLink RX2 194 Lib.Math.min.name) (by decide +kernel)) (hts (.static Lib.Math.min.name) (by decide +kernel)) (hts (.initialized "java/lang/Math") (by decide +kernel)) (hts (.code Lib.Math.min.name Lib.Math.min.code 2 (some .int)) (by decide +kernel)) (Nat.le_of_ble_eq_true rfl) (Nat.le_of_ble_eq_true rfl) (Nat.zero_le _) (Nat.zero_le _) dX2_letOver_29 ?_
  refine lv_i2l hx hb dX2_letOver_32 rfl ?_
  refine va_mmin_long hx hb (hml.trans hl.1.symm) hown (hts (.methodLink RX2 123 Lib.MathLoose.min_long.x) (by decide +kernel)) (hts (.static Lib.MathLoose.min_long.x) (by decide +kernel)) (hts (.initialized "java/lang/Math") (by decide +kernel)) (hts (.code Lib.MathLoose.min_long.x Lib.MathLoose.min_long.code 4 (some .long)) (by decide +kernel)) (Nat.le_of_ble_eq_true rfl) (Nat.le_of_ble_eq_true rfl) (Nat.zero_le _) (Nat.zero_le _) dX2_letOver_33 ?_
  refine va_mmax_long hx hb (hml.trans hl.1.symm) hown (hts (.methodLink RX2 129 Lib.MathLoose.max_long.x) (by decide +kernel)) (hts (.static Lib.MathLoose.max_long.x) (by decide +kernel)) (hts (.initialized "java/lang/Math") (by decide +kernel)) (hts (.code Lib.MathLoose.max_long.x Lib.MathLoose.max_long.code 4 (some .long)) (by decide +kernel)) (Nat.le_of_ble_eq_true rfl) (Nat.le_of_ble_eq_true rfl) (Nat.zero_le _) (Nat.zero_le _) dX2_letOver_36 ?_
  refine lv_l2i hx hb dX2_letOver_39 rfl ?_
  refine lv_topi (fun am eam => ?_)
  have eam : am = amt (lv (ix (fr k))) (lv (ix (to k))) v := eam.trans (amt_x (hwl _ (inB_ix hf1)) (hwl _ (inB_ix hf2)))
  subst eam
  refine lv_istore (lv' := [(6, .int (amt (lv (ix (fr k))) (lv (ix (to k))) v)), (5, .int (1000000000 - (lv (ix (to k))))), (4, .int (lv (ix (fr k)))), (0, .ref (F 0)), (1, .ref a), (2, .long v)]) hx hb dX2_letOver_40 hl (by decide) rfl (fun ls hl => ?_)
  refine lv_aload_n hx hb dX2_letOver_42 rfl (lv_at hl 3 rfl) ?_
  refine lv_aload_n hx hb dX2_letOver_43 rfl (lv_at hl 4 rfl) ?_
  refine va_getN (D := D) (ci := 1) (v := .int (fr k)) (C := RX1) (T := TX1) (N := 3) (host := RX2) hx hb hts iw_X2_letOver_X1 hown hK hP p_a e_a rfl 0 (by decide) (nf_188 hN) (fun _ h9 => h9) rfl dX2_letOver_44 ?_
  refine lv_iload hx hb dX2_letOver_47 (lv_at hl 2 rfl) ?_
  refine lv_iload hx hb dX2_letOver_49 (lv_at hl 0 rfl) ?_
  refine lv_isub hx hb dX2_letOver_51 ?_
  refine WrI.callV (As := [.int (fr k), .int ((lv (ix (fr k))) - (amt (lv (ix (fr k))) (lv (ix (to k))) v))]) (rest := []) (c_X2_fill hb8 (fr k) ((lv (ix (fr k))) - (amt (lv (ix (fr k))) (lv (ix (to k))) v))) ⟨hx, hb, hml, hown, hts⟩ (cwV 2 hts gX2_letOver_X2_fill rfl rfl rfl (by decide +kernel) ⟨by decide, by decide⟩) hP hD hS hA hK hN 0 2 rfl rfl rfl hl.1 rfl (Nat.le_of_ble_eq_true rfl) dX2_letOver_52 ⟨Nat.le_of_ble_eq_true rfl, Nat.le_of_ble_eq_true rfl⟩ (fun r_3 ur_3 H locs hr_3 hP hD hS => ?_)
  have xur_3 : ur_3 = upd lv (ix (fr k)) ((lv (ix (fr k))) - (amt (lv (ix (fr k))) (lv (ix (to k))) v)) := (Prod.mk.inj (hr_3.trans (sp_fill_ok hf1 (amt_lo (hwl _ (inB_ix hf1)) (hwl _ (inB_ix hf2)))))).2
  subst xur_3
  have hP : va_P D vwCl (xw F Y (nI b) mn (nI n) (nI sN) (nI st) fl gv fs fb wo (upd lv (ix (fr k)) ((lv (ix (fr k))) - (amt (lv (ix (fr k))) (lv (ix (to k))) v))) sl ru su L f) H := hP
  have hD : va_D (va_A (xw F Y (nI b) mn (nI n) (nI sN) (nI st) fl gv fs fb wo lv sl ru su L f) sz) (xw F Y (nI b) mn (nI n) (nI sN) (nI st) fl gv fs fb wo (upd lv (ix (fr k)) ((lv (ix (fr k))) - (amt (lv (ix (fr k))) (lv (ix (to k))) v))) sl ru su L f) := hD
  obtain ⟨p_a, e_a⟩ : ∃ q : Nat, (xw F Y (nI b) mn (nI n) (nI sN) (nI st) fl gv fs fb wo (upd lv (ix (fr k)) ((lv (ix (fr k))) - (amt (lv (ix (fr k))) (lv (ix (to k))) v))) sl ru su L f)[q]? = some (a, suE fr to rl k) := pl_at hL hf
  refine lv_pop hx hb dX2_letOver_55 rfl ?_
  refine lv_aload_n hx hb dX2_letOver_56 rfl (lv_at hl 3 rfl) ?_
  refine lv_aload_n hx hb dX2_letOver_57 rfl (lv_at hl 4 rfl) ?_
  refine va_getN (D := D) (ci := 1) (v := .int (to k)) (C := RX1) (T := TX1) (N := 3) (host := RX2) hx hb hts iw_X2_letOver_X1 hown hK hP p_a e_a rfl 1 (by decide) (nf_191 hN) (fun _ h9 => h9) rfl dX2_letOver_58 ?_
  refine lv_aload_n hx hb dX2_letOver_61 rfl (lv_at hl 3 rfl) ?_
  refine lv_aload_n hx hb dX2_letOver_62 rfl (lv_at hl 4 rfl) ?_
  refine va_getN (D := D) (ci := 1) (v := .int (to k)) (C := RX1) (T := TX1) (N := 3) (host := RX2) hx hb hts iw_X2_letOver_X1 hown hK hP p_a e_a rfl 1 (by decide) (nf_191 hN) (fun _ h9 => h9) rfl dX2_letOver_63 ?_
  refine RoI.callV (As := [.int (to k)]) (rest := [.int (to k), .ref (F 0)]) (c_X2_level hb8 (to k)) ⟨hx, hb, hml, hown, hts⟩ (cwV 1 hts gX2_letOver_X2_level rfl rfl rfl (by decide +kernel) ⟨by decide, by decide⟩) hP hK hN 0 2 rfl rfl rfl hl.1 rfl (Nat.le_of_ble_eq_true rfl) dX2_letOver_66 ⟨Nat.le_of_ble_eq_true rfl, Nat.le_of_ble_eq_true rfl⟩ (fun r_4 hr_4 => ?_)
  have xr_4 : r_4 = (upd lv (ix (fr k)) ((lv (ix (fr k))) - (amt (lv (ix (fr k))) (lv (ix (to k))) v))) (ix (to k)) := by rw [hr_4]; exact sp_level_ok hf2
  subst xr_4
  refine lv_iload hx hb dX2_letOver_69 (lv_at hl 0 rfl) ?_
  refine lv_iadd hx hb dX2_letOver_71 ?_
  have hne : ¬ ix (to k) = ix (fr k) := fun z => hft (by obtain ⟨j1, g1, e1⟩ := inB_of hf1 (by omega); obtain ⟨j2, g2, e2⟩ := inB_of hf2 (by omega); rw [e1, e2] at z ⊢; rw [show ix (nI j2) = j2 from nI_clamp (by omega), show ix (nI j1) = j1 from nI_clamp (by omega)] at z; rw [z])
  have lvo : lvB (((upd lv (ix (fr k)) ((lv (ix (fr k))) - (amt (lv (ix (fr k))) (lv (ix (to k))) v))) (ix (to k))) + (amt (lv (ix (fr k))) (lv (ix (to k))) v)) = true := by rw [show (upd lv (ix (fr k)) ((lv (ix (fr k))) - (amt (lv (ix (fr k))) (lv (ix (to k))) v))) (ix (to k)) = lv (ix (to k)) from pk_un hne]; exact amt_hi (hwl _ (inB_ix hf1)) (hwl _ (inB_ix hf2))
  refine WrI.callV (As := [.int (to k), .int (((upd lv (ix (fr k)) ((lv (ix (fr k))) - (amt (lv (ix (fr k))) (lv (ix (to k))) v))) (ix (to k))) + (amt (lv (ix (fr k))) (lv (ix (to k))) v))]) (rest := []) (c_X2_fill hb8 (to k) (((upd lv (ix (fr k)) ((lv (ix (fr k))) - (amt (lv (ix (fr k))) (lv (ix (to k))) v))) (ix (to k))) + (amt (lv (ix (fr k))) (lv (ix (to k))) v))) ⟨hx, hb, hml, hown, hts⟩ (cwV 2 hts gX2_letOver_X2_fill rfl rfl rfl (by decide +kernel) ⟨by decide, by decide⟩) hP hD hS hA hK hN 0 2 rfl rfl rfl hl.1 rfl (Nat.le_of_ble_eq_true rfl) dX2_letOver_72 ⟨Nat.le_of_ble_eq_true rfl, Nat.le_of_ble_eq_true rfl⟩ (fun r_5 ur_5 H locs hr_5 hP hD hS => ?_)
  have xur_5 : ur_5 = upd (upd lv (ix (fr k)) ((lv (ix (fr k))) - (amt (lv (ix (fr k))) (lv (ix (to k))) v))) (ix (to k)) (((upd lv (ix (fr k)) ((lv (ix (fr k))) - (amt (lv (ix (fr k))) (lv (ix (to k))) v))) (ix (to k))) + (amt (lv (ix (fr k))) (lv (ix (to k))) v)) := (Prod.mk.inj (hr_5.trans (sp_fill_ok hf2 (lvo)))).2
  subst xur_5
  have hP : va_P D vwCl (xw F Y (nI b) mn (nI n) (nI sN) (nI st) fl gv fs fb wo (upd (upd lv (ix (fr k)) ((lv (ix (fr k))) - (amt (lv (ix (fr k))) (lv (ix (to k))) v))) (ix (to k)) (((upd lv (ix (fr k)) ((lv (ix (fr k))) - (amt (lv (ix (fr k))) (lv (ix (to k))) v))) (ix (to k))) + (amt (lv (ix (fr k))) (lv (ix (to k))) v))) sl ru su L f) H := hP
  have hD : va_D (va_A (xw F Y (nI b) mn (nI n) (nI sN) (nI st) fl gv fs fb wo lv sl ru su L f) sz) (xw F Y (nI b) mn (nI n) (nI sN) (nI st) fl gv fs fb wo (upd (upd lv (ix (fr k)) ((lv (ix (fr k))) - (amt (lv (ix (fr k))) (lv (ix (to k))) v))) (ix (to k)) (((upd lv (ix (fr k)) ((lv (ix (fr k))) - (amt (lv (ix (fr k))) (lv (ix (to k))) v))) (ix (to k))) + (amt (lv (ix (fr k))) (lv (ix (to k))) v))) sl ru su L f) := hD
  obtain ⟨p_a, e_a⟩ : ∃ q : Nat, (xw F Y (nI b) mn (nI n) (nI sN) (nI st) fl gv fs fb wo (upd (upd lv (ix (fr k)) ((lv (ix (fr k))) - (amt (lv (ix (fr k))) (lv (ix (to k))) v))) (ix (to k)) (((upd lv (ix (fr k)) ((lv (ix (fr k))) - (amt (lv (ix (fr k))) (lv (ix (to k))) v))) (ix (to k))) + (amt (lv (ix (fr k))) (lv (ix (to k))) v))) sl ru su L f)[q]? = some (a, suE fr to rl k) := pl_at hL hf
  refine lv_pop hx hb dX2_letOver_75 rfl ?_
  refine lv_iload hx hb dX2_letOver_76 (lv_at hl 0 rfl) ?_
  exact wrI (sp_over lv (ix (fr k)) (ix (to k)) v).2 hx hb hr hlk dX2_letOver_78 hP hD hS rfl

theorem iw_X2_goesWhole_X2 : ∀ w ∈ u_ws RX2 TX2 14, w ∈ wsX2_goesWhole := by decide +kernel
theorem iw_X2_goesWhole_X1 : ∀ w ∈ u_ws RX1 TX1 3, w ∈ wsX2_goesWhole := by decide +kernel
set_option maxRecDepth 100000 in
set_option maxHeartbeats 4000000 in
/-- goesWhole -/
theorem c_X2_goesWhole {l : Launch} {D : va_G} {F : Nat → Nat} {Y : Nat → ClassId} {mn fl : Int32} {gv : Int64} {fs fb wo : Int32} {lv sl : Nat → Int32} {ru su : Nat → Option Nat} {L : List Nat} {f : Nat → va_E} {b n sN st : Nat} {kd pt : Nat → Int32} {he : Nat → Int64} {ct fr to rl : Nat → Int32} (hR : xRel n sN kd pt he ct fr to rl ru su L f) (hn40 : n ≤ 40) (hb8 : b ≤ 8) (hW : wfA b n sl kd pt) (hs8 : sN ≤ 8) (hwl : wfL b lv) (hWS : wfS b n sN fr to rl) (h : Int32) : WrI l yX2_goesWhole wsX2_goesWhole (rk 130) D (xty Y) (xw F Y (nI b) mn (nI n) (nI sN) (nI st) fl gv fs fb wo lv sl ru su L f) [.ref (F 0), .int h] (σ := HS × Int32 × (Nat → va_E)) (fun u => xw F Y (nI b) mn (nI n) (nI sN) (nI u.1.2.2.1) u.2.1 gv u.1.2.2.2.1 u.1.2.2.2.2.1 u.1.2.2.2.2.2 u.1.1 sl ru su L u.2.2) (fun r u => (r, u.1) = (bI (hrS (n, mn, sl, kd, pt, he, fr, to, rl) h sN 0 (lv, ct, st, fs, fb, wo)).1, (hrS (n, mn, sl, kd, pt, he, fr, to, rl) h sN 0 (lv, ct, st, fs, fb, wo)).2) ∧ xRel n sN kd pt he u.1.2.1 fr to rl ru su L u.2.2 ∧ wfL b u.1.1) 0 0 := by
  intro sz
  refine wrEnter (cc := cX2_goesWhole) (maxL := 6) (ret := (some .boolean)) (by decide) rfl (Nat.le_of_ble_eq_true rfl) ?_
  intro p e s m below meth c hx hb hr hml hown hts hlk hP hK hN hsz hD hS hA hin ls hl
  have hown : s.vm.findClass RX2 = some m.cls := hown
  have hl : lv_has ls 6 [(0, .ref (F 0)), (1, .int h)] := hl
  refine lv_iconst (v := 0) hx hb dX2_goesWhole_0 (by decide) ?_
  refine lv_istore_n (lv' := [(2, .int 0), (0, .ref (F 0)), (1, .int h)]) hx hb dX2_goesWhole_1 rfl hl (by decide) rfl (fun ls hl => ?_)
  have loop : ∀ (c2 k2 : Nat) (lv2 ct2 : Nat → Int32) (st2 : Nat) (ts2 tw2 tm2 fl2 : Int32) (f2 : Nat → va_E) (H : Heap) (locs : List Loc) (ls : Array Slot), k2 + c2 = sN → xRel n sN kd pt he ct2 fr to rl ru su L f2 → wfL b lv2 → hrS (n, mn, sl, kd, pt, he, fr, to, rl) h c2 k2 (lv2, ct2, st2, ts2, tw2, tm2) = hrS (n, mn, sl, kd, pt, he, fr, to, rl) h sN 0 (lv, ct, st, fs, fb, wo) → va_P D vwCl (xw F Y (nI b) mn (nI n) (nI sN) (nI st2) fl2 gv ts2 tw2 tm2 lv2 sl ru su L f2) H → va_D (va_A (xw F Y (nI b) mn (nI n) (nI sN) (nI st) fl gv fs fb wo lv sl ru su L f) sz) (xw F Y (nI b) mn (nI n) (nI sN) (nI st2) fl2 gv ts2 tw2 tm2 lv2 sl ru su L f2) → va_S (va_A (xw F Y (nI b) mn (nI n) (nI sN) (nI st) fl gv fs fb wo lv sl ru su L f) sz) s.heap H locs → lv_has ls 6 [(2, .int (nI k2)), (0, .ref (F 0)), (1, .int h)] → W p l e (rk 130) s m ([.ref (F 0), .int h] : List Value).toArray below meth c H locs 0 0 (MQ below (va_Qi (fun r u => (r, u.1) = (bI (hrS (n, mn, sl, kd, pt, he, fr, to, rl) h sN 0 (lv, ct, st, fs, fb, wo)).1, (hrS (n, mn, sl, kd, pt, he, fr, to, rl) h sN 0 (lv, ct, st, fs, fb, wo)).2) ∧ xRel n sN kd pt he u.1.2.1 fr to rl ru su L u.2.2 ∧ wfL b u.1.1) (wrB (σ := HS × Int32 × (Nat → va_E)) D (xw F Y (nI b) mn (nI n) (nI sN) (nI st) fl gv fs fb wo lv sl ru su L f) (fun u => xw F Y (nI b) mn (nI n) (nI sN) (nI u.1.2.2.1) u.2.1 gv u.1.2.2.2.1 u.1.2.2.2.2.1 u.1.2.2.2.2.2 u.1.1 sl ru su L u.2.2) sz) (va_A (xw F Y (nI b) mn (nI n) (nI sN) (nI st) fl gv fs fb wo lv sl ru su L f) sz)) ([.ref (F 0), .int h] : List Value).toArray s 0 0 (va_A (xw F Y (nI b) mn (nI n) (nI sN) (nI st) fl gv fs fb wo lv sl ru su L f) sz)) (F0 m 2 ls []) := by
    intro c2
    induction c2 with
    | zero =>
      intro k2 lv2 ct2 st2 ts2 tw2 tm2 fl2 f2 H locs ls hkc hR2 hwl2 hev hP hD hS hl
      refine lv_iload_n hx hb dX2_goesWhole_2 rfl (lv_at hl 0 rfl) ?_
      refine lv_aload_n hx hb dX2_goesWhole_3 rfl (lv_at hl 1 rfl) ?_
      refine va_get (D := D) (ci := 2) (v := .ref (F 4)) (C := RX2) (T := TX2) (N := 14) hx hb hts iw_X2_goesWhole_X2 hown hK hP 0 rfl rfl 6 (by decide) (hts (.fieldLink RX2 34 "SluiceRules" "sluices" "[LSluiceRules$Sluice;") (by decide +kernel)) (fun _ h9 => h9) rfl dX2_goesWhole_4 ?_
      refine va_alen (v := 8) hx hb hK hP 4 3 rfl rfl rfl dX2_goesWhole_7 ?_
      refine lv_icmp_ge (tgt := 77) hx hb dX2_goesWhole_8 (by decide) (fun c_8 => ?_) (fun c_8 => ?_)
      · refine lv_iconst (v := 1) hx hb dX2_goesWhole_77 (by decide) ?_
        exact wrZ ((lv2, ct2, st2, ts2, tw2, tm2), fl2, f2) hx hb hr hlk dX2_goesWhole_78 nar1 hP hD hS ⟨by rw [← hev]; rfl, hR2, hwl2⟩
      · have k2l : k2 < 8 := by rw [i_le, nI_toInt (by omega)] at c_8; have : (8 : Int32).toInt = 8 := rfl; omega
        refine lv_aload_n hx hb dX2_goesWhole_11 rfl (lv_at hl 1 rfl) ?_
        refine va_get (D := D) (ci := 2) (v := .ref (F 4)) (C := RX2) (T := TX2) (N := 14) hx hb hts iw_X2_goesWhole_X2 hown hK hP 0 rfl rfl 6 (by decide) (hts (.fieldLink RX2 34 "SluiceRules" "sluices" "[LSluiceRules$Sluice;") (by decide +kernel)) (fun _ h9 => h9) rfl dX2_goesWhole_12 ?_
        refine lv_iload_n hx hb dX2_goesWhole_15 rfl (lv_at hl 0 rfl) ?_
        refine my_aldq (j := k2) hx hb hK hP 4 3 rfl rfl (rfl) (k2l) (by decide) dX2_goesWhole_16 ?_
        refine W.eq (g2 := F0 m 17 ls [.null]) (by rw [hR2.2.2.2.2 k2 (by omega) k2l]; rfl) ?_
        refine lv_ifnullN (tgt := 77) hx hb dX2_goesWhole_17 (by decide) ?_
        refine lv_iconst (v := 1) hx hb dX2_goesWhole_77 (by decide) ?_
        exact wrZ ((lv2, ct2, st2, ts2, tw2, tm2), fl2, f2) hx hb hr hlk dX2_goesWhole_78 nar1 hP hD hS ⟨by rw [← hev]; rfl, hR2, hwl2⟩
    | succ c2 ih2 =>
      intro k2 lv2 ct2 st2 ts2 tw2 tm2 fl2 f2 H locs ls hkc hR2 hwl2 hev hP hD hS hl
      have k2l : k2 < 8 := by omega
      obtain ⟨aq9, hsu, la, fa⟩ := hR2.sluice (k := k2) (by omega)
      obtain ⟨hf1, hf2, hft, hf3⟩ := hWS k2 (by omega)
      obtain ⟨p_a, e_a⟩ : ∃ q : Nat, (xw F Y (nI b) mn (nI n) (nI sN) (nI st2) fl2 gv ts2 tw2 tm2 lv2 sl ru su L f2)[q]? = some (aq9, suE fr to rl k2) := pl_at la fa
      have hne : ¬ ix (to k2) = ix (fr k2) := fun z => hft (by obtain ⟨j1, g1, e1⟩ := inB_of hf1 (by omega); obtain ⟨j2, g2, e2⟩ := inB_of hf2 (by omega); rw [e1, e2] at z ⊢; rw [show ix (nI j2) = j2 from nI_clamp (by omega), show ix (nI j1) = j1 from nI_clamp (by omega)] at z; rw [z])
      refine lv_iload_n hx hb dX2_goesWhole_2 rfl (lv_at hl 0 rfl) ?_
      refine lv_aload_n hx hb dX2_goesWhole_3 rfl (lv_at hl 1 rfl) ?_
      refine va_get (D := D) (ci := 2) (v := .ref (F 4)) (C := RX2) (T := TX2) (N := 14) hx hb hts iw_X2_goesWhole_X2 hown hK hP 0 rfl rfl 6 (by decide) (hts (.fieldLink RX2 34 "SluiceRules" "sluices" "[LSluiceRules$Sluice;") (by decide +kernel)) (fun _ h9 => h9) rfl dX2_goesWhole_4 ?_
      refine va_alen (v := 8) hx hb hK hP 4 3 rfl rfl rfl dX2_goesWhole_7 ?_
      refine lv_icmp_ge (tgt := 77) hx hb dX2_goesWhole_8 (by decide) (fun c_8 => ?_) (fun c_8 => ?_)
      · exact absurd (show (8 : Int32) ≤ nI k2 from c_8) (nI_ge (b := 8) (by omega) (by omega))
      · refine lv_aload_n hx hb dX2_goesWhole_11 rfl (lv_at hl 1 rfl) ?_
        refine va_get (D := D) (ci := 2) (v := .ref (F 4)) (C := RX2) (T := TX2) (N := 14) hx hb hts iw_X2_goesWhole_X2 hown hK hP 0 rfl rfl 6 (by decide) (hts (.fieldLink RX2 34 "SluiceRules" "sluices" "[LSluiceRules$Sluice;") (by decide +kernel)) (fun _ h9 => h9) rfl dX2_goesWhole_12 ?_
        refine lv_iload_n hx hb dX2_goesWhole_15 rfl (lv_at hl 0 rfl) ?_
        refine my_aldq (j := k2) hx hb hK hP 4 3 rfl rfl (rfl) (k2l) (by decide) dX2_goesWhole_16 ?_
        refine W.eq (g2 := F0 m 17 ls [.ref aq9]) (by rw [hsu]; rfl) ?_
        refine lv_ifnull hx hb dX2_goesWhole_17 ?_
        refine lv_aload_n hx hb dX2_goesWhole_20 rfl (lv_at hl 1 rfl) ?_
        refine va_get (D := D) (ci := 2) (v := .ref (F 4)) (C := RX2) (T := TX2) (N := 14) hx hb hts iw_X2_goesWhole_X2 hown hK hP 0 rfl rfl 6 (by decide) (hts (.fieldLink RX2 34 "SluiceRules" "sluices" "[LSluiceRules$Sluice;") (by decide +kernel)) (fun _ h9 => h9) rfl dX2_goesWhole_21 ?_
        refine lv_iload_n hx hb dX2_goesWhole_24 rfl (lv_at hl 0 rfl) ?_
        refine my_aldq (j := k2) hx hb hK hP 4 3 rfl rfl (rfl) (k2l) (by decide) dX2_goesWhole_25 ?_
        refine W.eq (g2 := F0 m 26 ls [.ref aq9]) (by rw [hsu]; rfl) ?_
        refine lv_astore_n (lv' := [(3, .ref aq9), (2, .int (nI k2)), (0, .ref (F 0)), (1, .int h)]) hx hb dX2_goesWhole_26 rfl hl (by decide) rfl (fun ls hl => ?_)
        refine lv_aload_n hx hb dX2_goesWhole_27 rfl (lv_at hl 2 rfl) ?_
        refine lv_aload_n hx hb dX2_goesWhole_28 rfl (lv_at hl 0 rfl) ?_
        refine va_getN (D := D) (ci := 1) (v := .int (rl k2)) (C := RX1) (T := TX1) (N := 3) (host := RX2) hx hb hts iw_X2_goesWhole_X1 hown hK hP p_a e_a rfl 2 (by decide) (nf_181 hN) (fun _ h9 => h9) rfl dX2_goesWhole_29 ?_
        refine lv_iload_n hx hb dX2_goesWhole_32 rfl (lv_at hl 3 rfl) ?_
        refine WrL.callV (As := [.int (rl k2), .int h]) (rest := []) (c_X2_askByCall hR2 hn40 hb8 hW (rl k2) h) ⟨hx, hb, hml, hown, hts⟩ (cwV 2 hts gX2_goesWhole_X2_askByCall rfl rfl rfl (by decide +kernel) ⟨by decide, by decide⟩) hP hD hS hA hK hN 0 2 rfl rfl rfl hl.1 rfl (Nat.le_of_ble_eq_true rfl) dX2_goesWhole_33 ⟨Nat.le_of_ble_eq_true rfl, Nat.le_of_ble_eq_true rfl⟩ (fun r_1 ur_1 H locs hr_1 hP hD hS => ?_)
        obtain ⟨⟨st_3, fl_3, ct_3⟩, f_3⟩ := ur_1
        obtain ⟨e_3, hR_3⟩ := hr_1
        have e_3 : (r_1, (st_3, fl_3, ct_3)) = ev (n, mn, lv2, sl, kd, pt, he) 120 (rl k2) h (0, 0, ct2) := e_3
        have hR_3 : xRel n sN kd pt he ct_3 fr to rl ru su L f_3 := hR_3
        have hP : va_P D vwCl (xw F Y (nI b) mn (nI n) (nI sN) (nI st_3) fl_3 gv ts2 tw2 tm2 lv2 sl ru su L f_3) H := hP
        have hD : va_D (va_A (xw F Y (nI b) mn (nI n) (nI sN) (nI st) fl gv fs fb wo lv sl ru su L f) sz) (xw F Y (nI b) mn (nI n) (nI sN) (nI st_3) fl_3 gv ts2 tw2 tm2 lv2 sl ru su L f_3) := hD
        obtain ⟨a3, hsu3, la3, fa3⟩ := hR_3.sluice (k := k2) (by omega)
        have ea3 : aq9 = a3 := Option.some.inj (hsu.symm.trans hsu3)
        subst ea3
        refine lv_lstore (lv' := [(4, .long r_1), (3, .ref aq9), (2, .int (nI k2)), (0, .ref (F 0)), (1, .int h)]) hx hb dX2_goesWhole_36 hl (by decide) rfl (fun ls hl => ?_)
        refine lv_aload_n hx hb dX2_goesWhole_38 rfl (lv_at hl 3 rfl) ?_
        refine va_get (D := D) (ci := 2) (v := .int fl_3) (C := RX2) (T := TX2) (N := 14) hx hb hts iw_X2_goesWhole_X2 hown hK hP 0 rfl rfl 9 (by decide) (hts (.fieldLink RX2 44 "SluiceRules" "failure" "I") (by decide +kernel)) (fun _ h9 => h9) rfl dX2_goesWhole_39 ?_
        refine lv_if_eq (tgt := 60) hx hb dX2_goesWhole_42 (by decide) (fun c_42 => ?_) (fun c_42 => ?_)
        · refine lv_aload_n hx hb dX2_goesWhole_60 rfl (lv_at hl 3 rfl) ?_
          refine lv_aload_n hx hb dX2_goesWhole_61 rfl (lv_at hl 3 rfl) ?_
          refine lv_aload_n hx hb dX2_goesWhole_62 rfl (lv_at hl 1 rfl) ?_
          refine lv_lload hx hb dX2_goesWhole_63 (lv_at hl 0 rfl) ?_
          refine WrI.callV (As := [.ref aq9, .long r_1]) (rest := [.ref (F 0)]) (c_X2_letOver (sN := sN) hb8 la3 fa3 hf1 hf2 hft hwl2 r_1) ⟨hx, hb, hml, hown, hts⟩ (cwV 2 hts gX2_goesWhole_X2_letOver rfl rfl rfl (by decide +kernel) ⟨by decide, by decide⟩) hP hD hS hA hK hN 0 2 rfl rfl rfl hl.1 rfl (Nat.le_of_ble_eq_true rfl) dX2_goesWhole_65 ⟨Nat.le_of_ble_eq_true rfl, Nat.le_of_ble_eq_true rfl⟩ (fun r_2 ur_2 H locs hr_2 hP hD hS => ?_)
          have xr := (Prod.mk.inj hr_2).1
          have xu := (Prod.mk.inj hr_2).2
          have hP : va_P D vwCl (xw F Y (nI b) mn (nI n) (nI sN) (nI st_3) fl_3 gv ts2 tw2 tm2 ur_2 sl ru su L f_3) H := hP
          have hD : va_D (va_A (xw F Y (nI b) mn (nI n) (nI sN) (nI st) fl gv fs fb wo lv sl ru su L f) sz) (xw F Y (nI b) mn (nI n) (nI sN) (nI st_3) fl_3 gv ts2 tw2 tm2 ur_2 sl ru su L f_3) := hD
          refine va_put (D := D) (ci := 2) (v := .int r_2) (ty := .int) (C := RX2) (T := TX2) (N := 14) hx hb hts iw_X2_goesWhole_X2 tyX2 tyX2_ok nmX2 hown hK hP hD hS 0 rfl rfl 13 (by decide) (hts (.fieldLink RX2 57 "SluiceRules" "wentOver" "I") (by decide +kernel)) (fun _ h9 => h9) rfl (by decide +kernel) rfl rfl (Nat.le_of_ble_eq_true rfl) dX2_goesWhole_68 (fun H locs hP hD hS => ?_)
          have hP : va_P D vwCl (xw F Y (nI b) mn (nI n) (nI sN) (nI st_3) fl_3 gv ts2 tw2 r_2 ur_2 sl ru su L f_3) H := hP
          have hD : va_D (va_A (xw F Y (nI b) mn (nI n) (nI sN) (nI st) fl gv fs fb wo lv sl ru su L f) sz) (xw F Y (nI b) mn (nI n) (nI sN) (nI st_3) fl_3 gv ts2 tw2 r_2 ur_2 sl ru su L f_3) := hD
          refine lv_iinc (v := (nI k2) + 1) (lv' := [(2, .int ((nI k2) + 1)), (4, .long r_1), (3, .ref aq9), (0, .ref (F 0)), (1, .int h)]) hx hb dX2_goesWhole_71 hl (k := 2) rfl rfl (by decide) rfl (fun ls hl => ?_)
          refine lv_goto (tgt := 2) hx hb dX2_goesWhole_74 (by decide) ?_
          have hfl := flS_t (st := st2) (fr := fr) (to := to) (ts := ts2) (tw := tw2) (tm := tm2) e_3 c_42
          refine ih2 (k2 + 1) ur_2 ct_3 st_3 ts2 tw2 r_2 fl_3 f_3 _ _ _ (by omega) hR_3 (by rw [xu]; exact over_wfL hwl2 (inB_ix hf1) (inB_ix hf2) hne) ?_ hP hD hS (lv_sub (l' := [(2, .int (nI (k2 + 1))), (0, .ref (F 0)), (1, .int h)]) hl [0, 3, 4] (by rw [← nI_1]; rfl))
          rw [← hev, hrS_t hfl, xr, xu]
          rfl
        · refine lv_aload_n hx hb dX2_goesWhole_45 rfl (lv_at hl 3 rfl) ?_
          refine lv_iload_n hx hb dX2_goesWhole_46 rfl (lv_at hl 2 rfl) ?_
          refine va_put (D := D) (ci := 2) (v := .int (nI k2)) (ty := .int) (C := RX2) (T := TX2) (N := 14) hx hb hts iw_X2_goesWhole_X2 tyX2 tyX2_ok nmX2 hown hK hP hD hS 0 rfl rfl 11 (by decide) (hts (.fieldLink RX2 51 "SluiceRules" "failedSluice" "I") (by decide +kernel)) (fun _ h9 => h9) rfl (by decide +kernel) rfl rfl (Nat.le_of_ble_eq_true rfl) dX2_goesWhole_47 (fun H locs hP hD hS => ?_)
          have hP : va_P D vwCl (xw F Y (nI b) mn (nI n) (nI sN) (nI st_3) fl_3 gv (nI k2) tw2 tm2 lv2 sl ru su L f_3) H := hP
          have hD : va_D (va_A (xw F Y (nI b) mn (nI n) (nI sN) (nI st) fl gv fs fb wo lv sl ru su L f) sz) (xw F Y (nI b) mn (nI n) (nI sN) (nI st_3) fl_3 gv (nI k2) tw2 tm2 lv2 sl ru su L f_3) := hD
          refine lv_aload_n hx hb dX2_goesWhole_50 rfl (lv_at hl 3 rfl) ?_
          refine lv_aload_n hx hb dX2_goesWhole_51 rfl (lv_at hl 3 rfl) ?_
          refine va_get (D := D) (ci := 2) (v := .int fl_3) (C := RX2) (T := TX2) (N := 14) hx hb hts iw_X2_goesWhole_X2 hown hK hP 0 rfl rfl 9 (by decide) (hts (.fieldLink RX2 44 "SluiceRules" "failure" "I") (by decide +kernel)) (fun _ h9 => h9) rfl dX2_goesWhole_52 ?_
          refine va_put (D := D) (ci := 2) (v := .int fl_3) (ty := .int) (C := RX2) (T := TX2) (N := 14) hx hb hts iw_X2_goesWhole_X2 tyX2 tyX2_ok nmX2 hown hK hP hD hS 0 rfl rfl 12 (by decide) (hts (.fieldLink RX2 54 "SluiceRules" "failedBy" "I") (by decide +kernel)) (fun _ h9 => h9) rfl (by decide +kernel) rfl rfl (Nat.le_of_ble_eq_true rfl) dX2_goesWhole_55 (fun H locs hP hD hS => ?_)
          have hP : va_P D vwCl (xw F Y (nI b) mn (nI n) (nI sN) (nI st_3) fl_3 gv (nI k2) fl_3 tm2 lv2 sl ru su L f_3) H := hP
          have hD : va_D (va_A (xw F Y (nI b) mn (nI n) (nI sN) (nI st) fl gv fs fb wo lv sl ru su L f) sz) (xw F Y (nI b) mn (nI n) (nI sN) (nI st_3) fl_3 gv (nI k2) fl_3 tm2 lv2 sl ru su L f_3) := hD
          refine lv_iconst (v := 0) hx hb dX2_goesWhole_58 (by decide) ?_
          have hfl := flS_f (st := st2) (fr := fr) (to := to) (ts := ts2) (tw := tw2) (tm := tm2) e_3 c_42
          exact wrZ ((lv2, ct_3, st_3, nI k2, fl_3, tm2), fl_3, f_3) hx hb hr hlk dX2_goesWhole_59 nar0 hP hD hS ⟨by rw [← hev, hrS_f hfl]; rfl, hR_3, hwl2⟩
  exact loop sN 0 lv ct st fs fb wo fl f _ _ ls (by omega) hR hwl rfl hP hD hS (lv_sub (l' := [(2, .int (nI 0)), (0, .ref (F 0)), (1, .int h)]) hl [0, 1, 2] (by rw [nI_0]; rfl))

theorem iw_X2_run_X2 : ∀ w ∈ u_ws RX2 TX2 14, w ∈ wsX2_run := by decide +kernel
set_option maxRecDepth 100000 in
set_option maxHeartbeats 4000000 in
/-- run -/
theorem c_X2_run {l : Launch} {D : va_G} {F : Nat → Nat} {Y : Nat → ClassId} {mn fl : Int32} {gv : Int64} {fs fb wo : Int32} {lv sl : Nat → Int32} {ru su : Nat → Option Nat} {L : List Nat} {f : Nat → va_E} {b n sN st : Nat} {kd pt : Nat → Int32} {he : Nat → Int64} {ct fr to rl : Nat → Int32} (hR : xRel n sN kd pt he ct fr to rl ru su L f) (hn40 : n ≤ 40) (hb8 : b ≤ 8) (hW : wfA b n sl kd pt) (hs8 : sN ≤ 8) (hwl : wfL b lv) (hWS : wfS b n sN fr to rl) (h c_ : Int32) : WrI l yX2_run wsX2_run (rk 131) D (xty Y) (xw F Y (nI b) mn (nI n) (nI sN) (nI st) fl gv fs fb wo lv sl ru su L f) [.ref (F 0), .int h, .int c_] (σ := HS × Int32 × (Nat → va_E)) (fun u => xw F Y (nI b) mn (nI n) (nI sN) (nI u.1.2.2.1) u.2.1 gv u.1.2.2.2.1 u.1.2.2.2.2.1 u.1.2.2.2.2.2 u.1.1 sl ru su L u.2.2) (fun r u => (r, u.1) = sp_run (n, mn, sl, kd, pt, he, fr, to, rl) sN h c_ (lv, ct, st, fs, fb, wo) ∧ xRel n sN kd pt he u.1.2.1 fr to rl ru su L u.2.2 ∧ wfL b u.1.1) 0 0 := by
  intro sz
  refine wrEnter (cc := cX2_run) (maxL := 4) (ret := (some .int)) (by decide) rfl (Nat.le_of_ble_eq_true rfl) ?_
  intro p e s m below meth c hx hb hr hml hown hts hlk hP hK hN hsz hD hS hA hin ls hl
  have hown : s.vm.findClass RX2 = some m.cls := hown
  have hl : lv_has ls 4 [(0, .ref (F 0)), (1, .int h), (2, .int c_)] := hl
  refine lv_iload_n hx hb dX2_run_0 rfl (lv_at hl 2 rfl) ?_
  refine lv_if_lt (tgt := 10) hx hb dX2_run_1 (by decide) (fun c_1 => ?_) (fun c_1 => ?_)
  · refine lv_bipush (v := (-102)) hx hb dX2_run_10 (by decide) ?_
    exact wrI ((lv, ct, st, fs, fb, wo), fl, f) hx hb hr hlk dX2_run_12 hP hD hS ⟨by rw [sp_run, if_neg (by rw [inB_lo c_1]; exact Bool.false_ne_true)], hR, hwl⟩
  · refine lv_iload_n hx hb dX2_run_4 rfl (lv_at hl 2 rfl) ?_
    refine lv_bipush (v := 100) hx hb dX2_run_5 (by decide) ?_
    refine lv_icmp_le (tgt := 13) hx hb dX2_run_7 (by decide) (fun c_7 => ?_) (fun c_7 => ?_)
    · have b_c : inB c_ 101 = true := inB_in (n := 101) (by decide) c_1 (fun z => by rw [i_le] at c_7 z; have z1 : (100 : Int32).toInt = 100 := rfl; have z2 : (nI 101).toInt = 101 := rfl; omega)
      refine lv_aload_n hx hb dX2_run_13 rfl (lv_at hl 0 rfl) ?_
      refine lv_iconst (v := (-1)) hx hb dX2_run_14 (by decide) ?_
      refine va_put (D := D) (ci := 2) (v := .int (-1)) (ty := .int) (C := RX2) (T := TX2) (N := 14) hx hb hts iw_X2_run_X2 tyX2 tyX2_ok nmX2 hown hK hP hD hS 0 rfl rfl 11 (by decide) (hts (.fieldLink RX2 51 "SluiceRules" "failedSluice" "I") (by decide +kernel)) (fun _ h9 => h9) rfl (by decide +kernel) rfl rfl (Nat.le_of_ble_eq_true rfl) dX2_run_15 (fun H locs hP hD hS => ?_)
      have hP : va_P D vwCl (xw F Y (nI b) mn (nI n) (nI sN) (nI st) fl gv (-1) fb wo lv sl ru su L f) H := hP
      have hD : va_D (va_A (xw F Y (nI b) mn (nI n) (nI sN) (nI st) fl gv fs fb wo lv sl ru su L f) sz) (xw F Y (nI b) mn (nI n) (nI sN) (nI st) fl gv (-1) fb wo lv sl ru su L f) := hD
      refine lv_aload_n hx hb dX2_run_18 rfl (lv_at hl 0 rfl) ?_
      refine lv_iconst (v := 0) hx hb dX2_run_19 (by decide) ?_
      refine va_put (D := D) (ci := 2) (v := .int 0) (ty := .int) (C := RX2) (T := TX2) (N := 14) hx hb hts iw_X2_run_X2 tyX2 tyX2_ok nmX2 hown hK hP hD hS 0 rfl rfl 12 (by decide) (hts (.fieldLink RX2 54 "SluiceRules" "failedBy" "I") (by decide +kernel)) (fun _ h9 => h9) rfl (by decide +kernel) rfl rfl (Nat.le_of_ble_eq_true rfl) dX2_run_20 (fun H locs hP hD hS => ?_)
      have hP : va_P D vwCl (xw F Y (nI b) mn (nI n) (nI sN) (nI st) fl gv (-1) 0 wo lv sl ru su L f) H := hP
      have hD : va_D (va_A (xw F Y (nI b) mn (nI n) (nI sN) (nI st) fl gv fs fb wo lv sl ru su L f) sz) (xw F Y (nI b) mn (nI n) (nI sN) (nI st) fl gv (-1) 0 wo lv sl ru su L f) := hD
      refine lv_aload_n hx hb dX2_run_23 rfl (lv_at hl 0 rfl) ?_
      refine lv_iconst (v := 0) hx hb dX2_run_24 (by decide) ?_
      refine va_put (D := D) (ci := 2) (v := .int 0) (ty := .int) (C := RX2) (T := TX2) (N := 14) hx hb hts iw_X2_run_X2 tyX2 tyX2_ok nmX2 hown hK hP hD hS 0 rfl rfl 13 (by decide) (hts (.fieldLink RX2 57 "SluiceRules" "wentOver" "I") (by decide +kernel)) (fun _ h9 => h9) rfl (by decide +kernel) rfl rfl (Nat.le_of_ble_eq_true rfl) dX2_run_25 (fun H locs hP hD hS => ?_)
      have hP : va_P D vwCl (xw F Y (nI b) mn (nI n) (nI sN) (nI st) fl gv (-1) 0 0 lv sl ru su L f) H := hP
      have hD : va_D (va_A (xw F Y (nI b) mn (nI n) (nI sN) (nI st) fl gv fs fb wo lv sl ru su L f) sz) (xw F Y (nI b) mn (nI n) (nI sN) (nI st) fl gv (-1) 0 0 lv sl ru su L f) := hD
      refine lv_iconst (v := 0) hx hb dX2_run_28 (by decide) ?_
      refine lv_istore_n (lv' := [(3, .int 0), (0, .ref (F 0)), (1, .int h), (2, .int c_)]) hx hb dX2_run_29 rfl hl (by decide) rfl (fun ls hl => ?_)
      obtain ⟨cn, hcn, ecn⟩ := inB_of b_c (by decide)
      have hixc : ix c_ = cn := by rw [ecn]; exact nI_clamp (by omega)
      have hspec : sp_run (n, mn, sl, kd, pt, he, fr, to, rl) sN h c_ (lv, ct, st, fs, fb, wo) = (nI (rnS (n, mn, sl, kd, pt, he, fr, to, rl) sN h cn 0 (lv, ct, st, -1, 0, 0)).1, (rnS (n, mn, sl, kd, pt, he, fr, to, rl) sN h cn 0 (lv, ct, st, -1, 0, 0)).2) := by rw [sp_run, if_pos b_c, hixc]
      have loop : ∀ (c2 k2 : Nat) (lv2 ct2 : Nat → Int32) (st2 : Nat) (ts2 tw2 tm2 fl2 : Int32) (f2 : Nat → va_E) (H : Heap) (locs : List Loc) (ls : Array Slot), k2 + c2 = cn → xRel n sN kd pt he ct2 fr to rl ru su L f2 → wfL b lv2 → rnS (n, mn, sl, kd, pt, he, fr, to, rl) sN h c2 k2 (lv2, ct2, st2, ts2, tw2, tm2) = rnS (n, mn, sl, kd, pt, he, fr, to, rl) sN h cn 0 (lv, ct, st, -1, 0, 0) → va_P D vwCl (xw F Y (nI b) mn (nI n) (nI sN) (nI st2) fl2 gv ts2 tw2 tm2 lv2 sl ru su L f2) H → va_D (va_A (xw F Y (nI b) mn (nI n) (nI sN) (nI st) fl gv fs fb wo lv sl ru su L f) sz) (xw F Y (nI b) mn (nI n) (nI sN) (nI st2) fl2 gv ts2 tw2 tm2 lv2 sl ru su L f2) → va_S (va_A (xw F Y (nI b) mn (nI n) (nI sN) (nI st) fl gv fs fb wo lv sl ru su L f) sz) s.heap H locs → lv_has ls 4 [(3, .int (nI k2)), (0, .ref (F 0)), (1, .int h), (2, .int c_)] → W p l e (rk 131) s m ([.ref (F 0), .int h, .int c_] : List Value).toArray below meth c H locs 0 0 (MQ below (va_Qi (fun r u => (r, u.1) = sp_run (n, mn, sl, kd, pt, he, fr, to, rl) sN h c_ (lv, ct, st, fs, fb, wo) ∧ xRel n sN kd pt he u.1.2.1 fr to rl ru su L u.2.2 ∧ wfL b u.1.1) (wrB (σ := HS × Int32 × (Nat → va_E)) D (xw F Y (nI b) mn (nI n) (nI sN) (nI st) fl gv fs fb wo lv sl ru su L f) (fun u => xw F Y (nI b) mn (nI n) (nI sN) (nI u.1.2.2.1) u.2.1 gv u.1.2.2.2.1 u.1.2.2.2.2.1 u.1.2.2.2.2.2 u.1.1 sl ru su L u.2.2) sz) (va_A (xw F Y (nI b) mn (nI n) (nI sN) (nI st) fl gv fs fb wo lv sl ru su L f) sz)) ([.ref (F 0), .int h, .int c_] : List Value).toArray s 0 0 (va_A (xw F Y (nI b) mn (nI n) (nI sN) (nI st) fl gv fs fb wo lv sl ru su L f) sz)) (F0 m 30 ls []) := by
        intro c2
        induction c2 with
        | zero =>
          intro k2 lv2 ct2 st2 ts2 tw2 tm2 fl2 f2 H locs ls hkc hR2 hwl2 hev hP hD hS hl
          refine lv_iload_n hx hb dX2_run_30 rfl (lv_at hl 0 rfl) ?_
          refine lv_iload_n hx hb dX2_run_31 rfl (lv_at hl 3 rfl) ?_
          refine lv_icmp_ge (tgt := 53) hx hb dX2_run_32 (by decide) (fun c_32 => ?_) (fun c_32 => ?_)
          · refine lv_iload_n hx hb dX2_run_53 rfl (lv_at hl 3 rfl) ?_
            exact wrI ((lv2, ct2, st2, ts2, tw2, tm2), fl2, f2) hx hb hr hlk dX2_run_54 hP hD hS ⟨by rw [hspec, ← hev, ecn, show cn = k2 by omega]; rfl, hR2, hwl2⟩
          · exact absurd (show nI k2 ≥ c_ by rw [ecn, show k2 = cn by omega]; exact Int32.le_refl _) c_32
        | succ c2 ih2 =>
          intro k2 lv2 ct2 st2 ts2 tw2 tm2 fl2 f2 H locs ls hkc hR2 hwl2 hev hP hD hS hl
          refine lv_iload_n hx hb dX2_run_30 rfl (lv_at hl 0 rfl) ?_
          refine lv_iload_n hx hb dX2_run_31 rfl (lv_at hl 3 rfl) ?_
          refine lv_icmp_ge (tgt := 53) hx hb dX2_run_32 (by decide) (fun c_32 => ?_) (fun c_32 => ?_)
          · exact absurd (show c_ ≤ nI k2 from c_32) (by rw [ecn]; exact nI_ge (by omega) (by omega))
          · refine lv_aload_n hx hb dX2_run_35 rfl (lv_at hl 1 rfl) ?_
            refine lv_iload_n hx hb dX2_run_36 rfl (lv_at hl 2 rfl) ?_
            refine lv_iload_n hx hb dX2_run_37 rfl (lv_at hl 0 rfl) ?_
            refine lv_iadd hx hb dX2_run_38 ?_
            refine WrI.callV (As := [.int (h + (nI k2))]) (rest := []) (c_X2_goesWhole hR2 hn40 hb8 hW hs8 hwl2 hWS (h + (nI k2))) ⟨hx, hb, hml, hown, hts⟩ (cwV 1 hts gX2_run_X2_goesWhole rfl rfl rfl (by decide +kernel) ⟨by decide, by decide⟩) hP hD hS hA hK hN 0 2 rfl rfl rfl hl.1 rfl (Nat.le_of_ble_eq_true rfl) dX2_run_39 ⟨Nat.le_of_ble_eq_true rfl, Nat.le_of_ble_eq_true rfl⟩ (fun r_1 ur_1 H locs hr_1 hP hD hS => ?_)
            obtain ⟨⟨lv_3, ct_3, st_3, ts_3, tw_3, tm_3⟩, fl_3, f_3⟩ := ur_1
            obtain ⟨e_3, hR_3, hwl_3⟩ := hr_1
            have hR_3 : xRel n sN kd pt he ct_3 fr to rl ru su L f_3 := hR_3
            have hwl_3 : wfL b lv_3 := hwl_3
            have x_3 := (Prod.mk.inj e_3).1
            have y_3 := (Prod.mk.inj e_3).2
            have y_3 : (lv_3, ct_3, st_3, ts_3, tw_3, tm_3) = (hrS (n, mn, sl, kd, pt, he, fr, to, rl) (h + nI k2) sN 0 (lv2, ct2, st2, ts2, tw2, tm2)).2 := y_3
            have hP : va_P D vwCl (xw F Y (nI b) mn (nI n) (nI sN) (nI st_3) fl_3 gv ts_3 tw_3 tm_3 lv_3 sl ru su L f_3) H := hP
            have hD : va_D (va_A (xw F Y (nI b) mn (nI n) (nI sN) (nI st) fl gv fs fb wo lv sl ru su L f) sz) (xw F Y (nI b) mn (nI n) (nI sN) (nI st_3) fl_3 gv ts_3 tw_3 tm_3 lv_3 sl ru su L f_3) := hD
            refine lv_if_ne (tgt := 47) hx hb dX2_run_42 (by decide) (fun c_42 => ?_) (fun c_42 => ?_)
            · have b_42 : (hrS (n, mn, sl, kd, pt, he, fr, to, rl) (h + nI k2) sN 0 (lv2, ct2, st2, ts2, tw2, tm2)).1 = true := bI_n (by rw [← x_3]; exact c_42)
              refine lv_iinc (v := (nI k2) + 1) (lv' := [(3, .int ((nI k2) + 1)), (0, .ref (F 0)), (1, .int h), (2, .int c_)]) hx hb dX2_run_47 hl (k := 0) rfl rfl (by decide) rfl (fun ls hl => ?_)
              refine lv_goto (tgt := 30) hx hb dX2_run_50 (by decide) ?_
              have hfl : hrS (n, mn, sl, kd, pt, he, fr, to, rl) (h + nI k2) sN 0 (lv2, ct2, st2, ts2, tw2, tm2) = (true, (lv_3, ct_3, st_3, ts_3, tw_3, tm_3)) := Prod.ext b_42 y_3.symm
              refine ih2 (k2 + 1) lv_3 ct_3 st_3 ts_3 tw_3 tm_3 fl_3 f_3 _ _ _ (by omega) hR_3 hwl_3 ?_ hP hD hS (lv_sub (l' := [(3, .int (nI (k2 + 1))), (0, .ref (F 0)), (1, .int h), (2, .int c_)]) hl [0, 1, 2, 3] (by rw [← nI_1]; rfl))
              rw [← hev, rnS_t hfl]
            · have b_42 : (hrS (n, mn, sl, kd, pt, he, fr, to, rl) (h + nI k2) sN 0 (lv2, ct2, st2, ts2, tw2, tm2)).1 = false := bI_z (by rw [← x_3]; exact c_42)
              refine lv_iload_n hx hb dX2_run_45 rfl (lv_at hl 0 rfl) ?_
              have hfl : hrS (n, mn, sl, kd, pt, he, fr, to, rl) (h + nI k2) sN 0 (lv2, ct2, st2, ts2, tw2, tm2) = (false, (lv_3, ct_3, st_3, ts_3, tw_3, tm_3)) := Prod.ext b_42 y_3.symm
              exact wrI ((lv_3, ct_3, st_3, ts_3, tw_3, tm_3), fl_3, f_3) hx hb hr hlk dX2_run_46 hP hD hS ⟨by rw [hspec, ← hev, rnS_f hfl], hR_3, hwl_3⟩
      exact loop cn 0 lv ct st (-1) 0 0 fl f _ _ ls (by omega) hR hwl rfl hP hD hS (lv_sub (l' := [(3, .int (nI 0)), (0, .ref (F 0)), (1, .int h), (2, .int c_)]) hl [0, 1, 2, 3] (by rw [nI_0]; rfl))
    · refine lv_bipush (v := (-102)) hx hb dX2_run_10 (by decide) ?_
      exact wrI ((lv, ct, st, fs, fb, wo), fl, f) hx hb hr hlk dX2_run_12 hP hD hS ⟨by rw [sp_run, if_neg (by rw [inB_hi (n := 101) (by decide) (by rw [i_le] at c_7 ⊢; have z1 : (100 : Int32).toInt = 100 := rfl; have z2 : (nI 101).toInt = 101 := rfl; omega)]; exact Bool.false_ne_true)], hR, hwl⟩
