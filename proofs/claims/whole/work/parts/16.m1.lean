/-! the reference: what is asked and set, without the machine -/
set_option maxRecDepth 100000 in
set_option maxHeartbeats 4000000 in
/-- in -/
theorem c_X3_in {l : Launch} {D : va_G} {tys : List (ClassId × FieldType)} {w : va_W} (x lo_ hi_ : Int32) : RoI l yX3_in wsX3_in (rk 0) D (tys) (w) [.int x, .int lo_, .int hi_] (fun r => r = bI (rgB x lo_ hi_)) := by
  refine roEnter (cc := cX3_in) (maxL := 3) (ret := (some .boolean)) (by decide) rfl (Nat.le_of_ble_eq_true rfl) ?_
  intro p e s m below meth c hx hb hr hml hown hts hlk hP hK hN ls hl
  have hown : s.vm.findClass RX3 = some m.cls := hown
  have hl : lv_has ls 3 [(0, .int x), (1, .int lo_), (2, .int hi_)] := hl
  refine lv_iload_n hx hb dX3_in_0 rfl (lv_at hl 0 rfl) ?_
  refine lv_iload_n hx hb dX3_in_1 rfl (lv_at hl 1 rfl) ?_
  refine lv_icmp_lt (tgt := 14) hx hb dX3_in_2 (by decide) (fun c_2 => ?_) (fun c_2 => ?_)
  · refine lv_iconst (v := 0) hx hb dX3_in_14 (by decide) ?_
    exact roZ hx hb hr hlk dX3_in_15 (nar0) (by rw [rgB_lt c_2]; rfl)
  · refine lv_iload_n hx hb dX3_in_5 rfl (lv_at hl 0 rfl) ?_
    refine lv_iload_n hx hb dX3_in_6 rfl (lv_at hl 2 rfl) ?_
    refine lv_icmp_gt (tgt := 14) hx hb dX3_in_7 (by decide) (fun c_7 => ?_) (fun c_7 => ?_)
    · refine lv_iconst (v := 0) hx hb dX3_in_14 (by decide) ?_
      exact roZ hx hb hr hlk dX3_in_15 (nar0) (by rw [rgB_gt c_7]; rfl)
    · refine lv_iconst (v := 1) hx hb dX3_in_10 (by decide) ?_
      refine lv_goto (tgt := 15) hx hb dX3_in_11 (by decide) ?_
      exact roZ hx hb hr hlk dX3_in_15 (nar1) (by rw [rgB_in c_2 c_7]; rfl)

theorem iw_X3_isBasin_X3 : ∀ w ∈ u_ws RX3 TX3 25, w ∈ wsX3_isBasin := by decide +kernel
set_option maxRecDepth 100000 in
set_option maxHeartbeats 4000000 in
/-- isBasin -/
theorem c_X3_isBasin {l : Launch} {D : va_G} {G : Nat → Nat} {Z : Nat → ClassId} {mn fl : Int32} {va gv : Int64} {tp ts tw tm : Int32} {lv sl kd pt : Nat → Int32} {he : Nat → Int64} {ct fr to rl pi ph ps : Nat → Int32} {pm : Nat → Int64} {b n sN st : Nat} (hb8 : b ≤ 8) (x : Int32) : RoI l yX3_isBasin wsX3_isBasin (rk 1) D (mty Z) (mw G Z (nI b) mn (nI n) (nI sN) (nI st) fl va tp gv ts tw tm lv sl kd pt he ct fr to rl pi ph ps pm) [.ref (G 0), .int x] (fun r => r = bI (inB x b)) := by
  refine roEnter (cc := cX3_isBasin) (maxL := 2) (ret := (some .boolean)) (by decide) rfl (Nat.le_of_ble_eq_true rfl) ?_
  intro p e s m below meth c hx hb hr hml hown hts hlk hP hK hN ls hl
  have hown : s.vm.findClass RX3 = some m.cls := hown
  have hl : lv_has ls 2 [(0, .ref (G 0)), (1, .int x)] := hl
  refine lv_iload_n hx hb dX3_isBasin_0 rfl (lv_at hl 1 rfl) ?_
  refine lv_iconst (v := 0) hx hb dX3_isBasin_1 (by decide) ?_
  refine lv_aload_n hx hb dX3_isBasin_2 rfl (lv_at hl 0 rfl) ?_
  refine va_get (D := D) (ci := 3) (v := .int (nI b)) (C := RX3) (T := TX3) (N := 25) hx hb hts iw_X3_isBasin_X3 hown hK hP 0 rfl rfl 0 (by decide) (hts (.fieldLink RX3 57 "SluiceRulesModel" "basins" "I") (by decide +kernel)) (fun _ h9 => h9) rfl dX3_isBasin_3 ?_
  refine lv_iconst (v := 1) hx hb dX3_isBasin_6 (by decide) ?_
  refine lv_isub hx hb dX3_isBasin_7 ?_
  refine RoI.callS (As := [.int x, .int 0, .int ((nI b) - 1)]) (rest := []) (c_X3_in x 0 ((nI b) - 1)) ⟨hx, hb, hml, hown, hts⟩ (va_cwS 3 hts gX3_isBasin_X3_in rfl rfl rfl (by decide +kernel) ⟨by decide, by decide⟩) hP hK hN rfl hl.1 rfl (Nat.le_of_ble_eq_true rfl) dX3_isBasin_8 ⟨Nat.le_of_ble_eq_true rfl, Nat.le_of_ble_eq_true rfl⟩ (fun r_1 hr_1 => ?_)
  exact roZ hx hb hr hlk dX3_isBasin_11 (by rw [hr_1]; exact bI_nar _) (by rw [hr_1, rg_n (by omega)])

theorem iw_X3_isRule_X3 : ∀ w ∈ u_ws RX3 TX3 25, w ∈ wsX3_isRule := by decide +kernel
set_option maxRecDepth 100000 in
set_option maxHeartbeats 4000000 in
/-- isRule -/
theorem c_X3_isRule {l : Launch} {D : va_G} {G : Nat → Nat} {Z : Nat → ClassId} {mn fl : Int32} {va gv : Int64} {tp ts tw tm : Int32} {lv sl kd pt : Nat → Int32} {he : Nat → Int64} {ct fr to rl pi ph ps : Nat → Int32} {pm : Nat → Int64} {b n sN st : Nat} (hn40 : n ≤ 40) (x : Int32) : RoI l yX3_isRule wsX3_isRule (rk 1) D (mty Z) (mw G Z (nI b) mn (nI n) (nI sN) (nI st) fl va tp gv ts tw tm lv sl kd pt he ct fr to rl pi ph ps pm) [.ref (G 0), .int x] (fun r => r = bI (inB x n)) := by
  refine roEnter (cc := cX3_isRule) (maxL := 2) (ret := (some .boolean)) (by decide) rfl (Nat.le_of_ble_eq_true rfl) ?_
  intro p e s m below meth c hx hb hr hml hown hts hlk hP hK hN ls hl
  have hown : s.vm.findClass RX3 = some m.cls := hown
  have hl : lv_has ls 2 [(0, .ref (G 0)), (1, .int x)] := hl
  refine lv_iload_n hx hb dX3_isRule_0 rfl (lv_at hl 1 rfl) ?_
  refine lv_iconst (v := 0) hx hb dX3_isRule_1 (by decide) ?_
  refine lv_aload_n hx hb dX3_isRule_2 rfl (lv_at hl 0 rfl) ?_
  refine va_get (D := D) (ci := 3) (v := .int (nI n)) (C := RX3) (T := TX3) (N := 25) hx hb hts iw_X3_isRule_X3 hown hK hP 0 rfl rfl 4 (by decide) (hts (.fieldLink RX3 64 "SluiceRulesModel" "rules" "I") (by decide +kernel)) (fun _ h9 => h9) rfl dX3_isRule_3 ?_
  refine lv_iconst (v := 1) hx hb dX3_isRule_6 (by decide) ?_
  refine lv_isub hx hb dX3_isRule_7 ?_
  refine RoI.callS (As := [.int x, .int 0, .int ((nI n) - 1)]) (rest := []) (c_X3_in x 0 ((nI n) - 1)) ⟨hx, hb, hml, hown, hts⟩ (va_cwS 3 hts gX3_isRule_X3_in rfl rfl rfl (by decide +kernel) ⟨by decide, by decide⟩) hP hK hN rfl hl.1 rfl (Nat.le_of_ble_eq_true rfl) dX3_isRule_8 ⟨Nat.le_of_ble_eq_true rfl, Nat.le_of_ble_eq_true rfl⟩ (fun r_1 hr_1 => ?_)
  exact roZ hx hb hr hlk dX3_isRule_11 (by rw [hr_1]; exact bI_nar _) (by rw [hr_1, rg_n (by omega)])

set_option maxRecDepth 100000 in
set_option maxHeartbeats 4000000 in
/-- isPart -/
theorem c_X3_isPart {l : Launch} {D : va_G} {G : Nat → Nat} {Z : Nat → ClassId} {mn fl : Int32} {va gv : Int64} {tp ts tw tm : Int32} {lv sl kd pt : Nat → Int32} {he : Nat → Int64} {ct fr to rl pi ph ps : Nat → Int32} {pm : Nat → Int64} {b n sN st : Nat} (hn40 : n ≤ 40) (x : Int32) : RoI l yX3_isPart wsX3_isPart (rk 2) D (mty Z) (mw G Z (nI b) mn (nI n) (nI sN) (nI st) fl va tp gv ts tw tm lv sl kd pt he ct fr to rl pi ph ps pm) [.ref (G 0), .int x] (fun r => r = bI (ptB x n)) := by
  refine roEnter (cc := cX3_isPart) (maxL := 2) (ret := (some .boolean)) (by decide) rfl (Nat.le_of_ble_eq_true rfl) ?_
  intro p e s m below meth c hx hb hr hml hown hts hlk hP hK hN ls hl
  have hown : s.vm.findClass RX3 = some m.cls := hown
  have hl : lv_has ls 2 [(0, .ref (G 0)), (1, .int x)] := hl
  refine lv_iload_n hx hb dX3_isPart_0 rfl (lv_at hl 1 rfl) ?_
  refine lv_iconst (v := (-1)) hx hb dX3_isPart_1 (by decide) ?_
  refine lv_icmp_eq (tgt := 13) hx hb dX3_isPart_2 (by decide) (fun c_2 => ?_) (fun c_2 => ?_)
  · refine lv_iconst (v := 1) hx hb dX3_isPart_13 (by decide) ?_
    refine lv_goto (tgt := 18) hx hb dX3_isPart_14 (by decide) ?_
    exact roZ hx hb hr hlk dX3_isPart_18 (nar1) (by rw [ptB, c_2]; rfl)
  · refine lv_aload_n hx hb dX3_isPart_5 rfl (lv_at hl 0 rfl) ?_
    refine lv_iload_n hx hb dX3_isPart_6 rfl (lv_at hl 1 rfl) ?_
    refine RoI.callV (As := [.int x]) (rest := []) (c_X3_isRule hn40 x) ⟨hx, hb, hml, hown, hts⟩ (cwV 1 hts gX3_isPart_X3_isRule rfl rfl rfl (by decide +kernel) ⟨by decide, by decide⟩) hP hK hN 0 3 rfl rfl rfl hl.1 rfl (Nat.le_of_ble_eq_true rfl) dX3_isPart_7 ⟨Nat.le_of_ble_eq_true rfl, Nat.le_of_ble_eq_true rfl⟩ (fun r_1 hr_1 => ?_)
    refine lv_if_eq (tgt := 17) hx hb dX3_isPart_10 (by decide) (fun c_10 => ?_) (fun c_10 => ?_)
    · have b_10 : inB x n = false := bI_z (by rw [← hr_1]; exact c_10)
      refine lv_iconst (v := 0) hx hb dX3_isPart_17 (by decide) ?_
      exact roZ hx hb hr hlk dX3_isPart_18 (nar0) (by rw [ptB, b_10, decide_eq_false c_2]; rfl)
    · have b_10 : inB x n = true := bI_n (by rw [← hr_1]; exact c_10)
      refine lv_iconst (v := 1) hx hb dX3_isPart_13 (by decide) ?_
      refine lv_goto (tgt := 18) hx hb dX3_isPart_14 (by decide) ?_
      exact roZ hx hb hr hlk dX3_isPart_18 (nar1) (by rw [ptB, b_10, decide_eq_false c_2]; rfl)

set_option maxRecDepth 100000 in
set_option maxHeartbeats 4000000 in
/-- isSlot -/
theorem c_X3_isSlot {l : Launch} {D : va_G} {tys : List (ClassId × FieldType)} {w : va_W} (x : Int32) : RoI l yX3_isSlot wsX3_isSlot (rk 1) D (tys) (w) [.int x] (fun r => r = bI (inB x 8)) := by
  refine roEnter (cc := cX3_isSlot) (maxL := 1) (ret := (some .boolean)) (by decide) rfl (Nat.le_of_ble_eq_true rfl) ?_
  intro p e s m below meth c hx hb hr hml hown hts hlk hP hK hN ls hl
  have hown : s.vm.findClass RX3 = some m.cls := hown
  have hl : lv_has ls 1 [(0, .int x)] := hl
  refine lv_iload_n hx hb dX3_isSlot_0 rfl (lv_at hl 0 rfl) ?_
  refine lv_iconst (v := 0) hx hb dX3_isSlot_1 (by decide) ?_
  refine lv_bipush (v := 7) hx hb dX3_isSlot_2 (by decide) ?_
  refine RoI.callS (As := [.int x, .int 0, .int 7]) (rest := []) (c_X3_in x 0 7) ⟨hx, hb, hml, hown, hts⟩ (va_cwS 3 hts gX3_isSlot_X3_in rfl rfl rfl (by decide +kernel) ⟨by decide, by decide⟩) hP hK hN rfl hl.1 rfl (Nat.le_of_ble_eq_true rfl) dX3_isSlot_4 ⟨Nat.le_of_ble_eq_true rfl, Nat.le_of_ble_eq_true rfl⟩ (fun r_1 hr_1 => ?_)
  exact roZ hx hb hr hlk dX3_isSlot_7 (by rw [hr_1]; exact bI_nar _) (by rw [hr_1, rg_k (n := 8) (by decide)])

theorem iw_X3_basin_X3 : ∀ w ∈ u_ws RX3 TX3 25, w ∈ wsX3_basin := by decide +kernel
set_option maxRecDepth 100000 in
set_option maxHeartbeats 4000000 in
/-- basin -/
theorem c_X3_basin {l : Launch} {D : va_G} {G : Nat → Nat} {Z : Nat → ClassId} {mn fl : Int32} {va gv : Int64} {tp ts tw tm : Int32} {lv sl kd pt : Nat → Int32} {he : Nat → Int64} {ct fr to rl pi ph ps : Nat → Int32} {pm : Nat → Int64} {b n sN st : Nat} (hb8 : b ≤ 8) (x : Int32) : WrI l yX3_basin wsX3_basin (rk 1) D (mty Z) (mw G Z (nI b) mn (nI n) (nI sN) (nI st) fl va tp gv ts tw tm lv sl kd pt he ct fr to rl pi ph ps pm) [.ref (G 0), .int x] (σ := Nat × (Nat → Int32)) (fun u => mw G Z (nI u.1) mn (nI n) (nI sN) (nI st) fl va tp gv ts tw tm u.2 sl kd pt he ct fr to rl pi ph ps pm) (fun r u => (r, u) = sp_basin b lv x) 0 0 := by
  intro sz
  refine wrEnter (cc := cX3_basin) (maxL := 2) (ret := (some .int)) (by decide) rfl (Nat.le_of_ble_eq_true rfl) ?_
  intro p e s m below meth c hx hb hr hml hown hts hlk hP hK hN hsz hD hS hA hin ls hl
  have hown : s.vm.findClass RX3 = some m.cls := hown
  have hl : lv_has ls 2 [(0, .ref (G 0)), (1, .int x)] := hl
  refine lv_iload_n hx hb dX3_basin_0 rfl (lv_at hl 1 rfl) ?_
  refine lv_iconst (v := 0) hx hb dX3_basin_1 (by decide) ?_
  refine lv_ldc (v := 1000000000) hx hb hown (hts (.constant RX3 71 (1000000000)) (by decide +kernel)) dX3_basin_2 ?_
  refine RoI.callS (As := [.int x, .int 0, .int 1000000000]) (rest := []) (c_X3_in x 0 1000000000) ⟨hx, hb, hml, hown, hts⟩ (va_cwS 3 hts gX3_basin_X3_in rfl rfl rfl (by decide +kernel) ⟨by decide, by decide⟩) hP hK hN rfl hl.1 rfl (Nat.le_of_ble_eq_true rfl) dX3_basin_4 ⟨Nat.le_of_ble_eq_true rfl, Nat.le_of_ble_eq_true rfl⟩ (fun r_1 hr_1 => ?_)
  refine lv_if_ne (tgt := 13) hx hb dX3_basin_7 (by decide) (fun c_7 => ?_) (fun c_7 => ?_)
  · have b_7 : rgB x 0 1000000000 = true := bI_n (by rw [← hr_1]; exact c_7)
    refine lv_aload_n hx hb dX3_basin_13 rfl (lv_at hl 0 rfl) ?_
    refine va_get (D := D) (ci := 3) (v := .int (nI b)) (C := RX3) (T := TX3) (N := 25) hx hb hts iw_X3_basin_X3 hown hK hP 0 rfl rfl 0 (by decide) (hts (.fieldLink RX3 57 "SluiceRulesModel" "basins" "I") (by decide +kernel)) (fun _ h9 => h9) rfl dX3_basin_14 ?_
    refine lv_bipush (v := 8) hx hb dX3_basin_17 (by decide) ?_
    refine lv_icmp_ne (tgt := 25) hx hb dX3_basin_19 (by decide) (fun c_19 => ?_) (fun c_19 => ?_)
    · have b_n8 : ¬ b = 8 := fun z => c_19 (by rw [z]; rfl)
      have b_l8 : b < 8 := by omega
      refine lv_aload_n hx hb dX3_basin_25 rfl (lv_at hl 0 rfl) ?_
      refine va_get (D := D) (ci := 3) (v := .ref (G 1)) (C := RX3) (T := TX3) (N := 25) hx hb hts iw_X3_basin_X3 hown hK hP 0 rfl rfl 1 (by decide) (hts (.fieldLink RX3 7 "SluiceRulesModel" "levels" "[I") (by decide +kernel)) (fun _ h9 => h9) rfl dX3_basin_26 ?_
      refine lv_aload_n hx hb dX3_basin_29 rfl (lv_at hl 0 rfl) ?_
      refine va_get (D := D) (ci := 3) (v := .int (nI b)) (C := RX3) (T := TX3) (N := 25) hx hb hts iw_X3_basin_X3 hown hK hP 0 rfl rfl 0 (by decide) (hts (.fieldLink RX3 57 "SluiceRulesModel" "basins" "I") (by decide +kernel)) (fun _ h9 => h9) rfl dX3_basin_30 ?_
      refine lv_iload_n hx hb dX3_basin_33 rfl (lv_at hl 1 rfl) ?_
      refine my_iast (j := b) hx hb hK hP hD hS 1 0 rfl rfl (rfl) (b_l8) (by decide) dX3_basin_34 (fun H locs hP hD hS => ?_)
      have hP : va_P D vwCl (mw G Z (nI b) mn (nI n) (nI sN) (nI st) fl va tp gv ts tw tm (upd lv b x) sl kd pt he ct fr to rl pi ph ps pm) H := hP
      have hD : va_D (va_A (mw G Z (nI b) mn (nI n) (nI sN) (nI st) fl va tp gv ts tw tm lv sl kd pt he ct fr to rl pi ph ps pm) sz) (mw G Z (nI b) mn (nI n) (nI sN) (nI st) fl va tp gv ts tw tm (upd lv b x) sl kd pt he ct fr to rl pi ph ps pm) := hD
      refine lv_aload_n hx hb dX3_basin_35 rfl (lv_at hl 0 rfl) ?_
      refine lv_dup hx hb dX3_basin_36 rfl ?_
      refine va_get (D := D) (ci := 3) (v := .int (nI b)) (C := RX3) (T := TX3) (N := 25) hx hb hts iw_X3_basin_X3 hown hK hP 0 rfl rfl 0 (by decide) (hts (.fieldLink RX3 57 "SluiceRulesModel" "basins" "I") (by decide +kernel)) (fun _ h9 => h9) rfl dX3_basin_37 ?_
      refine lv_iconst (v := 1) hx hb dX3_basin_40 (by decide) ?_
      refine lv_iadd hx hb dX3_basin_41 ?_
      refine va_put (D := D) (ci := 3) (v := .int ((nI b) + 1)) (ty := .int) (C := RX3) (T := TX3) (N := 25) hx hb hts iw_X3_basin_X3 tyX3 tyX3_ok nmX3 hown hK hP hD hS 0 rfl rfl 0 (by decide) (hts (.fieldLink RX3 57 "SluiceRulesModel" "basins" "I") (by decide +kernel)) (fun _ h9 => h9) rfl (by decide +kernel) rfl rfl (Nat.le_of_ble_eq_true rfl) dX3_basin_42 (fun H locs hP hD hS => ?_)
      have hP : va_P D vwCl (mw G Z ((nI b) + 1) mn (nI n) (nI sN) (nI st) fl va tp gv ts tw tm (upd lv b x) sl kd pt he ct fr to rl pi ph ps pm) H := hP
      have hD : va_D (va_A (mw G Z (nI b) mn (nI n) (nI sN) (nI st) fl va tp gv ts tw tm lv sl kd pt he ct fr to rl pi ph ps pm) sz) (mw G Z ((nI b) + 1) mn (nI n) (nI sN) (nI st) fl va tp gv ts tw tm (upd lv b x) sl kd pt he ct fr to rl pi ph ps pm) := hD
      refine lv_aload_n hx hb dX3_basin_45 rfl (lv_at hl 0 rfl) ?_
      refine va_get (D := D) (ci := 3) (v := .int ((nI b) + 1)) (C := RX3) (T := TX3) (N := 25) hx hb hts iw_X3_basin_X3 hown hK hP 0 rfl rfl 0 (by decide) (hts (.fieldLink RX3 57 "SluiceRulesModel" "basins" "I") (by decide +kernel)) (fun _ h9 => h9) rfl dX3_basin_46 ?_
      refine lv_iconst (v := 1) hx hb dX3_basin_49 (by decide) ?_
      refine lv_isub hx hb dX3_basin_50 ?_
      rw [nI_1] at hP hD
      exact wrI ((b + 1, upd lv b x)) hx hb hr hlk dX3_basin_51 hP hD hS (by rw [sp_basin, if_pos (by rw [← rg_lv, b_7]), if_neg b_n8, nI_1, nI_pred])
    · have b_e8 : b = 8 := (nI_eq (b := 8) (by omega) (by decide)).mp c_19
      refine lv_bipush (v := (-103)) hx hb dX3_basin_22 (by decide) ?_
      exact wrI ((b, lv)) hx hb hr hlk dX3_basin_24 hP hD hS (by rw [sp_basin, if_pos (by rw [← rg_lv, b_7]), if_pos b_e8])
  · have b_7 : rgB x 0 1000000000 = false := bI_z (by rw [← hr_1]; exact c_7)
    refine lv_bipush (v := (-102)) hx hb dX3_basin_10 (by decide) ?_
    exact wrI ((b, lv)) hx hb hr hlk dX3_basin_12 hP hD hS (by rw [sp_basin, if_neg (by rw [← rg_lv, b_7]; exact Bool.false_ne_true)])

theorem iw_X3_fill_X3 : ∀ w ∈ u_ws RX3 TX3 25, w ∈ wsX3_fill := by decide +kernel
set_option maxRecDepth 100000 in
set_option maxHeartbeats 4000000 in
/-- fill -/
theorem c_X3_fill {l : Launch} {D : va_G} {G : Nat → Nat} {Z : Nat → ClassId} {mn fl : Int32} {va gv : Int64} {tp ts tw tm : Int32} {lv sl kd pt : Nat → Int32} {he : Nat → Int64} {ct fr to rl pi ph ps : Nat → Int32} {pm : Nat → Int64} {b n sN st : Nat} (hb8 : b ≤ 8) (x v : Int32) : WrI l yX3_fill wsX3_fill (rk 2) D (mty Z) (mw G Z (nI b) mn (nI n) (nI sN) (nI st) fl va tp gv ts tw tm lv sl kd pt he ct fr to rl pi ph ps pm) [.ref (G 0), .int x, .int v] (σ := Nat → Int32) (fun u => mw G Z (nI b) mn (nI n) (nI sN) (nI st) fl va tp gv ts tw tm u sl kd pt he ct fr to rl pi ph ps pm) (fun r u => (r, u) = sp_fill b lv x v) 0 0 := by
  intro sz
  refine wrEnter (cc := cX3_fill) (maxL := 4) (ret := (some .int)) (by decide) rfl (Nat.le_of_ble_eq_true rfl) ?_
  intro p e s m below meth c hx hb hr hml hown hts hlk hP hK hN hsz hD hS hA hin ls hl
  have hown : s.vm.findClass RX3 = some m.cls := hown
  have hl : lv_has ls 4 [(0, .ref (G 0)), (1, .int x), (2, .int v)] := hl
  refine lv_aload_n hx hb dX3_fill_0 rfl (lv_at hl 0 rfl) ?_
  refine lv_iload_n hx hb dX3_fill_1 rfl (lv_at hl 1 rfl) ?_
  refine RoI.callV (As := [.int x]) (rest := []) (c_X3_isBasin hb8 x) ⟨hx, hb, hml, hown, hts⟩ (cwV 1 hts gX3_fill_X3_isBasin rfl rfl rfl (by decide +kernel) ⟨by decide, by decide⟩) hP hK hN 0 3 rfl rfl rfl hl.1 rfl (Nat.le_of_ble_eq_true rfl) dX3_fill_2 ⟨Nat.le_of_ble_eq_true rfl, Nat.le_of_ble_eq_true rfl⟩ (fun r_1 hr_1 => ?_)
  refine lv_if_ne (tgt := 11) hx hb dX3_fill_5 (by decide) (fun c_5 => ?_) (fun c_5 => ?_)
  · have b_5 : inB x b = true := bI_n (by rw [← hr_1]; exact c_5)
    refine lv_iload_n hx hb dX3_fill_11 rfl (lv_at hl 2 rfl) ?_
    refine lv_iconst (v := 0) hx hb dX3_fill_12 (by decide) ?_
    refine lv_ldc (v := 1000000000) hx hb hown (hts (.constant RX3 71 (1000000000)) (by decide +kernel)) dX3_fill_13 ?_
    refine RoI.callS (As := [.int v, .int 0, .int 1000000000]) (rest := []) (c_X3_in v 0 1000000000) ⟨hx, hb, hml, hown, hts⟩ (va_cwS 3 hts gX3_fill_X3_in rfl rfl rfl (by decide +kernel) ⟨by decide, by decide⟩) hP hK hN rfl hl.1 rfl (Nat.le_of_ble_eq_true rfl) dX3_fill_15 ⟨Nat.le_of_ble_eq_true rfl, Nat.le_of_ble_eq_true rfl⟩ (fun r_2 hr_2 => ?_)
    refine lv_if_ne (tgt := 24) hx hb dX3_fill_18 (by decide) (fun c_18 => ?_) (fun c_18 => ?_)
    · have b_18 : rgB v 0 1000000000 = true := bI_n (by rw [← hr_2]; exact c_18)
      refine lv_aload_n hx hb dX3_fill_24 rfl (lv_at hl 0 rfl) ?_
      refine va_get (D := D) (ci := 3) (v := .ref (G 1)) (C := RX3) (T := TX3) (N := 25) hx hb hts iw_X3_fill_X3 hown hK hP 0 rfl rfl 1 (by decide) (hts (.fieldLink RX3 7 "SluiceRulesModel" "levels" "[I") (by decide +kernel)) (fun _ h9 => h9) rfl dX3_fill_25 ?_
      refine lv_iload_n hx hb dX3_fill_28 rfl (lv_at hl 1 rfl) ?_
      refine va_iald hx hb hK hP 1 0 rfl rfl (inB_vp.mp (inB_up hb8 b_5)) dX3_fill_29 ?_
      refine lv_istore_n (lv' := [(3, .int (lv x.toNatClampNeg)), (0, .ref (G 0)), (1, .int x), (2, .int v)]) hx hb dX3_fill_30 rfl hl (by decide) rfl (fun ls hl => ?_)
      refine lv_aload_n hx hb dX3_fill_31 rfl (lv_at hl 1 rfl) ?_
      refine va_get (D := D) (ci := 3) (v := .ref (G 1)) (C := RX3) (T := TX3) (N := 25) hx hb hts iw_X3_fill_X3 hown hK hP 0 rfl rfl 1 (by decide) (hts (.fieldLink RX3 7 "SluiceRulesModel" "levels" "[I") (by decide +kernel)) (fun _ h9 => h9) rfl dX3_fill_32 ?_
      refine lv_iload_n hx hb dX3_fill_35 rfl (lv_at hl 2 rfl) ?_
      refine lv_iload_n hx hb dX3_fill_36 rfl (lv_at hl 3 rfl) ?_
      refine va_iast hx hb hK hP hD hS 1 0 rfl rfl (inB_vp.mp (inB_up hb8 b_5)) dX3_fill_37 (fun H locs hP hD hS => ?_)
      have hP : va_P D vwCl (mw G Z (nI b) mn (nI n) (nI sN) (nI st) fl va tp gv ts tw tm (upd lv x.toNatClampNeg v) sl kd pt he ct fr to rl pi ph ps pm) H := hP
      have hD : va_D (va_A (mw G Z (nI b) mn (nI n) (nI sN) (nI st) fl va tp gv ts tw tm lv sl kd pt he ct fr to rl pi ph ps pm) sz) (mw G Z (nI b) mn (nI n) (nI sN) (nI st) fl va tp gv ts tw tm (upd lv x.toNatClampNeg v) sl kd pt he ct fr to rl pi ph ps pm) := hD
      refine lv_iload_n hx hb dX3_fill_38 rfl (lv_at hl 0 rfl) ?_
      exact wrI (upd lv x.toNatClampNeg v) hx hb hr hlk dX3_fill_39 hP hD hS (by rw [sp_fill, if_pos b_5, if_pos (by rw [← rg_lv, b_18])])
    · have b_18 : rgB v 0 1000000000 = false := bI_z (by rw [← hr_2]; exact c_18)
      refine lv_bipush (v := (-102)) hx hb dX3_fill_21 (by decide) ?_
      exact wrI (lv) hx hb hr hlk dX3_fill_23 hP hD hS (by rw [sp_fill, if_pos b_5, if_neg (by rw [← rg_lv, b_18]; exact Bool.false_ne_true)])
  · have b_5 : inB x b = false := bI_z (by rw [← hr_1]; exact c_5)
    refine lv_bipush (v := (-101)) hx hb dX3_fill_8 (by decide) ?_
    exact wrI (lv) hx hb hr hlk dX3_fill_10 hP hD hS (by rw [sp_fill, if_neg (by rw [b_5]; exact Bool.false_ne_true)])

theorem iw_X3_moon_X3 : ∀ w ∈ u_ws RX3 TX3 25, w ∈ wsX3_moon := by decide +kernel
set_option maxRecDepth 100000 in
set_option maxHeartbeats 4000000 in
/-- moon -/
theorem c_X3_moon {l : Launch} {D : va_G} {G : Nat → Nat} {Z : Nat → ClassId} {mn fl : Int32} {va gv : Int64} {tp ts tw tm : Int32} {lv sl kd pt : Nat → Int32} {he : Nat → Int64} {ct fr to rl pi ph ps : Nat → Int32} {pm : Nat → Int64} {b n sN st : Nat} (x : Int32) : WrI l yX3_moon wsX3_moon (rk 1) D (mty Z) (mw G Z (nI b) mn (nI n) (nI sN) (nI st) fl va tp gv ts tw tm lv sl kd pt he ct fr to rl pi ph ps pm) [.ref (G 0), .int x] (σ := Int32) (fun u => mw G Z (nI b) u (nI n) (nI sN) (nI st) fl va tp gv ts tw tm lv sl kd pt he ct fr to rl pi ph ps pm) (fun r u => (r, u) = sp_moon mn x) 0 0 := by
  intro sz
  refine wrEnter (cc := cX3_moon) (maxL := 3) (ret := (some .int)) (by decide) rfl (Nat.le_of_ble_eq_true rfl) ?_
  intro p e s m below meth c hx hb hr hml hown hts hlk hP hK hN hsz hD hS hA hin ls hl
  have hown : s.vm.findClass RX3 = some m.cls := hown
  have hl : lv_has ls 3 [(0, .ref (G 0)), (1, .int x)] := hl
  refine lv_iload_n hx hb dX3_moon_0 rfl (lv_at hl 1 rfl) ?_
  refine lv_iconst (v := 0) hx hb dX3_moon_1 (by decide) ?_
  refine lv_bipush (v := 11) hx hb dX3_moon_2 (by decide) ?_
  refine RoI.callS (As := [.int x, .int 0, .int 11]) (rest := []) (c_X3_in x 0 11) ⟨hx, hb, hml, hown, hts⟩ (va_cwS 3 hts gX3_moon_X3_in rfl rfl rfl (by decide +kernel) ⟨by decide, by decide⟩) hP hK hN rfl hl.1 rfl (Nat.le_of_ble_eq_true rfl) dX3_moon_4 ⟨Nat.le_of_ble_eq_true rfl, Nat.le_of_ble_eq_true rfl⟩ (fun r_1 hr_1 => ?_)
  refine lv_if_ne (tgt := 13) hx hb dX3_moon_7 (by decide) (fun c_7 => ?_) (fun c_7 => ?_)
  · have b_7 : rgB x 0 11 = true := bI_n (by rw [← hr_1]; exact c_7)
    refine lv_aload_n hx hb dX3_moon_13 rfl (lv_at hl 0 rfl) ?_
    refine va_get (D := D) (ci := 3) (v := .int mn) (C := RX3) (T := TX3) (N := 25) hx hb hts iw_X3_moon_X3 hown hK hP 0 rfl rfl 2 (by decide) (hts (.fieldLink RX3 13 "SluiceRulesModel" "moon" "I") (by decide +kernel)) (fun _ h9 => h9) rfl dX3_moon_14 ?_
    refine lv_istore_n (lv' := [(2, .int mn), (0, .ref (G 0)), (1, .int x)]) hx hb dX3_moon_17 rfl hl (by decide) rfl (fun ls hl => ?_)
    refine lv_aload_n hx hb dX3_moon_18 rfl (lv_at hl 1 rfl) ?_
    refine lv_iload_n hx hb dX3_moon_19 rfl (lv_at hl 2 rfl) ?_
    refine va_put (D := D) (ci := 3) (v := .int x) (ty := .int) (C := RX3) (T := TX3) (N := 25) hx hb hts iw_X3_moon_X3 tyX3 tyX3_ok nmX3 hown hK hP hD hS 0 rfl rfl 2 (by decide) (hts (.fieldLink RX3 13 "SluiceRulesModel" "moon" "I") (by decide +kernel)) (fun _ h9 => h9) rfl (by decide +kernel) rfl rfl (Nat.le_of_ble_eq_true rfl) dX3_moon_20 (fun H locs hP hD hS => ?_)
    have hP : va_P D vwCl (mw G Z (nI b) x (nI n) (nI sN) (nI st) fl va tp gv ts tw tm lv sl kd pt he ct fr to rl pi ph ps pm) H := hP
    have hD : va_D (va_A (mw G Z (nI b) mn (nI n) (nI sN) (nI st) fl va tp gv ts tw tm lv sl kd pt he ct fr to rl pi ph ps pm) sz) (mw G Z (nI b) x (nI n) (nI sN) (nI st) fl va tp gv ts tw tm lv sl kd pt he ct fr to rl pi ph ps pm) := hD
    refine lv_iload_n hx hb dX3_moon_23 rfl (lv_at hl 0 rfl) ?_
    exact wrI (x) hx hb hr hlk dX3_moon_24 hP hD hS (by rw [sp_moon, if_pos (by rw [← rg_k (hi := 11) (n := 12) (by decide), b_7])])
  · have b_7 : rgB x 0 11 = false := bI_z (by rw [← hr_1]; exact c_7)
    refine lv_bipush (v := (-102)) hx hb dX3_moon_10 (by decide) ?_
    exact wrI (mn) hx hb hr hlk dX3_moon_12 hP hD hS (by rw [sp_moon, if_neg (by rw [← rg_k (hi := 11) (n := 12) (by decide), b_7]; exact Bool.false_ne_true)])

theorem iw_X3_put_X3 : ∀ w ∈ u_ws RX3 TX3 25, w ∈ wsX3_put := by decide +kernel
set_option maxRecDepth 100000 in
set_option maxHeartbeats 4000000 in
/-- put -/
theorem c_X3_put {l : Launch} {D : va_G} {G : Nat → Nat} {Z : Nat → ClassId} {mn fl : Int32} {va gv : Int64} {tp ts tw tm : Int32} {lv sl kd pt : Nat → Int32} {he : Nat → Int64} {ct fr to rl pi ph ps : Nat → Int32} {pm : Nat → Int64} {b n sN st : Nat} (hn40 : n ≤ 40) (s_ r_ : Int32) : WrI l yX3_put wsX3_put (rk 3) D (mty Z) (mw G Z (nI b) mn (nI n) (nI sN) (nI st) fl va tp gv ts tw tm lv sl kd pt he ct fr to rl pi ph ps pm) [.ref (G 0), .int s_, .int r_] (σ := Nat → Int32) (fun u => mw G Z (nI b) mn (nI n) (nI sN) (nI st) fl va tp gv ts tw tm lv u kd pt he ct fr to rl pi ph ps pm) (fun r u => (r, u) = sp_put n sl s_ r_) 0 0 := by
  intro sz
  refine wrEnter (cc := cX3_put) (maxL := 4) (ret := (some .int)) (by decide) rfl (Nat.le_of_ble_eq_true rfl) ?_
  intro p e s m below meth c hx hb hr hml hown hts hlk hP hK hN hsz hD hS hA hin ls hl
  have hown : s.vm.findClass RX3 = some m.cls := hown
  have hl : lv_has ls 4 [(0, .ref (G 0)), (1, .int s_), (2, .int r_)] := hl
  refine lv_iload_n hx hb dX3_put_0 rfl (lv_at hl 1 rfl) ?_
  refine RoI.callS (As := [.int s_]) (rest := []) (c_X3_isSlot s_) ⟨hx, hb, hml, hown, hts⟩ (va_cwS 1 hts gX3_put_X3_isSlot rfl rfl rfl (by decide +kernel) ⟨by decide, by decide⟩) hP hK hN rfl hl.1 rfl (Nat.le_of_ble_eq_true rfl) dX3_put_1 ⟨Nat.le_of_ble_eq_true rfl, Nat.le_of_ble_eq_true rfl⟩ (fun r_1 hr_1 => ?_)
  refine lv_if_eq (tgt := 15) hx hb dX3_put_4 (by decide) (fun c_4 => ?_) (fun c_4 => ?_)
  · have b_4 : inB s_ 8 = false := bI_z (by rw [← hr_1]; exact c_4)
    refine lv_bipush (v := (-101)) hx hb dX3_put_15 (by decide) ?_
    exact wrI (sl) hx hb hr hlk dX3_put_17 hP hD hS (by rw [sp_put, if_neg (fun z => by rw [b_4] at z; exact absurd z.1 Bool.false_ne_true)])
  · have b_4 : inB s_ 8 = true := bI_n (by rw [← hr_1]; exact c_4)
    refine lv_aload_n hx hb dX3_put_7 rfl (lv_at hl 0 rfl) ?_
    refine lv_iload_n hx hb dX3_put_8 rfl (lv_at hl 2 rfl) ?_
    refine RoI.callV (As := [.int r_]) (rest := []) (c_X3_isPart hn40 r_) ⟨hx, hb, hml, hown, hts⟩ (cwV 1 hts gX3_put_X3_isPart rfl rfl rfl (by decide +kernel) ⟨by decide, by decide⟩) hP hK hN 0 3 rfl rfl rfl hl.1 rfl (Nat.le_of_ble_eq_true rfl) dX3_put_9 ⟨Nat.le_of_ble_eq_true rfl, Nat.le_of_ble_eq_true rfl⟩ (fun r_2 hr_2 => ?_)
    refine lv_if_ne (tgt := 18) hx hb dX3_put_12 (by decide) (fun c_12 => ?_) (fun c_12 => ?_)
    · have b_12 : ptB r_ n = true := bI_n (by rw [← hr_2]; exact c_12)
      refine lv_aload_n hx hb dX3_put_18 rfl (lv_at hl 0 rfl) ?_
      refine va_get (D := D) (ci := 3) (v := .ref (G 2)) (C := RX3) (T := TX3) (N := 25) hx hb hts iw_X3_put_X3 hown hK hP 0 rfl rfl 3 (by decide) (hts (.fieldLink RX3 17 "SluiceRulesModel" "slot" "[I") (by decide +kernel)) (fun _ h9 => h9) rfl dX3_put_19 ?_
      refine lv_iload_n hx hb dX3_put_22 rfl (lv_at hl 1 rfl) ?_
      refine va_iald hx hb hK hP 2 1 rfl rfl (inB_vp.mp (b_4)) dX3_put_23 ?_
      refine lv_istore_n (lv' := [(3, .int (sl s_.toNatClampNeg)), (0, .ref (G 0)), (1, .int s_), (2, .int r_)]) hx hb dX3_put_24 rfl hl (by decide) rfl (fun ls hl => ?_)
      refine lv_aload_n hx hb dX3_put_25 rfl (lv_at hl 1 rfl) ?_
      refine va_get (D := D) (ci := 3) (v := .ref (G 2)) (C := RX3) (T := TX3) (N := 25) hx hb hts iw_X3_put_X3 hown hK hP 0 rfl rfl 3 (by decide) (hts (.fieldLink RX3 17 "SluiceRulesModel" "slot" "[I") (by decide +kernel)) (fun _ h9 => h9) rfl dX3_put_26 ?_
      refine lv_iload_n hx hb dX3_put_29 rfl (lv_at hl 2 rfl) ?_
      refine lv_iload_n hx hb dX3_put_30 rfl (lv_at hl 3 rfl) ?_
      refine va_iast hx hb hK hP hD hS 2 1 rfl rfl (inB_vp.mp (b_4)) dX3_put_31 (fun H locs hP hD hS => ?_)
      have hP : va_P D vwCl (mw G Z (nI b) mn (nI n) (nI sN) (nI st) fl va tp gv ts tw tm lv (upd sl s_.toNatClampNeg r_) kd pt he ct fr to rl pi ph ps pm) H := hP
      have hD : va_D (va_A (mw G Z (nI b) mn (nI n) (nI sN) (nI st) fl va tp gv ts tw tm lv sl kd pt he ct fr to rl pi ph ps pm) sz) (mw G Z (nI b) mn (nI n) (nI sN) (nI st) fl va tp gv ts tw tm lv (upd sl s_.toNatClampNeg r_) kd pt he ct fr to rl pi ph ps pm) := hD
      refine lv_iload_n hx hb dX3_put_32 rfl (lv_at hl 0 rfl) ?_
      exact wrI (upd sl s_.toNatClampNeg r_) hx hb hr hlk dX3_put_33 hP hD hS (by rw [sp_put, if_pos ⟨b_4, b_12⟩])
    · have b_12 : ptB r_ n = false := bI_z (by rw [← hr_2]; exact c_12)
      refine lv_bipush (v := (-101)) hx hb dX3_put_15 (by decide) ?_
      exact wrI (sl) hx hb hr hlk dX3_put_17 hP hD hS (by rw [sp_put, if_neg (fun z => by rw [b_12] at z; exact absurd z.2 Bool.false_ne_true)])

theorem iw_X3_told_X3 : ∀ w ∈ u_ws RX3 TX3 25, w ∈ wsX3_told := by decide +kernel
set_option maxRecDepth 100000 in
set_option maxHeartbeats 4000000 in
/-- told -/
theorem c_X3_told {l : Launch} {D : va_G} {G : Nat → Nat} {Z : Nat → ClassId} {mn fl : Int32} {va gv : Int64} {tp ts tw tm : Int32} {lv sl kd pt : Nat → Int32} {he : Nat → Int64} {ct fr to rl pi ph ps : Nat → Int32} {pm : Nat → Int64} {b n sN st : Nat} (x : Int32) : RoI l yX3_told wsX3_told (rk 0) D (mty Z) (mw G Z (nI b) mn (nI n) (nI sN) (nI st) fl va tp gv ts tw tm lv sl kd pt he ct fr to rl pi ph ps pm) [.ref (G 0), .int x] (fun r => r = sp_told ts tw tm x) := by
  refine roEnter (cc := cX3_told) (maxL := 2) (ret := (some .int)) (by decide) rfl (Nat.le_of_ble_eq_true rfl) ?_
  intro p e s m below meth c hx hb hr hml hown hts hlk hP hK hN ls hl
  have hown : s.vm.findClass RX3 = some m.cls := hown
  have hl : lv_has ls 2 [(0, .ref (G 0)), (1, .int x)] := hl
  refine lv_iload_n hx hb dX3_told_0 rfl (lv_at hl 1 rfl) ?_
  refine lv_if_ne (tgt := 11) hx hb dX3_told_1 (by decide) (fun c_1 => ?_) (fun c_1 => ?_)
  · refine lv_iload_n hx hb dX3_told_11 rfl (lv_at hl 1 rfl) ?_
    refine lv_iconst (v := 1) hx hb dX3_told_12 (by decide) ?_
    refine lv_icmp_ne (tgt := 23) hx hb dX3_told_13 (by decide) (fun c_13 => ?_) (fun c_13 => ?_)
    · refine lv_iload_n hx hb dX3_told_23 rfl (lv_at hl 1 rfl) ?_
      refine lv_iconst (v := 2) hx hb dX3_told_24 (by decide) ?_
      refine lv_icmp_ne (tgt := 35) hx hb dX3_told_25 (by decide) (fun c_25 => ?_) (fun c_25 => ?_)
      · refine lv_bipush (v := (-101)) hx hb dX3_told_35 (by decide) ?_
        exact roI hx hb hr hlk dX3_told_37 (by rw [sp_told, if_neg c_1, if_neg c_13, if_neg c_25])
      · refine lv_aload_n hx hb dX3_told_28 rfl (lv_at hl 0 rfl) ?_
        refine va_get (D := D) (ci := 3) (v := .int tm) (C := RX3) (T := TX3) (N := 25) hx hb hts iw_X3_told_X3 hown hK hP 0 rfl rfl 24 (by decide) (hts (.fieldLink RX3 155 "SluiceRulesModel" "toldMuch" "I") (by decide +kernel)) (fun _ h9 => h9) rfl dX3_told_29 ?_
        refine lv_goto (tgt := 37) hx hb dX3_told_32 (by decide) ?_
        exact roI hx hb hr hlk dX3_told_37 (by rw [sp_told, if_neg c_1, if_neg c_13, if_pos c_25])
    · refine lv_aload_n hx hb dX3_told_16 rfl (lv_at hl 0 rfl) ?_
      refine va_get (D := D) (ci := 3) (v := .int tw) (C := RX3) (T := TX3) (N := 25) hx hb hts iw_X3_told_X3 hown hK hP 0 rfl rfl 23 (by decide) (hts (.fieldLink RX3 152 "SluiceRulesModel" "toldWhy" "I") (by decide +kernel)) (fun _ h9 => h9) rfl dX3_told_17 ?_
      refine lv_goto (tgt := 37) hx hb dX3_told_20 (by decide) ?_
      exact roI hx hb hr hlk dX3_told_37 (by rw [sp_told, if_neg c_1, if_pos c_13])
  · refine lv_aload_n hx hb dX3_told_4 rfl (lv_at hl 0 rfl) ?_
    refine va_get (D := D) (ci := 3) (v := .int ts) (C := RX3) (T := TX3) (N := 25) hx hb hts iw_X3_told_X3 hown hK hP 0 rfl rfl 22 (by decide) (hts (.fieldLink RX3 54 "SluiceRulesModel" "toldSluice" "I") (by decide +kernel)) (fun _ h9 => h9) rfl dX3_told_5 ?_
    refine lv_goto (tgt := 37) hx hb dX3_told_8 (by decide) ?_
    exact roI hx hb hr hlk dX3_told_37 (by rw [sp_told, if_pos c_1])

theorem iw_X3_level_X3 : ∀ w ∈ u_ws RX3 TX3 25, w ∈ wsX3_level := by decide +kernel
set_option maxRecDepth 100000 in
set_option maxHeartbeats 4000000 in
/-- level -/
theorem c_X3_level {l : Launch} {D : va_G} {G : Nat → Nat} {Z : Nat → ClassId} {mn fl : Int32} {va gv : Int64} {tp ts tw tm : Int32} {lv sl kd pt : Nat → Int32} {he : Nat → Int64} {ct fr to rl pi ph ps : Nat → Int32} {pm : Nat → Int64} {b n sN st : Nat} (hb8 : b ≤ 8) (x : Int32) : RoI l yX3_level wsX3_level (rk 2) D (mty Z) (mw G Z (nI b) mn (nI n) (nI sN) (nI st) fl va tp gv ts tw tm lv sl kd pt he ct fr to rl pi ph ps pm) [.ref (G 0), .int x] (fun r => r = sp_level b lv x) := by
  refine roEnter (cc := cX3_level) (maxL := 2) (ret := (some .int)) (by decide) rfl (Nat.le_of_ble_eq_true rfl) ?_
  intro p e s m below meth c hx hb hr hml hown hts hlk hP hK hN ls hl
  have hown : s.vm.findClass RX3 = some m.cls := hown
  have hl : lv_has ls 2 [(0, .ref (G 0)), (1, .int x)] := hl
  refine lv_aload_n hx hb dX3_level_0 rfl (lv_at hl 0 rfl) ?_
  refine lv_iload_n hx hb dX3_level_1 rfl (lv_at hl 1 rfl) ?_
  refine RoI.callV (As := [.int x]) (rest := []) (c_X3_isBasin hb8 x) ⟨hx, hb, hml, hown, hts⟩ (cwV 1 hts gX3_level_X3_isBasin rfl rfl rfl (by decide +kernel) ⟨by decide, by decide⟩) hP hK hN 0 3 rfl rfl rfl hl.1 rfl (Nat.le_of_ble_eq_true rfl) dX3_level_2 ⟨Nat.le_of_ble_eq_true rfl, Nat.le_of_ble_eq_true rfl⟩ (fun r_1 hr_1 => ?_)
  refine lv_if_eq (tgt := 17) hx hb dX3_level_5 (by decide) (fun c_5 => ?_) (fun c_5 => ?_)
  · have b_5 : inB x b = false := bI_z (by rw [← hr_1]; exact c_5)
    refine lv_bipush (v := (-101)) hx hb dX3_level_17 (by decide) ?_
    exact roI hx hb hr hlk dX3_level_19 (by rw [sp_level, if_neg (by rw [b_5]; exact Bool.false_ne_true)])
  · have b_5 : inB x b = true := bI_n (by rw [← hr_1]; exact c_5)
    refine lv_aload_n hx hb dX3_level_8 rfl (lv_at hl 0 rfl) ?_
    refine va_get (D := D) (ci := 3) (v := .ref (G 1)) (C := RX3) (T := TX3) (N := 25) hx hb hts iw_X3_level_X3 hown hK hP 0 rfl rfl 1 (by decide) (hts (.fieldLink RX3 7 "SluiceRulesModel" "levels" "[I") (by decide +kernel)) (fun _ h9 => h9) rfl dX3_level_9 ?_
    refine lv_iload_n hx hb dX3_level_12 rfl (lv_at hl 1 rfl) ?_
    refine va_iald hx hb hK hP 1 0 rfl rfl (inB_vp.mp (inB_up hb8 b_5)) dX3_level_13 ?_
    refine lv_goto (tgt := 19) hx hb dX3_level_14 (by decide) ?_
    exact roI hx hb hr hlk dX3_level_19 (by rw [sp_level, if_pos (by rw [b_5])])

theorem iw_X3_counted_X3 : ∀ w ∈ u_ws RX3 TX3 25, w ∈ wsX3_counted := by decide +kernel
set_option maxRecDepth 100000 in
set_option maxHeartbeats 4000000 in
/-- counted -/
theorem c_X3_counted {l : Launch} {D : va_G} {G : Nat → Nat} {Z : Nat → ClassId} {mn fl : Int32} {va gv : Int64} {tp ts tw tm : Int32} {lv sl kd pt : Nat → Int32} {he : Nat → Int64} {ct fr to rl pi ph ps : Nat → Int32} {pm : Nat → Int64} {b n sN st : Nat} (hn40 : n ≤ 40) (x : Int32) : RoI l yX3_counted wsX3_counted (rk 2) D (mty Z) (mw G Z (nI b) mn (nI n) (nI sN) (nI st) fl va tp gv ts tw tm lv sl kd pt he ct fr to rl pi ph ps pm) [.ref (G 0), .int x] (fun r => r = sp_counted n kd ct x) := by
  refine roEnter (cc := cX3_counted) (maxL := 2) (ret := (some .int)) (by decide) rfl (Nat.le_of_ble_eq_true rfl) ?_
  intro p e s m below meth c hx hb hr hml hown hts hlk hP hK hN ls hl
  have hown : s.vm.findClass RX3 = some m.cls := hown
  have hl : lv_has ls 2 [(0, .ref (G 0)), (1, .int x)] := hl
  refine lv_aload_n hx hb dX3_counted_0 rfl (lv_at hl 0 rfl) ?_
  refine lv_iload_n hx hb dX3_counted_1 rfl (lv_at hl 1 rfl) ?_
  refine RoI.callV (As := [.int x]) (rest := []) (c_X3_isRule hn40 x) ⟨hx, hb, hml, hown, hts⟩ (cwV 1 hts gX3_counted_X3_isRule rfl rfl rfl (by decide +kernel) ⟨by decide, by decide⟩) hP hK hN 0 3 rfl rfl rfl hl.1 rfl (Nat.le_of_ble_eq_true rfl) dX3_counted_2 ⟨Nat.le_of_ble_eq_true rfl, Nat.le_of_ble_eq_true rfl⟩ (fun r_1 hr_1 => ?_)
  refine lv_if_eq (tgt := 28) hx hb dX3_counted_5 (by decide) (fun c_5 => ?_) (fun c_5 => ?_)
  · have b_5 : inB x n = false := bI_z (by rw [← hr_1]; exact c_5)
    refine lv_bipush (v := (-101)) hx hb dX3_counted_28 (by decide) ?_
    exact roI hx hb hr hlk dX3_counted_30 (by rw [sp_counted, if_neg (fun z => by rw [b_5] at z; exact absurd z.1 Bool.false_ne_true)])
  · have b_5 : inB x n = true := bI_n (by rw [← hr_1]; exact c_5)
    refine lv_aload_n hx hb dX3_counted_8 rfl (lv_at hl 0 rfl) ?_
    refine va_get (D := D) (ci := 3) (v := .ref (G 3)) (C := RX3) (T := TX3) (N := 25) hx hb hts iw_X3_counted_X3 hown hK hP 0 rfl rfl 5 (by decide) (hts (.fieldLink RX3 20 "SluiceRulesModel" "kindOf" "[I") (by decide +kernel)) (fun _ h9 => h9) rfl dX3_counted_9 ?_
    refine lv_iload_n hx hb dX3_counted_12 rfl (lv_at hl 1 rfl) ?_
    refine va_iald hx hb hK hP 3 2 rfl rfl (inB_vp.mp (inB_up hn40 b_5)) dX3_counted_13 ?_
    refine lv_bipush (v := 13) hx hb dX3_counted_14 (by decide) ?_
    refine lv_icmp_ne (tgt := 28) hx hb dX3_counted_16 (by decide) (fun c_16 => ?_) (fun c_16 => ?_)
    · refine lv_bipush (v := (-101)) hx hb dX3_counted_28 (by decide) ?_
      exact roI hx hb hr hlk dX3_counted_30 (by rw [sp_counted, if_neg (fun z => c_16 z.2)])
    · refine lv_aload_n hx hb dX3_counted_19 rfl (lv_at hl 0 rfl) ?_
      refine va_get (D := D) (ci := 3) (v := .ref (G 6)) (C := RX3) (T := TX3) (N := 25) hx hb hts iw_X3_counted_X3 hown hK hP 0 rfl rfl 8 (by decide) (hts (.fieldLink RX3 30 "SluiceRulesModel" "counter" "[I") (by decide +kernel)) (fun _ h9 => h9) rfl dX3_counted_20 ?_
      refine lv_iload_n hx hb dX3_counted_23 rfl (lv_at hl 1 rfl) ?_
      refine va_iald hx hb hK hP 6 5 rfl rfl (inB_vp.mp (inB_up hn40 b_5)) dX3_counted_24 ?_
      refine lv_goto (tgt := 30) hx hb dX3_counted_25 (by decide) ?_
      exact roI hx hb hr hlk dX3_counted_30 (by rw [sp_counted, if_pos ⟨b_5, c_16⟩])

theorem iw_X3_count_X3 : ∀ w ∈ u_ws RX3 TX3 25, w ∈ wsX3_count := by decide +kernel
set_option maxRecDepth 100000 in
set_option maxHeartbeats 4000000 in
/-- count -/
theorem c_X3_count {l : Launch} {D : va_G} {G : Nat → Nat} {Z : Nat → ClassId} {mn fl : Int32} {va gv : Int64} {tp ts tw tm : Int32} {lv sl kd pt : Nat → Int32} {he : Nat → Int64} {ct fr to rl pi ph ps : Nat → Int32} {pm : Nat → Int64} {b n sN st : Nat} (x : Int32) : RoI l yX3_count wsX3_count (rk 1) D (mty Z) (mw G Z (nI b) mn (nI n) (nI sN) (nI st) fl va tp gv ts tw tm lv sl kd pt he ct fr to rl pi ph ps pm) [.ref (G 0), .int x] (fun r => r = sp_count b n sN st sl x) := by
  refine roEnter (cc := cX3_count) (maxL := 2) (ret := (some .int)) (by decide) rfl (Nat.le_of_ble_eq_true rfl) ?_
  intro p e s m below meth c hx hb hr hml hown hts hlk hP hK hN ls hl
  have hown : s.vm.findClass RX3 = some m.cls := hown
  have hl : lv_has ls 2 [(0, .ref (G 0)), (1, .int x)] := hl
  refine lv_iload_n hx hb dX3_count_0 rfl (lv_at hl 1 rfl) ?_
  refine lv_bipush (v := 8) hx hb dX3_count_1 (by decide) ?_
  refine lv_bipush (v := 15) hx hb dX3_count_3 (by decide) ?_
  refine RoI.callS (As := [.int x, .int 8, .int 15]) (rest := []) (c_X3_in x 8 15) ⟨hx, hb, hml, hown, hts⟩ (va_cwS 3 hts gX3_count_X3_in rfl rfl rfl (by decide +kernel) ⟨by decide, by decide⟩) hP hK hN rfl hl.1 rfl (Nat.le_of_ble_eq_true rfl) dX3_count_5 ⟨Nat.le_of_ble_eq_true rfl, Nat.le_of_ble_eq_true rfl⟩ (fun r_1 hr_1 => ?_)
  refine lv_if_eq (tgt := 21) hx hb dX3_count_8 (by decide) (fun c_8 => ?_) (fun c_8 => ?_)
  · have b_8 : rgB x 8 15 = false := bI_z (by rw [← hr_1]; exact c_8)
    refine lv_iload_n hx hb dX3_count_21 rfl (lv_at hl 1 rfl) ?_
    refine lv_if_ne (tgt := 32) hx hb dX3_count_22 (by decide) (fun c_22 => ?_) (fun c_22 => ?_)
    · refine lv_iload_n hx hb dX3_count_32 rfl (lv_at hl 1 rfl) ?_
      refine lv_iconst (v := 1) hx hb dX3_count_33 (by decide) ?_
      refine lv_icmp_ne (tgt := 44) hx hb dX3_count_34 (by decide) (fun c_34 => ?_) (fun c_34 => ?_)
      · refine lv_iload_n hx hb dX3_count_44 rfl (lv_at hl 1 rfl) ?_
        refine lv_iconst (v := 2) hx hb dX3_count_45 (by decide) ?_
        refine lv_icmp_ne (tgt := 56) hx hb dX3_count_46 (by decide) (fun c_46 => ?_) (fun c_46 => ?_)
        · refine lv_iload_n hx hb dX3_count_56 rfl (lv_at hl 1 rfl) ?_
          refine lv_iconst (v := 3) hx hb dX3_count_57 (by decide) ?_
          refine lv_icmp_ne (tgt := 68) hx hb dX3_count_58 (by decide) (fun c_58 => ?_) (fun c_58 => ?_)
          · refine lv_bipush (v := (-101)) hx hb dX3_count_68 (by decide) ?_
            exact roI hx hb hr hlk dX3_count_70 (by rw [sp_count, if_neg (by rw [← rg_815, b_8]; exact Bool.false_ne_true), if_neg c_22, if_neg c_34, if_neg c_46, if_neg c_58])
          · refine lv_aload_n hx hb dX3_count_61 rfl (lv_at hl 0 rfl) ?_
            refine va_get (D := D) (ci := 3) (v := .int (nI st)) (C := RX3) (T := TX3) (N := 25) hx hb hts iw_X3_count_X3 hown hK hP 0 rfl rfl 13 (by decide) (hts (.fieldLink RX3 96 "SluiceRulesModel" "steps" "I") (by decide +kernel)) (fun _ h9 => h9) rfl dX3_count_62 ?_
            refine lv_goto (tgt := 70) hx hb dX3_count_65 (by decide) ?_
            exact roI hx hb hr hlk dX3_count_70 (by rw [sp_count, if_neg (by rw [← rg_815, b_8]; exact Bool.false_ne_true), if_neg c_22, if_neg c_34, if_neg c_46, if_pos c_58])
        · refine lv_aload_n hx hb dX3_count_49 rfl (lv_at hl 0 rfl) ?_
          refine va_get (D := D) (ci := 3) (v := .int (nI sN)) (C := RX3) (T := TX3) (N := 25) hx hb hts iw_X3_count_X3 hown hK hP 0 rfl rfl 9 (by decide) (hts (.fieldLink RX3 149 "SluiceRulesModel" "sluices" "I") (by decide +kernel)) (fun _ h9 => h9) rfl dX3_count_50 ?_
          refine lv_goto (tgt := 70) hx hb dX3_count_53 (by decide) ?_
          exact roI hx hb hr hlk dX3_count_70 (by rw [sp_count, if_neg (by rw [← rg_815, b_8]; exact Bool.false_ne_true), if_neg c_22, if_neg c_34, if_pos c_46])
      · refine lv_aload_n hx hb dX3_count_37 rfl (lv_at hl 0 rfl) ?_
        refine va_get (D := D) (ci := 3) (v := .int (nI n)) (C := RX3) (T := TX3) (N := 25) hx hb hts iw_X3_count_X3 hown hK hP 0 rfl rfl 4 (by decide) (hts (.fieldLink RX3 64 "SluiceRulesModel" "rules" "I") (by decide +kernel)) (fun _ h9 => h9) rfl dX3_count_38 ?_
        refine lv_goto (tgt := 70) hx hb dX3_count_41 (by decide) ?_
        exact roI hx hb hr hlk dX3_count_70 (by rw [sp_count, if_neg (by rw [← rg_815, b_8]; exact Bool.false_ne_true), if_neg c_22, if_pos c_34])
    · refine lv_aload_n hx hb dX3_count_25 rfl (lv_at hl 0 rfl) ?_
      refine va_get (D := D) (ci := 3) (v := .int (nI b)) (C := RX3) (T := TX3) (N := 25) hx hb hts iw_X3_count_X3 hown hK hP 0 rfl rfl 0 (by decide) (hts (.fieldLink RX3 57 "SluiceRulesModel" "basins" "I") (by decide +kernel)) (fun _ h9 => h9) rfl dX3_count_26 ?_
      refine lv_goto (tgt := 70) hx hb dX3_count_29 (by decide) ?_
      exact roI hx hb hr hlk dX3_count_70 (by rw [sp_count, if_neg (by rw [← rg_815, b_8]; exact Bool.false_ne_true), if_pos c_22])
  · have b_8 : rgB x 8 15 = true := bI_n (by rw [← hr_1]; exact c_8)
    have b_q : inB (x - 8) 8 = true := by rw [← rg_815, b_8]
    refine lv_aload_n hx hb dX3_count_11 rfl (lv_at hl 0 rfl) ?_
    refine va_get (D := D) (ci := 3) (v := .ref (G 2)) (C := RX3) (T := TX3) (N := 25) hx hb hts iw_X3_count_X3 hown hK hP 0 rfl rfl 3 (by decide) (hts (.fieldLink RX3 17 "SluiceRulesModel" "slot" "[I") (by decide +kernel)) (fun _ h9 => h9) rfl dX3_count_12 ?_
    refine lv_iload_n hx hb dX3_count_15 rfl (lv_at hl 1 rfl) ?_
    refine lv_bipush (v := 8) hx hb dX3_count_16 (by decide) ?_
    refine lv_isub hx hb dX3_count_18 ?_
    refine va_iald hx hb hK hP 2 1 rfl rfl (inB_vp.mp (b_q)) dX3_count_19 ?_
    exact roI hx hb hr hlk dX3_count_20 (by rw [sp_count, if_pos b_q])

theorem iw_X3_given_X3 : ∀ w ∈ u_ws RX3 TX3 25, w ∈ wsX3_given := by decide +kernel
set_option maxRecDepth 100000 in
set_option maxHeartbeats 4000000 in
/-- given -/
theorem c_X3_given {l : Launch} {D : va_G} {G : Nat → Nat} {Z : Nat → ClassId} {mn fl : Int32} {va gv : Int64} {tp ts tw tm : Int32} {lv sl kd pt : Nat → Int32} {he : Nat → Int64} {ct fr to rl pi ph ps : Nat → Int32} {pm : Nat → Int64} {b n sN st : Nat} : RoL l yX3_given wsX3_given (rk 0) D (mty Z) (mw G Z (nI b) mn (nI n) (nI sN) (nI st) fl va tp gv ts tw tm lv sl kd pt he ct fr to rl pi ph ps pm) [.ref (G 0)] (fun r => r = gv) := by
  refine roEnter (cc := cX3_given) (maxL := 1) (ret := (some .long)) (by decide) rfl (Nat.le_of_ble_eq_true rfl) ?_
  intro p e s m below meth c hx hb hr hml hown hts hlk hP hK hN ls hl
  have hown : s.vm.findClass RX3 = some m.cls := hown
  have hl : lv_has ls 1 [(0, .ref (G 0))] := hl
  refine lv_aload_n hx hb dX3_given_0 rfl (lv_at hl 0 rfl) ?_
  refine va_get (D := D) (ci := 3) (v := .long gv) (C := RX3) (T := TX3) (N := 25) hx hb hts iw_X3_given_X3 hown hK hP 0 rfl rfl 21 (by decide) (hts (.fieldLink RX3 146 "SluiceRulesModel" "given" "J") (by decide +kernel)) (fun _ h9 => h9) rfl dX3_given_1 ?_
  exact roL hx hb hr hlk dX3_given_4 rfl

theorem knB_dflt {b n : Nat} {kd : Nat → Int32} {k a bb c : Int32} (h1 : ¬ k = 1) (h4 : ¬ (k = 4 ∨ k = 5 ∨ k = 6 ∨ k = 7)) (h8 : ¬ (k = 8 ∨ k = 10 ∨ k = 11 ∨ k = 12 ∨ k = 13)) (h9 : ¬ k = 9) (h14 : ¬ k = 14) (h15 : ¬ k = 15) (h16 : ¬ k = 16) : bI (rgB k 0 16) = bI (knB b n kd k a bb c) := by
  unfold knB
  by_cases h0 : k = 0 ∨ k = 2 ∨ k = 3
  · rw [if_pos h0]; rcases h0 with z | z | z <;> rw [z] <;> rfl
  · rw [if_neg h0, if_neg h1, if_neg h4, if_neg h9, if_neg h8, if_neg h14, if_neg h15, if_neg h16]
    congr 1
    rw [rg_k (n := 17) (by decide)]
    by_cases q : inB k 17 = true
    · obtain ⟨j, hj, e⟩ := inB_of q (by decide)
      rw [e] at h0 h1 h4 h8 h9 h14 h15 h16
      exfalso
      have key : ∀ j : Nat, j < 17 → (nI j = 0 ∨ nI j = 2 ∨ nI j = 3) ∨ nI j = 1 ∨ (nI j = 4 ∨ nI j = 5 ∨ nI j = 6 ∨ nI j = 7) ∨ (nI j = 8 ∨ nI j = 10 ∨ nI j = 11 ∨ nI j = 12 ∨ nI j = 13) ∨ nI j = 9 ∨ nI j = 14 ∨ nI j = 15 ∨ nI j = 16 := by decide
      rcases key j hj with z | z | z | z | z | z | z | z
      · exact h0 z
      · exact h1 z
      · exact h4 z
      · exact h8 z
      · exact h9 z
      · exact h14 z
      · exact h15 z
      · exact h16 z
    · simpa using q

theorem iw_X3_areKnown_X3 : ∀ w ∈ u_ws RX3 TX3 25, w ∈ wsX3_areKnown := by decide +kernel
set_option maxRecDepth 100000 in
set_option maxHeartbeats 4000000 in
/-- areKnown -/
theorem c_X3_areKnown {l : Launch} {D : va_G} {G : Nat → Nat} {Z : Nat → ClassId} {mn fl : Int32} {va gv : Int64} {tp ts tw tm : Int32} {lv sl kd pt : Nat → Int32} {he : Nat → Int64} {ct fr to rl pi ph ps : Nat → Int32} {pm : Nat → Int64} {b n sN st : Nat} (hn40 : n ≤ 40) (hb8 : b ≤ 8) (k_ a_ b_ c_ : Int32) : RoI l yX3_areKnown wsX3_areKnown (rk 3) D (mty Z) (mw G Z (nI b) mn (nI n) (nI sN) (nI st) fl va tp gv ts tw tm lv sl kd pt he ct fr to rl pi ph ps pm) [.ref (G 0), .int k_, .int a_, .int b_, .int c_] (fun r => r = bI (knB b n kd k_ a_ b_ c_)) := by
  refine roEnter (cc := cX3_areKnown) (maxL := 5) (ret := (some .boolean)) (by decide) rfl (Nat.le_of_ble_eq_true rfl) ?_
  intro p e s m below meth c hx hb hr hml hown hts hlk hP hK hN ls hl
  have hown : s.vm.findClass RX3 = some m.cls := hown
  have hl : lv_has ls 5 [(0, .ref (G 0)), (1, .int k_), (2, .int a_), (3, .int b_), (4, .int c_)] := hl
  refine lv_iload_n hx hb dX3_areKnown_0 rfl (lv_at hl 1 rfl) ?_
  by_cases k_1_1 : k_ = 1
  · refine lv_tableIn (off := 79) (tgt := 80) hx hb dX3_areKnown_1 (by rw [k_1_1]; decide) (by rw [k_1_1]; decide) (by rw [k_1_1]; rfl) (by decide) ?_
    refine lv_aload_n hx hb dX3_areKnown_80 rfl (lv_at hl 0 rfl) ?_
    refine lv_iload_n hx hb dX3_areKnown_81 rfl (lv_at hl 2 rfl) ?_
    refine RoI.callV (As := [.int a_]) (rest := []) (c_X3_isBasin hb8 a_) ⟨hx, hb, hml, hown, hts⟩ (cwV 1 hts gX3_areKnown_X3_isBasin rfl rfl rfl (by decide +kernel) ⟨by decide, by decide⟩) hP hK hN 0 3 rfl rfl rfl hl.1 rfl (Nat.le_of_ble_eq_true rfl) dX3_areKnown_82 ⟨Nat.le_of_ble_eq_true rfl, Nat.le_of_ble_eq_true rfl⟩ (fun r_1 hr_1 => ?_)
    exact roZ hx hb hr hlk dX3_areKnown_85 (by rw [hr_1]; exact bI_nar _) (by rw [k_1_1]; rw [hr_1]; simp [knB])
  by_cases k_1_4 : k_ = 4 ∨ k_ = 5 ∨ k_ = 6 ∨ k_ = 7
  · refine lv_tableIn (off := 85) (tgt := 86) hx hb dX3_areKnown_1 (by rcases k_1_4 with z | z | z | z <;> rw [z] <;> decide) (by rcases k_1_4 with z | z | z | z <;> rw [z] <;> decide) (by rcases k_1_4 with z | z | z | z <;> rw [z] <;> rfl) (by decide) ?_
    refine lv_aload_n hx hb dX3_areKnown_86 rfl (lv_at hl 0 rfl) ?_
    refine lv_iload_n hx hb dX3_areKnown_87 rfl (lv_at hl 2 rfl) ?_
    refine RoI.callV (As := [.int a_]) (rest := []) (c_X3_isPart hn40 a_) ⟨hx, hb, hml, hown, hts⟩ (cwV 1 hts gX3_areKnown_X3_isPart rfl rfl rfl (by decide +kernel) ⟨by decide, by decide⟩) hP hK hN 0 3 rfl rfl rfl hl.1 rfl (Nat.le_of_ble_eq_true rfl) dX3_areKnown_88 ⟨Nat.le_of_ble_eq_true rfl, Nat.le_of_ble_eq_true rfl⟩ (fun r_2 hr_2 => ?_)
    refine lv_if_eq (tgt := 106) hx hb dX3_areKnown_91 (by decide) (fun c_91 => ?_) (fun c_91 => ?_)
    · have b_91 : ptB a_ n = false := bI_z (by rw [← hr_2]; exact c_91)
      refine lv_iconst (v := 0) hx hb dX3_areKnown_106 (by decide) ?_
      exact roZ hx hb hr hlk dX3_areKnown_107 (nar0) (by rcases k_1_4 with z | z | z | z <;> rw [z] <;> simp [knB, bI, b_91])
    · have b_91 : ptB a_ n = true := bI_n (by rw [← hr_2]; exact c_91)
      refine lv_aload_n hx hb dX3_areKnown_94 rfl (lv_at hl 0 rfl) ?_
      refine lv_iload_n hx hb dX3_areKnown_95 rfl (lv_at hl 3 rfl) ?_
      refine RoI.callV (As := [.int b_]) (rest := []) (c_X3_isPart hn40 b_) ⟨hx, hb, hml, hown, hts⟩ (cwV 1 hts gX3_areKnown_X3_isPart rfl rfl rfl (by decide +kernel) ⟨by decide, by decide⟩) hP hK hN 0 3 rfl rfl rfl hl.1 rfl (Nat.le_of_ble_eq_true rfl) dX3_areKnown_96 ⟨Nat.le_of_ble_eq_true rfl, Nat.le_of_ble_eq_true rfl⟩ (fun r_3 hr_3 => ?_)
      refine lv_if_eq (tgt := 106) hx hb dX3_areKnown_99 (by decide) (fun c_99 => ?_) (fun c_99 => ?_)
      · have b_99 : ptB b_ n = false := bI_z (by rw [← hr_3]; exact c_99)
        refine lv_iconst (v := 0) hx hb dX3_areKnown_106 (by decide) ?_
        exact roZ hx hb hr hlk dX3_areKnown_107 (nar0) (by rcases k_1_4 with z | z | z | z <;> rw [z] <;> simp [knB, bI, b_91, b_99])
      · have b_99 : ptB b_ n = true := bI_n (by rw [← hr_3]; exact c_99)
        refine lv_iconst (v := 1) hx hb dX3_areKnown_102 (by decide) ?_
        refine lv_goto (tgt := 107) hx hb dX3_areKnown_103 (by decide) ?_
        exact roZ hx hb hr hlk dX3_areKnown_107 (nar1) (by rcases k_1_4 with z | z | z | z <;> rw [z] <;> simp [knB, bI, b_91, b_99])
  by_cases k_1_8 : k_ = 8 ∨ k_ = 10 ∨ k_ = 11 ∨ k_ = 12 ∨ k_ = 13
  · refine lv_tableIn (off := 138) (tgt := 139) hx hb dX3_areKnown_1 (by rcases k_1_8 with z | z | z | z | z <;> rw [z] <;> decide) (by rcases k_1_8 with z | z | z | z | z <;> rw [z] <;> decide) (by rcases k_1_8 with z | z | z | z | z <;> rw [z] <;> rfl) (by decide) ?_
    refine lv_aload_n hx hb dX3_areKnown_139 rfl (lv_at hl 0 rfl) ?_
    refine lv_iload_n hx hb dX3_areKnown_140 rfl (lv_at hl 2 rfl) ?_
    refine RoI.callV (As := [.int a_]) (rest := []) (c_X3_isPart hn40 a_) ⟨hx, hb, hml, hown, hts⟩ (cwV 1 hts gX3_areKnown_X3_isPart rfl rfl rfl (by decide +kernel) ⟨by decide, by decide⟩) hP hK hN 0 3 rfl rfl rfl hl.1 rfl (Nat.le_of_ble_eq_true rfl) dX3_areKnown_141 ⟨Nat.le_of_ble_eq_true rfl, Nat.le_of_ble_eq_true rfl⟩ (fun r_4 hr_4 => ?_)
    exact roZ hx hb hr hlk dX3_areKnown_144 (by rw [hr_4]; exact bI_nar _) (by rcases k_1_8 with z | z | z | z | z <;> rw [z] <;> rw [hr_4] <;> simp [knB])
  by_cases k_1_9 : k_ = 9
  · refine lv_tableIn (off := 107) (tgt := 108) hx hb dX3_areKnown_1 (by rw [k_1_9]; decide) (by rw [k_1_9]; decide) (by rw [k_1_9]; rfl) (by decide) ?_
    refine lv_aload_n hx hb dX3_areKnown_108 rfl (lv_at hl 0 rfl) ?_
    refine lv_iload_n hx hb dX3_areKnown_109 rfl (lv_at hl 2 rfl) ?_
    refine RoI.callV (As := [.int a_]) (rest := []) (c_X3_isPart hn40 a_) ⟨hx, hb, hml, hown, hts⟩ (cwV 1 hts gX3_areKnown_X3_isPart rfl rfl rfl (by decide +kernel) ⟨by decide, by decide⟩) hP hK hN 0 3 rfl rfl rfl hl.1 rfl (Nat.le_of_ble_eq_true rfl) dX3_areKnown_110 ⟨Nat.le_of_ble_eq_true rfl, Nat.le_of_ble_eq_true rfl⟩ (fun r_5 hr_5 => ?_)
    refine lv_if_eq (tgt := 137) hx hb dX3_areKnown_113 (by decide) (fun c_113 => ?_) (fun c_113 => ?_)
    · have b_113 : ptB a_ n = false := bI_z (by rw [← hr_5]; exact c_113)
      refine lv_iconst (v := 0) hx hb dX3_areKnown_137 (by decide) ?_
      exact roZ hx hb hr hlk dX3_areKnown_138 (nar0) (by rw [k_1_9]; simp [knB, bI, b_113])
    · have b_113 : ptB a_ n = true := bI_n (by rw [← hr_5]; exact c_113)
      refine lv_aload_n hx hb dX3_areKnown_116 rfl (lv_at hl 0 rfl) ?_
      refine lv_iload_n hx hb dX3_areKnown_117 rfl (lv_at hl 3 rfl) ?_
      refine RoI.callV (As := [.int b_]) (rest := []) (c_X3_isPart hn40 b_) ⟨hx, hb, hml, hown, hts⟩ (cwV 1 hts gX3_areKnown_X3_isPart rfl rfl rfl (by decide +kernel) ⟨by decide, by decide⟩) hP hK hN 0 3 rfl rfl rfl hl.1 rfl (Nat.le_of_ble_eq_true rfl) dX3_areKnown_118 ⟨Nat.le_of_ble_eq_true rfl, Nat.le_of_ble_eq_true rfl⟩ (fun r_6 hr_6 => ?_)
      refine lv_if_eq (tgt := 137) hx hb dX3_areKnown_121 (by decide) (fun c_121 => ?_) (fun c_121 => ?_)
      · have b_121 : ptB b_ n = false := bI_z (by rw [← hr_6]; exact c_121)
        refine lv_iconst (v := 0) hx hb dX3_areKnown_137 (by decide) ?_
        exact roZ hx hb hr hlk dX3_areKnown_138 (nar0) (by rw [k_1_9]; simp [knB, bI, b_113, b_121])
      · have b_121 : ptB b_ n = true := bI_n (by rw [← hr_6]; exact c_121)
        refine lv_aload_n hx hb dX3_areKnown_124 rfl (lv_at hl 0 rfl) ?_
        refine lv_iload hx hb dX3_areKnown_125 (lv_at hl 4 rfl) ?_
        refine RoI.callV (As := [.int c_]) (rest := []) (c_X3_isPart hn40 c_) ⟨hx, hb, hml, hown, hts⟩ (cwV 1 hts gX3_areKnown_X3_isPart rfl rfl rfl (by decide +kernel) ⟨by decide, by decide⟩) hP hK hN 0 3 rfl rfl rfl hl.1 rfl (Nat.le_of_ble_eq_true rfl) dX3_areKnown_127 ⟨Nat.le_of_ble_eq_true rfl, Nat.le_of_ble_eq_true rfl⟩ (fun r_7 hr_7 => ?_)
        refine lv_if_eq (tgt := 137) hx hb dX3_areKnown_130 (by decide) (fun c_130 => ?_) (fun c_130 => ?_)
        · have b_130 : ptB c_ n = false := bI_z (by rw [← hr_7]; exact c_130)
          refine lv_iconst (v := 0) hx hb dX3_areKnown_137 (by decide) ?_
          exact roZ hx hb hr hlk dX3_areKnown_138 (nar0) (by rw [k_1_9]; simp [knB, bI, b_113, b_121, b_130])
        · have b_130 : ptB c_ n = true := bI_n (by rw [← hr_7]; exact c_130)
          refine lv_iconst (v := 1) hx hb dX3_areKnown_133 (by decide) ?_
          refine lv_goto (tgt := 138) hx hb dX3_areKnown_134 (by decide) ?_
          exact roZ hx hb hr hlk dX3_areKnown_138 (nar1) (by rw [k_1_9]; simp [knB, bI, b_113, b_121, b_130])
  by_cases k_1_14 : k_ = 14
  · refine lv_tableIn (off := 144) (tgt := 145) hx hb dX3_areKnown_1 (by rw [k_1_14]; decide) (by rw [k_1_14]; decide) (by rw [k_1_14]; rfl) (by decide) ?_
    refine lv_aload_n hx hb dX3_areKnown_145 rfl (lv_at hl 0 rfl) ?_
    refine lv_iload_n hx hb dX3_areKnown_146 rfl (lv_at hl 2 rfl) ?_
    refine RoI.callV (As := [.int a_]) (rest := []) (c_X3_isRule hn40 a_) ⟨hx, hb, hml, hown, hts⟩ (cwV 1 hts gX3_areKnown_X3_isRule rfl rfl rfl (by decide +kernel) ⟨by decide, by decide⟩) hP hK hN 0 3 rfl rfl rfl hl.1 rfl (Nat.le_of_ble_eq_true rfl) dX3_areKnown_147 ⟨Nat.le_of_ble_eq_true rfl, Nat.le_of_ble_eq_true rfl⟩ (fun r_8 hr_8 => ?_)
    refine lv_if_eq (tgt := 168) hx hb dX3_areKnown_150 (by decide) (fun c_150 => ?_) (fun c_150 => ?_)
    · have b_150 : inB a_ n = false := bI_z (by rw [← hr_8]; exact c_150)
      refine lv_iconst (v := 0) hx hb dX3_areKnown_168 (by decide) ?_
      exact roZ hx hb hr hlk dX3_areKnown_169 (nar0) (by rw [k_1_14]; simp [knB, bI, b_150])
    · have b_150 : inB a_ n = true := bI_n (by rw [← hr_8]; exact c_150)
      refine lv_aload_n hx hb dX3_areKnown_153 rfl (lv_at hl 0 rfl) ?_
      refine va_get (D := D) (ci := 3) (v := .ref (G 3)) (C := RX3) (T := TX3) (N := 25) hx hb hts iw_X3_areKnown_X3 hown hK hP 0 rfl rfl 5 (by decide) (hts (.fieldLink RX3 20 "SluiceRulesModel" "kindOf" "[I") (by decide +kernel)) (fun _ h9 => h9) rfl dX3_areKnown_154 ?_
      refine lv_iload_n hx hb dX3_areKnown_157 rfl (lv_at hl 2 rfl) ?_
      refine va_iald hx hb hK hP 3 2 rfl rfl (inB_vp.mp (inB_up hn40 b_150)) dX3_areKnown_158 ?_
      refine lv_bipush (v := 13) hx hb dX3_areKnown_159 (by decide) ?_
      refine lv_icmp_ne (tgt := 168) hx hb dX3_areKnown_161 (by decide) (fun c_161 => ?_) (fun c_161 => ?_)
      · refine lv_iconst (v := 0) hx hb dX3_areKnown_168 (by decide) ?_
        exact roZ hx hb hr hlk dX3_areKnown_169 (nar0) (by rw [k_1_14]; simp [knB, bI, b_150, c_161])
      · refine lv_iconst (v := 1) hx hb dX3_areKnown_164 (by decide) ?_
        refine lv_goto (tgt := 169) hx hb dX3_areKnown_165 (by decide) ?_
        exact roZ hx hb hr hlk dX3_areKnown_169 (nar1) (by rw [k_1_14]; simp [knB, bI, b_150, c_161])
  by_cases k_1_15 : k_ = 15
  · refine lv_tableIn (off := 169) (tgt := 170) hx hb dX3_areKnown_1 (by rw [k_1_15]; decide) (by rw [k_1_15]; decide) (by rw [k_1_15]; rfl) (by decide) ?_
    refine lv_iload_n hx hb dX3_areKnown_170 rfl (lv_at hl 2 rfl) ?_
    refine RoI.callS (As := [.int a_]) (rest := []) (c_X3_isSlot a_) ⟨hx, hb, hml, hown, hts⟩ (va_cwS 1 hts gX3_areKnown_X3_isSlot rfl rfl rfl (by decide +kernel) ⟨by decide, by decide⟩) hP hK hN rfl hl.1 rfl (Nat.le_of_ble_eq_true rfl) dX3_areKnown_171 ⟨Nat.le_of_ble_eq_true rfl, Nat.le_of_ble_eq_true rfl⟩ (fun r_9 hr_9 => ?_)
    exact roZ hx hb hr hlk dX3_areKnown_174 (by rw [hr_9]; exact bI_nar _) (by rw [k_1_15]; rw [hr_9]; simp [knB])
  by_cases k_1_16 : k_ = 16
  · refine lv_tableIn (off := 174) (tgt := 175) hx hb dX3_areKnown_1 (by rw [k_1_16]; decide) (by rw [k_1_16]; decide) (by rw [k_1_16]; rfl) (by decide) ?_
    refine lv_iload_n hx hb dX3_areKnown_175 rfl (lv_at hl 2 rfl) ?_
    refine RoI.callS (As := [.int a_]) (rest := []) (c_X3_isSlot a_) ⟨hx, hb, hml, hown, hts⟩ (va_cwS 1 hts gX3_areKnown_X3_isSlot rfl rfl rfl (by decide +kernel) ⟨by decide, by decide⟩) hP hK hN rfl hl.1 rfl (Nat.le_of_ble_eq_true rfl) dX3_areKnown_176 ⟨Nat.le_of_ble_eq_true rfl, Nat.le_of_ble_eq_true rfl⟩ (fun r_10 hr_10 => ?_)
    refine lv_if_eq (tgt := 193) hx hb dX3_areKnown_179 (by decide) (fun c_179 => ?_) (fun c_179 => ?_)
    · have b_179 : inB a_ 8 = false := bI_z (by rw [← hr_10]; exact c_179)
      refine lv_iconst (v := 0) hx hb dX3_areKnown_193 (by decide) ?_
      exact roZ hx hb hr hlk dX3_areKnown_194 (nar0) (by rw [k_1_16]; simp [knB, bI, b_179])
    · have b_179 : inB a_ 8 = true := bI_n (by rw [← hr_10]; exact c_179)
      refine lv_iload_n hx hb dX3_areKnown_182 rfl (lv_at hl 3 rfl) ?_
      refine RoI.callS (As := [.int b_]) (rest := []) (c_X3_isSlot b_) ⟨hx, hb, hml, hown, hts⟩ (va_cwS 1 hts gX3_areKnown_X3_isSlot rfl rfl rfl (by decide +kernel) ⟨by decide, by decide⟩) hP hK hN rfl hl.1 rfl (Nat.le_of_ble_eq_true rfl) dX3_areKnown_183 ⟨Nat.le_of_ble_eq_true rfl, Nat.le_of_ble_eq_true rfl⟩ (fun r_11 hr_11 => ?_)
      refine lv_if_eq (tgt := 193) hx hb dX3_areKnown_186 (by decide) (fun c_186 => ?_) (fun c_186 => ?_)
      · have b_186 : inB b_ 8 = false := bI_z (by rw [← hr_11]; exact c_186)
        refine lv_iconst (v := 0) hx hb dX3_areKnown_193 (by decide) ?_
        exact roZ hx hb hr hlk dX3_areKnown_194 (nar0) (by rw [k_1_16]; simp [knB, bI, b_179, b_186])
      · have b_186 : inB b_ 8 = true := bI_n (by rw [← hr_11]; exact c_186)
        refine lv_iconst (v := 1) hx hb dX3_areKnown_189 (by decide) ?_
        refine lv_goto (tgt := 194) hx hb dX3_areKnown_190 (by decide) ?_
        exact roZ hx hb hr hlk dX3_areKnown_194 (nar1) (by rw [k_1_16]; simp [knB, bI, b_179, b_186])
  · have z_1 : ¬ k_.toInt = 1 ∧ ¬ k_.toInt = 4 ∧ ¬ k_.toInt = 5 ∧ ¬ k_.toInt = 6 ∧ ¬ k_.toInt = 7 ∧ ¬ k_.toInt = 8 ∧ ¬ k_.toInt = 9 ∧ ¬ k_.toInt = 10 ∧ ¬ k_.toInt = 11 ∧ ¬ k_.toInt = 12 ∧ ¬ k_.toInt = 13 ∧ ¬ k_.toInt = 14 ∧ ¬ k_.toInt = 15 ∧ ¬ k_.toInt = 16 := by
      exact ⟨lv_neT k_1_1 (by decide), lv_neT (k := 4) (fun z => k_1_4 (by simp [z])) (by decide), lv_neT (k := 5) (fun z => k_1_4 (by simp [z])) (by decide), lv_neT (k := 6) (fun z => k_1_4 (by simp [z])) (by decide), lv_neT (k := 7) (fun z => k_1_4 (by simp [z])) (by decide), lv_neT (k := 8) (fun z => k_1_8 (by simp [z])) (by decide), lv_neT k_1_9 (by decide), lv_neT (k := 10) (fun z => k_1_8 (by simp [z])) (by decide), lv_neT (k := 11) (fun z => k_1_8 (by simp [z])) (by decide), lv_neT (k := 12) (fun z => k_1_8 (by simp [z])) (by decide), lv_neT (k := 13) (fun z => k_1_8 (by simp [z])) (by decide), lv_neT k_1_14 (by decide), lv_neT k_1_15 (by decide), lv_neT k_1_16 (by decide)⟩
    by_cases zo_1 : k_.toInt < 1 ∨ 16 < k_.toInt
    · refine lv_tableOut (tgt := 195) hx hb dX3_areKnown_1 zo_1 (by decide) ?_
      refine lv_iload_n hx hb dX3_areKnown_195 rfl (lv_at hl 1 rfl) ?_
      refine lv_iconst (v := 0) hx hb dX3_areKnown_196 (by decide) ?_
      refine lv_bipush (v := 16) hx hb dX3_areKnown_197 (by decide) ?_
      refine RoI.callS (As := [.int k_, .int 0, .int 16]) (rest := []) (c_X3_in k_ 0 16) ⟨hx, hb, hml, hown, hts⟩ (va_cwS 3 hts gX3_areKnown_X3_in rfl rfl rfl (by decide +kernel) ⟨by decide, by decide⟩) hP hK hN rfl hl.1 rfl (Nat.le_of_ble_eq_true rfl) dX3_areKnown_199 ⟨Nat.le_of_ble_eq_true rfl, Nat.le_of_ble_eq_true rfl⟩ (fun r_12 hr_12 => ?_)
      exact roZ hx hb hr hlk dX3_areKnown_202 (by rw [hr_12]; exact bI_nar _) (by rw [hr_12]; exact knB_dflt k_1_1 k_1_4 k_1_8 k_1_9 k_1_14 k_1_15 k_1_16)
    · have zi_1 : k_.toInt = 2 ∨ k_.toInt = 3 := by omega
      refine lv_tableIn (off := 194) (tgt := 195) hx hb dX3_areKnown_1 (by omega) (by omega) (by rcases zi_1 with z | z <;> rw [z] <;> rfl) (by decide) ?_
      refine lv_iload_n hx hb dX3_areKnown_195 rfl (lv_at hl 1 rfl) ?_
      refine lv_iconst (v := 0) hx hb dX3_areKnown_196 (by decide) ?_
      refine lv_bipush (v := 16) hx hb dX3_areKnown_197 (by decide) ?_
      refine RoI.callS (As := [.int k_, .int 0, .int 16]) (rest := []) (c_X3_in k_ 0 16) ⟨hx, hb, hml, hown, hts⟩ (va_cwS 3 hts gX3_areKnown_X3_in rfl rfl rfl (by decide +kernel) ⟨by decide, by decide⟩) hP hK hN rfl hl.1 rfl (Nat.le_of_ble_eq_true rfl) dX3_areKnown_199 ⟨Nat.le_of_ble_eq_true rfl, Nat.le_of_ble_eq_true rfl⟩ (fun r_13 hr_13 => ?_)
      exact roZ hx hb hr hlk dX3_areKnown_202 (by rw [hr_13]; exact bI_nar _) (by rw [hr_13]; exact knB_dflt k_1_1 k_1_4 k_1_8 k_1_9 k_1_14 k_1_15 k_1_16)

theorem iw_X3_sluice_X3 : ∀ w ∈ u_ws RX3 TX3 25, w ∈ wsX3_sluice := by decide +kernel
set_option maxRecDepth 100000 in
set_option maxHeartbeats 4000000 in
/-- sluice -/
theorem c_X3_sluice {l : Launch} {D : va_G} {G : Nat → Nat} {Z : Nat → ClassId} {mn fl : Int32} {va gv : Int64} {tp ts tw tm : Int32} {lv sl kd pt : Nat → Int32} {he : Nat → Int64} {ct fr to rl pi ph ps : Nat → Int32} {pm : Nat → Int64} {b n sN st : Nat} (hn40 : n ≤ 40) (hb8 : b ≤ 8) (hs8 : sN ≤ 8) (f_ t_ r_ : Int32) : WrI l yX3_sluice wsX3_sluice (rk 2) D (mty Z) (mw G Z (nI b) mn (nI n) (nI sN) (nI st) fl va tp gv ts tw tm lv sl kd pt he ct fr to rl pi ph ps pm) [.ref (G 0), .int f_, .int t_, .int r_] (σ := Nat × (Nat → Int32) × (Nat → Int32) × (Nat → Int32)) (fun u => mw G Z (nI b) mn (nI n) (nI u.1) (nI st) fl va tp gv ts tw tm lv sl kd pt he ct u.2.1 u.2.2.1 u.2.2.2 pi ph ps pm) (fun r u => (r, u) = sp_sluice b n sN fr to rl f_ t_ r_) 0 0 := by
  intro sz
  refine wrEnter (cc := cX3_sluice) (maxL := 4) (ret := (some .int)) (by decide) rfl (Nat.le_of_ble_eq_true rfl) ?_
  intro p e s m below meth c hx hb hr hml hown hts hlk hP hK hN hsz hD hS hA hin ls hl
  have hown : s.vm.findClass RX3 = some m.cls := hown
  have hl : lv_has ls 4 [(0, .ref (G 0)), (1, .int f_), (2, .int t_), (3, .int r_)] := hl
  refine lv_aload_n hx hb dX3_sluice_0 rfl (lv_at hl 0 rfl) ?_
  refine lv_iload_n hx hb dX3_sluice_1 rfl (lv_at hl 1 rfl) ?_
  refine RoI.callV (As := [.int f_]) (rest := []) (c_X3_isBasin hb8 f_) ⟨hx, hb, hml, hown, hts⟩ (cwV 1 hts gX3_sluice_X3_isBasin rfl rfl rfl (by decide +kernel) ⟨by decide, by decide⟩) hP hK hN 0 3 rfl rfl rfl hl.1 rfl (Nat.le_of_ble_eq_true rfl) dX3_sluice_2 ⟨Nat.le_of_ble_eq_true rfl, Nat.le_of_ble_eq_true rfl⟩ (fun r_1 hr_1 => ?_)
  refine lv_if_eq (tgt := 24) hx hb dX3_sluice_5 (by decide) (fun c_5 => ?_) (fun c_5 => ?_)
  · have b_5 : inB f_ b = false := bI_z (by rw [← hr_1]; exact c_5)
    refine lv_bipush (v := (-101)) hx hb dX3_sluice_24 (by decide) ?_
    exact wrI ((sN, fr, to, rl)) hx hb hr hlk dX3_sluice_26 hP hD hS (by rw [sp_sluice, if_neg (fun z => by rw [b_5] at z; exact absurd z.1 Bool.false_ne_true)])
  · have b_5 : inB f_ b = true := bI_n (by rw [← hr_1]; exact c_5)
    refine lv_aload_n hx hb dX3_sluice_8 rfl (lv_at hl 0 rfl) ?_
    refine lv_iload_n hx hb dX3_sluice_9 rfl (lv_at hl 2 rfl) ?_
    refine RoI.callV (As := [.int t_]) (rest := []) (c_X3_isBasin hb8 t_) ⟨hx, hb, hml, hown, hts⟩ (cwV 1 hts gX3_sluice_X3_isBasin rfl rfl rfl (by decide +kernel) ⟨by decide, by decide⟩) hP hK hN 0 3 rfl rfl rfl hl.1 rfl (Nat.le_of_ble_eq_true rfl) dX3_sluice_10 ⟨Nat.le_of_ble_eq_true rfl, Nat.le_of_ble_eq_true rfl⟩ (fun r_2 hr_2 => ?_)
    refine lv_if_eq (tgt := 24) hx hb dX3_sluice_13 (by decide) (fun c_13 => ?_) (fun c_13 => ?_)
    · have b_13 : inB t_ b = false := bI_z (by rw [← hr_2]; exact c_13)
      refine lv_bipush (v := (-101)) hx hb dX3_sluice_24 (by decide) ?_
      exact wrI ((sN, fr, to, rl)) hx hb hr hlk dX3_sluice_26 hP hD hS (by rw [sp_sluice, if_neg (fun z => by rw [b_13] at z; exact absurd z.2.1 Bool.false_ne_true)])
    · have b_13 : inB t_ b = true := bI_n (by rw [← hr_2]; exact c_13)
      refine lv_aload_n hx hb dX3_sluice_16 rfl (lv_at hl 0 rfl) ?_
      refine lv_iload_n hx hb dX3_sluice_17 rfl (lv_at hl 3 rfl) ?_
      refine RoI.callV (As := [.int r_]) (rest := []) (c_X3_isRule hn40 r_) ⟨hx, hb, hml, hown, hts⟩ (cwV 1 hts gX3_sluice_X3_isRule rfl rfl rfl (by decide +kernel) ⟨by decide, by decide⟩) hP hK hN 0 3 rfl rfl rfl hl.1 rfl (Nat.le_of_ble_eq_true rfl) dX3_sluice_18 ⟨Nat.le_of_ble_eq_true rfl, Nat.le_of_ble_eq_true rfl⟩ (fun r_3 hr_3 => ?_)
      refine lv_if_ne (tgt := 27) hx hb dX3_sluice_21 (by decide) (fun c_21 => ?_) (fun c_21 => ?_)
      · have b_21 : inB r_ n = true := bI_n (by rw [← hr_3]; exact c_21)
        refine lv_iload_n hx hb dX3_sluice_27 rfl (lv_at hl 1 rfl) ?_
        refine lv_iload_n hx hb dX3_sluice_28 rfl (lv_at hl 2 rfl) ?_
        refine lv_icmp_ne (tgt := 35) hx hb dX3_sluice_29 (by decide) (fun c_29 => ?_) (fun c_29 => ?_)
        · refine lv_aload_n hx hb dX3_sluice_35 rfl (lv_at hl 0 rfl) ?_
          refine va_get (D := D) (ci := 3) (v := .int (nI sN)) (C := RX3) (T := TX3) (N := 25) hx hb hts iw_X3_sluice_X3 hown hK hP 0 rfl rfl 9 (by decide) (hts (.fieldLink RX3 149 "SluiceRulesModel" "sluices" "I") (by decide +kernel)) (fun _ h9 => h9) rfl dX3_sluice_36 ?_
          refine lv_bipush (v := 8) hx hb dX3_sluice_39 (by decide) ?_
          refine lv_icmp_ne (tgt := 47) hx hb dX3_sluice_41 (by decide) (fun c_41 => ?_) (fun c_41 => ?_)
          · have s_n8 : ¬ sN = 8 := fun z => c_41 (by rw [z]; rfl)
            have s_l8 : sN < 8 := by omega
            refine lv_aload_n hx hb dX3_sluice_47 rfl (lv_at hl 0 rfl) ?_
            refine va_get (D := D) (ci := 3) (v := .ref (G 7)) (C := RX3) (T := TX3) (N := 25) hx hb hts iw_X3_sluice_X3 hown hK hP 0 rfl rfl 10 (by decide) (hts (.fieldLink RX3 33 "SluiceRulesModel" "fromOf" "[I") (by decide +kernel)) (fun _ h9 => h9) rfl dX3_sluice_48 ?_
            refine lv_aload_n hx hb dX3_sluice_51 rfl (lv_at hl 0 rfl) ?_
            refine va_get (D := D) (ci := 3) (v := .int (nI sN)) (C := RX3) (T := TX3) (N := 25) hx hb hts iw_X3_sluice_X3 hown hK hP 0 rfl rfl 9 (by decide) (hts (.fieldLink RX3 149 "SluiceRulesModel" "sluices" "I") (by decide +kernel)) (fun _ h9 => h9) rfl dX3_sluice_52 ?_
            refine lv_iload_n hx hb dX3_sluice_55 rfl (lv_at hl 1 rfl) ?_
            refine my_iast (j := sN) hx hb hK hP hD hS 7 6 rfl rfl (rfl) (s_l8) (by decide) dX3_sluice_56 (fun H locs hP hD hS => ?_)
            have hP : va_P D vwCl (mw G Z (nI b) mn (nI n) (nI sN) (nI st) fl va tp gv ts tw tm lv sl kd pt he ct (upd fr sN f_) to rl pi ph ps pm) H := hP
            have hD : va_D (va_A (mw G Z (nI b) mn (nI n) (nI sN) (nI st) fl va tp gv ts tw tm lv sl kd pt he ct fr to rl pi ph ps pm) sz) (mw G Z (nI b) mn (nI n) (nI sN) (nI st) fl va tp gv ts tw tm lv sl kd pt he ct (upd fr sN f_) to rl pi ph ps pm) := hD
            refine lv_aload_n hx hb dX3_sluice_57 rfl (lv_at hl 0 rfl) ?_
            refine va_get (D := D) (ci := 3) (v := .ref (G 8)) (C := RX3) (T := TX3) (N := 25) hx hb hts iw_X3_sluice_X3 hown hK hP 0 rfl rfl 11 (by decide) (hts (.fieldLink RX3 36 "SluiceRulesModel" "toOf" "[I") (by decide +kernel)) (fun _ h9 => h9) rfl dX3_sluice_58 ?_
            refine lv_aload_n hx hb dX3_sluice_61 rfl (lv_at hl 0 rfl) ?_
            refine va_get (D := D) (ci := 3) (v := .int (nI sN)) (C := RX3) (T := TX3) (N := 25) hx hb hts iw_X3_sluice_X3 hown hK hP 0 rfl rfl 9 (by decide) (hts (.fieldLink RX3 149 "SluiceRulesModel" "sluices" "I") (by decide +kernel)) (fun _ h9 => h9) rfl dX3_sluice_62 ?_
            refine lv_iload_n hx hb dX3_sluice_65 rfl (lv_at hl 2 rfl) ?_
            refine my_iast (j := sN) hx hb hK hP hD hS 8 7 rfl rfl (rfl) (s_l8) (by decide) dX3_sluice_66 (fun H locs hP hD hS => ?_)
            have hP : va_P D vwCl (mw G Z (nI b) mn (nI n) (nI sN) (nI st) fl va tp gv ts tw tm lv sl kd pt he ct (upd fr sN f_) (upd to sN t_) rl pi ph ps pm) H := hP
            have hD : va_D (va_A (mw G Z (nI b) mn (nI n) (nI sN) (nI st) fl va tp gv ts tw tm lv sl kd pt he ct fr to rl pi ph ps pm) sz) (mw G Z (nI b) mn (nI n) (nI sN) (nI st) fl va tp gv ts tw tm lv sl kd pt he ct (upd fr sN f_) (upd to sN t_) rl pi ph ps pm) := hD
            refine lv_aload_n hx hb dX3_sluice_67 rfl (lv_at hl 0 rfl) ?_
            refine va_get (D := D) (ci := 3) (v := .ref (G 9)) (C := RX3) (T := TX3) (N := 25) hx hb hts iw_X3_sluice_X3 hown hK hP 0 rfl rfl 12 (by decide) (hts (.fieldLink RX3 39 "SluiceRulesModel" "ruleOf" "[I") (by decide +kernel)) (fun _ h9 => h9) rfl dX3_sluice_68 ?_
            refine lv_aload_n hx hb dX3_sluice_71 rfl (lv_at hl 0 rfl) ?_
            refine va_get (D := D) (ci := 3) (v := .int (nI sN)) (C := RX3) (T := TX3) (N := 25) hx hb hts iw_X3_sluice_X3 hown hK hP 0 rfl rfl 9 (by decide) (hts (.fieldLink RX3 149 "SluiceRulesModel" "sluices" "I") (by decide +kernel)) (fun _ h9 => h9) rfl dX3_sluice_72 ?_
            refine lv_iload_n hx hb dX3_sluice_75 rfl (lv_at hl 3 rfl) ?_
            refine my_iast (j := sN) hx hb hK hP hD hS 9 8 rfl rfl (rfl) (s_l8) (by decide) dX3_sluice_76 (fun H locs hP hD hS => ?_)
            have hP : va_P D vwCl (mw G Z (nI b) mn (nI n) (nI sN) (nI st) fl va tp gv ts tw tm lv sl kd pt he ct (upd fr sN f_) (upd to sN t_) (upd rl sN r_) pi ph ps pm) H := hP
            have hD : va_D (va_A (mw G Z (nI b) mn (nI n) (nI sN) (nI st) fl va tp gv ts tw tm lv sl kd pt he ct fr to rl pi ph ps pm) sz) (mw G Z (nI b) mn (nI n) (nI sN) (nI st) fl va tp gv ts tw tm lv sl kd pt he ct (upd fr sN f_) (upd to sN t_) (upd rl sN r_) pi ph ps pm) := hD
            refine lv_aload_n hx hb dX3_sluice_77 rfl (lv_at hl 0 rfl) ?_
            refine lv_dup hx hb dX3_sluice_78 rfl ?_
            refine va_get (D := D) (ci := 3) (v := .int (nI sN)) (C := RX3) (T := TX3) (N := 25) hx hb hts iw_X3_sluice_X3 hown hK hP 0 rfl rfl 9 (by decide) (hts (.fieldLink RX3 149 "SluiceRulesModel" "sluices" "I") (by decide +kernel)) (fun _ h9 => h9) rfl dX3_sluice_79 ?_
            refine lv_iconst (v := 1) hx hb dX3_sluice_82 (by decide) ?_
            refine lv_iadd hx hb dX3_sluice_83 ?_
            refine va_put (D := D) (ci := 3) (v := .int ((nI sN) + 1)) (ty := .int) (C := RX3) (T := TX3) (N := 25) hx hb hts iw_X3_sluice_X3 tyX3 tyX3_ok nmX3 hown hK hP hD hS 0 rfl rfl 9 (by decide) (hts (.fieldLink RX3 149 "SluiceRulesModel" "sluices" "I") (by decide +kernel)) (fun _ h9 => h9) rfl (by decide +kernel) rfl rfl (Nat.le_of_ble_eq_true rfl) dX3_sluice_84 (fun H locs hP hD hS => ?_)
            have hP : va_P D vwCl (mw G Z (nI b) mn (nI n) ((nI sN) + 1) (nI st) fl va tp gv ts tw tm lv sl kd pt he ct (upd fr sN f_) (upd to sN t_) (upd rl sN r_) pi ph ps pm) H := hP
            have hD : va_D (va_A (mw G Z (nI b) mn (nI n) (nI sN) (nI st) fl va tp gv ts tw tm lv sl kd pt he ct fr to rl pi ph ps pm) sz) (mw G Z (nI b) mn (nI n) ((nI sN) + 1) (nI st) fl va tp gv ts tw tm lv sl kd pt he ct (upd fr sN f_) (upd to sN t_) (upd rl sN r_) pi ph ps pm) := hD
            refine lv_aload_n hx hb dX3_sluice_87 rfl (lv_at hl 0 rfl) ?_
            refine va_get (D := D) (ci := 3) (v := .int ((nI sN) + 1)) (C := RX3) (T := TX3) (N := 25) hx hb hts iw_X3_sluice_X3 hown hK hP 0 rfl rfl 9 (by decide) (hts (.fieldLink RX3 149 "SluiceRulesModel" "sluices" "I") (by decide +kernel)) (fun _ h9 => h9) rfl dX3_sluice_88 ?_
            refine lv_iconst (v := 1) hx hb dX3_sluice_91 (by decide) ?_
            refine lv_isub hx hb dX3_sluice_92 ?_
            rw [nI_1] at hP hD
            exact wrI ((sN + 1, upd fr sN f_, upd to sN t_, upd rl sN r_)) hx hb hr hlk dX3_sluice_93 hP hD hS (by rw [sp_sluice, if_pos ⟨b_5, b_13, b_21⟩, if_neg c_29, if_neg s_n8, nI_1, nI_pred])
          · have s_e8 : sN = 8 := (nI_eq (b := 8) (by omega) (by decide)).mp c_41
            refine lv_bipush (v := (-103)) hx hb dX3_sluice_44 (by decide) ?_
            exact wrI ((sN, fr, to, rl)) hx hb hr hlk dX3_sluice_46 hP hD hS (by rw [sp_sluice, if_pos ⟨b_5, b_13, b_21⟩, if_neg c_29, if_pos s_e8])
        · refine lv_bipush (v := (-102)) hx hb dX3_sluice_32 (by decide) ?_
          exact wrI ((sN, fr, to, rl)) hx hb hr hlk dX3_sluice_34 hP hD hS (by rw [sp_sluice, if_pos ⟨b_5, b_13, b_21⟩, if_pos c_29])
      · have b_21 : inB r_ n = false := bI_z (by rw [← hr_3]; exact c_21)
        refine lv_bipush (v := (-101)) hx hb dX3_sluice_24 (by decide) ?_
        exact wrI ((sN, fr, to, rl)) hx hb hr hlk dX3_sluice_26 hP hD hS (by rw [sp_sluice, if_neg (fun z => by rw [b_21] at z; exact absurd z.2.2 Bool.false_ne_true)])
