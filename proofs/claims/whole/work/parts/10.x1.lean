/-! the class: what reads alone, and the small writes -/
set_option maxRecDepth 100000 in
set_option maxHeartbeats 4000000 in
/-- isLevel -/
theorem c_X2_isLevel {l : Launch} {D : va_G} {tys : List (ClassId × FieldType)} {w : va_W} (x : Int32) : RoI l yX2_isLevel wsX2_isLevel (rk 0) D (tys) (w) [.int x] (fun r => r = bI (lvB x)) := by
  refine roEnter (cc := cX2_isLevel) (maxL := 1) (ret := (some .boolean)) (by decide) rfl (Nat.le_of_ble_eq_true rfl) ?_
  intro p e s m below meth c hx hb hr hml hown hts hlk hP hK hN ls hl
  have hown : s.vm.findClass RX2 = some m.cls := hown
  have hl : lv_has ls 1 [(0, .int x)] := hl
  refine lv_iload_n hx hb dX2_isLevel_0 rfl (lv_at hl 0 rfl) ?_
  refine lv_if_lt (tgt := 14) hx hb dX2_isLevel_1 (by decide) (fun c_1 => ?_) (fun c_1 => ?_)
  · refine lv_iconst (v := 0) hx hb dX2_isLevel_14 (by decide) ?_
    exact roZ hx hb hr hlk dX2_isLevel_15 (nar0) (by rw [lvB_lo c_1]; rfl)
  · refine lv_iload_n hx hb dX2_isLevel_4 rfl (lv_at hl 0 rfl) ?_
    refine lv_ldc (v := 1000000000) hx hb hown (hts (.constant RX2 107 (1000000000)) (by decide +kernel)) dX2_isLevel_5 ?_
    refine lv_icmp_gt (tgt := 14) hx hb dX2_isLevel_7 (by decide) (fun c_7 => ?_) (fun c_7 => ?_)
    · refine lv_iconst (v := 0) hx hb dX2_isLevel_14 (by decide) ?_
      exact roZ hx hb hr hlk dX2_isLevel_15 (nar0) (by rw [lvB_hi c_7]; rfl)
    · refine lv_iconst (v := 1) hx hb dX2_isLevel_10 (by decide) ?_
      refine lv_goto (tgt := 15) hx hb dX2_isLevel_11 (by decide) ?_
      exact roZ hx hb hr hlk dX2_isLevel_15 (nar1) (by rw [lvB_in c_1 c_7]; rfl)

theorem iw_X2_isBasin_X2 : ∀ w ∈ u_ws RX2 TX2 14, w ∈ wsX2_isBasin := by decide +kernel
set_option maxRecDepth 100000 in
set_option maxHeartbeats 4000000 in
/-- isBasin -/
theorem c_X2_isBasin {l : Launch} {D : va_G} {F : Nat → Nat} {Y : Nat → ClassId} {mn fl : Int32} {gv : Int64} {fs fb wo : Int32} {lv sl : Nat → Int32} {ru su : Nat → Option Nat} {L : List Nat} {f : Nat → va_E} {b n sN st : Nat} (hb8 : b ≤ 8) (x : Int32) : RoI l yX2_isBasin wsX2_isBasin (rk 0) D (xty Y) (xw F Y (nI b) mn (nI n) (nI sN) (nI st) fl gv fs fb wo lv sl ru su L f) [.ref (F 0), .int x] (fun r => r = bI (inB x b)) := by
  refine roEnter (cc := cX2_isBasin) (maxL := 2) (ret := (some .boolean)) (by decide) rfl (Nat.le_of_ble_eq_true rfl) ?_
  intro p e s m below meth c hx hb hr hml hown hts hlk hP hK hN ls hl
  have hown : s.vm.findClass RX2 = some m.cls := hown
  have hl : lv_has ls 2 [(0, .ref (F 0)), (1, .int x)] := hl
  refine lv_iload_n hx hb dX2_isBasin_0 rfl (lv_at hl 1 rfl) ?_
  refine lv_if_lt (tgt := 25) hx hb dX2_isBasin_1 (by decide) (fun c_1 => ?_) (fun c_1 => ?_)
  · refine lv_iconst (v := 0) hx hb dX2_isBasin_25 (by decide) ?_
    exact roZ hx hb hr hlk dX2_isBasin_26 (nar0) (by rw [inB_lo c_1]; rfl)
  · refine lv_iload_n hx hb dX2_isBasin_4 rfl (lv_at hl 1 rfl) ?_
    refine lv_aload_n hx hb dX2_isBasin_5 rfl (lv_at hl 0 rfl) ?_
    refine va_get (D := D) (ci := 2) (v := .int (nI b)) (C := RX2) (T := TX2) (N := 14) hx hb hts iw_X2_isBasin_X2 hown hK hP 0 rfl rfl 1 (by decide) (hts (.fieldLink RX2 13 "SluiceRules" "basinCount" "I") (by decide +kernel)) (fun _ h9 => h9) rfl dX2_isBasin_6 ?_
    refine lv_icmp_ge (tgt := 25) hx hb dX2_isBasin_9 (by decide) (fun c_9 => ?_) (fun c_9 => ?_)
    · refine lv_iconst (v := 0) hx hb dX2_isBasin_25 (by decide) ?_
      exact roZ hx hb hr hlk dX2_isBasin_26 (nar0) (by rw [inB_hi (by omega) c_9]; rfl)
    · refine lv_iload_n hx hb dX2_isBasin_12 rfl (lv_at hl 1 rfl) ?_
      refine lv_aload_n hx hb dX2_isBasin_13 rfl (lv_at hl 0 rfl) ?_
      refine va_get (D := D) (ci := 2) (v := .ref (F 1)) (C := RX2) (T := TX2) (N := 14) hx hb hts iw_X2_isBasin_X2 hown hK hP 0 rfl rfl 0 (by decide) (hts (.fieldLink RX2 9 "SluiceRules" "levels" "[I") (by decide +kernel)) (fun _ h9 => h9) rfl dX2_isBasin_14 ?_
      refine va_alen (v := 8) hx hb hK hP 1 0 rfl rfl rfl dX2_isBasin_17 ?_
      refine lv_icmp_ge (tgt := 25) hx hb dX2_isBasin_18 (by decide) (fun c_18 => ?_) (fun c_18 => ?_)
      · refine lv_iconst (v := 0) hx hb dX2_isBasin_25 (by decide) ?_
        exact roZ hx hb hr hlk dX2_isBasin_26 (nar0) (by rw [inB_mono hb8 (inB_hi (n := 8) (by decide) c_18)]; rfl)
      · refine lv_iconst (v := 1) hx hb dX2_isBasin_21 (by decide) ?_
        refine lv_goto (tgt := 26) hx hb dX2_isBasin_22 (by decide) ?_
        exact roZ hx hb hr hlk dX2_isBasin_26 (nar1) (by rw [inB_in (by omega) c_1 c_9]; rfl)

theorem iw_X2_isSlot_X2 : ∀ w ∈ u_ws RX2 TX2 14, w ∈ wsX2_isSlot := by decide +kernel
set_option maxRecDepth 100000 in
set_option maxHeartbeats 4000000 in
/-- isSlot -/
theorem c_X2_isSlot {l : Launch} {D : va_G} {F : Nat → Nat} {Y : Nat → ClassId} {mn fl : Int32} {gv : Int64} {fs fb wo : Int32} {lv sl : Nat → Int32} {ru su : Nat → Option Nat} {L : List Nat} {f : Nat → va_E} {b n sN st : Nat} (x : Int32) : RoI l yX2_isSlot wsX2_isSlot (rk 0) D (xty Y) (xw F Y (nI b) mn (nI n) (nI sN) (nI st) fl gv fs fb wo lv sl ru su L f) [.ref (F 0), .int x] (fun r => r = bI (inB x 8)) := by
  refine roEnter (cc := cX2_isSlot) (maxL := 2) (ret := (some .boolean)) (by decide) rfl (Nat.le_of_ble_eq_true rfl) ?_
  intro p e s m below meth c hx hb hr hml hown hts hlk hP hK hN ls hl
  have hown : s.vm.findClass RX2 = some m.cls := hown
  have hl : lv_has ls 2 [(0, .ref (F 0)), (1, .int x)] := hl
  refine lv_iload_n hx hb dX2_isSlot_0 rfl (lv_at hl 1 rfl) ?_
  refine lv_if_lt (tgt := 17) hx hb dX2_isSlot_1 (by decide) (fun c_1 => ?_) (fun c_1 => ?_)
  · refine lv_iconst (v := 0) hx hb dX2_isSlot_17 (by decide) ?_
    exact roZ hx hb hr hlk dX2_isSlot_18 (nar0) (by rw [inB_lo c_1]; rfl)
  · refine lv_iload_n hx hb dX2_isSlot_4 rfl (lv_at hl 1 rfl) ?_
    refine lv_aload_n hx hb dX2_isSlot_5 rfl (lv_at hl 0 rfl) ?_
    refine va_get (D := D) (ci := 2) (v := .ref (F 2)) (C := RX2) (T := TX2) (N := 14) hx hb hts iw_X2_isSlot_X2 hown hK hP 0 rfl rfl 3 (by decide) (hts (.fieldLink RX2 20 "SluiceRules" "slots" "[I") (by decide +kernel)) (fun _ h9 => h9) rfl dX2_isSlot_6 ?_
    refine va_alen (v := 8) hx hb hK hP 2 1 rfl rfl rfl dX2_isSlot_9 ?_
    refine lv_icmp_ge (tgt := 17) hx hb dX2_isSlot_10 (by decide) (fun c_10 => ?_) (fun c_10 => ?_)
    · refine lv_iconst (v := 0) hx hb dX2_isSlot_17 (by decide) ?_
      exact roZ hx hb hr hlk dX2_isSlot_18 (nar0) (by rw [inB_hi (n := 8) (by decide) c_10]; rfl)
    · refine lv_iconst (v := 1) hx hb dX2_isSlot_13 (by decide) ?_
      refine lv_goto (tgt := 18) hx hb dX2_isSlot_14 (by decide) ?_
      exact roZ hx hb hr hlk dX2_isSlot_18 (nar1) (by rw [inB_in (n := 8) (by decide) c_1 c_10]; rfl)

theorem iw_X2_ruleAt_X2 : ∀ w ∈ u_ws RX2 TX2 14, w ∈ wsX2_ruleAt := by decide +kernel
set_option maxRecDepth 100000 in
set_option maxHeartbeats 4000000 in
/-- ruleAt -/
theorem c_X2_ruleAt {l : Launch} {D : va_G} {F : Nat → Nat} {Y : Nat → ClassId} {mn fl : Int32} {gv : Int64} {fs fb wo : Int32} {lv sl : Nat → Int32} {ru su : Nat → Option Nat} {L : List Nat} {f : Nat → va_E} {b n sN st : Nat} {kd pt : Nat → Int32} {he : Nat → Int64} {ct fr to rl : Nat → Int32} (hR : xRel n sN kd pt he ct fr to rl ru su L f) (hn40 : n ≤ 40) (x : Int32) : RoQ l yX2_ruleAt wsX2_ruleAt (rk 0) D (xty Y) (xw F Y (nI b) mn (nI n) (nI sN) (nI st) fl gv fs fb wo lv sl ru su L f) [.ref (F 0), .int x] (fun r => r = rx n ru x) := by
  refine roEnter (cc := cX2_ruleAt) (maxL := 2) (ret := (some (.object "SluiceRules$Rule"))) (by decide) rfl (Nat.le_of_ble_eq_true rfl) ?_
  intro p e s m below meth c hx hb hr hml hown hts hlk hP hK hN ls hl
  have hown : s.vm.findClass RX2 = some m.cls := hown
  have hl : lv_has ls 2 [(0, .ref (F 0)), (1, .int x)] := hl
  refine lv_iload_n hx hb dX2_ruleAt_0 rfl (lv_at hl 1 rfl) ?_
  refine lv_if_lt (tgt := 22) hx hb dX2_ruleAt_1 (by decide) (fun c_1 => ?_) (fun c_1 => ?_)
  · refine lv_null hx hb dX2_ruleAt_22 ?_
    exact roQ (r := none) rfl hx hb hr hlk dX2_ruleAt_23 (by rw [rx, if_neg (by rw [inB_mono hn40 (inB_lo c_1)]; exact Bool.false_ne_true)])
  · refine lv_iload_n hx hb dX2_ruleAt_4 rfl (lv_at hl 1 rfl) ?_
    refine lv_aload_n hx hb dX2_ruleAt_5 rfl (lv_at hl 0 rfl) ?_
    refine va_get (D := D) (ci := 2) (v := .ref (F 3)) (C := RX2) (T := TX2) (N := 14) hx hb hts iw_X2_ruleAt_X2 hown hK hP 0 rfl rfl 4 (by decide) (hts (.fieldLink RX2 25 "SluiceRules" "rules" "[LSluiceRules$Rule;") (by decide +kernel)) (fun _ h9 => h9) rfl dX2_ruleAt_6 ?_
    refine va_alen (v := 40) hx hb hK hP 3 2 rfl rfl rfl dX2_ruleAt_9 ?_
    refine lv_icmp_ge (tgt := 22) hx hb dX2_ruleAt_10 (by decide) (fun c_10 => ?_) (fun c_10 => ?_)
    · refine lv_null hx hb dX2_ruleAt_22 ?_
      exact roQ (r := none) rfl hx hb hr hlk dX2_ruleAt_23 (by rw [rx, if_neg (by rw [inB_mono hn40 (inB_hi (n := 40) (by decide) c_10)]; exact Bool.false_ne_true)])
    · refine lv_aload_n hx hb dX2_ruleAt_13 rfl (lv_at hl 0 rfl) ?_
      refine va_get (D := D) (ci := 2) (v := .ref (F 3)) (C := RX2) (T := TX2) (N := 14) hx hb hts iw_X2_ruleAt_X2 hown hK hP 0 rfl rfl 4 (by decide) (hts (.fieldLink RX2 25 "SluiceRules" "rules" "[LSluiceRules$Rule;") (by decide +kernel)) (fun _ h9 => h9) rfl dX2_ruleAt_14 ?_
      refine lv_iload_n hx hb dX2_ruleAt_17 rfl (lv_at hl 1 rfl) ?_
      refine va_aldq hx hb hK hP 3 2 rfl rfl (inB_vp.mp (inB_in (n := 40) (by decide) c_1 c_10)) dX2_ruleAt_18 ?_
      refine lv_goto (tgt := 23) hx hb dX2_ruleAt_19 (by decide) ?_
      exact roQ (r := ru (ix x)) rfl hx hb hr hlk dX2_ruleAt_23 (hR.at c_1 (inB_in (n := 40) (by decide) c_1 c_10))

theorem iw_X2_isRuleOrNone_X2 : ∀ w ∈ u_ws RX2 TX2 14, w ∈ wsX2_isRuleOrNone := by decide +kernel
set_option maxRecDepth 100000 in
set_option maxHeartbeats 4000000 in
/-- isRuleOrNone -/
theorem c_X2_isRuleOrNone {l : Launch} {D : va_G} {F : Nat → Nat} {Y : Nat → ClassId} {mn fl : Int32} {gv : Int64} {fs fb wo : Int32} {lv sl : Nat → Int32} {ru su : Nat → Option Nat} {L : List Nat} {f : Nat → va_E} {b n sN st : Nat} {kd pt : Nat → Int32} {he : Nat → Int64} {ct fr to rl : Nat → Int32} (hR : xRel n sN kd pt he ct fr to rl ru su L f) (hn40 : n ≤ 40) (x : Int32) : RoI l yX2_isRuleOrNone wsX2_isRuleOrNone (rk 1) D (xty Y) (xw F Y (nI b) mn (nI n) (nI sN) (nI st) fl gv fs fb wo lv sl ru su L f) [.ref (F 0), .int x] (fun r => r = bI (ptB x n)) := by
  refine roEnter (cc := cX2_isRuleOrNone) (maxL := 2) (ret := (some .boolean)) (by decide) rfl (Nat.le_of_ble_eq_true rfl) ?_
  intro p e s m below meth c hx hb hr hml hown hts hlk hP hK hN ls hl
  have hown : s.vm.findClass RX2 = some m.cls := hown
  have hl : lv_has ls 2 [(0, .ref (F 0)), (1, .int x)] := hl
  refine lv_iload_n hx hb dX2_isRuleOrNone_0 rfl (lv_at hl 1 rfl) ?_
  refine lv_iconst (v := (-1)) hx hb dX2_isRuleOrNone_1 (by decide) ?_
  refine lv_icmp_eq (tgt := 13) hx hb dX2_isRuleOrNone_2 (by decide) (fun c_2 => ?_) (fun c_2 => ?_)
  · refine lv_iconst (v := 1) hx hb dX2_isRuleOrNone_13 (by decide) ?_
    refine lv_goto (tgt := 18) hx hb dX2_isRuleOrNone_14 (by decide) ?_
    exact roZ hx hb hr hlk dX2_isRuleOrNone_18 (nar1) (by rw [ptB, c_2]; rfl)
  · refine lv_aload_n hx hb dX2_isRuleOrNone_5 rfl (lv_at hl 0 rfl) ?_
    refine lv_iload_n hx hb dX2_isRuleOrNone_6 rfl (lv_at hl 1 rfl) ?_
    refine RoQ.callV (As := [.int x]) (rest := []) (c_X2_ruleAt hR hn40 x) ⟨hx, hb, hml, hown, hts⟩ (cwV 1 hts gX2_isRuleOrNone_X2_ruleAt rfl rfl rfl (by decide +kernel) ⟨by decide, by decide⟩) hP hK hN 0 2 rfl rfl rfl hl.1 rfl (Nat.le_of_ble_eq_true rfl) dX2_isRuleOrNone_7 ⟨Nat.le_of_ble_eq_true rfl, Nat.le_of_ble_eq_true rfl⟩ (fun r_1 hr_1 => ?_)
    rcases r_1 with _ | ar_1
    · have q_r_1 := hR.norule hr_1.symm
      refine lv_ifnullN (tgt := 17) hx hb dX2_isRuleOrNone_10 (by decide) ?_
      refine lv_iconst (v := 0) hx hb dX2_isRuleOrNone_17 (by decide) ?_
      exact roZ hx hb hr hlk dX2_isRuleOrNone_18 (nar0) (by rw [ptB, q_r_1, decide_eq_false c_2]; rfl)
    · have q_r_1 := (hR.rule hr_1.symm).1
      refine lv_ifnull hx hb dX2_isRuleOrNone_10 ?_
      refine lv_iconst (v := 1) hx hb dX2_isRuleOrNone_13 (by decide) ?_
      refine lv_goto (tgt := 18) hx hb dX2_isRuleOrNone_14 (by decide) ?_
      exact roZ hx hb hr hlk dX2_isRuleOrNone_18 (nar1) (by rw [ptB, q_r_1, decide_eq_false c_2]; rfl)

def cx13 (n : Nat) (kd : Nat → Int32) (ru : Nat → Option Nat) (x : Int32) : Option Nat := if inB x n = true ∧ kd (ix x) = 13 then ru (ix x) else none
theorem iw_X2_countedAt_X2 : ∀ w ∈ u_ws RX2 TX2 14, w ∈ wsX2_countedAt := by decide +kernel
theorem iw_X2_countedAt_X0 : ∀ w ∈ u_ws RX0 TX0 8, w ∈ wsX2_countedAt := by decide +kernel
set_option maxRecDepth 100000 in
set_option maxHeartbeats 4000000 in
/-- countedAt -/
theorem c_X2_countedAt {l : Launch} {D : va_G} {F : Nat → Nat} {Y : Nat → ClassId} {mn fl : Int32} {gv : Int64} {fs fb wo : Int32} {lv sl : Nat → Int32} {ru su : Nat → Option Nat} {L : List Nat} {f : Nat → va_E} {b n sN st : Nat} {kd pt : Nat → Int32} {he : Nat → Int64} {ct fr to rl : Nat → Int32} (hR : xRel n sN kd pt he ct fr to rl ru su L f) (hn40 : n ≤ 40) (x : Int32) : RoQ l yX2_countedAt wsX2_countedAt (rk 1) D (xty Y) (xw F Y (nI b) mn (nI n) (nI sN) (nI st) fl gv fs fb wo lv sl ru su L f) [.ref (F 0), .int x] (fun r => r = cx13 n kd ru x) := by
  refine roEnter (cc := cX2_countedAt) (maxL := 3) (ret := (some (.object "SluiceRules$Rule"))) (by decide) rfl (Nat.le_of_ble_eq_true rfl) ?_
  intro p e s m below meth c hx hb hr hml hown hts hlk hP hK hN ls hl
  have hown : s.vm.findClass RX2 = some m.cls := hown
  have hl : lv_has ls 3 [(0, .ref (F 0)), (1, .int x)] := hl
  refine lv_aload_n hx hb dX2_countedAt_0 rfl (lv_at hl 0 rfl) ?_
  refine lv_iload_n hx hb dX2_countedAt_1 rfl (lv_at hl 1 rfl) ?_
  refine RoQ.callV (As := [.int x]) (rest := []) (c_X2_ruleAt hR hn40 x) ⟨hx, hb, hml, hown, hts⟩ (cwV 1 hts gX2_countedAt_X2_ruleAt rfl rfl rfl (by decide +kernel) ⟨by decide, by decide⟩) hP hK hN 0 2 rfl rfl rfl hl.1 rfl (Nat.le_of_ble_eq_true rfl) dX2_countedAt_2 ⟨Nat.le_of_ble_eq_true rfl, Nat.le_of_ble_eq_true rfl⟩ (fun r_1 hr_1 => ?_)
  rcases r_1 with _ | ar_1
  · have q_r_1 := hR.norule hr_1.symm
    refine lv_astore_nN (lv' := [(2, .null), (0, .ref (F 0)), (1, .int x)]) hx hb dX2_countedAt_5 rfl hl (by decide) rfl (fun ls hl => ?_)
    refine lv_aload_nN hx hb dX2_countedAt_6 rfl (lv_at hl 0 rfl) ?_
    refine lv_ifnullN (tgt := 23) hx hb dX2_countedAt_7 (by decide) ?_
    refine lv_null hx hb dX2_countedAt_23 ?_
    exact roQ (r := none) rfl hx hb hr hlk dX2_countedAt_24 (by rw [cx13, if_neg (fun z => by rw [q_r_1] at z; exact absurd z.1 Bool.false_ne_true)])
  · obtain ⟨i_r_1, ra_r_1, la_r_1, fa_r_1⟩ := hR.rule hr_1.symm
    obtain ⟨p_ar_1, e_ar_1⟩ : ∃ k : Nat, (xw F Y (nI b) mn (nI n) (nI sN) (nI st) fl gv fs fb wo lv sl ru su L f)[k]? = some (ar_1, ruE kd pt he ct (ix x)) := pl_at la_r_1 fa_r_1
    refine lv_astore_n (lv' := [(2, .ref ar_1), (0, .ref (F 0)), (1, .int x)]) hx hb dX2_countedAt_5 rfl hl (by decide) rfl (fun ls hl => ?_)
    refine lv_aload_n hx hb dX2_countedAt_6 rfl (lv_at hl 0 rfl) ?_
    refine lv_ifnull hx hb dX2_countedAt_7 ?_
    refine lv_aload_n hx hb dX2_countedAt_10 rfl (lv_at hl 0 rfl) ?_
    refine va_getN (D := D) (ci := 0) (v := .int (kd (ix x))) (C := RX0) (T := TX0) (N := 8) (host := RX2) hx hb hts iw_X2_countedAt_X0 hown hK hP p_ar_1 e_ar_1 rfl 0 (by decide) (nf_108 hN) (fun _ h9 => h9) rfl dX2_countedAt_11 ?_
    refine lv_bipush (v := 13) hx hb dX2_countedAt_14 (by decide) ?_
    refine lv_icmp_ne (tgt := 23) hx hb dX2_countedAt_16 (by decide) (fun c_16 => ?_) (fun c_16 => ?_)
    · refine lv_null hx hb dX2_countedAt_23 ?_
      exact roQ (r := none) rfl hx hb hr hlk dX2_countedAt_24 (by rw [cx13, if_neg (fun z => c_16 z.2)])
    · refine lv_aload_n hx hb dX2_countedAt_19 rfl (lv_at hl 0 rfl) ?_
      refine lv_goto (tgt := 24) hx hb dX2_countedAt_20 (by decide) ?_
      exact roQ (r := some ar_1) rfl hx hb hr hlk dX2_countedAt_24 (by rw [cx13, if_pos ⟨i_r_1, by simpa using c_16⟩, ra_r_1])

def sp_slot (sl : Nat → Int32) (x : Int32) : Int32 := if inB x 8 = true then sl (ix x) else -1
theorem iw_X2_ruleInSlot_X2 : ∀ w ∈ u_ws RX2 TX2 14, w ∈ wsX2_ruleInSlot := by decide +kernel
set_option maxRecDepth 100000 in
set_option maxHeartbeats 4000000 in
/-- ruleInSlot -/
theorem c_X2_ruleInSlot {l : Launch} {D : va_G} {F : Nat → Nat} {Y : Nat → ClassId} {mn fl : Int32} {gv : Int64} {fs fb wo : Int32} {lv sl : Nat → Int32} {ru su : Nat → Option Nat} {L : List Nat} {f : Nat → va_E} {b n sN st : Nat} (x : Int32) : RoI l yX2_ruleInSlot wsX2_ruleInSlot (rk 1) D (xty Y) (xw F Y (nI b) mn (nI n) (nI sN) (nI st) fl gv fs fb wo lv sl ru su L f) [.ref (F 0), .int x] (fun r => r = sp_slot sl x) := by
  refine roEnter (cc := cX2_ruleInSlot) (maxL := 2) (ret := (some .int)) (by decide) rfl (Nat.le_of_ble_eq_true rfl) ?_
  intro p e s m below meth c hx hb hr hml hown hts hlk hP hK hN ls hl
  have hown : s.vm.findClass RX2 = some m.cls := hown
  have hl : lv_has ls 2 [(0, .ref (F 0)), (1, .int x)] := hl
  refine lv_aload_n hx hb dX2_ruleInSlot_0 rfl (lv_at hl 0 rfl) ?_
  refine lv_iload_n hx hb dX2_ruleInSlot_1 rfl (lv_at hl 1 rfl) ?_
  refine RoI.callV (As := [.int x]) (rest := []) (c_X2_isSlot x) ⟨hx, hb, hml, hown, hts⟩ (cwV 1 hts gX2_ruleInSlot_X2_isSlot rfl rfl rfl (by decide +kernel) ⟨by decide, by decide⟩) hP hK hN 0 2 rfl rfl rfl hl.1 rfl (Nat.le_of_ble_eq_true rfl) dX2_ruleInSlot_2 ⟨Nat.le_of_ble_eq_true rfl, Nat.le_of_ble_eq_true rfl⟩ (fun r_1 hr_1 => ?_)
  refine lv_if_eq (tgt := 17) hx hb dX2_ruleInSlot_5 (by decide) (fun c_5 => ?_) (fun c_5 => ?_)
  · have b_5 : inB x 8 = false := bI_z (by rw [← hr_1]; exact c_5)
    refine lv_iconst (v := (-1)) hx hb dX2_ruleInSlot_17 (by decide) ?_
    exact roI hx hb hr hlk dX2_ruleInSlot_18 (by rw [sp_slot, if_neg (by rw [b_5]; exact Bool.false_ne_true)])
  · have b_5 : inB x 8 = true := bI_n (by rw [← hr_1]; exact c_5)
    refine lv_aload_n hx hb dX2_ruleInSlot_8 rfl (lv_at hl 0 rfl) ?_
    refine va_get (D := D) (ci := 2) (v := .ref (F 2)) (C := RX2) (T := TX2) (N := 14) hx hb hts iw_X2_ruleInSlot_X2 hown hK hP 0 rfl rfl 3 (by decide) (hts (.fieldLink RX2 20 "SluiceRules" "slots" "[I") (by decide +kernel)) (fun _ h9 => h9) rfl dX2_ruleInSlot_9 ?_
    refine lv_iload_n hx hb dX2_ruleInSlot_12 rfl (lv_at hl 1 rfl) ?_
    refine va_iald hx hb hK hP 2 1 rfl rfl (inB_vp.mp b_5) dX2_ruleInSlot_13 ?_
    refine lv_goto (tgt := 18) hx hb dX2_ruleInSlot_14 (by decide) ?_
    exact roI hx hb hr hlk dX2_ruleInSlot_18 (by rw [sp_slot, if_pos (by rw [b_5])])

theorem iw_X2_level_X2 : ∀ w ∈ u_ws RX2 TX2 14, w ∈ wsX2_level := by decide +kernel
set_option maxRecDepth 100000 in
set_option maxHeartbeats 4000000 in
/-- level -/
theorem c_X2_level {l : Launch} {D : va_G} {F : Nat → Nat} {Y : Nat → ClassId} {mn fl : Int32} {gv : Int64} {fs fb wo : Int32} {lv sl : Nat → Int32} {ru su : Nat → Option Nat} {L : List Nat} {f : Nat → va_E} {b n sN st : Nat} (hb8 : b ≤ 8) (x : Int32) : RoI l yX2_level wsX2_level (rk 1) D (xty Y) (xw F Y (nI b) mn (nI n) (nI sN) (nI st) fl gv fs fb wo lv sl ru su L f) [.ref (F 0), .int x] (fun r => r = sp_level b lv x) := by
  refine roEnter (cc := cX2_level) (maxL := 2) (ret := (some .int)) (by decide) rfl (Nat.le_of_ble_eq_true rfl) ?_
  intro p e s m below meth c hx hb hr hml hown hts hlk hP hK hN ls hl
  have hown : s.vm.findClass RX2 = some m.cls := hown
  have hl : lv_has ls 2 [(0, .ref (F 0)), (1, .int x)] := hl
  refine lv_aload_n hx hb dX2_level_0 rfl (lv_at hl 0 rfl) ?_
  refine lv_iload_n hx hb dX2_level_1 rfl (lv_at hl 1 rfl) ?_
  refine RoI.callV (As := [.int x]) (rest := []) (c_X2_isBasin hb8 x) ⟨hx, hb, hml, hown, hts⟩ (cwV 1 hts gX2_level_X2_isBasin rfl rfl rfl (by decide +kernel) ⟨by decide, by decide⟩) hP hK hN 0 2 rfl rfl rfl hl.1 rfl (Nat.le_of_ble_eq_true rfl) dX2_level_2 ⟨Nat.le_of_ble_eq_true rfl, Nat.le_of_ble_eq_true rfl⟩ (fun r_1 hr_1 => ?_)
  refine lv_if_eq (tgt := 17) hx hb dX2_level_5 (by decide) (fun c_5 => ?_) (fun c_5 => ?_)
  · have b_5 : inB x b = false := bI_z (by rw [← hr_1]; exact c_5)
    refine lv_bipush (v := (-101)) hx hb dX2_level_17 (by decide) ?_
    exact roI hx hb hr hlk dX2_level_19 (by rw [sp_level, if_neg (by rw [b_5]; exact Bool.false_ne_true)])
  · have b_5 : inB x b = true := bI_n (by rw [← hr_1]; exact c_5)
    refine lv_aload_n hx hb dX2_level_8 rfl (lv_at hl 0 rfl) ?_
    refine va_get (D := D) (ci := 2) (v := .ref (F 1)) (C := RX2) (T := TX2) (N := 14) hx hb hts iw_X2_level_X2 hown hK hP 0 rfl rfl 0 (by decide) (hts (.fieldLink RX2 9 "SluiceRules" "levels" "[I") (by decide +kernel)) (fun _ h9 => h9) rfl dX2_level_9 ?_
    refine lv_iload_n hx hb dX2_level_12 rfl (lv_at hl 1 rfl) ?_
    refine va_iald hx hb hK hP 1 0 rfl rfl (inB_vp.mp (inB_up hb8 b_5)) dX2_level_13 ?_
    refine lv_goto (tgt := 19) hx hb dX2_level_14 (by decide) ?_
    exact roI hx hb hr hlk dX2_level_19 (by rw [sp_level, if_pos (by rw [b_5])])

theorem xRel.cx13 {n sN : Nat} {kd pt : Nat → Int32} {he : Nat → Int64} {ct fr to rl : Nat → Int32} {ru su : Nat → Option Nat} {L : List Nat} {f : Nat → va_E} (h : xRel n sN kd pt he ct fr to rl ru su L f) {x : Int32} {a : Nat} (e : cx13 n kd ru x = some a) : inB x n = true ∧ kd (ix x) = 13 ∧ a ∈ L ∧ f a = ruE kd pt he ct (ix x) := by
  unfold Jvm.Pilot.@@N@@.cx13 at e
  by_cases hi : inB x n = true ∧ kd (ix x) = 13
  · rw [if_pos hi] at e
    obtain ⟨a', h1, h2, h3⟩ := h.1 (ix x) (inB_ix hi.1)
    rw [h1] at e; cases e
    exact ⟨hi.1, hi.2, h2, h3⟩
  · rw [if_neg hi] at e; cases e
theorem xRel.nocx13 {n sN : Nat} {kd pt : Nat → Int32} {he : Nat → Int64} {ct fr to rl : Nat → Int32} {ru su : Nat → Option Nat} {L : List Nat} {f : Nat → va_E} (h : xRel n sN kd pt he ct fr to rl ru su L f) {x : Int32} (e : Jvm.Pilot.@@N@@.cx13 n kd ru x = none) : ¬ (inB x n = true ∧ kd (ix x) = 13) := by
  unfold Jvm.Pilot.@@N@@.cx13 at e
  intro hi
  rw [if_pos hi] at e
  obtain ⟨a', h1, -⟩ := h.1 (ix x) (inB_ix hi.1)
  rw [h1] at e; cases e

theorem iw_X2_counted_X2 : ∀ w ∈ u_ws RX2 TX2 14, w ∈ wsX2_counted := by decide +kernel
theorem iw_X2_counted_X0 : ∀ w ∈ u_ws RX0 TX0 8, w ∈ wsX2_counted := by decide +kernel
set_option maxRecDepth 100000 in
set_option maxHeartbeats 4000000 in
/-- counted -/
theorem c_X2_counted {l : Launch} {D : va_G} {F : Nat → Nat} {Y : Nat → ClassId} {mn fl : Int32} {gv : Int64} {fs fb wo : Int32} {lv sl : Nat → Int32} {ru su : Nat → Option Nat} {L : List Nat} {f : Nat → va_E} {b n sN st : Nat} {kd pt : Nat → Int32} {he : Nat → Int64} {ct fr to rl : Nat → Int32} (hR : xRel n sN kd pt he ct fr to rl ru su L f) (hn40 : n ≤ 40) (x : Int32) : RoI l yX2_counted wsX2_counted (rk 2) D (xty Y) (xw F Y (nI b) mn (nI n) (nI sN) (nI st) fl gv fs fb wo lv sl ru su L f) [.ref (F 0), .int x] (fun r => r = sp_counted n kd ct x) := by
  refine roEnter (cc := cX2_counted) (maxL := 3) (ret := (some .int)) (by decide) rfl (Nat.le_of_ble_eq_true rfl) ?_
  intro p e s m below meth c hx hb hr hml hown hts hlk hP hK hN ls hl
  have hown : s.vm.findClass RX2 = some m.cls := hown
  have hl : lv_has ls 3 [(0, .ref (F 0)), (1, .int x)] := hl
  refine lv_aload_n hx hb dX2_counted_0 rfl (lv_at hl 0 rfl) ?_
  refine lv_iload_n hx hb dX2_counted_1 rfl (lv_at hl 1 rfl) ?_
  refine RoQ.callV (As := [.int x]) (rest := []) (c_X2_countedAt hR hn40 x) ⟨hx, hb, hml, hown, hts⟩ (cwV 1 hts gX2_counted_X2_countedAt rfl rfl rfl (by decide +kernel) ⟨by decide, by decide⟩) hP hK hN 0 2 rfl rfl rfl hl.1 rfl (Nat.le_of_ble_eq_true rfl) dX2_counted_2 ⟨Nat.le_of_ble_eq_true rfl, Nat.le_of_ble_eq_true rfl⟩ (fun r_1 hr_1 => ?_)
  rcases r_1 with _ | ar_1
  · have q_r_1 := hR.nocx13 hr_1.symm
    refine lv_astore_nN (lv' := [(2, .null), (0, .ref (F 0)), (1, .int x)]) hx hb dX2_counted_5 rfl hl (by decide) rfl (fun ls hl => ?_)
    refine lv_aload_nN hx hb dX2_counted_6 rfl (lv_at hl 0 rfl) ?_
    refine lv_ifnullN (tgt := 17) hx hb dX2_counted_7 (by decide) ?_
    refine lv_bipush (v := (-101)) hx hb dX2_counted_17 (by decide) ?_
    exact roI hx hb hr hlk dX2_counted_19 (by rw [sp_counted, if_neg q_r_1])
  · obtain ⟨i_r_1, k_r_1, la_r_1, fa_r_1⟩ := hR.cx13 hr_1.symm
    obtain ⟨p_ar_1, e_ar_1⟩ : ∃ k : Nat, (xw F Y (nI b) mn (nI n) (nI sN) (nI st) fl gv fs fb wo lv sl ru su L f)[k]? = some (ar_1, ruE kd pt he ct (ix x)) := pl_at la_r_1 fa_r_1
    refine lv_astore_n (lv' := [(2, .ref ar_1), (0, .ref (F 0)), (1, .int x)]) hx hb dX2_counted_5 rfl hl (by decide) rfl (fun ls hl => ?_)
    refine lv_aload_n hx hb dX2_counted_6 rfl (lv_at hl 0 rfl) ?_
    refine lv_ifnull hx hb dX2_counted_7 ?_
    refine lv_aload_n hx hb dX2_counted_10 rfl (lv_at hl 0 rfl) ?_
    refine va_getN (D := D) (ci := 0) (v := .int (ct (ix x))) (C := RX0) (T := TX0) (N := 8) (host := RX2) hx hb hts iw_X2_counted_X0 hown hK hP p_ar_1 e_ar_1 rfl 7 (by decide) (nf_104 hN) (fun _ h9 => h9) rfl dX2_counted_11 ?_
    refine lv_goto (tgt := 19) hx hb dX2_counted_14 (by decide) ?_
    exact roI hx hb hr hlk dX2_counted_19 (by rw [sp_counted, if_pos ⟨i_r_1, k_r_1⟩])

theorem iw_X2_count_X2 : ∀ w ∈ u_ws RX2 TX2 14, w ∈ wsX2_count := by decide +kernel
set_option maxRecDepth 100000 in
set_option maxHeartbeats 4000000 in
/-- count -/
theorem c_X2_count {l : Launch} {D : va_G} {F : Nat → Nat} {Y : Nat → ClassId} {mn fl : Int32} {gv : Int64} {fs fb wo : Int32} {lv sl : Nat → Int32} {ru su : Nat → Option Nat} {L : List Nat} {f : Nat → va_E} {b n sN st : Nat} (x : Int32) : RoI l yX2_count wsX2_count (rk 1) D (xty Y) (xw F Y (nI b) mn (nI n) (nI sN) (nI st) fl gv fs fb wo lv sl ru su L f) [.ref (F 0), .int x] (fun r => r = sp_count b n sN st sl x) := by
  refine roEnter (cc := cX2_count) (maxL := 3) (ret := (some .int)) (by decide) rfl (Nat.le_of_ble_eq_true rfl) ?_
  intro p e s m below meth c hx hb hr hml hown hts hlk hP hK hN ls hl
  have hown : s.vm.findClass RX2 = some m.cls := hown
  have hl : lv_has ls 3 [(0, .ref (F 0)), (1, .int x)] := hl
  refine lv_iload_n hx hb dX2_count_0 rfl (lv_at hl 1 rfl) ?_
  by_cases k_1_0 : x = 0
  · refine lv_tableIn (off := 31) (tgt := 32) hx hb dX2_count_1 (by rw [k_1_0]; decide) (by rw [k_1_0]; decide) (by rw [k_1_0]; rfl) (by decide) ?_
    refine lv_aload_n hx hb dX2_count_32 rfl (lv_at hl 0 rfl) ?_
    refine va_get (D := D) (ci := 2) (v := .int (nI b)) (C := RX2) (T := TX2) (N := 14) hx hb hts iw_X2_count_X2 hown hK hP 0 rfl rfl 1 (by decide) (hts (.fieldLink RX2 13 "SluiceRules" "basinCount" "I") (by decide +kernel)) (fun _ h9 => h9) rfl dX2_count_33 ?_
    exact roI hx hb hr hlk dX2_count_36 (by rw [k_1_0]; rfl)
  by_cases k_1_1 : x = 1
  · refine lv_tableIn (off := 36) (tgt := 37) hx hb dX2_count_1 (by rw [k_1_1]; decide) (by rw [k_1_1]; decide) (by rw [k_1_1]; rfl) (by decide) ?_
    refine lv_aload_n hx hb dX2_count_37 rfl (lv_at hl 0 rfl) ?_
    refine va_get (D := D) (ci := 2) (v := .int (nI n)) (C := RX2) (T := TX2) (N := 14) hx hb hts iw_X2_count_X2 hown hK hP 0 rfl rfl 5 (by decide) (hts (.fieldLink RX2 29 "SluiceRules" "ruleCount" "I") (by decide +kernel)) (fun _ h9 => h9) rfl dX2_count_38 ?_
    exact roI hx hb hr hlk dX2_count_41 (by rw [k_1_1]; rfl)
  by_cases k_1_2 : x = 2
  · refine lv_tableIn (off := 41) (tgt := 42) hx hb dX2_count_1 (by rw [k_1_2]; decide) (by rw [k_1_2]; decide) (by rw [k_1_2]; rfl) (by decide) ?_
    refine lv_aload_n hx hb dX2_count_42 rfl (lv_at hl 0 rfl) ?_
    refine va_get (D := D) (ci := 2) (v := .int (nI sN)) (C := RX2) (T := TX2) (N := 14) hx hb hts iw_X2_count_X2 hown hK hP 0 rfl rfl 7 (by decide) (hts (.fieldLink RX2 38 "SluiceRules" "sluiceCount" "I") (by decide +kernel)) (fun _ h9 => h9) rfl dX2_count_43 ?_
    exact roI hx hb hr hlk dX2_count_46 (by rw [k_1_2]; rfl)
  by_cases k_1_3 : x = 3
  · refine lv_tableIn (off := 46) (tgt := 47) hx hb dX2_count_1 (by rw [k_1_3]; decide) (by rw [k_1_3]; decide) (by rw [k_1_3]; rfl) (by decide) ?_
    refine lv_aload_n hx hb dX2_count_47 rfl (lv_at hl 0 rfl) ?_
    refine va_get (D := D) (ci := 2) (v := .int (nI st)) (C := RX2) (T := TX2) (N := 14) hx hb hts iw_X2_count_X2 hown hK hP 0 rfl rfl 8 (by decide) (hts (.fieldLink RX2 41 "SluiceRules" "steps" "I") (by decide +kernel)) (fun _ h9 => h9) rfl dX2_count_48 ?_
    exact roI hx hb hr hlk dX2_count_51 (by rw [k_1_3]; rfl)
  · have z_1 : ¬ x.toInt = 0 ∧ ¬ x.toInt = 1 ∧ ¬ x.toInt = 2 ∧ ¬ x.toInt = 3 := by
      exact ⟨lv_neT k_1_0 (by decide), lv_neT k_1_1 (by decide), lv_neT k_1_2 (by decide), lv_neT k_1_3 (by decide)⟩
    refine lv_tableOut (tgt := 52) hx hb dX2_count_1 (by omega) (by decide) ?_
    refine lv_iload_n hx hb dX2_count_52 rfl (lv_at hl 1 rfl) ?_
    refine lv_bipush (v := 8) hx hb dX2_count_53 (by decide) ?_
    refine lv_isub hx hb dX2_count_55 ?_
    refine lv_istore_n (lv' := [(2, .int (x - 8)), (0, .ref (F 0)), (1, .int x)]) hx hb dX2_count_56 rfl hl (by decide) rfl (fun ls hl => ?_)
    refine lv_aload_n hx hb dX2_count_57 rfl (lv_at hl 1 rfl) ?_
    refine lv_iload_n hx hb dX2_count_58 rfl (lv_at hl 0 rfl) ?_
    refine RoI.callV (As := [.int (x - 8)]) (rest := []) (c_X2_isSlot (x - 8)) ⟨hx, hb, hml, hown, hts⟩ (cwV 1 hts gX2_count_X2_isSlot rfl rfl rfl (by decide +kernel) ⟨by decide, by decide⟩) hP hK hN 0 2 rfl rfl rfl hl.1 rfl (Nat.le_of_ble_eq_true rfl) dX2_count_59 ⟨Nat.le_of_ble_eq_true rfl, Nat.le_of_ble_eq_true rfl⟩ (fun r_1 hr_1 => ?_)
    refine lv_if_eq (tgt := 74) hx hb dX2_count_62 (by decide) (fun c_62 => ?_) (fun c_62 => ?_)
    · have b_62 : inB (x - 8) 8 = false := bI_z (by rw [← hr_1]; exact c_62)
      refine lv_bipush (v := (-101)) hx hb dX2_count_74 (by decide) ?_
      exact roI hx hb hr hlk dX2_count_76 (by rw [sp_count, if_neg (by rw [b_62]; exact Bool.false_ne_true), if_neg k_1_0, if_neg k_1_1, if_neg k_1_2, if_neg k_1_3])
    · have b_62 : inB (x - 8) 8 = true := bI_n (by rw [← hr_1]; exact c_62)
      refine lv_aload_n hx hb dX2_count_65 rfl (lv_at hl 1 rfl) ?_
      refine va_get (D := D) (ci := 2) (v := .ref (F 2)) (C := RX2) (T := TX2) (N := 14) hx hb hts iw_X2_count_X2 hown hK hP 0 rfl rfl 3 (by decide) (hts (.fieldLink RX2 20 "SluiceRules" "slots" "[I") (by decide +kernel)) (fun _ h9 => h9) rfl dX2_count_66 ?_
      refine lv_iload_n hx hb dX2_count_69 rfl (lv_at hl 0 rfl) ?_
      refine va_iald hx hb hK hP 2 1 rfl rfl (inB_vp.mp b_62) dX2_count_70 ?_
      refine lv_goto (tgt := 76) hx hb dX2_count_71 (by decide) ?_
      exact roI hx hb hr hlk dX2_count_76 (by rw [sp_count, if_pos b_62])

theorem iw_X2_told_X2 : ∀ w ∈ u_ws RX2 TX2 14, w ∈ wsX2_told := by decide +kernel
set_option maxRecDepth 100000 in
set_option maxHeartbeats 4000000 in
/-- told -/
theorem c_X2_told {l : Launch} {D : va_G} {F : Nat → Nat} {Y : Nat → ClassId} {mn fl : Int32} {gv : Int64} {fs fb wo : Int32} {lv sl : Nat → Int32} {ru su : Nat → Option Nat} {L : List Nat} {f : Nat → va_E} {b n sN st : Nat} (x : Int32) : RoI l yX2_told wsX2_told (rk 0) D (xty Y) (xw F Y (nI b) mn (nI n) (nI sN) (nI st) fl gv fs fb wo lv sl ru su L f) [.ref (F 0), .int x] (fun r => r = sp_told fs fb wo x) := by
  refine roEnter (cc := cX2_told) (maxL := 2) (ret := (some .int)) (by decide) rfl (Nat.le_of_ble_eq_true rfl) ?_
  intro p e s m below meth c hx hb hr hml hown hts hlk hP hK hN ls hl
  have hown : s.vm.findClass RX2 = some m.cls := hown
  have hl : lv_has ls 2 [(0, .ref (F 0)), (1, .int x)] := hl
  refine lv_iload_n hx hb dX2_told_0 rfl (lv_at hl 1 rfl) ?_
  by_cases k_1_0 : x = 0
  · refine lv_tableIn (off := 27) (tgt := 28) hx hb dX2_told_1 (by rw [k_1_0]; decide) (by rw [k_1_0]; decide) (by rw [k_1_0]; rfl) (by decide) ?_
    refine lv_aload_n hx hb dX2_told_28 rfl (lv_at hl 0 rfl) ?_
    refine va_get (D := D) (ci := 2) (v := .int fs) (C := RX2) (T := TX2) (N := 14) hx hb hts iw_X2_told_X2 hown hK hP 0 rfl rfl 11 (by decide) (hts (.fieldLink RX2 51 "SluiceRules" "failedSluice" "I") (by decide +kernel)) (fun _ h9 => h9) rfl dX2_told_29 ?_
    exact roI hx hb hr hlk dX2_told_32 (by rw [k_1_0]; rfl)
  by_cases k_1_1 : x = 1
  · refine lv_tableIn (off := 32) (tgt := 33) hx hb dX2_told_1 (by rw [k_1_1]; decide) (by rw [k_1_1]; decide) (by rw [k_1_1]; rfl) (by decide) ?_
    refine lv_aload_n hx hb dX2_told_33 rfl (lv_at hl 0 rfl) ?_
    refine va_get (D := D) (ci := 2) (v := .int fb) (C := RX2) (T := TX2) (N := 14) hx hb hts iw_X2_told_X2 hown hK hP 0 rfl rfl 12 (by decide) (hts (.fieldLink RX2 54 "SluiceRules" "failedBy" "I") (by decide +kernel)) (fun _ h9 => h9) rfl dX2_told_34 ?_
    exact roI hx hb hr hlk dX2_told_37 (by rw [k_1_1]; rfl)
  by_cases k_1_2 : x = 2
  · refine lv_tableIn (off := 37) (tgt := 38) hx hb dX2_told_1 (by rw [k_1_2]; decide) (by rw [k_1_2]; decide) (by rw [k_1_2]; rfl) (by decide) ?_
    refine lv_aload_n hx hb dX2_told_38 rfl (lv_at hl 0 rfl) ?_
    refine va_get (D := D) (ci := 2) (v := .int wo) (C := RX2) (T := TX2) (N := 14) hx hb hts iw_X2_told_X2 hown hK hP 0 rfl rfl 13 (by decide) (hts (.fieldLink RX2 57 "SluiceRules" "wentOver" "I") (by decide +kernel)) (fun _ h9 => h9) rfl dX2_told_39 ?_
    exact roI hx hb hr hlk dX2_told_42 (by rw [k_1_2]; rfl)
  · have z_1 : ¬ x.toInt = 0 ∧ ¬ x.toInt = 1 ∧ ¬ x.toInt = 2 := by
      exact ⟨lv_neT k_1_0 (by decide), lv_neT k_1_1 (by decide), lv_neT k_1_2 (by decide)⟩
    refine lv_tableOut (tgt := 43) hx hb dX2_told_1 (by omega) (by decide) ?_
    refine lv_bipush (v := (-101)) hx hb dX2_told_43 (by decide) ?_
    exact roI hx hb hr hlk dX2_told_45 (by rw [sp_told, if_neg k_1_0, if_neg k_1_1, if_neg k_1_2])

theorem iw_X2_given_X2 : ∀ w ∈ u_ws RX2 TX2 14, w ∈ wsX2_given := by decide +kernel
set_option maxRecDepth 100000 in
set_option maxHeartbeats 4000000 in
/-- given -/
theorem c_X2_given {l : Launch} {D : va_G} {F : Nat → Nat} {Y : Nat → ClassId} {mn fl : Int32} {gv : Int64} {fs fb wo : Int32} {lv sl : Nat → Int32} {ru su : Nat → Option Nat} {L : List Nat} {f : Nat → va_E} {b n sN st : Nat} : RoL l yX2_given wsX2_given (rk 0) D (xty Y) (xw F Y (nI b) mn (nI n) (nI sN) (nI st) fl gv fs fb wo lv sl ru su L f) [.ref (F 0)] (fun r => r = gv) := by
  refine roEnter (cc := cX2_given) (maxL := 1) (ret := (some .long)) (by decide) rfl (Nat.le_of_ble_eq_true rfl) ?_
  intro p e s m below meth c hx hb hr hml hown hts hlk hP hK hN ls hl
  have hown : s.vm.findClass RX2 = some m.cls := hown
  have hl : lv_has ls 1 [(0, .ref (F 0))] := hl
  refine lv_aload_n hx hb dX2_given_0 rfl (lv_at hl 0 rfl) ?_
  refine va_get (D := D) (ci := 2) (v := .long gv) (C := RX2) (T := TX2) (N := 14) hx hb hts iw_X2_given_X2 hown hK hP 0 rfl rfl 10 (by decide) (hts (.fieldLink RX2 47 "SluiceRules" "latestGiven" "J") (by decide +kernel)) (fun _ h9 => h9) rfl dX2_given_1 ?_
  exact roL hx hb hr hlk dX2_given_4 rfl

theorem iw_X2_moon_X2 : ∀ w ∈ u_ws RX2 TX2 14, w ∈ wsX2_moon := by decide +kernel
set_option maxRecDepth 100000 in
set_option maxHeartbeats 4000000 in
/-- moon -/
theorem c_X2_moon {l : Launch} {D : va_G} {F : Nat → Nat} {Y : Nat → ClassId} {mn fl : Int32} {gv : Int64} {fs fb wo : Int32} {lv sl : Nat → Int32} {ru su : Nat → Option Nat} {L : List Nat} {f : Nat → va_E} {b n sN st : Nat} (x : Int32) : WrI l yX2_moon wsX2_moon (rk 0) D (xty Y) (xw F Y (nI b) mn (nI n) (nI sN) (nI st) fl gv fs fb wo lv sl ru su L f) [.ref (F 0), .int x] (σ := Int32) (fun u => xw F Y (nI b) u (nI n) (nI sN) (nI st) fl gv fs fb wo lv sl ru su L f) (fun r u => (r, u) = sp_moon mn x) 0 0 := by
  intro sz
  refine wrEnter (cc := cX2_moon) (maxL := 3) (ret := (some .int)) (by decide) rfl (Nat.le_of_ble_eq_true rfl) ?_
  intro p e s m below meth c hx hb hr hml hown hts hlk hP hK hN hsz hD hS hA hin ls hl
  have hown : s.vm.findClass RX2 = some m.cls := hown
  have hl : lv_has ls 3 [(0, .ref (F 0)), (1, .int x)] := hl
  refine lv_iload_n hx hb dX2_moon_0 rfl (lv_at hl 1 rfl) ?_
  refine lv_if_lt (tgt := 10) hx hb dX2_moon_1 (by decide) (fun c_1 => ?_) (fun c_1 => ?_)
  · refine lv_bipush (v := (-102)) hx hb dX2_moon_10 (by decide) ?_
    exact wrI (mn) hx hb hr hlk dX2_moon_12 hP hD hS (by rw [sp_moon, if_neg (by rw [inB_lo c_1]; exact Bool.false_ne_true)])
  · refine lv_iload_n hx hb dX2_moon_4 rfl (lv_at hl 1 rfl) ?_
    refine lv_bipush (v := 12) hx hb dX2_moon_5 (by decide) ?_
    refine lv_icmp_lt (tgt := 13) hx hb dX2_moon_7 (by decide) (fun c_7 => ?_) (fun c_7 => ?_)
    · refine lv_aload_n hx hb dX2_moon_13 rfl (lv_at hl 0 rfl) ?_
      refine va_get (D := D) (ci := 2) (v := .int mn) (C := RX2) (T := TX2) (N := 14) hx hb hts iw_X2_moon_X2 hown hK hP 0 rfl rfl 2 (by decide) (hts (.fieldLink RX2 17 "SluiceRules" "moonNow" "I") (by decide +kernel)) (fun _ h9 => h9) rfl dX2_moon_14 ?_
      refine lv_istore_n (lv' := [(2, .int mn), (0, .ref (F 0)), (1, .int x)]) hx hb dX2_moon_17 rfl hl (by decide) rfl (fun ls hl => ?_)
      refine lv_aload_n hx hb dX2_moon_18 rfl (lv_at hl 1 rfl) ?_
      refine lv_iload_n hx hb dX2_moon_19 rfl (lv_at hl 2 rfl) ?_
      refine va_put (D := D) (ci := 2) (v := .int x) (ty := .int) (C := RX2) (T := TX2) (N := 14) hx hb hts iw_X2_moon_X2 tyX2 tyX2_ok nmX2 hown hK hP hD hS 0 rfl rfl 2 (by decide) (hts (.fieldLink RX2 17 "SluiceRules" "moonNow" "I") (by decide +kernel)) (fun _ h9 => h9) rfl (by decide +kernel) rfl rfl (Nat.le_of_ble_eq_true rfl) dX2_moon_20 (fun H locs hP hD hS => ?_)
      have hP : va_P D vwCl (xw F Y (nI b) x (nI n) (nI sN) (nI st) fl gv fs fb wo lv sl ru su L f) H := hP
      have hD : va_D (va_A (xw F Y (nI b) mn (nI n) (nI sN) (nI st) fl gv fs fb wo lv sl ru su L f) sz) (xw F Y (nI b) x (nI n) (nI sN) (nI st) fl gv fs fb wo lv sl ru su L f) := hD
      refine lv_iload_n hx hb dX2_moon_23 rfl (lv_at hl 0 rfl) ?_
      exact wrI (x) hx hb hr hlk dX2_moon_24 hP hD hS (by rw [sp_moon, if_pos (inB_in (n := 12) (by decide) c_1 (by rw [i_le]; rw [i_lt] at c_7; exact Int.not_le.mpr c_7))])
    · refine lv_bipush (v := (-102)) hx hb dX2_moon_10 (by decide) ?_
      exact wrI (mn) hx hb hr hlk dX2_moon_12 hP hD hS (by rw [sp_moon, if_neg (by rw [inB_hi (n := 12) (by decide) (by rw [i_le]; rw [i_lt] at c_7; exact Int.not_lt.mp c_7)]; exact Bool.false_ne_true)])

theorem iw_X2_fill_X2 : ∀ w ∈ u_ws RX2 TX2 14, w ∈ wsX2_fill := by decide +kernel
set_option maxRecDepth 100000 in
set_option maxHeartbeats 4000000 in
/-- fill -/
theorem c_X2_fill {l : Launch} {D : va_G} {F : Nat → Nat} {Y : Nat → ClassId} {mn fl : Int32} {gv : Int64} {fs fb wo : Int32} {lv sl : Nat → Int32} {ru su : Nat → Option Nat} {L : List Nat} {f : Nat → va_E} {b n sN st : Nat} (hb8 : b ≤ 8) (x v : Int32) : WrI l yX2_fill wsX2_fill (rk 1) D (xty Y) (xw F Y (nI b) mn (nI n) (nI sN) (nI st) fl gv fs fb wo lv sl ru su L f) [.ref (F 0), .int x, .int v] (σ := Nat → Int32) (fun u => xw F Y (nI b) mn (nI n) (nI sN) (nI st) fl gv fs fb wo u sl ru su L f) (fun r u => (r, u) = sp_fill b lv x v) 0 0 := by
  intro sz
  refine wrEnter (cc := cX2_fill) (maxL := 4) (ret := (some .int)) (by decide) rfl (Nat.le_of_ble_eq_true rfl) ?_
  intro p e s m below meth c hx hb hr hml hown hts hlk hP hK hN hsz hD hS hA hin ls hl
  have hown : s.vm.findClass RX2 = some m.cls := hown
  have hl : lv_has ls 4 [(0, .ref (F 0)), (1, .int x), (2, .int v)] := hl
  refine lv_aload_n hx hb dX2_fill_0 rfl (lv_at hl 0 rfl) ?_
  refine lv_iload_n hx hb dX2_fill_1 rfl (lv_at hl 1 rfl) ?_
  refine RoI.callV (As := [.int x]) (rest := []) (c_X2_isBasin hb8 x) ⟨hx, hb, hml, hown, hts⟩ (cwV 1 hts gX2_fill_X2_isBasin rfl rfl rfl (by decide +kernel) ⟨by decide, by decide⟩) hP hK hN 0 2 rfl rfl rfl hl.1 rfl (Nat.le_of_ble_eq_true rfl) dX2_fill_2 ⟨Nat.le_of_ble_eq_true rfl, Nat.le_of_ble_eq_true rfl⟩ (fun r_1 hr_1 => ?_)
  refine lv_if_ne (tgt := 11) hx hb dX2_fill_5 (by decide) (fun c_5 => ?_) (fun c_5 => ?_)
  · have b_5 : inB x b = true := bI_n (by rw [← hr_1]; exact c_5)
    refine lv_iload_n hx hb dX2_fill_11 rfl (lv_at hl 2 rfl) ?_
    refine RoI.callS (As := [.int v]) (rest := []) (c_X2_isLevel v) ⟨hx, hb, hml, hown, hts⟩ (va_cwS 1 hts gX2_fill_X2_isLevel rfl rfl rfl (by decide +kernel) ⟨by decide, by decide⟩) hP hK hN rfl hl.1 rfl (Nat.le_of_ble_eq_true rfl) dX2_fill_12 ⟨Nat.le_of_ble_eq_true rfl, Nat.le_of_ble_eq_true rfl⟩ (fun r_2 hr_2 => ?_)
    refine lv_if_ne (tgt := 21) hx hb dX2_fill_15 (by decide) (fun c_15 => ?_) (fun c_15 => ?_)
    · have b_15 : lvB v = true := bI_n (by rw [← hr_2]; exact c_15)
      refine lv_aload_n hx hb dX2_fill_21 rfl (lv_at hl 0 rfl) ?_
      refine va_get (D := D) (ci := 2) (v := .ref (F 1)) (C := RX2) (T := TX2) (N := 14) hx hb hts iw_X2_fill_X2 hown hK hP 0 rfl rfl 0 (by decide) (hts (.fieldLink RX2 9 "SluiceRules" "levels" "[I") (by decide +kernel)) (fun _ h9 => h9) rfl dX2_fill_22 ?_
      refine lv_iload_n hx hb dX2_fill_25 rfl (lv_at hl 1 rfl) ?_
      refine va_iald hx hb hK hP 1 0 rfl rfl (inB_vp.mp (inB_up hb8 b_5)) dX2_fill_26 ?_
      refine lv_istore_n (lv' := [(3, .int (lv x.toNatClampNeg)), (0, .ref (F 0)), (1, .int x), (2, .int v)]) hx hb dX2_fill_27 rfl hl (by decide) rfl (fun ls hl => ?_)
      refine lv_aload_n hx hb dX2_fill_28 rfl (lv_at hl 1 rfl) ?_
      refine va_get (D := D) (ci := 2) (v := .ref (F 1)) (C := RX2) (T := TX2) (N := 14) hx hb hts iw_X2_fill_X2 hown hK hP 0 rfl rfl 0 (by decide) (hts (.fieldLink RX2 9 "SluiceRules" "levels" "[I") (by decide +kernel)) (fun _ h9 => h9) rfl dX2_fill_29 ?_
      refine lv_iload_n hx hb dX2_fill_32 rfl (lv_at hl 2 rfl) ?_
      refine lv_iload_n hx hb dX2_fill_33 rfl (lv_at hl 3 rfl) ?_
      refine va_iast hx hb hK hP hD hS 1 0 rfl rfl (inB_vp.mp (inB_up hb8 b_5)) dX2_fill_34 (fun H locs hP hD hS => ?_)
      have hP : va_P D vwCl (xw F Y (nI b) mn (nI n) (nI sN) (nI st) fl gv fs fb wo (upd lv x.toNatClampNeg v) sl ru su L f) H := hP
      have hD : va_D (va_A (xw F Y (nI b) mn (nI n) (nI sN) (nI st) fl gv fs fb wo lv sl ru su L f) sz) (xw F Y (nI b) mn (nI n) (nI sN) (nI st) fl gv fs fb wo (upd lv x.toNatClampNeg v) sl ru su L f) := hD
      refine lv_iload_n hx hb dX2_fill_35 rfl (lv_at hl 0 rfl) ?_
      exact wrI (upd lv x.toNatClampNeg v) hx hb hr hlk dX2_fill_36 hP hD hS (by rw [sp_fill, if_pos b_5, if_pos b_15])
    · have b_15 : lvB v = false := bI_z (by rw [← hr_2]; exact c_15)
      refine lv_bipush (v := (-102)) hx hb dX2_fill_18 (by decide) ?_
      exact wrI (lv) hx hb hr hlk dX2_fill_20 hP hD hS (by rw [sp_fill, if_pos b_5, if_neg (by rw [b_15]; exact Bool.false_ne_true)])
  · have b_5 : inB x b = false := bI_z (by rw [← hr_1]; exact c_5)
    refine lv_bipush (v := (-101)) hx hb dX2_fill_8 (by decide) ?_
    exact wrI (lv) hx hb hr hlk dX2_fill_10 hP hD hS (by rw [sp_fill, if_neg (by rw [b_5]; exact Bool.false_ne_true)])

theorem iw_X2_basin_X2 : ∀ w ∈ u_ws RX2 TX2 14, w ∈ wsX2_basin := by decide +kernel
set_option maxRecDepth 100000 in
set_option maxHeartbeats 4000000 in
/-- basin -/
theorem c_X2_basin {l : Launch} {D : va_G} {F : Nat → Nat} {Y : Nat → ClassId} {mn fl : Int32} {gv : Int64} {fs fb wo : Int32} {lv sl : Nat → Int32} {ru su : Nat → Option Nat} {L : List Nat} {f : Nat → va_E} {b n sN st : Nat} (hb8 : b ≤ 8) (x : Int32) : WrI l yX2_basin wsX2_basin (rk 1) D (xty Y) (xw F Y (nI b) mn (nI n) (nI sN) (nI st) fl gv fs fb wo lv sl ru su L f) [.ref (F 0), .int x] (σ := Nat × (Nat → Int32)) (fun u => xw F Y (nI u.1) mn (nI n) (nI sN) (nI st) fl gv fs fb wo u.2 sl ru su L f) (fun r u => (r, u) = sp_basin b lv x) 0 0 := by
  intro sz
  refine wrEnter (cc := cX2_basin) (maxL := 2) (ret := (some .int)) (by decide) rfl (Nat.le_of_ble_eq_true rfl) ?_
  intro p e s m below meth c hx hb hr hml hown hts hlk hP hK hN hsz hD hS hA hin ls hl
  have hown : s.vm.findClass RX2 = some m.cls := hown
  have hl : lv_has ls 2 [(0, .ref (F 0)), (1, .int x)] := hl
  refine lv_iload_n hx hb dX2_basin_0 rfl (lv_at hl 1 rfl) ?_
  refine RoI.callS (As := [.int x]) (rest := []) (c_X2_isLevel x) ⟨hx, hb, hml, hown, hts⟩ (va_cwS 1 hts gX2_basin_X2_isLevel rfl rfl rfl (by decide +kernel) ⟨by decide, by decide⟩) hP hK hN rfl hl.1 rfl (Nat.le_of_ble_eq_true rfl) dX2_basin_1 ⟨Nat.le_of_ble_eq_true rfl, Nat.le_of_ble_eq_true rfl⟩ (fun r_1 hr_1 => ?_)
  refine lv_if_ne (tgt := 10) hx hb dX2_basin_4 (by decide) (fun c_4 => ?_) (fun c_4 => ?_)
  · have b_4 : lvB x = true := bI_n (by rw [← hr_1]; exact c_4)
    refine lv_aload_n hx hb dX2_basin_10 rfl (lv_at hl 0 rfl) ?_
    refine va_get (D := D) (ci := 2) (v := .int (nI b)) (C := RX2) (T := TX2) (N := 14) hx hb hts iw_X2_basin_X2 hown hK hP 0 rfl rfl 1 (by decide) (hts (.fieldLink RX2 13 "SluiceRules" "basinCount" "I") (by decide +kernel)) (fun _ h9 => h9) rfl dX2_basin_11 ?_
    refine lv_aload_n hx hb dX2_basin_14 rfl (lv_at hl 0 rfl) ?_
    refine va_get (D := D) (ci := 2) (v := .ref (F 1)) (C := RX2) (T := TX2) (N := 14) hx hb hts iw_X2_basin_X2 hown hK hP 0 rfl rfl 0 (by decide) (hts (.fieldLink RX2 9 "SluiceRules" "levels" "[I") (by decide +kernel)) (fun _ h9 => h9) rfl dX2_basin_15 ?_
    refine va_alen (v := 8) hx hb hK hP 1 0 rfl rfl rfl dX2_basin_18 ?_
    refine lv_icmp_lt (tgt := 25) hx hb dX2_basin_19 (by decide) (fun c_19 => ?_) (fun c_19 => ?_)
    · have b_l8 : b < 8 := by rw [i_lt, nI_toInt (by omega)] at c_19; have : (8 : Int32).toInt = 8 := rfl; omega
      have b_n8 : ¬ b = 8 := by omega
      refine lv_aload_n hx hb dX2_basin_25 rfl (lv_at hl 0 rfl) ?_
      refine va_get (D := D) (ci := 2) (v := .ref (F 1)) (C := RX2) (T := TX2) (N := 14) hx hb hts iw_X2_basin_X2 hown hK hP 0 rfl rfl 0 (by decide) (hts (.fieldLink RX2 9 "SluiceRules" "levels" "[I") (by decide +kernel)) (fun _ h9 => h9) rfl dX2_basin_26 ?_
      refine lv_aload_n hx hb dX2_basin_29 rfl (lv_at hl 0 rfl) ?_
      refine va_get (D := D) (ci := 2) (v := .int (nI b)) (C := RX2) (T := TX2) (N := 14) hx hb hts iw_X2_basin_X2 hown hK hP 0 rfl rfl 1 (by decide) (hts (.fieldLink RX2 13 "SluiceRules" "basinCount" "I") (by decide +kernel)) (fun _ h9 => h9) rfl dX2_basin_30 ?_
      refine lv_iload_n hx hb dX2_basin_33 rfl (lv_at hl 1 rfl) ?_
      refine my_iast (j := b) hx hb hK hP hD hS 1 0 rfl rfl (rfl) (b_l8) (by decide) dX2_basin_34 (fun H locs hP hD hS => ?_)
      have hP : va_P D vwCl (xw F Y (nI b) mn (nI n) (nI sN) (nI st) fl gv fs fb wo (upd lv b x) sl ru su L f) H := hP
      have hD : va_D (va_A (xw F Y (nI b) mn (nI n) (nI sN) (nI st) fl gv fs fb wo lv sl ru su L f) sz) (xw F Y (nI b) mn (nI n) (nI sN) (nI st) fl gv fs fb wo (upd lv b x) sl ru su L f) := hD
      refine lv_aload_n hx hb dX2_basin_35 rfl (lv_at hl 0 rfl) ?_
      refine lv_dup hx hb dX2_basin_36 rfl ?_
      refine va_get (D := D) (ci := 2) (v := .int (nI b)) (C := RX2) (T := TX2) (N := 14) hx hb hts iw_X2_basin_X2 hown hK hP 0 rfl rfl 1 (by decide) (hts (.fieldLink RX2 13 "SluiceRules" "basinCount" "I") (by decide +kernel)) (fun _ h9 => h9) rfl dX2_basin_37 ?_
      refine lv_iconst (v := 1) hx hb dX2_basin_40 (by decide) ?_
      refine lv_iadd hx hb dX2_basin_41 ?_
      refine va_put (D := D) (ci := 2) (v := .int ((nI b) + 1)) (ty := .int) (C := RX2) (T := TX2) (N := 14) hx hb hts iw_X2_basin_X2 tyX2 tyX2_ok nmX2 hown hK hP hD hS 0 rfl rfl 1 (by decide) (hts (.fieldLink RX2 13 "SluiceRules" "basinCount" "I") (by decide +kernel)) (fun _ h9 => h9) rfl (by decide +kernel) rfl rfl (Nat.le_of_ble_eq_true rfl) dX2_basin_42 (fun H locs hP hD hS => ?_)
      have hP : va_P D vwCl (xw F Y ((nI b) + 1) mn (nI n) (nI sN) (nI st) fl gv fs fb wo (upd lv b x) sl ru su L f) H := hP
      have hD : va_D (va_A (xw F Y (nI b) mn (nI n) (nI sN) (nI st) fl gv fs fb wo lv sl ru su L f) sz) (xw F Y ((nI b) + 1) mn (nI n) (nI sN) (nI st) fl gv fs fb wo (upd lv b x) sl ru su L f) := hD
      refine lv_aload_n hx hb dX2_basin_45 rfl (lv_at hl 0 rfl) ?_
      refine va_get (D := D) (ci := 2) (v := .int ((nI b) + 1)) (C := RX2) (T := TX2) (N := 14) hx hb hts iw_X2_basin_X2 hown hK hP 0 rfl rfl 1 (by decide) (hts (.fieldLink RX2 13 "SluiceRules" "basinCount" "I") (by decide +kernel)) (fun _ h9 => h9) rfl dX2_basin_46 ?_
      refine lv_iconst (v := 1) hx hb dX2_basin_49 (by decide) ?_
      refine lv_isub hx hb dX2_basin_50 ?_
      rw [nI_1] at hP hD
      exact wrI ((b + 1, upd lv b x)) hx hb hr hlk dX2_basin_51 hP hD hS (by rw [sp_basin, if_pos b_4, if_neg b_n8, nI_1, nI_pred])
    · have b_e8 : b = 8 := by rw [i_lt, nI_toInt (by omega)] at c_19; have : (8 : Int32).toInt = 8 := rfl; omega
      refine lv_bipush (v := (-103)) hx hb dX2_basin_22 (by decide) ?_
      exact wrI ((b, lv)) hx hb hr hlk dX2_basin_24 hP hD hS (by rw [sp_basin, if_pos b_4, if_pos b_e8])
  · have b_4 : lvB x = false := bI_z (by rw [← hr_1]; exact c_4)
    refine lv_bipush (v := (-102)) hx hb dX2_basin_7 (by decide) ?_
    exact wrI ((b, lv)) hx hb hr hlk dX2_basin_9 hP hD hS (by rw [sp_basin, if_neg (by rw [b_4]; exact Bool.false_ne_true)])

theorem iw_X2_put_X2 : ∀ w ∈ u_ws RX2 TX2 14, w ∈ wsX2_put := by decide +kernel
set_option maxRecDepth 100000 in
set_option maxHeartbeats 4000000 in
/-- put -/
theorem c_X2_put {l : Launch} {D : va_G} {F : Nat → Nat} {Y : Nat → ClassId} {mn fl : Int32} {gv : Int64} {fs fb wo : Int32} {lv sl : Nat → Int32} {ru su : Nat → Option Nat} {L : List Nat} {f : Nat → va_E} {b n sN st : Nat} {kd pt : Nat → Int32} {he : Nat → Int64} {ct fr to rl : Nat → Int32} (hR : xRel n sN kd pt he ct fr to rl ru su L f) (hn40 : n ≤ 40) (s_ r_ : Int32) : WrI l yX2_put wsX2_put (rk 2) D (xty Y) (xw F Y (nI b) mn (nI n) (nI sN) (nI st) fl gv fs fb wo lv sl ru su L f) [.ref (F 0), .int s_, .int r_] (σ := Nat → Int32) (fun u => xw F Y (nI b) mn (nI n) (nI sN) (nI st) fl gv fs fb wo lv u ru su L f) (fun r u => (r, u) = sp_put n sl s_ r_) 0 0 := by
  intro sz
  refine wrEnter (cc := cX2_put) (maxL := 4) (ret := (some .int)) (by decide) rfl (Nat.le_of_ble_eq_true rfl) ?_
  intro p e s m below meth c hx hb hr hml hown hts hlk hP hK hN hsz hD hS hA hin ls hl
  have hown : s.vm.findClass RX2 = some m.cls := hown
  have hl : lv_has ls 4 [(0, .ref (F 0)), (1, .int s_), (2, .int r_)] := hl
  refine lv_aload_n hx hb dX2_put_0 rfl (lv_at hl 0 rfl) ?_
  refine lv_iload_n hx hb dX2_put_1 rfl (lv_at hl 1 rfl) ?_
  refine RoI.callV (As := [.int s_]) (rest := []) (c_X2_isSlot s_) ⟨hx, hb, hml, hown, hts⟩ (cwV 1 hts gX2_put_X2_isSlot rfl rfl rfl (by decide +kernel) ⟨by decide, by decide⟩) hP hK hN 0 2 rfl rfl rfl hl.1 rfl (Nat.le_of_ble_eq_true rfl) dX2_put_2 ⟨Nat.le_of_ble_eq_true rfl, Nat.le_of_ble_eq_true rfl⟩ (fun r_1 hr_1 => ?_)
  refine lv_if_eq (tgt := 16) hx hb dX2_put_5 (by decide) (fun c_5 => ?_) (fun c_5 => ?_)
  · have b_5 : inB s_ 8 = false := bI_z (by rw [← hr_1]; exact c_5)
    refine lv_bipush (v := (-101)) hx hb dX2_put_16 (by decide) ?_
    exact wrI (sl) hx hb hr hlk dX2_put_18 hP hD hS (by rw [sp_put, if_neg (fun z => by rw [b_5] at z; exact absurd z.1 Bool.false_ne_true)])
  · have b_5 : inB s_ 8 = true := bI_n (by rw [← hr_1]; exact c_5)
    refine lv_aload_n hx hb dX2_put_8 rfl (lv_at hl 0 rfl) ?_
    refine lv_iload_n hx hb dX2_put_9 rfl (lv_at hl 2 rfl) ?_
    refine RoI.callV (As := [.int r_]) (rest := []) (c_X2_isRuleOrNone hR hn40 r_) ⟨hx, hb, hml, hown, hts⟩ (cwV 1 hts gX2_put_X2_isRuleOrNone rfl rfl rfl (by decide +kernel) ⟨by decide, by decide⟩) hP hK hN 0 2 rfl rfl rfl hl.1 rfl (Nat.le_of_ble_eq_true rfl) dX2_put_10 ⟨Nat.le_of_ble_eq_true rfl, Nat.le_of_ble_eq_true rfl⟩ (fun r_2 hr_2 => ?_)
    refine lv_if_ne (tgt := 19) hx hb dX2_put_13 (by decide) (fun c_13 => ?_) (fun c_13 => ?_)
    · have b_13 : ptB r_ n = true := bI_n (by rw [← hr_2]; exact c_13)
      refine lv_aload_n hx hb dX2_put_19 rfl (lv_at hl 0 rfl) ?_
      refine va_get (D := D) (ci := 2) (v := .ref (F 2)) (C := RX2) (T := TX2) (N := 14) hx hb hts iw_X2_put_X2 hown hK hP 0 rfl rfl 3 (by decide) (hts (.fieldLink RX2 20 "SluiceRules" "slots" "[I") (by decide +kernel)) (fun _ h9 => h9) rfl dX2_put_20 ?_
      refine lv_iload_n hx hb dX2_put_23 rfl (lv_at hl 1 rfl) ?_
      refine va_iald hx hb hK hP 2 1 rfl rfl (inB_vp.mp b_5) dX2_put_24 ?_
      refine lv_istore_n (lv' := [(3, .int (sl s_.toNatClampNeg)), (0, .ref (F 0)), (1, .int s_), (2, .int r_)]) hx hb dX2_put_25 rfl hl (by decide) rfl (fun ls hl => ?_)
      refine lv_aload_n hx hb dX2_put_26 rfl (lv_at hl 1 rfl) ?_
      refine va_get (D := D) (ci := 2) (v := .ref (F 2)) (C := RX2) (T := TX2) (N := 14) hx hb hts iw_X2_put_X2 hown hK hP 0 rfl rfl 3 (by decide) (hts (.fieldLink RX2 20 "SluiceRules" "slots" "[I") (by decide +kernel)) (fun _ h9 => h9) rfl dX2_put_27 ?_
      refine lv_iload_n hx hb dX2_put_30 rfl (lv_at hl 2 rfl) ?_
      refine lv_iload_n hx hb dX2_put_31 rfl (lv_at hl 3 rfl) ?_
      refine va_iast hx hb hK hP hD hS 2 1 rfl rfl (inB_vp.mp b_5) dX2_put_32 (fun H locs hP hD hS => ?_)
      have hP : va_P D vwCl (xw F Y (nI b) mn (nI n) (nI sN) (nI st) fl gv fs fb wo lv (upd sl s_.toNatClampNeg r_) ru su L f) H := hP
      have hD : va_D (va_A (xw F Y (nI b) mn (nI n) (nI sN) (nI st) fl gv fs fb wo lv sl ru su L f) sz) (xw F Y (nI b) mn (nI n) (nI sN) (nI st) fl gv fs fb wo lv (upd sl s_.toNatClampNeg r_) ru su L f) := hD
      refine lv_iload_n hx hb dX2_put_33 rfl (lv_at hl 0 rfl) ?_
      exact wrI (upd sl s_.toNatClampNeg r_) hx hb hr hlk dX2_put_34 hP hD hS (by rw [sp_put, if_pos ⟨b_5, b_13⟩])
    · have b_13 : ptB r_ n = false := bI_z (by rw [← hr_2]; exact c_13)
      refine lv_bipush (v := (-101)) hx hb dX2_put_16 (by decide) ?_
      exact wrI (sl) hx hb hr hlk dX2_put_18 hP hD hS (by rw [sp_put, if_neg (fun z => by rw [b_13] at z; exact absurd z.2 Bool.false_ne_true)])
