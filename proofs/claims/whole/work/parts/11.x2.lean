/-! the class: an asking -/
def fdv (x y : Int64) : Int64 := if ¬ (x ^^^ y) < 0 then x / y else if x / y * y = x then x / y else x / y - 1
def fmd (x y : Int64) : Int64 := if ¬ (x ^^^ y) < 0 then x - x / y * y else if x - x / y * y = 0 then x - x / y * y else x - x / y * y + y
theorem xor_neg {x y : Int64} (hy : 0 ≤ y.toInt) : (x ^^^ y) < 0 ↔ x < 0 := by
  have e : ∀ z : Int64, z < 0 ↔ z.toBitVec.msb = true := fun z => by
    rw [l_lt, BitVec.msb_eq_toInt]
    simp only [decide_eq_true_eq]
    exact Iff.rfl
  rw [e, e, Int64.toBitVec_xor, BitVec.msb_xor]
  have h : y.toBitVec.msb = false := by
    rw [BitVec.msb_eq_toInt]
    have h2 : ¬ y.toBitVec.toInt < 0 := Int.not_lt.mpr hy
    simpa using h2
  rw [h]; simp
theorem rem_sign {x y : Int64} (hy : 0 < y.toInt) : (x - x / y * y < 0) ↔ x < 0 ∧ ¬ x - x / y * y = 0 := by
  have h1 : (x - x / y * y).toInt = x.toInt.tmod y.toInt := Jvm.Kit.i64_rem x y
  have z : ∀ w : Int64, w = 0 ↔ w.toInt = 0 := fun w => ⟨fun h => by rw [h]; rfl, fun h => Int64.toInt_inj.mp (by rw [h]; rfl)⟩
  rw [l_lt, l_lt, z, h1, Int64.toInt_zero]
  rcases Int.lt_or_le x.toInt 0 with q | q
  · have : x.toInt.tmod y.toInt ≤ 0 := by
      have h2 := Int.neg_tmod (a := x.toInt) (b := y.toInt)
      have h3 := Int.tmod_nonneg (a := -x.toInt) y.toInt (by omega)
      omega
    omega
  · have := Int.tmod_nonneg (a := x.toInt) y.toInt q
    omega
theorem fdv_sd {x y : Int64} (hy : 0 < y.toInt) : fdv x y = sd x y := by
  unfold fdv sd
  have h := rem_sign (x := x) hy
  have h2 : x / y * y = x ↔ x - x / y * y = 0 := by
    constructor
    · intro q; rw [q]; exact Int64.sub_self _
    · intro q; rw [Int64.sub_eq_iff_eq_add, Int64.zero_add] at q; exact q.symm
  have hxn := xor_neg (x := x) (y := y) (by omega)
  by_cases a : x < 0
  · rw [if_neg (fun z => z (hxn.mpr a))]
    by_cases b : x - x / y * y = 0
    · rw [if_pos (h2.mpr b), if_neg (fun q => (h.mp q).2 b)]
    · rw [if_neg (fun q => b (h2.mp q)), if_pos (h.mpr ⟨a, b⟩)]
  · rw [if_pos (fun z => a (hxn.mp z)), if_neg (fun q => a (h.mp q).1)]
theorem fmd_12 (x : Int64) : fmd x 12 = td12 x := by
  have hy : 0 < (12 : Int64).toInt := by decide
  unfold fmd td12
  have h := rem_sign (x := x) hy
  have hxn := xor_neg (x := x) (y := 12) (by decide)
  by_cases a : x < 0
  · rw [if_neg (fun z => z (hxn.mpr a))]
    by_cases b : x - x / 12 * 12 = 0
    · rw [if_pos b, if_neg (fun q => (h.mp q).2 b)]
    · rw [if_neg b, if_pos (h.mpr ⟨a, b⟩)]
  · rw [if_pos (fun z => a (hxn.mp z)), if_neg (fun q => a (h.mp q).1)]
theorem td12_in (x : Int64) : ∃ j : Nat, j < 12 ∧ td12 x = lN j := by
  have h1 : (x - x / 12 * 12).toInt = x.toInt.tmod 12 := Jvm.Kit.i64_rem x 12
  have hb1 : -12 < x.toInt.tmod 12 := Int.lt_tmod_of_pos _ (by decide)
  have hb2 : x.toInt.tmod 12 < 12 := Int.tmod_lt_of_pos _ (by decide)
  have key : 0 ≤ (td12 x).toInt ∧ (td12 x).toInt < 12 := by
    unfold td12
    by_cases a : x - x / 12 * 12 < 0
    · rw [if_pos a]
      rw [l_lt, h1, Int64.toInt_zero] at a
      have e : (x - x / 12 * 12 + 12).toInt = x.toInt.tmod 12 + 12 := by
        rw [Jvm.Kit.i64_add, h1]
        · rfl
        · rw [h1]; show -2 ^ 63 ≤ x.toInt.tmod 12 + 12; omega
        · rw [h1]; show x.toInt.tmod 12 + 12 < 2 ^ 63; omega
      omega
    · rw [if_neg a]
      rw [l_lt, h1, Int64.toInt_zero] at a
      omega
  refine ⟨(td12 x).toInt.toNat, by omega, Int64.toInt_inj.mp ?_⟩
  rw [lN_toInt (by omega)]; omega
theorem td_abs (x : Int64) : (6 : Int64) - (if 0 < td12 x - 6 then td12 x - 6 else -(td12 x - 6)) = if td12 x < 6 then td12 x else 12 - td12 x := by
  obtain ⟨j, hj, e⟩ := td12_in x
  rw [e]
  have : ∀ j : Nat, j < 12 → (6 : Int64) - (if 0 < lN j - 6 then lN j - 6 else -(lN j - 6)) = if lN j < 6 then lN j else 12 - lN j := by decide
  exact this j hj

set_option maxRecDepth 100000 in
set_option maxHeartbeats 4000000 in
/-- Math.floorDiv -/
theorem c_J9_floorDiv_f86c9 {l : Launch} {D : va_G} {tys : List (ClassId × FieldType)} {w : va_W} (x y : Int64) (hy : ¬ y = 0) : RoL l yJ9_floorDiv_f86c9 wsJ9_floorDiv_f86c9 (rk 0) D (tys) (w) [.long x, .long y] (fun r => r = fdv x y) := by
  refine roEnterF (cc := cJ9_floorDiv_f86c9) (maxL := 6) (ret := (some .long)) (by decide +kernel) rfl (Nat.le_of_ble_eq_true rfl) ?_
  intro p e s m below meth c hx hb hr hml hown hts hlk hP hK hN ls hl
  have hown : s.vm.findClass RJ9 = some m.cls := hown
  have hl : lv_has ls 6 [(0, .long x), (2, .long y)] := hl
  refine lv_lload_n hx hb dJ9_floorDiv_f86c9_0 rfl (lv_at hl 0 rfl) ?_
  refine lv_lload_n hx hb dJ9_floorDiv_f86c9_1 rfl (lv_at hl 1 rfl) ?_
  refine lv_ldiv hx hb dJ9_floorDiv_f86c9_2 (hy) ?_
  refine lv_lstore (lv' := [(4, .long (x / y)), (0, .long x), (2, .long y)]) hx hb dJ9_floorDiv_f86c9_3 hl (by decide) rfl (fun ls hl => ?_)
  refine lv_lload_n hx hb dJ9_floorDiv_f86c9_5 rfl (lv_at hl 1 rfl) ?_
  refine lv_lload_n hx hb dJ9_floorDiv_f86c9_6 rfl (lv_at hl 2 rfl) ?_
  refine lv_lxor hx hb dJ9_floorDiv_f86c9_7 ?_
  refine lv_lconst (v := 0) hx hb dJ9_floorDiv_f86c9_8 (by decide) ?_
  refine W.lcmp hx hb dJ9_floorDiv_f86c9_9 ?_
  refine lv_if_ge (tgt := 27) hx hb dJ9_floorDiv_f86c9_10 (by decide) (fun c_10 => ?_) (fun c_10 => ?_)
  · have c_10 := lc_gep c_10
    refine lv_lload hx hb dJ9_floorDiv_f86c9_27 (lv_at hl 0 rfl) ?_
    exact roL hx hb hr hlk dJ9_floorDiv_f86c9_29 (by rw [fdv, if_pos c_10])
  · have c_10 := lc_gen c_10
    refine lv_lload hx hb dJ9_floorDiv_f86c9_13 (lv_at hl 0 rfl) ?_
    refine lv_lload_n hx hb dJ9_floorDiv_f86c9_15 rfl (lv_at hl 2 rfl) ?_
    refine lv_lmul hx hb dJ9_floorDiv_f86c9_16 ?_
    refine lv_lload_n hx hb dJ9_floorDiv_f86c9_17 rfl (lv_at hl 1 rfl) ?_
    refine W.lcmp hx hb dJ9_floorDiv_f86c9_18 ?_
    refine lv_if_eq (tgt := 27) hx hb dJ9_floorDiv_f86c9_19 (by decide) (fun c_19 => ?_) (fun c_19 => ?_)
    · have c_19 := lc_eqp c_19
      refine lv_lload hx hb dJ9_floorDiv_f86c9_27 (lv_at hl 0 rfl) ?_
      exact roL hx hb hr hlk dJ9_floorDiv_f86c9_29 (by rw [fdv, if_neg (fun z => z c_10), if_pos c_19])
    · have c_19 := lc_eqn c_19
      refine lv_lload hx hb dJ9_floorDiv_f86c9_22 (lv_at hl 0 rfl) ?_
      refine lv_lconst (v := 1) hx hb dJ9_floorDiv_f86c9_24 (by decide) ?_
      refine lv_lsub hx hb dJ9_floorDiv_f86c9_25 ?_
      exact roL hx hb hr hlk dJ9_floorDiv_f86c9_26 (by rw [fdv, if_neg (fun z => z c_10), if_neg c_19])

set_option maxRecDepth 100000 in
set_option maxHeartbeats 4000000 in
/-- Math.floorMod -/
theorem c_J9_floorMod_f86c9 {l : Launch} {D : va_G} {tys : List (ClassId × FieldType)} {w : va_W} (x y : Int64) (hy : ¬ y = 0) : RoL l yJ9_floorMod_f86c9 wsJ9_floorMod_f86c9 (rk 0) D (tys) (w) [.long x, .long y] (fun r => r = fmd x y) := by
  refine roEnterF (cc := cJ9_floorMod_f86c9) (maxL := 6) (ret := (some .long)) (by decide +kernel) rfl (Nat.le_of_ble_eq_true rfl) ?_
  intro p e s m below meth c hx hb hr hml hown hts hlk hP hK hN ls hl
  have hown : s.vm.findClass RJ9 = some m.cls := hown
  have hl : lv_has ls 6 [(0, .long x), (2, .long y)] := hl
  refine lv_lload_n hx hb dJ9_floorMod_f86c9_0 rfl (lv_at hl 0 rfl) ?_
  refine lv_lload_n hx hb dJ9_floorMod_f86c9_1 rfl (lv_at hl 1 rfl) ?_
  refine lv_lrem hx hb dJ9_floorMod_f86c9_2 (hy) ?_
  refine lv_lstore (lv' := [(4, .long (x - x / y * y)), (0, .long x), (2, .long y)]) hx hb dJ9_floorMod_f86c9_3 hl (by decide) rfl (fun ls hl => ?_)
  refine lv_lload_n hx hb dJ9_floorMod_f86c9_5 rfl (lv_at hl 1 rfl) ?_
  refine lv_lload_n hx hb dJ9_floorMod_f86c9_6 rfl (lv_at hl 2 rfl) ?_
  refine lv_lxor hx hb dJ9_floorMod_f86c9_7 ?_
  refine lv_lconst (v := 0) hx hb dJ9_floorMod_f86c9_8 (by decide) ?_
  refine W.lcmp hx hb dJ9_floorMod_f86c9_9 ?_
  refine lv_if_ge (tgt := 25) hx hb dJ9_floorMod_f86c9_10 (by decide) (fun c_10 => ?_) (fun c_10 => ?_)
  · have c_10 := lc_gep c_10
    refine lv_lload hx hb dJ9_floorMod_f86c9_25 (lv_at hl 0 rfl) ?_
    exact roL hx hb hr hlk dJ9_floorMod_f86c9_27 (by rw [fmd, if_pos c_10])
  · have c_10 := lc_gen c_10
    refine lv_lload hx hb dJ9_floorMod_f86c9_13 (lv_at hl 0 rfl) ?_
    refine lv_lconst (v := 0) hx hb dJ9_floorMod_f86c9_15 (by decide) ?_
    refine W.lcmp hx hb dJ9_floorMod_f86c9_16 ?_
    refine lv_if_eq (tgt := 25) hx hb dJ9_floorMod_f86c9_17 (by decide) (fun c_17 => ?_) (fun c_17 => ?_)
    · have c_17 := lc_eqp c_17
      refine lv_lload hx hb dJ9_floorMod_f86c9_25 (lv_at hl 0 rfl) ?_
      exact roL hx hb hr hlk dJ9_floorMod_f86c9_27 (by rw [fmd, if_neg (fun z => z c_10), if_pos c_17])
    · have c_17 := lc_eqn c_17
      refine lv_lload hx hb dJ9_floorMod_f86c9_20 (lv_at hl 0 rfl) ?_
      refine lv_lload_n hx hb dJ9_floorMod_f86c9_22 rfl (lv_at hl 2 rfl) ?_
      refine lv_ladd hx hb dJ9_floorMod_f86c9_23 ?_
      exact roL hx hb hr hlk dJ9_floorMod_f86c9_24 (by rw [fmd, if_neg (fun z => z c_10), if_neg c_17])

theorem iw_X2_tide_X2 : ∀ w ∈ u_ws RX2 TX2 14, w ∈ wsX2_tide := by decide +kernel
set_option maxRecDepth 100000 in
set_option maxHeartbeats 4000000 in
/-- tide -/
theorem c_X2_tide {l : Launch} {D : va_G} {F : Nat → Nat} {Y : Nat → ClassId} {mn fl : Int32} {gv : Int64} {fs fb wo : Int32} {lv sl : Nat → Int32} {ru su : Nat → Option Nat} {L : List Nat} {f : Nat → va_E} {b n sN st : Nat} (h : Int32) : RoL l yX2_tide wsX2_tide (rk 1) D (xty Y) (xw F Y (nI b) mn (nI n) (nI sN) (nI st) fl gv fs fb wo lv sl ru su L f) [.ref (F 0), .int h] (fun r => r = td mn h) := by
  refine roEnter (cc := cX2_tide) (maxL := 4) (ret := (some .long)) (by decide) rfl (Nat.le_of_ble_eq_true rfl) ?_
  intro p e s m below meth c hx hb hr hml hown hts hlk hP hK hN ls hl
  have hown : s.vm.findClass RX2 = some m.cls := hown
  have hl : lv_has ls 4 [(0, .ref (F 0)), (1, .int h)] := hl
  refine lv_iload_n hx hb dX2_tide_0 rfl (lv_at hl 1 rfl) ?_
  refine lv_i2l hx hb dX2_tide_1 rfl ?_
  refine lv_aload_n hx hb dX2_tide_2 rfl (lv_at hl 0 rfl) ?_
  refine va_get (D := D) (ci := 2) (v := .int mn) (C := RX2) (T := TX2) (N := 14) hx hb hts iw_X2_tide_X2 hown hK hP 0 rfl rfl 2 (by decide) (hts (.fieldLink RX2 17 "SluiceRules" "moonNow" "I") (by decide +kernel)) (fun _ h9 => h9) rfl dX2_tide_3 ?_
  refine lv_i2l hx hb dX2_tide_6 rfl ?_
  refine lv_lmul hx hb dX2_tide_7 ?_
  refine lv_ldc2 (v := 12) hx hb hown (hts (.constantLong RX2 161 (12)) (by decide +kernel)) dX2_tide_8 ?_
  refine RoL.callS (As := [.long (h.toInt64 * mn.toInt64), .long 12]) (rest := []) (c_J9_floorMod_f86c9 (h.toInt64 * mn.toInt64) 12 (by decide)) ⟨hx, hb, hml, hown, hts⟩ (va_cwS 2 hts gX2_tide_J9_floorMod_f86c9 rfl rfl rfl (by decide +kernel) ⟨by decide, by decide⟩) hP hK hN rfl hl.1 rfl (Nat.le_of_ble_eq_true rfl) dX2_tide_11 ⟨Nat.le_of_ble_eq_true rfl, Nat.le_of_ble_eq_true rfl⟩ (fun r_1 hr_1 => ?_)
  refine lv_lstore_n (lv' := [(2, .long r_1), (0, .ref (F 0)), (1, .int h)]) hx hb dX2_tide_14 rfl hl (by decide) rfl (fun ls hl => ?_)
  refine lv_ldc2 (v := 6) hx hb hown (hts (.constantLong RX2 166 (6)) (by decide +kernel)) dX2_tide_15 ?_
  refine lv_lload_n hx hb dX2_tide_18 rfl (lv_at hl 0 rfl) ?_
  refine lv_ldc2 (v := 6) hx hb hown (hts (.constantLong RX2 166 (6)) (by decide +kernel)) dX2_tide_19 ?_
  refine lv_lsub hx hb dX2_tide_22 ?_
  refine va_mabs_long hx hb (hml.trans hl.1.symm) hown (hts (.methodLink RX2 168 Lib.MathLoose.abs_long.x) (by decide +kernel)) (hts (.static Lib.MathLoose.abs_long.x) (by decide +kernel)) (hts (.initialized "java/lang/Math") (by decide +kernel)) (hts (.code Lib.MathLoose.abs_long.x Lib.MathLoose.abs_long.code 2 (some .long)) (by decide +kernel)) (Nat.le_of_ble_eq_true rfl) (Nat.le_of_ble_eq_true rfl) (Nat.zero_le _) (Nat.zero_le _) dX2_tide_23 ?_
  refine lv_lsub hx hb dX2_tide_26 ?_
  exact roL hx hb hr hlk dX2_tide_27 (by rw [hr_1, fmd_12]; exact td_abs _)

set_option maxRecDepth 100000 in
set_option maxHeartbeats 4000000 in
/-- scaled -/
theorem c_X2_scaled {l : Launch} {D : va_G} {tys : List (ClassId × FieldType)} {w : va_W} (v : Int64) (t c_ : Int32) (hc : 1 ≤ c_.toInt) : RoL l yX2_scaled wsX2_scaled (rk 1) D (tys) (w) [.long v, .int t, .int c_] (fun r => r = sd (v * t.toInt64) c_.toInt64) := by
  refine roEnter (cc := cX2_scaled) (maxL := 4) (ret := (some .long)) (by decide) rfl (Nat.le_of_ble_eq_true rfl) ?_
  intro p e s m below meth c hx hb hr hml hown hts hlk hP hK hN ls hl
  have hown : s.vm.findClass RX2 = some m.cls := hown
  have hl : lv_has ls 4 [(0, .long v), (2, .int t), (3, .int c_)] := hl
  have hy0 : 0 < c_.toInt64.toInt := by rw [Int32.toInt_toInt64]; omega
  have hy : ¬ c_.toInt64 = 0 := fun z => by rw [z] at hy0; exact absurd hy0 (by decide)
  refine lv_iload_n hx hb dX2_scaled_0 rfl (lv_at hl 2 rfl) ?_
  refine lv_iconst (v := 1) hx hb dX2_scaled_1 (by decide) ?_
  refine lv_icmp_ge (tgt := 9) hx hb dX2_scaled_2 (by decide) (fun c_2 => ?_) (fun c_2 => ?_)
  · refine lv_lload_n hx hb dX2_scaled_9 rfl (lv_at hl 0 rfl) ?_
    refine lv_iload_n hx hb dX2_scaled_10 rfl (lv_at hl 1 rfl) ?_
    refine lv_i2l hx hb dX2_scaled_11 rfl ?_
    refine lv_lmul hx hb dX2_scaled_12 ?_
    refine lv_iload_n hx hb dX2_scaled_13 rfl (lv_at hl 2 rfl) ?_
    refine lv_i2l hx hb dX2_scaled_14 rfl ?_
    refine RoL.callS (As := [.long (v * t.toInt64), .long c_.toInt64]) (rest := []) (c_J9_floorDiv_f86c9 (v * t.toInt64) c_.toInt64 hy) ⟨hx, hb, hml, hown, hts⟩ (va_cwS 2 hts gX2_scaled_J9_floorDiv_f86c9 rfl rfl rfl (by decide +kernel) ⟨by decide, by decide⟩) hP hK hN rfl hl.1 rfl (Nat.le_of_ble_eq_true rfl) dX2_scaled_15 ⟨Nat.le_of_ble_eq_true rfl, Nat.le_of_ble_eq_true rfl⟩ (fun r_1 hr_1 => ?_)
    exact roL hx hb hr hlk dX2_scaled_18 (by rw [hr_1]; exact fdv_sd hy0)
  · exact absurd (by rw [ge_iff_le, i_le]; exact hc : c_ ≥ 1) c_2

theorem iw_X2_banded_X0 : ∀ w ∈ u_ws RX0 TX0 8, w ∈ wsX2_banded := by decide +kernel
set_option maxRecDepth 100000 in
set_option maxHeartbeats 4000000 in
/-- banded -/
theorem c_X2_banded {l : Launch} {D : va_G} {F : Nat → Nat} {Y : Nat → ClassId} {mn fl : Int32} {gv : Int64} {fs fb wo : Int32} {lv sl : Nat → Int32} {ru su : Nat → Option Nat} {L : List Nat} {f : Nat → va_E} {b n sN st : Nat} {kd pt : Nat → Int32} {he : Nat → Int64} {ct : Nat → Int32} {a k : Nat} (hL : a ∈ L) (hf : f a = ruE kd pt he ct k) (v : Int64) : RoL l yX2_banded wsX2_banded (rk 0) D (xty Y) (xw F Y (nI b) mn (nI n) (nI sN) (nI st) fl gv fs fb wo lv sl ru su L f) [.long v, .ref a] (fun r => r = bd v (pt (5 * k + 1)) (pt (5 * k + 2)) (pt (5 * k + 3)) (pt (5 * k + 4))) := by
  refine roEnter (cc := cX2_banded) (maxL := 3) (ret := (some .long)) (by decide) rfl (Nat.le_of_ble_eq_true rfl) ?_
  intro p e s m below meth c hx hb hr hml hown hts hlk hP hK hN ls hl
  have hown : s.vm.findClass RX2 = some m.cls := hown
  have hl : lv_has ls 3 [(0, .long v), (2, .ref a)] := hl
  obtain ⟨p_a, e_a⟩ : ∃ q : Nat, (xw F Y (nI b) mn (nI n) (nI sN) (nI st) fl gv fs fb wo lv sl ru su L f)[q]? = some (a, ruE kd pt he ct k) := pl_at hL hf
  refine lv_lload_n hx hb dX2_banded_0 rfl (lv_at hl 0 rfl) ?_
  refine lv_aload_n hx hb dX2_banded_1 rfl (lv_at hl 1 rfl) ?_
  refine va_getN (D := D) (ci := 0) (v := .int (pt (5 * k + 3))) (C := RX0) (T := TX0) (N := 8) (host := RX2) hx hb hts iw_X2_banded_X0 hown hK hP p_a e_a rfl 4 (by decide) (nf_175 hN) (fun _ h9 => h9) rfl dX2_banded_2 ?_
  refine lv_i2l hx hb dX2_banded_5 rfl ?_
  refine W.lcmp hx hb dX2_banded_6 ?_
  refine lv_if_ge (tgt := 16) hx hb dX2_banded_7 (by decide) (fun c_7 => ?_) (fun c_7 => ?_)
  · have c_7 := lc_gep c_7
    refine lv_lload_n hx hb dX2_banded_16 rfl (lv_at hl 0 rfl) ?_
    refine lv_aload_n hx hb dX2_banded_17 rfl (lv_at hl 1 rfl) ?_
    refine va_getN (D := D) (ci := 0) (v := .int (pt (5 * k + 4))) (C := RX0) (T := TX0) (N := 8) (host := RX2) hx hb hts iw_X2_banded_X0 hown hK hP p_a e_a rfl 5 (by decide) (nf_178 hN) (fun _ h9 => h9) rfl dX2_banded_18 ?_
    refine lv_i2l hx hb dX2_banded_21 rfl ?_
    refine W.lcmp hx hb dX2_banded_22 ?_
    refine lv_if_le (tgt := 34) hx hb dX2_banded_23 (by decide) (fun c_23 => ?_) (fun c_23 => ?_)
    · have c_23 := lc_lep c_23
      refine lv_lload_n hx hb dX2_banded_34 rfl (lv_at hl 0 rfl) ?_
      exact roL hx hb hr hlk dX2_banded_35 (by rw [bd, if_neg c_7, if_neg c_23])
    · have c_23 := lc_len c_23
      refine lv_aload_n hx hb dX2_banded_26 rfl (lv_at hl 1 rfl) ?_
      refine va_getN (D := D) (ci := 0) (v := .int (pt (5 * k + 2))) (C := RX0) (T := TX0) (N := 8) (host := RX2) hx hb hts iw_X2_banded_X0 hown hK hP p_a e_a rfl 3 (by decide) (nf_132 hN) (fun _ h9 => h9) rfl dX2_banded_27 ?_
      refine lv_i2l hx hb dX2_banded_30 rfl ?_
      refine lv_goto (tgt := 35) hx hb dX2_banded_31 (by decide) ?_
      exact roL hx hb hr hlk dX2_banded_35 (by rw [bd, if_neg c_7, if_pos c_23])
  · have c_7 := lc_gen c_7
    refine lv_aload_n hx hb dX2_banded_10 rfl (lv_at hl 1 rfl) ?_
    refine va_getN (D := D) (ci := 0) (v := .int (pt (5 * k + 1))) (C := RX0) (T := TX0) (N := 8) (host := RX2) hx hb hts iw_X2_banded_X0 hown hK hP p_a e_a rfl 2 (by decide) (nf_120 hN) (fun _ h9 => h9) rfl dX2_banded_11 ?_
    refine lv_i2l hx hb dX2_banded_14 rfl ?_
    exact roL hx hb hr hlk dX2_banded_15 (by rw [bd, if_pos c_7])

theorem wf_1 {b n : Nat} {kd pt : Nat → Int32} {k : Nat} (h : wfR b n kd pt k) (e : kd k = 1) : inB (pt (5 * k)) b = true := by
  have h := h.1; rw [e] at h; exact h
theorem wf_14 {b n : Nat} {kd pt : Nat → Int32} {k : Nat} (h : wfR b n kd pt k) (e : kd k = 14) : inB (pt (5 * k)) n = true ∧ kd (ix (pt (5 * k))) = 13 := by
  have h := h.1; rw [e] at h; exact of_decide_eq_true h
theorem wf_15 {b n : Nat} {kd pt : Nat → Int32} {k : Nat} (h : wfR b n kd pt k) (e : kd k = 15) : inB (pt (5 * k)) 8 = true := by
  have h := h.1; rw [e] at h; exact h
theorem wf_16 {b n : Nat} {kd pt : Nat → Int32} {k : Nat} (h : wfR b n kd pt k) (e : kd k = 16) : inB (pt (5 * k)) 8 = true ∧ inB (pt (5 * k + 1)) 8 = true ∧ pt (5 * k) ≤ pt (5 * k + 1) := by
  obtain ⟨h1, h2⟩ := h; rw [e] at h1 h2
  have h1 : (inB (pt (5 * k)) 8 && inB (pt (5 * k + 1)) 8) = true := h1
  have h2 : decide (pt (5 * k) ≤ pt (5 * k + 1)) = true := h2
  rw [Bool.and_eq_true] at h1
  exact ⟨h1.1, h1.2, of_decide_eq_true h2⟩
theorem wf_8 {b n : Nat} {kd pt : Nat → Int32} {k : Nat} (h : wfR b n kd pt k) (e : kd k = 8) : 1 ≤ (pt (5 * k + 2)).toInt ∧ (pt (5 * k + 2)).toInt ≤ 1000 := by
  have h := h.2; rw [e] at h; exact of_decide_eq_true h

theorem iw_X2_valueOfLeaf_X2 : ∀ w ∈ u_ws RX2 TX2 14, w ∈ wsX2_valueOfLeaf := by decide +kernel
theorem iw_X2_valueOfLeaf_X0 : ∀ w ∈ u_ws RX0 TX0 8, w ∈ wsX2_valueOfLeaf := by decide +kernel
set_option maxRecDepth 100000 in
set_option maxHeartbeats 4000000 in
/-- valueOfLeaf -/
theorem c_X2_valueOfLeaf {l : Launch} {D : va_G} {F : Nat → Nat} {Y : Nat → ClassId} {mn fl : Int32} {gv : Int64} {fs fb wo : Int32} {lv sl : Nat → Int32} {ru su : Nat → Option Nat} {L : List Nat} {f : Nat → va_E} {b n sN st : Nat} {kd pt : Nat → Int32} {he : Nat → Int64} {ct fr to rl : Nat → Int32} (hR : xRel n sN kd pt he ct fr to rl ru su L f) (hn40 : n ≤ 40) (hb8 : b ≤ 8) {a k : Nat} (hL : a ∈ L) (hf : f a = ruE kd pt he ct k) (hw : wfR b n kd pt k) (h : Int32) : RoL l yX2_valueOfLeaf wsX2_valueOfLeaf (rk 3) D (xty Y) (xw F Y (nI b) mn (nI n) (nI sN) (nI st) fl gv fs fb wo lv sl ru su L f) [.ref (F 0), .ref a, .int h] (fun r => r = lf (n, mn, lv, sl, kd, pt, he) k h ct) := by
  refine roEnter (cc := cX2_valueOfLeaf) (maxL := 3) (ret := (some .long)) (by decide) rfl (Nat.le_of_ble_eq_true rfl) ?_
  intro p e s m below meth c hx hb hr hml hown hts hlk hP hK hN ls hl
  have hown : s.vm.findClass RX2 = some m.cls := hown
  have hl : lv_has ls 3 [(0, .ref (F 0)), (1, .ref a), (2, .int h)] := hl
  obtain ⟨p_a, e_a⟩ : ∃ q : Nat, (xw F Y (nI b) mn (nI n) (nI sN) (nI st) fl gv fs fb wo lv sl ru su L f)[q]? = some (a, ruE kd pt he ct k) := pl_at hL hf
  refine lv_aload_n hx hb dX2_valueOfLeaf_0 rfl (lv_at hl 1 rfl) ?_
  refine va_getN (D := D) (ci := 0) (v := .int (kd (k))) (C := RX0) (T := TX0) (N := 8) (host := RX2) hx hb hts iw_X2_valueOfLeaf_X0 hown hK hP p_a e_a rfl 0 (by decide) (nf_108 hN) (fun _ h9 => h9) rfl dX2_valueOfLeaf_1 ?_
  by_cases k_4_0 : (kd (k)) = 0
  · refine lv_tableIn (off := 76) (tgt := 80) hx hb dX2_valueOfLeaf_4 (by rw [k_4_0]; decide) (by rw [k_4_0]; decide) (by rw [k_4_0]; rfl) (by decide) ?_
    refine lv_aload_n hx hb dX2_valueOfLeaf_80 rfl (lv_at hl 1 rfl) ?_
    refine va_getN (D := D) (ci := 0) (v := .int (pt (5 * k))) (C := RX0) (T := TX0) (N := 8) (host := RX2) hx hb hts iw_X2_valueOfLeaf_X0 hown hK hP p_a e_a rfl 1 (by decide) (nf_117 hN) (fun _ h9 => h9) rfl dX2_valueOfLeaf_81 ?_
    refine lv_i2l hx hb dX2_valueOfLeaf_84 rfl ?_
    exact roL hx hb hr hlk dX2_valueOfLeaf_85 (by simp [lf, k_4_0])
  by_cases k_4_1 : (kd (k)) = 1
  · refine lv_tableIn (off := 82) (tgt := 86) hx hb dX2_valueOfLeaf_4 (by rw [k_4_1]; decide) (by rw [k_4_1]; decide) (by rw [k_4_1]; rfl) (by decide) ?_
    refine lv_aload_n hx hb dX2_valueOfLeaf_86 rfl (lv_at hl 0 rfl) ?_
    refine lv_aload_n hx hb dX2_valueOfLeaf_87 rfl (lv_at hl 1 rfl) ?_
    refine va_getN (D := D) (ci := 0) (v := .int (pt (5 * k))) (C := RX0) (T := TX0) (N := 8) (host := RX2) hx hb hts iw_X2_valueOfLeaf_X0 hown hK hP p_a e_a rfl 1 (by decide) (nf_117 hN) (fun _ h9 => h9) rfl dX2_valueOfLeaf_88 ?_
    refine RoI.callV (As := [.int (pt (5 * k))]) (rest := []) (c_X2_level hb8 (pt (5 * k))) ⟨hx, hb, hml, hown, hts⟩ (cwV 1 hts gX2_valueOfLeaf_X2_level rfl rfl rfl (by decide +kernel) ⟨by decide, by decide⟩) hP hK hN 0 2 rfl rfl rfl hl.1 rfl (Nat.le_of_ble_eq_true rfl) dX2_valueOfLeaf_91 ⟨Nat.le_of_ble_eq_true rfl, Nat.le_of_ble_eq_true rfl⟩ (fun r_1 hr_1 => ?_)
    refine lv_i2l hx hb dX2_valueOfLeaf_94 rfl ?_
    exact roL hx hb hr hlk dX2_valueOfLeaf_95 (by rw [hr_1]; simp [lf, sp_level, wf_1 hw k_4_1, k_4_1])
  by_cases k_4_2 : (kd (k)) = 2
  · refine lv_tableIn (off := 92) (tgt := 96) hx hb dX2_valueOfLeaf_4 (by rw [k_4_2]; decide) (by rw [k_4_2]; decide) (by rw [k_4_2]; rfl) (by decide) ?_
    refine lv_aload_n hx hb dX2_valueOfLeaf_96 rfl (lv_at hl 0 rfl) ?_
    refine lv_iload_n hx hb dX2_valueOfLeaf_97 rfl (lv_at hl 2 rfl) ?_
    refine RoL.callV (As := [.int h]) (rest := []) (c_X2_tide h) ⟨hx, hb, hml, hown, hts⟩ (cwV 1 hts gX2_valueOfLeaf_X2_tide rfl rfl rfl (by decide +kernel) ⟨by decide, by decide⟩) hP hK hN 0 2 rfl rfl rfl hl.1 rfl (Nat.le_of_ble_eq_true rfl) dX2_valueOfLeaf_98 ⟨Nat.le_of_ble_eq_true rfl, Nat.le_of_ble_eq_true rfl⟩ (fun r_2 hr_2 => ?_)
    exact roL hx hb hr hlk dX2_valueOfLeaf_101 (by rw [hr_2]; simp [lf, k_4_2])
  by_cases k_4_3 : (kd (k)) = 3
  · refine lv_tableIn (off := 98) (tgt := 102) hx hb dX2_valueOfLeaf_4 (by rw [k_4_3]; decide) (by rw [k_4_3]; decide) (by rw [k_4_3]; rfl) (by decide) ?_
    refine lv_iload_n hx hb dX2_valueOfLeaf_102 rfl (lv_at hl 2 rfl) ?_
    refine lv_i2l hx hb dX2_valueOfLeaf_103 rfl ?_
    exact roL hx hb hr hlk dX2_valueOfLeaf_104 (by simp [lf, k_4_3])
  by_cases k_4_12 : (kd (k)) = 12
  · refine lv_tableIn (off := 101) (tgt := 105) hx hb dX2_valueOfLeaf_4 (by rw [k_4_12]; decide) (by rw [k_4_12]; decide) (by rw [k_4_12]; rfl) (by decide) ?_
    refine lv_aload_n hx hb dX2_valueOfLeaf_105 rfl (lv_at hl 1 rfl) ?_
    refine va_getN (D := D) (ci := 0) (v := .long (he (k))) (C := RX0) (T := TX0) (N := 8) (host := RX2) hx hb hts iw_X2_valueOfLeaf_X0 hown hK hP p_a e_a rfl 6 (by decide) (nf_82 hN) (fun _ h9 => h9) rfl dX2_valueOfLeaf_106 ?_
    exact roL hx hb hr hlk dX2_valueOfLeaf_109 (by simp [lf, k_4_12])
  by_cases k_4_14 : (kd (k)) = 14
  · refine lv_tableIn (off := 106) (tgt := 110) hx hb dX2_valueOfLeaf_4 (by rw [k_4_14]; decide) (by rw [k_4_14]; decide) (by rw [k_4_14]; rfl) (by decide) ?_
    refine lv_aload_n hx hb dX2_valueOfLeaf_110 rfl (lv_at hl 0 rfl) ?_
    refine lv_aload_n hx hb dX2_valueOfLeaf_111 rfl (lv_at hl 1 rfl) ?_
    refine va_getN (D := D) (ci := 0) (v := .int (pt (5 * k))) (C := RX0) (T := TX0) (N := 8) (host := RX2) hx hb hts iw_X2_valueOfLeaf_X0 hown hK hP p_a e_a rfl 1 (by decide) (nf_117 hN) (fun _ h9 => h9) rfl dX2_valueOfLeaf_112 ?_
    refine RoI.callV (As := [.int (pt (5 * k))]) (rest := []) (c_X2_counted hR hn40 (pt (5 * k))) ⟨hx, hb, hml, hown, hts⟩ (cwV 1 hts gX2_valueOfLeaf_X2_counted rfl rfl rfl (by decide +kernel) ⟨by decide, by decide⟩) hP hK hN 0 2 rfl rfl rfl hl.1 rfl (Nat.le_of_ble_eq_true rfl) dX2_valueOfLeaf_115 ⟨Nat.le_of_ble_eq_true rfl, Nat.le_of_ble_eq_true rfl⟩ (fun r_3 hr_3 => ?_)
    refine lv_i2l hx hb dX2_valueOfLeaf_118 rfl ?_
    exact roL hx hb hr hlk dX2_valueOfLeaf_119 (by rw [hr_3]; simp [lf, sp_counted, wf_14 hw k_4_14, k_4_14])
  · have z_4 : ¬ (kd (k)).toInt = 0 ∧ ¬ (kd (k)).toInt = 1 ∧ ¬ (kd (k)).toInt = 2 ∧ ¬ (kd (k)).toInt = 3 ∧ ¬ (kd (k)).toInt = 12 ∧ ¬ (kd (k)).toInt = 14 := by
      exact ⟨lv_neT k_4_0 (by decide), lv_neT k_4_1 (by decide), lv_neT k_4_2 (by decide), lv_neT k_4_3 (by decide), lv_neT k_4_12 (by decide), lv_neT k_4_14 (by decide)⟩
    by_cases zo_4 : (kd (k)).toInt < 0 ∨ 14 < (kd (k)).toInt
    · refine lv_tableOut (tgt := 120) hx hb dX2_valueOfLeaf_4 zo_4 (by decide) ?_
      refine lv_lconst (v := 0) hx hb dX2_valueOfLeaf_120 (by decide) ?_
      exact roL hx hb hr hlk dX2_valueOfLeaf_121 (by simp [lf, k_4_0, k_4_1, k_4_2, k_4_3, k_4_12, k_4_14])
    · have zi_4 : (kd (k)).toInt = 4 ∨ (kd (k)).toInt = 5 ∨ (kd (k)).toInt = 6 ∨ (kd (k)).toInt = 7 ∨ (kd (k)).toInt = 8 ∨ (kd (k)).toInt = 9 ∨ (kd (k)).toInt = 10 ∨ (kd (k)).toInt = 11 ∨ (kd (k)).toInt = 13 := by omega
      refine lv_tableIn (off := 116) (tgt := 120) hx hb dX2_valueOfLeaf_4 (by omega) (by omega) (by rcases zi_4 with z | z | z | z | z | z | z | z | z <;> rw [z] <;> rfl) (by decide) ?_
      refine lv_lconst (v := 0) hx hb dX2_valueOfLeaf_120 (by decide) ?_
      exact roL hx hb hr hlk dX2_valueOfLeaf_121 (by simp [lf, k_4_0, k_4_1, k_4_2, k_4_3, k_4_12, k_4_14])

theorem iw_X2_stepTo_X2 : ∀ w ∈ u_ws RX2 TX2 14, w ∈ wsX2_stepTo := by decide +kernel
set_option maxRecDepth 100000 in
set_option maxHeartbeats 4000000 in
/-- stepTo -/
theorem c_X2_stepTo {l : Launch} {D : va_G} {F : Nat → Nat} {Y : Nat → ClassId} {mn fl : Int32} {gv : Int64} {fs fb wo : Int32} {lv sl : Nat → Int32} {ru su : Nat → Option Nat} {L : List Nat} {f : Nat → va_E} {b n sN st : Nat} {kd pt : Nat → Int32} {he : Nat → Int64} {ct fr to rl : Nat → Int32} (hR : xRel n sN kd pt he ct fr to rl ru su L f) (hn40 : n ≤ 40) (hst : st ≤ 120) (x : Int32) : WrQ l yX2_stepTo wsX2_stepTo (rk 1) D (xty Y) (xw F Y (nI b) mn (nI n) (nI sN) (nI st) fl gv fs fb wo lv sl ru su L f) [.ref (F 0), .int x] (σ := Nat × Int32) (fun u => xw F Y (nI b) mn (nI n) (nI sN) (nI u.1) u.2 gv fs fb wo lv sl ru su L f) (fun r u => (u.1, u.2, r.isSome) = stS n x st fl ∧ ∀ a, r = some a → rx n ru x = some a) 0 0 := by
  intro sz
  refine wrEnter (cc := cX2_stepTo) (maxL := 3) (ret := (some (.object "SluiceRules$Rule"))) (by decide) rfl (Nat.le_of_ble_eq_true rfl) ?_
  intro p e s m below meth c hx hb hr hml hown hts hlk hP hK hN hsz hD hS hA hin ls hl
  have hown : s.vm.findClass RX2 = some m.cls := hown
  have hl : lv_has ls 3 [(0, .ref (F 0)), (1, .int x)] := hl
  refine lv_aload_n hx hb dX2_stepTo_0 rfl (lv_at hl 0 rfl) ?_
  refine va_get (D := D) (ci := 2) (v := .int fl) (C := RX2) (T := TX2) (N := 14) hx hb hts iw_X2_stepTo_X2 hown hK hP 0 rfl rfl 9 (by decide) (hts (.fieldLink RX2 44 "SluiceRules" "failure" "I") (by decide +kernel)) (fun _ h9 => h9) rfl dX2_stepTo_1 ?_
  refine lv_if_eq (tgt := 9) hx hb dX2_stepTo_4 (by decide) (fun c_4 => ?_) (fun c_4 => ?_)
  · refine lv_aload_n hx hb dX2_stepTo_9 rfl (lv_at hl 0 rfl) ?_
    refine lv_iload_n hx hb dX2_stepTo_10 rfl (lv_at hl 1 rfl) ?_
    refine RoQ.callV (As := [.int x]) (rest := []) (c_X2_ruleAt hR hn40 x) ⟨hx, hb, hml, hown, hts⟩ (cwV 1 hts gX2_stepTo_X2_ruleAt rfl rfl rfl (by decide +kernel) ⟨by decide, by decide⟩) hP hK hN 0 2 rfl rfl rfl hl.1 rfl (Nat.le_of_ble_eq_true rfl) dX2_stepTo_11 ⟨Nat.le_of_ble_eq_true rfl, Nat.le_of_ble_eq_true rfl⟩ (fun r_1 hr_1 => ?_)
    rcases r_1 with _ | ar_1
    · have q_r_1 := hR.norule hr_1.symm
      refine lv_astore_nN (lv' := [(2, .null), (0, .ref (F 0)), (1, .int x)]) hx hb dX2_stepTo_14 rfl hl (by decide) rfl (fun ls hl => ?_)
      refine lv_aload_nN hx hb dX2_stepTo_15 rfl (lv_at hl 0 rfl) ?_
      refine lv_ifnonnullN hx hb dX2_stepTo_16 ?_
      refine lv_aload_n hx hb dX2_stepTo_19 rfl (lv_at hl 1 rfl) ?_
      refine lv_sipush (v := (-201)) hx hb dX2_stepTo_20 (by decide) ?_
      refine va_put (D := D) (ci := 2) (v := .int (-201)) (ty := .int) (C := RX2) (T := TX2) (N := 14) hx hb hts iw_X2_stepTo_X2 tyX2 tyX2_ok nmX2 hown hK hP hD hS 0 rfl rfl 9 (by decide) (hts (.fieldLink RX2 44 "SluiceRules" "failure" "I") (by decide +kernel)) (fun _ h9 => h9) rfl (by decide +kernel) rfl rfl (Nat.le_of_ble_eq_true rfl) dX2_stepTo_23 (fun H locs hP hD hS => ?_)
      have hP : va_P D vwCl (xw F Y (nI b) mn (nI n) (nI sN) (nI st) (-201) gv fs fb wo lv sl ru su L f) H := hP
      have hD : va_D (va_A (xw F Y (nI b) mn (nI n) (nI sN) (nI st) fl gv fs fb wo lv sl ru su L f) sz) (xw F Y (nI b) mn (nI n) (nI sN) (nI st) (-201) gv fs fb wo lv sl ru su L f) := hD
      refine lv_null hx hb dX2_stepTo_26 ?_
      exact wrQ (r := none) (st, -201) rfl hx hb hr hlk dX2_stepTo_27 hP hD hS ⟨by rw [stS, if_pos c_4, if_neg (by rw [q_r_1]; exact Bool.false_ne_true)]; rfl, fun _ z => nomatch z⟩
    · have q_r_1 := (hR.rule hr_1.symm).1
      refine lv_astore_n (lv' := [(2, .ref ar_1), (0, .ref (F 0)), (1, .int x)]) hx hb dX2_stepTo_14 rfl hl (by decide) rfl (fun ls hl => ?_)
      refine lv_aload_n hx hb dX2_stepTo_15 rfl (lv_at hl 0 rfl) ?_
      refine lv_ifnonnull (tgt := 28) hx hb dX2_stepTo_16 (by decide) ?_
      refine lv_aload_n hx hb dX2_stepTo_28 rfl (lv_at hl 1 rfl) ?_
      refine va_get (D := D) (ci := 2) (v := .int (nI st)) (C := RX2) (T := TX2) (N := 14) hx hb hts iw_X2_stepTo_X2 hown hK hP 0 rfl rfl 8 (by decide) (hts (.fieldLink RX2 41 "SluiceRules" "steps" "I") (by decide +kernel)) (fun _ h9 => h9) rfl dX2_stepTo_29 ?_
      refine lv_bipush (v := 120) hx hb dX2_stepTo_32 (by decide) ?_
      refine lv_icmp_lt (tgt := 46) hx hb dX2_stepTo_34 (by decide) (fun c_34 => ?_) (fun c_34 => ?_)
      · refine lv_aload_n hx hb dX2_stepTo_46 rfl (lv_at hl 1 rfl) ?_
        refine lv_dup hx hb dX2_stepTo_47 rfl ?_
        refine va_get (D := D) (ci := 2) (v := .int (nI st)) (C := RX2) (T := TX2) (N := 14) hx hb hts iw_X2_stepTo_X2 hown hK hP 0 rfl rfl 8 (by decide) (hts (.fieldLink RX2 41 "SluiceRules" "steps" "I") (by decide +kernel)) (fun _ h9 => h9) rfl dX2_stepTo_48 ?_
        refine lv_iconst (v := 1) hx hb dX2_stepTo_51 (by decide) ?_
        refine lv_iadd hx hb dX2_stepTo_52 ?_
        refine va_put (D := D) (ci := 2) (v := .int ((nI st) + 1)) (ty := .int) (C := RX2) (T := TX2) (N := 14) hx hb hts iw_X2_stepTo_X2 tyX2 tyX2_ok nmX2 hown hK hP hD hS 0 rfl rfl 8 (by decide) (hts (.fieldLink RX2 41 "SluiceRules" "steps" "I") (by decide +kernel)) (fun _ h9 => h9) rfl (by decide +kernel) rfl rfl (Nat.le_of_ble_eq_true rfl) dX2_stepTo_53 (fun H locs hP hD hS => ?_)
        have hP : va_P D vwCl (xw F Y (nI b) mn (nI n) (nI sN) ((nI st) + 1) fl gv fs fb wo lv sl ru su L f) H := hP
        have hD : va_D (va_A (xw F Y (nI b) mn (nI n) (nI sN) (nI st) fl gv fs fb wo lv sl ru su L f) sz) (xw F Y (nI b) mn (nI n) (nI sN) ((nI st) + 1) fl gv fs fb wo lv sl ru su L f) := hD
        refine lv_aload_n hx hb dX2_stepTo_56 rfl (lv_at hl 0 rfl) ?_
        rw [nI_1] at hP hD
        exact wrQ (r := some ar_1) (st + 1, fl) rfl hx hb hr hlk dX2_stepTo_57 hP hD hS ⟨by rw [stS, if_pos c_4, if_pos q_r_1, if_pos (by rw [i_lt, nI_toInt (by omega)] at c_34; have : (120 : Int32).toInt = 120 := rfl; omega)]; rfl, fun _ z => by rw [← z, hr_1]⟩
      · refine lv_aload_n hx hb dX2_stepTo_37 rfl (lv_at hl 1 rfl) ?_
        refine lv_sipush (v := (-202)) hx hb dX2_stepTo_38 (by decide) ?_
        refine va_put (D := D) (ci := 2) (v := .int (-202)) (ty := .int) (C := RX2) (T := TX2) (N := 14) hx hb hts iw_X2_stepTo_X2 tyX2 tyX2_ok nmX2 hown hK hP hD hS 0 rfl rfl 9 (by decide) (hts (.fieldLink RX2 44 "SluiceRules" "failure" "I") (by decide +kernel)) (fun _ h9 => h9) rfl (by decide +kernel) rfl rfl (Nat.le_of_ble_eq_true rfl) dX2_stepTo_41 (fun H locs hP hD hS => ?_)
        have hP : va_P D vwCl (xw F Y (nI b) mn (nI n) (nI sN) (nI st) (-202) gv fs fb wo lv sl ru su L f) H := hP
        have hD : va_D (va_A (xw F Y (nI b) mn (nI n) (nI sN) (nI st) fl gv fs fb wo lv sl ru su L f) sz) (xw F Y (nI b) mn (nI n) (nI sN) (nI st) (-202) gv fs fb wo lv sl ru su L f) := hD
        refine lv_null hx hb dX2_stepTo_44 ?_
        exact wrQ (r := none) (st, -202) rfl hx hb hr hlk dX2_stepTo_45 hP hD hS ⟨by rw [stS, if_pos c_4, if_pos q_r_1, if_neg (by rw [i_lt, nI_toInt (by omega)] at c_34; have : (120 : Int32).toInt = 120 := rfl; omega)]; rfl, fun _ z => nomatch z⟩
  · refine lv_null hx hb dX2_stepTo_7 ?_
    exact wrQ (r := none) (st, fl) rfl hx hb hr hlk dX2_stepTo_8 hP hD hS ⟨by rw [stS, if_neg c_4]; rfl, fun _ z => nomatch z⟩

set_option maxRecDepth 100000 in
set_option maxHeartbeats 4000000 in
/-- hasKnownParts -/
theorem c_X2_hasKnownParts {l : Launch} {D : va_G} {F : Nat → Nat} {Y : Nat → ClassId} {mn fl : Int32} {gv : Int64} {fs fb wo : Int32} {lv sl : Nat → Int32} {ru su : Nat → Option Nat} {L : List Nat} {f : Nat → va_E} {b n sN st : Nat} {kd pt : Nat → Int32} {he : Nat → Int64} {ct fr to rl : Nat → Int32} (hR : xRel n sN kd pt he ct fr to rl ru su L f) (hn40 : n ≤ 40) (hb8 : b ≤ 8) (k_ a_ b_ c_ : Int32) : RoI l yX2_hasKnownParts wsX2_hasKnownParts (rk 2) D (xty Y) (xw F Y (nI b) mn (nI n) (nI sN) (nI st) fl gv fs fb wo lv sl ru su L f) [.ref (F 0), .int k_, .int a_, .int b_, .int c_] (fun r => r = bI (knB b n kd k_ a_ b_ c_)) := by
  refine roEnter (cc := cX2_hasKnownParts) (maxL := 5) (ret := (some .boolean)) (by decide) rfl (Nat.le_of_ble_eq_true rfl) ?_
  intro p e s m below meth c hx hb hr hml hown hts hlk hP hK hN ls hl
  have hown : s.vm.findClass RX2 = some m.cls := hown
  have hl : lv_has ls 5 [(0, .ref (F 0)), (1, .int k_), (2, .int a_), (3, .int b_), (4, .int c_)] := hl
  refine lv_iload_n hx hb dX2_hasKnownParts_0 rfl (lv_at hl 1 rfl) ?_
  by_cases k_1_0 : k_ = 0 ∨ k_ = 2 ∨ k_ = 3
  · refine lv_tableIn (off := 83) (tgt := 84) hx hb dX2_hasKnownParts_1 (by rcases k_1_0 with z | z | z <;> rw [z] <;> decide) (by rcases k_1_0 with z | z | z <;> rw [z] <;> decide) (by rcases k_1_0 with z | z | z <;> rw [z] <;> rfl) (by decide) ?_
    refine lv_iconst (v := 1) hx hb dX2_hasKnownParts_84 (by decide) ?_
    exact roZ hx hb hr hlk dX2_hasKnownParts_85 (nar1) (by rcases k_1_0 with z | z | z <;> rw [z] <;> simp [knB, bI])
  by_cases k_1_1 : k_ = 1
  · refine lv_tableIn (off := 85) (tgt := 86) hx hb dX2_hasKnownParts_1 (by rw [k_1_1]; decide) (by rw [k_1_1]; decide) (by rw [k_1_1]; rfl) (by decide) ?_
    refine lv_aload_n hx hb dX2_hasKnownParts_86 rfl (lv_at hl 0 rfl) ?_
    refine lv_iload_n hx hb dX2_hasKnownParts_87 rfl (lv_at hl 2 rfl) ?_
    refine RoI.callV (As := [.int a_]) (rest := []) (c_X2_isBasin hb8 a_) ⟨hx, hb, hml, hown, hts⟩ (cwV 1 hts gX2_hasKnownParts_X2_isBasin rfl rfl rfl (by decide +kernel) ⟨by decide, by decide⟩) hP hK hN 0 2 rfl rfl rfl hl.1 rfl (Nat.le_of_ble_eq_true rfl) dX2_hasKnownParts_88 ⟨Nat.le_of_ble_eq_true rfl, Nat.le_of_ble_eq_true rfl⟩ (fun r_1 hr_1 => ?_)
    exact roZ hx hb hr hlk dX2_hasKnownParts_91 (by rw [hr_1]; exact bI_nar _) (by rw [k_1_1]; rw [hr_1]; simp [knB])
  by_cases k_1_4 : k_ = 4 ∨ k_ = 5 ∨ k_ = 6 ∨ k_ = 7
  · refine lv_tableIn (off := 91) (tgt := 92) hx hb dX2_hasKnownParts_1 (by rcases k_1_4 with z | z | z | z <;> rw [z] <;> decide) (by rcases k_1_4 with z | z | z | z <;> rw [z] <;> decide) (by rcases k_1_4 with z | z | z | z <;> rw [z] <;> rfl) (by decide) ?_
    refine lv_aload_n hx hb dX2_hasKnownParts_92 rfl (lv_at hl 0 rfl) ?_
    refine lv_iload_n hx hb dX2_hasKnownParts_93 rfl (lv_at hl 2 rfl) ?_
    refine RoI.callV (As := [.int a_]) (rest := []) (c_X2_isRuleOrNone hR hn40 a_) ⟨hx, hb, hml, hown, hts⟩ (cwV 1 hts gX2_hasKnownParts_X2_isRuleOrNone rfl rfl rfl (by decide +kernel) ⟨by decide, by decide⟩) hP hK hN 0 2 rfl rfl rfl hl.1 rfl (Nat.le_of_ble_eq_true rfl) dX2_hasKnownParts_94 ⟨Nat.le_of_ble_eq_true rfl, Nat.le_of_ble_eq_true rfl⟩ (fun r_2 hr_2 => ?_)
    refine lv_if_eq (tgt := 112) hx hb dX2_hasKnownParts_97 (by decide) (fun c_97 => ?_) (fun c_97 => ?_)
    · have b_97 : ptB a_ n = false := bI_z (by rw [← hr_2]; exact c_97)
      refine lv_iconst (v := 0) hx hb dX2_hasKnownParts_112 (by decide) ?_
      exact roZ hx hb hr hlk dX2_hasKnownParts_113 (nar0) (by rcases k_1_4 with z | z | z | z <;> rw [z] <;> simp [knB, bI, b_97])
    · have b_97 : ptB a_ n = true := bI_n (by rw [← hr_2]; exact c_97)
      refine lv_aload_n hx hb dX2_hasKnownParts_100 rfl (lv_at hl 0 rfl) ?_
      refine lv_iload_n hx hb dX2_hasKnownParts_101 rfl (lv_at hl 3 rfl) ?_
      refine RoI.callV (As := [.int b_]) (rest := []) (c_X2_isRuleOrNone hR hn40 b_) ⟨hx, hb, hml, hown, hts⟩ (cwV 1 hts gX2_hasKnownParts_X2_isRuleOrNone rfl rfl rfl (by decide +kernel) ⟨by decide, by decide⟩) hP hK hN 0 2 rfl rfl rfl hl.1 rfl (Nat.le_of_ble_eq_true rfl) dX2_hasKnownParts_102 ⟨Nat.le_of_ble_eq_true rfl, Nat.le_of_ble_eq_true rfl⟩ (fun r_3 hr_3 => ?_)
      refine lv_if_eq (tgt := 112) hx hb dX2_hasKnownParts_105 (by decide) (fun c_105 => ?_) (fun c_105 => ?_)
      · have b_105 : ptB b_ n = false := bI_z (by rw [← hr_3]; exact c_105)
        refine lv_iconst (v := 0) hx hb dX2_hasKnownParts_112 (by decide) ?_
        exact roZ hx hb hr hlk dX2_hasKnownParts_113 (nar0) (by rcases k_1_4 with z | z | z | z <;> rw [z] <;> simp [knB, bI, b_97, b_105])
      · have b_105 : ptB b_ n = true := bI_n (by rw [← hr_3]; exact c_105)
        refine lv_iconst (v := 1) hx hb dX2_hasKnownParts_108 (by decide) ?_
        refine lv_goto (tgt := 113) hx hb dX2_hasKnownParts_109 (by decide) ?_
        exact roZ hx hb hr hlk dX2_hasKnownParts_113 (nar1) (by rcases k_1_4 with z | z | z | z <;> rw [z] <;> simp [knB, bI, b_97, b_105])
  by_cases k_1_8 : k_ = 8 ∨ k_ = 10 ∨ k_ = 11 ∨ k_ = 12 ∨ k_ = 13
  · refine lv_tableIn (off := 144) (tgt := 145) hx hb dX2_hasKnownParts_1 (by rcases k_1_8 with z | z | z | z | z <;> rw [z] <;> decide) (by rcases k_1_8 with z | z | z | z | z <;> rw [z] <;> decide) (by rcases k_1_8 with z | z | z | z | z <;> rw [z] <;> rfl) (by decide) ?_
    refine lv_aload_n hx hb dX2_hasKnownParts_145 rfl (lv_at hl 0 rfl) ?_
    refine lv_iload_n hx hb dX2_hasKnownParts_146 rfl (lv_at hl 2 rfl) ?_
    refine RoI.callV (As := [.int a_]) (rest := []) (c_X2_isRuleOrNone hR hn40 a_) ⟨hx, hb, hml, hown, hts⟩ (cwV 1 hts gX2_hasKnownParts_X2_isRuleOrNone rfl rfl rfl (by decide +kernel) ⟨by decide, by decide⟩) hP hK hN 0 2 rfl rfl rfl hl.1 rfl (Nat.le_of_ble_eq_true rfl) dX2_hasKnownParts_147 ⟨Nat.le_of_ble_eq_true rfl, Nat.le_of_ble_eq_true rfl⟩ (fun r_4 hr_4 => ?_)
    exact roZ hx hb hr hlk dX2_hasKnownParts_150 (by rw [hr_4]; exact bI_nar _) (by rcases k_1_8 with z | z | z | z | z <;> rw [z] <;> rw [hr_4] <;> simp [knB])
  by_cases k_1_9 : k_ = 9
  · refine lv_tableIn (off := 113) (tgt := 114) hx hb dX2_hasKnownParts_1 (by rw [k_1_9]; decide) (by rw [k_1_9]; decide) (by rw [k_1_9]; rfl) (by decide) ?_
    refine lv_aload_n hx hb dX2_hasKnownParts_114 rfl (lv_at hl 0 rfl) ?_
    refine lv_iload_n hx hb dX2_hasKnownParts_115 rfl (lv_at hl 2 rfl) ?_
    refine RoI.callV (As := [.int a_]) (rest := []) (c_X2_isRuleOrNone hR hn40 a_) ⟨hx, hb, hml, hown, hts⟩ (cwV 1 hts gX2_hasKnownParts_X2_isRuleOrNone rfl rfl rfl (by decide +kernel) ⟨by decide, by decide⟩) hP hK hN 0 2 rfl rfl rfl hl.1 rfl (Nat.le_of_ble_eq_true rfl) dX2_hasKnownParts_116 ⟨Nat.le_of_ble_eq_true rfl, Nat.le_of_ble_eq_true rfl⟩ (fun r_5 hr_5 => ?_)
    refine lv_if_eq (tgt := 143) hx hb dX2_hasKnownParts_119 (by decide) (fun c_119 => ?_) (fun c_119 => ?_)
    · have b_119 : ptB a_ n = false := bI_z (by rw [← hr_5]; exact c_119)
      refine lv_iconst (v := 0) hx hb dX2_hasKnownParts_143 (by decide) ?_
      exact roZ hx hb hr hlk dX2_hasKnownParts_144 (nar0) (by rw [k_1_9]; simp [knB, bI, b_119])
    · have b_119 : ptB a_ n = true := bI_n (by rw [← hr_5]; exact c_119)
      refine lv_aload_n hx hb dX2_hasKnownParts_122 rfl (lv_at hl 0 rfl) ?_
      refine lv_iload_n hx hb dX2_hasKnownParts_123 rfl (lv_at hl 3 rfl) ?_
      refine RoI.callV (As := [.int b_]) (rest := []) (c_X2_isRuleOrNone hR hn40 b_) ⟨hx, hb, hml, hown, hts⟩ (cwV 1 hts gX2_hasKnownParts_X2_isRuleOrNone rfl rfl rfl (by decide +kernel) ⟨by decide, by decide⟩) hP hK hN 0 2 rfl rfl rfl hl.1 rfl (Nat.le_of_ble_eq_true rfl) dX2_hasKnownParts_124 ⟨Nat.le_of_ble_eq_true rfl, Nat.le_of_ble_eq_true rfl⟩ (fun r_6 hr_6 => ?_)
      refine lv_if_eq (tgt := 143) hx hb dX2_hasKnownParts_127 (by decide) (fun c_127 => ?_) (fun c_127 => ?_)
      · have b_127 : ptB b_ n = false := bI_z (by rw [← hr_6]; exact c_127)
        refine lv_iconst (v := 0) hx hb dX2_hasKnownParts_143 (by decide) ?_
        exact roZ hx hb hr hlk dX2_hasKnownParts_144 (nar0) (by rw [k_1_9]; simp [knB, bI, b_119, b_127])
      · have b_127 : ptB b_ n = true := bI_n (by rw [← hr_6]; exact c_127)
        refine lv_aload_n hx hb dX2_hasKnownParts_130 rfl (lv_at hl 0 rfl) ?_
        refine lv_iload hx hb dX2_hasKnownParts_131 (lv_at hl 4 rfl) ?_
        refine RoI.callV (As := [.int c_]) (rest := []) (c_X2_isRuleOrNone hR hn40 c_) ⟨hx, hb, hml, hown, hts⟩ (cwV 1 hts gX2_hasKnownParts_X2_isRuleOrNone rfl rfl rfl (by decide +kernel) ⟨by decide, by decide⟩) hP hK hN 0 2 rfl rfl rfl hl.1 rfl (Nat.le_of_ble_eq_true rfl) dX2_hasKnownParts_133 ⟨Nat.le_of_ble_eq_true rfl, Nat.le_of_ble_eq_true rfl⟩ (fun r_7 hr_7 => ?_)
        refine lv_if_eq (tgt := 143) hx hb dX2_hasKnownParts_136 (by decide) (fun c_136 => ?_) (fun c_136 => ?_)
        · have b_136 : ptB c_ n = false := bI_z (by rw [← hr_7]; exact c_136)
          refine lv_iconst (v := 0) hx hb dX2_hasKnownParts_143 (by decide) ?_
          exact roZ hx hb hr hlk dX2_hasKnownParts_144 (nar0) (by rw [k_1_9]; simp [knB, bI, b_119, b_127, b_136])
        · have b_136 : ptB c_ n = true := bI_n (by rw [← hr_7]; exact c_136)
          refine lv_iconst (v := 1) hx hb dX2_hasKnownParts_139 (by decide) ?_
          refine lv_goto (tgt := 144) hx hb dX2_hasKnownParts_140 (by decide) ?_
          exact roZ hx hb hr hlk dX2_hasKnownParts_144 (nar1) (by rw [k_1_9]; simp [knB, bI, b_119, b_127, b_136])
  by_cases k_1_14 : k_ = 14
  · refine lv_tableIn (off := 150) (tgt := 151) hx hb dX2_hasKnownParts_1 (by rw [k_1_14]; decide) (by rw [k_1_14]; decide) (by rw [k_1_14]; rfl) (by decide) ?_
    refine lv_aload_n hx hb dX2_hasKnownParts_151 rfl (lv_at hl 0 rfl) ?_
    refine lv_iload_n hx hb dX2_hasKnownParts_152 rfl (lv_at hl 2 rfl) ?_
    refine RoQ.callV (As := [.int a_]) (rest := []) (c_X2_countedAt hR hn40 a_) ⟨hx, hb, hml, hown, hts⟩ (cwV 1 hts gX2_hasKnownParts_X2_countedAt rfl rfl rfl (by decide +kernel) ⟨by decide, by decide⟩) hP hK hN 0 2 rfl rfl rfl hl.1 rfl (Nat.le_of_ble_eq_true rfl) dX2_hasKnownParts_153 ⟨Nat.le_of_ble_eq_true rfl, Nat.le_of_ble_eq_true rfl⟩ (fun r_8 hr_8 => ?_)
    rcases r_8 with _ | ar_8
    · have q_r_8 := hR.nocx13 hr_8.symm
      refine lv_ifnullN (tgt := 163) hx hb dX2_hasKnownParts_156 (by decide) ?_
      refine lv_iconst (v := 0) hx hb dX2_hasKnownParts_163 (by decide) ?_
      exact roZ hx hb hr hlk dX2_hasKnownParts_164 (nar0) (by rw [k_1_14]; have z := q_r_8; simp [knB, bI]; intro z1; exact fun z2 => z ⟨z1, z2⟩)
    · have q_r_8 := hR.cx13 hr_8.symm
      refine lv_ifnull hx hb dX2_hasKnownParts_156 ?_
      refine lv_iconst (v := 1) hx hb dX2_hasKnownParts_159 (by decide) ?_
      refine lv_goto (tgt := 164) hx hb dX2_hasKnownParts_160 (by decide) ?_
      exact roZ hx hb hr hlk dX2_hasKnownParts_164 (nar1) (by rw [k_1_14]; simp [knB, bI, q_r_8.1, q_r_8.2.1])
  by_cases k_1_15 : k_ = 15
  · refine lv_tableIn (off := 164) (tgt := 165) hx hb dX2_hasKnownParts_1 (by rw [k_1_15]; decide) (by rw [k_1_15]; decide) (by rw [k_1_15]; rfl) (by decide) ?_
    refine lv_aload_n hx hb dX2_hasKnownParts_165 rfl (lv_at hl 0 rfl) ?_
    refine lv_iload_n hx hb dX2_hasKnownParts_166 rfl (lv_at hl 2 rfl) ?_
    refine RoI.callV (As := [.int a_]) (rest := []) (c_X2_isSlot a_) ⟨hx, hb, hml, hown, hts⟩ (cwV 1 hts gX2_hasKnownParts_X2_isSlot rfl rfl rfl (by decide +kernel) ⟨by decide, by decide⟩) hP hK hN 0 2 rfl rfl rfl hl.1 rfl (Nat.le_of_ble_eq_true rfl) dX2_hasKnownParts_167 ⟨Nat.le_of_ble_eq_true rfl, Nat.le_of_ble_eq_true rfl⟩ (fun r_9 hr_9 => ?_)
    exact roZ hx hb hr hlk dX2_hasKnownParts_170 (by rw [hr_9]; exact bI_nar _) (by rw [k_1_15]; rw [hr_9]; simp [knB])
  by_cases k_1_16 : k_ = 16
  · refine lv_tableIn (off := 170) (tgt := 171) hx hb dX2_hasKnownParts_1 (by rw [k_1_16]; decide) (by rw [k_1_16]; decide) (by rw [k_1_16]; rfl) (by decide) ?_
    refine lv_aload_n hx hb dX2_hasKnownParts_171 rfl (lv_at hl 0 rfl) ?_
    refine lv_iload_n hx hb dX2_hasKnownParts_172 rfl (lv_at hl 2 rfl) ?_
    refine RoI.callV (As := [.int a_]) (rest := []) (c_X2_isSlot a_) ⟨hx, hb, hml, hown, hts⟩ (cwV 1 hts gX2_hasKnownParts_X2_isSlot rfl rfl rfl (by decide +kernel) ⟨by decide, by decide⟩) hP hK hN 0 2 rfl rfl rfl hl.1 rfl (Nat.le_of_ble_eq_true rfl) dX2_hasKnownParts_173 ⟨Nat.le_of_ble_eq_true rfl, Nat.le_of_ble_eq_true rfl⟩ (fun r_10 hr_10 => ?_)
    refine lv_if_eq (tgt := 191) hx hb dX2_hasKnownParts_176 (by decide) (fun c_176 => ?_) (fun c_176 => ?_)
    · have b_176 : inB a_ 8 = false := bI_z (by rw [← hr_10]; exact c_176)
      refine lv_iconst (v := 0) hx hb dX2_hasKnownParts_191 (by decide) ?_
      exact roZ hx hb hr hlk dX2_hasKnownParts_192 (nar0) (by rw [k_1_16]; simp [knB, bI, b_176])
    · have b_176 : inB a_ 8 = true := bI_n (by rw [← hr_10]; exact c_176)
      refine lv_aload_n hx hb dX2_hasKnownParts_179 rfl (lv_at hl 0 rfl) ?_
      refine lv_iload_n hx hb dX2_hasKnownParts_180 rfl (lv_at hl 3 rfl) ?_
      refine RoI.callV (As := [.int b_]) (rest := []) (c_X2_isSlot b_) ⟨hx, hb, hml, hown, hts⟩ (cwV 1 hts gX2_hasKnownParts_X2_isSlot rfl rfl rfl (by decide +kernel) ⟨by decide, by decide⟩) hP hK hN 0 2 rfl rfl rfl hl.1 rfl (Nat.le_of_ble_eq_true rfl) dX2_hasKnownParts_181 ⟨Nat.le_of_ble_eq_true rfl, Nat.le_of_ble_eq_true rfl⟩ (fun r_11 hr_11 => ?_)
      refine lv_if_eq (tgt := 191) hx hb dX2_hasKnownParts_184 (by decide) (fun c_184 => ?_) (fun c_184 => ?_)
      · have b_184 : inB b_ 8 = false := bI_z (by rw [← hr_11]; exact c_184)
        refine lv_iconst (v := 0) hx hb dX2_hasKnownParts_191 (by decide) ?_
        exact roZ hx hb hr hlk dX2_hasKnownParts_192 (nar0) (by rw [k_1_16]; simp [knB, bI, b_176, b_184])
      · have b_184 : inB b_ 8 = true := bI_n (by rw [← hr_11]; exact c_184)
        refine lv_iconst (v := 1) hx hb dX2_hasKnownParts_187 (by decide) ?_
        refine lv_goto (tgt := 192) hx hb dX2_hasKnownParts_188 (by decide) ?_
        exact roZ hx hb hr hlk dX2_hasKnownParts_192 (nar1) (by rw [k_1_16]; simp [knB, bI, b_176, b_184])
  · have z_1 : ¬ k_.toInt = 0 ∧ ¬ k_.toInt = 1 ∧ ¬ k_.toInt = 2 ∧ ¬ k_.toInt = 3 ∧ ¬ k_.toInt = 4 ∧ ¬ k_.toInt = 5 ∧ ¬ k_.toInt = 6 ∧ ¬ k_.toInt = 7 ∧ ¬ k_.toInt = 8 ∧ ¬ k_.toInt = 9 ∧ ¬ k_.toInt = 10 ∧ ¬ k_.toInt = 11 ∧ ¬ k_.toInt = 12 ∧ ¬ k_.toInt = 13 ∧ ¬ k_.toInt = 14 ∧ ¬ k_.toInt = 15 ∧ ¬ k_.toInt = 16 := by
      exact ⟨lv_neT (k := 0) (fun z => k_1_0 (by simp [z])) (by decide), lv_neT k_1_1 (by decide), lv_neT (k := 2) (fun z => k_1_0 (by simp [z])) (by decide), lv_neT (k := 3) (fun z => k_1_0 (by simp [z])) (by decide), lv_neT (k := 4) (fun z => k_1_4 (by simp [z])) (by decide), lv_neT (k := 5) (fun z => k_1_4 (by simp [z])) (by decide), lv_neT (k := 6) (fun z => k_1_4 (by simp [z])) (by decide), lv_neT (k := 7) (fun z => k_1_4 (by simp [z])) (by decide), lv_neT (k := 8) (fun z => k_1_8 (by simp [z])) (by decide), lv_neT k_1_9 (by decide), lv_neT (k := 10) (fun z => k_1_8 (by simp [z])) (by decide), lv_neT (k := 11) (fun z => k_1_8 (by simp [z])) (by decide), lv_neT (k := 12) (fun z => k_1_8 (by simp [z])) (by decide), lv_neT (k := 13) (fun z => k_1_8 (by simp [z])) (by decide), lv_neT k_1_14 (by decide), lv_neT k_1_15 (by decide), lv_neT k_1_16 (by decide)⟩
    refine lv_tableOut (tgt := 193) hx hb dX2_hasKnownParts_1 (by omega) (by decide) ?_
    refine lv_iconst (v := 0) hx hb dX2_hasKnownParts_193 (by decide) ?_
    exact roZ hx hb hr hlk dX2_hasKnownParts_194 (nar0) (by simp only [not_or] at k_1_0 k_1_4 k_1_8; simp [knB, bI, k_1_0, k_1_1, k_1_4, k_1_8, k_1_9, k_1_14, k_1_15, k_1_16])

theorem z1 : (1 : Int32).toInt = 1 := rfl
theorem z1000 : (1000 : Int32).toInt = 1000 := rfl
set_option maxRecDepth 100000 in
set_option maxHeartbeats 4000000 in
/-- hasFitNumbers -/
theorem c_X2_hasFitNumbers {l : Launch} {D : va_G} {tys : List (ClassId × FieldType)} {w : va_W} (k_ a_ b_ c_ d_ e_ : Int32) : RoI l yX2_hasFitNumbers wsX2_hasFitNumbers (rk 0) D (tys) (w) [.int k_, .int a_, .int b_, .int c_, .int d_, .int e_] (fun r => r = bI (fiB k_ a_ b_ c_ d_ e_)) := by
  refine roEnter (cc := cX2_hasFitNumbers) (maxL := 6) (ret := (some .boolean)) (by decide) rfl (Nat.le_of_ble_eq_true rfl) ?_
  intro p e s m below meth c hx hb hr hml hown hts hlk hP hK hN ls hl
  have hown : s.vm.findClass RX2 = some m.cls := hown
  have hl : lv_has ls 6 [(0, .int k_), (1, .int a_), (2, .int b_), (3, .int c_), (4, .int d_), (5, .int e_)] := hl
  refine lv_iload_n hx hb dX2_hasFitNumbers_0 rfl (lv_at hl 0 rfl) ?_
  by_cases k_1_8 : k_ = 8
  · refine lv_lookup (off := 35) (tgt := 36) hx hb dX2_hasFitNumbers_1 (by decide) (by rw [k_1_8]; rfl) (by decide) ?_
    refine lv_iload_n hx hb dX2_hasFitNumbers_36 rfl (lv_at hl 3 rfl) ?_
    refine lv_iconst (v := 1) hx hb dX2_hasFitNumbers_37 (by decide) ?_
    refine lv_icmp_lt (tgt := 52) hx hb dX2_hasFitNumbers_38 (by decide) (fun c_38 => ?_) (fun c_38 => ?_)
    · refine lv_iconst (v := 0) hx hb dX2_hasFitNumbers_52 (by decide) ?_
      exact roZ hx hb hr hlk dX2_hasFitNumbers_53 (nar0) (by rw [k_1_8]; simp only [gt_iff_lt, i_lt, z1, z1000] at c_38; rw [fiB, if_pos rfl, decide_eq_false (by omega)]; rfl)
    · refine lv_iload_n hx hb dX2_hasFitNumbers_41 rfl (lv_at hl 3 rfl) ?_
      refine lv_sipush (v := 1000) hx hb dX2_hasFitNumbers_42 (by decide) ?_
      refine lv_icmp_gt (tgt := 52) hx hb dX2_hasFitNumbers_45 (by decide) (fun c_45 => ?_) (fun c_45 => ?_)
      · refine lv_iconst (v := 0) hx hb dX2_hasFitNumbers_52 (by decide) ?_
        exact roZ hx hb hr hlk dX2_hasFitNumbers_53 (nar0) (by rw [k_1_8]; simp only [gt_iff_lt, i_lt, z1, z1000] at c_38 c_45; rw [fiB, if_pos rfl, decide_eq_false (by omega)]; rfl)
      · refine lv_iconst (v := 1) hx hb dX2_hasFitNumbers_48 (by decide) ?_
        refine lv_goto (tgt := 53) hx hb dX2_hasFitNumbers_49 (by decide) ?_
        exact roZ hx hb hr hlk dX2_hasFitNumbers_53 (nar1) (by rw [k_1_8]; simp only [gt_iff_lt, i_lt, z1, z1000] at c_38 c_45; rw [fiB, if_pos rfl, decide_eq_true (by omega)]; rfl)
  by_cases k_1_11 : k_ = 11
  · refine lv_lookup (off := 53) (tgt := 54) hx hb dX2_hasFitNumbers_1 (by decide) (by rw [k_1_11]; rfl) (by decide) ?_
    refine lv_iload hx hb dX2_hasFitNumbers_54 (lv_at hl 4 rfl) ?_
    refine lv_iload hx hb dX2_hasFitNumbers_56 (lv_at hl 5 rfl) ?_
    refine lv_icmp_gt (tgt := 65) hx hb dX2_hasFitNumbers_58 (by decide) (fun c_58 => ?_) (fun c_58 => ?_)
    · refine lv_iconst (v := 0) hx hb dX2_hasFitNumbers_65 (by decide) ?_
      exact roZ hx hb hr hlk dX2_hasFitNumbers_66 (nar0) (by rw [k_1_11]; simp only [gt_iff_lt, i_lt] at c_58; rw [fiB, if_neg (by decide), if_pos rfl, decide_eq_false (by rw [i_le]; omega)]; rfl)
    · refine lv_iconst (v := 1) hx hb dX2_hasFitNumbers_61 (by decide) ?_
      refine lv_goto (tgt := 66) hx hb dX2_hasFitNumbers_62 (by decide) ?_
      exact roZ hx hb hr hlk dX2_hasFitNumbers_66 (nar1) (by rw [k_1_11]; simp only [gt_iff_lt, i_lt] at c_58; rw [fiB, if_neg (by decide), if_pos rfl, decide_eq_true (by rw [i_le]; omega)]; rfl)
  by_cases k_1_16 : k_ = 16
  · refine lv_lookup (off := 66) (tgt := 67) hx hb dX2_hasFitNumbers_1 (by decide) (by rw [k_1_16]; rfl) (by decide) ?_
    refine lv_iload_n hx hb dX2_hasFitNumbers_67 rfl (lv_at hl 1 rfl) ?_
    refine lv_iload_n hx hb dX2_hasFitNumbers_68 rfl (lv_at hl 2 rfl) ?_
    refine lv_icmp_gt (tgt := 76) hx hb dX2_hasFitNumbers_69 (by decide) (fun c_69 => ?_) (fun c_69 => ?_)
    · refine lv_iconst (v := 0) hx hb dX2_hasFitNumbers_76 (by decide) ?_
      exact roZ hx hb hr hlk dX2_hasFitNumbers_77 (nar0) (by rw [k_1_16]; simp only [gt_iff_lt, i_lt] at c_69; rw [fiB, if_neg (by decide), if_neg (by decide), if_pos rfl, decide_eq_false (by rw [i_le]; omega)]; rfl)
    · refine lv_iconst (v := 1) hx hb dX2_hasFitNumbers_72 (by decide) ?_
      refine lv_goto (tgt := 77) hx hb dX2_hasFitNumbers_73 (by decide) ?_
      exact roZ hx hb hr hlk dX2_hasFitNumbers_77 (nar1) (by rw [k_1_16]; simp only [gt_iff_lt, i_lt] at c_69; rw [fiB, if_neg (by decide), if_neg (by decide), if_pos rfl, decide_eq_true (by rw [i_le]; omega)]; rfl)
  · refine lv_lookup (off := 77) (tgt := 78) hx hb dX2_hasFitNumbers_1 (by decide) (by show Op.lookupswitch.offset [(8, 35), (11, 53), (16, 66)] _ _ = _; rw [lv_osw k_1_8 (by decide)]; rw [lv_osw k_1_11 (by decide)]; rw [lv_osw k_1_16 (by decide)]; rfl) (by decide) ?_
    refine lv_iconst (v := 1) hx hb dX2_hasFitNumbers_78 (by decide) ?_
    exact roZ hx hb hr hlk dX2_hasFitNumbers_79 (nar1) (by simp [fiB, bI, k_1_8, k_1_11, k_1_16])
