/-! the class: a rule is asked, and what it was made of -/
theorem ev_16' {n : Nat} {mn : Int32} {lv sl kd pt : Nat → Int32} {he : Nat → Int64} {d : Nat} {x h : Int32} {st st1 : Nat} {fl fl1 : Int32} {ct : Nat → Int32} (hs : stS n x st fl = (st1, fl1, true)) (hk : kd (ix x) = 16) : evA (ev (n, mn, lv, sl, kd, pt, he) d) sl h (ix (pt (5 * ix x + 1)) + 1 - ix (pt (5 * ix x))) (ix (pt (5 * ix x))) 0 (st1, fl1, ct) = ev (n, mn, lv, sl, kd, pt, he) (d + 1) x h (st, fl, ct) := by
  rw [ev_go hs]; simp [evB, hk]
theorem xRel.cell {n sN : Nat} {kd pt : Nat → Int32} {he : Nat → Int64} {ct fr to rl : Nat → Int32} {ru su : Nat → Option Nat} {L : List Nat} {f : Nat → va_E} (h : xRel n sN kd pt he ct fr to rl ru su L f) {k a : Nat} (hk : k < n) (ra : ru k = some a) : a ∈ L ∧ f a = ruE kd pt he ct k := by
  obtain ⟨a', h1, h2, h3⟩ := h.1 k hk
  rw [ra] at h1; cases h1
  exact ⟨h2, h3⟩
theorem xRel.tick {n sN : Nat} {kd pt : Nat → Int32} {he : Nat → Int64} {ct fr to rl : Nat → Int32} {ru su : Nat → Option Nat} {L : List Nat} {f : Nat → va_E} (h : xRel n sN kd pt he ct fr to rl ru su L f) {k a : Nat} (hk : k < n) (ra : ru k = some a) (v : Int32) : xRel n sN kd pt he (upd ct k v) fr to rl ru su L (va_up f a (.inr (0, [.int (kd k), .int (pt (5 * k)), .int (pt (5 * k + 1)), .int (pt (5 * k + 2)), .int (pt (5 * k + 3)), .int (pt (5 * k + 4)), .long (he k), .int v]))) := by
  obtain ⟨h1, h2, h3, h4, h5⟩ := h
  refine ⟨fun j hj => ?_, h2, h3, fun j hj => ?_, h5⟩
  · obtain ⟨a', g1, g2, g3⟩ := h1 j hj
    by_cases hjk : j = k
    · subst hjk
      rw [ra] at g1; cases g1
      exact ⟨a, ra, g2, by rw [va_up_self]; simp [ruE, upd]⟩
    · have ne : a' ≠ a := fun z => hjk (h3 j k a hj hk (by rw [g1, z]) ra)
      exact ⟨a', g1, g2, by rw [va_up_ne _ _ ne, g3]; simp [ruE, upd, hjk]⟩
  · obtain ⟨a', g1, g2, g3⟩ := h4 j hj
    have ne : a' ≠ a := fun z => by
      obtain ⟨a2, q1, q2, q3⟩ := h1 k hk
      rw [ra] at q1; cases q1
      rw [z, q3] at g3; simp [ruE, suE] at g3
    exact ⟨a', g1, g2, by rw [va_up_ne _ _ ne, g3]⟩

/-- valueOf, with d more steps to go at the most -/
def VO (d : Nat) : Prop := ∀ {l : Launch} {D : va_G} {F : Nat → Nat} {Y : Nat → ClassId} {mn fl : Int32} {gv : Int64} {fs fb wo : Int32} {lv sl : Nat → Int32} {ru su : Nat → Option Nat} {L : List Nat} {f : Nat → va_E} {b n sN st : Nat} {kd pt : Nat → Int32} {he : Nat → Int64} {ct fr to rl : Nat → Int32}, xRel n sN kd pt he ct fr to rl ru su L f → n ≤ 40 → b ≤ 8 → wfA b n sl kd pt → st ≤ 120 → 120 ≤ st + d → ∀ (x h : Int32), WrL l yX2_valueOf wsX2_valueOf (rk (8 + d)) D (xty Y) (xw F Y (nI b) mn (nI n) (nI sN) (nI st) fl gv fs fb wo lv sl ru su L f) [.ref (F 0), .int x, .int h] (σ := SS × (Nat → va_E)) (fun u => xw F Y (nI b) mn (nI n) (nI sN) (nI u.1.1) u.1.2.1 gv fs fb wo lv sl ru su L u.2) (fun r u => (r, u.1) = ev (n, mn, lv, sl, kd, pt, he) d x h (st, fl, ct) ∧ xRel n sN kd pt he u.1.2.2 fr to rl ru su L u.2) 0 0
theorem iw_X2_valueOf_X2 : ∀ w ∈ u_ws RX2 TX2 14, w ∈ wsX2_valueOf := by decide +kernel
theorem iw_X2_valueOf_X0 : ∀ w ∈ u_ws RX0 TX0 8, w ∈ wsX2_valueOf := by decide +kernel
set_option maxRecDepth 100000 in
set_option maxHeartbeats 4000000 in
theorem c_X2_valueOf_0 : VO 0 := by
  intro l D F Y mn fl gv fs fb wo lv sl ru su L f b n sN st kd pt he ct fr to rl hR hn40 hb8 hW hst hd x h sz
  refine wrEnter (cc := cX2_valueOf) (maxL := 7) (ret := (some .long)) (by decide) rfl (Nat.le_of_ble_eq_true rfl) ?_
  intro p e s m below meth c hx hb hr hml hown hts hlk hP hK hN hsz hD hS hA hin ls hl
  have hown : s.vm.findClass RX2 = some m.cls := hown
  have hl : lv_has ls 7 [(0, .ref (F 0)), (1, .int x), (2, .int h)] := hl
  refine lv_aload_n hx hb dX2_valueOf_0 rfl (lv_at hl 0 rfl) ?_
  refine lv_iload_n hx hb dX2_valueOf_1 rfl (lv_at hl 1 rfl) ?_
  refine WrQ.callV (As := [.int x]) (rest := []) (c_X2_stepTo hR hn40 hst x) ⟨hx, hb, hml, hown, hts⟩ (cwV 1 hts gX2_valueOf_X2_stepTo rfl rfl rfl (by decide +kernel) ⟨by show 1 + 1 ≤ 8 + 0; omega, by show 8 + (3 + 11) + 40 * 1 ≤ 40 * (8 + 0); omega⟩) hP hD hS hA hK hN 0 2 rfl rfl rfl hl.1 rfl (Nat.le_of_ble_eq_true rfl) dX2_valueOf_2 ⟨Nat.le_of_ble_eq_true rfl, Nat.le_of_ble_eq_true rfl⟩ (fun r_1 ur_1 H locs hr_1 hP hD hS => ?_)
  obtain ⟨st1, fl1⟩ := ur_1
  obtain ⟨hs, hrx⟩ := hr_1
  have hP : va_P D vwCl (xw F Y (nI b) mn (nI n) (nI sN) (nI st1) fl1 gv fs fb wo lv sl ru su L f) H := hP
  have hD : va_D (va_A (xw F Y (nI b) mn (nI n) (nI sN) (nI st) fl gv fs fb wo lv sl ru su L f) sz) (xw F Y (nI b) mn (nI n) (nI sN) (nI st1) fl1 gv fs fb wo lv sl ru su L f) := hD
  rcases r_1 with _ | ar_1
  · have hs : stS n x st fl = (st1, fl1, false) := hs.symm
    refine lv_astore_nN (lv' := [(3, .null), (0, .ref (F 0)), (1, .int x), (2, .int h)]) hx hb dX2_valueOf_5 rfl hl (by decide) rfl (fun ls hl => ?_)
    refine lv_aload_nN hx hb dX2_valueOf_6 rfl (lv_at hl 0 rfl) ?_
    refine lv_ifnonnullN hx hb dX2_valueOf_7 ?_
    refine lv_lconst (v := 0) hx hb dX2_valueOf_10 (by decide) ?_
    exact wrL ((st1, fl1, ct), f) hx hb hr hlk dX2_valueOf_11 hP hD hS ⟨ev_no hs, hR⟩
  · have hs : stS n x st fl = (st1, fl1, true) := hs.symm
    obtain ⟨hi, ra, -, -⟩ := hR.rule (hrx _ rfl)
    have hk := inB_ix hi
    obtain ⟨t1, t2, -, t3, t4⟩ := stS_t hs
    exact absurd hd (by omega)
set_option maxRecDepth 100000 in
set_option maxHeartbeats 4000000 in
theorem c_X2_valueOf_s {d : Nat} (ih : VO d) : VO (d + 1) := by
  intro l D F Y mn fl gv fs fb wo lv sl ru su L f b n sN st kd pt he ct fr to rl hR hn40 hb8 hW hst hd x h sz
  refine wrEnter (cc := cX2_valueOf) (maxL := 7) (ret := (some .long)) (by decide) rfl (Nat.le_of_ble_eq_true rfl) ?_
  intro p e s m below meth c hx hb hr hml hown hts hlk hP hK hN hsz hD hS hA hin ls hl
  have hown : s.vm.findClass RX2 = some m.cls := hown
  have hl : lv_has ls 7 [(0, .ref (F 0)), (1, .int x), (2, .int h)] := hl
  refine lv_aload_n hx hb dX2_valueOf_0 rfl (lv_at hl 0 rfl) ?_
  refine lv_iload_n hx hb dX2_valueOf_1 rfl (lv_at hl 1 rfl) ?_
  refine WrQ.callV (As := [.int x]) (rest := []) (c_X2_stepTo hR hn40 hst x) ⟨hx, hb, hml, hown, hts⟩ (cwV 1 hts gX2_valueOf_X2_stepTo rfl rfl rfl (by decide +kernel) ⟨by show 1 + 1 ≤ 8 + (d + 1); omega, by show 8 + (3 + 11) + 40 * 1 ≤ 40 * (8 + (d + 1)); omega⟩) hP hD hS hA hK hN 0 2 rfl rfl rfl hl.1 rfl (Nat.le_of_ble_eq_true rfl) dX2_valueOf_2 ⟨Nat.le_of_ble_eq_true rfl, Nat.le_of_ble_eq_true rfl⟩ (fun r_1 ur_1 H locs hr_1 hP hD hS => ?_)
  obtain ⟨st1, fl1⟩ := ur_1
  obtain ⟨hs, hrx⟩ := hr_1
  have hP : va_P D vwCl (xw F Y (nI b) mn (nI n) (nI sN) (nI st1) fl1 gv fs fb wo lv sl ru su L f) H := hP
  have hD : va_D (va_A (xw F Y (nI b) mn (nI n) (nI sN) (nI st) fl gv fs fb wo lv sl ru su L f) sz) (xw F Y (nI b) mn (nI n) (nI sN) (nI st1) fl1 gv fs fb wo lv sl ru su L f) := hD
  rcases r_1 with _ | ar_1
  · have hs : stS n x st fl = (st1, fl1, false) := hs.symm
    refine lv_astore_nN (lv' := [(3, .null), (0, .ref (F 0)), (1, .int x), (2, .int h)]) hx hb dX2_valueOf_5 rfl hl (by decide) rfl (fun ls hl => ?_)
    refine lv_aload_nN hx hb dX2_valueOf_6 rfl (lv_at hl 0 rfl) ?_
    refine lv_ifnonnullN hx hb dX2_valueOf_7 ?_
    refine lv_lconst (v := 0) hx hb dX2_valueOf_10 (by decide) ?_
    exact wrL ((st1, fl1, ct), f) hx hb hr hlk dX2_valueOf_11 hP hD hS ⟨ev_no hs, hR⟩
  · have hs : stS n x st fl = (st1, fl1, true) := hs.symm
    obtain ⟨hi, ra, -, -⟩ := hR.rule (hrx _ rfl)
    have hk := inB_ix hi
    obtain ⟨t1, t2, -, t3, t4⟩ := stS_t hs
    have hst1 : st1 ≤ 120 := by omega
    have hd1 : 120 ≤ st1 + d := by omega
    obtain ⟨la_z_2, fa_z_2⟩ := hR.cell hk ra
    obtain ⟨p_z_2, e_z_2⟩ : ∃ q : Nat, (xw F Y (nI b) mn (nI n) (nI sN) (nI st1) fl1 gv fs fb wo lv sl ru su L f)[q]? = some (ar_1, ruE kd pt he ct (ix x)) := pl_at la_z_2 fa_z_2
    refine lv_astore_n (lv' := [(3, .ref ar_1), (0, .ref (F 0)), (1, .int x), (2, .int h)]) hx hb dX2_valueOf_5 rfl hl (by decide) rfl (fun ls hl => ?_)
    refine lv_aload_n hx hb dX2_valueOf_6 rfl (lv_at hl 0 rfl) ?_
    refine lv_ifnonnull (tgt := 12) hx hb dX2_valueOf_7 (by decide) ?_
    refine lv_aload_n hx hb dX2_valueOf_12 rfl (lv_at hl 0 rfl) ?_
    refine va_getN (D := D) (ci := 0) (v := .int (kd (ix x))) (C := RX0) (T := TX0) (N := 8) (host := RX2) hx hb hts iw_X2_valueOf_X0 hown hK hP p_z_2 e_z_2 rfl 0 (by decide) (nf_108 hN) (fun _ h9 => h9) rfl dX2_valueOf_13 ?_
    by_cases k_16_4 : (kd (ix x)) = 4
    · refine lv_tableIn (off := 68) (tgt := 84) hx hb dX2_valueOf_16 (by rw [k_16_4]; decide) (by rw [k_16_4]; decide) (by rw [k_16_4]; rfl) (by decide) ?_
      refine lv_aload_n hx hb dX2_valueOf_84 rfl (lv_at hl 1 rfl) ?_
      refine lv_aload_n hx hb dX2_valueOf_85 rfl (lv_at hl 0 rfl) ?_
      refine va_getN (D := D) (ci := 0) (v := .int (pt (5 * (ix x)))) (C := RX0) (T := TX0) (N := 8) (host := RX2) hx hb hts iw_X2_valueOf_X0 hown hK hP p_z_2 e_z_2 rfl 1 (by decide) (nf_117 hN) (fun _ h9 => h9) rfl dX2_valueOf_86 ?_
      refine lv_iload_n hx hb dX2_valueOf_89 rfl (lv_at hl 3 rfl) ?_
      refine WrL.callV (As := [.int (pt (5 * (ix x))), .int h]) (rest := []) (ih hR hn40 hb8 hW hst1 hd1 (pt (5 * (ix x))) h) ⟨hx, hb, hml, hown, hts⟩ (cwV 2 hts gX2_valueOf_X2_valueOf rfl rfl rfl (by decide +kernel) ⟨by show 8 + d + 1 ≤ 8 + (d + 1); omega, by show 8 + (7 + 11) + 40 * (8 + d) ≤ 40 * (8 + (d + 1)); omega⟩) hP hD hS hA hK hN 0 2 rfl rfl rfl hl.1 rfl (Nat.le_of_ble_eq_true rfl) dX2_valueOf_90 ⟨Nat.le_of_ble_eq_true rfl, Nat.le_of_ble_eq_true rfl⟩ (fun r_3 ur_3 H locs hr_3 hP hD hS => ?_)
      obtain ⟨⟨st_3, fl_3, ct_3⟩, f_3⟩ := ur_3
      obtain ⟨e_3, hR_3⟩ := hr_3
      have e_3 : (r_3, (st_3, fl_3, ct_3)) = ev (n, mn, lv, sl, kd, pt, he) d (pt (5 * (ix x))) h (st1, fl1, ct) := e_3
      have hR_3 : xRel n sN kd pt he ct_3 fr to rl ru su L f_3 := hR_3
      have g_3 := ev_st (n, mn, lv, sl, kd, pt, he) d (pt (5 * (ix x))) h (st1, fl1, ct)
      rw [← e_3] at g_3
      have hst_3 : st_3 ≤ 120 := g_3.2 hst1
      have hd_3 : 120 ≤ st_3 + d := Nat.le_trans hd1 (Nat.add_le_add_right g_3.1 d)
      have hP : va_P D vwCl (xw F Y (nI b) mn (nI n) (nI sN) (nI st_3) fl_3 gv fs fb wo lv sl ru su L f_3) H := hP
      have hD : va_D (va_A (xw F Y (nI b) mn (nI n) (nI sN) (nI st) fl gv fs fb wo lv sl ru su L f) sz) (xw F Y (nI b) mn (nI n) (nI sN) (nI st_3) fl_3 gv fs fb wo lv sl ru su L f_3) := hD
      obtain ⟨la_z_4, fa_z_4⟩ := hR_3.cell hk ra
      obtain ⟨p_z_4, e_z_4⟩ : ∃ q : Nat, (xw F Y (nI b) mn (nI n) (nI sN) (nI st_3) fl_3 gv fs fb wo lv sl ru su L f_3)[q]? = some (ar_1, ruE kd pt he ct_3 (ix x)) := pl_at la_z_4 fa_z_4
      refine lv_aload_n hx hb dX2_valueOf_93 rfl (lv_at hl 1 rfl) ?_
      refine lv_aload_n hx hb dX2_valueOf_94 rfl (lv_at hl 0 rfl) ?_
      refine va_getN (D := D) (ci := 0) (v := .int (pt (5 * (ix x) + 1))) (C := RX0) (T := TX0) (N := 8) (host := RX2) hx hb hts iw_X2_valueOf_X0 hown hK hP p_z_4 e_z_4 rfl 2 (by decide) (nf_120 hN) (fun _ h9 => h9) rfl dX2_valueOf_95 ?_
      refine lv_iload_n hx hb dX2_valueOf_98 rfl (lv_at hl 3 rfl) ?_
      refine WrL.callV (As := [.int (pt (5 * (ix x) + 1)), .int h]) (rest := [.long r_3]) (ih hR_3 hn40 hb8 hW hst_3 hd_3 (pt (5 * (ix x) + 1)) h) ⟨hx, hb, hml, hown, hts⟩ (cwV 2 hts gX2_valueOf_X2_valueOf rfl rfl rfl (by decide +kernel) ⟨by show 8 + d + 1 ≤ 8 + (d + 1); omega, by show 8 + (7 + 11) + 40 * (8 + d) ≤ 40 * (8 + (d + 1)); omega⟩) hP hD hS hA hK hN 0 2 rfl rfl rfl hl.1 rfl (Nat.le_of_ble_eq_true rfl) dX2_valueOf_99 ⟨Nat.le_of_ble_eq_true rfl, Nat.le_of_ble_eq_true rfl⟩ (fun r_5 ur_5 H locs hr_5 hP hD hS => ?_)
      obtain ⟨⟨st_5, fl_5, ct_5⟩, f_5⟩ := ur_5
      obtain ⟨e_5, hR_5⟩ := hr_5
      have e_5 : (r_5, (st_5, fl_5, ct_5)) = ev (n, mn, lv, sl, kd, pt, he) d (pt (5 * (ix x) + 1)) h (st_3, fl_3, ct_3) := e_5
      have hR_5 : xRel n sN kd pt he ct_5 fr to rl ru su L f_5 := hR_5
      have g_5 := ev_st (n, mn, lv, sl, kd, pt, he) d (pt (5 * (ix x) + 1)) h (st_3, fl_3, ct_3)
      rw [← e_5] at g_5
      have hst_5 : st_5 ≤ 120 := g_5.2 hst_3
      have hd_5 : 120 ≤ st_5 + d := Nat.le_trans hd_3 (Nat.add_le_add_right g_5.1 d)
      have hP : va_P D vwCl (xw F Y (nI b) mn (nI n) (nI sN) (nI st_5) fl_5 gv fs fb wo lv sl ru su L f_5) H := hP
      have hD : va_D (va_A (xw F Y (nI b) mn (nI n) (nI sN) (nI st) fl gv fs fb wo lv sl ru su L f) sz) (xw F Y (nI b) mn (nI n) (nI sN) (nI st_5) fl_5 gv fs fb wo lv sl ru su L f_5) := hD
      obtain ⟨la_z_6, fa_z_6⟩ := hR_5.cell hk ra
      obtain ⟨p_z_6, e_z_6⟩ : ∃ q : Nat, (xw F Y (nI b) mn (nI n) (nI sN) (nI st_5) fl_5 gv fs fb wo lv sl ru su L f_5)[q]? = some (ar_1, ruE kd pt he ct_5 (ix x)) := pl_at la_z_6 fa_z_6
      refine lv_ladd hx hb dX2_valueOf_102 ?_
      exact wrL ((st_5, fl_5, ct_5), f_5) hx hb hr hlk dX2_valueOf_103 hP hD hS ⟨ev_4 hs k_16_4 e_3 e_5, hR_5⟩
    by_cases k_16_5 : (kd (ix x)) = 5
    · refine lv_tableIn (off := 88) (tgt := 104) hx hb dX2_valueOf_16 (by rw [k_16_5]; decide) (by rw [k_16_5]; decide) (by rw [k_16_5]; rfl) (by decide) ?_
      refine lv_aload_n hx hb dX2_valueOf_104 rfl (lv_at hl 1 rfl) ?_
      refine lv_aload_n hx hb dX2_valueOf_105 rfl (lv_at hl 0 rfl) ?_
      refine va_getN (D := D) (ci := 0) (v := .int (pt (5 * (ix x)))) (C := RX0) (T := TX0) (N := 8) (host := RX2) hx hb hts iw_X2_valueOf_X0 hown hK hP p_z_2 e_z_2 rfl 1 (by decide) (nf_117 hN) (fun _ h9 => h9) rfl dX2_valueOf_106 ?_
      refine lv_iload_n hx hb dX2_valueOf_109 rfl (lv_at hl 3 rfl) ?_
      refine WrL.callV (As := [.int (pt (5 * (ix x))), .int h]) (rest := []) (ih hR hn40 hb8 hW hst1 hd1 (pt (5 * (ix x))) h) ⟨hx, hb, hml, hown, hts⟩ (cwV 2 hts gX2_valueOf_X2_valueOf rfl rfl rfl (by decide +kernel) ⟨by show 8 + d + 1 ≤ 8 + (d + 1); omega, by show 8 + (7 + 11) + 40 * (8 + d) ≤ 40 * (8 + (d + 1)); omega⟩) hP hD hS hA hK hN 0 2 rfl rfl rfl hl.1 rfl (Nat.le_of_ble_eq_true rfl) dX2_valueOf_110 ⟨Nat.le_of_ble_eq_true rfl, Nat.le_of_ble_eq_true rfl⟩ (fun r_7 ur_7 H locs hr_7 hP hD hS => ?_)
      obtain ⟨⟨st_7, fl_7, ct_7⟩, f_7⟩ := ur_7
      obtain ⟨e_7, hR_7⟩ := hr_7
      have e_7 : (r_7, (st_7, fl_7, ct_7)) = ev (n, mn, lv, sl, kd, pt, he) d (pt (5 * (ix x))) h (st1, fl1, ct) := e_7
      have hR_7 : xRel n sN kd pt he ct_7 fr to rl ru su L f_7 := hR_7
      have g_7 := ev_st (n, mn, lv, sl, kd, pt, he) d (pt (5 * (ix x))) h (st1, fl1, ct)
      rw [← e_7] at g_7
      have hst_7 : st_7 ≤ 120 := g_7.2 hst1
      have hd_7 : 120 ≤ st_7 + d := Nat.le_trans hd1 (Nat.add_le_add_right g_7.1 d)
      have hP : va_P D vwCl (xw F Y (nI b) mn (nI n) (nI sN) (nI st_7) fl_7 gv fs fb wo lv sl ru su L f_7) H := hP
      have hD : va_D (va_A (xw F Y (nI b) mn (nI n) (nI sN) (nI st) fl gv fs fb wo lv sl ru su L f) sz) (xw F Y (nI b) mn (nI n) (nI sN) (nI st_7) fl_7 gv fs fb wo lv sl ru su L f_7) := hD
      obtain ⟨la_z_8, fa_z_8⟩ := hR_7.cell hk ra
      obtain ⟨p_z_8, e_z_8⟩ : ∃ q : Nat, (xw F Y (nI b) mn (nI n) (nI sN) (nI st_7) fl_7 gv fs fb wo lv sl ru su L f_7)[q]? = some (ar_1, ruE kd pt he ct_7 (ix x)) := pl_at la_z_8 fa_z_8
      refine lv_aload_n hx hb dX2_valueOf_113 rfl (lv_at hl 1 rfl) ?_
      refine lv_aload_n hx hb dX2_valueOf_114 rfl (lv_at hl 0 rfl) ?_
      refine va_getN (D := D) (ci := 0) (v := .int (pt (5 * (ix x) + 1))) (C := RX0) (T := TX0) (N := 8) (host := RX2) hx hb hts iw_X2_valueOf_X0 hown hK hP p_z_8 e_z_8 rfl 2 (by decide) (nf_120 hN) (fun _ h9 => h9) rfl dX2_valueOf_115 ?_
      refine lv_iload_n hx hb dX2_valueOf_118 rfl (lv_at hl 3 rfl) ?_
      refine WrL.callV (As := [.int (pt (5 * (ix x) + 1)), .int h]) (rest := [.long r_7]) (ih hR_7 hn40 hb8 hW hst_7 hd_7 (pt (5 * (ix x) + 1)) h) ⟨hx, hb, hml, hown, hts⟩ (cwV 2 hts gX2_valueOf_X2_valueOf rfl rfl rfl (by decide +kernel) ⟨by show 8 + d + 1 ≤ 8 + (d + 1); omega, by show 8 + (7 + 11) + 40 * (8 + d) ≤ 40 * (8 + (d + 1)); omega⟩) hP hD hS hA hK hN 0 2 rfl rfl rfl hl.1 rfl (Nat.le_of_ble_eq_true rfl) dX2_valueOf_119 ⟨Nat.le_of_ble_eq_true rfl, Nat.le_of_ble_eq_true rfl⟩ (fun r_9 ur_9 H locs hr_9 hP hD hS => ?_)
      obtain ⟨⟨st_9, fl_9, ct_9⟩, f_9⟩ := ur_9
      obtain ⟨e_9, hR_9⟩ := hr_9
      have e_9 : (r_9, (st_9, fl_9, ct_9)) = ev (n, mn, lv, sl, kd, pt, he) d (pt (5 * (ix x) + 1)) h (st_7, fl_7, ct_7) := e_9
      have hR_9 : xRel n sN kd pt he ct_9 fr to rl ru su L f_9 := hR_9
      have g_9 := ev_st (n, mn, lv, sl, kd, pt, he) d (pt (5 * (ix x) + 1)) h (st_7, fl_7, ct_7)
      rw [← e_9] at g_9
      have hst_9 : st_9 ≤ 120 := g_9.2 hst_7
      have hd_9 : 120 ≤ st_9 + d := Nat.le_trans hd_7 (Nat.add_le_add_right g_9.1 d)
      have hP : va_P D vwCl (xw F Y (nI b) mn (nI n) (nI sN) (nI st_9) fl_9 gv fs fb wo lv sl ru su L f_9) H := hP
      have hD : va_D (va_A (xw F Y (nI b) mn (nI n) (nI sN) (nI st) fl gv fs fb wo lv sl ru su L f) sz) (xw F Y (nI b) mn (nI n) (nI sN) (nI st_9) fl_9 gv fs fb wo lv sl ru su L f_9) := hD
      obtain ⟨la_z_10, fa_z_10⟩ := hR_9.cell hk ra
      obtain ⟨p_z_10, e_z_10⟩ : ∃ q : Nat, (xw F Y (nI b) mn (nI n) (nI sN) (nI st_9) fl_9 gv fs fb wo lv sl ru su L f_9)[q]? = some (ar_1, ruE kd pt he ct_9 (ix x)) := pl_at la_z_10 fa_z_10
      refine lv_lsub hx hb dX2_valueOf_122 ?_
      exact wrL ((st_9, fl_9, ct_9), f_9) hx hb hr hlk dX2_valueOf_123 hP hD hS ⟨ev_5 hs k_16_5 e_7 e_9, hR_9⟩
    by_cases k_16_6 : (kd (ix x)) = 6
    · refine lv_tableIn (off := 108) (tgt := 124) hx hb dX2_valueOf_16 (by rw [k_16_6]; decide) (by rw [k_16_6]; decide) (by rw [k_16_6]; rfl) (by decide) ?_
      refine lv_aload_n hx hb dX2_valueOf_124 rfl (lv_at hl 1 rfl) ?_
      refine lv_aload_n hx hb dX2_valueOf_125 rfl (lv_at hl 0 rfl) ?_
      refine va_getN (D := D) (ci := 0) (v := .int (pt (5 * (ix x)))) (C := RX0) (T := TX0) (N := 8) (host := RX2) hx hb hts iw_X2_valueOf_X0 hown hK hP p_z_2 e_z_2 rfl 1 (by decide) (nf_117 hN) (fun _ h9 => h9) rfl dX2_valueOf_126 ?_
      refine lv_iload_n hx hb dX2_valueOf_129 rfl (lv_at hl 3 rfl) ?_
      refine WrL.callV (As := [.int (pt (5 * (ix x))), .int h]) (rest := []) (ih hR hn40 hb8 hW hst1 hd1 (pt (5 * (ix x))) h) ⟨hx, hb, hml, hown, hts⟩ (cwV 2 hts gX2_valueOf_X2_valueOf rfl rfl rfl (by decide +kernel) ⟨by show 8 + d + 1 ≤ 8 + (d + 1); omega, by show 8 + (7 + 11) + 40 * (8 + d) ≤ 40 * (8 + (d + 1)); omega⟩) hP hD hS hA hK hN 0 2 rfl rfl rfl hl.1 rfl (Nat.le_of_ble_eq_true rfl) dX2_valueOf_130 ⟨Nat.le_of_ble_eq_true rfl, Nat.le_of_ble_eq_true rfl⟩ (fun r_11 ur_11 H locs hr_11 hP hD hS => ?_)
      obtain ⟨⟨st_11, fl_11, ct_11⟩, f_11⟩ := ur_11
      obtain ⟨e_11, hR_11⟩ := hr_11
      have e_11 : (r_11, (st_11, fl_11, ct_11)) = ev (n, mn, lv, sl, kd, pt, he) d (pt (5 * (ix x))) h (st1, fl1, ct) := e_11
      have hR_11 : xRel n sN kd pt he ct_11 fr to rl ru su L f_11 := hR_11
      have g_11 := ev_st (n, mn, lv, sl, kd, pt, he) d (pt (5 * (ix x))) h (st1, fl1, ct)
      rw [← e_11] at g_11
      have hst_11 : st_11 ≤ 120 := g_11.2 hst1
      have hd_11 : 120 ≤ st_11 + d := Nat.le_trans hd1 (Nat.add_le_add_right g_11.1 d)
      have hP : va_P D vwCl (xw F Y (nI b) mn (nI n) (nI sN) (nI st_11) fl_11 gv fs fb wo lv sl ru su L f_11) H := hP
      have hD : va_D (va_A (xw F Y (nI b) mn (nI n) (nI sN) (nI st) fl gv fs fb wo lv sl ru su L f) sz) (xw F Y (nI b) mn (nI n) (nI sN) (nI st_11) fl_11 gv fs fb wo lv sl ru su L f_11) := hD
      obtain ⟨la_z_12, fa_z_12⟩ := hR_11.cell hk ra
      obtain ⟨p_z_12, e_z_12⟩ : ∃ q : Nat, (xw F Y (nI b) mn (nI n) (nI sN) (nI st_11) fl_11 gv fs fb wo lv sl ru su L f_11)[q]? = some (ar_1, ruE kd pt he ct_11 (ix x)) := pl_at la_z_12 fa_z_12
      refine lv_aload_n hx hb dX2_valueOf_133 rfl (lv_at hl 1 rfl) ?_
      refine lv_aload_n hx hb dX2_valueOf_134 rfl (lv_at hl 0 rfl) ?_
      refine va_getN (D := D) (ci := 0) (v := .int (pt (5 * (ix x) + 1))) (C := RX0) (T := TX0) (N := 8) (host := RX2) hx hb hts iw_X2_valueOf_X0 hown hK hP p_z_12 e_z_12 rfl 2 (by decide) (nf_120 hN) (fun _ h9 => h9) rfl dX2_valueOf_135 ?_
      refine lv_iload_n hx hb dX2_valueOf_138 rfl (lv_at hl 3 rfl) ?_
      refine WrL.callV (As := [.int (pt (5 * (ix x) + 1)), .int h]) (rest := [.long r_11]) (ih hR_11 hn40 hb8 hW hst_11 hd_11 (pt (5 * (ix x) + 1)) h) ⟨hx, hb, hml, hown, hts⟩ (cwV 2 hts gX2_valueOf_X2_valueOf rfl rfl rfl (by decide +kernel) ⟨by show 8 + d + 1 ≤ 8 + (d + 1); omega, by show 8 + (7 + 11) + 40 * (8 + d) ≤ 40 * (8 + (d + 1)); omega⟩) hP hD hS hA hK hN 0 2 rfl rfl rfl hl.1 rfl (Nat.le_of_ble_eq_true rfl) dX2_valueOf_139 ⟨Nat.le_of_ble_eq_true rfl, Nat.le_of_ble_eq_true rfl⟩ (fun r_13 ur_13 H locs hr_13 hP hD hS => ?_)
      obtain ⟨⟨st_13, fl_13, ct_13⟩, f_13⟩ := ur_13
      obtain ⟨e_13, hR_13⟩ := hr_13
      have e_13 : (r_13, (st_13, fl_13, ct_13)) = ev (n, mn, lv, sl, kd, pt, he) d (pt (5 * (ix x) + 1)) h (st_11, fl_11, ct_11) := e_13
      have hR_13 : xRel n sN kd pt he ct_13 fr to rl ru su L f_13 := hR_13
      have g_13 := ev_st (n, mn, lv, sl, kd, pt, he) d (pt (5 * (ix x) + 1)) h (st_11, fl_11, ct_11)
      rw [← e_13] at g_13
      have hst_13 : st_13 ≤ 120 := g_13.2 hst_11
      have hd_13 : 120 ≤ st_13 + d := Nat.le_trans hd_11 (Nat.add_le_add_right g_13.1 d)
      have hP : va_P D vwCl (xw F Y (nI b) mn (nI n) (nI sN) (nI st_13) fl_13 gv fs fb wo lv sl ru su L f_13) H := hP
      have hD : va_D (va_A (xw F Y (nI b) mn (nI n) (nI sN) (nI st) fl gv fs fb wo lv sl ru su L f) sz) (xw F Y (nI b) mn (nI n) (nI sN) (nI st_13) fl_13 gv fs fb wo lv sl ru su L f_13) := hD
      obtain ⟨la_z_14, fa_z_14⟩ := hR_13.cell hk ra
      obtain ⟨p_z_14, e_z_14⟩ : ∃ q : Nat, (xw F Y (nI b) mn (nI n) (nI sN) (nI st_13) fl_13 gv fs fb wo lv sl ru su L f_13)[q]? = some (ar_1, ruE kd pt he ct_13 (ix x)) := pl_at la_z_14 fa_z_14
      refine va_mmin_long hx hb (hml.trans hl.1.symm) hown (hts (.methodLink RX2 123 Lib.MathLoose.min_long.x) (by decide +kernel)) (hts (.static Lib.MathLoose.min_long.x) (by decide +kernel)) (hts (.initialized "java/lang/Math") (by decide +kernel)) (hts (.code Lib.MathLoose.min_long.x Lib.MathLoose.min_long.code 4 (some .long)) (by decide +kernel)) (by show 1 ≤ 8 + (d + 1); omega) (Nat.le_trans (m := 40) (Nat.le_of_ble_eq_true rfl) (by show 40 ≤ 40 * (8 + (d + 1)); omega)) (Nat.zero_le _) (Nat.zero_le _) dX2_valueOf_142 ?_
      exact wrL ((st_13, fl_13, ct_13), f_13) hx hb hr hlk dX2_valueOf_145 hP hD hS ⟨ev_6 hs k_16_6 e_11 e_13, hR_13⟩
    by_cases k_16_7 : (kd (ix x)) = 7
    · refine lv_tableIn (off := 130) (tgt := 146) hx hb dX2_valueOf_16 (by rw [k_16_7]; decide) (by rw [k_16_7]; decide) (by rw [k_16_7]; rfl) (by decide) ?_
      refine lv_aload_n hx hb dX2_valueOf_146 rfl (lv_at hl 1 rfl) ?_
      refine lv_aload_n hx hb dX2_valueOf_147 rfl (lv_at hl 0 rfl) ?_
      refine va_getN (D := D) (ci := 0) (v := .int (pt (5 * (ix x)))) (C := RX0) (T := TX0) (N := 8) (host := RX2) hx hb hts iw_X2_valueOf_X0 hown hK hP p_z_2 e_z_2 rfl 1 (by decide) (nf_117 hN) (fun _ h9 => h9) rfl dX2_valueOf_148 ?_
      refine lv_iload_n hx hb dX2_valueOf_151 rfl (lv_at hl 3 rfl) ?_
      refine WrL.callV (As := [.int (pt (5 * (ix x))), .int h]) (rest := []) (ih hR hn40 hb8 hW hst1 hd1 (pt (5 * (ix x))) h) ⟨hx, hb, hml, hown, hts⟩ (cwV 2 hts gX2_valueOf_X2_valueOf rfl rfl rfl (by decide +kernel) ⟨by show 8 + d + 1 ≤ 8 + (d + 1); omega, by show 8 + (7 + 11) + 40 * (8 + d) ≤ 40 * (8 + (d + 1)); omega⟩) hP hD hS hA hK hN 0 2 rfl rfl rfl hl.1 rfl (Nat.le_of_ble_eq_true rfl) dX2_valueOf_152 ⟨Nat.le_of_ble_eq_true rfl, Nat.le_of_ble_eq_true rfl⟩ (fun r_15 ur_15 H locs hr_15 hP hD hS => ?_)
      obtain ⟨⟨st_15, fl_15, ct_15⟩, f_15⟩ := ur_15
      obtain ⟨e_15, hR_15⟩ := hr_15
      have e_15 : (r_15, (st_15, fl_15, ct_15)) = ev (n, mn, lv, sl, kd, pt, he) d (pt (5 * (ix x))) h (st1, fl1, ct) := e_15
      have hR_15 : xRel n sN kd pt he ct_15 fr to rl ru su L f_15 := hR_15
      have g_15 := ev_st (n, mn, lv, sl, kd, pt, he) d (pt (5 * (ix x))) h (st1, fl1, ct)
      rw [← e_15] at g_15
      have hst_15 : st_15 ≤ 120 := g_15.2 hst1
      have hd_15 : 120 ≤ st_15 + d := Nat.le_trans hd1 (Nat.add_le_add_right g_15.1 d)
      have hP : va_P D vwCl (xw F Y (nI b) mn (nI n) (nI sN) (nI st_15) fl_15 gv fs fb wo lv sl ru su L f_15) H := hP
      have hD : va_D (va_A (xw F Y (nI b) mn (nI n) (nI sN) (nI st) fl gv fs fb wo lv sl ru su L f) sz) (xw F Y (nI b) mn (nI n) (nI sN) (nI st_15) fl_15 gv fs fb wo lv sl ru su L f_15) := hD
      obtain ⟨la_z_16, fa_z_16⟩ := hR_15.cell hk ra
      obtain ⟨p_z_16, e_z_16⟩ : ∃ q : Nat, (xw F Y (nI b) mn (nI n) (nI sN) (nI st_15) fl_15 gv fs fb wo lv sl ru su L f_15)[q]? = some (ar_1, ruE kd pt he ct_15 (ix x)) := pl_at la_z_16 fa_z_16
      refine lv_aload_n hx hb dX2_valueOf_155 rfl (lv_at hl 1 rfl) ?_
      refine lv_aload_n hx hb dX2_valueOf_156 rfl (lv_at hl 0 rfl) ?_
      refine va_getN (D := D) (ci := 0) (v := .int (pt (5 * (ix x) + 1))) (C := RX0) (T := TX0) (N := 8) (host := RX2) hx hb hts iw_X2_valueOf_X0 hown hK hP p_z_16 e_z_16 rfl 2 (by decide) (nf_120 hN) (fun _ h9 => h9) rfl dX2_valueOf_157 ?_
      refine lv_iload_n hx hb dX2_valueOf_160 rfl (lv_at hl 3 rfl) ?_
      refine WrL.callV (As := [.int (pt (5 * (ix x) + 1)), .int h]) (rest := [.long r_15]) (ih hR_15 hn40 hb8 hW hst_15 hd_15 (pt (5 * (ix x) + 1)) h) ⟨hx, hb, hml, hown, hts⟩ (cwV 2 hts gX2_valueOf_X2_valueOf rfl rfl rfl (by decide +kernel) ⟨by show 8 + d + 1 ≤ 8 + (d + 1); omega, by show 8 + (7 + 11) + 40 * (8 + d) ≤ 40 * (8 + (d + 1)); omega⟩) hP hD hS hA hK hN 0 2 rfl rfl rfl hl.1 rfl (Nat.le_of_ble_eq_true rfl) dX2_valueOf_161 ⟨Nat.le_of_ble_eq_true rfl, Nat.le_of_ble_eq_true rfl⟩ (fun r_17 ur_17 H locs hr_17 hP hD hS => ?_)
      obtain ⟨⟨st_17, fl_17, ct_17⟩, f_17⟩ := ur_17
      obtain ⟨e_17, hR_17⟩ := hr_17
      have e_17 : (r_17, (st_17, fl_17, ct_17)) = ev (n, mn, lv, sl, kd, pt, he) d (pt (5 * (ix x) + 1)) h (st_15, fl_15, ct_15) := e_17
      have hR_17 : xRel n sN kd pt he ct_17 fr to rl ru su L f_17 := hR_17
      have g_17 := ev_st (n, mn, lv, sl, kd, pt, he) d (pt (5 * (ix x) + 1)) h (st_15, fl_15, ct_15)
      rw [← e_17] at g_17
      have hst_17 : st_17 ≤ 120 := g_17.2 hst_15
      have hd_17 : 120 ≤ st_17 + d := Nat.le_trans hd_15 (Nat.add_le_add_right g_17.1 d)
      have hP : va_P D vwCl (xw F Y (nI b) mn (nI n) (nI sN) (nI st_17) fl_17 gv fs fb wo lv sl ru su L f_17) H := hP
      have hD : va_D (va_A (xw F Y (nI b) mn (nI n) (nI sN) (nI st) fl gv fs fb wo lv sl ru su L f) sz) (xw F Y (nI b) mn (nI n) (nI sN) (nI st_17) fl_17 gv fs fb wo lv sl ru su L f_17) := hD
      obtain ⟨la_z_18, fa_z_18⟩ := hR_17.cell hk ra
      obtain ⟨p_z_18, e_z_18⟩ : ∃ q : Nat, (xw F Y (nI b) mn (nI n) (nI sN) (nI st_17) fl_17 gv fs fb wo lv sl ru su L f_17)[q]? = some (ar_1, ruE kd pt he ct_17 (ix x)) := pl_at la_z_18 fa_z_18
      refine va_mmax_long hx hb (hml.trans hl.1.symm) hown (hts (.methodLink RX2 129 Lib.MathLoose.max_long.x) (by decide +kernel)) (hts (.static Lib.MathLoose.max_long.x) (by decide +kernel)) (hts (.initialized "java/lang/Math") (by decide +kernel)) (hts (.code Lib.MathLoose.max_long.x Lib.MathLoose.max_long.code 4 (some .long)) (by decide +kernel)) (by show 1 ≤ 8 + (d + 1); omega) (Nat.le_trans (m := 40) (Nat.le_of_ble_eq_true rfl) (by show 40 ≤ 40 * (8 + (d + 1)); omega)) (Nat.zero_le _) (Nat.zero_le _) dX2_valueOf_164 ?_
      exact wrL ((st_17, fl_17, ct_17), f_17) hx hb hr hlk dX2_valueOf_167 hP hD hS ⟨ev_7 hs k_16_7 e_15 e_17, hR_17⟩
    by_cases k_16_8 : (kd (ix x)) = 8
    · refine lv_tableIn (off := 152) (tgt := 168) hx hb dX2_valueOf_16 (by rw [k_16_8]; decide) (by rw [k_16_8]; decide) (by rw [k_16_8]; rfl) (by decide) ?_
      refine lv_aload_n hx hb dX2_valueOf_168 rfl (lv_at hl 1 rfl) ?_
      refine lv_aload_n hx hb dX2_valueOf_169 rfl (lv_at hl 0 rfl) ?_
      refine va_getN (D := D) (ci := 0) (v := .int (pt (5 * (ix x)))) (C := RX0) (T := TX0) (N := 8) (host := RX2) hx hb hts iw_X2_valueOf_X0 hown hK hP p_z_2 e_z_2 rfl 1 (by decide) (nf_117 hN) (fun _ h9 => h9) rfl dX2_valueOf_170 ?_
      refine lv_iload_n hx hb dX2_valueOf_173 rfl (lv_at hl 3 rfl) ?_
      refine WrL.callV (As := [.int (pt (5 * (ix x))), .int h]) (rest := []) (ih hR hn40 hb8 hW hst1 hd1 (pt (5 * (ix x))) h) ⟨hx, hb, hml, hown, hts⟩ (cwV 2 hts gX2_valueOf_X2_valueOf rfl rfl rfl (by decide +kernel) ⟨by show 8 + d + 1 ≤ 8 + (d + 1); omega, by show 8 + (7 + 11) + 40 * (8 + d) ≤ 40 * (8 + (d + 1)); omega⟩) hP hD hS hA hK hN 0 2 rfl rfl rfl hl.1 rfl (Nat.le_of_ble_eq_true rfl) dX2_valueOf_174 ⟨Nat.le_of_ble_eq_true rfl, Nat.le_of_ble_eq_true rfl⟩ (fun r_19 ur_19 H locs hr_19 hP hD hS => ?_)
      obtain ⟨⟨st_19, fl_19, ct_19⟩, f_19⟩ := ur_19
      obtain ⟨e_19, hR_19⟩ := hr_19
      have e_19 : (r_19, (st_19, fl_19, ct_19)) = ev (n, mn, lv, sl, kd, pt, he) d (pt (5 * (ix x))) h (st1, fl1, ct) := e_19
      have hR_19 : xRel n sN kd pt he ct_19 fr to rl ru su L f_19 := hR_19
      have g_19 := ev_st (n, mn, lv, sl, kd, pt, he) d (pt (5 * (ix x))) h (st1, fl1, ct)
      rw [← e_19] at g_19
      have hst_19 : st_19 ≤ 120 := g_19.2 hst1
      have hd_19 : 120 ≤ st_19 + d := Nat.le_trans hd1 (Nat.add_le_add_right g_19.1 d)
      have hP : va_P D vwCl (xw F Y (nI b) mn (nI n) (nI sN) (nI st_19) fl_19 gv fs fb wo lv sl ru su L f_19) H := hP
      have hD : va_D (va_A (xw F Y (nI b) mn (nI n) (nI sN) (nI st) fl gv fs fb wo lv sl ru su L f) sz) (xw F Y (nI b) mn (nI n) (nI sN) (nI st_19) fl_19 gv fs fb wo lv sl ru su L f_19) := hD
      obtain ⟨la_z_20, fa_z_20⟩ := hR_19.cell hk ra
      obtain ⟨p_z_20, e_z_20⟩ : ∃ q : Nat, (xw F Y (nI b) mn (nI n) (nI sN) (nI st_19) fl_19 gv fs fb wo lv sl ru su L f_19)[q]? = some (ar_1, ruE kd pt he ct_19 (ix x)) := pl_at la_z_20 fa_z_20
      refine lv_aload_n hx hb dX2_valueOf_177 rfl (lv_at hl 0 rfl) ?_
      refine va_getN (D := D) (ci := 0) (v := .int (pt (5 * (ix x) + 1))) (C := RX0) (T := TX0) (N := 8) (host := RX2) hx hb hts iw_X2_valueOf_X0 hown hK hP p_z_20 e_z_20 rfl 2 (by decide) (nf_120 hN) (fun _ h9 => h9) rfl dX2_valueOf_178 ?_
      refine lv_aload_n hx hb dX2_valueOf_181 rfl (lv_at hl 0 rfl) ?_
      refine va_getN (D := D) (ci := 0) (v := .int (pt (5 * (ix x) + 2))) (C := RX0) (T := TX0) (N := 8) (host := RX2) hx hb hts iw_X2_valueOf_X0 hown hK hP p_z_20 e_z_20 rfl 3 (by decide) (nf_132 hN) (fun _ h9 => h9) rfl dX2_valueOf_182 ?_
      refine RoL.callS (As := [.long r_19, .int (pt (5 * (ix x) + 1)), .int (pt (5 * (ix x) + 2))]) (rest := []) (c_X2_scaled r_19 (pt (5 * (ix x) + 1)) (pt (5 * (ix x) + 2)) (wf_8 (hW.1 _ hk) k_16_8).1) ⟨hx, hb, hml, hown, hts⟩ (va_cwS 3 hts gX2_valueOf_X2_scaled rfl rfl rfl (by decide +kernel) ⟨by show 1 + 1 ≤ 8 + (d + 1); omega, by show 8 + (4 + 11) + 40 * 1 ≤ 40 * (8 + (d + 1)); omega⟩) hP hK hN rfl hl.1 rfl (Nat.le_of_ble_eq_true rfl) dX2_valueOf_185 ⟨Nat.le_of_ble_eq_true rfl, Nat.le_of_ble_eq_true rfl⟩ (fun r_21 hr_21 => ?_)
      exact wrL ((st_19, fl_19, ct_19), f_19) hx hb hr hlk dX2_valueOf_188 hP hD hS ⟨by rw [hr_21]; exact ev_8 hs k_16_8 e_19, hR_19⟩
    by_cases k_16_9 : (kd (ix x)) = 9
    · refine lv_tableIn (off := 173) (tgt := 189) hx hb dX2_valueOf_16 (by rw [k_16_9]; decide) (by rw [k_16_9]; decide) (by rw [k_16_9]; rfl) (by decide) ?_
      refine lv_aload_n hx hb dX2_valueOf_189 rfl (lv_at hl 1 rfl) ?_
      refine lv_aload_n hx hb dX2_valueOf_190 rfl (lv_at hl 1 rfl) ?_
      refine lv_aload_n hx hb dX2_valueOf_191 rfl (lv_at hl 0 rfl) ?_
      refine va_getN (D := D) (ci := 0) (v := .int (pt (5 * (ix x)))) (C := RX0) (T := TX0) (N := 8) (host := RX2) hx hb hts iw_X2_valueOf_X0 hown hK hP p_z_2 e_z_2 rfl 1 (by decide) (nf_117 hN) (fun _ h9 => h9) rfl dX2_valueOf_192 ?_
      refine lv_iload_n hx hb dX2_valueOf_195 rfl (lv_at hl 3 rfl) ?_
      refine WrL.callV (As := [.int (pt (5 * (ix x))), .int h]) (rest := [.ref (F 0)]) (ih hR hn40 hb8 hW hst1 hd1 (pt (5 * (ix x))) h) ⟨hx, hb, hml, hown, hts⟩ (cwV 2 hts gX2_valueOf_X2_valueOf rfl rfl rfl (by decide +kernel) ⟨by show 8 + d + 1 ≤ 8 + (d + 1); omega, by show 8 + (7 + 11) + 40 * (8 + d) ≤ 40 * (8 + (d + 1)); omega⟩) hP hD hS hA hK hN 0 2 rfl rfl rfl hl.1 rfl (Nat.le_of_ble_eq_true rfl) dX2_valueOf_196 ⟨Nat.le_of_ble_eq_true rfl, Nat.le_of_ble_eq_true rfl⟩ (fun r_22 ur_22 H locs hr_22 hP hD hS => ?_)
      obtain ⟨⟨st_22, fl_22, ct_22⟩, f_22⟩ := ur_22
      obtain ⟨e_22, hR_22⟩ := hr_22
      have e_22 : (r_22, (st_22, fl_22, ct_22)) = ev (n, mn, lv, sl, kd, pt, he) d (pt (5 * (ix x))) h (st1, fl1, ct) := e_22
      have hR_22 : xRel n sN kd pt he ct_22 fr to rl ru su L f_22 := hR_22
      have g_22 := ev_st (n, mn, lv, sl, kd, pt, he) d (pt (5 * (ix x))) h (st1, fl1, ct)
      rw [← e_22] at g_22
      have hst_22 : st_22 ≤ 120 := g_22.2 hst1
      have hd_22 : 120 ≤ st_22 + d := Nat.le_trans hd1 (Nat.add_le_add_right g_22.1 d)
      have hP : va_P D vwCl (xw F Y (nI b) mn (nI n) (nI sN) (nI st_22) fl_22 gv fs fb wo lv sl ru su L f_22) H := hP
      have hD : va_D (va_A (xw F Y (nI b) mn (nI n) (nI sN) (nI st) fl gv fs fb wo lv sl ru su L f) sz) (xw F Y (nI b) mn (nI n) (nI sN) (nI st_22) fl_22 gv fs fb wo lv sl ru su L f_22) := hD
      obtain ⟨la_z_23, fa_z_23⟩ := hR_22.cell hk ra
      obtain ⟨p_z_23, e_z_23⟩ : ∃ q : Nat, (xw F Y (nI b) mn (nI n) (nI sN) (nI st_22) fl_22 gv fs fb wo lv sl ru su L f_22)[q]? = some (ar_1, ruE kd pt he ct_22 (ix x)) := pl_at la_z_23 fa_z_23
      refine lv_lconst (v := 0) hx hb dX2_valueOf_199 (by decide) ?_
      refine W.lcmp hx hb dX2_valueOf_200 ?_
      refine lv_if_le (tgt := 211) hx hb dX2_valueOf_201 (by decide) (fun c_201 => ?_) (fun c_201 => ?_)
      · have c_201 := lc_lep c_201
        refine lv_aload_n hx hb dX2_valueOf_211 rfl (lv_at hl 0 rfl) ?_
        refine va_getN (D := D) (ci := 0) (v := .int (pt (5 * (ix x) + 2))) (C := RX0) (T := TX0) (N := 8) (host := RX2) hx hb hts iw_X2_valueOf_X0 hown hK hP p_z_23 e_z_23 rfl 3 (by decide) (nf_132 hN) (fun _ h9 => h9) rfl dX2_valueOf_212 ?_
        refine lv_iload_n hx hb dX2_valueOf_215 rfl (lv_at hl 3 rfl) ?_
        refine WrL.callV (As := [.int (pt (5 * (ix x) + 2)), .int h]) (rest := []) (ih hR_22 hn40 hb8 hW hst_22 hd_22 (pt (5 * (ix x) + 2)) h) ⟨hx, hb, hml, hown, hts⟩ (cwV 2 hts gX2_valueOf_X2_valueOf rfl rfl rfl (by decide +kernel) ⟨by show 8 + d + 1 ≤ 8 + (d + 1); omega, by show 8 + (7 + 11) + 40 * (8 + d) ≤ 40 * (8 + (d + 1)); omega⟩) hP hD hS hA hK hN 0 2 rfl rfl rfl hl.1 rfl (Nat.le_of_ble_eq_true rfl) dX2_valueOf_216 ⟨Nat.le_of_ble_eq_true rfl, Nat.le_of_ble_eq_true rfl⟩ (fun r_24 ur_24 H locs hr_24 hP hD hS => ?_)
        obtain ⟨⟨st_24, fl_24, ct_24⟩, f_24⟩ := ur_24
        obtain ⟨e_24, hR_24⟩ := hr_24
        have e_24 : (r_24, (st_24, fl_24, ct_24)) = ev (n, mn, lv, sl, kd, pt, he) d (pt (5 * (ix x) + 2)) h (st_22, fl_22, ct_22) := e_24
        have hR_24 : xRel n sN kd pt he ct_24 fr to rl ru su L f_24 := hR_24
        have g_24 := ev_st (n, mn, lv, sl, kd, pt, he) d (pt (5 * (ix x) + 2)) h (st_22, fl_22, ct_22)
        rw [← e_24] at g_24
        have hst_24 : st_24 ≤ 120 := g_24.2 hst_22
        have hd_24 : 120 ≤ st_24 + d := Nat.le_trans hd_22 (Nat.add_le_add_right g_24.1 d)
        have hP : va_P D vwCl (xw F Y (nI b) mn (nI n) (nI sN) (nI st_24) fl_24 gv fs fb wo lv sl ru su L f_24) H := hP
        have hD : va_D (va_A (xw F Y (nI b) mn (nI n) (nI sN) (nI st) fl gv fs fb wo lv sl ru su L f) sz) (xw F Y (nI b) mn (nI n) (nI sN) (nI st_24) fl_24 gv fs fb wo lv sl ru su L f_24) := hD
        obtain ⟨la_z_25, fa_z_25⟩ := hR_24.cell hk ra
        obtain ⟨p_z_25, e_z_25⟩ : ∃ q : Nat, (xw F Y (nI b) mn (nI n) (nI sN) (nI st_24) fl_24 gv fs fb wo lv sl ru su L f_24)[q]? = some (ar_1, ruE kd pt he ct_24 (ix x)) := pl_at la_z_25 fa_z_25
        exact wrL ((st_24, fl_24, ct_24), f_24) hx hb hr hlk dX2_valueOf_219 hP hD hS ⟨ev_9 hs k_16_9 e_22 (by rw [if_neg c_201]) e_24, hR_24⟩
      · have c_201 := lc_len c_201
        refine lv_aload_n hx hb dX2_valueOf_204 rfl (lv_at hl 0 rfl) ?_
        refine va_getN (D := D) (ci := 0) (v := .int (pt (5 * (ix x) + 1))) (C := RX0) (T := TX0) (N := 8) (host := RX2) hx hb hts iw_X2_valueOf_X0 hown hK hP p_z_23 e_z_23 rfl 2 (by decide) (nf_120 hN) (fun _ h9 => h9) rfl dX2_valueOf_205 ?_
        refine lv_goto (tgt := 215) hx hb dX2_valueOf_208 (by decide) ?_
        refine lv_iload_n hx hb dX2_valueOf_215 rfl (lv_at hl 3 rfl) ?_
        refine WrL.callV (As := [.int (pt (5 * (ix x) + 1)), .int h]) (rest := []) (ih hR_22 hn40 hb8 hW hst_22 hd_22 (pt (5 * (ix x) + 1)) h) ⟨hx, hb, hml, hown, hts⟩ (cwV 2 hts gX2_valueOf_X2_valueOf rfl rfl rfl (by decide +kernel) ⟨by show 8 + d + 1 ≤ 8 + (d + 1); omega, by show 8 + (7 + 11) + 40 * (8 + d) ≤ 40 * (8 + (d + 1)); omega⟩) hP hD hS hA hK hN 0 2 rfl rfl rfl hl.1 rfl (Nat.le_of_ble_eq_true rfl) dX2_valueOf_216 ⟨Nat.le_of_ble_eq_true rfl, Nat.le_of_ble_eq_true rfl⟩ (fun r_26 ur_26 H locs hr_26 hP hD hS => ?_)
        obtain ⟨⟨st_26, fl_26, ct_26⟩, f_26⟩ := ur_26
        obtain ⟨e_26, hR_26⟩ := hr_26
        have e_26 : (r_26, (st_26, fl_26, ct_26)) = ev (n, mn, lv, sl, kd, pt, he) d (pt (5 * (ix x) + 1)) h (st_22, fl_22, ct_22) := e_26
        have hR_26 : xRel n sN kd pt he ct_26 fr to rl ru su L f_26 := hR_26
        have g_26 := ev_st (n, mn, lv, sl, kd, pt, he) d (pt (5 * (ix x) + 1)) h (st_22, fl_22, ct_22)
        rw [← e_26] at g_26
        have hst_26 : st_26 ≤ 120 := g_26.2 hst_22
        have hd_26 : 120 ≤ st_26 + d := Nat.le_trans hd_22 (Nat.add_le_add_right g_26.1 d)
        have hP : va_P D vwCl (xw F Y (nI b) mn (nI n) (nI sN) (nI st_26) fl_26 gv fs fb wo lv sl ru su L f_26) H := hP
        have hD : va_D (va_A (xw F Y (nI b) mn (nI n) (nI sN) (nI st) fl gv fs fb wo lv sl ru su L f) sz) (xw F Y (nI b) mn (nI n) (nI sN) (nI st_26) fl_26 gv fs fb wo lv sl ru su L f_26) := hD
        obtain ⟨la_z_27, fa_z_27⟩ := hR_26.cell hk ra
        obtain ⟨p_z_27, e_z_27⟩ : ∃ q : Nat, (xw F Y (nI b) mn (nI n) (nI sN) (nI st_26) fl_26 gv fs fb wo lv sl ru su L f_26)[q]? = some (ar_1, ruE kd pt he ct_26 (ix x)) := pl_at la_z_27 fa_z_27
        exact wrL ((st_26, fl_26, ct_26), f_26) hx hb hr hlk dX2_valueOf_219 hP hD hS ⟨ev_9 hs k_16_9 e_22 (by rw [if_pos c_201]) e_26, hR_26⟩
    by_cases k_16_10 : (kd (ix x)) = 10
    · refine lv_tableIn (off := 204) (tgt := 220) hx hb dX2_valueOf_16 (by rw [k_16_10]; decide) (by rw [k_16_10]; decide) (by rw [k_16_10]; rfl) (by decide) ?_
      refine lv_aload_n hx hb dX2_valueOf_220 rfl (lv_at hl 1 rfl) ?_
      refine lv_aload_n hx hb dX2_valueOf_221 rfl (lv_at hl 0 rfl) ?_
      refine va_getN (D := D) (ci := 0) (v := .int (pt (5 * (ix x)))) (C := RX0) (T := TX0) (N := 8) (host := RX2) hx hb hts iw_X2_valueOf_X0 hown hK hP p_z_2 e_z_2 rfl 1 (by decide) (nf_117 hN) (fun _ h9 => h9) rfl dX2_valueOf_222 ?_
      refine lv_iload_n hx hb dX2_valueOf_225 rfl (lv_at hl 3 rfl) ?_
      refine lv_aload_n hx hb dX2_valueOf_226 rfl (lv_at hl 0 rfl) ?_
      refine va_getN (D := D) (ci := 0) (v := .int (pt (5 * (ix x) + 1))) (C := RX0) (T := TX0) (N := 8) (host := RX2) hx hb hts iw_X2_valueOf_X0 hown hK hP p_z_2 e_z_2 rfl 2 (by decide) (nf_120 hN) (fun _ h9 => h9) rfl dX2_valueOf_227 ?_
      refine lv_iadd hx hb dX2_valueOf_230 ?_
      refine WrL.callV (As := [.int (pt (5 * (ix x))), .int (h + (pt (5 * (ix x) + 1)))]) (rest := []) (ih hR hn40 hb8 hW hst1 hd1 (pt (5 * (ix x))) (h + (pt (5 * (ix x) + 1)))) ⟨hx, hb, hml, hown, hts⟩ (cwV 2 hts gX2_valueOf_X2_valueOf rfl rfl rfl (by decide +kernel) ⟨by show 8 + d + 1 ≤ 8 + (d + 1); omega, by show 8 + (7 + 11) + 40 * (8 + d) ≤ 40 * (8 + (d + 1)); omega⟩) hP hD hS hA hK hN 0 2 rfl rfl rfl hl.1 rfl (Nat.le_of_ble_eq_true rfl) dX2_valueOf_231 ⟨Nat.le_of_ble_eq_true rfl, Nat.le_of_ble_eq_true rfl⟩ (fun r_28 ur_28 H locs hr_28 hP hD hS => ?_)
      obtain ⟨⟨st_28, fl_28, ct_28⟩, f_28⟩ := ur_28
      obtain ⟨e_28, hR_28⟩ := hr_28
      have e_28 : (r_28, (st_28, fl_28, ct_28)) = ev (n, mn, lv, sl, kd, pt, he) d (pt (5 * (ix x))) (h + (pt (5 * (ix x) + 1))) (st1, fl1, ct) := e_28
      have hR_28 : xRel n sN kd pt he ct_28 fr to rl ru su L f_28 := hR_28
      have g_28 := ev_st (n, mn, lv, sl, kd, pt, he) d (pt (5 * (ix x))) (h + (pt (5 * (ix x) + 1))) (st1, fl1, ct)
      rw [← e_28] at g_28
      have hst_28 : st_28 ≤ 120 := g_28.2 hst1
      have hd_28 : 120 ≤ st_28 + d := Nat.le_trans hd1 (Nat.add_le_add_right g_28.1 d)
      have hP : va_P D vwCl (xw F Y (nI b) mn (nI n) (nI sN) (nI st_28) fl_28 gv fs fb wo lv sl ru su L f_28) H := hP
      have hD : va_D (va_A (xw F Y (nI b) mn (nI n) (nI sN) (nI st) fl gv fs fb wo lv sl ru su L f) sz) (xw F Y (nI b) mn (nI n) (nI sN) (nI st_28) fl_28 gv fs fb wo lv sl ru su L f_28) := hD
      obtain ⟨la_z_29, fa_z_29⟩ := hR_28.cell hk ra
      obtain ⟨p_z_29, e_z_29⟩ : ∃ q : Nat, (xw F Y (nI b) mn (nI n) (nI sN) (nI st_28) fl_28 gv fs fb wo lv sl ru su L f_28)[q]? = some (ar_1, ruE kd pt he ct_28 (ix x)) := pl_at la_z_29 fa_z_29
      exact wrL ((st_28, fl_28, ct_28), f_28) hx hb hr hlk dX2_valueOf_234 hP hD hS ⟨ev_10 hs k_16_10 e_28, hR_28⟩
    by_cases k_16_11 : (kd (ix x)) = 11
    · refine lv_tableIn (off := 219) (tgt := 235) hx hb dX2_valueOf_16 (by rw [k_16_11]; decide) (by rw [k_16_11]; decide) (by rw [k_16_11]; rfl) (by decide) ?_
      refine lv_aload_n hx hb dX2_valueOf_235 rfl (lv_at hl 1 rfl) ?_
      refine lv_aload_n hx hb dX2_valueOf_236 rfl (lv_at hl 0 rfl) ?_
      refine va_getN (D := D) (ci := 0) (v := .int (pt (5 * (ix x)))) (C := RX0) (T := TX0) (N := 8) (host := RX2) hx hb hts iw_X2_valueOf_X0 hown hK hP p_z_2 e_z_2 rfl 1 (by decide) (nf_117 hN) (fun _ h9 => h9) rfl dX2_valueOf_237 ?_
      refine lv_iload_n hx hb dX2_valueOf_240 rfl (lv_at hl 3 rfl) ?_
      refine WrL.callV (As := [.int (pt (5 * (ix x))), .int h]) (rest := []) (ih hR hn40 hb8 hW hst1 hd1 (pt (5 * (ix x))) h) ⟨hx, hb, hml, hown, hts⟩ (cwV 2 hts gX2_valueOf_X2_valueOf rfl rfl rfl (by decide +kernel) ⟨by show 8 + d + 1 ≤ 8 + (d + 1); omega, by show 8 + (7 + 11) + 40 * (8 + d) ≤ 40 * (8 + (d + 1)); omega⟩) hP hD hS hA hK hN 0 2 rfl rfl rfl hl.1 rfl (Nat.le_of_ble_eq_true rfl) dX2_valueOf_241 ⟨Nat.le_of_ble_eq_true rfl, Nat.le_of_ble_eq_true rfl⟩ (fun r_30 ur_30 H locs hr_30 hP hD hS => ?_)
      obtain ⟨⟨st_30, fl_30, ct_30⟩, f_30⟩ := ur_30
      obtain ⟨e_30, hR_30⟩ := hr_30
      have e_30 : (r_30, (st_30, fl_30, ct_30)) = ev (n, mn, lv, sl, kd, pt, he) d (pt (5 * (ix x))) h (st1, fl1, ct) := e_30
      have hR_30 : xRel n sN kd pt he ct_30 fr to rl ru su L f_30 := hR_30
      have g_30 := ev_st (n, mn, lv, sl, kd, pt, he) d (pt (5 * (ix x))) h (st1, fl1, ct)
      rw [← e_30] at g_30
      have hst_30 : st_30 ≤ 120 := g_30.2 hst1
      have hd_30 : 120 ≤ st_30 + d := Nat.le_trans hd1 (Nat.add_le_add_right g_30.1 d)
      have hP : va_P D vwCl (xw F Y (nI b) mn (nI n) (nI sN) (nI st_30) fl_30 gv fs fb wo lv sl ru su L f_30) H := hP
      have hD : va_D (va_A (xw F Y (nI b) mn (nI n) (nI sN) (nI st) fl gv fs fb wo lv sl ru su L f) sz) (xw F Y (nI b) mn (nI n) (nI sN) (nI st_30) fl_30 gv fs fb wo lv sl ru su L f_30) := hD
      obtain ⟨la_z_31, fa_z_31⟩ := hR_30.cell hk ra
      obtain ⟨p_z_31, e_z_31⟩ : ∃ q : Nat, (xw F Y (nI b) mn (nI n) (nI sN) (nI st_30) fl_30 gv fs fb wo lv sl ru su L f_30)[q]? = some (ar_1, ruE kd pt he ct_30 (ix x)) := pl_at la_z_31 fa_z_31
      refine lv_aload_n hx hb dX2_valueOf_244 rfl (lv_at hl 0 rfl) ?_
      refine RoL.callS (As := [.long r_30, .ref ar_1]) (rest := []) (c_X2_banded (sN := sN) la_z_31 fa_z_31 r_30) ⟨hx, hb, hml, hown, hts⟩ (va_cwS 2 hts gX2_valueOf_X2_banded rfl rfl rfl (by decide +kernel) ⟨by show 0 + 1 ≤ 8 + (d + 1); omega, by show 8 + (3 + 11) + 40 * 0 ≤ 40 * (8 + (d + 1)); omega⟩) hP hK hN rfl hl.1 rfl (Nat.le_of_ble_eq_true rfl) dX2_valueOf_245 ⟨Nat.le_of_ble_eq_true rfl, Nat.le_of_ble_eq_true rfl⟩ (fun r_32 hr_32 => ?_)
      exact wrL ((st_30, fl_30, ct_30), f_30) hx hb hr hlk dX2_valueOf_248 hP hD hS ⟨by rw [hr_32]; exact ev_11 hs k_16_11 e_30, hR_30⟩
    by_cases k_16_13 : (kd (ix x)) = 13
    · refine lv_tableIn (off := 233) (tgt := 249) hx hb dX2_valueOf_16 (by rw [k_16_13]; decide) (by rw [k_16_13]; decide) (by rw [k_16_13]; rfl) (by decide) ?_
      refine lv_aload_n hx hb dX2_valueOf_249 rfl (lv_at hl 0 rfl) ?_
      refine lv_dup hx hb dX2_valueOf_250 rfl ?_
      refine va_getN (D := D) (ci := 0) (v := .int (ct (ix x))) (C := RX0) (T := TX0) (N := 8) (host := RX2) hx hb hts iw_X2_valueOf_X0 hown hK hP p_z_2 e_z_2 rfl 7 (by decide) (nf_104 hN) (fun _ h9 => h9) rfl dX2_valueOf_251 ?_
      refine lv_iconst (v := 1) hx hb dX2_valueOf_254 (by decide) ?_
      refine lv_iadd hx hb dX2_valueOf_255 ?_
      have hset : (xw F Y (nI b) mn (nI n) (nI sN) (nI st1) fl1 gv fs fb wo lv sl ru su L f).set p_z_2 (ar_1, .inr (0, [.int (kd (ix x)), .int (pt (5 * ix x)), .int (pt (5 * ix x + 1)), .int (pt (5 * ix x + 2)), .int (pt (5 * ix x + 3)), .int (pt (5 * ix x + 4)), .long (he (ix x)), .int ((ct (ix x)) + 1)])) = xw F Y (nI b) mn (nI n) (nI sN) (nI st1) fl1 gv fs fb wo lv sl ru su L (va_up f ar_1 (.inr (0, [.int (kd (ix x)), .int (pt (5 * ix x)), .int (pt (5 * ix x + 1)), .int (pt (5 * ix x + 2)), .int (pt (5 * ix x + 3)), .int (pt (5 * ix x + 4)), .long (he (ix x)), .int ((ct (ix x)) + 1)]))) := va_pl_set hD la_z_2 (by rw [fa_z_2]; exact e_z_2)
      refine va_putN (D := D) (ci := 0) (v := .int ((ct (ix x)) + 1)) (ty := .int) (C := RX0) (T := TX0) (N := 8) (host := RX2) hx hb hts iw_X2_valueOf_X0 tyX0 tyX0_ok nmX0 hown hK hP hD hS p_z_2 e_z_2 rfl 7 (by decide) (nf_104 hN) (fun _ h9 => h9) rfl (by decide +kernel) rfl rfl (Nat.le_of_ble_eq_true rfl) dX2_valueOf_256 (fun H locs hP hD hS => ?_)
      have hP : va_P D vwCl (xw F Y (nI b) mn (nI n) (nI sN) (nI st1) fl1 gv fs fb wo lv sl ru su L (va_up f ar_1 (.inr (0, [.int (kd (ix x)), .int (pt (5 * ix x)), .int (pt (5 * ix x + 1)), .int (pt (5 * ix x + 2)), .int (pt (5 * ix x + 3)), .int (pt (5 * ix x + 4)), .long (he (ix x)), .int ((ct (ix x)) + 1)])))) H := (congrArg (fun w => va_P D vwCl w H) hset).mp hP
      have hD : va_D (va_A (xw F Y (nI b) mn (nI n) (nI sN) (nI st) fl gv fs fb wo lv sl ru su L f) sz) (xw F Y (nI b) mn (nI n) (nI sN) (nI st1) fl1 gv fs fb wo lv sl ru su L (va_up f ar_1 (.inr (0, [.int (kd (ix x)), .int (pt (5 * ix x)), .int (pt (5 * ix x + 1)), .int (pt (5 * ix x + 2)), .int (pt (5 * ix x + 3)), .int (pt (5 * ix x + 4)), .long (he (ix x)), .int ((ct (ix x)) + 1)])))) := (congrArg (fun w => va_D _ w) hset).mp hD
      have hRt := hR.tick hk ra ((ct (ix x)) + 1)
      obtain ⟨la_z_33, fa_z_33⟩ := hRt.cell hk ra
      obtain ⟨p_z_33, e_z_33⟩ : ∃ q : Nat, (xw F Y (nI b) mn (nI n) (nI sN) (nI st1) fl1 gv fs fb wo lv sl ru su L (va_up f ar_1 (.inr (0, [.int (kd (ix x)), .int (pt (5 * ix x)), .int (pt (5 * ix x + 1)), .int (pt (5 * ix x + 2)), .int (pt (5 * ix x + 3)), .int (pt (5 * ix x + 4)), .long (he (ix x)), .int ((ct (ix x)) + 1)]))))[q]? = some (ar_1, ruE kd pt he (upd ct (ix x) ((ct (ix x)) + 1)) (ix x)) := pl_at la_z_33 fa_z_33
      refine lv_aload_n hx hb dX2_valueOf_259 rfl (lv_at hl 1 rfl) ?_
      refine lv_aload_n hx hb dX2_valueOf_260 rfl (lv_at hl 0 rfl) ?_
      refine va_getN (D := D) (ci := 0) (v := .int (pt (5 * (ix x)))) (C := RX0) (T := TX0) (N := 8) (host := RX2) hx hb hts iw_X2_valueOf_X0 hown hK hP p_z_33 e_z_33 rfl 1 (by decide) (nf_117 hN) (fun _ h9 => h9) rfl dX2_valueOf_261 ?_
      refine lv_iload_n hx hb dX2_valueOf_264 rfl (lv_at hl 3 rfl) ?_
      refine WrL.callV (As := [.int (pt (5 * (ix x))), .int h]) (rest := []) (ih hRt hn40 hb8 hW hst1 hd1 (pt (5 * (ix x))) h) ⟨hx, hb, hml, hown, hts⟩ (cwV 2 hts gX2_valueOf_X2_valueOf rfl rfl rfl (by decide +kernel) ⟨by show 8 + d + 1 ≤ 8 + (d + 1); omega, by show 8 + (7 + 11) + 40 * (8 + d) ≤ 40 * (8 + (d + 1)); omega⟩) hP hD hS hA hK hN 0 2 rfl rfl rfl hl.1 rfl (Nat.le_of_ble_eq_true rfl) dX2_valueOf_265 ⟨Nat.le_of_ble_eq_true rfl, Nat.le_of_ble_eq_true rfl⟩ (fun r_34 ur_34 H locs hr_34 hP hD hS => ?_)
      obtain ⟨⟨st_34, fl_34, ct_34⟩, f_34⟩ := ur_34
      obtain ⟨e_34, hR_34⟩ := hr_34
      have e_34 : (r_34, (st_34, fl_34, ct_34)) = ev (n, mn, lv, sl, kd, pt, he) d (pt (5 * (ix x))) h (st1, fl1, upd ct (ix x) ((ct (ix x)) + 1)) := e_34
      have hR_34 : xRel n sN kd pt he ct_34 fr to rl ru su L f_34 := hR_34
      have g_34 := ev_st (n, mn, lv, sl, kd, pt, he) d (pt (5 * (ix x))) h (st1, fl1, upd ct (ix x) ((ct (ix x)) + 1))
      rw [← e_34] at g_34
      have hst_34 : st_34 ≤ 120 := g_34.2 hst1
      have hd_34 : 120 ≤ st_34 + d := Nat.le_trans hd1 (Nat.add_le_add_right g_34.1 d)
      have hP : va_P D vwCl (xw F Y (nI b) mn (nI n) (nI sN) (nI st_34) fl_34 gv fs fb wo lv sl ru su L f_34) H := hP
      have hD : va_D (va_A (xw F Y (nI b) mn (nI n) (nI sN) (nI st) fl gv fs fb wo lv sl ru su L f) sz) (xw F Y (nI b) mn (nI n) (nI sN) (nI st_34) fl_34 gv fs fb wo lv sl ru su L f_34) := hD
      obtain ⟨la_z_35, fa_z_35⟩ := hR_34.cell hk ra
      obtain ⟨p_z_35, e_z_35⟩ : ∃ q : Nat, (xw F Y (nI b) mn (nI n) (nI sN) (nI st_34) fl_34 gv fs fb wo lv sl ru su L f_34)[q]? = some (ar_1, ruE kd pt he ct_34 (ix x)) := pl_at la_z_35 fa_z_35
      exact wrL ((st_34, fl_34, ct_34), f_34) hx hb hr hlk dX2_valueOf_268 hP hD hS ⟨ev_13 hs k_16_13 e_34, hR_34⟩
    by_cases k_16_15 : (kd (ix x)) = 15
    · refine lv_tableIn (off := 253) (tgt := 269) hx hb dX2_valueOf_16 (by rw [k_16_15]; decide) (by rw [k_16_15]; decide) (by rw [k_16_15]; rfl) (by decide) ?_
      refine lv_aload_n hx hb dX2_valueOf_269 rfl (lv_at hl 1 rfl) ?_
      refine lv_aload_n hx hb dX2_valueOf_270 rfl (lv_at hl 1 rfl) ?_
      refine lv_aload_n hx hb dX2_valueOf_271 rfl (lv_at hl 0 rfl) ?_
      refine va_getN (D := D) (ci := 0) (v := .int (pt (5 * (ix x)))) (C := RX0) (T := TX0) (N := 8) (host := RX2) hx hb hts iw_X2_valueOf_X0 hown hK hP p_z_2 e_z_2 rfl 1 (by decide) (nf_117 hN) (fun _ h9 => h9) rfl dX2_valueOf_272 ?_
      refine RoI.callV (As := [.int (pt (5 * (ix x)))]) (rest := [.ref (F 0)]) (c_X2_ruleInSlot (pt (5 * (ix x)))) ⟨hx, hb, hml, hown, hts⟩ (cwV 1 hts gX2_valueOf_X2_ruleInSlot rfl rfl rfl (by decide +kernel) ⟨by show 1 + 1 ≤ 8 + (d + 1); omega, by show 8 + (2 + 11) + 40 * 1 ≤ 40 * (8 + (d + 1)); omega⟩) hP hK hN 0 2 rfl rfl rfl hl.1 rfl (Nat.le_of_ble_eq_true rfl) dX2_valueOf_275 ⟨Nat.le_of_ble_eq_true rfl, Nat.le_of_ble_eq_true rfl⟩ (fun r_36 hr_36 => ?_)
      refine lv_iload_n hx hb dX2_valueOf_278 rfl (lv_at hl 3 rfl) ?_
      refine WrL.callV (As := [.int r_36, .int h]) (rest := []) (ih hR hn40 hb8 hW hst1 hd1 r_36 h) ⟨hx, hb, hml, hown, hts⟩ (cwV 2 hts gX2_valueOf_X2_valueOf rfl rfl rfl (by decide +kernel) ⟨by show 8 + d + 1 ≤ 8 + (d + 1); omega, by show 8 + (7 + 11) + 40 * (8 + d) ≤ 40 * (8 + (d + 1)); omega⟩) hP hD hS hA hK hN 0 2 rfl rfl rfl hl.1 rfl (Nat.le_of_ble_eq_true rfl) dX2_valueOf_279 ⟨Nat.le_of_ble_eq_true rfl, Nat.le_of_ble_eq_true rfl⟩ (fun r_37 ur_37 H locs hr_37 hP hD hS => ?_)
      obtain ⟨⟨st_37, fl_37, ct_37⟩, f_37⟩ := ur_37
      obtain ⟨e_37, hR_37⟩ := hr_37
      have e_37 : (r_37, (st_37, fl_37, ct_37)) = ev (n, mn, lv, sl, kd, pt, he) d r_36 h (st1, fl1, ct) := e_37
      have hR_37 : xRel n sN kd pt he ct_37 fr to rl ru su L f_37 := hR_37
      have g_37 := ev_st (n, mn, lv, sl, kd, pt, he) d r_36 h (st1, fl1, ct)
      rw [← e_37] at g_37
      have hst_37 : st_37 ≤ 120 := g_37.2 hst1
      have hd_37 : 120 ≤ st_37 + d := Nat.le_trans hd1 (Nat.add_le_add_right g_37.1 d)
      have hP : va_P D vwCl (xw F Y (nI b) mn (nI n) (nI sN) (nI st_37) fl_37 gv fs fb wo lv sl ru su L f_37) H := hP
      have hD : va_D (va_A (xw F Y (nI b) mn (nI n) (nI sN) (nI st) fl gv fs fb wo lv sl ru su L f) sz) (xw F Y (nI b) mn (nI n) (nI sN) (nI st_37) fl_37 gv fs fb wo lv sl ru su L f_37) := hD
      obtain ⟨la_z_38, fa_z_38⟩ := hR_37.cell hk ra
      obtain ⟨p_z_38, e_z_38⟩ : ∃ q : Nat, (xw F Y (nI b) mn (nI n) (nI sN) (nI st_37) fl_37 gv fs fb wo lv sl ru su L f_37)[q]? = some (ar_1, ruE kd pt he ct_37 (ix x)) := pl_at la_z_38 fa_z_38
      exact wrL ((st_37, fl_37, ct_37), f_37) hx hb hr hlk dX2_valueOf_282 hP hD hS ⟨ev_15 hs k_16_15 (by rw [e_37, hr_36, sp_slot, if_pos (wf_15 (hW.1 _ hk) k_16_15)]), hR_37⟩
    by_cases k_16_16 : (kd (ix x)) = 16
    · refine lv_tableIn (off := 267) (tgt := 283) hx hb dX2_valueOf_16 (by rw [k_16_16]; decide) (by rw [k_16_16]; decide) (by rw [k_16_16]; rfl) (by decide) ?_
      refine lv_lconst (v := 0) hx hb dX2_valueOf_283 (by decide) ?_
      refine lv_lstore (lv' := [(4, .long 0), (3, .ref ar_1), (0, .ref (F 0)), (1, .int x), (2, .int h)]) hx hb dX2_valueOf_284 hl (by decide) rfl (fun ls hl => ?_)
      refine lv_aload_n hx hb dX2_valueOf_286 rfl (lv_at hl 1 rfl) ?_
      refine va_getN (D := D) (ci := 0) (v := .int (pt (5 * (ix x)))) (C := RX0) (T := TX0) (N := 8) (host := RX2) hx hb hts iw_X2_valueOf_X0 hown hK hP p_z_2 e_z_2 rfl 1 (by decide) (nf_117 hN) (fun _ h9 => h9) rfl dX2_valueOf_287 ?_
      refine lv_istore (lv' := [(6, .int (pt (5 * (ix x)))), (4, .long 0), (3, .ref ar_1), (0, .ref (F 0)), (1, .int x), (2, .int h)]) hx hb dX2_valueOf_290 hl (by decide) rfl (fun ls hl => ?_)
      obtain ⟨w1, w2, w3⟩ := wf_16 (hW.1 _ hk) k_16_16
      obtain ⟨ia, hia, eia⟩ := inB_of w1 (by decide)
      obtain ⟨ib, hib, eib⟩ := inB_of w2 (by decide)
      have hab : ia ≤ ib := by rw [eia, eib] at w3; exact (nI_leI (by omega) (by omega)).mp w3
      have loop : ∀ (c2 i2 : Nat) (acc : Int64) (st2 : Nat) (fl2 : Int32) (ct2 : Nat → Int32) (f2 : Nat → va_E) (H : Heap) (locs : List Loc) (ls : Array Slot), i2 + c2 = ib + 1 → st2 ≤ 120 → 120 ≤ st2 + d → xRel n sN kd pt he ct2 fr to rl ru su L f2 → evA (ev (n, mn, lv, sl, kd, pt, he) d) sl h c2 i2 acc (st2, fl2, ct2) = ev (n, mn, lv, sl, kd, pt, he) (d + 1) x h (st, fl, ct) → va_P D vwCl (xw F Y (nI b) mn (nI n) (nI sN) (nI st2) fl2 gv fs fb wo lv sl ru su L f2) H → va_D (va_A (xw F Y (nI b) mn (nI n) (nI sN) (nI st) fl gv fs fb wo lv sl ru su L f) sz) (xw F Y (nI b) mn (nI n) (nI sN) (nI st2) fl2 gv fs fb wo lv sl ru su L f2) → va_S (va_A (xw F Y (nI b) mn (nI n) (nI sN) (nI st) fl gv fs fb wo lv sl ru su L f) sz) s.heap H locs → lv_has ls 7 [(6, .int (nI i2)), (4, .long acc), (3, .ref ar_1), (0, .ref (F 0)), (1, .int x), (2, .int h)] → W p l e (rk (8 + (d + 1))) s m ([.ref (F 0), .int x, .int h] : List Value).toArray below meth c H locs 0 0 (MQ below (va_Ql (fun r u => (r, u.1) = ev (n, mn, lv, sl, kd, pt, he) (d + 1) x h (st, fl, ct) ∧ xRel n sN kd pt he u.1.2.2 fr to rl ru su L u.2) (wrB (σ := SS × (Nat → va_E)) D (xw F Y (nI b) mn (nI n) (nI sN) (nI st) fl gv fs fb wo lv sl ru su L f) (fun u => xw F Y (nI b) mn (nI n) (nI sN) (nI u.1.1) u.1.2.1 gv fs fb wo lv sl ru su L u.2) sz) (va_A (xw F Y (nI b) mn (nI n) (nI sN) (nI st) fl gv fs fb wo lv sl ru su L f) sz)) ([.ref (F 0), .int x, .int h] : List Value).toArray s 0 0 (va_A (xw F Y (nI b) mn (nI n) (nI sN) (nI st) fl gv fs fb wo lv sl ru su L f) sz)) (F0 m 292 ls []) := by
        intro c2
        induction c2 with
        | zero =>
          intro i2 acc st2 fl2 ct2 f2 H locs ls hic hst2 hd2 hR2 hev hP hD hS hl
          obtain ⟨la_z_39, fa_z_39⟩ := hR2.cell hk ra
          obtain ⟨p_z_39, e_z_39⟩ : ∃ q : Nat, (xw F Y (nI b) mn (nI n) (nI sN) (nI st2) fl2 gv fs fb wo lv sl ru su L f2)[q]? = some (ar_1, ruE kd pt he ct2 (ix x)) := pl_at la_z_39 fa_z_39
          refine lv_iload hx hb dX2_valueOf_292 (lv_at hl 0 rfl) ?_
          refine lv_aload_n hx hb dX2_valueOf_294 rfl (lv_at hl 2 rfl) ?_
          refine va_getN (D := D) (ci := 0) (v := .int (pt (5 * (ix x) + 1))) (C := RX0) (T := TX0) (N := 8) (host := RX2) hx hb hts iw_X2_valueOf_X0 hown hK hP p_z_39 e_z_39 rfl 2 (by decide) (nf_120 hN) (fun _ h9 => h9) rfl dX2_valueOf_295 ?_
          refine lv_icmp_gt (tgt := 330) hx hb dX2_valueOf_298 (by decide) (fun c_298 => ?_) (fun c_298 => ?_)
          · refine lv_lload hx hb dX2_valueOf_330 (lv_at hl 1 rfl) ?_
            exact wrL ((st2, fl2, ct2), f2) hx hb hr hlk dX2_valueOf_332 hP hD hS ⟨hev, hR2⟩
          · exact absurd (show nI i2 > pt (5 * ix x + 1) by rw [eib]; exact nI_lt (by omega) (by omega)) c_298
        | succ c2 ih2 =>
          intro i2 acc st2 fl2 ct2 f2 H locs ls hic hst2 hd2 hR2 hev hP hD hS hl
          obtain ⟨la_z_40, fa_z_40⟩ := hR2.cell hk ra
          obtain ⟨p_z_40, e_z_40⟩ : ∃ q : Nat, (xw F Y (nI b) mn (nI n) (nI sN) (nI st2) fl2 gv fs fb wo lv sl ru su L f2)[q]? = some (ar_1, ruE kd pt he ct2 (ix x)) := pl_at la_z_40 fa_z_40
          refine lv_iload hx hb dX2_valueOf_292 (lv_at hl 0 rfl) ?_
          refine lv_aload_n hx hb dX2_valueOf_294 rfl (lv_at hl 2 rfl) ?_
          refine va_getN (D := D) (ci := 0) (v := .int (pt (5 * (ix x) + 1))) (C := RX0) (T := TX0) (N := 8) (host := RX2) hx hb hts iw_X2_valueOf_X0 hown hK hP p_z_40 e_z_40 rfl 2 (by decide) (nf_120 hN) (fun _ h9 => h9) rfl dX2_valueOf_295 ?_
          refine lv_icmp_gt (tgt := 330) hx hb dX2_valueOf_298 (by decide) (fun c_298 => ?_) (fun c_298 => ?_)
          · exact absurd (show pt (5 * ix x + 1) < nI i2 from c_298) (by rw [eib]; exact nI_nlt (by omega) (by omega))
          · refine lv_iload hx hb dX2_valueOf_301 (lv_at hl 0 rfl) ?_
            refine lv_bipush (v := 8) hx hb dX2_valueOf_303 (by decide) ?_
            refine lv_icmp_ge (tgt := 330) hx hb dX2_valueOf_305 (by decide) (fun c_305 => ?_) (fun c_305 => ?_)
            · exact absurd (show (8 : Int32) ≤ nI i2 from c_305) (nI_ge (b := 8) (by omega) (by omega))
            · refine lv_lload hx hb dX2_valueOf_308 (lv_at hl 1 rfl) ?_
              refine lv_aload_n hx hb dX2_valueOf_310 rfl (lv_at hl 3 rfl) ?_
              refine lv_aload_n hx hb dX2_valueOf_311 rfl (lv_at hl 3 rfl) ?_
              refine lv_iload hx hb dX2_valueOf_312 (lv_at hl 0 rfl) ?_
              refine RoI.callV (As := [.int (nI i2)]) (rest := [.ref (F 0), .long acc]) (c_X2_ruleInSlot (nI i2)) ⟨hx, hb, hml, hown, hts⟩ (cwV 1 hts gX2_valueOf_X2_ruleInSlot rfl rfl rfl (by decide +kernel) ⟨by show 1 + 1 ≤ 8 + (d + 1); omega, by show 8 + (2 + 11) + 40 * 1 ≤ 40 * (8 + (d + 1)); omega⟩) hP hK hN 0 2 rfl rfl rfl hl.1 rfl (Nat.le_of_ble_eq_true rfl) dX2_valueOf_314 ⟨Nat.le_of_ble_eq_true rfl, Nat.le_of_ble_eq_true rfl⟩ (fun r_41 hr_41 => ?_)
              refine lv_iload_n hx hb dX2_valueOf_317 rfl (lv_at hl 5 rfl) ?_
              refine WrL.callV (As := [.int r_41, .int h]) (rest := [.long acc]) (ih hR2 hn40 hb8 hW hst2 hd2 r_41 h) ⟨hx, hb, hml, hown, hts⟩ (cwV 2 hts gX2_valueOf_X2_valueOf rfl rfl rfl (by decide +kernel) ⟨by show 8 + d + 1 ≤ 8 + (d + 1); omega, by show 8 + (7 + 11) + 40 * (8 + d) ≤ 40 * (8 + (d + 1)); omega⟩) hP hD hS hA hK hN 0 2 rfl rfl rfl hl.1 rfl (Nat.le_of_ble_eq_true rfl) dX2_valueOf_318 ⟨Nat.le_of_ble_eq_true rfl, Nat.le_of_ble_eq_true rfl⟩ (fun r_42 ur_42 H locs hr_42 hP hD hS => ?_)
              obtain ⟨⟨st_42, fl_42, ct_42⟩, f_42⟩ := ur_42
              obtain ⟨e_42, hR_42⟩ := hr_42
              have e_42 : (r_42, (st_42, fl_42, ct_42)) = ev (n, mn, lv, sl, kd, pt, he) d r_41 h (st2, fl2, ct2) := e_42
              have hR_42 : xRel n sN kd pt he ct_42 fr to rl ru su L f_42 := hR_42
              have g_42 := ev_st (n, mn, lv, sl, kd, pt, he) d r_41 h (st2, fl2, ct2)
              rw [← e_42] at g_42
              have hst_42 : st_42 ≤ 120 := g_42.2 hst2
              have hd_42 : 120 ≤ st_42 + d := Nat.le_trans hd2 (Nat.add_le_add_right g_42.1 d)
              have hP : va_P D vwCl (xw F Y (nI b) mn (nI n) (nI sN) (nI st_42) fl_42 gv fs fb wo lv sl ru su L f_42) H := hP
              have hD : va_D (va_A (xw F Y (nI b) mn (nI n) (nI sN) (nI st) fl gv fs fb wo lv sl ru su L f) sz) (xw F Y (nI b) mn (nI n) (nI sN) (nI st_42) fl_42 gv fs fb wo lv sl ru su L f_42) := hD
              obtain ⟨la_z_43, fa_z_43⟩ := hR_42.cell hk ra
              obtain ⟨p_z_43, e_z_43⟩ : ∃ q : Nat, (xw F Y (nI b) mn (nI n) (nI sN) (nI st_42) fl_42 gv fs fb wo lv sl ru su L f_42)[q]? = some (ar_1, ruE kd pt he ct_42 (ix x)) := pl_at la_z_43 fa_z_43
              refine lv_ladd hx hb dX2_valueOf_321 ?_
              refine lv_lstore (lv' := [(4, .long (acc + r_42)), (6, .int (nI i2)), (3, .ref ar_1), (0, .ref (F 0)), (1, .int x), (2, .int h)]) hx hb dX2_valueOf_322 hl (by decide) rfl (fun ls hl => ?_)
              refine lv_iinc (v := (nI i2) + 1) (lv' := [(6, .int ((nI i2) + 1)), (4, .long (acc + r_42)), (3, .ref ar_1), (0, .ref (F 0)), (1, .int x), (2, .int h)]) hx hb dX2_valueOf_324 hl (k := 1) rfl rfl (by decide) rfl (fun ls hl => ?_)
              refine lv_goto (tgt := 292) hx hb dX2_valueOf_327 (by decide) ?_
              refine ih2 (i2 + 1) (acc + r_42) st_42 fl_42 ct_42 f_42 _ _ _ (by omega) hst_42 hd_42 hR_42 ?_ hP hD hS (lv_sub (l' := [(6, .int (nI (i2 + 1))), (4, .long (acc + r_42)), (3, .ref ar_1), (0, .ref (F 0)), (1, .int x), (2, .int h)]) hl [0, 1, 2, 3, 4, 5] (by rw [← nI_1]; rfl))
              rw [← hev]
              have hsl : sl i2 = r_41 := by rw [hr_41, sp_slot, if_pos (by rw [inB_nI (by omega)]; exact decide_eq_true (by omega)), show ix (nI i2) = i2 from nI_clamp (by omega)]
              show _ = evA _ sl h c2 (i2 + 1) (acc + (ev (n, mn, lv, sl, kd, pt, he) d (sl i2) h (st2, fl2, ct2)).1) (ev (n, mn, lv, sl, kd, pt, he) d (sl i2) h (st2, fl2, ct2)).2
              rw [hsl, ← e_42]
      refine loop (ib + 1 - ia) ia 0 st1 fl1 ct f _ _ ls (by omega) hst1 hd1 hR ?_ hP hD hS (lv_sub (l' := [(6, .int (nI ia)), (4, .long 0), (3, .ref ar_1), (0, .ref (F 0)), (1, .int x), (2, .int h)]) hl [0, 1, 2, 3, 4, 5] (by rw [← eia]; rfl))
      have e16 := ev_16' (mn := mn) (lv := lv) (sl := sl) (pt := pt) (he := he) (h := h) (ct := ct) (d := d) hs k_16_16
      rw [show ix (pt (5 * ix x)) = ia by rw [eia]; exact nI_clamp (by omega), show ix (pt (5 * ix x + 1)) = ib by rw [eib]; exact nI_clamp (by omega)] at e16
      exact e16
    · have z_16 : ¬ (kd (ix x)).toInt = 4 ∧ ¬ (kd (ix x)).toInt = 5 ∧ ¬ (kd (ix x)).toInt = 6 ∧ ¬ (kd (ix x)).toInt = 7 ∧ ¬ (kd (ix x)).toInt = 8 ∧ ¬ (kd (ix x)).toInt = 9 ∧ ¬ (kd (ix x)).toInt = 10 ∧ ¬ (kd (ix x)).toInt = 11 ∧ ¬ (kd (ix x)).toInt = 13 ∧ ¬ (kd (ix x)).toInt = 15 ∧ ¬ (kd (ix x)).toInt = 16 := by
        exact ⟨lv_neT k_16_4 (by decide), lv_neT k_16_5 (by decide), lv_neT k_16_6 (by decide), lv_neT k_16_7 (by decide), lv_neT k_16_8 (by decide), lv_neT k_16_9 (by decide), lv_neT k_16_10 (by decide), lv_neT k_16_11 (by decide), lv_neT k_16_13 (by decide), lv_neT k_16_15 (by decide), lv_neT k_16_16 (by decide)⟩
      by_cases zo_16 : (kd (ix x)).toInt < 4 ∨ 16 < (kd (ix x)).toInt
      · refine lv_tableOut (tgt := 333) hx hb dX2_valueOf_16 zo_16 (by decide) ?_
        refine lv_aload_n hx hb dX2_valueOf_333 rfl (lv_at hl 1 rfl) ?_
        refine lv_aload_n hx hb dX2_valueOf_334 rfl (lv_at hl 0 rfl) ?_
        refine lv_iload_n hx hb dX2_valueOf_335 rfl (lv_at hl 3 rfl) ?_
        refine RoL.callV (As := [.ref ar_1, .int h]) (rest := []) (c_X2_valueOfLeaf hR hn40 hb8 la_z_2 fa_z_2 (hW.1 _ hk) h) ⟨hx, hb, hml, hown, hts⟩ (cwV 2 hts gX2_valueOf_X2_valueOfLeaf rfl rfl rfl (by decide +kernel) ⟨by show 3 + 1 ≤ 8 + (d + 1); omega, by show 8 + (3 + 11) + 40 * 3 ≤ 40 * (8 + (d + 1)); omega⟩) hP hK hN 0 2 rfl rfl rfl hl.1 rfl (Nat.le_of_ble_eq_true rfl) dX2_valueOf_336 ⟨Nat.le_of_ble_eq_true rfl, Nat.le_of_ble_eq_true rfl⟩ (fun r_44 hr_44 => ?_)
        exact wrL ((st1, fl1, ct), f) hx hb hr hlk dX2_valueOf_339 hP hD hS ⟨by rw [hr_44]; exact ev_lf hs k_16_4 k_16_5 k_16_6 k_16_7 k_16_8 k_16_9 k_16_10 k_16_11 k_16_13 k_16_15 k_16_16, hR⟩
      · have zi_16 : (kd (ix x)).toInt = 12 ∨ (kd (ix x)).toInt = 14 := by omega
        refine lv_tableIn (off := 317) (tgt := 333) hx hb dX2_valueOf_16 (by omega) (by omega) (by rcases zi_16 with z | z <;> rw [z] <;> rfl) (by decide) ?_
        refine lv_aload_n hx hb dX2_valueOf_333 rfl (lv_at hl 1 rfl) ?_
        refine lv_aload_n hx hb dX2_valueOf_334 rfl (lv_at hl 0 rfl) ?_
        refine lv_iload_n hx hb dX2_valueOf_335 rfl (lv_at hl 3 rfl) ?_
        refine RoL.callV (As := [.ref ar_1, .int h]) (rest := []) (c_X2_valueOfLeaf hR hn40 hb8 la_z_2 fa_z_2 (hW.1 _ hk) h) ⟨hx, hb, hml, hown, hts⟩ (cwV 2 hts gX2_valueOf_X2_valueOfLeaf rfl rfl rfl (by decide +kernel) ⟨by show 3 + 1 ≤ 8 + (d + 1); omega, by show 8 + (3 + 11) + 40 * 3 ≤ 40 * (8 + (d + 1)); omega⟩) hP hK hN 0 2 rfl rfl rfl hl.1 rfl (Nat.le_of_ble_eq_true rfl) dX2_valueOf_336 ⟨Nat.le_of_ble_eq_true rfl, Nat.le_of_ble_eq_true rfl⟩ (fun r_45 hr_45 => ?_)
        exact wrL ((st1, fl1, ct), f) hx hb hr hlk dX2_valueOf_339 hP hD hS ⟨by rw [hr_45]; exact ev_lf hs k_16_4 k_16_5 k_16_6 k_16_7 k_16_8 k_16_9 k_16_10 k_16_11 k_16_13 k_16_15 k_16_16, hR⟩
theorem c_X2_valueOf : ∀ d, VO d
  | 0 => c_X2_valueOf_0
  | d + 1 => c_X2_valueOf_s (c_X2_valueOf d)