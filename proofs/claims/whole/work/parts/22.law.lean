/-! THE CLAIM OUT OF ONE WALK OF THE LAW'S BODY. Your part is whole_start (and what it stands on); all else here is the same for every law, but numbers. -/
def R_law : String := "SluiceRulesLaw"
def lw_P (b : Addr) (xs : List Int32) (args : Array Value) (s : State) : Prop := args = #[.ref b] ∧ s.IntsAt b xs ∧ xs.length ≤ 3584 ∧ (Jvm.Cond.and given_1 narrow_1).before args s = true
def lw_Q (_ : Array Value) (s : State) (o : Outcome) (t : State) : Prop := o = .returned (some (.int 1)) ∧ Framed s o t [] 600000 7302250
def lw_Z (below : List Frame) (a : Array Value) (s : State) : State → Prop := fun t => ∃ o, t.status = .running ∧ Ended t below o ∧ lw_Q a s o t
/-- the law's own end, with 1 on the stack, nothing written that was there before, its room as the claim has it -/
theorem lw_ret {p : Program} {l : Launch} {e : Env} {s : State} {m : MethodId} {below : List Frame} {meth : Method} {c : Code} {b : Nat} (hx : p.tables.exec = Jvm.exec) (hb : c.code = code) (hr : meth.sig.returnType = ret) (hlocks : meth.locks = false) {pc : Nat} {H : Heap} {ls : Array Slot} (hdg : decode code pc = .ok (.ireturn, 1)) : W p l e room_1 s m #[Value.ref b] below meth c H [] 600000 7302250 (lw_Z below #[Value.ref b] s) (F0 m pc ls [.int 1]) := by
  intro T hT X
  obtain ⟨fs, hret, hrun, hended, hW, hframe⟩ := X.leave (v := some (.int 1)) (hlocks := hlocks) (fun h => by rw [hr] at h; cases h)
  have hmeth' : T.vm.method? m = some meth := X.method'
  refine ⟨T.setFrames fs, ?_, .returned (some (.int 1)), hrun, hended, rfl, ⟨_, rfl⟩, hW, hframe⟩
  jvm_step X.here [X.here.top, hx, hb, hdg, hmeth', hr, ret, narrow_b1]
  (try refine ⟨rfl, ?_⟩); (try refine ⟨rfl, ?_⟩)
  first | (intro acts; rw [hret _ acts rfl rfl rfl]) | rw [hret _ _ rfl rfl rfl]
  exact Steps.refl _
/-- what holds at the law's entry: the machine, the code, the tables' words (any of lw_tbl by 'hts w (by decide +kernel)'), the script of L ints xs at the cell b, what the Statement gives of the start (any of its parts by flat_of_before) -/
def lw_At (p : Program) (s : State) (m : MethodId) (meth : Method) (c : Code) (b L : Nat) (xs : Nat → Int32) : Prop :=
  p.tables.exec = Jvm.exec ∧ c.code = code ∧ meth.sig.returnType = ret ∧ c.maxLocals = 4 ∧ s.vm.findClass R_law = some m.cls ∧ (∀ w ∈ lw_tbl, w.before #[Value.ref b] s = true) ∧ va_X b L xs s s.heap ∧ b < s.heap.size ∧ meth.locks = false ∧ (Jvm.Cond.and given_1 narrow_1).before #[Value.ref b] s = true

set_option maxRecDepth 100000 in
set_option maxHeartbeats 4000000 in
/-- THE LAW'S LOOP: at its head the class and the reference hold the same numbers -/
theorem law_loop {p : Program} {l : Launch} {e : Env} {s : State} {m : MethodId} {below : List Frame} {meth : Method} {c : Code} {D : va_G} {F G : Nat → Nat} {Y Z : Nat → ClassId} {bq L : Nat} {xs : Nat → Int32} (hL : L ≤ 3584) (C0 : lw_At p s m meth c bq L xs) (hKX : va_K D vwCl (xty Y) s) (hKM : va_K D vwCl (mty Z) s) :
    ∀ (nq iq : Nat) (b n sN st : Nat) (mn : Int32) (gv : Int64) (ts tw tm : Int32) (lv sl kd pt : Nat → Int32) (he : Nat → Int64) (ct fr to rl : Nat → Int32) (flx : Int32) (ru su : Nat → Option Nat) (Lp : List Nat) (f : Nat → va_E) (flm : Int32) (va : Int64) (tp : Int32) (pi ph ps : Nat → Int32) (pm : Nat → Int64) (H : Heap) (locs : List Loc) (ls : Array Slot), iq ≤ L + 7 → L + 1 ≤ iq + 7 * nq → LInv b n sN lv sl kd pt fr to rl → xRel n sN kd pt he ct fr to rl ru su Lp f → va_P D vwCl (xw F Y (nI b) mn (nI n) (nI sN) (nI st) flx gv ts tw tm lv sl ru su Lp f ++ mw G Z (nI b) mn (nI n) (nI sN) (nI st) flm va tp gv ts tw tm lv sl kd pt he ct fr to rl pi ph ps pm) H → va_D (fun q : Nat => s.heap.size ≤ q) (xw F Y (nI b) mn (nI n) (nI sN) (nI st) flx gv ts tw tm lv sl ru su Lp f ++ mw G Z (nI b) mn (nI n) (nI sN) (nI st) flm va tp gv ts tw tm lv sl kd pt he ct fr to rl pi ph ps pm) → va_S (fun q : Nat => s.heap.size ≤ q) s.heap H locs → lv_has ls 4 [(0, .ref bq), (1, .ref (F 0)), (2, .ref (G 0)), (3, .int (nI iq))] → W p l e room_1 s m #[Value.ref bq] below meth c H locs (20 + iq) (1000 + 8 * iq) (lw_Z below #[Value.ref bq] s) (F0 m 18 ls []) := by
  obtain ⟨hx, hb, hr, hml, hown, hts, hX, hbl, hlocks, hgv⟩ := C0
  have hN := nst_of hts
  have hts : ∀ w ∈ wsL_law, w.before #[Value.ref bq] s = true := fun w h => hts w (wsL_law_in w h)
  have hown : s.vm.findClass RL = some m.cls := hown
  have hA : ∀ q : Nat, s.heap.size ≤ q → (fun q : Nat => s.heap.size ≤ q) q := fun _ h => h
  have hbA : ¬ (fun q : Nat => s.heap.size ≤ q) bq := Nat.not_le.mpr hbl
  intro nq
  induction nq with
  | zero =>
    intro iq b n sN st mn gv ts tw tm lv sl kd pt he ct fr to rl flx ru su Lp f flm va tp pi ph ps pm H locs ls hi hin hI hR hP hD hS hl
    refine lv_iload_n hx hb dL_law_18 rfl (lv_at hl 3 rfl) ?_
    refine lv_aload_n hx hb dL_law_19 rfl (lv_at hl 0 rfl) ?_
    refine va_slen hx hb hX hbl hbA hS dL_law_20 ?_
    refine lv_bipush (v := 7) hx hb dL_law_21 (by decide) ?_
    refine lv_isub hx hb dL_law_23 ?_
    refine lv_icmp_gt (tgt := 508) hx hb dL_law_24 (by decide) (fun c_24 => ?_) (fun c_24 => ?_)
    · refine lv_iconst (v := 1) hx hb dL_law_508 (by decide) ?_
      refine va_forget (fun q hq => hS.2.2 q hq) ?_
      refine W.widen (k := 600000) (n := 7302250) (by omega) (by omega) ?_
      exact lw_ret hx hb hr hlocks dL_law_509
    · exact absurd (sc_go hL hi c_24) (by omega)
  | succ nq ih =>
    intro iq b n sN st mn gv ts tw tm lv sl kd pt he ct fr to rl flx ru su Lp f flm va tp pi ph ps pm H locs ls hi hin hI hR hP hD hS hl
    refine lv_iload_n hx hb dL_law_18 rfl (lv_at hl 3 rfl) ?_
    refine lv_aload_n hx hb dL_law_19 rfl (lv_at hl 0 rfl) ?_
    refine va_slen hx hb hX hbl hbA hS dL_law_20 ?_
    refine lv_bipush (v := 7) hx hb dL_law_21 (by decide) ?_
    refine lv_isub hx hb dL_law_23 ?_
    refine lv_icmp_gt (tgt := 508) hx hb dL_law_24 (by decide) (fun c_24 => ?_) (fun c_24 => ?_)
    · refine lv_iconst (v := 1) hx hb dL_law_508 (by decide) ?_
      refine va_forget (fun q hq => hS.2.2 q hq) ?_
      refine W.widen (k := 600000) (n := 7302250) (by omega) (by omega) ?_
      exact lw_ret hx hb hr hlocks dL_law_509
    · have hgo := sc_go hL hi c_24
      refine lv_aload_n hx hb dL_law_27 rfl (lv_at hl 0 rfl) ?_
      refine lv_iload_n hx hb dL_law_28 rfl (lv_at hl 3 rfl) ?_
      refine va_sld hx hb hX hbl hbA hS (vp_in_nI (by omega) (by omega)) dL_law_29 ?_
      refine lv_bipush (v := 15) hx hb dL_law_30 (by decide) ?_
      refine lv_iand hx hb dL_law_32 ?_
      by_cases k_33_0 : ((xs (nI iq).toNatClampNeg) &&& 15) = 0
      · refine lv_tableIn (off := 67) (tgt := 100) hx hb dL_law_33 (by rw [k_33_0]; decide) (by rw [k_33_0]; decide) (by rw [k_33_0]; rfl) (by decide) ?_
        refine lv_aload_n hx hb dL_law_100 rfl (lv_at hl 1 rfl) ?_
        refine lv_aload_n hx hb dL_law_101 rfl (lv_at hl 0 rfl) ?_
        refine lv_iload_n hx hb dL_law_102 rfl (lv_at hl 3 rfl) ?_
        refine lv_iconst (v := 1) hx hb dL_law_103 (by decide) ?_
        refine lv_iadd hx hb dL_law_104 ?_
        refine va_sld hx hb hX hbl hbA hS (in_sc 1 (by omega) hL) dL_law_105 ?_
        refine WrI.callL (As := [.int (xs (nI iq + 1).toNatClampNeg)]) (rest := []) (c_X2_basin hI.1 (xs (nI iq + 1).toNatClampNeg)) ⟨hx, hb, hml, hown, hts⟩ (cwV 1 hts gL_law_X2_basin rfl rfl rfl (by decide +kernel) ⟨Nat.le_of_ble_eq_true rfl, Nat.le_of_ble_eq_true rfl⟩) hP hD hS hA hKX hN 0 2 rfl rfl rfl hl.1 rfl (Nat.le_of_ble_eq_true rfl) dL_law_106 ⟨by show 20 + iq + 0 ≤ 600000; omega, by show 1000 + 8 * iq + 0 ≤ 7302250; omega⟩ (fun r1 u1 H locs e1 hP hD hS => ?_)
        have hP : va_P D vwCl (xw F Y (nI u1.1) mn (nI n) (nI sN) (nI st) flx gv ts tw tm u1.2 sl ru su Lp f ++ mw G Z (nI b) mn (nI n) (nI sN) (nI st) flm va tp gv ts tw tm lv sl kd pt he ct fr to rl pi ph ps pm) H := hP
        have hD : va_D (fun q : Nat => s.heap.size ≤ q) (xw F Y (nI u1.1) mn (nI n) (nI sN) (nI st) flx gv ts tw tm u1.2 sl ru su Lp f ++ mw G Z (nI b) mn (nI n) (nI sN) (nI st) flm va tp gv ts tw tm lv sl kd pt he ct fr to rl pi ph ps pm) := hD
        refine lv_aload_n hx hb dL_law_109 rfl (lv_at hl 2 rfl) ?_
        refine lv_aload_n hx hb dL_law_110 rfl (lv_at hl 0 rfl) ?_
        refine lv_iload_n hx hb dL_law_111 rfl (lv_at hl 3 rfl) ?_
        refine lv_iconst (v := 1) hx hb dL_law_112 (by decide) ?_
        refine lv_iadd hx hb dL_law_113 ?_
        refine va_sld hx hb hX hbl hbA hS (in_sc 1 (by omega) hL) dL_law_114 ?_
        refine WrI.callR (As := [.int (xs (nI iq + 1).toNatClampNeg)]) (rest := [.int r1]) (c_X3_basin hI.1 (xs (nI iq + 1).toNatClampNeg)) ⟨hx, hb, hml, hown, hts⟩ (cwV 1 hts gL_law_X3_basin rfl rfl rfl (by decide +kernel) ⟨Nat.le_of_ble_eq_true rfl, Nat.le_of_ble_eq_true rfl⟩) hP hD hS hA hKM hN 0 3 rfl rfl rfl hl.1 rfl (Nat.le_of_ble_eq_true rfl) dL_law_115 ⟨by show 20 + iq + 0 + 0 ≤ 600000; omega, by show 1000 + 8 * iq + 0 + 0 ≤ 7302250; omega⟩ (fun r2 u2 H locs e2 hP hD hS => ?_)
        have hP : va_P D vwCl (xw F Y (nI u1.1) mn (nI n) (nI sN) (nI st) flx gv ts tw tm u1.2 sl ru su Lp f ++ mw G Z (nI u2.1) mn (nI n) (nI sN) (nI st) flm va tp gv ts tw tm u2.2 sl kd pt he ct fr to rl pi ph ps pm) H := hP
        have hD : va_D (fun q : Nat => s.heap.size ≤ q) (xw F Y (nI u1.1) mn (nI n) (nI sN) (nI st) flx gv ts tw tm u1.2 sl ru su Lp f ++ mw G Z (nI u2.1) mn (nI n) (nI sN) (nI st) flm va tp gv ts tw tm u2.2 sl kd pt he ct fr to rl pi ph ps pm) := hD
        have hu := (Prod.mk.inj (e1.trans e2.symm)).2
        subst hu
        refine lv_icmp_eq (tgt := 502) hx hb dL_law_118 (by decide) (fun c_118 => ?_) (fun c_118 => ?_)
        · refine lv_iinc (v := (nI iq) + 7) (lv' := [(3, .int ((nI iq) + 7)), (0, .ref bq), (1, .ref (F 0)), (2, .ref (G 0))]) hx hb dL_law_502 hl (k := 3) rfl rfl (by decide) rfl (fun ls hl => ?_)
          refine lv_goto (tgt := 18) hx hb dL_law_505 (by decide) ?_
          refine W.widen (k := 20 + (iq + 7)) (n := 1000 + 8 * (iq + 7)) (by omega) (by omega) ?_
          exact ih (iq + 7) u1.1 n sN st mn gv ts tw tm u1.2 sl kd pt he ct fr to rl flx ru su Lp f flm va tp pi ph ps pm _ _ ls (by omega) (by omega) (inv_basin hI e1) hR hP hD hS (lv_sub (l' := [(0, .ref bq), (1, .ref (F 0)), (2, .ref (G 0)), (3, .int (nI (iq + 7)))]) hl [1, 2, 3, 0] (by rw [← nI_7]; rfl))
        · exact absurd ((Prod.mk.inj (e1.trans e2.symm)).1) c_118
      by_cases k_33_1 : ((xs (nI iq).toNatClampNeg) &&& 15) = 1
      · refine lv_tableIn (off := 90) (tgt := 123) hx hb dL_law_33 (by rw [k_33_1]; decide) (by rw [k_33_1]; decide) (by rw [k_33_1]; rfl) (by decide) ?_
        refine lv_aload_n hx hb dL_law_123 rfl (lv_at hl 1 rfl) ?_
        refine lv_aload_n hx hb dL_law_124 rfl (lv_at hl 0 rfl) ?_
        refine lv_iload_n hx hb dL_law_125 rfl (lv_at hl 3 rfl) ?_
        refine lv_iconst (v := 1) hx hb dL_law_126 (by decide) ?_
        refine lv_iadd hx hb dL_law_127 ?_
        refine va_sld hx hb hX hbl hbA hS (in_sc 1 (by omega) hL) dL_law_128 ?_
        refine lv_aload_n hx hb dL_law_129 rfl (lv_at hl 0 rfl) ?_
        refine lv_iload_n hx hb dL_law_130 rfl (lv_at hl 3 rfl) ?_
        refine lv_iconst (v := 2) hx hb dL_law_131 (by decide) ?_
        refine lv_iadd hx hb dL_law_132 ?_
        refine va_sld hx hb hX hbl hbA hS (in_sc 2 (by omega) hL) dL_law_133 ?_
        refine WrI.callL (As := [.int (xs (nI iq + 1).toNatClampNeg), .int (xs (nI iq + 2).toNatClampNeg)]) (rest := []) (c_X2_fill hI.1 (xs (nI iq + 1).toNatClampNeg) (xs (nI iq + 2).toNatClampNeg)) ⟨hx, hb, hml, hown, hts⟩ (cwV 2 hts gL_law_X2_fill rfl rfl rfl (by decide +kernel) ⟨Nat.le_of_ble_eq_true rfl, Nat.le_of_ble_eq_true rfl⟩) hP hD hS hA hKX hN 0 2 rfl rfl rfl hl.1 rfl (Nat.le_of_ble_eq_true rfl) dL_law_134 ⟨by show 20 + iq + 0 ≤ 600000; omega, by show 1000 + 8 * iq + 0 ≤ 7302250; omega⟩ (fun r1 u1 H locs e1 hP hD hS => ?_)
        have hP : va_P D vwCl (xw F Y (nI b) mn (nI n) (nI sN) (nI st) flx gv ts tw tm u1 sl ru su Lp f ++ mw G Z (nI b) mn (nI n) (nI sN) (nI st) flm va tp gv ts tw tm lv sl kd pt he ct fr to rl pi ph ps pm) H := hP
        have hD : va_D (fun q : Nat => s.heap.size ≤ q) (xw F Y (nI b) mn (nI n) (nI sN) (nI st) flx gv ts tw tm u1 sl ru su Lp f ++ mw G Z (nI b) mn (nI n) (nI sN) (nI st) flm va tp gv ts tw tm lv sl kd pt he ct fr to rl pi ph ps pm) := hD
        refine lv_aload_n hx hb dL_law_137 rfl (lv_at hl 2 rfl) ?_
        refine lv_aload_n hx hb dL_law_138 rfl (lv_at hl 0 rfl) ?_
        refine lv_iload_n hx hb dL_law_139 rfl (lv_at hl 3 rfl) ?_
        refine lv_iconst (v := 1) hx hb dL_law_140 (by decide) ?_
        refine lv_iadd hx hb dL_law_141 ?_
        refine va_sld hx hb hX hbl hbA hS (in_sc 1 (by omega) hL) dL_law_142 ?_
        refine lv_aload_n hx hb dL_law_143 rfl (lv_at hl 0 rfl) ?_
        refine lv_iload_n hx hb dL_law_144 rfl (lv_at hl 3 rfl) ?_
        refine lv_iconst (v := 2) hx hb dL_law_145 (by decide) ?_
        refine lv_iadd hx hb dL_law_146 ?_
        refine va_sld hx hb hX hbl hbA hS (in_sc 2 (by omega) hL) dL_law_147 ?_
        refine WrI.callR (As := [.int (xs (nI iq + 1).toNatClampNeg), .int (xs (nI iq + 2).toNatClampNeg)]) (rest := [.int r1]) (c_X3_fill hI.1 (xs (nI iq + 1).toNatClampNeg) (xs (nI iq + 2).toNatClampNeg)) ⟨hx, hb, hml, hown, hts⟩ (cwV 2 hts gL_law_X3_fill rfl rfl rfl (by decide +kernel) ⟨Nat.le_of_ble_eq_true rfl, Nat.le_of_ble_eq_true rfl⟩) hP hD hS hA hKM hN 0 3 rfl rfl rfl hl.1 rfl (Nat.le_of_ble_eq_true rfl) dL_law_148 ⟨by show 20 + iq + 0 + 0 ≤ 600000; omega, by show 1000 + 8 * iq + 0 + 0 ≤ 7302250; omega⟩ (fun r2 u2 H locs e2 hP hD hS => ?_)
        have hP : va_P D vwCl (xw F Y (nI b) mn (nI n) (nI sN) (nI st) flx gv ts tw tm u1 sl ru su Lp f ++ mw G Z (nI b) mn (nI n) (nI sN) (nI st) flm va tp gv ts tw tm u2 sl kd pt he ct fr to rl pi ph ps pm) H := hP
        have hD : va_D (fun q : Nat => s.heap.size ≤ q) (xw F Y (nI b) mn (nI n) (nI sN) (nI st) flx gv ts tw tm u1 sl ru su Lp f ++ mw G Z (nI b) mn (nI n) (nI sN) (nI st) flm va tp gv ts tw tm u2 sl kd pt he ct fr to rl pi ph ps pm) := hD
        have hu := (Prod.mk.inj (e1.trans e2.symm)).2
        subst hu
        refine lv_icmp_eq (tgt := 502) hx hb dL_law_151 (by decide) (fun c_151 => ?_) (fun c_151 => ?_)
        · refine lv_iinc (v := (nI iq) + 7) (lv' := [(3, .int ((nI iq) + 7)), (0, .ref bq), (1, .ref (F 0)), (2, .ref (G 0))]) hx hb dL_law_502 hl (k := 3) rfl rfl (by decide) rfl (fun ls hl => ?_)
          refine lv_goto (tgt := 18) hx hb dL_law_505 (by decide) ?_
          refine W.widen (k := 20 + (iq + 7)) (n := 1000 + 8 * (iq + 7)) (by omega) (by omega) ?_
          exact ih (iq + 7) b n sN st mn gv ts tw tm u1 sl kd pt he ct fr to rl flx ru su Lp f flm va tp pi ph ps pm _ _ ls (by omega) (by omega) (inv_fill hI e1) hR hP hD hS (lv_sub (l' := [(0, .ref bq), (1, .ref (F 0)), (2, .ref (G 0)), (3, .int (nI (iq + 7)))]) hl [1, 2, 3, 0] (by rw [← nI_7]; rfl))
        · exact absurd ((Prod.mk.inj (e1.trans e2.symm)).1) c_151
      by_cases k_33_2 : ((xs (nI iq).toNatClampNeg) &&& 15) = 2
      · refine lv_tableIn (off := 123) (tgt := 156) hx hb dL_law_33 (by rw [k_33_2]; decide) (by rw [k_33_2]; decide) (by rw [k_33_2]; rfl) (by decide) ?_
        refine lv_aload_n hx hb dL_law_156 rfl (lv_at hl 1 rfl) ?_
        refine lv_aload_n hx hb dL_law_157 rfl (lv_at hl 0 rfl) ?_
        refine lv_iload_n hx hb dL_law_158 rfl (lv_at hl 3 rfl) ?_
        refine lv_iconst (v := 1) hx hb dL_law_159 (by decide) ?_
        refine lv_iadd hx hb dL_law_160 ?_
        refine va_sld hx hb hX hbl hbA hS (in_sc 1 (by omega) hL) dL_law_161 ?_
        refine WrI.callL (As := [.int (xs (nI iq + 1).toNatClampNeg)]) (rest := []) (c_X2_moon (xs (nI iq + 1).toNatClampNeg)) ⟨hx, hb, hml, hown, hts⟩ (cwV 1 hts gL_law_X2_moon rfl rfl rfl (by decide +kernel) ⟨Nat.le_of_ble_eq_true rfl, Nat.le_of_ble_eq_true rfl⟩) hP hD hS hA hKX hN 0 2 rfl rfl rfl hl.1 rfl (Nat.le_of_ble_eq_true rfl) dL_law_162 ⟨by show 20 + iq + 0 ≤ 600000; omega, by show 1000 + 8 * iq + 0 ≤ 7302250; omega⟩ (fun r1 u1 H locs e1 hP hD hS => ?_)
        have hP : va_P D vwCl (xw F Y (nI b) u1 (nI n) (nI sN) (nI st) flx gv ts tw tm lv sl ru su Lp f ++ mw G Z (nI b) mn (nI n) (nI sN) (nI st) flm va tp gv ts tw tm lv sl kd pt he ct fr to rl pi ph ps pm) H := hP
        have hD : va_D (fun q : Nat => s.heap.size ≤ q) (xw F Y (nI b) u1 (nI n) (nI sN) (nI st) flx gv ts tw tm lv sl ru su Lp f ++ mw G Z (nI b) mn (nI n) (nI sN) (nI st) flm va tp gv ts tw tm lv sl kd pt he ct fr to rl pi ph ps pm) := hD
        refine lv_aload_n hx hb dL_law_165 rfl (lv_at hl 2 rfl) ?_
        refine lv_aload_n hx hb dL_law_166 rfl (lv_at hl 0 rfl) ?_
        refine lv_iload_n hx hb dL_law_167 rfl (lv_at hl 3 rfl) ?_
        refine lv_iconst (v := 1) hx hb dL_law_168 (by decide) ?_
        refine lv_iadd hx hb dL_law_169 ?_
        refine va_sld hx hb hX hbl hbA hS (in_sc 1 (by omega) hL) dL_law_170 ?_
        refine WrI.callR (As := [.int (xs (nI iq + 1).toNatClampNeg)]) (rest := [.int r1]) (c_X3_moon (xs (nI iq + 1).toNatClampNeg)) ⟨hx, hb, hml, hown, hts⟩ (cwV 1 hts gL_law_X3_moon rfl rfl rfl (by decide +kernel) ⟨Nat.le_of_ble_eq_true rfl, Nat.le_of_ble_eq_true rfl⟩) hP hD hS hA hKM hN 0 3 rfl rfl rfl hl.1 rfl (Nat.le_of_ble_eq_true rfl) dL_law_171 ⟨by show 20 + iq + 0 + 0 ≤ 600000; omega, by show 1000 + 8 * iq + 0 + 0 ≤ 7302250; omega⟩ (fun r2 u2 H locs e2 hP hD hS => ?_)
        have hP : va_P D vwCl (xw F Y (nI b) u1 (nI n) (nI sN) (nI st) flx gv ts tw tm lv sl ru su Lp f ++ mw G Z (nI b) u2 (nI n) (nI sN) (nI st) flm va tp gv ts tw tm lv sl kd pt he ct fr to rl pi ph ps pm) H := hP
        have hD : va_D (fun q : Nat => s.heap.size ≤ q) (xw F Y (nI b) u1 (nI n) (nI sN) (nI st) flx gv ts tw tm lv sl ru su Lp f ++ mw G Z (nI b) u2 (nI n) (nI sN) (nI st) flm va tp gv ts tw tm lv sl kd pt he ct fr to rl pi ph ps pm) := hD
        have hu := (Prod.mk.inj (e1.trans e2.symm)).2
        subst hu
        refine lv_icmp_eq (tgt := 502) hx hb dL_law_174 (by decide) (fun c_174 => ?_) (fun c_174 => ?_)
        · refine lv_iinc (v := (nI iq) + 7) (lv' := [(3, .int ((nI iq) + 7)), (0, .ref bq), (1, .ref (F 0)), (2, .ref (G 0))]) hx hb dL_law_502 hl (k := 3) rfl rfl (by decide) rfl (fun ls hl => ?_)
          refine lv_goto (tgt := 18) hx hb dL_law_505 (by decide) ?_
          refine W.widen (k := 20 + (iq + 7)) (n := 1000 + 8 * (iq + 7)) (by omega) (by omega) ?_
          exact ih (iq + 7) b n sN st u1 gv ts tw tm lv sl kd pt he ct fr to rl flx ru su Lp f flm va tp pi ph ps pm _ _ ls (by omega) (by omega) (hI) hR hP hD hS (lv_sub (l' := [(0, .ref bq), (1, .ref (F 0)), (2, .ref (G 0)), (3, .int (nI (iq + 7)))]) hl [1, 2, 3, 0] (by rw [← nI_7]; rfl))
        · exact absurd ((Prod.mk.inj (e1.trans e2.symm)).1) c_174
      by_cases k_33_3 : ((xs (nI iq).toNatClampNeg) &&& 15) = 3
      · refine lv_tableIn (off := 146) (tgt := 179) hx hb dL_law_33 (by rw [k_33_3]; decide) (by rw [k_33_3]; decide) (by rw [k_33_3]; rfl) (by decide) ?_
        refine lv_aload_n hx hb dL_law_179 rfl (lv_at hl 1 rfl) ?_
        refine lv_aload_n hx hb dL_law_180 rfl (lv_at hl 0 rfl) ?_
        refine lv_iload_n hx hb dL_law_181 rfl (lv_at hl 3 rfl) ?_
        refine lv_iconst (v := 1) hx hb dL_law_182 (by decide) ?_
        refine lv_iadd hx hb dL_law_183 ?_
        refine va_sld hx hb hX hbl hbA hS (in_sc 1 (by omega) hL) dL_law_184 ?_
        refine lv_aload_n hx hb dL_law_185 rfl (lv_at hl 0 rfl) ?_
        refine lv_iload_n hx hb dL_law_186 rfl (lv_at hl 3 rfl) ?_
        refine lv_iconst (v := 2) hx hb dL_law_187 (by decide) ?_
        refine lv_iadd hx hb dL_law_188 ?_
        refine va_sld hx hb hX hbl hbA hS (in_sc 2 (by omega) hL) dL_law_189 ?_
        refine lv_aload_n hx hb dL_law_190 rfl (lv_at hl 0 rfl) ?_
        refine lv_iload_n hx hb dL_law_191 rfl (lv_at hl 3 rfl) ?_
        refine lv_iconst (v := 3) hx hb dL_law_192 (by decide) ?_
        refine lv_iadd hx hb dL_law_193 ?_
        refine va_sld hx hb hX hbl hbA hS (in_sc 3 (by omega) hL) dL_law_194 ?_
        refine lv_aload_n hx hb dL_law_195 rfl (lv_at hl 0 rfl) ?_
        refine lv_iload_n hx hb dL_law_196 rfl (lv_at hl 3 rfl) ?_
        refine lv_iconst (v := 4) hx hb dL_law_197 (by decide) ?_
        refine lv_iadd hx hb dL_law_198 ?_
        refine va_sld hx hb hX hbl hbA hS (in_sc 4 (by omega) hL) dL_law_199 ?_
        refine lv_aload_n hx hb dL_law_200 rfl (lv_at hl 0 rfl) ?_
        refine lv_iload_n hx hb dL_law_201 rfl (lv_at hl 3 rfl) ?_
        refine lv_iconst (v := 5) hx hb dL_law_202 (by decide) ?_
        refine lv_iadd hx hb dL_law_203 ?_
        refine va_sld hx hb hX hbl hbA hS (in_sc 5 (by omega) hL) dL_law_204 ?_
        refine lv_aload_n hx hb dL_law_205 rfl (lv_at hl 0 rfl) ?_
        refine lv_iload_n hx hb dL_law_206 rfl (lv_at hl 3 rfl) ?_
        refine lv_bipush (v := 6) hx hb dL_law_207 (by decide) ?_
        refine lv_iadd hx hb dL_law_209 ?_
        refine va_sld hx hb hX hbl hbA hS (in_sc 6 (by omega) hL) dL_law_210 ?_
        refine WrI.callL (As := [.int (xs (nI iq + 1).toNatClampNeg), .int (xs (nI iq + 2).toNatClampNeg), .int (xs (nI iq + 3).toNatClampNeg), .int (xs (nI iq + 4).toNatClampNeg), .int (xs (nI iq + 5).toNatClampNeg), .int (xs (nI iq + 6).toNatClampNeg)]) (rest := []) (c_X2_make hR hI.2.1 hI.1 hI.2.2.2.1 (xs (nI iq + 1).toNatClampNeg) (xs (nI iq + 2).toNatClampNeg) (xs (nI iq + 3).toNatClampNeg) (xs (nI iq + 4).toNatClampNeg) (xs (nI iq + 5).toNatClampNeg) (xs (nI iq + 6).toNatClampNeg)) ⟨hx, hb, hml, hown, hts⟩ (cwV 6 hts gL_law_X2_make rfl rfl rfl (by decide +kernel) ⟨Nat.le_of_ble_eq_true rfl, Nat.le_of_ble_eq_true rfl⟩) hP hD hS hA hKX hN 0 2 rfl rfl rfl hl.1 rfl (Nat.le_of_ble_eq_true rfl) dL_law_211 ⟨by show 20 + iq + 1 ≤ 600000; omega, by show 1000 + 8 * iq + 8 ≤ 7302250; omega⟩ (fun r1 u1 H locs e1 hP hD hS => ?_)
        obtain ⟨⟨n1, kd1, pt1, he1, ct1, st1⟩, flx9, ru9, Lp9, f9⟩ := u1
        obtain ⟨e1, hR1⟩ := e1
        have hP : va_P D vwCl (xw F Y (nI b) mn (nI n1) (nI sN) (nI st1) flx9 gv ts tw tm lv sl ru9 su Lp9 f9 ++ mw G Z (nI b) mn (nI n) (nI sN) (nI st) flm va tp gv ts tw tm lv sl kd pt he ct fr to rl pi ph ps pm) H := hP
        have hD : va_D (fun q : Nat => s.heap.size ≤ q) (xw F Y (nI b) mn (nI n1) (nI sN) (nI st1) flx9 gv ts tw tm lv sl ru9 su Lp9 f9 ++ mw G Z (nI b) mn (nI n) (nI sN) (nI st) flm va tp gv ts tw tm lv sl kd pt he ct fr to rl pi ph ps pm) := hD
        have hR1 : xRel n1 sN kd1 pt1 he1 ct1 fr to rl ru9 su Lp9 f9 := hR1
        refine lv_aload_n hx hb dL_law_214 rfl (lv_at hl 2 rfl) ?_
        refine lv_aload_n hx hb dL_law_215 rfl (lv_at hl 0 rfl) ?_
        refine lv_iload_n hx hb dL_law_216 rfl (lv_at hl 3 rfl) ?_
        refine lv_iconst (v := 1) hx hb dL_law_217 (by decide) ?_
        refine lv_iadd hx hb dL_law_218 ?_
        refine va_sld hx hb hX hbl hbA hS (in_sc 1 (by omega) hL) dL_law_219 ?_
        refine lv_aload_n hx hb dL_law_220 rfl (lv_at hl 0 rfl) ?_
        refine lv_iload_n hx hb dL_law_221 rfl (lv_at hl 3 rfl) ?_
        refine lv_iconst (v := 2) hx hb dL_law_222 (by decide) ?_
        refine lv_iadd hx hb dL_law_223 ?_
        refine va_sld hx hb hX hbl hbA hS (in_sc 2 (by omega) hL) dL_law_224 ?_
        refine lv_aload_n hx hb dL_law_225 rfl (lv_at hl 0 rfl) ?_
        refine lv_iload_n hx hb dL_law_226 rfl (lv_at hl 3 rfl) ?_
        refine lv_iconst (v := 3) hx hb dL_law_227 (by decide) ?_
        refine lv_iadd hx hb dL_law_228 ?_
        refine va_sld hx hb hX hbl hbA hS (in_sc 3 (by omega) hL) dL_law_229 ?_
        refine lv_aload_n hx hb dL_law_230 rfl (lv_at hl 0 rfl) ?_
        refine lv_iload_n hx hb dL_law_231 rfl (lv_at hl 3 rfl) ?_
        refine lv_iconst (v := 4) hx hb dL_law_232 (by decide) ?_
        refine lv_iadd hx hb dL_law_233 ?_
        refine va_sld hx hb hX hbl hbA hS (in_sc 4 (by omega) hL) dL_law_234 ?_
        refine lv_aload_n hx hb dL_law_235 rfl (lv_at hl 0 rfl) ?_
        refine lv_iload_n hx hb dL_law_236 rfl (lv_at hl 3 rfl) ?_
        refine lv_iconst (v := 5) hx hb dL_law_237 (by decide) ?_
        refine lv_iadd hx hb dL_law_238 ?_
        refine va_sld hx hb hX hbl hbA hS (in_sc 5 (by omega) hL) dL_law_239 ?_
        refine lv_aload_n hx hb dL_law_240 rfl (lv_at hl 0 rfl) ?_
        refine lv_iload_n hx hb dL_law_241 rfl (lv_at hl 3 rfl) ?_
        refine lv_bipush (v := 6) hx hb dL_law_242 (by decide) ?_
        refine lv_iadd hx hb dL_law_244 ?_
        refine va_sld hx hb hX hbl hbA hS (in_sc 6 (by omega) hL) dL_law_245 ?_
        refine WrI.callR (As := [.int (xs (nI iq + 1).toNatClampNeg), .int (xs (nI iq + 2).toNatClampNeg), .int (xs (nI iq + 3).toNatClampNeg), .int (xs (nI iq + 4).toNatClampNeg), .int (xs (nI iq + 5).toNatClampNeg), .int (xs (nI iq + 6).toNatClampNeg)]) (rest := [.int r1]) (c_X3_make hI.2.1 hI.1 hI.2.2.2.1 (xs (nI iq + 1).toNatClampNeg) (xs (nI iq + 2).toNatClampNeg) (xs (nI iq + 3).toNatClampNeg) (xs (nI iq + 4).toNatClampNeg) (xs (nI iq + 5).toNatClampNeg) (xs (nI iq + 6).toNatClampNeg)) ⟨hx, hb, hml, hown, hts⟩ (cwV 6 hts gL_law_X3_make rfl rfl rfl (by decide +kernel) ⟨Nat.le_of_ble_eq_true rfl, Nat.le_of_ble_eq_true rfl⟩) hP hD hS hA hKM hN 0 3 rfl rfl rfl hl.1 rfl (Nat.le_of_ble_eq_true rfl) dL_law_246 ⟨by show 20 + iq + 1 + 0 ≤ 600000; omega, by show 1000 + 8 * iq + 8 + 0 ≤ 7302250; omega⟩ (fun r2 u2 H locs e2 hP hD hS => ?_)
        obtain ⟨⟨n2, kd2, pt2, he2, ct2, st2⟩, flm9, va9, tp9, pi9, ph9, ps9, pm9⟩ := u2
        have hP : va_P D vwCl (xw F Y (nI b) mn (nI n1) (nI sN) (nI st1) flx9 gv ts tw tm lv sl ru9 su Lp9 f9 ++ mw G Z (nI b) mn (nI n2) (nI sN) (nI st2) flm9 va9 tp9 gv ts tw tm lv sl kd2 pt2 he2 ct2 fr to rl pi9 ph9 ps9 pm9) H := hP
        have hD : va_D (fun q : Nat => s.heap.size ≤ q) (xw F Y (nI b) mn (nI n1) (nI sN) (nI st1) flx9 gv ts tw tm lv sl ru9 su Lp9 f9 ++ mw G Z (nI b) mn (nI n2) (nI sN) (nI st2) flm9 va9 tp9 gv ts tw tm lv sl kd2 pt2 he2 ct2 fr to rl pi9 ph9 ps9 pm9) := hD
        have ee := e1.trans e2.symm
        have er : r1 = r2 := (Prod.mk.inj ee).1
        have eu := (Prod.mk.inj ee).2
        cases eu
        refine lv_icmp_eq (tgt := 502) hx hb dL_law_249 (by decide) (fun c_249 => ?_) (fun c_249 => ?_)
        · refine lv_iinc (v := (nI iq) + 7) (lv' := [(3, .int ((nI iq) + 7)), (0, .ref bq), (1, .ref (F 0)), (2, .ref (G 0))]) hx hb dL_law_502 hl (k := 3) rfl rfl (by decide) rfl (fun ls hl => ?_)
          refine lv_goto (tgt := 18) hx hb dL_law_505 (by decide) ?_
          refine W.widen (k := 20 + (iq + 7)) (n := 1000 + 8 * (iq + 7)) (by omega) (by omega) ?_
          exact ih (iq + 7) b n1 sN st1 mn gv ts tw tm lv sl kd1 pt1 he1 ct1 fr to rl flx9 ru9 su Lp9 f9 flm9 va9 tp9 pi9 ph9 ps9 pm9 _ _ ls (by omega) (by omega) (inv_make hI e1) hR1 hP hD hS (lv_sub (l' := [(0, .ref bq), (1, .ref (F 0)), (2, .ref (G 0)), (3, .int (nI (iq + 7)))]) hl [1, 2, 3, 0] (by rw [← nI_7]; rfl))
        · exact absurd (er) c_249
      by_cases k_33_4 : ((xs (nI iq).toNatClampNeg) &&& 15) = 4
      · refine lv_tableIn (off := 221) (tgt := 254) hx hb dL_law_33 (by rw [k_33_4]; decide) (by rw [k_33_4]; decide) (by rw [k_33_4]; rfl) (by decide) ?_
        refine lv_aload_n hx hb dL_law_254 rfl (lv_at hl 1 rfl) ?_
        refine lv_aload_n hx hb dL_law_255 rfl (lv_at hl 0 rfl) ?_
        refine lv_iload_n hx hb dL_law_256 rfl (lv_at hl 3 rfl) ?_
        refine lv_iconst (v := 1) hx hb dL_law_257 (by decide) ?_
        refine lv_iadd hx hb dL_law_258 ?_
        refine va_sld hx hb hX hbl hbA hS (in_sc 1 (by omega) hL) dL_law_259 ?_
        refine lv_aload_n hx hb dL_law_260 rfl (lv_at hl 0 rfl) ?_
        refine lv_iload_n hx hb dL_law_261 rfl (lv_at hl 3 rfl) ?_
        refine lv_iconst (v := 2) hx hb dL_law_262 (by decide) ?_
        refine lv_iadd hx hb dL_law_263 ?_
        refine va_sld hx hb hX hbl hbA hS (in_sc 2 (by omega) hL) dL_law_264 ?_
        refine WrI.callL (As := [.int (xs (nI iq + 1).toNatClampNeg), .int (xs (nI iq + 2).toNatClampNeg)]) (rest := []) (c_X2_put hR hI.2.1 (xs (nI iq + 1).toNatClampNeg) (xs (nI iq + 2).toNatClampNeg)) ⟨hx, hb, hml, hown, hts⟩ (cwV 2 hts gL_law_X2_put rfl rfl rfl (by decide +kernel) ⟨Nat.le_of_ble_eq_true rfl, Nat.le_of_ble_eq_true rfl⟩) hP hD hS hA hKX hN 0 2 rfl rfl rfl hl.1 rfl (Nat.le_of_ble_eq_true rfl) dL_law_265 ⟨by show 20 + iq + 0 ≤ 600000; omega, by show 1000 + 8 * iq + 0 ≤ 7302250; omega⟩ (fun r1 u1 H locs e1 hP hD hS => ?_)
        have hP : va_P D vwCl (xw F Y (nI b) mn (nI n) (nI sN) (nI st) flx gv ts tw tm lv u1 ru su Lp f ++ mw G Z (nI b) mn (nI n) (nI sN) (nI st) flm va tp gv ts tw tm lv sl kd pt he ct fr to rl pi ph ps pm) H := hP
        have hD : va_D (fun q : Nat => s.heap.size ≤ q) (xw F Y (nI b) mn (nI n) (nI sN) (nI st) flx gv ts tw tm lv u1 ru su Lp f ++ mw G Z (nI b) mn (nI n) (nI sN) (nI st) flm va tp gv ts tw tm lv sl kd pt he ct fr to rl pi ph ps pm) := hD
        refine lv_aload_n hx hb dL_law_268 rfl (lv_at hl 2 rfl) ?_
        refine lv_aload_n hx hb dL_law_269 rfl (lv_at hl 0 rfl) ?_
        refine lv_iload_n hx hb dL_law_270 rfl (lv_at hl 3 rfl) ?_
        refine lv_iconst (v := 1) hx hb dL_law_271 (by decide) ?_
        refine lv_iadd hx hb dL_law_272 ?_
        refine va_sld hx hb hX hbl hbA hS (in_sc 1 (by omega) hL) dL_law_273 ?_
        refine lv_aload_n hx hb dL_law_274 rfl (lv_at hl 0 rfl) ?_
        refine lv_iload_n hx hb dL_law_275 rfl (lv_at hl 3 rfl) ?_
        refine lv_iconst (v := 2) hx hb dL_law_276 (by decide) ?_
        refine lv_iadd hx hb dL_law_277 ?_
        refine va_sld hx hb hX hbl hbA hS (in_sc 2 (by omega) hL) dL_law_278 ?_
        refine WrI.callR (As := [.int (xs (nI iq + 1).toNatClampNeg), .int (xs (nI iq + 2).toNatClampNeg)]) (rest := [.int r1]) (c_X3_put hI.2.1 (xs (nI iq + 1).toNatClampNeg) (xs (nI iq + 2).toNatClampNeg)) ⟨hx, hb, hml, hown, hts⟩ (cwV 2 hts gL_law_X3_put rfl rfl rfl (by decide +kernel) ⟨Nat.le_of_ble_eq_true rfl, Nat.le_of_ble_eq_true rfl⟩) hP hD hS hA hKM hN 0 3 rfl rfl rfl hl.1 rfl (Nat.le_of_ble_eq_true rfl) dL_law_279 ⟨by show 20 + iq + 0 + 0 ≤ 600000; omega, by show 1000 + 8 * iq + 0 + 0 ≤ 7302250; omega⟩ (fun r2 u2 H locs e2 hP hD hS => ?_)
        have hP : va_P D vwCl (xw F Y (nI b) mn (nI n) (nI sN) (nI st) flx gv ts tw tm lv u1 ru su Lp f ++ mw G Z (nI b) mn (nI n) (nI sN) (nI st) flm va tp gv ts tw tm lv u2 kd pt he ct fr to rl pi ph ps pm) H := hP
        have hD : va_D (fun q : Nat => s.heap.size ≤ q) (xw F Y (nI b) mn (nI n) (nI sN) (nI st) flx gv ts tw tm lv u1 ru su Lp f ++ mw G Z (nI b) mn (nI n) (nI sN) (nI st) flm va tp gv ts tw tm lv u2 kd pt he ct fr to rl pi ph ps pm) := hD
        have hu := (Prod.mk.inj (e1.trans e2.symm)).2
        subst hu
        refine lv_icmp_eq (tgt := 502) hx hb dL_law_282 (by decide) (fun c_282 => ?_) (fun c_282 => ?_)
        · refine lv_iinc (v := (nI iq) + 7) (lv' := [(3, .int ((nI iq) + 7)), (0, .ref bq), (1, .ref (F 0)), (2, .ref (G 0))]) hx hb dL_law_502 hl (k := 3) rfl rfl (by decide) rfl (fun ls hl => ?_)
          refine lv_goto (tgt := 18) hx hb dL_law_505 (by decide) ?_
          refine W.widen (k := 20 + (iq + 7)) (n := 1000 + 8 * (iq + 7)) (by omega) (by omega) ?_
          exact ih (iq + 7) b n sN st mn gv ts tw tm lv u1 kd pt he ct fr to rl flx ru su Lp f flm va tp pi ph ps pm _ _ ls (by omega) (by omega) (inv_put hI e1) hR hP hD hS (lv_sub (l' := [(0, .ref bq), (1, .ref (F 0)), (2, .ref (G 0)), (3, .int (nI (iq + 7)))]) hl [1, 2, 3, 0] (by rw [← nI_7]; rfl))
        · exact absurd ((Prod.mk.inj (e1.trans e2.symm)).1) c_282
      by_cases k_33_5 : ((xs (nI iq).toNatClampNeg) &&& 15) = 5
      · refine lv_tableIn (off := 254) (tgt := 287) hx hb dL_law_33 (by rw [k_33_5]; decide) (by rw [k_33_5]; decide) (by rw [k_33_5]; rfl) (by decide) ?_
        refine lv_aload_n hx hb dL_law_287 rfl (lv_at hl 1 rfl) ?_
        refine lv_aload_n hx hb dL_law_288 rfl (lv_at hl 0 rfl) ?_
        refine lv_iload_n hx hb dL_law_289 rfl (lv_at hl 3 rfl) ?_
        refine lv_iconst (v := 1) hx hb dL_law_290 (by decide) ?_
        refine lv_iadd hx hb dL_law_291 ?_
        refine va_sld hx hb hX hbl hbA hS (in_sc 1 (by omega) hL) dL_law_292 ?_
        refine lv_aload_n hx hb dL_law_293 rfl (lv_at hl 0 rfl) ?_
        refine lv_iload_n hx hb dL_law_294 rfl (lv_at hl 3 rfl) ?_
        refine lv_iconst (v := 2) hx hb dL_law_295 (by decide) ?_
        refine lv_iadd hx hb dL_law_296 ?_
        refine va_sld hx hb hX hbl hbA hS (in_sc 2 (by omega) hL) dL_law_297 ?_
        refine WrI.callL (As := [.int (xs (nI iq + 1).toNatClampNeg), .int (xs (nI iq + 2).toNatClampNeg)]) (rest := []) (c_X2_ask hR hI.2.1 hI.1 hI.2.2.2.1 (xs (nI iq + 1).toNatClampNeg) (xs (nI iq + 2).toNatClampNeg)) ⟨hx, hb, hml, hown, hts⟩ (cwV 2 hts gL_law_X2_ask rfl rfl rfl (by decide +kernel) ⟨Nat.le_of_ble_eq_true rfl, Nat.le_of_ble_eq_true rfl⟩) hP hD hS hA hKX hN 0 2 rfl rfl rfl hl.1 rfl (Nat.le_of_ble_eq_true rfl) dL_law_298 ⟨by show 20 + iq + 0 ≤ 600000; omega, by show 1000 + 8 * iq + 0 ≤ 7302250; omega⟩ (fun r1 u1 H locs e1 hP hD hS => ?_)
        obtain ⟨⟨st1, gv1, ct1⟩, flx9, f9⟩ := u1
        obtain ⟨e1, hR1⟩ := e1
        have hP : va_P D vwCl (xw F Y (nI b) mn (nI n) (nI sN) (nI st1) flx9 gv1 ts tw tm lv sl ru su Lp f9 ++ mw G Z (nI b) mn (nI n) (nI sN) (nI st) flm va tp gv ts tw tm lv sl kd pt he ct fr to rl pi ph ps pm) H := hP
        have hD : va_D (fun q : Nat => s.heap.size ≤ q) (xw F Y (nI b) mn (nI n) (nI sN) (nI st1) flx9 gv1 ts tw tm lv sl ru su Lp f9 ++ mw G Z (nI b) mn (nI n) (nI sN) (nI st) flm va tp gv ts tw tm lv sl kd pt he ct fr to rl pi ph ps pm) := hD
        have hR1 : xRel n sN kd pt he ct1 fr to rl ru su Lp f9 := hR1
        refine lv_aload_n hx hb dL_law_301 rfl (lv_at hl 2 rfl) ?_
        refine lv_aload_n hx hb dL_law_302 rfl (lv_at hl 0 rfl) ?_
        refine lv_iload_n hx hb dL_law_303 rfl (lv_at hl 3 rfl) ?_
        refine lv_iconst (v := 1) hx hb dL_law_304 (by decide) ?_
        refine lv_iadd hx hb dL_law_305 ?_
        refine va_sld hx hb hX hbl hbA hS (in_sc 1 (by omega) hL) dL_law_306 ?_
        refine lv_aload_n hx hb dL_law_307 rfl (lv_at hl 0 rfl) ?_
        refine lv_iload_n hx hb dL_law_308 rfl (lv_at hl 3 rfl) ?_
        refine lv_iconst (v := 2) hx hb dL_law_309 (by decide) ?_
        refine lv_iadd hx hb dL_law_310 ?_
        refine va_sld hx hb hX hbl hbA hS (in_sc 2 (by omega) hL) dL_law_311 ?_
        refine WrI.callR (As := [.int (xs (nI iq + 1).toNatClampNeg), .int (xs (nI iq + 2).toNatClampNeg)]) (rest := [.int r1]) (c_X3_ask hI.2.1 hI.1 hI.2.2.2.1 (xs (nI iq + 1).toNatClampNeg) (xs (nI iq + 2).toNatClampNeg)) ⟨hx, hb, hml, hown, hts⟩ (cwV 2 hts gL_law_X3_ask rfl rfl rfl (by decide +kernel) ⟨Nat.le_of_ble_eq_true rfl, Nat.le_of_ble_eq_true rfl⟩) hP hD hS hA hKM hN 0 3 rfl rfl rfl hl.1 rfl (Nat.le_of_ble_eq_true rfl) dL_law_312 ⟨by show 20 + iq + 0 + 0 ≤ 600000; omega, by show 1000 + 8 * iq + 0 + 0 ≤ 7302250; omega⟩ (fun r2 u2 H locs e2 hP hD hS => ?_)
        obtain ⟨⟨st2, gv2, ct2⟩, flm9, va9, tp9, pi9, ph9, ps9, pm9⟩ := u2
        have hP : va_P D vwCl (xw F Y (nI b) mn (nI n) (nI sN) (nI st1) flx9 gv1 ts tw tm lv sl ru su Lp f9 ++ mw G Z (nI b) mn (nI n) (nI sN) (nI st2) flm9 va9 tp9 gv2 ts tw tm lv sl kd pt he ct2 fr to rl pi9 ph9 ps9 pm9) H := hP
        have hD : va_D (fun q : Nat => s.heap.size ≤ q) (xw F Y (nI b) mn (nI n) (nI sN) (nI st1) flx9 gv1 ts tw tm lv sl ru su Lp f9 ++ mw G Z (nI b) mn (nI n) (nI sN) (nI st2) flm9 va9 tp9 gv2 ts tw tm lv sl kd pt he ct2 fr to rl pi9 ph9 ps9 pm9) := hD
        have ee := e1.trans e2.symm
        have er : r1 = r2 := (Prod.mk.inj ee).1
        have eu := (Prod.mk.inj ee).2
        cases eu
        refine lv_icmp_eq (tgt := 502) hx hb dL_law_315 (by decide) (fun c_315 => ?_) (fun c_315 => ?_)
        · refine lv_iinc (v := (nI iq) + 7) (lv' := [(3, .int ((nI iq) + 7)), (0, .ref bq), (1, .ref (F 0)), (2, .ref (G 0))]) hx hb dL_law_502 hl (k := 3) rfl rfl (by decide) rfl (fun ls hl => ?_)
          refine lv_goto (tgt := 18) hx hb dL_law_505 (by decide) ?_
          refine W.widen (k := 20 + (iq + 7)) (n := 1000 + 8 * (iq + 7)) (by omega) (by omega) ?_
          exact ih (iq + 7) b n sN st1 mn gv1 ts tw tm lv sl kd pt he ct1 fr to rl flx9 ru su Lp f9 flm9 va9 tp9 pi9 ph9 ps9 pm9 _ _ ls (by omega) (by omega) (hI) hR1 hP hD hS (lv_sub (l' := [(0, .ref bq), (1, .ref (F 0)), (2, .ref (G 0)), (3, .int (nI (iq + 7)))]) hl [1, 2, 3, 0] (by rw [← nI_7]; rfl))
        · exact absurd (er) c_315
      by_cases k_33_6 : ((xs (nI iq).toNatClampNeg) &&& 15) = 6
      · refine lv_tableIn (off := 287) (tgt := 320) hx hb dL_law_33 (by rw [k_33_6]; decide) (by rw [k_33_6]; decide) (by rw [k_33_6]; rfl) (by decide) ?_
        refine lv_aload_n hx hb dL_law_320 rfl (lv_at hl 1 rfl) ?_
        refine RoL.callV (As := []) (rest := []) (c_X2_given) ⟨hx, hb, hml, hown, hts⟩ (cwV 0 hts gL_law_X2_given rfl rfl rfl (by decide +kernel) ⟨Nat.le_of_ble_eq_true rfl, Nat.le_of_ble_eq_true rfl⟩) (P_left hP) hKX hN 0 2 rfl rfl rfl hl.1 rfl (Nat.le_of_ble_eq_true rfl) dL_law_321 ⟨by show 20 + iq + 0 ≤ 600000; omega, by show 1000 + 8 * iq + 0 ≤ 7302250; omega⟩ (fun r1 e1 => ?_)
        refine lv_aload_n hx hb dL_law_324 rfl (lv_at hl 2 rfl) ?_
        refine RoL.callV (As := []) (rest := [.long r1]) (c_X3_given) ⟨hx, hb, hml, hown, hts⟩ (cwV 0 hts gL_law_X3_given rfl rfl rfl (by decide +kernel) ⟨Nat.le_of_ble_eq_true rfl, Nat.le_of_ble_eq_true rfl⟩) (P_right hP) hKM hN 0 3 rfl rfl rfl hl.1 rfl (Nat.le_of_ble_eq_true rfl) dL_law_325 ⟨by show 20 + iq + 0 ≤ 600000; omega, by show 1000 + 8 * iq + 0 ≤ 7302250; omega⟩ (fun r2 e2 => ?_)
        refine W.lcmp hx hb dL_law_328 ?_
        refine lv_if_eq (tgt := 502) hx hb dL_law_329 (by decide) (fun c_329 => ?_) (fun c_329 => ?_)
        · have c_329 := lc_eqp c_329
          refine lv_iinc (v := (nI iq) + 7) (lv' := [(3, .int ((nI iq) + 7)), (0, .ref bq), (1, .ref (F 0)), (2, .ref (G 0))]) hx hb dL_law_502 hl (k := 3) rfl rfl (by decide) rfl (fun ls hl => ?_)
          refine lv_goto (tgt := 18) hx hb dL_law_505 (by decide) ?_
          refine W.widen (k := 20 + (iq + 7)) (n := 1000 + 8 * (iq + 7)) (by omega) (by omega) ?_
          exact ih (iq + 7) b n sN st mn gv ts tw tm lv sl kd pt he ct fr to rl flx ru su Lp f flm va tp pi ph ps pm _ _ ls (by omega) (by omega) (hI) hR hP hD hS (lv_sub (l' := [(0, .ref bq), (1, .ref (F 0)), (2, .ref (G 0)), (3, .int (nI (iq + 7)))]) hl [1, 2, 3, 0] (by rw [← nI_7]; rfl))
        · have c_329 := lc_eqn c_329
          exact absurd (e1.trans e2.symm) c_329
      by_cases k_33_7 : ((xs (nI iq).toNatClampNeg) &&& 15) = 7
      · refine lv_tableIn (off := 301) (tgt := 334) hx hb dL_law_33 (by rw [k_33_7]; decide) (by rw [k_33_7]; decide) (by rw [k_33_7]; rfl) (by decide) ?_
        refine lv_aload_n hx hb dL_law_334 rfl (lv_at hl 1 rfl) ?_
        refine lv_aload_n hx hb dL_law_335 rfl (lv_at hl 0 rfl) ?_
        refine lv_iload_n hx hb dL_law_336 rfl (lv_at hl 3 rfl) ?_
        refine lv_iconst (v := 1) hx hb dL_law_337 (by decide) ?_
        refine lv_iadd hx hb dL_law_338 ?_
        refine va_sld hx hb hX hbl hbA hS (in_sc 1 (by omega) hL) dL_law_339 ?_
        refine lv_aload_n hx hb dL_law_340 rfl (lv_at hl 0 rfl) ?_
        refine lv_iload_n hx hb dL_law_341 rfl (lv_at hl 3 rfl) ?_
        refine lv_iconst (v := 2) hx hb dL_law_342 (by decide) ?_
        refine lv_iadd hx hb dL_law_343 ?_
        refine va_sld hx hb hX hbl hbA hS (in_sc 2 (by omega) hL) dL_law_344 ?_
        refine lv_aload_n hx hb dL_law_345 rfl (lv_at hl 0 rfl) ?_
        refine lv_iload_n hx hb dL_law_346 rfl (lv_at hl 3 rfl) ?_
        refine lv_iconst (v := 3) hx hb dL_law_347 (by decide) ?_
        refine lv_iadd hx hb dL_law_348 ?_
        refine va_sld hx hb hX hbl hbA hS (in_sc 3 (by omega) hL) dL_law_349 ?_
        refine WrI.callL (As := [.int (xs (nI iq + 1).toNatClampNeg), .int (xs (nI iq + 2).toNatClampNeg), .int (xs (nI iq + 3).toNatClampNeg)]) (rest := []) (c_X2_sluice hR hI.2.1 hI.1 hI.2.2.1 (xs (nI iq + 1).toNatClampNeg) (xs (nI iq + 2).toNatClampNeg) (xs (nI iq + 3).toNatClampNeg)) ⟨hx, hb, hml, hown, hts⟩ (cwV 3 hts gL_law_X2_sluice rfl rfl rfl (by decide +kernel) ⟨Nat.le_of_ble_eq_true rfl, Nat.le_of_ble_eq_true rfl⟩) hP hD hS hA hKX hN 0 2 rfl rfl rfl hl.1 rfl (Nat.le_of_ble_eq_true rfl) dL_law_350 ⟨by show 20 + iq + 1 ≤ 600000; omega, by show 1000 + 8 * iq + 3 ≤ 7302250; omega⟩ (fun r1 u1 H locs e1 hP hD hS => ?_)
        obtain ⟨⟨sN1, fr1, to1, rl1⟩, su9, Lp9, f9⟩ := u1
        obtain ⟨e1, hR1⟩ := e1
        have hP : va_P D vwCl (xw F Y (nI b) mn (nI n) (nI sN1) (nI st) flx gv ts tw tm lv sl ru su9 Lp9 f9 ++ mw G Z (nI b) mn (nI n) (nI sN) (nI st) flm va tp gv ts tw tm lv sl kd pt he ct fr to rl pi ph ps pm) H := hP
        have hD : va_D (fun q : Nat => s.heap.size ≤ q) (xw F Y (nI b) mn (nI n) (nI sN1) (nI st) flx gv ts tw tm lv sl ru su9 Lp9 f9 ++ mw G Z (nI b) mn (nI n) (nI sN) (nI st) flm va tp gv ts tw tm lv sl kd pt he ct fr to rl pi ph ps pm) := hD
        have hR1 : xRel n sN1 kd pt he ct fr1 to1 rl1 ru su9 Lp9 f9 := hR1
        refine lv_aload_n hx hb dL_law_353 rfl (lv_at hl 2 rfl) ?_
        refine lv_aload_n hx hb dL_law_354 rfl (lv_at hl 0 rfl) ?_
        refine lv_iload_n hx hb dL_law_355 rfl (lv_at hl 3 rfl) ?_
        refine lv_iconst (v := 1) hx hb dL_law_356 (by decide) ?_
        refine lv_iadd hx hb dL_law_357 ?_
        refine va_sld hx hb hX hbl hbA hS (in_sc 1 (by omega) hL) dL_law_358 ?_
        refine lv_aload_n hx hb dL_law_359 rfl (lv_at hl 0 rfl) ?_
        refine lv_iload_n hx hb dL_law_360 rfl (lv_at hl 3 rfl) ?_
        refine lv_iconst (v := 2) hx hb dL_law_361 (by decide) ?_
        refine lv_iadd hx hb dL_law_362 ?_
        refine va_sld hx hb hX hbl hbA hS (in_sc 2 (by omega) hL) dL_law_363 ?_
        refine lv_aload_n hx hb dL_law_364 rfl (lv_at hl 0 rfl) ?_
        refine lv_iload_n hx hb dL_law_365 rfl (lv_at hl 3 rfl) ?_
        refine lv_iconst (v := 3) hx hb dL_law_366 (by decide) ?_
        refine lv_iadd hx hb dL_law_367 ?_
        refine va_sld hx hb hX hbl hbA hS (in_sc 3 (by omega) hL) dL_law_368 ?_
        refine WrI.callR (As := [.int (xs (nI iq + 1).toNatClampNeg), .int (xs (nI iq + 2).toNatClampNeg), .int (xs (nI iq + 3).toNatClampNeg)]) (rest := [.int r1]) (c_X3_sluice hI.2.1 hI.1 hI.2.2.1 (xs (nI iq + 1).toNatClampNeg) (xs (nI iq + 2).toNatClampNeg) (xs (nI iq + 3).toNatClampNeg)) ⟨hx, hb, hml, hown, hts⟩ (cwV 3 hts gL_law_X3_sluice rfl rfl rfl (by decide +kernel) ⟨Nat.le_of_ble_eq_true rfl, Nat.le_of_ble_eq_true rfl⟩) hP hD hS hA hKM hN 0 3 rfl rfl rfl hl.1 rfl (Nat.le_of_ble_eq_true rfl) dL_law_369 ⟨by show 20 + iq + 1 + 0 ≤ 600000; omega, by show 1000 + 8 * iq + 3 + 0 ≤ 7302250; omega⟩ (fun r2 u2 H locs e2 hP hD hS => ?_)
        obtain ⟨sN2, fr2, to2, rl2⟩ := u2
        have hP : va_P D vwCl (xw F Y (nI b) mn (nI n) (nI sN1) (nI st) flx gv ts tw tm lv sl ru su9 Lp9 f9 ++ mw G Z (nI b) mn (nI n) (nI sN2) (nI st) flm va tp gv ts tw tm lv sl kd pt he ct fr2 to2 rl2 pi ph ps pm) H := hP
        have hD : va_D (fun q : Nat => s.heap.size ≤ q) (xw F Y (nI b) mn (nI n) (nI sN1) (nI st) flx gv ts tw tm lv sl ru su9 Lp9 f9 ++ mw G Z (nI b) mn (nI n) (nI sN2) (nI st) flm va tp gv ts tw tm lv sl kd pt he ct fr2 to2 rl2 pi ph ps pm) := hD
        have ee := e1.trans e2.symm
        have er : r1 = r2 := (Prod.mk.inj ee).1
        have eu := (Prod.mk.inj ee).2
        cases eu
        refine lv_icmp_eq (tgt := 502) hx hb dL_law_372 (by decide) (fun c_372 => ?_) (fun c_372 => ?_)
        · refine lv_iinc (v := (nI iq) + 7) (lv' := [(3, .int ((nI iq) + 7)), (0, .ref bq), (1, .ref (F 0)), (2, .ref (G 0))]) hx hb dL_law_502 hl (k := 3) rfl rfl (by decide) rfl (fun ls hl => ?_)
          refine lv_goto (tgt := 18) hx hb dL_law_505 (by decide) ?_
          refine W.widen (k := 20 + (iq + 7)) (n := 1000 + 8 * (iq + 7)) (by omega) (by omega) ?_
          exact ih (iq + 7) b n sN1 st mn gv ts tw tm lv sl kd pt he ct fr1 to1 rl1 flx ru su9 Lp9 f9 flm va tp pi ph ps pm _ _ ls (by omega) (by omega) (inv_sluice hI e1) hR1 hP hD hS (lv_sub (l' := [(0, .ref bq), (1, .ref (F 0)), (2, .ref (G 0)), (3, .int (nI (iq + 7)))]) hl [1, 2, 3, 0] (by rw [← nI_7]; rfl))
        · exact absurd (er) c_372
      by_cases k_33_8 : ((xs (nI iq).toNatClampNeg) &&& 15) = 8
      · refine lv_tableIn (off := 344) (tgt := 377) hx hb dL_law_33 (by rw [k_33_8]; decide) (by rw [k_33_8]; decide) (by rw [k_33_8]; rfl) (by decide) ?_
        refine lv_aload_n hx hb dL_law_377 rfl (lv_at hl 1 rfl) ?_
        refine lv_aload_n hx hb dL_law_378 rfl (lv_at hl 0 rfl) ?_
        refine lv_iload_n hx hb dL_law_379 rfl (lv_at hl 3 rfl) ?_
        refine lv_iconst (v := 1) hx hb dL_law_380 (by decide) ?_
        refine lv_iadd hx hb dL_law_381 ?_
        refine va_sld hx hb hX hbl hbA hS (in_sc 1 (by omega) hL) dL_law_382 ?_
        refine lv_aload_n hx hb dL_law_383 rfl (lv_at hl 0 rfl) ?_
        refine lv_iload_n hx hb dL_law_384 rfl (lv_at hl 3 rfl) ?_
        refine lv_iconst (v := 2) hx hb dL_law_385 (by decide) ?_
        refine lv_iadd hx hb dL_law_386 ?_
        refine va_sld hx hb hX hbl hbA hS (in_sc 2 (by omega) hL) dL_law_387 ?_
        refine WrI.callL (As := [.int (xs (nI iq + 1).toNatClampNeg), .int (xs (nI iq + 2).toNatClampNeg)]) (rest := []) (c_X2_run hR hI.2.1 hI.1 hI.2.2.2.1 hI.2.2.1 hI.2.2.2.2.1 hI.2.2.2.2.2 (xs (nI iq + 1).toNatClampNeg) (xs (nI iq + 2).toNatClampNeg)) ⟨hx, hb, hml, hown, hts⟩ (cwV 2 hts gL_law_X2_run rfl rfl rfl (by decide +kernel) ⟨Nat.le_of_ble_eq_true rfl, Nat.le_of_ble_eq_true rfl⟩) hP hD hS hA hKX hN 0 2 rfl rfl rfl hl.1 rfl (Nat.le_of_ble_eq_true rfl) dL_law_388 ⟨by show 20 + iq + 0 ≤ 600000; omega, by show 1000 + 8 * iq + 0 ≤ 7302250; omega⟩ (fun r1 u1 H locs e1 hP hD hS => ?_)
        obtain ⟨⟨lv1, ct1, st1, ts1, tw1, tm1⟩, flx9, f9⟩ := u1
        obtain ⟨e1, hR1, hwl1⟩ := e1
        have hP : va_P D vwCl (xw F Y (nI b) mn (nI n) (nI sN) (nI st1) flx9 gv ts1 tw1 tm1 lv1 sl ru su Lp f9 ++ mw G Z (nI b) mn (nI n) (nI sN) (nI st) flm va tp gv ts tw tm lv sl kd pt he ct fr to rl pi ph ps pm) H := hP
        have hD : va_D (fun q : Nat => s.heap.size ≤ q) (xw F Y (nI b) mn (nI n) (nI sN) (nI st1) flx9 gv ts1 tw1 tm1 lv1 sl ru su Lp f9 ++ mw G Z (nI b) mn (nI n) (nI sN) (nI st) flm va tp gv ts tw tm lv sl kd pt he ct fr to rl pi ph ps pm) := hD
        have hR1 : xRel n sN kd pt he ct1 fr to rl ru su Lp f9 := hR1
        refine lv_aload_n hx hb dL_law_391 rfl (lv_at hl 2 rfl) ?_
        refine lv_aload_n hx hb dL_law_392 rfl (lv_at hl 0 rfl) ?_
        refine lv_iload_n hx hb dL_law_393 rfl (lv_at hl 3 rfl) ?_
        refine lv_iconst (v := 1) hx hb dL_law_394 (by decide) ?_
        refine lv_iadd hx hb dL_law_395 ?_
        refine va_sld hx hb hX hbl hbA hS (in_sc 1 (by omega) hL) dL_law_396 ?_
        refine lv_aload_n hx hb dL_law_397 rfl (lv_at hl 0 rfl) ?_
        refine lv_iload_n hx hb dL_law_398 rfl (lv_at hl 3 rfl) ?_
        refine lv_iconst (v := 2) hx hb dL_law_399 (by decide) ?_
        refine lv_iadd hx hb dL_law_400 ?_
        refine va_sld hx hb hX hbl hbA hS (in_sc 2 (by omega) hL) dL_law_401 ?_
        refine WrI.callR (As := [.int (xs (nI iq + 1).toNatClampNeg), .int (xs (nI iq + 2).toNatClampNeg)]) (rest := [.int r1]) (c_X3_run hI.2.1 hI.1 hI.2.2.2.1 hI.2.2.1 hI.2.2.2.2.1 hI.2.2.2.2.2 (xs (nI iq + 1).toNatClampNeg) (xs (nI iq + 2).toNatClampNeg)) ⟨hx, hb, hml, hown, hts⟩ (cwV 2 hts gL_law_X3_run rfl rfl rfl (by decide +kernel) ⟨Nat.le_of_ble_eq_true rfl, Nat.le_of_ble_eq_true rfl⟩) hP hD hS hA hKM hN 0 3 rfl rfl rfl hl.1 rfl (Nat.le_of_ble_eq_true rfl) dL_law_402 ⟨by show 20 + iq + 0 + 0 ≤ 600000; omega, by show 1000 + 8 * iq + 0 + 0 ≤ 7302250; omega⟩ (fun r2 u2 H locs e2 hP hD hS => ?_)
        obtain ⟨⟨lv2, ct2, st2, ts2, tw2, tm2⟩, flm9, va9, tp9, pi9, ph9, ps9, pm9⟩ := u2
        obtain ⟨e2, -⟩ := e2
        have hP : va_P D vwCl (xw F Y (nI b) mn (nI n) (nI sN) (nI st1) flx9 gv ts1 tw1 tm1 lv1 sl ru su Lp f9 ++ mw G Z (nI b) mn (nI n) (nI sN) (nI st2) flm9 va9 tp9 gv ts2 tw2 tm2 lv2 sl kd pt he ct2 fr to rl pi9 ph9 ps9 pm9) H := hP
        have hD : va_D (fun q : Nat => s.heap.size ≤ q) (xw F Y (nI b) mn (nI n) (nI sN) (nI st1) flx9 gv ts1 tw1 tm1 lv1 sl ru su Lp f9 ++ mw G Z (nI b) mn (nI n) (nI sN) (nI st2) flm9 va9 tp9 gv ts2 tw2 tm2 lv2 sl kd pt he ct2 fr to rl pi9 ph9 ps9 pm9) := hD
        have ee := e1.trans e2.symm
        have er : r1 = r2 := (Prod.mk.inj ee).1
        have eu := (Prod.mk.inj ee).2
        cases eu
        refine lv_icmp_eq (tgt := 502) hx hb dL_law_405 (by decide) (fun c_405 => ?_) (fun c_405 => ?_)
        · refine lv_iinc (v := (nI iq) + 7) (lv' := [(3, .int ((nI iq) + 7)), (0, .ref bq), (1, .ref (F 0)), (2, .ref (G 0))]) hx hb dL_law_502 hl (k := 3) rfl rfl (by decide) rfl (fun ls hl => ?_)
          refine lv_goto (tgt := 18) hx hb dL_law_505 (by decide) ?_
          refine W.widen (k := 20 + (iq + 7)) (n := 1000 + 8 * (iq + 7)) (by omega) (by omega) ?_
          exact ih (iq + 7) b n sN st1 mn gv ts1 tw1 tm1 lv1 sl kd pt he ct1 fr to rl flx9 ru su Lp f9 flm9 va9 tp9 pi9 ph9 ps9 pm9 _ _ ls (by omega) (by omega) (⟨hI.1, hI.2.1, hI.2.2.1, hI.2.2.2.1, hwl1, hI.2.2.2.2.2⟩) hR1 hP hD hS (lv_sub (l' := [(0, .ref bq), (1, .ref (F 0)), (2, .ref (G 0)), (3, .int (nI (iq + 7)))]) hl [1, 2, 3, 0] (by rw [← nI_7]; rfl))
        · exact absurd (er) c_405
      by_cases k_33_9 : ((xs (nI iq).toNatClampNeg) &&& 15) = 9
      · refine lv_tableIn (off := 377) (tgt := 410) hx hb dL_law_33 (by rw [k_33_9]; decide) (by rw [k_33_9]; decide) (by rw [k_33_9]; rfl) (by decide) ?_
        refine lv_aload_n hx hb dL_law_410 rfl (lv_at hl 1 rfl) ?_
        refine lv_aload_n hx hb dL_law_411 rfl (lv_at hl 0 rfl) ?_
        refine lv_iload_n hx hb dL_law_412 rfl (lv_at hl 3 rfl) ?_
        refine lv_iconst (v := 1) hx hb dL_law_413 (by decide) ?_
        refine lv_iadd hx hb dL_law_414 ?_
        refine va_sld hx hb hX hbl hbA hS (in_sc 1 (by omega) hL) dL_law_415 ?_
        refine RoI.callV (As := [.int (xs (nI iq + 1).toNatClampNeg)]) (rest := []) (c_X2_told (xs (nI iq + 1).toNatClampNeg)) ⟨hx, hb, hml, hown, hts⟩ (cwV 1 hts gL_law_X2_told rfl rfl rfl (by decide +kernel) ⟨Nat.le_of_ble_eq_true rfl, Nat.le_of_ble_eq_true rfl⟩) (P_left hP) hKX hN 0 2 rfl rfl rfl hl.1 rfl (Nat.le_of_ble_eq_true rfl) dL_law_416 ⟨by show 20 + iq + 0 ≤ 600000; omega, by show 1000 + 8 * iq + 0 ≤ 7302250; omega⟩ (fun r1 e1 => ?_)
        refine lv_aload_n hx hb dL_law_419 rfl (lv_at hl 2 rfl) ?_
        refine lv_aload_n hx hb dL_law_420 rfl (lv_at hl 0 rfl) ?_
        refine lv_iload_n hx hb dL_law_421 rfl (lv_at hl 3 rfl) ?_
        refine lv_iconst (v := 1) hx hb dL_law_422 (by decide) ?_
        refine lv_iadd hx hb dL_law_423 ?_
        refine va_sld hx hb hX hbl hbA hS (in_sc 1 (by omega) hL) dL_law_424 ?_
        refine RoI.callV (As := [.int (xs (nI iq + 1).toNatClampNeg)]) (rest := [.int r1]) (c_X3_told (xs (nI iq + 1).toNatClampNeg)) ⟨hx, hb, hml, hown, hts⟩ (cwV 1 hts gL_law_X3_told rfl rfl rfl (by decide +kernel) ⟨Nat.le_of_ble_eq_true rfl, Nat.le_of_ble_eq_true rfl⟩) (P_right hP) hKM hN 0 3 rfl rfl rfl hl.1 rfl (Nat.le_of_ble_eq_true rfl) dL_law_425 ⟨by show 20 + iq + 0 ≤ 600000; omega, by show 1000 + 8 * iq + 0 ≤ 7302250; omega⟩ (fun r2 e2 => ?_)
        refine lv_icmp_eq (tgt := 502) hx hb dL_law_428 (by decide) (fun c_428 => ?_) (fun c_428 => ?_)
        · refine lv_iinc (v := (nI iq) + 7) (lv' := [(3, .int ((nI iq) + 7)), (0, .ref bq), (1, .ref (F 0)), (2, .ref (G 0))]) hx hb dL_law_502 hl (k := 3) rfl rfl (by decide) rfl (fun ls hl => ?_)
          refine lv_goto (tgt := 18) hx hb dL_law_505 (by decide) ?_
          refine W.widen (k := 20 + (iq + 7)) (n := 1000 + 8 * (iq + 7)) (by omega) (by omega) ?_
          exact ih (iq + 7) b n sN st mn gv ts tw tm lv sl kd pt he ct fr to rl flx ru su Lp f flm va tp pi ph ps pm _ _ ls (by omega) (by omega) (hI) hR hP hD hS (lv_sub (l' := [(0, .ref bq), (1, .ref (F 0)), (2, .ref (G 0)), (3, .int (nI (iq + 7)))]) hl [1, 2, 3, 0] (by rw [← nI_7]; rfl))
        · exact absurd (e1.trans e2.symm) c_428
      by_cases k_33_10 : ((xs (nI iq).toNatClampNeg) &&& 15) = 10
      · refine lv_tableIn (off := 400) (tgt := 433) hx hb dL_law_33 (by rw [k_33_10]; decide) (by rw [k_33_10]; decide) (by rw [k_33_10]; rfl) (by decide) ?_
        refine lv_aload_n hx hb dL_law_433 rfl (lv_at hl 1 rfl) ?_
        refine lv_aload_n hx hb dL_law_434 rfl (lv_at hl 0 rfl) ?_
        refine lv_iload_n hx hb dL_law_435 rfl (lv_at hl 3 rfl) ?_
        refine lv_iconst (v := 1) hx hb dL_law_436 (by decide) ?_
        refine lv_iadd hx hb dL_law_437 ?_
        refine va_sld hx hb hX hbl hbA hS (in_sc 1 (by omega) hL) dL_law_438 ?_
        refine RoI.callV (As := [.int (xs (nI iq + 1).toNatClampNeg)]) (rest := []) (c_X2_level hI.1 (xs (nI iq + 1).toNatClampNeg)) ⟨hx, hb, hml, hown, hts⟩ (cwV 1 hts gL_law_X2_level rfl rfl rfl (by decide +kernel) ⟨Nat.le_of_ble_eq_true rfl, Nat.le_of_ble_eq_true rfl⟩) (P_left hP) hKX hN 0 2 rfl rfl rfl hl.1 rfl (Nat.le_of_ble_eq_true rfl) dL_law_439 ⟨by show 20 + iq + 0 ≤ 600000; omega, by show 1000 + 8 * iq + 0 ≤ 7302250; omega⟩ (fun r1 e1 => ?_)
        refine lv_aload_n hx hb dL_law_442 rfl (lv_at hl 2 rfl) ?_
        refine lv_aload_n hx hb dL_law_443 rfl (lv_at hl 0 rfl) ?_
        refine lv_iload_n hx hb dL_law_444 rfl (lv_at hl 3 rfl) ?_
        refine lv_iconst (v := 1) hx hb dL_law_445 (by decide) ?_
        refine lv_iadd hx hb dL_law_446 ?_
        refine va_sld hx hb hX hbl hbA hS (in_sc 1 (by omega) hL) dL_law_447 ?_
        refine RoI.callV (As := [.int (xs (nI iq + 1).toNatClampNeg)]) (rest := [.int r1]) (c_X3_level hI.1 (xs (nI iq + 1).toNatClampNeg)) ⟨hx, hb, hml, hown, hts⟩ (cwV 1 hts gL_law_X3_level rfl rfl rfl (by decide +kernel) ⟨Nat.le_of_ble_eq_true rfl, Nat.le_of_ble_eq_true rfl⟩) (P_right hP) hKM hN 0 3 rfl rfl rfl hl.1 rfl (Nat.le_of_ble_eq_true rfl) dL_law_448 ⟨by show 20 + iq + 0 ≤ 600000; omega, by show 1000 + 8 * iq + 0 ≤ 7302250; omega⟩ (fun r2 e2 => ?_)
        refine lv_icmp_eq (tgt := 502) hx hb dL_law_451 (by decide) (fun c_451 => ?_) (fun c_451 => ?_)
        · refine lv_iinc (v := (nI iq) + 7) (lv' := [(3, .int ((nI iq) + 7)), (0, .ref bq), (1, .ref (F 0)), (2, .ref (G 0))]) hx hb dL_law_502 hl (k := 3) rfl rfl (by decide) rfl (fun ls hl => ?_)
          refine lv_goto (tgt := 18) hx hb dL_law_505 (by decide) ?_
          refine W.widen (k := 20 + (iq + 7)) (n := 1000 + 8 * (iq + 7)) (by omega) (by omega) ?_
          exact ih (iq + 7) b n sN st mn gv ts tw tm lv sl kd pt he ct fr to rl flx ru su Lp f flm va tp pi ph ps pm _ _ ls (by omega) (by omega) (hI) hR hP hD hS (lv_sub (l' := [(0, .ref bq), (1, .ref (F 0)), (2, .ref (G 0)), (3, .int (nI (iq + 7)))]) hl [1, 2, 3, 0] (by rw [← nI_7]; rfl))
        · exact absurd (e1.trans e2.symm) c_451
      by_cases k_33_11 : ((xs (nI iq).toNatClampNeg) &&& 15) = 11
      · refine lv_tableIn (off := 423) (tgt := 456) hx hb dL_law_33 (by rw [k_33_11]; decide) (by rw [k_33_11]; decide) (by rw [k_33_11]; rfl) (by decide) ?_
        refine lv_aload_n hx hb dL_law_456 rfl (lv_at hl 1 rfl) ?_
        refine lv_aload_n hx hb dL_law_457 rfl (lv_at hl 0 rfl) ?_
        refine lv_iload_n hx hb dL_law_458 rfl (lv_at hl 3 rfl) ?_
        refine lv_iconst (v := 1) hx hb dL_law_459 (by decide) ?_
        refine lv_iadd hx hb dL_law_460 ?_
        refine va_sld hx hb hX hbl hbA hS (in_sc 1 (by omega) hL) dL_law_461 ?_
        refine RoI.callV (As := [.int (xs (nI iq + 1).toNatClampNeg)]) (rest := []) (c_X2_counted hR hI.2.1 (xs (nI iq + 1).toNatClampNeg)) ⟨hx, hb, hml, hown, hts⟩ (cwV 1 hts gL_law_X2_counted rfl rfl rfl (by decide +kernel) ⟨Nat.le_of_ble_eq_true rfl, Nat.le_of_ble_eq_true rfl⟩) (P_left hP) hKX hN 0 2 rfl rfl rfl hl.1 rfl (Nat.le_of_ble_eq_true rfl) dL_law_462 ⟨by show 20 + iq + 0 ≤ 600000; omega, by show 1000 + 8 * iq + 0 ≤ 7302250; omega⟩ (fun r1 e1 => ?_)
        refine lv_aload_n hx hb dL_law_465 rfl (lv_at hl 2 rfl) ?_
        refine lv_aload_n hx hb dL_law_466 rfl (lv_at hl 0 rfl) ?_
        refine lv_iload_n hx hb dL_law_467 rfl (lv_at hl 3 rfl) ?_
        refine lv_iconst (v := 1) hx hb dL_law_468 (by decide) ?_
        refine lv_iadd hx hb dL_law_469 ?_
        refine va_sld hx hb hX hbl hbA hS (in_sc 1 (by omega) hL) dL_law_470 ?_
        refine RoI.callV (As := [.int (xs (nI iq + 1).toNatClampNeg)]) (rest := [.int r1]) (c_X3_counted hI.2.1 (xs (nI iq + 1).toNatClampNeg)) ⟨hx, hb, hml, hown, hts⟩ (cwV 1 hts gL_law_X3_counted rfl rfl rfl (by decide +kernel) ⟨Nat.le_of_ble_eq_true rfl, Nat.le_of_ble_eq_true rfl⟩) (P_right hP) hKM hN 0 3 rfl rfl rfl hl.1 rfl (Nat.le_of_ble_eq_true rfl) dL_law_471 ⟨by show 20 + iq + 0 ≤ 600000; omega, by show 1000 + 8 * iq + 0 ≤ 7302250; omega⟩ (fun r2 e2 => ?_)
        refine lv_icmp_eq (tgt := 502) hx hb dL_law_474 (by decide) (fun c_474 => ?_) (fun c_474 => ?_)
        · refine lv_iinc (v := (nI iq) + 7) (lv' := [(3, .int ((nI iq) + 7)), (0, .ref bq), (1, .ref (F 0)), (2, .ref (G 0))]) hx hb dL_law_502 hl (k := 3) rfl rfl (by decide) rfl (fun ls hl => ?_)
          refine lv_goto (tgt := 18) hx hb dL_law_505 (by decide) ?_
          refine W.widen (k := 20 + (iq + 7)) (n := 1000 + 8 * (iq + 7)) (by omega) (by omega) ?_
          exact ih (iq + 7) b n sN st mn gv ts tw tm lv sl kd pt he ct fr to rl flx ru su Lp f flm va tp pi ph ps pm _ _ ls (by omega) (by omega) (hI) hR hP hD hS (lv_sub (l' := [(0, .ref bq), (1, .ref (F 0)), (2, .ref (G 0)), (3, .int (nI (iq + 7)))]) hl [1, 2, 3, 0] (by rw [← nI_7]; rfl))
        · exact absurd (e1.trans e2.symm) c_474
      by_cases k_33_12 : ((xs (nI iq).toNatClampNeg) &&& 15) = 12
      · refine lv_tableIn (off := 446) (tgt := 479) hx hb dL_law_33 (by rw [k_33_12]; decide) (by rw [k_33_12]; decide) (by rw [k_33_12]; rfl) (by decide) ?_
        refine lv_aload_n hx hb dL_law_479 rfl (lv_at hl 1 rfl) ?_
        refine lv_aload_n hx hb dL_law_480 rfl (lv_at hl 0 rfl) ?_
        refine lv_iload_n hx hb dL_law_481 rfl (lv_at hl 3 rfl) ?_
        refine lv_iconst (v := 1) hx hb dL_law_482 (by decide) ?_
        refine lv_iadd hx hb dL_law_483 ?_
        refine va_sld hx hb hX hbl hbA hS (in_sc 1 (by omega) hL) dL_law_484 ?_
        refine RoI.callV (As := [.int (xs (nI iq + 1).toNatClampNeg)]) (rest := []) (c_X2_count (xs (nI iq + 1).toNatClampNeg)) ⟨hx, hb, hml, hown, hts⟩ (cwV 1 hts gL_law_X2_count rfl rfl rfl (by decide +kernel) ⟨Nat.le_of_ble_eq_true rfl, Nat.le_of_ble_eq_true rfl⟩) (P_left hP) hKX hN 0 2 rfl rfl rfl hl.1 rfl (Nat.le_of_ble_eq_true rfl) dL_law_485 ⟨by show 20 + iq + 0 ≤ 600000; omega, by show 1000 + 8 * iq + 0 ≤ 7302250; omega⟩ (fun r1 e1 => ?_)
        refine lv_aload_n hx hb dL_law_488 rfl (lv_at hl 2 rfl) ?_
        refine lv_aload_n hx hb dL_law_489 rfl (lv_at hl 0 rfl) ?_
        refine lv_iload_n hx hb dL_law_490 rfl (lv_at hl 3 rfl) ?_
        refine lv_iconst (v := 1) hx hb dL_law_491 (by decide) ?_
        refine lv_iadd hx hb dL_law_492 ?_
        refine va_sld hx hb hX hbl hbA hS (in_sc 1 (by omega) hL) dL_law_493 ?_
        refine RoI.callV (As := [.int (xs (nI iq + 1).toNatClampNeg)]) (rest := [.int r1]) (c_X3_count (xs (nI iq + 1).toNatClampNeg)) ⟨hx, hb, hml, hown, hts⟩ (cwV 1 hts gL_law_X3_count rfl rfl rfl (by decide +kernel) ⟨Nat.le_of_ble_eq_true rfl, Nat.le_of_ble_eq_true rfl⟩) (P_right hP) hKM hN 0 3 rfl rfl rfl hl.1 rfl (Nat.le_of_ble_eq_true rfl) dL_law_494 ⟨by show 20 + iq + 0 ≤ 600000; omega, by show 1000 + 8 * iq + 0 ≤ 7302250; omega⟩ (fun r2 e2 => ?_)
        refine lv_icmp_eq (tgt := 502) hx hb dL_law_497 (by decide) (fun c_497 => ?_) (fun c_497 => ?_)
        · refine lv_iinc (v := (nI iq) + 7) (lv' := [(3, .int ((nI iq) + 7)), (0, .ref bq), (1, .ref (F 0)), (2, .ref (G 0))]) hx hb dL_law_502 hl (k := 3) rfl rfl (by decide) rfl (fun ls hl => ?_)
          refine lv_goto (tgt := 18) hx hb dL_law_505 (by decide) ?_
          refine W.widen (k := 20 + (iq + 7)) (n := 1000 + 8 * (iq + 7)) (by omega) (by omega) ?_
          exact ih (iq + 7) b n sN st mn gv ts tw tm lv sl kd pt he ct fr to rl flx ru su Lp f flm va tp pi ph ps pm _ _ ls (by omega) (by omega) (hI) hR hP hD hS (lv_sub (l' := [(0, .ref bq), (1, .ref (F 0)), (2, .ref (G 0)), (3, .int (nI (iq + 7)))]) hl [1, 2, 3, 0] (by rw [← nI_7]; rfl))
        · exact absurd (e1.trans e2.symm) c_497
      · have z_33 : ¬ ((xs (nI iq).toNatClampNeg) &&& 15).toInt = 0 ∧ ¬ ((xs (nI iq).toNatClampNeg) &&& 15).toInt = 1 ∧ ¬ ((xs (nI iq).toNatClampNeg) &&& 15).toInt = 2 ∧ ¬ ((xs (nI iq).toNatClampNeg) &&& 15).toInt = 3 ∧ ¬ ((xs (nI iq).toNatClampNeg) &&& 15).toInt = 4 ∧ ¬ ((xs (nI iq).toNatClampNeg) &&& 15).toInt = 5 ∧ ¬ ((xs (nI iq).toNatClampNeg) &&& 15).toInt = 6 ∧ ¬ ((xs (nI iq).toNatClampNeg) &&& 15).toInt = 7 ∧ ¬ ((xs (nI iq).toNatClampNeg) &&& 15).toInt = 8 ∧ ¬ ((xs (nI iq).toNatClampNeg) &&& 15).toInt = 9 ∧ ¬ ((xs (nI iq).toNatClampNeg) &&& 15).toInt = 10 ∧ ¬ ((xs (nI iq).toNatClampNeg) &&& 15).toInt = 11 ∧ ¬ ((xs (nI iq).toNatClampNeg) &&& 15).toInt = 12 := by
          exact ⟨lv_neT k_33_0 (by decide), lv_neT k_33_1 (by decide), lv_neT k_33_2 (by decide), lv_neT k_33_3 (by decide), lv_neT k_33_4 (by decide), lv_neT k_33_5 (by decide), lv_neT k_33_6 (by decide), lv_neT k_33_7 (by decide), lv_neT k_33_8 (by decide), lv_neT k_33_9 (by decide), lv_neT k_33_10 (by decide), lv_neT k_33_11 (by decide), lv_neT k_33_12 (by decide)⟩
        refine lv_tableOut (tgt := 502) hx hb dL_law_33 (by omega) (by decide) ?_
        refine lv_iinc (v := (nI iq) + 7) (lv' := [(3, .int ((nI iq) + 7)), (0, .ref bq), (1, .ref (F 0)), (2, .ref (G 0))]) hx hb dL_law_502 hl (k := 3) rfl rfl (by decide) rfl (fun ls hl => ?_)
        refine lv_goto (tgt := 18) hx hb dL_law_505 (by decide) ?_
        refine W.widen (k := 20 + (iq + 7)) (n := 1000 + 8 * (iq + 7)) (by omega) (by omega) ?_
        exact ih (iq + 7) b n sN st mn gv ts tw tm lv sl kd pt he ct fr to rl flx ru su Lp f flm va tp pi ph ps pm _ _ ls (by omega) (by omega) (hI) hR hP hD hS (lv_sub (l' := [(0, .ref bq), (1, .ref (F 0)), (2, .ref (G 0)), (3, .int (nI (iq + 7)))]) hl [1, 2, 3, 0] (by rw [← nI_7]; rfl))
set_option maxRecDepth 100000 in
set_option maxHeartbeats 4000000 in
/-- THE LAW, from its entry -/
theorem whole_start {p : Program} {e : Env} {s : State} {m : MethodId} {below : List Frame} {meth : Method} {c : Code} (l : Launch) {b L : Nat} {xs : Nat → Int32} (hL : L ≤ 3584) (C0 : lw_At p s m meth c b L xs) : W p l e room_1 s m #[Value.ref b] below meth c s.heap [] 0 0 (lw_Z below #[Value.ref b] s) (entryFrame m ([Value.ref b] : List Value).toArray 4) := by
  obtain ⟨hx, hb, hr, hml, hown, hts0, hX, hbl, hlocks, hgv⟩ := id C0
  obtain ⟨hO0, hO1⟩ := ao_of hts0
  have hts : ∀ w ∈ wsL_law, w.before #[Value.ref b] s = true := fun w h => hts0 w (wsL_law_in w h)
  have hown : s.vm.findClass RL = some m.cls := hown
  have hA : ∀ q : Nat, s.heap.size ≤ q → (fun q : Nat => s.heap.size ≤ q) q := fun _ h => h
  obtain ⟨c0, iS0, hKn0⟩ := u_known (C := RX0) (T := TX0) (N := 8) (n := 8) hts inlX0 (hts (.instantiable RX0 8) (by decide +kernel))
  obtain ⟨c1, iS1, hKn1⟩ := u_known (C := RX1) (T := TX1) (N := 3) (n := 3) hts inlX1 (hts (.instantiable RX1 3) (by decide +kernel))
  obtain ⟨c2, iS2, hKn2⟩ := u_known (C := RX2) (T := TX2) (N := 14) (n := 14) hts inlX2 (hts (.instantiable RX2 14) (by decide +kernel))
  obtain ⟨c3, iS3, hKn3⟩ := u_known (C := RX3) (T := TX3) (N := 25) (n := 25) hts inlX3 (hts (.instantiable RX3 25) (by decide +kernel))
  obtain ⟨D, hKc⟩ : ∃ D : va_G, ∀ (k : Nat) (q : vw_C), vwCl[k]? = some q → u_Kn s q.1 q.2.1 q.2.2 (D.1 k) (D.2 k) := by
    refine ⟨(fun k => if k = 0 then c0 else if k = 1 then c1 else if k = 2 then c2 else c3, fun k => if k = 0 then iS0 else if k = 1 then iS1 else if k = 2 then iS2 else iS3), ?_⟩
    intro k q hq
    match k, hq with
    | 0, hq => cases hq; exact hKn0
    | 1, hq => cases hq; exact hKn1
    | 2, hq => cases hq; exact hKn2
    | 3, hq => cases hq; exact hKn3
    | k + 4, hq => simp [vwCl] at hq
  have hS : va_S (fun q : Nat => s.heap.size ≤ q) s.heap s.heap [] := va_S.rf
  have hK : va_K D vwCl [] s := ⟨hKc, fun k q h => by simp at h⟩
  have hP : va_P D vwCl [] s.heap := fun k q h => by simp at h
  have hD : va_D (fun q : Nat => s.heap.size ≤ q) [] := ⟨fun i j p q h => by simp at h, fun k q h => by simp at h⟩
  have hl := lv_entry ([.ref b]) (n := 4) (Nat.le_of_ble_eq_true rfl)
  rw [lg_entry_eq]
  generalize (lg_sl ([.ref b]) ++ List.replicate (4 - (lg_sl ([.ref b])).length) Slot.unset).toArray = ls at hl ⊢
  have hl : lv_has ls 4 [(0, .ref b)] := hl
  refine va_new (ci := 2) (fs := [.null, .int 0, .int 0, .null, .null, .int 0, .null, .int 0, .int 0, .int 0, .long 0, .int 0, .int 0, .int 0]) (C := RX2) (T := TX2) (N := 14) hx hb hts inlX2 tyX2 tyX2_ok hown (hts (.classLink RL 7 RX2) (by decide +kernel)) (hts (.instantiable RX2 14) (by decide +kernel)) (hts (.initialized RX2) (by decide +kernel)) hK hP hD hS hA rfl (fun j hj => by rcases (show j = 0 ∨ j = 1 ∨ j = 2 ∨ j = 3 ∨ j = 4 ∨ j = 5 ∨ j = 6 ∨ j = 7 ∨ j = 8 ∨ j = 9 ∨ j = 10 ∨ j = 11 ∨ j = 12 ∨ j = 13 by omega) with rfl | rfl | rfl | rfl | rfl | rfl | rfl | rfl | rfl | rfl | rfl | rfl | rfl | rfl <;> rfl) (Nat.le_of_ble_eq_true rfl) (Nat.le_of_ble_eq_true rfl) dL_law_0 (fun qx9 H hP hD hS => ?_)
  have hP : va_P D vwCl [(qx9, .inr (2, [.null, .int 0, .int 0, .null, .null, .int 0, .null, .int 0, .int 0, .int 0, .long 0, .int 0, .int 0, .int 0]))] H := hP
  have hD : va_D (fun q : Nat => s.heap.size ≤ q) [(qx9, .inr (2, [.null, .int 0, .int 0, .null, .null, .int 0, .null, .int 0, .int 0, .int 0, .long 0, .int 0, .int 0, .int 0]))] := hD
  refine W.widen (k := 1) (n := 14) (by omega) (by omega) ?_
  refine lv_dup hx hb dL_law_3 rfl ?_
  have hFc := wrFree hD hS hA
  refine va_callv (va_runI (As := []) (rest := [.ref qx9]) ⟨hx, hb, hml, hown, hts⟩ (c_X2_init (D := D) (h0 := qx9) H.size) (cwI 0 hts gL_law_X2_init rfl rfl rfl (hts (.initialized RX2) (by decide +kernel)) (hts (.methodLink RL 9 yX2_init) (by decide +kernel)) (hts (.instanceMethod yX2_init) (by decide +kernel)) rfl (by decide +kernel) ⟨Nat.le_of_ble_eq_true rfl, Nat.le_of_ble_eq_true rfl⟩) ⟨fun a U g mk q => by obtain ⟨q0, q1, qP, qK, qO, qO1, qD⟩ := q; exact ⟨q0, q1, qP, va_K.moved (u := U) (U := U.calling g mk a) (Vm.Alike.refl U.vm) qK, va_AO.moved (u := U) (U := U.calling g mk a) (Vm.Alike.refl U.vm) qO, va_AO.moved (u := U) (U := U.calling g mk a) (Vm.Alike.refl U.vm) qO1, qD⟩, fun U hU hW => ⟨rfl, by rw [hU], by rw [hU]; exact hP, va_K.moved hW.alike hK, va_AO.moved hW.alike hO0, va_AO.moved hW.alike hO1, hD.weaken (fun _ _ _ _ => trivial)⟩⟩ rfl rfl hl.1 rfl (lv_room (Nat.le_of_ble_eq_true rfl)) dL_law_4 ⟨Nat.le_of_ble_eq_true rfl, Nat.le_of_ble_eq_true rfl⟩) hS (fun q _ h => hFc q h) hFc (fun u t H1 locs ht hvm hw hB hz1 hk1 hS => ?_)
  obtain ⟨F, Y⟩ := u
  obtain ⟨hP1, hK1, hD1⟩ := hB
  rw [ht] at hP1
  have hKX : va_K D vwCl (xty Y) s := va_K.moved hvm.symm hK1
  have hw : F 0 = qx9 := hw
  subst hw
  have hP : va_P D vwCl (xw F Y (nI 0) 1 (nI 0) (nI 0) (nI 0) 0 0 (-1) 0 0 (fun _ => 0) (slI 8) (fun _ => none) (fun _ => none) [] (fun _ => .inr (0, []))) H1 := hP1
  have hD : va_D (fun q : Nat => s.heap.size ≤ q) (xw F Y (nI 0) 1 (nI 0) (nI 0) (nI 0) 0 0 (-1) 0 0 (fun _ => 0) (slI 8) (fun _ => none) (fun _ => none) [] (fun _ => .inr (0, []))) := hD1.weaken (fun _ _ _ h => hFc _ h)
  clear hP1 hD1 hFc hk1 hz1 ht
  generalize H1 = H at hP hS ⊢
  refine W.widen (k := 5) (n := 78) (by omega) (by omega) ?_
  refine lv_astore_n (lv' := [(1, .ref (F 0)), (0, .ref b)]) hx hb dL_law_7 rfl hl (by decide) rfl (fun ls hl => ?_)
  refine va_new (ci := 3) (fs := [.int 0, .null, .int 0, .null, .int 0, .null, .null, .null, .null, .int 0, .null, .null, .null, .int 0, .int 0, .long 0, .int 0, .null, .null, .null, .null, .long 0, .int 0, .int 0, .int 0]) (C := RX3) (T := TX3) (N := 25) hx hb hts inlX3 tyX3 tyX3_ok hown (hts (.classLink RL 10 RX3) (by decide +kernel)) (hts (.instantiable RX3 25) (by decide +kernel)) (hts (.initialized RX3) (by decide +kernel)) hK hP hD hS hA rfl (fun j hj => by rcases (show j = 0 ∨ j = 1 ∨ j = 2 ∨ j = 3 ∨ j = 4 ∨ j = 5 ∨ j = 6 ∨ j = 7 ∨ j = 8 ∨ j = 9 ∨ j = 10 ∨ j = 11 ∨ j = 12 ∨ j = 13 ∨ j = 14 ∨ j = 15 ∨ j = 16 ∨ j = 17 ∨ j = 18 ∨ j = 19 ∨ j = 20 ∨ j = 21 ∨ j = 22 ∨ j = 23 ∨ j = 24 by omega) with rfl | rfl | rfl | rfl | rfl | rfl | rfl | rfl | rfl | rfl | rfl | rfl | rfl | rfl | rfl | rfl | rfl | rfl | rfl | rfl | rfl | rfl | rfl | rfl | rfl <;> rfl) (Nat.le_of_ble_eq_true rfl) (Nat.le_of_ble_eq_true rfl) dL_law_8 (fun qm9 H hP hD hS => ?_)
  have hP : va_P D vwCl (xw F Y (nI 0) 1 (nI 0) (nI 0) (nI 0) 0 0 (-1) 0 0 (fun _ => 0) (slI 8) (fun _ => none) (fun _ => none) [] (fun _ => .inr (0, [])) ++ [(qm9, .inr (3, [.int 0, .null, .int 0, .null, .int 0, .null, .null, .null, .null, .int 0, .null, .null, .null, .int 0, .int 0, .long 0, .int 0, .null, .null, .null, .null, .long 0, .int 0, .int 0, .int 0]))]) H := hP
  have hD : va_D (fun q : Nat => s.heap.size ≤ q) (xw F Y (nI 0) 1 (nI 0) (nI 0) (nI 0) 0 0 (-1) 0 0 (fun _ => 0) (slI 8) (fun _ => none) (fun _ => none) [] (fun _ => .inr (0, [])) ++ [(qm9, .inr (3, [.int 0, .null, .int 0, .null, .int 0, .null, .null, .null, .null, .int 0, .null, .null, .null, .int 0, .int 0, .long 0, .int 0, .null, .null, .null, .null, .long 0, .int 0, .int 0, .int 0]))]) := hD
  refine W.widen (k := 6) (n := 103) (by omega) (by omega) ?_
  refine lv_dup hx hb dL_law_11 rfl ?_
  have hFc := frFree hD hS hA
  refine va_callv (va_runI (As := []) (rest := [.ref qm9]) ⟨hx, hb, hml, hown, hts⟩ (c_X3_init (D := D) (h0 := qm9) H.size) (cwI 0 hts gL_law_X3_init rfl rfl rfl (hts (.initialized RX3) (by decide +kernel)) (hts (.methodLink RL 12 yX3_init) (by decide +kernel)) (hts (.instanceMethod yX3_init) (by decide +kernel)) rfl (by decide +kernel) ⟨Nat.le_of_ble_eq_true rfl, Nat.le_of_ble_eq_true rfl⟩) ⟨fun a U g mk q => by obtain ⟨q0, q1, qP, qK, qD⟩ := q; exact ⟨q0, q1, qP, va_K.moved (u := U) (U := U.calling g mk a) (Vm.Alike.refl U.vm) qK, qD⟩, fun U hU hW => ⟨rfl, by rw [hU], by rw [hU]; exact P_right hP, va_K.moved hW.alike hK, (D_right hD).weaken (fun _ _ _ _ => trivial)⟩⟩ rfl rfl hl.1 rfl (lv_room (Nat.le_of_ble_eq_true rfl)) dL_law_12 ⟨Nat.le_of_ble_eq_true rfl, Nat.le_of_ble_eq_true rfl⟩) hS (fun q _ h => hFc q h) hFc (fun u t H1 locs ht hvm hw hB hz1 hk1 hS => ?_)
  obtain ⟨G, Z⟩ := u
  obtain ⟨hP1, hK1, hD1⟩ := hB
  rw [ht] at hP1
  have hKM : va_K D vwCl (mty Z) s := va_K.moved hvm.symm hK1
  have hw : G 0 = qm9 := hw
  subst hw
  obtain ⟨hP, hD⟩ := fr_join hP hD hk1 hFc hP1 hD1
  clear hP1 hD1 hFc hk1 hz1 ht
  generalize H1 = H at hP hS ⊢
  have hP : va_P D vwCl (xw F Y (nI 0) 1 (nI 0) (nI 0) (nI 0) 0 0 (-1) 0 0 (fun _ => 0) (slI 8) (fun _ => none) (fun _ => none) [] (fun _ => .inr (0, [])) ++ mw G Z (nI 0) 1 (nI 0) (nI 0) (nI 0) 0 0 0 0 (-1) 0 0 (fun _ => 0) (slI 8) (fun _ => 0) (fun _ => 0) (fun _ => 0) (fun _ => 0) (fun _ => 0) (fun _ => 0) (fun _ => 0) (fun _ => 0) (fun _ => 0) (fun _ => 0) (fun _ => 0)) H := hP
  have hD : va_D (fun q : Nat => s.heap.size ≤ q) (xw F Y (nI 0) 1 (nI 0) (nI 0) (nI 0) 0 0 (-1) 0 0 (fun _ => 0) (slI 8) (fun _ => none) (fun _ => none) [] (fun _ => .inr (0, [])) ++ mw G Z (nI 0) 1 (nI 0) (nI 0) (nI 0) 0 0 0 0 (-1) 0 0 (fun _ => 0) (slI 8) (fun _ => 0) (fun _ => 0) (fun _ => 0) (fun _ => 0) (fun _ => 0) (fun _ => 0) (fun _ => 0) (fun _ => 0) (fun _ => 0) (fun _ => 0) (fun _ => 0)) := hD
  refine W.widen (k := 20 + 0) (n := 1000 + 8 * 0) (by omega) (by omega) ?_
  refine lv_astore_n (lv' := [(2, .ref (G 0)), (1, .ref (F 0)), (0, .ref b)]) hx hb dL_law_15 rfl hl (by decide) rfl (fun ls hl => ?_)
  refine lv_iconst (v := 0) hx hb dL_law_16 (by decide) ?_
  refine lv_istore_n (lv' := [(3, .int 0), (2, .ref (G 0)), (1, .ref (F 0)), (0, .ref b)]) hx hb dL_law_17 rfl hl (by decide) rfl (fun ls hl => ?_)
  exact law_loop hL C0 hKX hKM (L + 1) 0 0 0 0 0 1 0 (-1) 0 0 (fun _ => 0) (slI 8) (fun _ => 0) (fun _ => 0) (fun _ => 0) (fun _ => 0) (fun _ => 0) (fun _ => 0) (fun _ => 0) 0 (fun _ => none) (fun _ => none) [] (fun _ => .inr (0, [])) 0 0 0 (fun _ => 0) (fun _ => 0) (fun _ => 0) (fun _ => 0) _ _ ls (by omega) (by omega)
    ⟨by decide, by decide, by decide, ⟨fun k hk => absurd hk (by omega), fun k hk => by rw [slI_in 8 k hk]; rfl⟩, fun k hk => absurd hk (by omega), fun k hk => absurd hk (by omega)⟩
    ⟨fun k hk => absurd hk (by omega), fun _ _ _ => rfl, fun i j a hi => absurd hi (by omega), fun k hk => absurd hk (by omega), fun _ _ _ => rfl⟩
    hP hD hS (lv_sub (l' := [(0, .ref b), (1, .ref (F 0)), (2, .ref (G 0)), (3, .int (nI 0))]) hl [3, 2, 1, 0] (by rw [nI_0]; rfl))
