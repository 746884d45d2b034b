/-! my own words over the kit: contracts that read, contracts that write, their entries, calls and ends -/
def nst (U : State) : Prop :=
  va_Nw (.fieldLinkNest RX2 108 RX0 "kind" "I" RX2) U ∧ va_Nw (.fieldLinkNest RX2 117 RX0 "a" "I" RX2) U ∧ va_Nw (.fieldLinkNest RX2 120 RX0 "b" "I" RX2) U ∧
  va_Nw (.fieldLinkNest RX2 132 RX0 "c" "I" RX2) U ∧ va_Nw (.fieldLinkNest RX2 175 RX0 "d" "I" RX2) U ∧ va_Nw (.fieldLinkNest RX2 178 RX0 "e" "I" RX2) U ∧
  va_Nw (.fieldLinkNest RX2 82 RX0 "held" "J" RX2) U ∧ va_Nw (.fieldLinkNest RX2 104 RX0 "counter" "I" RX2) U ∧
  va_Nw (.fieldLinkNest RX2 188 RX1 "from" "I" RX2) U ∧ va_Nw (.fieldLinkNest RX2 191 RX1 "to" "I" RX2) U ∧ va_Nw (.fieldLinkNest RX2 181 RX1 "rule" "I" RX2) U ∧
  va_Nw (.methodLinkNest RX2 79 yX0_init RX2) U ∧ va_Nw (.methodLinkNest RX2 95 yX1_init RX2) U
theorem nst.warm {s U : State} (hW : s.WarmedH U.vm) (h : nst s) : nst U := by
  obtain ⟨a1, a2, a3, a4, a5, a6, a7, a8, a9, a10, a11, a12, a13⟩ := h
  exact ⟨a1.warmF hW, a2.warmF hW, a3.warmF hW, a4.warmF hW, a5.warmF hW, a6.warmF hW, a7.warmF hW, a8.warmF hW, a9.warmF hW, a10.warmF hW, a11.warmF hW, a12.warmM hW, a13.warmM hW⟩
theorem nst.same {u U : State} (e : u.vm = U.vm) (h : nst u) : nst U := by
  obtain ⟨a1, a2, a3, a4, a5, a6, a7, a8, a9, a10, a11, a12, a13⟩ := h
  exact ⟨a1.same rfl e, a2.same rfl e, a3.same rfl e, a4.same rfl e, a5.same rfl e, a6.same rfl e, a7.same rfl e, a8.same rfl e, a9.same rfl e, a10.same rfl e, a11.same rfl e, a12.same rfl e, a13.same rfl e⟩
theorem nf_108 {a : Array Value} {U : State} (h : nst U) : (Cond.fieldLinkNest RX2 108 RX0 "kind" "I" RX2).before a U = true := h.1.use rfl
theorem nf_117 {a : Array Value} {U : State} (h : nst U) : (Cond.fieldLinkNest RX2 117 RX0 "a" "I" RX2).before a U = true := h.2.1.use rfl
theorem nf_120 {a : Array Value} {U : State} (h : nst U) : (Cond.fieldLinkNest RX2 120 RX0 "b" "I" RX2).before a U = true := h.2.2.1.use rfl
theorem nf_132 {a : Array Value} {U : State} (h : nst U) : (Cond.fieldLinkNest RX2 132 RX0 "c" "I" RX2).before a U = true := h.2.2.2.1.use rfl
theorem nf_175 {a : Array Value} {U : State} (h : nst U) : (Cond.fieldLinkNest RX2 175 RX0 "d" "I" RX2).before a U = true := h.2.2.2.2.1.use rfl
theorem nf_178 {a : Array Value} {U : State} (h : nst U) : (Cond.fieldLinkNest RX2 178 RX0 "e" "I" RX2).before a U = true := h.2.2.2.2.2.1.use rfl
theorem nf_82 {a : Array Value} {U : State} (h : nst U) : (Cond.fieldLinkNest RX2 82 RX0 "held" "J" RX2).before a U = true := h.2.2.2.2.2.2.1.use rfl
theorem nf_104 {a : Array Value} {U : State} (h : nst U) : (Cond.fieldLinkNest RX2 104 RX0 "counter" "I" RX2).before a U = true := h.2.2.2.2.2.2.2.1.use rfl
theorem nf_188 {a : Array Value} {U : State} (h : nst U) : (Cond.fieldLinkNest RX2 188 RX1 "from" "I" RX2).before a U = true := h.2.2.2.2.2.2.2.2.1.use rfl
theorem nf_191 {a : Array Value} {U : State} (h : nst U) : (Cond.fieldLinkNest RX2 191 RX1 "to" "I" RX2).before a U = true := h.2.2.2.2.2.2.2.2.2.1.use rfl
theorem nf_181 {a : Array Value} {U : State} (h : nst U) : (Cond.fieldLinkNest RX2 181 RX1 "rule" "I" RX2).before a U = true := h.2.2.2.2.2.2.2.2.2.2.1.use rfl
theorem nm_79 {U : State} (h : nst U) : va_Nw (.methodLinkNest RX2 79 yX0_init RX2) U := h.2.2.2.2.2.2.2.2.2.2.2.1
theorem nm_95 {U : State} (h : nst U) : va_Nw (.methodLinkNest RX2 95 yX1_init RX2) U := h.2.2.2.2.2.2.2.2.2.2.2.2
/-- what of the tables every contract asks -/
def kk (D : va_G) (tys : List (ClassId × FieldType)) (U : State) : Prop := va_K D vwCl tys U ∧ nst U
theorem kk.warm {D : va_G} {tys : List (ClassId × FieldType)} {s U : State} (hW : s.WarmedH U.vm) (h : kk D tys s) : kk D tys U := ⟨va_K.moved hW.alike h.1, h.2.warm hW⟩
theorem kk.call {D : va_G} {tys : List (ClassId × FieldType)} {U : State} {g : JFrame} {mk : MethodId} {a : Array Value} (h : kk D tys U) : kk D tys (U.calling g mk a) := ⟨va_K.moved (u := U) (U := U.calling g mk a) (Vm.Alike.refl U.vm) h.1, h.2.same rfl⟩
def roP (D : va_G) (tys : List (ClassId × FieldType)) (w : va_W) (av : List Value) : Array Value → State → Prop := va_Pc av (fun U => va_P D vwCl w U.heap ∧ kk D tys U)
def wrP (D : va_G) (tys : List (ClassId × FieldType)) (w : va_W) (av : List Value) (sz : Nat) : Array Value → State → Prop := va_Pc av (fun U => U.heap.size = sz ∧ va_P D vwCl w U.heap ∧ kk D tys U ∧ va_D (fun _ => True) w)
def wrB {σ : Type} (D : va_G) (w : va_W) (Wf : σ → va_W) (sz : Nat) (u : σ) (t : State) : Prop := va_P D vwCl (Wf u) t.heap ∧ va_D (va_A w sz) (Wf u)
/-- it reads: the heap stays -/
def RoI (l : Launch) (y : MethodName) (ws : List Cond) (rm : Room) (D : va_G) (tys : List (ClassId × FieldType)) (w : va_W) (av : List Value) (post : Int32 → Prop) : Prop := Met l y ws rm (roP D tys w av) (vp_Si post) 0 0 (fun _ => False)
def RoL (l : Launch) (y : MethodName) (ws : List Cond) (rm : Room) (D : va_G) (tys : List (ClassId × FieldType)) (w : va_W) (av : List Value) (post : Int64 → Prop) : Prop := Met l y ws rm (roP D tys w av) (vp_Sl post) 0 0 (fun _ => False)
def RoQ (l : Launch) (y : MethodName) (ws : List Cond) (rm : Room) (D : va_G) (tys : List (ClassId × FieldType)) (w : va_W) (av : List Value) (post : Option Nat → Prop) : Prop := Met l y ws rm (roP D tys w av) (va_Sq post) 0 0 (fun _ => False)
/-- it writes: the world w becomes the world of u -/
def WrI {σ : Type} (l : Launch) (y : MethodName) (ws : List Cond) (rm : Room) (D : va_G) (tys : List (ClassId × FieldType)) (w : va_W) (av : List Value) (Wf : σ → va_W) (post : Int32 → σ → Prop) (mc ms : Nat) : Prop := ∀ sz : Nat, Met l y ws rm (wrP D tys w av sz) (va_Qi post (wrB D w Wf sz) (va_A w sz)) mc ms (va_A w sz)
def WrL {σ : Type} (l : Launch) (y : MethodName) (ws : List Cond) (rm : Room) (D : va_G) (tys : List (ClassId × FieldType)) (w : va_W) (av : List Value) (Wf : σ → va_W) (post : Int64 → σ → Prop) (mc ms : Nat) : Prop := ∀ sz : Nat, Met l y ws rm (wrP D tys w av sz) (va_Ql post (wrB D w Wf sz) (va_A w sz)) mc ms (va_A w sz)
def WrV {σ : Type} (l : Launch) (y : MethodName) (ws : List Cond) (rm : Room) (D : va_G) (tys : List (ClassId × FieldType)) (w : va_W) (av : List Value) (Wf : σ → va_W) (post : σ → Prop) (mc ms : Nat) : Prop := ∀ sz : Nat, Met l y ws rm (wrP D tys w av sz) (va_Qv post (wrB D w Wf sz) (va_A w sz)) mc ms (va_A w sz)
def WrQ {σ : Type} (l : Launch) (y : MethodName) (ws : List Cond) (rm : Room) (D : va_G) (tys : List (ClassId × FieldType)) (w : va_W) (av : List Value) (Wf : σ → va_W) (post : Option Nat → σ → Prop) (mc ms : Nat) : Prop := ∀ sz : Nat, Met l y ws rm (wrP D tys w av sz) (va_Qq post (wrB D w Wf sz) (va_A w sz)) mc ms (va_A w sz)
theorem roP.blind {D : va_G} {tys : List (ClassId × FieldType)} {w : va_W} {av : List Value} : FrameBlind (roP D tys w av) := fun _ _ _ _ q => ⟨q.1, q.2.1, kk.call q.2.2⟩
theorem wrP.blind {D : va_G} {tys : List (ClassId × FieldType)} {w : va_W} {av : List Value} {sz : Nat} : FrameBlind (wrP D tys w av sz) := fun _ _ _ _ q => ⟨q.1, q.2.1, q.2.2.1, kk.call q.2.2.2.1, q.2.2.2.2⟩
/-- the entry of a method that reads -/
theorem roEnter {l : Launch} {y : MethodName} {ws ws' : List Cond} {rm : Room} {D : va_G} {tys : List (ClassId × FieldType)} {w : va_W} {av : List Value} {Qc : Array Value → State → Outcome → State → Prop} {cc : ByteArray} {maxL : Nat} {ret : Option FieldType}
    (hy : plainName y.cls = true) (hw : ws = Cond.code y cc maxL ret :: ws') (hav : (lg_sl av).length ≤ maxL)
    (body : ∀ (p : Program) (e : Env) (s : State) (m : MethodId) (below : List Frame) (meth : Method) (c : Code), p.tables.exec = Jvm.exec → c.code = cc → meth.sig.returnType = ret → c.maxLocals = maxL → s.vm.findClass y.cls = some m.cls → (∀ w ∈ ws, w.before av.toArray s = true) → meth.locks = false → va_P D vwCl w s.heap → va_K D vwCl tys s → nst s → ∀ ls : Array Slot, lv_has ls maxL (lv_args 0 av) → W p l e rm s m av.toArray below meth c s.heap [] 0 0 (MQ below Qc av.toArray s 0 0 (fun _ => False)) (F0 m 0 ls [])) :
    Met l y ws rm (roP D tys w av) Qc 0 0 (fun _ => False) := by
  refine Met.ofW (cc := cc) (maxL := maxL) (ret := ret) hy hw ?_
  intro p e s m args below meth c s₁ B hml hv
  obtain ⟨rfl, hP, hK, hN⟩ := hv
  rw [lg_entry_eq]
  exact body p e s m below meth c B.exec B.bytes B.returns hml (findClass_of_methodNamed B.named) (atoms_spec (ws := ws) B.pre) B.notSynchronized hP hK hN _ (lv_entry av hav)
/-- the entry of a method that reads, of a class of the JDK -/
theorem roEnterF {l : Launch} {y : MethodName} {ws ws' : List Cond} {rm : Room} {D : va_G} {tys : List (ClassId × FieldType)} {w : va_W} {av : List Value} {Qc : Array Value → State → Outcome → State → Prop} {cc : ByteArray} {maxL : Nat} {ret : Option FieldType}
    (hy : plainFor y = true) (hw : ws = Cond.code y cc maxL ret :: ws') (hav : (lg_sl av).length ≤ maxL)
    (body : ∀ (p : Program) (e : Env) (s : State) (m : MethodId) (below : List Frame) (meth : Method) (c : Code), p.tables.exec = Jvm.exec → c.code = cc → meth.sig.returnType = ret → c.maxLocals = maxL → s.vm.findClass y.cls = some m.cls → (∀ w ∈ ws, w.before av.toArray s = true) → meth.locks = false → va_P D vwCl w s.heap → va_K D vwCl tys s → nst s → ∀ ls : Array Slot, lv_has ls maxL (lv_args 0 av) → W p l e rm s m av.toArray below meth c s.heap [] 0 0 (MQ below Qc av.toArray s 0 0 (fun _ => False)) (F0 m 0 ls [])) :
    Met l y ws rm (roP D tys w av) Qc 0 0 (fun _ => False) := by
  refine va_MetF (cc := cc) (maxL := maxL) (ret := ret) hy hw ?_
  intro p e s m args below meth c s₁ B hml hv
  obtain ⟨rfl, hP, hK, hN⟩ := hv
  rw [lg_entry_eq]
  exact body p e s m below meth c B.exec B.bytes B.returns hml (findClass_of_methodNamed B.named) (atoms_spec (ws := ws) B.pre) B.notSynchronized hP hK hN _ (lv_entry av hav)
/-- the entry of a method that writes -/
theorem wrEnter {l : Launch} {y : MethodName} {ws ws' : List Cond} {rm : Room} {D : va_G} {tys : List (ClassId × FieldType)} {w : va_W} {av : List Value} {sz : Nat} {Qc : Array Value → State → Outcome → State → Prop} {mc ms : Nat} {cc : ByteArray} {maxL : Nat} {ret : Option FieldType}
    (hy : plainName y.cls = true) (hw : ws = Cond.code y cc maxL ret :: ws') (hav : (lg_sl av).length ≤ maxL)
    (body : ∀ (p : Program) (e : Env) (s : State) (m : MethodId) (below : List Frame) (meth : Method) (c : Code), p.tables.exec = Jvm.exec → c.code = cc → meth.sig.returnType = ret → c.maxLocals = maxL → s.vm.findClass y.cls = some m.cls → (∀ w ∈ ws, w.before av.toArray s = true) → meth.locks = false → va_P D vwCl w s.heap → va_K D vwCl tys s → nst s → s.heap.size = sz → va_D (va_A w sz) w → va_S (va_A w sz) s.heap s.heap [] → (∀ q : Nat, s.heap.size ≤ q → va_A w sz q) → meth.name = y.name → ∀ ls : Array Slot, lv_has ls maxL (lv_args 0 av) → W p l e rm s m av.toArray below meth c s.heap [] 0 0 (MQ below Qc av.toArray s mc ms (va_A w sz)) (F0 m 0 ls [])) :
    Met l y ws rm (wrP D tys w av sz) Qc mc ms (va_A w sz) := by
  refine Met.ofW (cc := cc) (maxL := maxL) (ret := ret) hy hw ?_
  intro p e s m args below meth c s₁ B hml hv
  obtain ⟨rfl, hsz, hP, ⟨hK, hN⟩, hD⟩ := hv
  rw [lg_entry_eq]
  exact body p e s m below meth c B.exec B.bytes B.returns hml (findClass_of_methodNamed B.named) (atoms_spec (ws := ws) B.pre) B.notSynchronized hP hK hN hsz hD.self va_S.rf (fun q h => Or.inr (by rw [← hsz]; exact h)) (name_of_methodNamed B.named B.method).1 _ (lv_entry av hav)
section CALLS
variable {p : Program} {l : Launch} {e : Env} {R : Room} {s : State} {m : MethodId} {args : Array Value} {below : List Frame} {meth : Method} {c : Code} {H : Heap} {locs : List Loc} {cells slots : Nat} {Q : State → Prop}
variable {cc : ByteArray} {pc : Nat} {ls : Array Slot} {rest st0 : List Value} {D : va_G} {A : Nat → Prop} {tys : List (ClassId × FieldType)} {w : va_W} {H0 : Heap}
variable {y : MethodName} {bytes : ByteArray} {maxL nL n index mc ms : Nat} {ret : Option FieldType} {ws : List Cond} {rm : Room} {Ts : List Cond} {own C : String} {b : Addr} {As : List Value} {σ : Type} {Wf : σ → va_W}
theorem roPreV (hP : va_P D vwCl w H) (hK : va_K D vwCl tys s) (hN : nst s) {q0 ci : Nat} {r : vw_C} {fs : List Value} (hc : vwCl[ci]? = some r) (he : w[q0]? = some (b, .inr (ci, fs))) : PreV s H r.1 b (roP D tys w (.ref b :: As)) As :=
  ⟨roP.blind, va_recv hK hP hc he, fun U hU hW => ⟨rfl, by rw [hU]; exact hP, kk.warm hW ⟨hK, hN⟩⟩⟩
theorem roPreS (hP : va_P D vwCl w H) (hK : va_K D vwCl tys s) (hN : nst s) : PreS s H (roP D tys w As) As :=
  ⟨roP.blind, fun U hU hW => ⟨rfl, by rw [hU]; exact hP, kk.warm hW ⟨hK, hN⟩⟩⟩
theorem wrPreV (hP : va_P D vwCl w H) (hD : va_D A w) (hK : va_K D vwCl tys s) (hN : nst s) {q0 ci : Nat} {r : vw_C} {fs : List Value} (hc : vwCl[ci]? = some r) (he : w[q0]? = some (b, .inr (ci, fs))) : PreV s H r.1 b (wrP D tys w (.ref b :: As) H.size) As :=
  ⟨wrP.blind, va_recv hK hP hc he, fun U hU hW => ⟨rfl, by rw [hU], by rw [hU]; exact hP, kk.warm hW ⟨hK, hN⟩, hD.weaken (fun _ _ _ _ => trivial)⟩⟩
theorem wrFree (hD : va_D A w) (hS : va_S A H0 H locs) (hA : ∀ q, H0.size ≤ q → A q) : ∀ q, va_A w H.size q → A q := by
  rintro q (⟨k, x, hx⟩ | h)
  · exact hD.2 k (q, x) hx
  · exact hA q (Nat.le_trans hS.1 h)
theorem RoI.callV {post : Int32 → Prop} (h : RoI l y ws rm D tys w (.ref b :: As) post) (S : CallFix p m c cc nL s args Ts own) {r : vw_C} (cw : CallW R s args own r.1 index y bytes maxL ret ws rm 0 0 n) (hP : va_P D vwCl w H) (hK : va_K D vwCl tys s) (hN : nst s) (q0 ci : Nat) {fs : List Value} (hc : vwCl[ci]? = some r) (he : w[q0]? = some (b, .inr (ci, fs)))
    (hn : As.length = n) (hsize : ls.size = nL) (hstack : st0 = As.reverse ++ .ref b :: rest) (hW : (rest.map fun v => v.category).sum ≤ 8) (hdg : decode cc pc = .ok (.invokevirtual index, 3)) (hf : cells + 0 ≤ R.cells ∧ slots + 0 ≤ R.slots)
    (k : ∀ r : Int32, post r → W p l e R s m args below meth c H locs cells slots Q (F0 m (pc + 3) ls (.int r :: rest))) : W p l e R s m args below meth c H locs cells slots Q (F0 m pc ls st0) :=
  vp_callSi (W.runV S h cw (roPreV hP hK hN hc he) rfl hn hsize hstack (lv_room hW) hdg hf) k
theorem RoL.callV {post : Int64 → Prop} (h : RoL l y ws rm D tys w (.ref b :: As) post) (S : CallFix p m c cc nL s args Ts own) {r : vw_C} (cw : CallW R s args own r.1 index y bytes maxL ret ws rm 0 0 n) (hP : va_P D vwCl w H) (hK : va_K D vwCl tys s) (hN : nst s) (q0 ci : Nat) {fs : List Value} (hc : vwCl[ci]? = some r) (he : w[q0]? = some (b, .inr (ci, fs)))
    (hn : As.length = n) (hsize : ls.size = nL) (hstack : st0 = As.reverse ++ .ref b :: rest) (hW : (rest.map fun v => v.category).sum ≤ 8) (hdg : decode cc pc = .ok (.invokevirtual index, 3)) (hf : cells + 0 ≤ R.cells ∧ slots + 0 ≤ R.slots)
    (k : ∀ r : Int64, post r → W p l e R s m args below meth c H locs cells slots Q (F0 m (pc + 3) ls (.long r :: rest))) : W p l e R s m args below meth c H locs cells slots Q (F0 m pc ls st0) :=
  vp_callSl (W.runV S h cw (roPreV hP hK hN hc he) rfl hn hsize hstack (lv_room hW) hdg hf) k
theorem RoQ.callV {post : Option Nat → Prop} (h : RoQ l y ws rm D tys w (.ref b :: As) post) (S : CallFix p m c cc nL s args Ts own) {r : vw_C} (cw : CallW R s args own r.1 index y bytes maxL ret ws rm 0 0 n) (hP : va_P D vwCl w H) (hK : va_K D vwCl tys s) (hN : nst s) (q0 ci : Nat) {fs : List Value} (hc : vwCl[ci]? = some r) (he : w[q0]? = some (b, .inr (ci, fs)))
    (hn : As.length = n) (hsize : ls.size = nL) (hstack : st0 = As.reverse ++ .ref b :: rest) (hW : (rest.map fun v => v.category).sum ≤ 8) (hdg : decode cc pc = .ok (.invokevirtual index, 3)) (hf : cells + 0 ≤ R.cells ∧ slots + 0 ≤ R.slots)
    (k : ∀ r : Option Nat, post r → W p l e R s m args below meth c H locs cells slots Q (F0 m (pc + 3) ls (va_rf r :: rest))) : W p l e R s m args below meth c H locs cells slots Q (F0 m pc ls st0) :=
  va_csq (W.runV S h cw (roPreV hP hK hN hc he) rfl hn hsize hstack (lv_room hW) hdg hf) k
theorem RoI.callS {post : Int32 → Prop} (h : RoI l y ws rm D tys w As post) (S : CallFix p m c cc nL s args Ts own) (cw : CallB R s args own index y bytes maxL ret ws rm 0 0 n ∧ (Cond.static y).before args s = true) (hP : va_P D vwCl w H) (hK : va_K D vwCl tys s) (hN : nst s)
    (hn : As.length = n) (hsize : ls.size = nL) (hstack : st0 = As.reverse ++ rest) (hW : (rest.map fun v => v.category).sum ≤ 8) (hdg : decode cc pc = .ok (.invokestatic index, 3)) (hf : cells + 0 ≤ R.cells ∧ slots + 0 ≤ R.slots)
    (k : ∀ r : Int32, post r → W p l e R s m args below meth c H locs cells slots Q (F0 m (pc + 3) ls (.int r :: rest))) : W p l e R s m args below meth c H locs cells slots Q (F0 m pc ls st0) :=
  vp_callSi (W.runS S h cw (roPreS hP hK hN) rfl hn hsize hstack (lv_room hW) hdg hf) k
theorem RoL.callS {post : Int64 → Prop} (h : RoL l y ws rm D tys w As post) (S : CallFix p m c cc nL s args Ts own) (cw : CallB R s args own index y bytes maxL ret ws rm 0 0 n ∧ (Cond.static y).before args s = true) (hP : va_P D vwCl w H) (hK : va_K D vwCl tys s) (hN : nst s)
    (hn : As.length = n) (hsize : ls.size = nL) (hstack : st0 = As.reverse ++ rest) (hW : (rest.map fun v => v.category).sum ≤ 8) (hdg : decode cc pc = .ok (.invokestatic index, 3)) (hf : cells + 0 ≤ R.cells ∧ slots + 0 ≤ R.slots)
    (k : ∀ r : Int64, post r → W p l e R s m args below meth c H locs cells slots Q (F0 m (pc + 3) ls (.long r :: rest))) : W p l e R s m args below meth c H locs cells slots Q (F0 m pc ls st0) :=
  vp_callSl (W.runS S h cw (roPreS hP hK hN) rfl hn hsize hstack (lv_room hW) hdg hf) k
theorem wrJoin {A0 : Nat → Prop} {w1 : va_W} {t : State} {H1 : Heap} (ht : t.heap = H1) (hF : ∀ q, va_A w H.size q → A0 q) (hB : va_P D vwCl w1 t.heap ∧ va_D (va_A w H.size) w1) : va_P D vwCl w1 H1 ∧ va_D A0 w1 := ⟨by rw [← ht]; exact hB.1, hB.2.weaken (fun _ _ _ h => hF _ h)⟩
theorem WrI.callV {post : Int32 → σ → Prop} (h : WrI l y ws rm D tys w (.ref b :: As) Wf post mc ms) (S : CallFix p m c cc nL s args Ts own) {r : vw_C} (cw : CallW R s args own r.1 index y bytes maxL ret ws rm mc ms n) (hP : va_P D vwCl w H) (hD : va_D A w) (hS : va_S A H0 H locs) (hA : ∀ q, H0.size ≤ q → A q) (hK : va_K D vwCl tys s) (hN : nst s) (q0 ci : Nat) {fs : List Value} (hc : vwCl[ci]? = some r) (he : w[q0]? = some (b, .inr (ci, fs)))
    (hn : As.length = n) (hsize : ls.size = nL) (hstack : st0 = As.reverse ++ .ref b :: rest) (hW : (rest.map fun v => v.category).sum ≤ 8) (hdg : decode cc pc = .ok (.invokevirtual index, 3)) (hf : cells + mc ≤ R.cells ∧ slots + ms ≤ R.slots)
    (k : ∀ (r : Int32) (u : σ) (H1 : Heap) (locs1 : List Loc), post r u → va_P D vwCl (Wf u) H1 → va_D A (Wf u) → va_S A H0 H1 locs1 → W p l e R s m args below meth c H1 locs1 (cells + mc) (slots + ms) Q (F0 m (pc + 3) ls (.int r :: rest))) : W p l e R s m args below meth c H locs cells slots Q (F0 m pc ls st0) :=
  va_calli (va_runV S (h H.size) cw (wrPreV hP hD hK hN hc he) rfl hn hsize hstack (lv_room hW) hdg hf) hS (fun q _ h => wrFree hD hS hA q h) (wrFree hD hS hA) (fun r u t H1 locs1 ht _ hp hB _ _ hS1 => k r u H1 locs1 hp (wrJoin ht (wrFree hD hS hA) hB).1 (wrJoin ht (wrFree hD hS hA) hB).2 hS1)
theorem WrL.callV {post : Int64 → σ → Prop} (h : WrL l y ws rm D tys w (.ref b :: As) Wf post mc ms) (S : CallFix p m c cc nL s args Ts own) {r : vw_C} (cw : CallW R s args own r.1 index y bytes maxL ret ws rm mc ms n) (hP : va_P D vwCl w H) (hD : va_D A w) (hS : va_S A H0 H locs) (hA : ∀ q, H0.size ≤ q → A q) (hK : va_K D vwCl tys s) (hN : nst s) (q0 ci : Nat) {fs : List Value} (hc : vwCl[ci]? = some r) (he : w[q0]? = some (b, .inr (ci, fs)))
    (hn : As.length = n) (hsize : ls.size = nL) (hstack : st0 = As.reverse ++ .ref b :: rest) (hW : (rest.map fun v => v.category).sum ≤ 8) (hdg : decode cc pc = .ok (.invokevirtual index, 3)) (hf : cells + mc ≤ R.cells ∧ slots + ms ≤ R.slots)
    (k : ∀ (r : Int64) (u : σ) (H1 : Heap) (locs1 : List Loc), post r u → va_P D vwCl (Wf u) H1 → va_D A (Wf u) → va_S A H0 H1 locs1 → W p l e R s m args below meth c H1 locs1 (cells + mc) (slots + ms) Q (F0 m (pc + 3) ls (.long r :: rest))) : W p l e R s m args below meth c H locs cells slots Q (F0 m pc ls st0) :=
  va_calll (va_runV S (h H.size) cw (wrPreV hP hD hK hN hc he) rfl hn hsize hstack (lv_room hW) hdg hf) hS (fun q _ h => wrFree hD hS hA q h) (wrFree hD hS hA) (fun r u t H1 locs1 ht _ hp hB _ _ hS1 => k r u H1 locs1 hp (wrJoin ht (wrFree hD hS hA) hB).1 (wrJoin ht (wrFree hD hS hA) hB).2 hS1)
theorem WrV.callV {post : σ → Prop} (h : WrV l y ws rm D tys w (.ref b :: As) Wf post mc ms) (S : CallFix p m c cc nL s args Ts own) {r : vw_C} (cw : CallW R s args own r.1 index y bytes maxL ret ws rm mc ms n) (hP : va_P D vwCl w H) (hD : va_D A w) (hS : va_S A H0 H locs) (hA : ∀ q, H0.size ≤ q → A q) (hK : va_K D vwCl tys s) (hN : nst s) (q0 ci : Nat) {fs : List Value} (hc : vwCl[ci]? = some r) (he : w[q0]? = some (b, .inr (ci, fs)))
    (hn : As.length = n) (hsize : ls.size = nL) (hstack : st0 = As.reverse ++ .ref b :: rest) (hW : (rest.map fun v => v.category).sum ≤ 8) (hdg : decode cc pc = .ok (.invokevirtual index, 3)) (hf : cells + mc ≤ R.cells ∧ slots + ms ≤ R.slots)
    (k : ∀ (u : σ) (H1 : Heap) (locs1 : List Loc), post u → va_P D vwCl (Wf u) H1 → va_D A (Wf u) → va_S A H0 H1 locs1 → W p l e R s m args below meth c H1 locs1 (cells + mc) (slots + ms) Q (F0 m (pc + 3) ls rest)) : W p l e R s m args below meth c H locs cells slots Q (F0 m pc ls st0) :=
  va_callv (va_runV S (h H.size) cw (wrPreV hP hD hK hN hc he) rfl hn hsize hstack (lv_room hW) hdg hf) hS (fun q _ h => wrFree hD hS hA q h) (wrFree hD hS hA) (fun u t H1 locs1 ht _ hp hB _ _ hS1 => k u H1 locs1 hp (wrJoin ht (wrFree hD hS hA) hB).1 (wrJoin ht (wrFree hD hS hA) hB).2 hS1)
theorem WrQ.callV {post : Option Nat → σ → Prop} (h : WrQ l y ws rm D tys w (.ref b :: As) Wf post mc ms) (S : CallFix p m c cc nL s args Ts own) {r : vw_C} (cw : CallW R s args own r.1 index y bytes maxL ret ws rm mc ms n) (hP : va_P D vwCl w H) (hD : va_D A w) (hS : va_S A H0 H locs) (hA : ∀ q, H0.size ≤ q → A q) (hK : va_K D vwCl tys s) (hN : nst s) (q0 ci : Nat) {fs : List Value} (hc : vwCl[ci]? = some r) (he : w[q0]? = some (b, .inr (ci, fs)))
    (hn : As.length = n) (hsize : ls.size = nL) (hstack : st0 = As.reverse ++ .ref b :: rest) (hW : (rest.map fun v => v.category).sum ≤ 8) (hdg : decode cc pc = .ok (.invokevirtual index, 3)) (hf : cells + mc ≤ R.cells ∧ slots + ms ≤ R.slots)
    (k : ∀ (r : Option Nat) (u : σ) (H1 : Heap) (locs1 : List Loc), post r u → va_P D vwCl (Wf u) H1 → va_D A (Wf u) → va_S A H0 H1 locs1 → W p l e R s m args below meth c H1 locs1 (cells + mc) (slots + ms) Q (F0 m (pc + 3) ls (va_rf r :: rest))) : W p l e R s m args below meth c H locs cells slots Q (F0 m pc ls st0) :=
  va_callq (va_runV S (h H.size) cw (wrPreV hP hD hK hN hc he) rfl hn hsize hstack (lv_room hW) hdg hf) hS (fun q _ h => wrFree hD hS hA q h) (wrFree hD hS hA) (fun r u t H1 locs1 ht _ hp hB _ _ hS1 => k r u H1 locs1 hp (wrJoin ht (wrFree hD hS hA) hB).1 (wrJoin ht (wrFree hD hS hA) hB).2 hS1)
end CALLS
section ENDS
variable {p : Program} {l : Launch} {e : Env} {R : Room} {s : State} {m : MethodId} {args : Array Value} {below : List Frame} {meth : Method} {c : Code} {H : Heap} {locs : List Loc} {cells slots : Nat}
variable {cc : ByteArray} {pc : Nat} {ls : Array Slot} {D : va_G} {w : va_W} {sz : Nat} {σ : Type} {Wf : σ → va_W}
theorem roI {post : Int32 → Prop} {v : Int32} (hx : p.tables.exec = Jvm.exec) (hb : c.code = cc) (hr : meth.sig.returnType = some .int) (hlk : meth.locks = false) (hdg : decode cc pc = .ok (.ireturn, 1)) (hp : post v) : W p l e R s m args below meth c s.heap [] cells slots (MQ below (vp_Si post) args s cells slots (fun _ => False)) (F0 m pc ls [.int v]) :=
  W.iret hx hb hr (fun t ht _ => ⟨v, rfl, hp, ht⟩) (fun _ h => nomatch h) hdg hlk
theorem roZ {post : Int32 → Prop} {v : Int32} (hx : p.tables.exec = Jvm.exec) (hb : c.code = cc) (hr : meth.sig.returnType = some .boolean) (hlk : meth.locks = false) (hdg : decode cc pc = .ok (.ireturn, 1)) (hn : narrow .boolean (.int v) = .int v) (hp : post v) : W p l e R s m args below meth c s.heap [] cells slots (MQ below (vp_Si post) args s cells slots (fun _ => False)) (F0 m pc ls [.int v]) :=
  W.zret hx hb hr hn (fun t ht _ => ⟨v, rfl, hp, ht⟩) (fun _ h => nomatch h) hdg hlk
theorem roL {post : Int64 → Prop} {v : Int64} (hx : p.tables.exec = Jvm.exec) (hb : c.code = cc) (hr : meth.sig.returnType = some .long) (hlk : meth.locks = false) (hdg : decode cc pc = .ok (.lreturn, 1)) (hp : post v) : W p l e R s m args below meth c s.heap [] cells slots (MQ below (vp_Sl post) args s cells slots (fun _ => False)) (F0 m pc ls [.long v]) :=
  W.lret hx hb hr (fun t ht _ => ⟨v, rfl, hp, ht⟩) (fun _ h => nomatch h) hdg hlk
theorem roQ {post : Option Nat → Prop} {r : Option Nat} {C : String} {v : Value} (hv : v = va_rf r) (hx : p.tables.exec = Jvm.exec) (hb : c.code = cc) (hr : meth.sig.returnType = some (.object C)) (hlk : meth.locks = false) (hdg : decode cc pc = .ok (.areturn, 1)) (hp : post r) : W p l e R s m args below meth c s.heap [] cells slots (MQ below (va_Sq post) args s cells slots (fun _ => False)) (F0 m pc ls [v]) := by
  subst hv
  exact W.aret hx hb hr (Or.inl ⟨C, rfl⟩) (va_rf_or r) (fun t ht _ => ⟨r, rfl, hp, ht⟩) (fun _ h => nomatch h) hdg hlk
theorem wrI {post : Int32 → σ → Prop} {v : Int32} (u : σ) (hx : p.tables.exec = Jvm.exec) (hb : c.code = cc) (hr : meth.sig.returnType = some .int) (hlk : meth.locks = false) (hdg : decode cc pc = .ok (.ireturn, 1)) (hP : va_P D vwCl (Wf u) H) (hD : va_D (va_A w sz) (Wf u)) (hS : va_S (va_A w sz) s.heap H locs) (hp : post v u) : W p l e R s m args below meth c H locs cells slots (MQ below (va_Qi post (wrB D w Wf sz) (va_A w sz)) args s cells slots (va_A w sz)) (F0 m pc ls [.int v]) :=
  W.iret hx hb hr (fun t ht _ => ⟨⟨v, u, rfl, hp, by rw [ht]; exact hP, hD⟩, hS.F ht⟩) hS.2.2 hdg hlk
theorem wrZ {post : Int32 → σ → Prop} {v : Int32} (u : σ) (hx : p.tables.exec = Jvm.exec) (hb : c.code = cc) (hr : meth.sig.returnType = some .boolean) (hlk : meth.locks = false) (hdg : decode cc pc = .ok (.ireturn, 1)) (hn : narrow .boolean (.int v) = .int v) (hP : va_P D vwCl (Wf u) H) (hD : va_D (va_A w sz) (Wf u)) (hS : va_S (va_A w sz) s.heap H locs) (hp : post v u) : W p l e R s m args below meth c H locs cells slots (MQ below (va_Qi post (wrB D w Wf sz) (va_A w sz)) args s cells slots (va_A w sz)) (F0 m pc ls [.int v]) :=
  W.zret hx hb hr hn (fun t ht _ => ⟨⟨v, u, rfl, hp, by rw [ht]; exact hP, hD⟩, hS.F ht⟩) hS.2.2 hdg hlk
theorem wrL {post : Int64 → σ → Prop} {v : Int64} (u : σ) (hx : p.tables.exec = Jvm.exec) (hb : c.code = cc) (hr : meth.sig.returnType = some .long) (hlk : meth.locks = false) (hdg : decode cc pc = .ok (.lreturn, 1)) (hP : va_P D vwCl (Wf u) H) (hD : va_D (va_A w sz) (Wf u)) (hS : va_S (va_A w sz) s.heap H locs) (hp : post v u) : W p l e R s m args below meth c H locs cells slots (MQ below (va_Ql post (wrB D w Wf sz) (va_A w sz)) args s cells slots (va_A w sz)) (F0 m pc ls [.long v]) :=
  W.lret hx hb hr (fun t ht _ => ⟨⟨v, u, rfl, hp, by rw [ht]; exact hP, hD⟩, hS.F ht⟩) hS.2.2 hdg hlk
theorem wrV {post : σ → Prop} (u : σ) (hx : p.tables.exec = Jvm.exec) (hb : c.code = cc) (hr : meth.sig.returnType = none) (hlk : meth.locks = false) (hdg : decode cc pc = .ok (.return_, 1)) (hP : va_P D vwCl (Wf u) H) (hD : va_D (va_A w sz) (Wf u)) (hS : va_S (va_A w sz) s.heap H locs) (hp : post u) : W p l e R s m args below meth c H locs cells slots (MQ below (va_Qv post (wrB D w Wf sz) (va_A w sz)) args s cells slots (va_A w sz)) (F0 m pc ls []) :=
  W.vret hx hb hr (fun t ht _ => ⟨⟨u, rfl, hp, by rw [ht]; exact hP, hD⟩, hS.F ht⟩) hS.2.2 hdg hlk
theorem wrQ {post : Option Nat → σ → Prop} {r : Option Nat} {C : String} {v : Value} (u : σ) (hv : v = va_rf r) (hx : p.tables.exec = Jvm.exec) (hb : c.code = cc) (hr : meth.sig.returnType = some (.object C)) (hlk : meth.locks = false) (hdg : decode cc pc = .ok (.areturn, 1)) (hP : va_P D vwCl (Wf u) H) (hD : va_D (va_A w sz) (Wf u)) (hS : va_S (va_A w sz) s.heap H locs) (hp : post r u) : W p l e R s m args below meth c H locs cells slots (MQ below (va_Qq post (wrB D w Wf sz) (va_A w sz)) args s cells slots (va_A w sz)) (F0 m pc ls [v]) := by
  subst hv
  exact W.aret hx hb hr (Or.inl ⟨C, rfl⟩) (va_rf_or r) (fun t ht _ => ⟨⟨r, u, rfl, hp, by rw [ht]; exact hP, hD⟩, hS.F ht⟩) hS.2.2 hdg hlk
end ENDS
