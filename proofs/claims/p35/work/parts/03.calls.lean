def mB (D : va_G) (kA : Nat → ClassId) (M : mM) (T : mT) (sz : Nat) (u : mM × mT) (t : State) : Prop := hp D kA u.1 u.2 t.heap ∧ mK D kA t ∧ ∀ q, u.1 q ≠ none ∨ u.2 q ≠ none → mA M T sz q
def mPc (D : va_G) (kA : Nat → ClassId) (M : mM) (T : mT) (sz : Nat) (as : List Value) : Array Value → State → Prop := va_Pc as (fun U => U.heap.size = sz ∧ hp D kA M T U.heap ∧ mK D kA U)
abbrev rmL (d mc ms : Nat) : Room := { frames := d, cells := mc, slots := ms, locals := 40 * d }
/-- contracts: an int (or a boolean) is answered; nothing is -/
def mCi (l : Launch) (y : MethodName) (cc : ByteArray) (n : Nat) (r : Option FieldType) (d mc ms : Nat) (D : va_G) (kA : Nat → ClassId) (M : mM) (T : mT) (sz : Nat) (as : List Value) (P : Int32 → mM × mT → Prop) : Prop := Met l y (wm y cc n r) (rmL d mc ms) (mPc D kA M T sz as) (va_Qi P (mB D kA M T sz) (mA M T sz)) mc ms (mA M T sz)
def mCv (l : Launch) (y : MethodName) (cc : ByteArray) (n : Nat) (d mc ms : Nat) (D : va_G) (kA : Nat → ClassId) (M : mM) (T : mT) (sz : Nat) (as : List Value) (P : mM × mT → Prop) : Prop := Met l y (wm y cc n none) (rmL d mc ms) (mPc D kA M T sz as) (va_Qv P (mB D kA M T sz) (mA M T sz)) mc ms (mA M T sz)
theorem mS_start {D : va_G} {kA : Nat → ClassId} {M : mM} {T : mT} {H : Heap} (h : hp D kA M T H) : mS D kA M T (mA M T H.size) H H [] := ⟨h, va_S.rf, fun q hq => hq.elim Or.inl (fun h => Or.inr (Or.inl h)), fun q h => Or.inr (Or.inr h)⟩
theorem start_W {l : Launch} {y : MethodName} {cc : ByteArray} {n : Nat} {r : Option FieldType} {rm : Room} {D : va_G} {kA : Nat → ClassId} {M : mM} {T : mT} {sz : Nat} {as : List Value} {Qc : Array Value → State → Outcome → State → Prop} {mc ms : Nat} {free : Addr → Prop} (hy : plainName y.cls = true) (hs : (lg_sl as).length ≤ n)
    (body : ∀ p e s m below meth c ls, CallFix p m c cc n s as.toArray TB y.cls → meth.sig.returnType = r → meth.locks = false → meth.name = y.name → mK D kA s → mS D kA M T (mA M T sz) s.heap s.heap [] → s.heap.size = sz → lv_has ls n (lv_args 0 as) → W p l e rm s m as.toArray below meth c s.heap [] 0 0 (MQ below Qc as.toArray s mc ms free) (F0 m 0 ls [])) : Met l y (wm y cc n r) rm (mPc D kA M T sz as) Qc mc ms free := by
  refine Met.ofW (cc := cc) (maxL := n) (ret := r) hy rfl ?_
  intro p e s m args below meth c s₁ B hml hv
  obtain ⟨rfl, hsz, hP, hK⟩ := hv
  have hts := atoms_spec (ws := wm y cc n r) B.pre
  have hl := lv_entry as (n := n) hs
  rw [lg_entry_eq]
  refine body p e s m below meth c _ ⟨B.exec, B.bytes, hml, findClass_of_methodNamed B.named, fun w hw => hts w (List.mem_cons_of_mem _ hw)⟩ B.returns B.notSynchronized (name_of_methodNamed B.named B.method).1 hK (by rw [← hsz]; exact mS_start hP) hsz hl
section XC
variable {p : Program} {l : Launch} {e : Env} {R : Room} {s : State} {m : MethodId} {args : Array Value} {below : List Frame} {meth : Method} {c : Code} {H : Heap} {locs : List Loc} {cells slots : Nat} {Q : State → Prop}
variable {cc : ByteArray} {nL pc : Nat} {ls : Array Slot} {rest : List Value} {D : va_G} {kA : Nat → ClassId} {M : mM} {T : mT} {A : Nat → Prop} {a : Nat} {H0 : Heap} {own : String} {idx ci k τ : Nat} {ty : FieldType} {fs : List Value} {v : Value}
theorem ret_i {M' : mM} {T' : mT} {sz mc ms : Nat} {P : Int32 → mM × mT → Prop} {v : Int32} (hC : CallFix p m c cc nL s args TB own) (hr : meth.sig.returnType = some .int) (hlk : meth.locks = false) (hK : mK D kA s) (hH : mS D kA M' T' (mA M T sz) s.heap H locs) (hP : P v (M', T')) (h1 : cells ≤ mc) (h2 : slots ≤ ms) (hdg : decode cc pc = .ok (.ireturn, 1)) :
    W p l e R s m args below meth c H locs cells slots (MQ below (va_Qi P (mB D kA M T sz) (mA M T sz)) args s mc ms (mA M T sz)) (F0 m pc ls [.int v]) :=
  W.widen h1 h2 (W.iret hC.1 hC.2.1 hr (fun t ht hW => ⟨⟨v, (M', T'), rfl, hP, by rw [ht]; exact hH.1, hK.warm hW, hH.2.2.1⟩, hH.2.1.F ht⟩) hH.2.1.2.2 hdg hlk)
theorem ret_z {M' : mM} {T' : mT} {sz mc ms : Nat} {P : Int32 → mM × mT → Prop} {v : Int32} (hC : CallFix p m c cc nL s args TB own) (hr : meth.sig.returnType = some .boolean) (hlk : meth.locks = false) (hK : mK D kA s) (hH : mS D kA M' T' (mA M T sz) s.heap H locs) (hv : v = 0 ∨ v = 1) (hP : P v (M', T')) (h1 : cells ≤ mc) (h2 : slots ≤ ms) (hdg : decode cc pc = .ok (.ireturn, 1)) :
    W p l e R s m args below meth c H locs cells slots (MQ below (va_Qi P (mB D kA M T sz) (mA M T sz)) args s mc ms (mA M T sz)) (F0 m pc ls [.int v]) :=
  W.widen h1 h2 (W.zret hC.1 hC.2.1 hr (by rcases hv with rfl | rfl <;> rfl) (fun t ht hW => ⟨⟨v, (M', T'), rfl, hP, by rw [ht]; exact hH.1, hK.warm hW, hH.2.2.1⟩, hH.2.1.F ht⟩) hH.2.1.2.2 hdg hlk)
theorem ret_v {M' : mM} {T' : mT} {sz mc ms : Nat} {P : mM × mT → Prop} (hC : CallFix p m c cc nL s args TB own) (hr : meth.sig.returnType = none) (hlk : meth.locks = false) (hK : mK D kA s) (hH : mS D kA M' T' (mA M T sz) s.heap H locs) (hP : P (M', T')) (h1 : cells ≤ mc) (h2 : slots ≤ ms) (hdg : decode cc pc = .ok (.return_, 1)) :
    W p l e R s m args below meth c H locs cells slots (MQ below (va_Qv P (mB D kA M T sz) (mA M T sz)) args s mc ms (mA M T sz)) (F0 m pc ls []) :=
  W.widen h1 h2 (W.vret hC.1 hC.2.1 hr (fun t ht hW => ⟨⟨(M', T'), rfl, hP, by rw [ht]; exact hH.1, hK.warm hW, hH.2.2.1⟩, hH.2.1.F ht⟩) hH.2.1.2.2 hdg hlk)
/-- links of calls -/
def MLd (y : MethodName) (np : Nat) : Prop := y.cls ≠ "java/lang/invoke/MethodHandle" ∧ y.cls ≠ "java/lang/invoke/VarHandle" ∧ (parseMethodDescriptor y.desc).map (fun d => d.parameters.length) = some np
def MLV (own : String) (idx : Nat) (y : MethodName) (bytes : ByteArray) (n : Nat) (r : Option FieldType) (np : Nat) : Prop := Cond.methodLink own idx y ∈ TB ∧ Cond.code y bytes n r ∈ TB ∧ Cond.initialized y.cls ∈ TB ∧ MLd y np ∧ Cond.instanceMethod y ∈ TB ∧ Cond.selects y.cls y y ∈ TB
def MLS (own : String) (idx : Nat) (y : MethodName) (bytes : ByteArray) (n : Nat) (r : Option FieldType) (np : Nat) : Prop := Cond.methodLink own idx y ∈ TB ∧ Cond.code y bytes n r ∈ TB ∧ Cond.initialized y.cls ∈ TB ∧ MLd y np ∧ Cond.static y ∈ TB
def MLI (own : String) (idx : Nat) (y : MethodName) (bytes : ByteArray) (n : Nat) (np : Nat) : Prop := Cond.methodLink own idx y ∈ TB ∧ Cond.code y bytes n none ∈ TB ∧ Cond.initialized y.cls ∈ TB ∧ MLd y np ∧ Cond.instanceMethod y ∈ TB ∧ y.name = "<init>"
def MLSN (own : String) (idx : Nat) (y : MethodName) (bytes : ByteArray) (n : Nat) (r : Option FieldType) (np : Nat) : Prop := (own, idx, y, RX9) ∈ nestQ ∧ Cond.code y bytes n r ∈ TB ∧ Cond.initialized y.cls ∈ TB ∧ MLd y np ∧ Cond.static y ∈ TB
def MLIN (own : String) (idx : Nat) (y : MethodName) (bytes : ByteArray) (n : Nat) (np : Nat) : Prop := (own, idx, y, RX9) ∈ nestQ ∧ Cond.code y bytes n none ∈ TB ∧ Cond.initialized y.cls ∈ TB ∧ MLd y np ∧ Cond.instanceMethod y ∈ TB ∧ y.name = "<init>"
abbrev Rcv (s : State) (H : Heap) (C : String) (b : Nat) : Prop := ∃ cellB : Cell, H[b]? = some cellB ∧ cellB.vm.isStatics = false ∧ s.vm.findClass C = some cellB.cls
theorem rcvM (hK : mK D kA s) (hH : mS D kA M T A H0 H locs) (he : M a = some (.inr (ci, fs))) {q : vw_C} (hc : vwCl[ci]? = some q) : Rcv s H q.1 a := va_recv hK.1 (hH.1.P1 he) (q0 := 0) hc rfl
theorem rcvT (hK : mK D kA s) (hH : mS D kA M T A H0 H locs) (ht : T a = some τ) {sps : List fS} (hsp : tsp τ = .inl (ci, sps)) {q : vw_C} (hc : vwCl[ci]? = some q) : Rcv s H q.1 a := by
  obtain ⟨fs, h1, -⟩ := tcell hH ht hsp
  exact va_recv hK.1 (at_P1 h1) (q0 := 0) hc rfl
theorem blindP {sz : Nat} {as : List Value} : FrameBlind (mPc D kA M T sz as) := fun a U g mk q => by
  obtain ⟨q0, q1, qP, qK⟩ := q
  exact ⟨q0, q1, qP, qK.same rfl⟩
theorem preP (hK : mK D kA s) (hh : hp D kA M T H) {as : List Value} : ∀ U : State, U.heap = H → s.WarmedH U.vm → mPc D kA M T H.size as as.toArray U := fun U hU hW => ⟨rfl, by rw [hU], by rw [hU]; exact hh, hK.warm hW⟩
variable {y : MethodName} {bytes : ByteArray} {maxL np mc ms d b : Nat} {r : Option FieldType} {As st : List Value} {Qc : Array Value → State → Outcome → State → Prop} {free : Addr → Prop}
abbrev rOK (R : Room) (d maxL mc ms cells slots : Nat) : Prop := (d + 1 ≤ R.frames ∧ 8 + (maxL + 11) + 40 * d ≤ R.locals) ∧ cells + mc ≤ R.cells ∧ slots + ms ≤ R.slots
theorem runV (hC : CallFix p m c cc nL s args TB own) (hK : mK D kA s) (hH : mS D kA M T A H0 H locs) (hM : Met l y (wm y bytes maxL r) (rmL d mc ms) (mPc D kA M T H.size (.ref b :: As)) Qc mc ms free) (hl : MLV own idx y bytes maxL r np) (hob : Rcv s H y.cls b) (hR : rOK R d maxL mc ms cells slots) (hn : As.length = np) (hsz : ls.size = nL) (hst : st = As.reverse ++ .ref b :: rest) (hW : (rest.map fun v => v.category).sum ≤ 8) (hdg : decode cc pc = .ok (.invokevirtual idx, 3)) :
    va_Run p l e R s m args below meth c H locs cells slots mc ms (F0 m pc ls st) rest (Qc (Value.ref b :: As).toArray) free := by
  obtain ⟨h1, h2, h3, h4, h5, h6⟩ := hl
  exact va_runV (C := y.cls) (n := np) hC hM ⟨callB_of np hC.2.2.2.2 (wm_good h2) rfl rfl rfl (hC.2.2.2.2 _ h3) (hC.2.2.2.2 _ h1) h4 hR.1, hC.2.2.2.2 _ h5, hC.2.2.2.2 _ h6⟩ ⟨blindP, hob, preP hK hH.1⟩ rfl hn hsz hst (lv_room hW) hdg hR.2
theorem runS (hC : CallFix p m c cc nL s args TB own) (hK : mK D kA s) (hH : mS D kA M T A H0 H locs) (hM : Met l y (wm y bytes maxL r) (rmL d mc ms) (mPc D kA M T H.size As) Qc mc ms free) (hl : MLS own idx y bytes maxL r np) (hR : rOK R d maxL mc ms cells slots) (hn : As.length = np) (hsz : ls.size = nL) (hst : st = As.reverse ++ rest) (hW : (rest.map fun v => v.category).sum ≤ 8) (hdg : decode cc pc = .ok (.invokestatic idx, 3)) :
    va_Run p l e R s m args below meth c H locs cells slots mc ms (F0 m pc ls st) rest (Qc As.toArray) free := by
  obtain ⟨h1, h2, h3, h4, h5⟩ := hl
  exact va_runS (n := np) hC hM ⟨callB_of np hC.2.2.2.2 (wm_good h2) rfl rfl rfl (hC.2.2.2.2 _ h3) (hC.2.2.2.2 _ h1) h4 hR.1, hC.2.2.2.2 _ h5⟩ ⟨blindP, preP hK hH.1⟩ rfl hn hsz hst (lv_room hW) hdg hR.2
theorem runI (hC : CallFix p m c cc nL s args TB own) (hK : mK D kA s) (hH : mS D kA M T A H0 H locs) (hM : Met l y (wm y bytes maxL none) (rmL d mc ms) (mPc D kA M T H.size (.ref b :: As)) Qc mc ms free) (hl : MLI own idx y bytes maxL np) (hR : rOK R d maxL mc ms cells slots) (hn : As.length = np) (hsz : ls.size = nL) (hst : st = As.reverse ++ .ref b :: rest) (hW : (rest.map fun v => v.category).sum ≤ 8) (hdg : decode cc pc = .ok (.invokespecial idx, 3)) :
    va_Run p l e R s m args below meth c H locs cells slots mc ms (F0 m pc ls st) rest (Qc (Value.ref b :: As).toArray) free := by
  obtain ⟨h1, h2, h3, h4, h5, h6⟩ := hl
  exact va_runI (n := np) hC hM ⟨callB_of np hC.2.2.2.2 (wm_good h2) rfl rfl rfl (hC.2.2.2.2 _ h3) (hC.2.2.2.2 _ h1) h4 hR.1, h6, hC.2.2.2.2 _ h5⟩ ⟨blindP, preP hK hH.1⟩ rfl hn hsz hst (lv_room hW) hdg hR.2
theorem runSN (hC : CallFix p m c cc nL s args TB own) (hK : mK D kA s) (hH : mS D kA M T A H0 H locs) (hM : Met l y (wm y bytes maxL r) (rmL d mc ms) (mPc D kA M T H.size As) Qc mc ms free) (hl : MLSN own idx y bytes maxL r np) (hR : rOK R d maxL mc ms cells slots) (hn : As.length = np) (hsz : ls.size = nL) (hst : st = As.reverse ++ rest) (hW : (rest.map fun v => v.category).sum ≤ 8) (hdg : decode cc pc = .ok (.invokestatic idx, 3)) :
    va_Run p l e R s m args below meth c H locs cells slots mc ms (F0 m pc ls st) rest (Qc As.toArray) free := by
  obtain ⟨h1, h2, h3, h4, h5⟩ := hl
  exact va_runSN (n := np) hC hM ⟨va_cnB np hC.2.2.2.2 (wm_good h2) rfl rfl rfl (hK.2.1 _ h1) (hC.2.2.2.2 _ h3) h4 hR.1, hC.2.2.2.2 _ h5, trivial⟩ ⟨blindP, preP hK hH.1⟩ rfl hn hsz hst (lv_room hW) hdg hR.2
theorem runIN (hC : CallFix p m c cc nL s args TB own) (hK : mK D kA s) (hH : mS D kA M T A H0 H locs) (hM : Met l y (wm y bytes maxL none) (rmL d mc ms) (mPc D kA M T H.size (.ref b :: As)) Qc mc ms free) (hl : MLIN own idx y bytes maxL np) (hR : rOK R d maxL mc ms cells slots) (hn : As.length = np) (hsz : ls.size = nL) (hst : st = As.reverse ++ .ref b :: rest) (hW : (rest.map fun v => v.category).sum ≤ 8) (hdg : decode cc pc = .ok (.invokespecial idx, 3)) :
    va_Run p l e R s m args below meth c H locs cells slots mc ms (F0 m pc ls st) rest (Qc (Value.ref b :: As).toArray) free := by
  obtain ⟨h1, h2, h3, h4, h5, h6⟩ := hl
  exact va_runIN (n := np) hC hM ⟨va_cnB np hC.2.2.2.2 (wm_good h2) rfl rfl rfl (hK.2.1 _ h1) (hC.2.2.2.2 _ h3) h4 hR.1, h6, hC.2.2.2.2 _ h5⟩ ⟨blindP, preP hK hH.1⟩ rfl hn hsz hst (lv_room hW) hdg hR.2
theorem mA_sub (hH : mS D kA M T A H0 H locs) : ∀ q, mA M T H.size q → A q := fun q h => by
  rcases h with h | h | h
  · exact hH.2.2.1 q (Or.inl h)
  · exact hH.2.2.1 q (Or.inr h)
  · exact hH.2.2.2 q (Nat.le_trans hH.2.1.1 h)
/-- behind a call -/
theorem goI {P : Int32 → mM × mT → Prop} {av : Array Value} (hK : mK D kA s) (hH : mS D kA M T A H0 H locs) (hr : va_Run p l e R s m args below meth c H locs cells slots mc ms (F0 m pc ls st) rest (va_Qi P (mB D kA M T H.size) (mA M T H.size) av) (mA M T H.size))
    (kk : ∀ (r : Int32) (M' : mM) (T' : mT) (H1 : Heap) (locs1 : List Loc), P r (M', T') → H.size ≤ H1.size → mS D kA M' T' A H0 H1 locs1 → W p l e R s m args below meth c H1 locs1 (cells + mc) (slots + ms) Q (F0 m (pc + 3) ls (.int r :: rest))) : W p l e R s m args below meth c H locs cells slots Q (F0 m pc ls st) :=
  va_calli hr hH.2.1 (fun q _ h => mA_sub hH q h) (mA_sub hH) (fun r u t H1 locs1 ht hvm hP hB hz _ hS => kk r u.1 u.2 H1 locs1 hP hz ⟨by rw [← ht]; exact hB.1, hS, fun q hq => mA_sub hH q (hB.2.2 q hq), hH.2.2.2⟩)
theorem goV {P : mM × mT → Prop} {av : Array Value} (hK : mK D kA s) (hH : mS D kA M T A H0 H locs) (hr : va_Run p l e R s m args below meth c H locs cells slots mc ms (F0 m pc ls st) rest (va_Qv P (mB D kA M T H.size) (mA M T H.size) av) (mA M T H.size))
    (kk : ∀ (M' : mM) (T' : mT) (H1 : Heap) (locs1 : List Loc), P (M', T') → H.size ≤ H1.size → mS D kA M' T' A H0 H1 locs1 → W p l e R s m args below meth c H1 locs1 (cells + mc) (slots + ms) Q (F0 m (pc + 3) ls rest)) : W p l e R s m args below meth c H locs cells slots Q (F0 m pc ls st) :=
  va_callv hr hH.2.1 (fun q _ h => mA_sub hH q h) (mA_sub hH) (fun u t H1 locs1 ht hvm hP hB hz _ hS => kk u.1 u.2 H1 locs1 hP hz ⟨by rw [← ht]; exact hB.1, hS, fun q hq => mA_sub hH q (hB.2.2 q hq), hH.2.2.2⟩)
end XC
