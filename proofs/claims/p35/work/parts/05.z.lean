/-! a method that reads the constant Verb.DAY -/
def mZ (vb : Nat) (A : Nat → Prop) (U : State) (H : Heap) : Prop := va_Z "BillRegistry$Verb" "DAY" "LBillRegistry$Verb;" (.ref vb) A U H
def mPcZ (D : va_G) (kA : Nat → ClassId) (M : mM) (T : mT) (sz vb : Nat) (as : List Value) : Array Value → State → Prop := va_Pc as (fun U => (U.heap.size = sz ∧ hp D kA M T U.heap ∧ mK D kA U) ∧ mZ vb (mA M T sz) U U.heap)
def mCvZ (l : Launch) (y : MethodName) (cc : ByteArray) (n : Nat) (d mc ms : Nat) (D : va_G) (kA : Nat → ClassId) (M : mM) (T : mT) (sz vb : Nat) (as : List Value) (P : mM × mT → Prop) : Prop := Met l y (wm y cc n none) (rmL d mc ms) (mPcZ D kA M T sz vb as) (va_Qv P (mB D kA M T sz) (mA M T sz)) mc ms (mA M T sz)
theorem start_WZ {l : Launch} {y : MethodName} {cc : ByteArray} {n : Nat} {r : Option FieldType} {rm : Room} {D : va_G} {kA : Nat → ClassId} {M : mM} {T : mT} {sz vb : Nat} {as : List Value} {Qc : Array Value → State → Outcome → State → Prop} {mc ms : Nat} {free : Addr → Prop} (hy : plainName y.cls = true) (hs : (lg_sl as).length ≤ n)
    (body : ∀ p e s m below meth c ls, CallFix p m c cc n s as.toArray TB y.cls → meth.sig.returnType = r → meth.locks = false → meth.name = y.name → mK D kA s → mS D kA M T (mA M T sz) s.heap s.heap [] → s.heap.size = sz → mZ vb (mA M T sz) s s.heap → lv_has ls n (lv_args 0 as) → W p l e rm s m as.toArray below meth c s.heap [] 0 0 (MQ below Qc as.toArray s mc ms free) (F0 m 0 ls [])) : Met l y (wm y cc n r) rm (mPcZ D kA M T sz vb as) Qc mc ms free := by
  refine Met.ofW (cc := cc) (maxL := n) (ret := r) hy rfl ?_
  intro p e s m args below meth c s₁ B hml hv
  obtain ⟨rfl, ⟨hsz, hP, hK⟩, hZ⟩ := hv
  have hts := atoms_spec (ws := wm y cc n r) B.pre
  have hl := lv_entry as (n := n) hs
  rw [lg_entry_eq]
  refine body p e s m below meth c _ ⟨B.exec, B.bytes, hml, findClass_of_methodNamed B.named, fun w hw => hts w (List.mem_cons_of_mem _ hw)⟩ B.returns B.notSynchronized (name_of_methodNamed B.named B.method).1 hK (by rw [← hsz]; exact mS_start hP) hsz hZ hl
section XZ
variable {p : Program} {l : Launch} {e : Env} {R : Room} {s : State} {m : MethodId} {args : Array Value} {below : List Frame} {meth : Method} {c : Code} {H : Heap} {locs : List Loc} {cells slots : Nat} {Q : State → Prop}
variable {cc : ByteArray} {nL pc : Nat} {ls : Array Slot} {rest : List Value} {D : va_G} {kA : Nat → ClassId} {M : mM} {T : mT} {A : Nat → Prop} {a : Nat} {own : String} {idx vb : Nat}
variable {y : MethodName} {bytes : ByteArray} {maxL np mc ms d b : Nat} {r : Option FieldType} {As st : List Value} {Qc : Array Value → State → Outcome → State → Prop} {free : Addr → Prop}
theorem blindZ {sz : Nat} {as : List Value} : FrameBlind (mPcZ D kA M T sz vb as) := fun a U g mk q => by
  obtain ⟨q0, ⟨q1, qP, qK⟩, qZ⟩ := q
  exact ⟨q0, ⟨q1, qP, qK.same rfl⟩, va_Z.moved (Vm.Alike.refl U.vm) qZ⟩
theorem preZ (hK : mK D kA s) (hH : mS D kA M T A s.heap H locs) (hZ : mZ vb A s s.heap) {as : List Value} : ∀ U : State, U.heap = H → s.WarmedH U.vm → mPcZ D kA M T H.size vb as as.toArray U := fun U hU hW =>
  ⟨rfl, ⟨by rw [hU], by rw [hU]; exact hH.1, hK.warm hW⟩, by
    rw [hU]
    exact va_Z.moved hW.alike ((va_Z.kept hZ (fun a h1 h2 => hH.2.1.2.1 a h1 h2)).narrow (mA_sub hH))⟩
theorem runIZ (hC : CallFix p m c cc nL s args TB own) (hK : mK D kA s) (hH : mS D kA M T A s.heap H locs) (hZ : mZ vb A s s.heap) (hM : Met l y (wm y bytes maxL none) (rmL d mc ms) (mPcZ D kA M T H.size vb (.ref b :: As)) Qc mc ms free) (hl : MLI own idx y bytes maxL np) (hR : rOK R d maxL mc ms cells slots) (hn : As.length = np) (hsz : ls.size = nL) (hst : st = As.reverse ++ .ref b :: rest) (hW : (rest.map fun v => v.category).sum ≤ 8) (hdg : decode cc pc = .ok (.invokespecial idx, 3)) :
    va_Run p l e R s m args below meth c H locs cells slots mc ms (F0 m pc ls st) rest (Qc (Value.ref b :: As).toArray) free := by
  obtain ⟨h1, h2, h3, h4, h5, h6⟩ := hl
  exact va_runI (n := np) hC hM ⟨callB_of np hC.2.2.2.2 (wm_good h2) rfl rfl rfl (hC.2.2.2.2 _ h3) (hC.2.2.2.2 _ h1) h4 hR.1, h6, hC.2.2.2.2 _ h5⟩ ⟨blindZ, preZ hK hH hZ⟩ rfl hn hsz hst (lv_room hW) hdg hR.2
theorem runINZ (hC : CallFix p m c cc nL s args TB own) (hK : mK D kA s) (hH : mS D kA M T A s.heap H locs) (hZ : mZ vb A s s.heap) (hM : Met l y (wm y bytes maxL none) (rmL d mc ms) (mPcZ D kA M T H.size vb (.ref b :: As)) Qc mc ms free) (hl : MLIN own idx y bytes maxL np) (hR : rOK R d maxL mc ms cells slots) (hn : As.length = np) (hsz : ls.size = nL) (hst : st = As.reverse ++ .ref b :: rest) (hW : (rest.map fun v => v.category).sum ≤ 8) (hdg : decode cc pc = .ok (.invokespecial idx, 3)) :
    va_Run p l e R s m args below meth c H locs cells slots mc ms (F0 m pc ls st) rest (Qc (Value.ref b :: As).toArray) free := by
  obtain ⟨h1, h2, h3, h4, h5, h6⟩ := hl
  exact va_runIN (n := np) hC hM ⟨va_cnB np hC.2.2.2.2 (wm_good h2) rfl rfl rfl (hK.2.1 _ h1) (hC.2.2.2.2 _ h3) h4 hR.1, h6, hC.2.2.2.2 _ h5⟩ ⟨blindZ, preZ hK hH hZ⟩ rfl hn hsz hst (lv_room hW) hdg hR.2
theorem getDay (hC : CallFix p m c cc nL s args TB own) (hZ : mZ vb A s s.heap) (hH : mS D kA M T A s.heap H locs) (hw : Cond.fieldLink own idx "BillRegistry$Verb" "DAY" "LBillRegistry$Verb;" ∈ TB) (hdg : decode cc pc = .ok (.getstatic idx, 3))
    (kk : W p l e R s m args below meth c H locs cells slots Q (F0 m (pc + 3) ls (.ref vb :: rest))) : W p l e R s m args below meth c H locs cells slots Q (F0 m pc ls rest) :=
  va_gets hC.1 hC.2.1 hZ hH.2.1 hC.2.2.2.1 (hC.2.2.2.2 _ hw) (fun _ h => h) hdg kk
end XZ
