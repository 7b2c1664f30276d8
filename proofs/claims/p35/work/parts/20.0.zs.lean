/-! what stands outside of the registry and never changes: the verbs, their words, tables -/
abbrev zD : Type := (Nat → Nat) × (Nat → Nat) × (Nat → Nat) × Nat × Nat × Nat × Nat
def zv (z : zD) (i : Nat) : Nat := z.1 i
def zs (z : zD) (i : Nat) : Nat := z.2.1 i
def zb (z : zD) (i : Nat) : Nat := z.2.2.1 i
def zA (z : zD) : Nat := z.2.2.2.1
def zS (z : zD) : Nat := z.2.2.2.2.1
def zW (z : zD) : Nat := z.2.2.2.2.2.1
def zN (z : zD) : Nat := z.2.2.2.2.2.2
def zWd : List (List Int32) := [[100, 97, 121], [99, 97, 115, 104], [103, 114, 97, 99, 101], [100, 114, 97, 119], [111, 112, 101, 110], [97, 99, 99, 101, 112, 116], [98, 108, 97, 110, 107], [115, 112, 101, 99, 105, 97, 108], [97, 103, 101, 110, 116], [100, 101, 108, 105, 118, 101, 114], [102, 111, 114, 103, 101], [102, 105, 110, 100], [114, 101, 97, 108], [112, 101, 114, 115, 111, 110, 97, 108], [112, 114, 101, 115, 101, 110, 116], [104, 97, 110, 100], [110, 111, 116, 105, 102, 121], [114, 101, 108, 101, 97, 115, 101], [112, 97, 121], [110, 111, 116, 105, 99, 101], [119, 105, 116, 104, 111, 117, 116]]
def zLen (i : Nat) : Nat := (zWd.getD i []).length
def zByt (i j : Nat) : Int32 := (zWd.getD i []).getD j 0
def zNum (i : Nat) : Int32 := ([1, 2, 1, 5, 5, 1, 3, 3, 3, 3, 4, 2, 2, 2, 1, 2, 3, 2, 2] : List Int32).getD i 0
def zNot (i : Nat) : Int32 := ([0, 0, 0, 0, 0, 0, 1, 1, 1, 1, 1, 0, 0, 0, 0, 0, 0, 0, 0] : List Int32).getD i 0
def zWit (i : Nat) : Int32 := ([0, 0, 0, 0, 0, 0, 1, 1, 1, 1, 0, 0, 0, 0, 0, 0, 0, 0, 0] : List Int32).getD i 0
def zWo (i : Nat) : Int64 := ([2968, 60299, 4075196, 91904, 307058, 16006376, 1300196, 7593294657, 673265, 1627997121, 3497207, 125041, 357978, 169571436888, 6460043375, 158575, 209256721, 7051790291, 11716] : List Int64).getD i 0
def zV1 (z : zD) (A : Nat → Prop) (U : State) (H : Heap) (i : Nat) : Prop := va_O RX7 (zv z i) A U H ∧ va_OF RX7 "word" "Ljava/lang/String;" (.ref (zs z i)) (zv z i) A U H ∧ va_OF RX7 "numbers" "I" (.int (zNum i)) (zv z i) A U H ∧ va_OF RX7 "mayNotice" "Z" (.int (zNot i)) (zv z i) A U H ∧ va_OF RX7 "mayWithout" "Z" (.int (zWit i)) (zv z i) A U H ∧ va_OF "java/lang/Enum" "ordinal" "I" (.int (Int32.ofNat i)) (zv z i) A U H
def zS1 (z : zD) (A : Nat → Prop) (U : State) (H : Heap) (i : Nat) : Prop := va_O "java/lang/String" (zs z i) A U H ∧ va_OF "java/lang/String" "coder" "B" (.int 0) (zs z i) A U H ∧ va_OF "java/lang/String" "value" "[B" (.ref (zb z i)) (zs z i) A U H ∧ va_T .byte (zb z i) (zLen i) (fun j => .int (zByt i j)) A U H
def zT1 (C n d : String) (a : Nat) (ty : FieldType) (N : Nat) (f : Nat → Value) (A : Nat → Prop) (U : State) (H : Heap) : Prop := va_Z C n d (.ref a) A U H ∧ va_T ty a N f A U H
def zH (z : zD) (A : Nat → Prop) (U : State) (H : Heap) : Prop := va_Z RX7 "DAY" "LBillRegistry$Verb;" (.ref (zv z 0)) A U H ∧ zT1 RX4 "VERBS" "[LBillRegistry$Verb;" (zA z) (.object RX7) 19 (fun j => .ref (zv z j)) A U H ∧ (∀ i, i < 19 → zV1 z A U H i) ∧ (∀ i, i < 21 → zS1 z A U H i) ∧ va_Z "java/lang/String" "COMPACT_STRINGS" "Z" (.int 1) A U H ∧ va_Zq "jdk/internal/util/Preconditions" "SIOOBE_FORMATTER" "Ljava/util/function/BiFunction;" A U H ∧ zT1 "BillRegistry$1" "$SwitchMap$BillRegistry$Verb" "[I" (zS z) .int 19 (fun j => .int (Int32.ofNat (j + 1))) A U H ∧ zT1 RX10 "WORDS" "[J" (zW z) .long 19 (fun j => .long (zWo j)) A U H ∧ zT1 RX10 "NUMBERS" "[I" (zN z) .int 19 (fun j => .int (zNum j)) A U H
def zR (z : zD) (U : State) : Prop := vk_R RX4 66 "notice" (zs z 19) U ∧ vk_R RX4 77 "without" (zs z 20) U
theorem zqMoved {C n d : String} {A : Nat → Prop} {u U : State} {H : Heap} (hvm : u.vm.Alike U.vm) (h : va_Zq C n d A u H) : va_Zq C n d A U H := by
  rcases h with h | ⟨t, h⟩
  · exact Or.inl (va_Z.moved hvm h)
  · exact Or.inr ⟨t, va_Z.moved hvm h⟩
theorem zqKept {C n d : String} {A : Nat → Prop} {U : State} {H H1 : Heap} (h : va_Zq C n d A U H) (hq : ∀ a : Nat, a < H.size → ¬ A a → H1[a]? = H[a]?) : va_Zq C n d A U H1 := by
  rcases h with h | ⟨t, h⟩
  · exact Or.inl (va_Z.kept h hq)
  · exact Or.inr ⟨t, va_Z.kept h hq⟩
theorem zqNarrow {C n d : String} {A B : Nat → Prop} {U : State} {H : Heap} (h : va_Zq C n d A U H) (hAB : ∀ q, B q → A q) : va_Zq C n d B U H := by
  rcases h with h | ⟨t, h⟩
  · exact Or.inl (va_Z.narrow h hAB)
  · exact Or.inr ⟨t, va_Z.narrow h hAB⟩
theorem zH.moved {z : zD} {A : Nat → Prop} {u U : State} {H : Heap} (hvm : u.vm.Alike U.vm) (h : zH z A u H) : zH z A U H := by
  obtain ⟨h1, h2, h3, h4, h5, h6, h7, h8, h9⟩ := h
  refine ⟨va_Z.moved hvm h1, ⟨va_Z.moved hvm h2.1, va_T.moved hvm h2.2⟩, fun i hi => ?_, fun i hi => ?_, va_Z.moved hvm h5, zqMoved hvm h6, ⟨va_Z.moved hvm h7.1, va_T.moved hvm h7.2⟩, ⟨va_Z.moved hvm h8.1, va_T.moved hvm h8.2⟩, ⟨va_Z.moved hvm h9.1, va_T.moved hvm h9.2⟩⟩
  · obtain ⟨a1, a2, a3, a4, a5, a6⟩ := h3 i hi
    exact ⟨va_O.moved hvm a1, va_OF.moved hvm a2, va_OF.moved hvm a3, va_OF.moved hvm a4, va_OF.moved hvm a5, va_OF.moved hvm a6⟩
  · obtain ⟨a1, a2, a3, a4⟩ := h4 i hi
    exact ⟨va_O.moved hvm a1, va_OF.moved hvm a2, va_OF.moved hvm a3, va_T.moved hvm a4⟩
theorem zH.kept {z : zD} {A : Nat → Prop} {U : State} {H H1 : Heap} (h : zH z A U H) (hq : ∀ a : Nat, a < H.size → ¬ A a → H1[a]? = H[a]?) : zH z A U H1 := by
  obtain ⟨h1, h2, h3, h4, h5, h6, h7, h8, h9⟩ := h
  refine ⟨h1.kept hq, ⟨h2.1.kept hq, h2.2.kept hq⟩, fun i hi => ?_, fun i hi => ?_, h5.kept hq, zqKept h6 hq, ⟨h7.1.kept hq, h7.2.kept hq⟩, ⟨h8.1.kept hq, h8.2.kept hq⟩, ⟨h9.1.kept hq, h9.2.kept hq⟩⟩
  · obtain ⟨a1, a2, a3, a4, a5, a6⟩ := h3 i hi
    exact ⟨a1.kept hq, a2.kept hq, a3.kept hq, a4.kept hq, a5.kept hq, a6.kept hq⟩
  · obtain ⟨a1, a2, a3, a4⟩ := h4 i hi
    exact ⟨a1.kept hq, a2.kept hq, a3.kept hq, a4.kept hq⟩
theorem zH.narrow {z : zD} {A B : Nat → Prop} {U : State} {H : Heap} (h : zH z A U H) (hq : ∀ q, B q → A q) : zH z B U H := by
  obtain ⟨h1, h2, h3, h4, h5, h6, h7, h8, h9⟩ := h
  refine ⟨h1.narrow hq, ⟨h2.1.narrow hq, h2.2.narrow hq⟩, fun i hi => ?_, fun i hi => ?_, h5.narrow hq, zqNarrow h6 hq, ⟨h7.1.narrow hq, h7.2.narrow hq⟩, ⟨h8.1.narrow hq, h8.2.narrow hq⟩, ⟨h9.1.narrow hq, h9.2.narrow hq⟩⟩
  · obtain ⟨a1, a2, a3, a4, a5, a6⟩ := h3 i hi
    exact ⟨a1.narrow hq, a2.narrow hq, a3.narrow hq, a4.narrow hq, a5.narrow hq, a6.narrow hq⟩
  · obtain ⟨a1, a2, a3, a4⟩ := h4 i hi
    exact ⟨a1.narrow hq, a2.narrow hq, a3.narrow hq, a4.narrow hq⟩
def zB (z : zD) (A : Nat → Prop) (U : State) : Prop := zH z A U U.heap ∧ zR z U
/-! contracts of methods that use it -/
def mPcB (z : zD) (D : va_G) (kA : Nat → ClassId) (M : mM) (T : mT) (sz : Nat) (as : List Value) : Array Value → State → Prop := va_Pc as (fun U => (U.heap.size = sz ∧ hp D kA M T U.heap ∧ mK D kA U) ∧ zB z (mA M T sz) U)
def mCvB (z : zD) (l : Launch) (y : MethodName) (cc : ByteArray) (n : Nat) (d mc ms : Nat) (D : va_G) (kA : Nat → ClassId) (M : mM) (T : mT) (sz : Nat) (as : List Value) (P : mM × mT → Prop) : Prop := Met l y (wm y cc n none) (rmL d mc ms) (mPcB z D kA M T sz as) (va_Qv P (mB D kA M T sz) (mA M T sz)) mc ms (mA M T sz)
def mCiB (z : zD) (l : Launch) (y : MethodName) (cc : ByteArray) (n : Nat) (r : Option FieldType) (d mc ms : Nat) (D : va_G) (kA : Nat → ClassId) (M : mM) (T : mT) (sz : Nat) (as : List Value) (P : Int32 → mM × mT → Prop) : Prop := Met l y (wm y cc n r) (rmL d mc ms) (mPcB z D kA M T sz as) (va_Qi P (mB D kA M T sz) (mA M T sz)) mc ms (mA M T sz)
theorem start_WB {z : zD} {l : Launch} {y : MethodName} {cc : ByteArray} {n : Nat} {r : Option FieldType} {rm : Room} {D : va_G} {kA : Nat → ClassId} {M : mM} {T : mT} {sz : Nat} {as : List Value} {Qc : Array Value → State → Outcome → State → Prop} {mc ms : Nat} {free : Addr → Prop} (hy : plainName y.cls = true) (hs : (lg_sl as).length ≤ n)
    (body : ∀ p e s m below meth c ls, CallFix p m c cc n s as.toArray TB y.cls → meth.sig.returnType = r → meth.locks = false → meth.name = y.name → mK D kA s → mS D kA M T (mA M T sz) s.heap s.heap [] → s.heap.size = sz → zB z (mA M T sz) s → lv_has ls n (lv_args 0 as) → W p l e rm s m as.toArray below meth c s.heap [] 0 0 (MQ below Qc as.toArray s mc ms free) (F0 m 0 ls [])) : Met l y (wm y cc n r) rm (mPcB z D kA M T sz as) Qc mc ms free := by
  refine Met.ofW (cc := cc) (maxL := n) (ret := r) hy rfl ?_
  intro p e s m args below meth c s₁ B hml hv
  obtain ⟨rfl, ⟨hsz, hP, hK⟩, hZ⟩ := hv
  have hts := atoms_spec (ws := wm y cc n r) B.pre
  have hl := lv_entry as (n := n) hs
  rw [lg_entry_eq]
  refine body p e s m below meth c _ ⟨B.exec, B.bytes, hml, findClass_of_methodNamed B.named, fun w hw => hts w (List.mem_cons_of_mem _ hw)⟩ B.returns B.notSynchronized (name_of_methodNamed B.named B.method).1 hK (by rw [← hsz]; exact mS_start hP) hsz hZ hl
section XB
variable {p : Program} {l : Launch} {e : Env} {R : Room} {s : State} {m : MethodId} {args : Array Value} {below : List Frame} {meth : Method} {c : Code} {H : Heap} {locs : List Loc} {cells slots : Nat} {Q : State → Prop}
variable {cc : ByteArray} {nL pc : Nat} {ls : Array Slot} {rest : List Value} {D : va_G} {kA : Nat → ClassId} {M : mM} {T : mT} {A : Nat → Prop} {a : Nat} {own : String} {idx : Nat} {z : zD}
variable {y : MethodName} {bytes : ByteArray} {maxL np mc ms d b : Nat} {r : Option FieldType} {As st : List Value} {Qc : Array Value → State → Outcome → State → Prop} {free : Addr → Prop}
theorem blindB {sz : Nat} {as : List Value} : FrameBlind (mPcB z D kA M T sz as) := fun a U g mk q => by
  obtain ⟨q0, ⟨q1, qP, qK⟩, qZ⟩ := q
  exact ⟨q0, ⟨q1, qP, qK.same rfl⟩, zH.moved (Vm.Alike.refl U.vm) qZ.1, vk_R.same rfl qZ.2.1, vk_R.same rfl qZ.2.2⟩
theorem preB (hK : mK D kA s) (hH : mS D kA M T A s.heap H locs) (hZ : zB z A s) {as : List Value} : ∀ U : State, U.heap = H → s.WarmedH U.vm → mPcB z D kA M T H.size as as.toArray U := fun U hU hW =>
  ⟨rfl, ⟨by rw [hU], by rw [hU]; exact hH.1, hK.warm hW⟩, by
    rw [hU]
    exact zH.moved hW.alike ((zH.kept hZ.1 (fun a h1 h2 => hH.2.1.2.1 a h1 h2)).narrow (mA_sub hH)), vk_R.warm hW hZ.2.1, vk_R.warm hW hZ.2.2⟩
theorem runVB (hC : CallFix p m c cc nL s args TB own) (hK : mK D kA s) (hH : mS D kA M T A s.heap H locs) (hZ : zB z A s) (hM : Met l y (wm y bytes maxL r) (rmL d mc ms) (mPcB z D kA M T H.size (.ref b :: As)) Qc mc ms free) (hl : MLV own idx y bytes maxL r np) (hob : Rcv s H y.cls b) (hR : rOK R d maxL mc ms cells slots) (hn : As.length = np) (hsz : ls.size = nL) (hst : st = As.reverse ++ .ref b :: rest) (hW : (rest.map fun v => v.category).sum ≤ 8) (hdg : decode cc pc = .ok (.invokevirtual idx, 3)) :
    va_Run p l e R s m args below meth c H locs cells slots mc ms (F0 m pc ls st) rest (Qc (Value.ref b :: As).toArray) free := by
  obtain ⟨h1, h2, h3, h4, h5, h6⟩ := hl
  exact va_runV (C := y.cls) (n := np) hC hM ⟨callB_of np hC.2.2.2.2 (wm_good h2) rfl rfl rfl (hC.2.2.2.2 _ h3) (hC.2.2.2.2 _ h1) h4 hR.1, hC.2.2.2.2 _ h5, hC.2.2.2.2 _ h6⟩ ⟨blindB, hob, preB hK hH hZ⟩ rfl hn hsz hst (lv_room hW) hdg hR.2
theorem runSB (hC : CallFix p m c cc nL s args TB own) (hK : mK D kA s) (hH : mS D kA M T A s.heap H locs) (hZ : zB z A s) (hM : Met l y (wm y bytes maxL r) (rmL d mc ms) (mPcB z D kA M T H.size As) Qc mc ms free) (hl : MLS own idx y bytes maxL r np) (hR : rOK R d maxL mc ms cells slots) (hn : As.length = np) (hsz : ls.size = nL) (hst : st = As.reverse ++ rest) (hW : (rest.map fun v => v.category).sum ≤ 8) (hdg : decode cc pc = .ok (.invokestatic idx, 3)) :
    va_Run p l e R s m args below meth c H locs cells slots mc ms (F0 m pc ls st) rest (Qc As.toArray) free := by
  obtain ⟨h1, h2, h3, h4, h5⟩ := hl
  exact va_runS (n := np) hC hM ⟨callB_of np hC.2.2.2.2 (wm_good h2) rfl rfl rfl (hC.2.2.2.2 _ h3) (hC.2.2.2.2 _ h1) h4 hR.1, hC.2.2.2.2 _ h5⟩ ⟨blindB, preB hK hH hZ⟩ rfl hn hsz hst (lv_room hW) hdg hR.2
theorem runIB (hC : CallFix p m c cc nL s args TB own) (hK : mK D kA s) (hH : mS D kA M T A s.heap H locs) (hZ : zB z A s) (hM : Met l y (wm y bytes maxL none) (rmL d mc ms) (mPcB z D kA M T H.size (.ref b :: As)) Qc mc ms free) (hl : MLI own idx y bytes maxL np) (hR : rOK R d maxL mc ms cells slots) (hn : As.length = np) (hsz : ls.size = nL) (hst : st = As.reverse ++ .ref b :: rest) (hW : (rest.map fun v => v.category).sum ≤ 8) (hdg : decode cc pc = .ok (.invokespecial idx, 3)) :
    va_Run p l e R s m args below meth c H locs cells slots mc ms (F0 m pc ls st) rest (Qc (Value.ref b :: As).toArray) free := by
  obtain ⟨h1, h2, h3, h4, h5, h6⟩ := hl
  exact va_runI (n := np) hC hM ⟨callB_of np hC.2.2.2.2 (wm_good h2) rfl rfl rfl (hC.2.2.2.2 _ h3) (hC.2.2.2.2 _ h1) h4 hR.1, h6, hC.2.2.2.2 _ h5⟩ ⟨blindB, preB hK hH hZ⟩ rfl hn hsz hst (lv_room hW) hdg hR.2
theorem runINB (hC : CallFix p m c cc nL s args TB own) (hK : mK D kA s) (hH : mS D kA M T A s.heap H locs) (hZ : zB z A s) (hM : Met l y (wm y bytes maxL none) (rmL d mc ms) (mPcB z D kA M T H.size (.ref b :: As)) Qc mc ms free) (hl : MLIN own idx y bytes maxL np) (hR : rOK R d maxL mc ms cells slots) (hn : As.length = np) (hsz : ls.size = nL) (hst : st = As.reverse ++ .ref b :: rest) (hW : (rest.map fun v => v.category).sum ≤ 8) (hdg : decode cc pc = .ok (.invokespecial idx, 3)) :
    va_Run p l e R s m args below meth c H locs cells slots mc ms (F0 m pc ls st) rest (Qc (Value.ref b :: As).toArray) free := by
  obtain ⟨h1, h2, h3, h4, h5, h6⟩ := hl
  exact va_runIN (n := np) hC hM ⟨va_cnB np hC.2.2.2.2 (wm_good h2) rfl rfl rfl (hK.2.1 _ h1) (hC.2.2.2.2 _ h3) h4 hR.1, h6, hC.2.2.2.2 _ h5⟩ ⟨blindB, preB hK hH hZ⟩ rfl hn hsz hst (lv_room hW) hdg hR.2
theorem rcvO {C : String} {t : Nat} (hE : va_O C t A s s.heap) (hH : mS D kA M T A s.heap H locs) : Rcv s H C t := by
  obtain ⟨cell, h1, h2, h3, -⟩ := hE.kept hH.2.1.2.1
  exact ⟨cell, h1, h2, h3⟩
theorem ret_n {M' : mM} {T' : mT} {sz mc ms : Nat} {P : Int32 → mM × mT → Prop} {v : Int32} {ty : FieldType} (hC : CallFix p m c cc nL s args TB own) (hr : meth.sig.returnType = some ty) (hlk : meth.locks = false) (hK : mK D kA s) (hH : mS D kA M' T' (mA M T sz) s.heap H locs) (hv : narrow ty (.int v) = .int v) (hP : P v (M', T')) (h1 : cells ≤ mc) (h2 : slots ≤ ms) (hdg : decode cc pc = .ok (.ireturn, 1)) :
    W p l e R s m args below meth c H locs cells slots (MQ below (va_Qi P (mB D kA M T sz) (mA M T sz)) args s mc ms (mA M T sz)) (F0 m pc ls [.int v]) :=
  W.widen h1 h2 (W.zret hC.1 hC.2.1 hr hv (fun t ht hW => ⟨⟨v, (M', T'), rfl, hP, by rw [ht]; exact hH.1, hK.warm hW, hH.2.2.1⟩, hH.2.1.F ht⟩) hH.2.1.2.2 hdg hlk)
end XB
theorem zLen_r (i : Nat) : zLen i ≤ 8 := by
  unfold zLen
  by_cases h : i < 21
  · have : ∀ j, j < 21 → (zWd.getD j []).length ≤ 8 := by decide
    exact this i h
  · have hn : zWd[i]? = none := List.getElem?_eq_none (by show zWd.length ≤ i; have : zWd.length = 21 := rfl; omega)
    have e : zWd.getD i [] = [] := by
      rw [List.getD_eq_getElem?_getD, hn]
      rfl
    rw [e]
    exact Nat.zero_le _
theorem zNum_r {i : Nat} (h : i < 19) : 1 ≤ (zNum i).toInt ∧ (zNum i).toInt ≤ 5 := by
  have : ∀ j, j < 19 → 1 ≤ (zNum j).toInt ∧ (zNum j).toInt ≤ 5 := by decide
  exact this i h
theorem zWo_r {i : Nat} (h : i < 19) : (26 : Int) < (zWo i).toInt := by
  have : ∀ j, j < 19 → (26 : Int) < (zWo j).toInt := by decide
  exact this i h
theorem shr0 (x : Int32) : x >>> ((0 : Int32) &&& 31) = x := by
  have : ((0 : Int32) &&& 31) = 0 := by decide
  rw [this]
  exact Int32.shiftRight_zero
theorem nar_c (x : Int32) : narrow .char (.int ((x.toUInt32 % 65536).toInt32)) = .int ((x.toUInt32 % 65536).toInt32) := by
  have h2 : ∀ u : UInt32, (u % 65536).toUInt16.toUInt32 = u % 65536 := by
    intro u
    apply UInt32.toNat_inj.mp
    simp
  show Value.int ((x.toUInt32 % 65536).toInt32.toUInt32.toUInt16.toUInt32.toInt32) = _
  have h1 : (x.toUInt32 % 65536).toInt32.toUInt32 = x.toUInt32 % 65536 := rfl
  rw [h1, h2]
/-! a method that is inherited -/
def MLU (own : String) (idx : Nat) (C : String) (x y : MethodName) (bytes : ByteArray) (n : Nat) (r : Option FieldType) (np : Nat) : Prop := Cond.methodLink own idx x ∈ TB ∧ Cond.sameMethod x.cls y.cls x.name x.desc ∈ TB ∧ Cond.selects C x y ∈ TB ∧ Cond.instanceMethod y ∈ TB ∧ Cond.initialized y.cls ∈ TB ∧ Cond.code y bytes n r ∈ TB ∧ y = ⟨y.cls, x.name, x.desc⟩ ∧ (y.cls ≠ "java/lang/invoke/MethodHandle" ∧ y.cls ≠ "java/lang/invoke/VarHandle" ∧ (parseMethodDescriptor x.desc).map (fun d => d.parameters.length) = some np)
theorem runUB {p : Program} {l : Launch} {e : Env} {R : Room} {s : State} {m : MethodId} {args : Array Value} {below : List Frame} {meth : Method} {c : Code} {H : Heap} {locs : List Loc} {cells slots : Nat} {cc : ByteArray} {nL pc : Nat} {ls : Array Slot} {rest : List Value} {D : va_G} {kA : Nat → ClassId} {M : mM} {T : mT} {A : Nat → Prop} {own : String} {idx : Nat} {z : zD} {x y : MethodName} {C : String} {bytes : ByteArray} {maxL np mc ms d b : Nat} {r : Option FieldType} {As st : List Value} {Qc : Array Value → State → Outcome → State → Prop} {free : Addr → Prop} (hC : CallFix p m c cc nL s args TB own) (hK : mK D kA s) (hH : mS D kA M T A s.heap H locs) (hZ : zB z A s) (hM : Met l y (wm y bytes maxL r) (rmL d mc ms) (mPcB z D kA M T H.size (.ref b :: As)) Qc mc ms free) (hl : MLU own idx C x y bytes maxL r np) (hob : Rcv s H C b) (hR : rOK R d maxL mc ms cells slots) (hn : As.length = np) (hsz : ls.size = nL) (hst : st = As.reverse ++ .ref b :: rest) (hW : (rest.map fun v => v.category).sum ≤ 8) (hdg : decode cc pc = .ok (.invokevirtual idx, 3)) :
    va_Run p l e R s m args below meth c H locs cells slots mc ms (F0 m pc ls st) rest (Qc (Value.ref b :: As).toArray) free := by
  obtain ⟨h1, h2, h3, h4, h5, h6, h7, h8⟩ := hl
  have hG : GoodIn TB (va_wsU own idx C y.cls x y (wm y bytes maxL r)) := by
    intro w hw
    unfold va_wsU at hw
    rcases List.mem_append.mp hw with h | h
    · have : w = Cond.methodLink own idx x ∨ w = Cond.sameMethod x.cls y.cls x.name x.desc ∨ w = Cond.selects C x y ∨ w = Cond.instanceMethod y ∨ w = Cond.initialized y.cls := by simpa using h
      rcases this with e | e | e | e | e
      · rw [e]; exact ⟨h1, good_of_word (TB_gd h1)⟩
      · rw [e]; exact ⟨h2, good_of_word (TB_gd h2)⟩
      · rw [e]; exact ⟨h3, good_of_word (TB_gd h3)⟩
      · rw [e]; exact ⟨h4, good_of_word (TB_gd h4)⟩
      · rw [e]; exact ⟨h5, good_of_word (TB_gd h5)⟩
    · exact wm_good h6 w h
  exact va_runU (n := np) (C := C) hC hM (va_cwU np hC.2.2.2.2 hG rfl rfl rfl h7 h8 hR.1) ⟨blindB, hob, preB hK hH hZ⟩ rfl hn hsz hst (lv_room hW) hdg hR.2
