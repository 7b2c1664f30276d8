/-! methods that answer a reference -/
def mCr (l : Launch) (y : MethodName) (cc : ByteArray) (n : Nat) (r : Option FieldType) (d mc ms : Nat) (D : va_G) (kA : Nat → ClassId) (M : mM) (T : mT) (sz : Nat) (as : List Value) (P : (mM × mT) × Nat → Prop) : Prop := Met l y (wm y cc n r) (rmL d mc ms) (mPc D kA M T sz as) (va_Qr P (fun u a t => u.2 = a ∧ mB D kA M T sz u.1 t) (mA M T sz)) mc ms (mA M T sz)
section XF
variable {p : Program} {l : Launch} {e : Env} {R : Room} {s : State} {m : MethodId} {args : Array Value} {below : List Frame} {meth : Method} {c : Code} {H : Heap} {locs : List Loc} {cells slots : Nat} {Q : State → Prop}
variable {cc : ByteArray} {nL pc : Nat} {ls : Array Slot} {rest st : List Value} {D : va_G} {kA : Nat → ClassId} {M : mM} {T : mT} {A : Nat → Prop} {a : Nat} {H0 : Heap} {own : String} {mc ms : Nat}
theorem ret_r {M' : mM} {T' : mT} {sz : Nat} {nm : String} {P : (mM × mT) × Nat → Prop} (hC : CallFix p m c cc nL s args TB own) (hr : meth.sig.returnType = some (.object nm)) (hlk : meth.locks = false) (hK : mK D kA s) (hH : mS D kA M' T' (mA M T sz) s.heap H locs) (hP : P ((M', T'), a)) (h1 : cells ≤ mc) (h2 : slots ≤ ms) (hdg : decode cc pc = .ok (.areturn, 1)) :
    W p l e R s m args below meth c H locs cells slots (MQ below (va_Qr P (fun u a t => u.2 = a ∧ mB D kA M T sz u.1 t) (mA M T sz)) args s mc ms (mA M T sz)) (F0 m pc ls [.ref a]) :=
  W.widen h1 h2 (W.aret hC.1 hC.2.1 hr (Or.inl ⟨nm, rfl⟩) (Or.inr ⟨a, rfl⟩) (fun t ht hW => ⟨⟨((M', T'), a), a, rfl, hP, rfl, by rw [ht]; exact hH.1, hK.warm hW, hH.2.2.1⟩, hH.2.1.F ht⟩) hH.2.1.2.2 hdg hlk)
theorem goR {P : (mM × mT) × Nat → Prop} {av : Array Value} (hK : mK D kA s) (hH : mS D kA M T A H0 H locs) (hr : va_Run p l e R s m args below meth c H locs cells slots mc ms (F0 m pc ls st) rest (va_Qr P (fun u a t => u.2 = a ∧ mB D kA M T H.size u.1 t) (mA M T H.size) av) (mA M T H.size))
    (kk : ∀ (r : Nat) (M' : mM) (T' : mT) (H1 : Heap) (locs1 : List Loc), P ((M', T'), r) → H.size ≤ H1.size → mS D kA M' T' A H0 H1 locs1 → W p l e R s m args below meth c H1 locs1 (cells + mc) (slots + ms) Q (F0 m (pc + 3) ls (.ref r :: rest))) : W p l e R s m args below meth c H locs cells slots Q (F0 m pc ls st) :=
  va_callr hr hH.2.1 (fun q _ h => mA_sub hH q h) (mA_sub hH) (fun u ra t H1 locs1 ht hvm hP hB hz _ hS => by
    obtain ⟨e1, hB⟩ := hB
    subst e1
    exact kk u.2 u.1.1 u.1.2 H1 locs1 hP hz ⟨by rw [← ht]; exact hB.1, hS, fun q hq => mA_sub hH q (hB.2.2 q hq), hH.2.2.2⟩)
end XF
