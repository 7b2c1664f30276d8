def tyL (kA : Nat → ClassId) : List (ClassId × FieldType) := [(kA 0, .int), (kA 1, .byte), (kA 2, .boolean), (kA 3, .object RX6), (kA 4, .object RX2), (kA 5, .object RX1), (kA 6, .object RX8)]
def nestQ : List (String × Nat × MethodName × String) := [(RX1, 19, yX2_init, RX9), (RX1, 40, yX6_init, RX9), (RX9, 22, yX4_init, RX9), (RX9, 29, yX5_init, RX9), (RX3, 17, yX2_init, RX9), (RX8, 94, yX9_isPerson, RX9), (RX1, 190, yX9_isPerson, RX9), (RX8, 86, yX9_bit, RX9)]
def aoQ : List String := [RX1, RX6, RX8, RX2]
def mK (D : va_G) (kA : Nat → ClassId) (U : State) : Prop := va_K D vwCl (tyL kA) U ∧ (∀ q ∈ nestQ, va_Nw (.methodLinkNest q.1 q.2.1 q.2.2.1 q.2.2.2) U) ∧ ∀ C ∈ aoQ, va_AO C U
theorem mK.warm {D : va_G} {kA : Nat → ClassId} {s U : State} (hW : s.WarmedH U.vm) (h : mK D kA s) : mK D kA U := ⟨va_K.moved hW.alike h.1, fun q hq => va_Nw.warmM hW (h.2.1 q hq), fun C hC => (h.2.2 C hC).moved hW.alike⟩
theorem mK.same {D : va_G} {kA : Nat → ClassId} {s U : State} (hv : s.vm = U.vm) (h : mK D kA s) : mK D kA U := by
  have ha : s.vm.Alike U.vm := by rw [hv]; exact Vm.Alike.refl _
  exact ⟨va_K.moved ha h.1, fun q hq => va_Nw.same rfl hv (h.2.1 q hq), fun C hC => (h.2.2 C hC).moved ha⟩
def FL (own : String) (idx ci k : Nat) (ty : FieldType) (fin : Bool) : Prop := ∃ (C : String) (TT : u_T) (N : Nat) (ty0 : Nat → FieldType), vwCl[ci]? = some (C, TT, N) ∧ k < N ∧ Cond.fieldLink own idx (TT k).1 (TT k).2.1 (TT k).2.2.1 ∈ TB ∧ (∀ w ∈ u_ws C TT N, w ∈ TB) ∧ (∀ j, j < N → parseFieldDescriptor (TT j).2.2.1 = some (ty0 j)) ∧ (∀ a, a < N → ∀ b, b < N → a ≠ b → (TT a).2.1 ≠ (TT b).2.1) ∧ ty0 k = ty ∧ (TT k).2.2.2 = fin
def FLd (own : String) (ci k : Nat) : Prop := ∀ (C : String) (TT : u_T) (N : Nat), vwCl[ci]? = some (C, TT, N) → (TT k).1 = own
section XR
variable {p : Program} {l : Launch} {e : Env} {R : Room} {s : State} {m : MethodId} {args : Array Value} {below : List Frame} {meth : Method} {c : Code} {H : Heap} {locs : List Loc} {cells slots : Nat} {Q : State → Prop}
variable {cc : ByteArray} {nL pc : Nat} {ls : Array Slot} {rest : List Value} {D : va_G} {kA : Nat → ClassId} {M : mM} {T : mT} {A : Nat → Prop} {a : Nat} {H0 : Heap} {own : String} {idx ci k τ : Nat} {ty : FieldType} {fs : List Value} {v : Value}
/-- a field is read -/
theorem xg (hC : CallFix p m c cc nL s args TB own) (hK : mK D kA s) (hH : mS D kA M T A H0 H locs) {fin : Bool} (hf : FL own idx ci k ty fin) (he : M a = some (.inr (ci, fs))) (hv : fs[k]? = some v) (hdg : decode cc pc = .ok (.getfield idx, 3))
    (kk : W p l e R s m args below meth c H locs cells slots Q (F0 m (pc + 3) ls (v :: rest))) : W p l e R s m args below meth c H locs cells slots Q (F0 m pc ls (.ref a :: rest)) := by
  obtain ⟨hx, hb, -, ho, ht⟩ := hC
  obtain ⟨C, TT, N, ty0, h1, h2, h3, h4, -⟩ := hf
  exact va_get hx hb ht h4 ho hK.1 (hH.1.P1 he) 0 rfl h1 k h2 (ht _ h3) (fun _ h => h) hv hdg kk
theorem put_at (hC : CallFix p m c cc nL s args TB own) (hK : mK D kA s) (hf : FL own idx ci k ty false) (hat : va_at D vwCl (a, .inr (ci, fs)) H) (hn : narrow ty v = v) (hfit : fits ty v = true) (hl : k < fs.length) (hdg : decode cc pc = .ok (.putfield idx, 3))
    (kk : ∀ (H1 : Heap) (j : Nat), va_at D vwCl (a, .inr (ci, fs.set k v)) H1 → H1.size = H.size → (∀ q : Nat, q ≠ a → H1[q]? = H[q]?) → W p l e R s m args below meth c H1 (locs ++ [⟨a, j⟩]) cells slots Q (F0 m (pc + 3) ls rest)) : W p l e R s m args below meth c H locs cells slots Q (F0 m pc ls (v :: .ref a :: rest)) := by
  obtain ⟨hx, hb, -, ho, ht⟩ := hC
  obtain ⟨C, TT, N, ty0, hc, hk, h3, hin, hty, hnm, hte, hfin⟩ := hf
  have hd : parseFieldDescriptor (TT k).2.2.1 = some ty := by rw [hty k hk, hte]
  have hap := va_apart (own := own) ht hin ty0 hty hnm hK.1 hc
  obtain ⟨r, h1, cell, q1, q2, q3, q4⟩ := hat
  have hr : r = (C, TT, N) := Option.some.inj (h1.symm.trans hc)
  subst hr
  obtain ⟨hS, hfc, kC, hkC, hkind⟩ := hK.1.1 ci _ hc
  obtain ⟨cf, kf, fi, f, hi, hsl⟩ := hS k hk
  have hlay := ht _ (hin _ (u_in_lay hk))
  unfold u_lay at hlay
  rw [if_neg (by rw [hfin]; decide)] at hlay
  have hst := (u_facts hfc hkC (u_lays ht hin hk) hi).1
  have h6 := u_store hfc hkC hkind hlay hi hd hn hfit
  refine W.putK hx hb (f := f) ⟨ho, ht _ h3, ⟨_, _, _, hi⟩, hst⟩ (by rw [q2]; exact h6) q1 q3 (by rw [hsl]; exact k2_hasslot (q4 k hk)) rfl rfl hdg fun H' e1 e2 e3 => ?_
  rw [hsl] at e1 ⊢
  exact kk H' _ ⟨_, hc, t_OB.to (V := updV (vp_V fs) k v) ⟨_, e1, q2, q3, t_set q4 hap hk v⟩ (fun j _ => vp_updV_set hl v j)⟩ e2 e3
/-- a field is written -/
theorem xp (hC : CallFix p m c cc nL s args TB own) (hK : mK D kA s) (hH : mS D kA M T A H0 H locs) (hf : FL own idx ci k ty false) (he : M a = some (.inr (ci, fs))) (hcf : ∀ t, T a = some t → conf kA T t (.inr (ci, fs.set k v))) (hn : narrow ty v = v) (hfit : fits ty v = true) (hl : k < fs.length) (hdg : decode cc pc = .ok (.putfield idx, 3))
    (kk : ∀ (H1 : Heap) (locs1 : List Loc), mS D kA (va_up M a (some (.inr (ci, fs.set k v)))) T A H0 H1 locs1 → W p l e R s m args below meth c H1 locs1 cells slots Q (F0 m (pc + 3) ls rest)) : W p l e R s m args below meth c H locs cells slots Q (F0 m pc ls (v :: .ref a :: rest)) :=
  put_at hC hK hf (hH.1.1 a _ he) hn hfit hl hdg (fun H1 j h1 z oq => kk H1 _ (hH.putM he hcf h1 z oq))
/-- a final field is written, in its constructor -/
theorem xpF (hC : CallFix p m c cc nL s args TB own) (hK : mK D kA s) (hH : mS D kA M T A H0 H locs) (hini : meth.name = "<init>") (hfd : FLd own ci k) (hf : FL own idx ci k ty true) (he : M a = some (.inr (ci, fs))) (hcf : ∀ t, T a = some t → conf kA T t (.inr (ci, fs.set k v))) (hn : narrow ty v = v) (hfit : fits ty v = true) (hl : k < fs.length) (hdg : decode cc pc = .ok (.putfield idx, 3))
    (kk : ∀ (H1 : Heap) (locs1 : List Loc), mS D kA (va_up M a (some (.inr (ci, fs.set k v)))) T A H0 H1 locs1 → W p l e R s m args below meth c H1 locs1 cells slots Q (F0 m (pc + 3) ls rest)) : W p l e R s m args below meth c H locs cells slots Q (F0 m pc ls (v :: .ref a :: rest)) := by
  obtain ⟨hx, hb, -, ho, ht⟩ := hC
  obtain ⟨C, TT, N, ty0, hc, hk, h3, hin, hty, hnm, hte, hfin⟩ := hf
  have hd : parseFieldDescriptor (TT k).2.2.1 = some ty := by rw [hty k hk, hte]
  have hap := va_apart (own := own) ht hin ty0 hty hnm hK.1 hc
  obtain ⟨r, h1, cell, q1, q2, q3, q4⟩ := hH.1.1 a _ he
  have hr : r = (C, TT, N) := Option.some.inj (h1.symm.trans hc)
  subst hr
  obtain ⟨hS, hfc, kC, hkC, hkind⟩ := hK.1.1 ci _ hc
  obtain ⟨cf, kf, fi, f, hi, hsl⟩ := hS k hk
  have hlay := ht _ (hin _ (u_in_lay hk))
  unfold u_lay at hlay
  rw [if_pos hfin] at hlay
  have hst := (u_facts hfc hkC (u_lays ht hin hk) hi).1
  have hmc : m.cls = cf := by
    obtain ⟨_, _, c', _, _, _, -, -, hf', -, -, -, hown2, -⟩ := Cond.laysFinal_spec hlay
    have e1 : c' = cf := by have := hi.symm.trans hf'; simp at this; exact this.1.symm
    rw [hfd _ _ _ hc] at hown2
    rw [← e1]; exact Option.some.inj (ho.symm.trans hown2)
  have h6 := u_fits hfc hkC hkind (Or.inr hlay) hi hd hn hfit
  refine W.putFinK hx hb ho (ht _ h3) hi hst hmc hini (by rw [q2]; exact h6) q1 q3 (by rw [hsl]; exact k2_hasslot (q4 k hk)) rfl rfl hdg fun H' e1 e2 e3 => ?_
  rw [hsl] at e1 ⊢
  exact kk H' _ (hH.putM he hcf ⟨_, hc, t_OB.to (V := updV (vp_V fs) k v) ⟨_, e1, q2, q3, t_set q4 hap hk v⟩ (fun j _ => vp_updV_set hl v j)⟩ e2 e3)
/-- typed reads and writes of fields -/
theorem tcell (hH : mS D kA M T A H0 H locs) (ht : T a = some τ) {sps : List fS} (hsp : tsp τ = .inl (ci, sps)) : ∃ fs : List Value, va_at D vwCl (a, .inr (ci, fs)) H ∧ fs.length = sps.length ∧ ∀ (k : Nat) (q : fS), sps[k]? = some q → ∃ v, fs[k]? = some v ∧ okV T q v := by
  obtain ⟨e, h1, h2⟩ := hH.1.2 a τ ht
  unfold conf at h2
  rw [hsp] at h2
  obtain ⟨fs, h3, h4, h5⟩ := h2
  subst h3
  exact ⟨fs, h1, h4, h5⟩
theorem tg (hC : CallFix p m c cc nL s args TB own) (hK : mK D kA s) (hH : mS D kA M T A H0 H locs) {fin : Bool} (hf : FL own idx ci k ty fin) (ht : T a = some τ) {sps : List fS} (hsp : tsp τ = .inl (ci, sps)) {r : Int × Int} (hq : sps[k]? = some (.inl r)) (hdg : decode cc pc = .ok (.getfield idx, 3))
    (kk : ∀ x : Int32, r.1 ≤ x.toInt → x.toInt ≤ r.2 → W p l e R s m args below meth c H locs cells slots Q (F0 m (pc + 3) ls (.int x :: rest))) : W p l e R s m args below meth c H locs cells slots Q (F0 m pc ls (.ref a :: rest)) := by
  obtain ⟨fs, h1, h2, h3⟩ := tcell hH ht hsp
  obtain ⟨v, hv, x, hx1, hx2, hx3⟩ := h3 k _ hq
  subst hx1
  obtain ⟨hx, hb, -, ho, htt⟩ := hC
  obtain ⟨C, TT, N, ty0, g1, g2, g3, g4, -⟩ := hf
  exact va_get hx hb htt g4 ho hK.1 (at_P1 h1) 0 rfl g1 k g2 (htt _ g3) (fun _ h => h) hv hdg (kk x hx2 hx3)
theorem tgr (hC : CallFix p m c cc nL s args TB own) (hK : mK D kA s) (hH : mS D kA M T A H0 H locs) {fin : Bool} (hf : FL own idx ci k ty fin) (ht : T a = some τ) {sps : List fS} (hsp : tsp τ = .inl (ci, sps)) {τ' : Nat} (hq : sps[k]? = some (.inr τ')) (hdg : decode cc pc = .ok (.getfield idx, 3))
    (kk : ∀ q : Nat, T q = some τ' → W p l e R s m args below meth c H locs cells slots Q (F0 m (pc + 3) ls (.ref q :: rest))) : W p l e R s m args below meth c H locs cells slots Q (F0 m pc ls (.ref a :: rest)) := by
  obtain ⟨fs, h1, h2, h3⟩ := tcell hH ht hsp
  obtain ⟨v, hv, q, hx1, hx2⟩ := h3 k _ hq
  subst hx1
  obtain ⟨hx, hb, -, ho, htt⟩ := hC
  obtain ⟨C, TT, N, ty0, g1, g2, g3, g4, -⟩ := hf
  exact va_get hx hb htt g4 ho hK.1 (at_P1 h1) 0 rfl g1 k g2 (htt _ g3) (fun _ h => h) hv hdg (kk q hx2)
theorem tpu (hC : CallFix p m c cc nL s args TB own) (hK : mK D kA s) (hH : mS D kA M T A H0 H locs) (hf : FL own idx ci k ty false) (ht : T a = some τ) {sps : List fS} (hsp : tsp τ = .inl (ci, sps)) {r : Int × Int} (hq : sps[k]? = some (.inl r)) {x : Int32} (hx1 : r.1 ≤ x.toInt) (hx2 : x.toInt ≤ r.2) (hn : narrow ty (.int x) = .int x) (hfit : fits ty (.int x) = true) (hdg : decode cc pc = .ok (.putfield idx, 3))
    (kk : ∀ (H1 : Heap) (locs1 : List Loc) (M1 : mM), M1 a = none → (∀ q, q ≠ a → M1 q = M q) → mS D kA M1 T A H0 H1 locs1 → W p l e R s m args below meth c H1 locs1 cells slots Q (F0 m (pc + 3) ls rest)) : W p l e R s m args below meth c H locs cells slots Q (F0 m pc ls (.int x :: .ref a :: rest)) := by
  obtain ⟨fs, h1, h2, h3⟩ := tcell hH ht hsp
  have hl : k < fs.length := by rw [h2]; exact (List.getElem?_eq_some_iff.mp hq).1
  refine put_at hC hK hf h1 hn hfit hl hdg (fun H1 j g1 z oq => kk H1 _ _ (upS _ _ _) (fun _ hq => upN _ _ hq) (hH.putT ht g1 ?_ z oq))
  unfold conf
  rw [hsp]
  refine ⟨_, rfl, by rw [List.length_set]; exact h2, fun k' q hk' => ?_⟩
  by_cases hkk : k' = k
  · subst hkk
    rw [hq] at hk'
    cases hk'
    exact ⟨.int x, by rw [List.getElem?_set_self hl], x, rfl, hx1, hx2⟩
  · obtain ⟨v, g2, g3⟩ := h3 k' q hk'
    exact ⟨v, by rw [List.getElem?_set_ne (Ne.symm hkk)]; exact g2, g3⟩
/-- arrays known exactly -/
theorem xild (hC : CallFix p m c cc nL s args TB own) (hK : mK D kA s) (hH : mS D kA M T A H0 H locs) {n : Nat} {f : Nat → Int32} (he : M a = some (.inl (kA 0, n, .inl f))) {i : Int32} (hin : vp_in i n) (hdg : decode cc pc = .ok (.iaload, 1))
    (kk : W p l e R s m args below meth c H locs cells slots Q (F0 m (pc + 1) ls (.int (f i.toNatClampNeg) :: rest))) : W p l e R s m args below meth c H locs cells slots Q (F0 m pc ls (.int i :: .ref a :: rest)) :=
  va_iald hC.1 hC.2.1 hK.1 (hH.1.P1 he) 0 0 rfl rfl hin hdg kk
theorem xzld (hC : CallFix p m c cc nL s args TB own) (hK : mK D kA s) (hH : mS D kA M T A H0 H locs) {n : Nat} {f : Nat → Int32} (he : M a = some (.inl (kA 2, n, .inl f))) {i : Int32} (hin : vp_in i n) (hdg : decode cc pc = .ok (.baload, 1))
    (kk : W p l e R s m args below meth c H locs cells slots Q (F0 m (pc + 1) ls (.int (f i.toNatClampNeg) :: rest))) : W p l e R s m args below meth c H locs cells slots Q (F0 m pc ls (.int i :: .ref a :: rest)) :=
  va_zald hC.1 hC.2.1 hK.1 (hH.1.P1 he) 0 2 rfl rfl hin hdg kk
theorem ist_at (hC : CallFix p m c cc nL s args TB own) (hK : mK D kA s) {n : Nat} {f : Nat → Int32} (hat : va_at D vwCl (a, .inl (kA 0, n, .inl f)) H) {i x : Int32} (hin : vp_in i n) (hdg : decode cc pc = .ok (.iastore, 1))
    (kk : ∀ (H1 : Heap) (j : Nat), va_at D vwCl (a, .inl (kA 0, n, .inl (upd f i.toNatClampNeg x))) H1 → H1.size = H.size → (∀ q : Nat, q ≠ a → H1[q]? = H[q]?) → W p l e R s m args below meth c H1 (locs ++ [⟨a, j⟩]) cells slots Q (F0 m (pc + 1) ls rest)) : W p l e R s m args below meth c H locs cells slots Q (F0 m pc ls (.int x :: .int i :: .ref a :: rest)) := by
  refine W.iast hC.1 hC.2.1 hat ((hK.1.2 0 _ rfl).1 n (fun j => .int (f j))) (fun q => by cases q) (by show ¬ (i < 0 ∨ (arrV _ _ _).slots.size ≤ _); rw [arrV_size]; exact hin) rfl rfl hdg fun H1 e z oq => ?_
  refine kk H1 _ ?_ z oq
  show H1[a]? = some (vp_cell _ _)
  rw [e]
  rw [vp_cell_i, vp_cell_i, arrV_store]
  congr 2
  funext q
  by_cases hq : q = i.toNatClampNeg
  · subst hq
    simp [updV, upd]
  · simp [updV, upd, hq]
theorem bst_at (hC : CallFix p m c cc nL s args TB own) (hK : mK D kA s) {n : Nat} {f : Nat → Int32} (hat : va_at D vwCl (a, .inl (kA 1, n, .inl f)) H) {i x : Int32} (hin : vp_in i n) (hdg : decode cc pc = .ok (.bastore, 1))
    (kk : ∀ (H1 : Heap) (j : Nat), va_at D vwCl (a, .inl (kA 1, n, .inl (upd f i.toNatClampNeg (vp_nar .byte x)))) H1 → H1.size = H.size → (∀ q : Nat, q ≠ a → H1[q]? = H[q]?) → W p l e R s m args below meth c H1 (locs ++ [⟨a, j⟩]) cells slots Q (F0 m (pc + 1) ls rest)) : W p l e R s m args below meth c H locs cells slots Q (F0 m pc ls (.int x :: .int i :: .ref a :: rest)) := by
  refine W.bast hC.1 hC.2.1 hat ((hK.1.2 1 _ rfl).1 n (fun j => .int (f j))) (fun q => by cases q) (by show ¬ (i < 0 ∨ (arrV _ _ _).slots.size ≤ _); rw [arrV_size]; exact hin) rfl rfl hdg fun H1 e z oq => ?_
  refine kk H1 _ ?_ z oq
  show H1[a]? = some (vp_cell _ _)
  rw [e]
  rw [vp_cell_i, vp_cell_i, arrV_store]
  congr 2
  funext q
  by_cases hq : q = i.toNatClampNeg
  · subst hq
    simp [updV, upd, vp_nar]
    try rfl
  · simp [updV, upd, hq]
theorem zst_at (hC : CallFix p m c cc nL s args TB own) (hK : mK D kA s) {n : Nat} {f : Nat → Int32} (hat : va_at D vwCl (a, .inl (kA 2, n, .inl f)) H) {i x : Int32} (hin : vp_in i n) (hdg : decode cc pc = .ok (.bastore, 1))
    (kk : ∀ (H1 : Heap) (j : Nat), va_at D vwCl (a, .inl (kA 2, n, .inl (upd f i.toNatClampNeg (vp_nar .boolean x)))) H1 → H1.size = H.size → (∀ q : Nat, q ≠ a → H1[q]? = H[q]?) → W p l e R s m args below meth c H1 (locs ++ [⟨a, j⟩]) cells slots Q (F0 m (pc + 1) ls rest)) : W p l e R s m args below meth c H locs cells slots Q (F0 m pc ls (.int x :: .int i :: .ref a :: rest)) := by
  refine W.zast hC.1 hC.2.1 hat ((hK.1.2 2 _ rfl).1 n (fun j => .int (f j))) (fun q => by cases q) (by show ¬ (i < 0 ∨ (arrV _ _ _).slots.size ≤ _); rw [arrV_size]; exact hin) rfl rfl hdg fun H1 e z oq => ?_
  refine kk H1 _ ?_ z oq
  show H1[a]? = some (vp_cell _ _)
  rw [e]
  rw [vp_cell_i, vp_cell_i, arrV_store]
  congr 2
  funext q
  by_cases hq : q = i.toNatClampNeg
  · subst hq
    simp [updV, upd, vp_nar]
    try rfl
  · simp [updV, upd, hq]
theorem xist (hC : CallFix p m c cc nL s args TB own) (hK : mK D kA s) (hH : mS D kA M T A H0 H locs) {n : Nat} {f : Nat → Int32} (he : M a = some (.inl (kA 0, n, .inl f))) {i x : Int32} (hcf : ∀ t, T a = some t → conf kA T t (.inl (kA 0, n, .inl (upd f i.toNatClampNeg x)))) (hin : vp_in i n) (hdg : decode cc pc = .ok (.iastore, 1))
    (kk : ∀ (H1 : Heap) (locs1 : List Loc), mS D kA (va_up M a (some (.inl (kA 0, n, .inl (upd f i.toNatClampNeg x))))) T A H0 H1 locs1 → W p l e R s m args below meth c H1 locs1 cells slots Q (F0 m (pc + 1) ls rest)) : W p l e R s m args below meth c H locs cells slots Q (F0 m pc ls (.int x :: .int i :: .ref a :: rest)) :=
  ist_at hC hK (hH.1.1 a _ he) hin hdg (fun H1 j h1 z oq => kk H1 _ (hH.putM he hcf h1 z oq))
theorem xzst (hC : CallFix p m c cc nL s args TB own) (hK : mK D kA s) (hH : mS D kA M T A H0 H locs) {n : Nat} {f : Nat → Int32} (he : M a = some (.inl (kA 2, n, .inl f))) {i x : Int32} (hcf : ∀ t, T a = some t → conf kA T t (.inl (kA 2, n, .inl (upd f i.toNatClampNeg (vp_nar .boolean x))))) (hin : vp_in i n) (hdg : decode cc pc = .ok (.bastore, 1))
    (kk : ∀ (H1 : Heap) (locs1 : List Loc), mS D kA (va_up M a (some (.inl (kA 2, n, .inl (upd f i.toNatClampNeg (vp_nar .boolean x)))))) T A H0 H1 locs1 → W p l e R s m args below meth c H1 locs1 cells slots Q (F0 m (pc + 1) ls rest)) : W p l e R s m args below meth c H locs cells slots Q (F0 m pc ls (.int x :: .int i :: .ref a :: rest)) :=
  zst_at hC hK (hH.1.1 a _ he) hin hdg (fun H1 j h1 z oq => kk H1 _ (hH.putM he hcf h1 z oq))
/-- arrays of a tag -/
theorem tcellI (hH : mS D kA M T A H0 H locs) (ht : T a = some τ) {ck n : Nat} {r : Int × Int} (hsp : tsp τ = .inr (ck, n, .inl r)) : ∃ f : Nat → Int32, va_at D vwCl (a, .inl (kA ck, n, .inl f)) H ∧ ∀ j, j < n → r.1 ≤ (f j).toInt ∧ (f j).toInt ≤ r.2 := by
  obtain ⟨e, h1, h2⟩ := hH.1.2 a τ ht
  unfold conf at h2
  rw [hsp] at h2
  obtain ⟨f, h3, h4⟩ := h2
  subst h3
  exact ⟨f, h1, h4⟩
theorem tcellQ (hH : mS D kA M T A H0 H locs) (ht : T a = some τ) {ck n τ' : Nat} (hsp : tsp τ = .inr (ck, n, .inr τ')) : ∃ g : Nat → Option Nat, va_at D vwCl (a, .inl (kA ck, n, .inr (.inr (.inr (.inr g))))) H ∧ ∀ j, j < n → ∃ q, g j = some q ∧ T q = some τ' := by
  obtain ⟨e, h1, h2⟩ := hH.1.2 a τ ht
  unfold conf at h2
  rw [hsp] at h2
  obtain ⟨g, h3, h4⟩ := h2
  subst h3
  exact ⟨g, h1, h4⟩
theorem in_lt {i : Int32} {n : Nat} (h : vp_in i n) : i.toNatClampNeg < n := Nat.not_le.mp fun q => h (Or.inr q)
theorem tild (hC : CallFix p m c cc nL s args TB own) (hK : mK D kA s) (hH : mS D kA M T A H0 H locs) (ht : T a = some τ) {n : Nat} {r : Int × Int} (hsp : tsp τ = .inr (0, n, .inl r)) {i : Int32} (hin : vp_in i n) (hdg : decode cc pc = .ok (.iaload, 1))
    (kk : ∀ x : Int32, r.1 ≤ x.toInt → x.toInt ≤ r.2 → W p l e R s m args below meth c H locs cells slots Q (F0 m (pc + 1) ls (.int x :: rest))) : W p l e R s m args below meth c H locs cells slots Q (F0 m pc ls (.int i :: .ref a :: rest)) := by
  obtain ⟨f, h1, h2⟩ := tcellI hH ht hsp
  exact va_iald hC.1 hC.2.1 hK.1 (at_P1 h1) 0 0 rfl rfl hin hdg (kk _ (h2 _ (in_lt hin)).1 (h2 _ (in_lt hin)).2)
theorem tbld (hC : CallFix p m c cc nL s args TB own) (hK : mK D kA s) (hH : mS D kA M T A H0 H locs) (ht : T a = some τ) {n : Nat} {r : Int × Int} (hsp : tsp τ = .inr (1, n, .inl r)) {i : Int32} (hin : vp_in i n) (hdg : decode cc pc = .ok (.baload, 1))
    (kk : ∀ x : Int32, r.1 ≤ x.toInt → x.toInt ≤ r.2 → W p l e R s m args below meth c H locs cells slots Q (F0 m (pc + 1) ls (.int x :: rest))) : W p l e R s m args below meth c H locs cells slots Q (F0 m pc ls (.int i :: .ref a :: rest)) := by
  obtain ⟨f, h1, h2⟩ := tcellI hH ht hsp
  exact va_bald hC.1 hC.2.1 hK.1 (at_P1 h1) 0 1 rfl rfl hin hdg (kk _ (h2 _ (in_lt hin)).1 (h2 _ (in_lt hin)).2)
theorem upd_rng {f : Nat → Int32} {n k : Nat} {x : Int32} {r : Int × Int} (h : ∀ j, j < n → r.1 ≤ (f j).toInt ∧ (f j).toInt ≤ r.2) (h1 : r.1 ≤ x.toInt) (h2 : x.toInt ≤ r.2) : ∀ j, j < n → r.1 ≤ (upd f k x j).toInt ∧ (upd f k x j).toInt ≤ r.2 := by
  intro j hj
  by_cases hk : j = k
  · subst hk
    rw [show upd f j x j = x by simp [upd]]
    exact ⟨h1, h2⟩
  · rw [show upd f k x j = f j by simp [upd, hk]]
    exact h j hj
theorem tist (hC : CallFix p m c cc nL s args TB own) (hK : mK D kA s) (hH : mS D kA M T A H0 H locs) (ht : T a = some τ) {n : Nat} {r : Int × Int} (hsp : tsp τ = .inr (0, n, .inl r)) {i x : Int32} (hin : vp_in i n) (hx1 : r.1 ≤ x.toInt) (hx2 : x.toInt ≤ r.2) (hdg : decode cc pc = .ok (.iastore, 1))
    (kk : ∀ (H1 : Heap) (locs1 : List Loc) (M1 : mM), M1 a = none → (∀ q, q ≠ a → M1 q = M q) → mS D kA M1 T A H0 H1 locs1 → W p l e R s m args below meth c H1 locs1 cells slots Q (F0 m (pc + 1) ls rest)) : W p l e R s m args below meth c H locs cells slots Q (F0 m pc ls (.int x :: .int i :: .ref a :: rest)) := by
  obtain ⟨f, h1, h2⟩ := tcellI hH ht hsp
  refine ist_at hC hK h1 hin hdg (fun H1 j g1 z oq => kk H1 _ _ (upS _ _ _) (fun _ hq => upN _ _ hq) (hH.putT ht g1 ?_ z oq))
  unfold conf
  rw [hsp]
  exact ⟨_, rfl, upd_rng h2 hx1 hx2⟩
theorem tbst (hC : CallFix p m c cc nL s args TB own) (hK : mK D kA s) (hH : mS D kA M T A H0 H locs) (ht : T a = some τ) {n : Nat} {r : Int × Int} (hsp : tsp τ = .inr (1, n, .inl r)) {i x : Int32} (hin : vp_in i n) (hx1 : r.1 ≤ (vp_nar .byte x).toInt) (hx2 : (vp_nar .byte x).toInt ≤ r.2) (hdg : decode cc pc = .ok (.bastore, 1))
    (kk : ∀ (H1 : Heap) (locs1 : List Loc) (M1 : mM), M1 a = none → (∀ q, q ≠ a → M1 q = M q) → mS D kA M1 T A H0 H1 locs1 → W p l e R s m args below meth c H1 locs1 cells slots Q (F0 m (pc + 1) ls rest)) : W p l e R s m args below meth c H locs cells slots Q (F0 m pc ls (.int x :: .int i :: .ref a :: rest)) := by
  obtain ⟨f, h1, h2⟩ := tcellI hH ht hsp
  refine bst_at hC hK h1 hin hdg (fun H1 j g1 z oq => kk H1 _ _ (upS _ _ _) (fun _ hq => upN _ _ hq) (hH.putT ht g1 ?_ z oq))
  unfold conf
  rw [hsp]
  exact ⟨_, rfl, upd_rng h2 hx1 hx2⟩
theorem xqld (hC : CallFix p m c cc nL s args TB own) (hK : mK D kA s) (hH : mS D kA M T A H0 H locs) {n ck : Nat} {f : Nat → Option Nat} {C : String} (hk : (tyL kA)[ck]? = some (kA ck, .object C)) (he : M a = some (.inl (kA ck, n, .inr (.inr (.inr (.inr f)))))) {i : Int32} (hin : vp_in i n) (hdg : decode cc pc = .ok (.aaload, 1))
    (kk : W p l e R s m args below meth c H locs cells slots Q (F0 m (pc + 1) ls (va_rf (f i.toNatClampNeg) :: rest))) : W p l e R s m args below meth c H locs cells slots Q (F0 m pc ls (.int i :: .ref a :: rest)) :=
  va_aldq hC.1 hC.2.1 hK.1 (hH.1.P1 he) 0 ck rfl hk hin hdg kk
theorem tqld (hC : CallFix p m c cc nL s args TB own) (hK : mK D kA s) (hH : mS D kA M T A H0 H locs) (ht : T a = some τ) {n ck τ' : Nat} {C : String} (hk : (tyL kA)[ck]? = some (kA ck, .object C)) (hsp : tsp τ = .inr (ck, n, .inr τ')) {i : Int32} (hin : vp_in i n) (hdg : decode cc pc = .ok (.aaload, 1))
    (kk : ∀ q : Nat, T q = some τ' → W p l e R s m args below meth c H locs cells slots Q (F0 m (pc + 1) ls (.ref q :: rest))) : W p l e R s m args below meth c H locs cells slots Q (F0 m pc ls (.int i :: .ref a :: rest)) := by
  obtain ⟨g, h1, h2⟩ := tcellQ hH ht hsp
  obtain ⟨q, h3, h4⟩ := h2 _ (in_lt hin)
  refine va_aldq hC.1 hC.2.1 hK.1 (at_P1 h1) 0 ck rfl hk hin hdg ?_
  rw [h3]
  exact kk q h4
/-- a reference is stored in an array known exactly: to an object of the class -/
theorem xqst (hC : CallFix p m c cc nL s args TB own) (hK : mK D kA s) (hH : mS D kA M T A H0 H locs) {n ck cv v : Nat} {f : Nat → Option Nat} {r : vw_C} (hk : (tyL kA)[ck]? = some (kA ck, .object r.1)) (hc : vwCl[cv]? = some r) (he : M a = some (.inl (kA ck, n, .inr (.inr (.inr (.inr f)))))) (hv : ∃ vs, va_at D vwCl (v, .inr (cv, vs)) H) {i : Int32} (hcf : ∀ t, T a = some t → conf kA T t (.inl (kA ck, n, .inr (.inr (.inr (.inr (va_up f i.toNatClampNeg (some v)))))))) (hin : vp_in i n) (hdg : decode cc pc = .ok (.aastore, 1))
    (kk : ∀ (H1 : Heap) (locs1 : List Loc), mS D kA (va_up M a (some (.inl (kA ck, n, .inr (.inr (.inr (.inr (va_up f i.toNatClampNeg (some v))))))))) T A H0 H1 locs1 → W p l e R s m args below meth c H1 locs1 cells slots Q (F0 m (pc + 1) ls rest)) : W p l e R s m args below meth c H locs cells slots Q (F0 m pc ls (.ref v :: .int i :: .ref a :: rest)) := by
  have hlt := in_lt hin
  have h0 : ¬ i < 0 := fun q => hin (Or.inl q)
  obtain ⟨vs, r', hr', cellV, g1, g2, g3, -⟩ := hv
  have hcls := (hK.1.1 cv r hc).2
  obtain ⟨kA', comp, k1, k2, k3, -⟩ := (hK.1.2 ck _ hk).2
  have hcomp : comp = D.1 cv := Option.some.inj (k3.symm.trans hcls.1)
  subst hcomp
  obtain ⟨kC, hkC, -⟩ := hcls.2
  refine W.aast hC.1 hC.2.1 (hH.1.1 a _ he) (fun q h => by cases h) (fun h => by cases h) k1 k2 rfl hkC ⟨h0, by show _ < (arrV _ _ _).slots.size; rw [arrV_size]; exact hlt⟩ g1 (fun q h => by rw [g3] at h; cases h) (by rw [g2]; exact hkC) (by rw [g2]; exact va_assign hcls) rfl rfl hdg fun H1 e z oq => ?_
  refine kk H1 _ (hH.putM he hcf ?_ z oq)
  show H1[a]? = some (vp_cell _ _)
  rw [e]
  rw [vp_cell_q, vp_cell_q, arrV_store]
  congr 2
  funext q
  by_cases hq : q = i.toNatClampNeg
  · subst hq
    simp [updV, va_up, va_rf]
  · simp [updV, va_up, hq]
theorem xlen (hC : CallFix p m c cc nL s args TB own) (hK : mK D kA s) (hH : mS D kA M T A H0 H locs) {ck : Nat} {x : vp_A} {ty : FieldType} (hk : (tyL kA)[ck]? = some (kA ck, ty)) (he : M a = some (.inl (kA ck, x))) {v : Int32} (hv : Int32.ofNat x.1 = v) (hdg : decode cc pc = .ok (.arraylength, 1))
    (kk : W p l e R s m args below meth c H locs cells slots Q (F0 m (pc + 1) ls (.int v :: rest))) : W p l e R s m args below meth c H locs cells slots Q (F0 m pc ls (.ref a :: rest)) :=
  va_alen hC.1 hC.2.1 hK.1 (hH.1.P1 he) 0 ck rfl hk hv hdg kk
theorem tlen (hC : CallFix p m c cc nL s args TB own) (hK : mK D kA s) (hH : mS D kA M T A H0 H locs) (ht : T a = some τ) {ck n : Nat} {r : Int × Int} {ty : FieldType} (hk : (tyL kA)[ck]? = some (kA ck, ty)) (hsp : tsp τ = .inr (ck, n, .inl r)) {v : Int32} (hv : Int32.ofNat n = v) (hdg : decode cc pc = .ok (.arraylength, 1))
    (kk : W p l e R s m args below meth c H locs cells slots Q (F0 m (pc + 1) ls (.int v :: rest))) : W p l e R s m args below meth c H locs cells slots Q (F0 m pc ls (.ref a :: rest)) := by
  obtain ⟨f, h1, h2⟩ := tcellI hH ht hsp
  exact va_alen hC.1 hC.2.1 hK.1 (at_P1 h1) 0 ck rfl hk hv hdg kk
/-- new cells -/
def NL (own : String) (idx ci N : Nat) (fs : List Value) : Prop := ∃ (C : String) (TT : u_T) (ty : Nat → FieldType), vwCl[ci]? = some (C, TT, N) ∧ Cond.classLink own idx C ∈ TB ∧ Cond.instantiable C N ∈ TB ∧ Cond.initialized C ∈ TB ∧ (∀ w ∈ u_ws C TT N, w ∈ TB) ∧ (∀ j, j < N → parseFieldDescriptor (TT j).2.2.1 = some (ty j)) ∧ ∀ j, j < N → defaultValue (ty j) = vp_V fs j
theorem xnew (hC : CallFix p m c cc nL s args TB own) (hK : mK D kA s) (hH : mS D kA M T A H0 H locs) {N : Nat} (hf : NL own idx ci N fs) (hcells : cells + 1 ≤ R.cells) (hslots : slots + N ≤ R.slots) (hdg : decode cc pc = .ok (.new idx, 3))
    (kk : ∀ (q : Nat) (H1 : Heap), q = H.size → H1.size = q + 1 → M q = none → T q = none → mS D kA (va_up M q (some (.inr (ci, fs)))) T A H0 H1 locs → W p l e R s m args below meth c H1 locs (cells + 1) (slots + N) Q (F0 m (pc + 3) ls (.ref q :: rest))) : W p l e R s m args below meth c H locs cells slots Q (F0 m pc ls rest) := by
  obtain ⟨hx, hb, -, ho, ht⟩ := hC
  obtain ⟨C, TT, ty, hc, h2, h3, h4, hin, hty, hfs⟩ := hf
  have hKn := hK.1.1 ci _ hc
  refine W.newcK hx hb ho (ht _ h2) (ht _ h3) (ht _ h4) rfl hdg hcells hslots hKn.2.1 rfl fun H1 kC hkC e1 z1 o1 => ?_
  obtain ⟨g1, g2, g3⟩ := hH.newM (e := .inr (ci, fs)) (H1 := H1) ⟨_, hc, (u_born ty ht hin hKn hkC e1 hty).to hfs⟩ z1 o1
  exact kk H.size H1 rfl z1 g2 g3 g1
theorem xnewa (hC : CallFix p m c cc nL s args TB own) (hK : mK D kA s) (hH : mS D kA M T A H0 H locs) {atype : ArrayType} {ck : Nat} {ty : FieldType} (hty : newarray.typeOf atype = ty) (hw : Cond.arrayClass ty ∈ TB) (hck : (tyL kA)[ck]? = some (kA ck, ty)) (hpr : ∀ C, ty ≠ .object C) {n : Int32} {N : Nat} {a0 : vp_A} (ha : ∀ cA : ClassId, vp_cell cA a0 = arrV cA N (fun _ => defaultValue ty)) (hn : ¬ n < 0) (hN : n.toNatClampNeg = N) (hbytes : N * componentBytes ty ≤ 536870912) (hcells : cells + 1 ≤ R.cells) (hslots : slots + N ≤ R.slots) (hdg : decode cc pc = .ok (.newarray atype, 2))
    (kk : ∀ (q : Nat) (H1 : Heap), q = H.size → H1.size = q + 1 → M q = none → T q = none → mS D kA (va_up M q (some (.inl (kA ck, a0)))) T A H0 H1 locs → W p l e R s m args below meth c H1 locs (cells + 1) (slots + N) Q (F0 m (pc + 2) ls (.ref q :: rest))) : W p l e R s m args below meth c H locs cells slots Q (F0 m pc ls (.int n :: rest)) := by
  obtain ⟨hx, hb, -, ho, ht⟩ := hC
  subst hty
  refine va_newaK hx hb (ht _ hw) rfl hdg rfl hn hN hbytes hcells hslots rfl fun H1 cA e1 z1 o1 hAr hNm => ?_
  have hcA : cA = kA ck := by
    have h2 := (hK.1.2 ck _ hck).2
    have h3 : s.vm.findClass ("[" ++ (newarray.typeOf atype).toString) = some (kA ck) := by
      cases atype <;> exact h2
    exact Option.some.inj (hNm.symm.trans h3)
  subst hcA
  obtain ⟨g1, g2, g3⟩ := hH.newM (e := .inl (kA ck, a0)) (H1 := H1) (by show H1[H.size]? = some (vp_cell _ _); rw [ha]; exact e1) z1 o1
  exact kk H.size H1 rfl z1 g2 g3 g1
theorem xnewq (hC : CallFix p m c cc nL s args TB own) (hK : mK D kA s) (hH : mS D kA M T A H0 H locs) {ck : Nat} {C : String} (hw : Cond.classLink own idx C ∈ TB) (hao : C ∈ aoQ) (hck : (tyL kA)[ck]? = some (kA ck, .object C)) {n : Int32} {N : Nat} (hn : ¬ n < 0) (hN : n.toNatClampNeg = N) (hbytes : N * 4 ≤ 536870912) (hcells : cells + 1 ≤ R.cells) (hslots : slots + N ≤ R.slots) (hdg : decode cc pc = .ok (.anewarray idx, 3))
    (kk : ∀ (q : Nat) (H1 : Heap), q = H.size → H1.size = q + 1 → M q = none → T q = none → mS D kA (va_up M q (some (.inl (kA ck, N, .inr (.inr (.inr (.inr (fun _ => none)))))))) T A H0 H1 locs → W p l e R s m args below meth c H1 locs (cells + 1) (slots + N) Q (F0 m (pc + 3) ls (.ref q :: rest))) : W p l e R s m args below meth c H locs cells slots Q (F0 m pc ls (.int n :: rest)) := by
  obtain ⟨hx, hb, -, ho, ht⟩ := hC
  subst hN
  refine W.anew hx hb ho (ht _ hw) (va_AO.use (hK.2.2 C hao)) rfl hdg rfl hn hbytes hcells hslots fun cA kA' comp f1 f2 f3 f4 => ?_
  have hcA : cA = kA ck := by
    obtain ⟨_, _, _, _, _, h3⟩ := (hK.1.2 ck _ hck).2
    exact Option.some.inj (f1.symm.trans h3)
  subst hcA
  obtain ⟨g1, g2, g3⟩ := hH.newM (e := .inl (kA ck, n.toNatClampNeg, .inr (.inr (.inr (.inr (fun _ => none)))))) (H1 := H.push ({ cls := kA ck, slots := Array.replicate n.toNatClampNeg .null, vm := .none } : Cell)) (by show (H.push _)[H.size]? = some (vp_cell _ _); rw [vp_cell_q]; rw [arrV_new]; simp [va_rf]) (by simp) (fun q hq => by rw [Array.getElem?_push, if_neg (Nat.ne_of_lt hq)])
  exact kk H.size _ rfl (by simp) g2 g3 g1
end XR
