/-! numbers, branches by numbers, copies, writes that name the new world -/
theorem iLt {a b : Int32} : a < b ↔ a.toInt < b.toInt := Int32.lt_iff_toInt_lt
theorem iLe {a b : Int32} : a ≤ b ↔ a.toInt ≤ b.toInt := Int32.le_iff_toInt_le
theorem iEq {a b : Int32} : a = b ↔ a.toInt = b.toInt := Int32.toInt_inj.symm
theorem iRg (x : Int32) : -2147483648 ≤ x.toInt ∧ x.toInt ≤ 2147483647 := fullI_ok x
theorem iNlt {a b : Int32} (h : ¬ a < b) : b.toInt ≤ a.toInt := by rw [iLt] at h; omega
theorem iNle {a b : Int32} (h : ¬ a ≤ b) : b.toInt < a.toInt := by rw [iLe] at h; omega
theorem iBm {z : Int} (h1 : -2147483648 ≤ z) (h2 : z ≤ 2147483647) : z.bmod (2 ^ 32) = z := by
  unfold Int.bmod
  simp only [Nat.reducePow]
  omega
theorem iAdd {x y : Int32} (h1 : -2147483648 ≤ x.toInt + y.toInt) (h2 : x.toInt + y.toInt ≤ 2147483647) : (x + y).toInt = x.toInt + y.toInt := by rw [Int32.toInt_add, iBm h1 h2]
theorem iSub {x y : Int32} (h1 : -2147483648 ≤ x.toInt - y.toInt) (h2 : x.toInt - y.toInt ≤ 2147483647) : (x - y).toInt = x.toInt - y.toInt := by rw [Int32.toInt_sub, iBm h1 h2]
theorem iMul {x y : Int32} (h1 : -2147483648 ≤ x.toInt * y.toInt) (h2 : x.toInt * y.toInt ≤ 2147483647) : (x * y).toInt = x.toInt * y.toInt := by rw [Int32.toInt_mul, iBm h1 h2]
theorem iIn {x : Int32} {n : Nat} (h0 : 0 ≤ x.toInt) (h1 : x.toInt < n) : vp_in x n := vp_in_iff.mpr ⟨h0, h1⟩
theorem iCl {x : Int32} (h0 : 0 ≤ x.toInt) : (x.toNatClampNeg : Int) = x.toInt := by show ((x.toInt.toNat : Nat) : Int) = x.toInt; omega
theorem noT {kA : Nat → ClassId} {T : mT} {a : Nat} {e : va_E} (h : T a = none) : ∀ t, T a = some t → conf kA T t e := fun t ht => by rw [h] at ht; cases ht
/-- a field of an object looked into is written: it still meets its tag -/
theorem conf_set {kA : Nat → ClassId} {T : mT} {τ ci k : Nat} {sps : List fS} {fs : List Value} {v : Value} {q : fS} (hsp : tsp τ = .inl (ci, sps)) (h : conf kA T τ (.inr (ci, fs))) (hq : sps[k]? = some q) (hv : okV T q v) : conf kA T τ (.inr (ci, fs.set k v)) := by
  unfold conf at h ⊢
  rw [hsp] at h ⊢
  obtain ⟨fs', h1, h2, h3⟩ := h
  cases h1
  refine ⟨_, rfl, by rw [List.length_set]; exact h2, fun k' q' hk' => ?_⟩
  by_cases hkk : k' = k
  · subst hkk
    rw [hq] at hk'
    cases hk'
    exact ⟨v, by rw [List.getElem?_set_self (by rw [h2]; exact (List.getElem?_eq_some_iff.mp hq).1)], hv⟩
  · obtain ⟨v', g2, g3⟩ := h3 k' q' hk'
    exact ⟨v', by rw [List.getElem?_set_ne (Ne.symm hkk)]; exact g2, g3⟩
theorem hasT {kA : Nat → ClassId} {T : mT} {a τ : Nat} {e : va_E} (h : T a = some τ) (hc : conf kA T τ e) : ∀ t, T a = some t → conf kA T t e := fun t ht => by rw [h] at ht; cases ht; exact hc
/-- which cells' knowledge a method leaves as it is: of those without a tag, of the rows of bills; and of bills -/
def FrA (T : mT) (q : Nat) : Prop := T q = none ∨ T q = some 6
def FrK (T : mT) (q : Nat) : Prop := T q = none ∨ T q = some 6 ∨ T q = some 2
theorem FrA.k {T : mT} {q : Nat} (h : FrA T q) : FrK T q := h.elim Or.inl (fun h => Or.inr (Or.inl h))
theorem neF {T : mT} {a b τ : Nat} (hb : FrK T b) (ht : T a = some τ) (h : ¬ τ = 2 ∧ ¬ τ = 6) : b ≠ a := fun z => by
  unfold FrK at hb
  rw [z, ht] at hb
  rcases hb with hb | hb | hb
  · cases hb
  · exact h.2 (Option.some.inj hb)
  · exact h.1 (Option.some.inj hb)
theorem neA {T : mT} {a b τ : Nat} (hb : FrA T b) (ht : T a = some τ) (h : ¬ τ = 6) : b ≠ a := fun z => by
  unfold FrA at hb
  rw [z, ht] at hb
  rcases hb with hb | hb
  · cases hb
  · exact h (Option.some.inj hb)
section JR
variable {p : Program} {l : Launch} {e : Env} {R : Room} {s : State} {m : MethodId} {args : Array Value} {below : List Frame} {meth : Method} {c : Code} {H : Heap} {locs : List Loc} {cells slots : Nat} {Q : State → Prop}
variable {cc : ByteArray} {nL pc tgt : Nat} {ls : Array Slot} {rest : List Value} {D : va_G} {kA : Nat → ClassId} {M : mM} {T : mT} {A : Nat → Prop} {a : Nat} {H0 : Heap} {own : String} {idx ci k τ : Nat} {ty : FieldType} {fs : List Value} {v : Value} {off : Int} {x y : Int32}
theorem lv_cst {x v : Int32} (h : x = v) (k : W p l e R s m args below meth c H locs cells slots Q (F0 m pc ls (.int v :: rest))) : W p l e R s m args below meth c H locs cells slots Q (F0 m pc ls (.int x :: rest)) := h ▸ k
theorem jif_eq (hx : p.tables.exec = Jvm.exec) (hb : c.code = cc) (hdg : decode cc pc = .ok (.ifCond .eq off, 3)) (ht : (pc : Int) + off = (tgt : Int)) (kt : x.toInt = 0 → W p l e R s m args below meth c H locs cells slots Q (F0 m tgt ls rest)) (kf : x.toInt ≠ 0 → W p l e R s m args below meth c H locs cells slots Q (F0 m (pc + 3) ls rest)) : W p l e R s m args below meth c H locs cells slots Q (F0 m pc ls (.int x :: rest)) := lv_if_eq hx hb hdg ht (fun h => kt (iEq.mp h)) (fun h => kf (fun z => h (iEq.mpr z)))
theorem jif_ne (hx : p.tables.exec = Jvm.exec) (hb : c.code = cc) (hdg : decode cc pc = .ok (.ifCond .ne off, 3)) (ht : (pc : Int) + off = (tgt : Int)) (kt : x.toInt ≠ 0 → W p l e R s m args below meth c H locs cells slots Q (F0 m tgt ls rest)) (kf : x.toInt = 0 → W p l e R s m args below meth c H locs cells slots Q (F0 m (pc + 3) ls rest)) : W p l e R s m args below meth c H locs cells slots Q (F0 m pc ls (.int x :: rest)) := lv_if_ne hx hb hdg ht (fun h => kt (fun z => h (iEq.mpr z))) (fun h => kf (iEq.mp h))
theorem jif_lt (hx : p.tables.exec = Jvm.exec) (hb : c.code = cc) (hdg : decode cc pc = .ok (.ifCond .lt off, 3)) (ht : (pc : Int) + off = (tgt : Int)) (kt : x.toInt < 0 → W p l e R s m args below meth c H locs cells slots Q (F0 m tgt ls rest)) (kf : 0 ≤ x.toInt → W p l e R s m args below meth c H locs cells slots Q (F0 m (pc + 3) ls rest)) : W p l e R s m args below meth c H locs cells slots Q (F0 m pc ls (.int x :: rest)) := lv_if_lt hx hb hdg ht (fun h => kt (iLt.mp h)) (fun h => kf (iNlt h))
theorem jif_ge (hx : p.tables.exec = Jvm.exec) (hb : c.code = cc) (hdg : decode cc pc = .ok (.ifCond .ge off, 3)) (ht : (pc : Int) + off = (tgt : Int)) (kt : 0 ≤ x.toInt → W p l e R s m args below meth c H locs cells slots Q (F0 m tgt ls rest)) (kf : x.toInt < 0 → W p l e R s m args below meth c H locs cells slots Q (F0 m (pc + 3) ls rest)) : W p l e R s m args below meth c H locs cells slots Q (F0 m pc ls (.int x :: rest)) := lv_if_ge hx hb hdg ht (fun h => kt (iLe.mp h)) (fun h => kf (iNle h))
theorem jif_gt (hx : p.tables.exec = Jvm.exec) (hb : c.code = cc) (hdg : decode cc pc = .ok (.ifCond .gt off, 3)) (ht : (pc : Int) + off = (tgt : Int)) (kt : 0 < x.toInt → W p l e R s m args below meth c H locs cells slots Q (F0 m tgt ls rest)) (kf : x.toInt ≤ 0 → W p l e R s m args below meth c H locs cells slots Q (F0 m (pc + 3) ls rest)) : W p l e R s m args below meth c H locs cells slots Q (F0 m pc ls (.int x :: rest)) := lv_if_gt hx hb hdg ht (fun h => kt (iLt.mp h)) (fun h => kf (iNlt h))
theorem jif_le (hx : p.tables.exec = Jvm.exec) (hb : c.code = cc) (hdg : decode cc pc = .ok (.ifCond .le off, 3)) (ht : (pc : Int) + off = (tgt : Int)) (kt : x.toInt ≤ 0 → W p l e R s m args below meth c H locs cells slots Q (F0 m tgt ls rest)) (kf : 0 < x.toInt → W p l e R s m args below meth c H locs cells slots Q (F0 m (pc + 3) ls rest)) : W p l e R s m args below meth c H locs cells slots Q (F0 m pc ls (.int x :: rest)) := lv_if_le hx hb hdg ht (fun h => kt (iLe.mp h)) (fun h => kf (iNle h))
theorem jic_eq (hx : p.tables.exec = Jvm.exec) (hb : c.code = cc) (hdg : decode cc pc = .ok (.if_icmp .eq off, 3)) (ht : (pc : Int) + off = (tgt : Int)) (kt : x.toInt = y.toInt → W p l e R s m args below meth c H locs cells slots Q (F0 m tgt ls rest)) (kf : x.toInt ≠ y.toInt → W p l e R s m args below meth c H locs cells slots Q (F0 m (pc + 3) ls rest)) : W p l e R s m args below meth c H locs cells slots Q (F0 m pc ls (.int y :: .int x :: rest)) := lv_icmp_eq hx hb hdg ht (fun h => kt (iEq.mp h)) (fun h => kf (fun z => h (iEq.mpr z)))
theorem jic_ne (hx : p.tables.exec = Jvm.exec) (hb : c.code = cc) (hdg : decode cc pc = .ok (.if_icmp .ne off, 3)) (ht : (pc : Int) + off = (tgt : Int)) (kt : x.toInt ≠ y.toInt → W p l e R s m args below meth c H locs cells slots Q (F0 m tgt ls rest)) (kf : x.toInt = y.toInt → W p l e R s m args below meth c H locs cells slots Q (F0 m (pc + 3) ls rest)) : W p l e R s m args below meth c H locs cells slots Q (F0 m pc ls (.int y :: .int x :: rest)) := lv_icmp_ne hx hb hdg ht (fun h => kt (fun z => h (iEq.mpr z))) (fun h => kf (iEq.mp h))
theorem jic_lt (hx : p.tables.exec = Jvm.exec) (hb : c.code = cc) (hdg : decode cc pc = .ok (.if_icmp .lt off, 3)) (ht : (pc : Int) + off = (tgt : Int)) (kt : x.toInt < y.toInt → W p l e R s m args below meth c H locs cells slots Q (F0 m tgt ls rest)) (kf : y.toInt ≤ x.toInt → W p l e R s m args below meth c H locs cells slots Q (F0 m (pc + 3) ls rest)) : W p l e R s m args below meth c H locs cells slots Q (F0 m pc ls (.int y :: .int x :: rest)) := lv_icmp_lt hx hb hdg ht (fun h => kt (iLt.mp h)) (fun h => kf (iNlt h))
theorem jic_ge (hx : p.tables.exec = Jvm.exec) (hb : c.code = cc) (hdg : decode cc pc = .ok (.if_icmp .ge off, 3)) (ht : (pc : Int) + off = (tgt : Int)) (kt : y.toInt ≤ x.toInt → W p l e R s m args below meth c H locs cells slots Q (F0 m tgt ls rest)) (kf : x.toInt < y.toInt → W p l e R s m args below meth c H locs cells slots Q (F0 m (pc + 3) ls rest)) : W p l e R s m args below meth c H locs cells slots Q (F0 m pc ls (.int y :: .int x :: rest)) := lv_icmp_ge hx hb hdg ht (fun h => kt (iLe.mp h)) (fun h => kf (iNle h))
theorem jic_gt (hx : p.tables.exec = Jvm.exec) (hb : c.code = cc) (hdg : decode cc pc = .ok (.if_icmp .gt off, 3)) (ht : (pc : Int) + off = (tgt : Int)) (kt : y.toInt < x.toInt → W p l e R s m args below meth c H locs cells slots Q (F0 m tgt ls rest)) (kf : x.toInt ≤ y.toInt → W p l e R s m args below meth c H locs cells slots Q (F0 m (pc + 3) ls rest)) : W p l e R s m args below meth c H locs cells slots Q (F0 m pc ls (.int y :: .int x :: rest)) := lv_icmp_gt hx hb hdg ht (fun h => kt (iLt.mp h)) (fun h => kf (iNlt h))
theorem jic_le (hx : p.tables.exec = Jvm.exec) (hb : c.code = cc) (hdg : decode cc pc = .ok (.if_icmp .le off, 3)) (ht : (pc : Int) + off = (tgt : Int)) (kt : x.toInt ≤ y.toInt → W p l e R s m args below meth c H locs cells slots Q (F0 m tgt ls rest)) (kf : y.toInt < x.toInt → W p l e R s m args below meth c H locs cells slots Q (F0 m (pc + 3) ls rest)) : W p l e R s m args below meth c H locs cells slots Q (F0 m pc ls (.int y :: .int x :: rest)) := lv_icmp_le hx hb hdg ht (fun h => kt (iLe.mp h)) (fun h => kf (iNle h))
/-- the writes, naming the new world -/
theorem yp (hC : CallFix p m c cc nL s args TB own) (hK : mK D kA s) (hH : mS D kA M T A H0 H locs) (hf : FL own idx ci k ty false) (he : M a = some (.inr (ci, fs))) (hcf : ∀ t, T a = some t → conf kA T t (.inr (ci, fs.set k v))) (hn : narrow ty v = v) (hfit : fits ty v = true) (hl : k < fs.length) (hdg : decode cc pc = .ok (.putfield idx, 3))
    (kk : ∀ (H1 : Heap) (locs1 : List Loc) (M1 : mM), M1 a = some (.inr (ci, fs.set k v)) → (∀ q, q ≠ a → M1 q = M q) → mS D kA M1 T A H0 H1 locs1 → W p l e R s m args below meth c H1 locs1 cells slots Q (F0 m (pc + 3) ls rest)) : W p l e R s m args below meth c H locs cells slots Q (F0 m pc ls (v :: .ref a :: rest)) :=
  xp hC hK hH hf he hcf hn hfit hl hdg (fun H1 locs1 h => kk H1 locs1 _ (upS _ _ _) (fun _ hq => upN _ _ hq) h)
theorem ypF (hC : CallFix p m c cc nL s args TB own) (hK : mK D kA s) (hH : mS D kA M T A H0 H locs) (hini : meth.name = "<init>") (hfd : FLd own ci k) (hf : FL own idx ci k ty true) (he : M a = some (.inr (ci, fs))) (hcf : ∀ t, T a = some t → conf kA T t (.inr (ci, fs.set k v))) (hn : narrow ty v = v) (hfit : fits ty v = true) (hl : k < fs.length) (hdg : decode cc pc = .ok (.putfield idx, 3))
    (kk : ∀ (H1 : Heap) (locs1 : List Loc) (M1 : mM), M1 a = some (.inr (ci, fs.set k v)) → (∀ q, q ≠ a → M1 q = M q) → mS D kA M1 T A H0 H1 locs1 → W p l e R s m args below meth c H1 locs1 cells slots Q (F0 m (pc + 3) ls rest)) : W p l e R s m args below meth c H locs cells slots Q (F0 m pc ls (v :: .ref a :: rest)) :=
  xpF hC hK hH hini hfd hf he hcf hn hfit hl hdg (fun H1 locs1 h => kk H1 locs1 _ (upS _ _ _) (fun _ hq => upN _ _ hq) h)
theorem yist (hC : CallFix p m c cc nL s args TB own) (hK : mK D kA s) (hH : mS D kA M T A H0 H locs) {n : Nat} {f : Nat → Int32} (he : M a = some (.inl (kA 0, n, .inl f))) {i x : Int32} (hcf : ∀ t, T a = some t → conf kA T t (.inl (kA 0, n, .inl (upd f i.toNatClampNeg x)))) (hin : vp_in i n) (hdg : decode cc pc = .ok (.iastore, 1))
    (kk : ∀ (H1 : Heap) (locs1 : List Loc) (M1 : mM), M1 a = some (.inl (kA 0, n, .inl (upd f i.toNatClampNeg x))) → (∀ q, q ≠ a → M1 q = M q) → mS D kA M1 T A H0 H1 locs1 → W p l e R s m args below meth c H1 locs1 cells slots Q (F0 m (pc + 1) ls rest)) : W p l e R s m args below meth c H locs cells slots Q (F0 m pc ls (.int x :: .int i :: .ref a :: rest)) :=
  xist hC hK hH he hcf hin hdg (fun H1 locs1 h => kk H1 locs1 _ (upS _ _ _) (fun _ hq => upN _ _ hq) h)
theorem yzst (hC : CallFix p m c cc nL s args TB own) (hK : mK D kA s) (hH : mS D kA M T A H0 H locs) {n : Nat} {f : Nat → Int32} (he : M a = some (.inl (kA 2, n, .inl f))) {i x : Int32} (hcf : ∀ t, T a = some t → conf kA T t (.inl (kA 2, n, .inl (upd f i.toNatClampNeg (vp_nar .boolean x))))) (hin : vp_in i n) (hdg : decode cc pc = .ok (.bastore, 1))
    (kk : ∀ (H1 : Heap) (locs1 : List Loc) (M1 : mM), M1 a = some (.inl (kA 2, n, .inl (upd f i.toNatClampNeg (vp_nar .boolean x)))) → (∀ q, q ≠ a → M1 q = M q) → mS D kA M1 T A H0 H1 locs1 → W p l e R s m args below meth c H1 locs1 cells slots Q (F0 m (pc + 1) ls rest)) : W p l e R s m args below meth c H locs cells slots Q (F0 m pc ls (.int x :: .int i :: .ref a :: rest)) :=
  xzst hC hK hH he hcf hin hdg (fun H1 locs1 h => kk H1 locs1 _ (upS _ _ _) (fun _ hq => upN _ _ hq) h)
theorem yqst (hC : CallFix p m c cc nL s args TB own) (hK : mK D kA s) (hH : mS D kA M T A H0 H locs) {n ck cv v : Nat} {f : Nat → Option Nat} {r : vw_C} (hk : (tyL kA)[ck]? = some (kA ck, .object r.1)) (hc : vwCl[cv]? = some r) (he : M a = some (.inl (kA ck, n, .inr (.inr (.inr (.inr f)))))) (hv : ∃ vs, va_at D vwCl (v, .inr (cv, vs)) H) {i : Int32} (hcf : ∀ t, T a = some t → conf kA T t (.inl (kA ck, n, .inr (.inr (.inr (.inr (va_up f i.toNatClampNeg (some v)))))))) (hin : vp_in i n) (hdg : decode cc pc = .ok (.aastore, 1))
    (kk : ∀ (H1 : Heap) (locs1 : List Loc) (M1 : mM), M1 a = some (.inl (kA ck, n, .inr (.inr (.inr (.inr (va_up f i.toNatClampNeg (some v))))))) → (∀ q, q ≠ a → M1 q = M q) → mS D kA M1 T A H0 H1 locs1 → W p l e R s m args below meth c H1 locs1 cells slots Q (F0 m (pc + 1) ls rest)) : W p l e R s m args below meth c H locs cells slots Q (F0 m pc ls (.ref v :: .int i :: .ref a :: rest)) :=
  xqst hC hK hH hk hc he hv hcf hin hdg (fun H1 locs1 h => kk H1 locs1 _ (upS _ _ _) (fun _ hq => upN _ _ hq) h)
theorem ynew (hC : CallFix p m c cc nL s args TB own) (hK : mK D kA s) (hH : mS D kA M T A H0 H locs) {N : Nat} (hf : NL own idx ci N fs) (hcells : cells + 1 ≤ R.cells) (hslots : slots + N ≤ R.slots) (hdg : decode cc pc = .ok (.new idx, 3))
    (kk : ∀ (q : Nat) (H1 : Heap) (M1 : mM), q = H.size → H1.size = q + 1 → M q = none → T q = none → M1 q = some (.inr (ci, fs)) → (∀ a, a ≠ q → M1 a = M a) → mS D kA M1 T A H0 H1 locs → W p l e R s m args below meth c H1 locs (cells + 1) (slots + N) Q (F0 m (pc + 3) ls (.ref q :: rest))) : W p l e R s m args below meth c H locs cells slots Q (F0 m pc ls rest) :=
  xnew hC hK hH hf hcells hslots hdg (fun q H1 h1 h2 h3 h4 h => kk q H1 _ h1 h2 h3 h4 (upS _ _ _) (fun _ hq => upN _ _ hq) h)
theorem ynewa (hC : CallFix p m c cc nL s args TB own) (hK : mK D kA s) (hH : mS D kA M T A H0 H locs) {atype : ArrayType} {ck : Nat} {ty : FieldType} (hty : newarray.typeOf atype = ty) (hw : Cond.arrayClass ty ∈ TB) (hck : (tyL kA)[ck]? = some (kA ck, ty)) (hpr : ∀ C, ty ≠ .object C) {n : Int32} {N : Nat} {a0 : vp_A} (ha : ∀ cA : ClassId, vp_cell cA a0 = arrV cA N (fun _ => defaultValue ty)) (hn : ¬ n < 0) (hN : n.toNatClampNeg = N) (hbytes : N * componentBytes ty ≤ 536870912) (hcells : cells + 1 ≤ R.cells) (hslots : slots + N ≤ R.slots) (hdg : decode cc pc = .ok (.newarray atype, 2))
    (kk : ∀ (q : Nat) (H1 : Heap) (M1 : mM), q = H.size → H1.size = q + 1 → M q = none → T q = none → M1 q = some (.inl (kA ck, a0)) → (∀ a, a ≠ q → M1 a = M a) → mS D kA M1 T A H0 H1 locs → W p l e R s m args below meth c H1 locs (cells + 1) (slots + N) Q (F0 m (pc + 2) ls (.ref q :: rest))) : W p l e R s m args below meth c H locs cells slots Q (F0 m pc ls (.int n :: rest)) :=
  xnewa hC hK hH hty hw hck hpr ha hn hN hbytes hcells hslots hdg (fun q H1 h1 h2 h3 h4 h => kk q H1 _ h1 h2 h3 h4 (upS _ _ _) (fun _ hq => upN _ _ hq) h)
theorem ynewq (hC : CallFix p m c cc nL s args TB own) (hK : mK D kA s) (hH : mS D kA M T A H0 H locs) {ck : Nat} {C : String} (hw : Cond.classLink own idx C ∈ TB) (hao : C ∈ aoQ) (hck : (tyL kA)[ck]? = some (kA ck, .object C)) {n : Int32} {N : Nat} (hn : ¬ n < 0) (hN : n.toNatClampNeg = N) (hbytes : N * 4 ≤ 536870912) (hcells : cells + 1 ≤ R.cells) (hslots : slots + N ≤ R.slots) (hdg : decode cc pc = .ok (.anewarray idx, 3))
    (kk : ∀ (q : Nat) (H1 : Heap) (M1 : mM), q = H.size → H1.size = q + 1 → M q = none → T q = none → M1 q = some (.inl (kA ck, N, .inr (.inr (.inr (.inr (fun _ => none)))))) → (∀ a, a ≠ q → M1 a = M a) → mS D kA M1 T A H0 H1 locs → W p l e R s m args below meth c H1 locs (cells + 1) (slots + N) Q (F0 m (pc + 3) ls (.ref q :: rest))) : W p l e R s m args below meth c H locs cells slots Q (F0 m pc ls (.int n :: rest)) :=
  xnewq hC hK hH hw hao hck hn hN hbytes hcells hslots hdg (fun q H1 h1 h2 h3 h4 h => kk q H1 _ h1 h2 h3 h4 (upS _ _ _) (fun _ hq => upN _ _ hq) h)
theorem mS.re2 (h : mS D kA M T A H0 H locs) {e0 : va_E} (he : M a = some e0) (n2 : T a = none) (hc : conf kA (va_up T a (some τ)) τ e0) : ∃ (M1 : mM) (T1 : mT), M1 a = none ∧ (∀ q, q ≠ a → M1 q = M q) ∧ T1 a = some τ ∧ (∀ q, q ≠ a → T1 q = T q) ∧ (∀ q t, T q = some t → T1 q = some t) ∧ mS D kA M1 T1 A H0 H locs :=
  ⟨_, _, upS _ _ _, fun _ hq => upN _ _ hq, upS _ _ _, fun _ hq => upN _ _ hq, fun q t hq => by
    have hab : q ≠ a := fun z => by rw [z, n2] at hq; cases hq
    rw [upN _ _ hab]; exact hq, h.re he n2 hc⟩
theorem mS.reloc {locs' : List Loc} (h : mS D kA M T A H0 H locs) (hl : ∀ q ∈ locs', A q.base) : mS D kA M T A H0 H locs' := ⟨h.1, ⟨h.2.1.1, h.2.1.2.1, hl⟩, h.2.2⟩
/-- System.arraycopy of numbers -/
def CPL (own : String) (idx : Nat) : Prop := Cond.methodLink own idx arraycopyName ∈ TB ∧ Cond.native arraycopyName ∈ TB ∧ Cond.static arraycopyName ∈ TB ∧ Cond.initialized "java/lang/System" ∈ TB
theorem cpy_at (hC : CallFix p m c cc nL s args TB own) (hK : mK D kA s) (hsz : ls.size = nL) (hl : CPL own idx) {ck n0 n1 a0 : Nat} {f g : Nat → Int32} {ty : FieldType} (hk : (tyL kA)[ck]? = some (kA ck, ty)) (hprim : refKind ty = false) (h0 : va_at D vwCl (a0, .inl (kA ck, n0, .inl f)) H) (h9 : va_at D vwCl (a, .inl (kA ck, n1, .inl g)) H)
    {sp dp n : Int32} (h1 : ¬ sp < 0) (h2 : ¬ dp < 0) (h3 : ¬ n < 0) (h4 : sp.toNatClampNeg + n.toNatClampNeg ≤ n0) (h5 : dp.toNatClampNeg + n.toNatClampNeg ≤ n1) (hfit : ∀ i, i < n.toNatClampNeg → fits ty (.int (f (sp.toNatClampNeg + i))) = true)
    (hframes : 1 ≤ R.frames) (hlocals : (rest.map fun v => v.category).sum + (nativeFrameWords "java/lang/System" "arraycopy" 5 + 11) ≤ R.locals) (hdg : decode cc pc = .ok (.invokestatic idx, 3))
    (kk : ∀ (H1 : Heap) (L : List Loc), (∀ q ∈ L, q.base = a) → va_at D vwCl (a, .inl (kA ck, n1, .inl (va_cpy f g sp.toNatClampNeg dp.toNatClampNeg n.toNatClampNeg))) H1 → H1.size = H.size → (∀ q : Nat, q ≠ a → H1[q]? = H[q]?) → W p l e R s m args below meth c H1 (locs ++ L) cells slots Q (F0 m (pc + 3) ls rest)) : W p l e R s m args below meth c H locs cells slots Q (F0 m pc ls (.int n :: .int dp :: .ref a :: .int sp :: .ref a0 :: rest)) := by
  obtain ⟨hexec, hb, hml, hown, htt⟩ := hC
  obtain ⟨l1, l2, l3, l4⟩ := hl
  have nn : ∀ z : Int32, ¬ z < 0 → z.toInt = (z.toNatClampNeg : Int) := by
    intro z hz
    have hz0 : (0 : Int) ≤ z.toInt := by
      have := Int32.not_lt.mp hz
      simpa using Int32.le_iff_toInt_le.mp this
    show z.toInt = ((z.toInt.toNat : Nat) : Int)
    omega
  intro T hT X
  have hc0 : H[a0]? = some (vp_cell (kA ck) (n0, .inl f)) := h0
  have hc1 : H[a]? = some (vp_cell (kA ck) (n1, .inl g)) := h9
  obtain ⟨-, k0, hk0, cm0, hkk0⟩ := (hK.1.2 ck _ hk).1 n0 (fun j => .int (f j))
  obtain ⟨vm', X', step⟩ := X.arraycopy hexec hown (htt _ l1) (htt _ l2) (htt _ l3) (htt _ l4) (src := a0) (dst := a) (cs := vp_cell (kA ck) (n0, .inl f)) (cd := vp_cell (kA ck) (n1, .inl g)) (srcPos := sp) (destPos := dp) (n := n) (by rw [hT]; exact hc0) (by rw [hT]; exact hc1)
    (fun _ h => by cases h) (fun _ h => by cases h) (fun h => by cases h) (fun h => by cases h) hk0 hk0 hkk0 hkk0 (by simp [hprim]) h1 h2 h3
    (by rw [nn sp h1, nn n h3]; show ¬ _ > ((arrV (kA ck) n0 (fun j => .int (f j))).slots.size : Int); rw [arrV_size]; omega)
    (by rw [nn dp h2, nn n h3]; show ¬ _ > ((arrV (kA ck) n1 (fun j => .int (g j))).slots.size : Int); rw [arrV_size]; omega)
    (fun vm₁ _ i hi => by
      have e : (vp_cell (kA ck) (n0, .inl f)).slots.getD (sp.toNatClampNeg + i) .null = .int (f (sp.toNatClampNeg + i)) := by
        show (arrV (kA ck) n0 (fun j => .int (f j))).slots.getD _ _ = _
        rw [Array.getD_eq_getD_getElem?, arrV_read _ _ (by omega)]
        rfl
      refine ⟨?_, ?_⟩
      · rw [e]
        exact hfit i hi
      · rw [e]
        exact trivial)
    (g := F0 m pc ls (.int n :: .int dp :: .ref a :: .int sp :: .ref a0 :: rest)) rfl (by rw [hml]; exact hsz) (rest := rest) rfl (by rw [hb]; exact hdg) hframes (by show 2 * 0 + _ + _ ≤ _; omega)
  have e1 : copied (vp_cell (kA ck) (n0, .inl f)) (vp_cell (kA ck) (n1, .inl g)) sp dp n = vp_cell (kA ck) (n1, .inl (va_cpy f g sp.toNatClampNeg dp.toNatClampNeg n.toNatClampNeg)) := va_copied (fun z => .int z) (kA ck) (kA ck) f g h4
  rw [e1] at X' step
  have hl : a < H.size := (Array.getElem?_eq_some_iff.mp hc1).1
  have hheap : ((T.setVm vm').setCell a (vp_cell (kA ck) (n1, .inl (va_cpy f g sp.toNatClampNeg dp.toNatClampNeg n.toNatClampNeg)))).heap = H.setIfInBounds a (vp_cell (kA ck) (n1, .inl (va_cpy f g sp.toNatClampNeg dp.toNatClampNeg n.toNatClampNeg))) := by rw [← hT]; rfl
  have oq : ∀ q : Nat, q ≠ a → (H.setIfInBounds a (vp_cell (kA ck) (n1, .inl (va_cpy f g sp.toNatClampNeg dp.toNatClampNeg n.toNatClampNeg))))[q]? = H[q]? := fun q hq => by simp [Array.getElem?_setIfInBounds, Ne.symm hq]
  obtain ⟨t, a1, b1⟩ := kk _ _ (fun q hq => by
      obtain ⟨z, -, hz⟩ := List.mem_map.mp hq
      rw [← hz]) (show (H.setIfInBounds a _)[a]? = some _ by simp [Array.getElem?_setIfInBounds, hl]) (by simp) oq _ hheap X'
  exact ⟨t, step t a1, b1⟩
end JR
