theorem neM {M : mM} {a b : Nat} {ea eb : va_E} (ha : M a = some ea) (hb : M b = some eb) (h : ¬ ea = eb) : a ≠ b := fun z => h (by rw [z, hb] at ha; exact (Option.some.inj ha).symm)
theorem nz {x : Int32} (h : x = 0 ∨ x = 1) : narrow .boolean (.int x) = .int x := by rcases h with rfl | rfl <;> rfl
theorem fz {x : Int32} (h : x = 0 ∨ x = 1) : fits .boolean (.int x) = true := by rcases h with rfl | rfl <;> rfl
theorem z01 {x : Int32} (h1 : (0 : Int) ≤ x.toInt) (h2 : x.toInt ≤ 1) : x = 0 ∨ x = 1 := by
  rcases (show x.toInt = 0 ∨ x.toInt = 1 by omega) with h | h
  · exact Or.inl (iEq.mpr h)
  · exact Or.inr (iEq.mpr h)
theorem zl {x : Int32} (h : x = 0 ∨ x = 1) : (0 : Int) ≤ x.toInt := by rcases h with rfl | rfl <;> decide
theorem zh {x : Int32} (h : x = 0 ∨ x = 1) : x.toInt ≤ (1 : Int) := by rcases h with rfl | rfl <;> decide
theorem nbl (x : Int32) : (-128 : Int) ≤ (vp_nar .byte x).toInt := by
  rw [vp_nar_byte, Int8.toInt_toInt32]
  have := Int8.minValue_le_toInt x.toInt8
  have e : Int8.minValue.toInt = -128 := by decide
  omega
theorem nbh (x : Int32) : (vp_nar .byte x).toInt ≤ (127 : Int) := by
  rw [vp_nar_byte, Int8.toInt_toInt32]
  have := Int8.toInt_le x.toInt8
  have e : Int8.maxValue.toInt = 127 := by decide
  omega
def c100 (f : Nat → Int32) : Nat → Int32 := upd (upd (upd (upd (upd (upd (upd (upd f 0 100) 1 100) 2 100) 3 100) 4 100) 5 100) 6 100) 7 100
theorem c100_at (f : Nat → Int32) {j : Nat} (h : j < 8) : c100 f j = 100 := by
  rcases (show j = 0 ∨ j = 1 ∨ j = 2 ∨ j = 3 ∨ j = 4 ∨ j = 5 ∨ j = 6 ∨ j = 7 by omega) with rfl | rfl | rfl | rfl | rfl | rfl | rfl | rfl <;> rfl
def mIni : Nat → Int32 := fun k => if k = 2 then 2 else if 6 ≤ k ∧ k < 14 then 100 else 0
theorem mIni_cash {k : Nat} (h : 6 ≤ k) (h2 : k < 14) : mIni k = 100 := by
  unfold mIni
  rw [if_neg (by omega), if_pos ⟨h, h2⟩]
def mBeg (f : Nat → Int32) : Nat → Int32 := fun k => if k < 1140 then mIni k else f k
theorem mBeg_at (f : Nat → Int32) {k : Nat} (h : k < 1140) : mBeg f k = mIni k := if_pos h
theorem mBeg_cash (f : Nat → Int32) {k : Nat} (h : 6 ≤ k) (h2 : k < 14) : mBeg f k = 100 := by
  rw [mBeg_at f (by omega)]
  unfold mIni
  rw [if_neg (by omega), if_pos ⟨h, h2⟩]
theorem iSubW {x y : Int32} (h : -4294967296 ≤ x.toInt - y.toInt ∧ x.toInt - y.toInt < -2147483648) : (x - y).toInt = x.toInt - y.toInt + 4294967296 := by
  rw [Int32.toInt_sub]
  unfold Int.bmod
  simp only [Nat.reducePow]
  omega
theorem iAddW {x y : Int32} (h : 2147483647 < x.toInt + y.toInt ∧ x.toInt + y.toInt < 4294967296) : (x + y).toInt = x.toInt + y.toInt - 4294967296 := by
  rw [Int32.toInt_add]
  unfold Int.bmod
  simp only [Nat.reducePow]
  omega
section QR
variable {p : Program} {l : Launch} {e : Env} {R : Room} {s : State} {m : MethodId} {args : Array Value} {below : List Frame} {meth : Method} {c : Code} {H : Heap} {locs : List Loc} {cells slots : Nat} {Q : State → Prop}
variable {cc : ByteArray} {nL pc : Nat} {ls : Array Slot} {rest : List Value} {D : va_G} {kA : Nat → ClassId} {M : mM} {T : mT} {A : Nat → Prop} {a : Nat} {H0 : Heap} {own : String} {idx ci k τ : Nat} {ty : FieldType}
theorem lv_qr {r : Option Nat} {q : Nat} (h : r = some q) (k : W p l e R s m args below meth c H locs cells slots Q (F0 m pc ls (.ref q :: rest))) : W p l e R s m args below meth c H locs cells slots Q (F0 m pc ls (va_rf r :: rest)) := by subst h; exact k
theorem lv_qn {r : Option Nat} (h : r = none) (k : W p l e R s m args below meth c H locs cells slots Q (F0 m pc ls (.null :: rest))) : W p l e R s m args below meth c H locs cells slots Q (F0 m pc ls (va_rf r :: rest)) := by subst h; exact k
/-- copies from a row of a tag to a row of that tag; between rows known exactly -/
theorem fit8 {x : Int32} (h1 : (-128 : Int) ≤ x.toInt) (h2 : x.toInt ≤ 127) : fits .byte (.int x) = true := by
  have e : x = x.toInt8.toInt32 := by
    apply Int32.toInt_inj.mp
    rw [Int8.toInt_toInt32, Int32.toInt_toInt8]
    unfold Int.bmod
    simp only [Nat.reducePow]
    omega
  rw [e]
  exact pk_fb x
theorem tcpy (hC : CallFix p m c cc nL s args TB own) (hK : mK D kA s) (hH : mS D kA M T A H0 H locs) (hsz : ls.size = nL) (hl : CPL own idx) {a0 ck n0 : Nat} {r : Int × Int} (ht0 : T a0 = some τ) (ht1 : T a = some τ) (hsp : tsp τ = .inr (ck, n0, .inl r)) (hk : (tyL kA)[ck]? = some (kA ck, ty)) (hprim : refKind ty = false) (hfr : ∀ x : Int32, r.1 ≤ x.toInt → x.toInt ≤ r.2 → fits ty (.int x) = true)
    {sp dp n : Int32} (h1 : ¬ sp < 0) (h2 : ¬ dp < 0) (h3 : ¬ n < 0) (h4 : sp.toNatClampNeg + n.toNatClampNeg ≤ n0) (h5 : dp.toNatClampNeg + n.toNatClampNeg ≤ n0)
    (hframes : 1 ≤ R.frames) (hlocals : (rest.map fun v => v.category).sum + (nativeFrameWords "java/lang/System" "arraycopy" 5 + 11) ≤ R.locals) (hdg : decode cc pc = .ok (.invokestatic idx, 3))
    (kk : ∀ (H1 : Heap) (locs1 : List Loc) (M1 : mM), M1 a = none → (∀ q, q ≠ a → M1 q = M q) → mS D kA M1 T A H0 H1 locs1 → W p l e R s m args below meth c H1 locs1 cells slots Q (F0 m (pc + 3) ls rest)) : W p l e R s m args below meth c H locs cells slots Q (F0 m pc ls (.int n :: .int dp :: .ref a :: .int sp :: .ref a0 :: rest)) := by
  obtain ⟨f, g1, g2⟩ := tcellI hH ht0 hsp
  obtain ⟨g, g3, g4⟩ := tcellI hH ht1 hsp
  refine cpy_at hC hK hsz hl hk hprim g1 g3 h1 h2 h3 h4 h5 (fun i hi => hfr _ (g2 _ (by omega)).1 (g2 _ (by omega)).2) hframes hlocals hdg (fun H1 L hL h z oq => kk H1 _ _ (upS _ _ _) (fun _ hq => upN _ _ hq) ?_)
  have hS1 := hH.putT (k := 0) ht1 h (by
    unfold conf
    rw [hsp]
    refine ⟨_, rfl, fun j hj => ?_⟩
    unfold va_cpy
    split
    · exact g2 _ (by omega)
    · exact g4 j hj) z oq
  exact hS1.reloc (fun q hq => by
    rcases List.mem_append.mp hq with h | h
    · exact hH.2.1.2.2 q h
    · rw [hL q h]; exact hH.2.2.1 a (Or.inr (by rw [ht1]; simp)))
theorem ycpy (hC : CallFix p m c cc nL s args TB own) (hK : mK D kA s) (hH : mS D kA M T A H0 H locs) (hsz : ls.size = nL) (hl : CPL own idx) {a0 n0 n1 : Nat} {f g : Nat → Int32} (he0 : M a0 = some (.inl (kA 0, n0, .inl f))) (he1 : M a = some (.inl (kA 0, n1, .inl g))) (hn1 : T a = none)
    {sp dp n : Int32} (h1 : ¬ sp < 0) (h2 : ¬ dp < 0) (h3 : ¬ n < 0) (h4 : sp.toNatClampNeg + n.toNatClampNeg ≤ n0) (h5 : dp.toNatClampNeg + n.toNatClampNeg ≤ n1)
    (hframes : 1 ≤ R.frames) (hlocals : (rest.map fun v => v.category).sum + (nativeFrameWords "java/lang/System" "arraycopy" 5 + 11) ≤ R.locals) (hdg : decode cc pc = .ok (.invokestatic idx, 3))
    (kk : ∀ (H1 : Heap) (locs1 : List Loc) (M1 : mM), M1 a = some (.inl (kA 0, n1, .inl (va_cpy f g sp.toNatClampNeg dp.toNatClampNeg n.toNatClampNeg))) → (∀ q, q ≠ a → M1 q = M q) → mS D kA M1 T A H0 H1 locs1 → W p l e R s m args below meth c H1 locs1 cells slots Q (F0 m (pc + 3) ls rest)) : W p l e R s m args below meth c H locs cells slots Q (F0 m pc ls (.int n :: .int dp :: .ref a :: .int sp :: .ref a0 :: rest)) := by
  refine cpy_at (ck := 0) (ty := .int) hC hK hsz hl rfl rfl (hH.1.1 _ _ he0) (hH.1.1 _ _ he1) h1 h2 h3 h4 h5 (fun i hi => rfl) hframes hlocals hdg (fun H1 L hL h z oq => ?_)
  have hS1 := hH.putM (k := 0) he1 (noT hn1) h z oq
  exact kk H1 _ _ (upS _ _ _) (fun _ hq => upN _ _ hq) (hS1.reloc (fun q hq => by
    rcases List.mem_append.mp hq with h | h
    · exact hH.2.1.2.2 q h
    · rw [hL q h]; exact hH.2.2.1 a (Or.inl (by rw [he1]; simp))))
/-- Math.min -/
def MML (own : String) (idx : Nat) : Prop := Cond.methodLink own idx Lib.Math.min.name ∈ TB ∧ Cond.static Lib.Math.min.name ∈ TB ∧ Cond.initialized "java/lang/Math" ∈ TB ∧ Cond.code Lib.Math.min.name Lib.Math.min.code 2 (some .int) ∈ TB
theorem xmin (hC : CallFix p m c cc nL s args TB own) (hsz : ls.size = nL) (hl : MML own idx) (hframes : 1 ≤ R.frames) (hlocals : (rest.map fun v => v.category).sum + 13 ≤ R.locals) (hc : cells ≤ R.cells) (hs : slots ≤ R.slots) {x y : Int32} (hdg : decode cc pc = .ok (.invokestatic idx, 3))
    (kk : W p l e R s m args below meth c H locs cells slots Q (F0 m (pc + 3) ls (.int (if y < x then y else x) :: rest))) : W p l e R s m args below meth c H locs cells slots Q (F0 m pc ls (.int y :: .int x :: rest)) :=
  va_mmin hC.1 hC.2.1 (hC.2.2.1.trans hsz.symm) hC.2.2.2.1 (hC.2.2.2.2 _ hl.1) (hC.2.2.2.2 _ hl.2.1) (hC.2.2.2.2 _ hl.2.2.1) (hC.2.2.2.2 _ hl.2.2.2) hframes hlocals hc hs hdg kk
def MXL (own : String) (idx : Nat) : Prop := Cond.methodLink own idx Lib.Math.max.name ∈ TB ∧ Cond.static Lib.Math.max.name ∈ TB ∧ Cond.initialized "java/lang/Math" ∈ TB ∧ Cond.code Lib.Math.max.name Lib.Math.max.code 2 (some .int) ∈ TB
theorem xmax (hC : CallFix p m c cc nL s args TB own) (hsz : ls.size = nL) (hl : MXL own idx) (hframes : 1 ≤ R.frames) (hlocals : (rest.map fun v => v.category).sum + 13 ≤ R.locals) (hc : cells ≤ R.cells) (hs : slots ≤ R.slots) {x y : Int32} (hdg : decode cc pc = .ok (.invokestatic idx, 3))
    (kk : W p l e R s m args below meth c H locs cells slots Q (F0 m (pc + 3) ls (.int (if x < y then y else x) :: rest))) : W p l e R s m args below meth c H locs cells slots Q (F0 m pc ls (.int y :: .int x :: rest)) :=
  va_mmax hC.1 hC.2.1 (hC.2.2.1.trans hsz.symm) hC.2.2.2.1 (hC.2.2.2.2 _ hl.1) (hC.2.2.2.2 _ hl.2.1) (hC.2.2.2.2 _ hl.2.2.1) (hC.2.2.2.2 _ hl.2.2.2) hframes hlocals hc hs hdg kk
end QR
/-! cells become tagged -/
theorem neN {M : mM} {a q : Nat} {ea : va_E} (ha : M a = some ea) (hn : M q = none) : a ≠ q := fun z => by rw [z, hn] at ha; cases ha
def okL (T : mT) : List fS → List Value → Prop
  | [], [] => True
  | q :: qs, v :: vs => okV T q v ∧ okL T qs vs
  | _, _ => False
theorem okL_len {T : mT} : ∀ {qs : List fS} {vs : List Value}, okL T qs vs → vs.length = qs.length
  | [], [], _ => rfl
  | _ :: _, _ :: _, h => by rw [List.length_cons, List.length_cons, okL_len h.2]
theorem okL_at {T : mT} : ∀ {qs : List fS} {vs : List Value}, okL T qs vs → ∀ (k : Nat) (q : fS), qs[k]? = some q → ∃ v, vs[k]? = some v ∧ okV T q v
  | [], [], _, k, q, h => by simp at h
  | q0 :: qs, v0 :: vs, h, 0, q, hq => by
    rw [List.getElem?_cons_zero] at hq
    cases hq
    exact ⟨v0, rfl, h.1⟩
  | q0 :: qs, v0 :: vs, h, k + 1, q, hq => by
    rw [List.getElem?_cons_succ] at hq
    obtain ⟨v, h1, h2⟩ := okL_at h.2 k q hq
    exact ⟨v, by rw [List.getElem?_cons_succ]; exact h1, h2⟩
theorem conf_o {kA : Nat → ClassId} {T : mT} {τ ci : Nat} {sps : List fS} {fs : List Value} (h : tsp τ = .inl (ci, sps)) (ho : okL T sps fs) : conf kA T τ (.inr (ci, fs)) := by
  unfold conf
  rw [h]
  exact ⟨fs, rfl, okL_len ho, okL_at ho⟩
theorem conf_i {kA : Nat → ClassId} {T : mT} {τ ck n : Nat} {r : Int × Int} {f : Nat → Int32} (h : tsp τ = .inr (ck, n, .inl r)) (ho : ∀ j, j < n → r.1 ≤ (f j).toInt ∧ (f j).toInt ≤ r.2) : conf kA T τ (.inl (kA ck, n, .inl f)) := by
  unfold conf
  rw [h]
  exact ⟨f, rfl, ho⟩
theorem conf_q {kA : Nat → ClassId} {T : mT} {τ ck n t : Nat} {g : Nat → Option Nat} (h : tsp τ = .inr (ck, n, .inr t)) (ho : ∀ j, j < n → ∃ q, g j = some q ∧ T q = some t) : conf kA T τ (.inl (kA ck, n, .inr (.inr (.inr (.inr g))))) := by
  unfold conf
  rw [h]
  exact ⟨g, rfl, ho⟩
theorem okI {T : mT} {r : Int × Int} {x : Int32} (h1 : r.1 ≤ x.toInt) (h2 : x.toInt ≤ r.2) : okV T (.inl r) (.int x) := ⟨x, rfl, h1, h2⟩
theorem okR {T : mT} {t q : Nat} (h : T q = some t) : okV T (.inr t) (.ref q) := ⟨q, rfl, h⟩
