/-! a text, byte by byte: what a byte is for a reader; rows of bytes known exactly -/
def nr (x : Int) : Int := if 0 ≤ x ∧ x ≤ 127 then x else 200
def nC (f : Nat → Int32) (j : Nat) : Int := if j < 600 then nr (f j).toInt else 200
def Byt (f : Nat → Int32) : Prop := ∀ j, (-128 : Int) ≤ (f j).toInt ∧ (f j).toInt ≤ 127
def sh8 (k : Nat) : Int32 := if k = 0 then 24 else if k = 1 then 16 else if k = 2 then 8 else 0
def by8 (n : Int32) (k : Nat) : Int := nr ((n >>> (sh8 k &&& 31)) &&& 255).toInt
def ad4 (c : Nat → Int) (t : Nat) (n : Int32) (j : Nat) : Int := if t ≤ j ∧ j < t + 4 then by8 n (j - t) else c j
def fdv (a b c d e : Int32) (q : Nat) : Int32 := if q = 0 then a else if q = 1 then b else if q = 2 then c else if q = 3 then d else e
def fdK (C : Nat → Int) (t : Nat) (a b c d e : Int32) (k j : Nat) : Int := if t ≤ j ∧ j < t + k then by8 (fdv a b c d e ((j - t) / 4)) ((j - t) % 4) else C j
theorem nC_at {f : Nat → Int32} {k : Nat} (h : k < 600) : nC f k = nr (f k).toInt := if_pos h
theorem and255 (x : Int32) : (x &&& 255).toInt = x.toInt % 256 := by
  have hm := Nat.mod_lt x.toBitVec.toNat (show 0 < 2 ^ 8 by decide)
  rw [pk_and x (m := 255) 8 (by decide), nI_toInt (by omega)]
  have h : x.toInt = (x.toBitVec.toNat : Int).bmod (2 ^ 32) := BitVec.toInt_eq_toNat_bmod _
  rw [h]
  unfold Int.bmod
  simp only [Nat.reducePow]
  omega
theorem and3 (x : Int32) : (x &&& 3).toInt = x.toInt % 4 := by
  have hm := Nat.mod_lt x.toBitVec.toNat (show 0 < 2 ^ 2 by decide)
  rw [pk_and x (m := 3) 2 (by decide), nI_toInt (by omega)]
  have h : x.toInt = (x.toBitVec.toNat : Int).bmod (2 ^ 32) := BitVec.toInt_eq_toNat_bmod _
  rw [h]
  unfold Int.bmod
  simp only [Nat.reducePow]
  omega
theorem sh8_of {k : Nat} {z : Int32} (hk : k < 4) (h : z.toInt = 24 - 8 * (k : Int)) : z = sh8 k := by
  apply Int32.toInt_inj.mp
  rw [h]
  rcases (show k = 0 ∨ k = 1 ∨ k = 2 ∨ k = 3 by omega) with e | e | e | e <;> subst e <;> rfl
theorem nC_congr {f g : Nat → Int32} (h : ∀ i, i < 600 → f i = g i) : nC f = nC g := by
  funext j
  unfold nC
  by_cases hj : j < 600
  · rw [if_pos hj, if_pos hj, h j hj]
  · rw [if_neg hj, if_neg hj]
theorem bm256 (v : Int) : (Int.bmod v 256 = v % 256 ∧ v % 256 < 128) ∨ (Int.bmod v 256 = v % 256 - 256 ∧ 128 ≤ v % 256) := by
  unfold Int.bmod
  simp only [Nat.reducePow]
  omega
theorem nr8 (x : Int32) : nr (vp_nar .byte (x.toInt8.toInt32)).toInt = nr (x &&& 255).toInt := by
  have h1 : vp_nar .byte (x.toInt8.toInt32) = x.toInt8.toInt32.toInt8.toInt32 := rfl
  have h2 : (x.toInt8.toInt32.toInt8.toInt32).toInt = Int.bmod x.toInt 256 := by
    rw [Int8.toInt_toInt32, Int32.toInt_toInt8, Int8.toInt_toInt32, Int32.toInt_toInt8]
    unfold Int.bmod
    simp only [Nat.reducePow]
    omega
  rw [h1, h2, and255]
  unfold nr
  rcases bm256 x.toInt with ⟨e, h⟩ | ⟨e, h⟩
  · rw [e]
  · rw [e, if_neg (by omega), if_neg (by omega)]
theorem nb8 (x : Int32) : (-128 : Int) ≤ (vp_nar .byte x).toInt ∧ (vp_nar .byte x).toInt ≤ 127 := by
  have h1 : vp_nar .byte x = x.toInt8.toInt32 := rfl
  rw [h1, Int8.toInt_toInt32, Int32.toInt_toInt8]
  unfold Int.bmod
  simp only [Nat.reducePow]
  omega
theorem Byt.up {f : Nat → Int32} {k : Nat} {x : Int32} (h : Byt f) : Byt (upd f k (vp_nar .byte x)) := fun j => by
  by_cases hj : j = k
  · subst hj; rw [pk_us]; exact nb8 x
  · rw [pk_un hj]; exact h j
theorem by8_0 (n : Int32) : by8 n 0 = nr ((n >>> ((24 : Int32) &&& 31)) &&& 255).toInt := rfl
theorem by8_1 (n : Int32) : by8 n 1 = nr ((n >>> ((16 : Int32) &&& 31)) &&& 255).toInt := rfl
theorem by8_2 (n : Int32) : by8 n 2 = nr ((n >>> ((8 : Int32) &&& 31)) &&& 255).toInt := rfl
theorem by8_3 (n : Int32) : by8 n 3 = nr ((n >>> ((0 : Int32) &&& 31)) &&& 255).toInt := rfl
theorem ad4_of {f : Nat → Int32} {n x0 x1 x2 x3 : Int32} {t0 t a b c : Nat} (ht : t + 4 ≤ 600) (h0 : t0 = t) (ha : a = t + 1) (hb : b = t + 2) (hc : c = t + 3) (e0 : nr x0.toInt = by8 n 0) (e1 : nr x1.toInt = by8 n 1) (e2 : nr x2.toInt = by8 n 2) (e3 : nr x3.toInt = by8 n 3) : nC (upd (upd (upd (upd f t0 x0) a x1) b x2) c x3) = ad4 (nC f) t n := by
  subst h0 ha hb hc
  funext j
  by_cases hj : t0 ≤ j ∧ j < t0 + 4
  · rw [nC_at (by omega)]
    unfold ad4
    rw [if_pos hj]
    rcases (show j = t0 ∨ j = t0 + 1 ∨ j = t0 + 2 ∨ j = t0 + 3 by omega) with e | e | e | e
    · rw [e, pk_un (by omega), pk_un (by omega), pk_un (by omega), pk_us, show t0 - t0 = 0 by omega]; exact e0
    · rw [e, pk_un (by omega), pk_un (by omega), pk_us, show t0 + 1 - t0 = 1 by omega]; exact e1
    · rw [e, pk_un (by omega), pk_us, show t0 + 2 - t0 = 2 by omega]; exact e2
    · rw [e, pk_us, show t0 + 3 - t0 = 3 by omega]; exact e3
  · unfold ad4
    rw [if_neg hj]
    unfold nC
    rw [pk_un (by omega), pk_un (by omega), pk_un (by omega), pk_un (by omega)]
theorem fdK0 {C : Nat → Int} {t : Nat} {a b c d e : Int32} : fdK C t a b c d e 0 = C := by
  funext j
  unfold fdK
  rw [if_neg (by omega)]
theorem fdKS {f : Nat → Int32} {C : Nat → Int} {t i k : Nat} {a b c d e x : Int32} (h : nC f = fdK C t a b c d e k) (hk : t + k < 600) (hi : i = t + k) (hx : nr x.toInt = by8 (fdv a b c d e (k / 4)) (k % 4)) : nC (upd f i x) = fdK C t a b c d e (k + 1) := by
  subst hi
  funext j
  have hj0 := congrFun h j
  by_cases hj : j = t + k
  · rw [nC_at (by omega)]
    unfold fdK
    rw [if_pos (by omega), hj, pk_us, show t + k - t = k by omega]
    exact hx
  · have e1 : nC (upd f (t + k) x) j = nC f j := by
      unfold nC
      rw [pk_un hj]
    rw [e1, hj0]
    unfold fdK
    by_cases h2 : t ≤ j ∧ j < t + k
    · rw [if_pos h2, if_pos (by omega)]
    · rw [if_neg h2, if_neg (by omega)]
theorem ad4_i {C : Nat → Int} {t j : Nat} {n : Int32} (h : t ≤ j ∧ j < t + 4) : ad4 C t n j = by8 n (j - t) := if_pos h
theorem ad4_o {C : Nat → Int} {t j : Nat} {n : Int32} (h : ¬ (t ≤ j ∧ j < t + 4)) : ad4 C t n j = C j := if_neg h
theorem ad4_5 {C : Nat → Int} {t : Nat} {a b c d e : Int32} : ad4 (ad4 (ad4 (ad4 (ad4 C t a) (t + 4) b) (t + 8) c) (t + 12) d) (t + 16) e = fdK C t a b c d e 20 := by
  funext j
  unfold fdK
  by_cases hj : t ≤ j ∧ j < t + 20
  · rw [if_pos hj]
    rcases (show (j - t) / 4 = 0 ∨ (j - t) / 4 = 1 ∨ (j - t) / 4 = 2 ∨ (j - t) / 4 = 3 ∨ (j - t) / 4 = 4 by omega) with q | q | q | q | q
    · rw [ad4_o (by omega), ad4_o (by omega), ad4_o (by omega), ad4_o (by omega), ad4_i (by omega), q, show (j - t) % 4 = j - t by omega]; rfl
    · rw [ad4_o (by omega), ad4_o (by omega), ad4_o (by omega), ad4_i (by omega), q, show j - (t + 4) = (j - t) % 4 by omega]; rfl
    · rw [ad4_o (by omega), ad4_o (by omega), ad4_i (by omega), q, show j - (t + 8) = (j - t) % 4 by omega]; rfl
    · rw [ad4_o (by omega), ad4_i (by omega), q, show j - (t + 12) = (j - t) % 4 by omega]; rfl
    · rw [ad4_i (by omega), q, show j - (t + 16) = (j - t) % 4 by omega]; rfl
  · rw [if_neg hj, ad4_o (by omega), ad4_o (by omega), ad4_o (by omega), ad4_o (by omega), ad4_o (by omega)]
theorem nC_cpy {f g : Nat → Int32} : nC (va_cpy f g 0 0 600) = nC f := by
  funext j
  by_cases hj : j < 600
  · rw [nC_at hj, nC_at hj]
    unfold va_cpy
    rw [if_pos (by omega), show 0 + (j - 0) = j by omega]
  · unfold nC
    rw [if_neg hj, if_neg hj]
theorem Byt.cpy {f g : Nat → Int32} (hf : Byt f) (hg : Byt g) : Byt (va_cpy f g 0 0 600) := fun j => by
  unfold va_cpy
  split
  · exact hf _
  · exact hg j
section QB
variable {p : Program} {l : Launch} {e : Env} {R : Room} {s : State} {m : MethodId} {args : Array Value} {below : List Frame} {meth : Method} {c : Code} {H : Heap} {locs : List Loc} {cells slots : Nat} {Q : State → Prop}
variable {cc : ByteArray} {nL pc : Nat} {ls : Array Slot} {rest : List Value} {D : va_G} {kA : Nat → ClassId} {M : mM} {T : mT} {A : Nat → Prop} {a : Nat} {H0 : Heap} {own : String} {idx ci k τ : Nat} {ty : FieldType}
theorem kA01 (hK : mK D kA s) : ¬ kA 0 = kA 1 := by
  intro h
  obtain ⟨-, k0, e0, c0, q0⟩ := (hK.1.2 0 _ rfl).1 0 (fun _ => .null)
  obtain ⟨-, k1, e1, c1, q1⟩ := (hK.1.2 1 _ rfl).1 0 (fun _ => .null)
  rw [h] at e0
  rw [e0] at e1
  cases e1
  rw [q0] at q1
  cases q1
theorem ne01 {n : Nat} {f g : Nat → Int32} (h : ¬ kA 0 = kA 1) : ¬ (Sum.inl (kA 0, n, Sum.inl f) : va_E) = Sum.inl (kA 1, n, Sum.inl g) := fun z => h (congrArg (fun x => x.1) (Sum.inl.inj z))
theorem xbld (hC : CallFix p m c cc nL s args TB own) (hK : mK D kA s) (hH : mS D kA M T A H0 H locs) {n : Nat} {f : Nat → Int32} (he : M a = some (.inl (kA 1, n, .inl f))) {i : Int32} (hin : vp_in i n) (hdg : decode cc pc = .ok (.baload, 1))
    (kk : W p l e R s m args below meth c H locs cells slots Q (F0 m (pc + 1) ls (.int (f i.toNatClampNeg) :: rest))) : W p l e R s m args below meth c H locs cells slots Q (F0 m pc ls (.int i :: .ref a :: rest)) :=
  va_bald hC.1 hC.2.1 hK.1 (hH.1.P1 he) 0 1 rfl rfl hin hdg kk
theorem ybst (hC : CallFix p m c cc nL s args TB own) (hK : mK D kA s) (hH : mS D kA M T A H0 H locs) {n : Nat} {f : Nat → Int32} (he : M a = some (.inl (kA 1, n, .inl f))) {i x : Int32} (hcf : ∀ t, T a = some t → conf kA T t (.inl (kA 1, n, .inl (upd f i.toNatClampNeg (vp_nar .byte x))))) (hin : vp_in i n) (hdg : decode cc pc = .ok (.bastore, 1))
    (kk : ∀ (H1 : Heap) (locs1 : List Loc) (M1 : mM), M1 a = some (.inl (kA 1, n, .inl (upd f i.toNatClampNeg (vp_nar .byte x)))) → (∀ q, q ≠ a → M1 q = M q) → mS D kA M1 T A H0 H1 locs1 → W p l e R s m args below meth c H1 locs1 cells slots Q (F0 m (pc + 1) ls rest)) : W p l e R s m args below meth c H locs cells slots Q (F0 m pc ls (.int x :: .int i :: .ref a :: rest)) :=
  bst_at hC hK (hH.1.1 _ _ he) hin hdg (fun H1 j g1 z oq => kk H1 _ _ (upS _ _ _) (fun _ hq => upN _ _ hq) (hH.putM he hcf g1 z oq))
theorem ycpb (hC : CallFix p m c cc nL s args TB own) (hK : mK D kA s) (hH : mS D kA M T A H0 H locs) (hsz : ls.size = nL) (hl : CPL own idx) {a0 n0 n1 : Nat} {f g : Nat → Int32} (he0 : M a0 = some (.inl (kA 1, n0, .inl f))) (he1 : M a = some (.inl (kA 1, n1, .inl g))) (hn1 : T a = none) (hf : Byt f)
    {sp dp n : Int32} (h1 : ¬ sp < 0) (h2 : ¬ dp < 0) (h3 : ¬ n < 0) (h4 : sp.toNatClampNeg + n.toNatClampNeg ≤ n0) (h5 : dp.toNatClampNeg + n.toNatClampNeg ≤ n1)
    (hframes : 1 ≤ R.frames) (hlocals : (rest.map fun v => v.category).sum + (nativeFrameWords "java/lang/System" "arraycopy" 5 + 11) ≤ R.locals) (hdg : decode cc pc = .ok (.invokestatic idx, 3))
    (kk : ∀ (H1 : Heap) (locs1 : List Loc) (M1 : mM), M1 a = some (.inl (kA 1, n1, .inl (va_cpy f g sp.toNatClampNeg dp.toNatClampNeg n.toNatClampNeg))) → (∀ q, q ≠ a → M1 q = M q) → mS D kA M1 T A H0 H1 locs1 → W p l e R s m args below meth c H1 locs1 cells slots Q (F0 m (pc + 3) ls rest)) : W p l e R s m args below meth c H locs cells slots Q (F0 m pc ls (.int n :: .int dp :: .ref a :: .int sp :: .ref a0 :: rest)) := by
  refine cpy_at (ck := 1) (ty := .byte) hC hK hsz hl rfl rfl (hH.1.1 _ _ he0) (hH.1.1 _ _ he1) h1 h2 h3 h4 h5 (fun i hi => fit8 (hf _).1 (hf _).2) hframes hlocals hdg (fun H1 L hL h z oq => ?_)
  have hS1 := hH.putM (k := 0) he1 (noT hn1) h z oq
  exact kk H1 _ _ (upS _ _ _) (fun _ hq => upN _ _ hq) (hS1.reloc (fun q hq => by
    rcases List.mem_append.mp hq with h | h
    · exact hH.2.1.2.2 q h
    · rw [hL q h]; exact hH.2.2.1 a (Or.inl (by rw [he1]; simp))))
end QB
