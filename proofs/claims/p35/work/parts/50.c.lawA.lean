/-! THE CLAIM OUT OF ONE WALK OF THE LAW'S BODY. Your part is whole_start (and what it stands on); all else here is the same for every law, but numbers. -/
def R_law : String := "BillRegistryLaw"
def lw_P (b : Addr) (xs : List Int32) (args : Array Value) (s : State) : Prop := args = #[.ref b] ∧ s.IntsAt b xs ∧ xs.length ≤ 3072 ∧ (Jvm.Cond.and given_1 narrow_1).before args s = true
def lw_Q (_ : Array Value) (s : State) (o : Outcome) (t : State) : Prop := o = .returned (some (.int 1)) ∧ Framed s o t [] 600000 7302250
def lw_Z (below : List Frame) (a : Array Value) (s : State) : State → Prop := fun t => ∃ o, t.status = .running ∧ Ended t below o ∧ lw_Q a s o t
/-- the law's own end, with 1 on the stack, nothing written that was there before, its room as the claim has it -/
theorem lw_ret {p : Program} {l : Launch} {e : Env} {s : State} {m : MethodId} {below : List Frame} {meth : Method} {c : Code} {b : Nat} (hx : p.tables.exec = Jvm.exec) (hb : c.code = code) (hr : meth.sig.returnType = ret) (hlocks : meth.locks = false) {pc : Nat} {Hq_ : Heap} {ls : Array Slot} (hdg : decode code pc = .ok (.ireturn, 1)) : W p l e room_1 s m #[Value.ref b] below meth c Hq_ [] 600000 7302250 (lw_Z below #[Value.ref b] s) (F0 m pc ls [.int 1]) := by
  intro T hT X
  obtain ⟨fs, hret, hrun, hended, hW, hframe⟩ := X.leave (v := some (.int 1)) (hlocks := hlocks) (fun h => by rw [hr] at h; cases h)
  have hmeth' : T.vm.method? m = some meth := X.method'
  refine ⟨T.setFrames fs, ?_, .returned (some (.int 1)), hrun, hended, rfl, ⟨_, rfl⟩, hW, hframe⟩
  jvm_step X.here [X.here.top, hx, hb, hdg, hmeth', hr, ret, narrow_b1]
  (try refine ⟨rfl, ?_⟩); (try refine ⟨rfl, ?_⟩)
  first | (intro acts; rw [hret _ acts rfl rfl rfl]) | rw [hret _ _ rfl rfl rfl]
  exact Steps.refl _
/-- what holds at the law's entry: the machine, the code, the tables' words (any of lw_tbl by 'hts w (by decide +kernel)'), the script of L ints xs at the cell b, what the Statement gives of the start (any of its parts by flat_of_before) -/
def lw_At (p : Program) (s : State) (m : MethodId) (meth : Method) (c : Code) (b L : Nat) (xs : Nat → Int32) : Prop :=
  p.tables.exec = Jvm.exec ∧ c.code = code ∧ meth.sig.returnType = ret ∧ c.maxLocals = 4 ∧ s.vm.findClass R_law = some m.cls ∧ (∀ w ∈ lw_tbl, w.before #[Value.ref b] s = true) ∧ va_X b L xs s s.heap ∧ b < s.heap.size ∧ meth.locks = false ∧ (Jvm.Cond.and given_1 narrow_1).before #[Value.ref b] s = true
/-- what the start gives: the classes, the arrays' classes, the nest's words, the constant -/
theorem law_K {s : State} {args : Array Value} (hts : ∀ w ∈ lw_tbl, w.before args s = true) : ∃ (D : va_G) (kA : Nat → ClassId), mK D kA s := by
  have hT : ∀ w ∈ TB, w.before args s = true := fun w h => hts w (TB_in h)
  obtain ⟨c0, i0, k0⟩ := u_known (C := RX1) (T := TX1) (N := 19) (n := 19) hT inX1 (hT _ (TB_t 36 (by decide +kernel) rfl))
  obtain ⟨c1, i1, k1⟩ := u_known (C := RX2) (T := TX2) (N := 8) (n := 8) hT inX2 (hT _ (TB_t 44 (by decide +kernel) rfl))
  obtain ⟨c2, i2, k2⟩ := u_known (C := RX3) (T := TX3) (N := 1) (n := 1) hT inX3 (hT _ (TB_t 361 (by decide +kernel) rfl))
  obtain ⟨c3, i3, k3⟩ := u_known (C := RX4) (T := TX4) (N := 10) (n := 10) hT inX4 (hT _ (TB_t 293 (by decide +kernel) rfl))
  obtain ⟨c4, i4, k4⟩ := u_known (C := RX5) (T := TX5) (N := 4) (n := 4) hT inX5 (hT _ (TB_t 336 (by decide +kernel) rfl))
  obtain ⟨c5, i5, k5⟩ := u_known (C := RX6) (T := TX6) (N := 11) (n := 11) hT inX6 (hT _ (TB_t 87 (by decide +kernel) rfl))
  obtain ⟨c6, i6, k6⟩ := u_known (C := RX8) (T := TX8) (N := 11) (n := 11) hT inX8 (hT _ (TB_t 29 (by decide +kernel) rfl))
  obtain ⟨c7, i7, k7⟩ := u_known (C := RX9) (T := TX9) (N := 5) (n := 5) hT inX9 (hT _ (TB_t 21 (by decide +kernel) rfl))
  obtain ⟨c8, i8, k8⟩ := u_known (C := RX10) (T := TX10) (N := 14) (n := 14) hT inX10 (hT _ (TB_t 952 (by decide +kernel) rfl))
  have hpr : ∀ (ty : FieldType), Cond.arrayClass ty ∈ TB → ∃ cA, ArrOfT s cA ty ∧ s.vm.findClass ("[" ++ ty.toString) = some cA := by
    intro ty h
    obtain ⟨cA, k, comp, h1, h2, h3⟩ := Cond.arrayClass_spec (hT _ h)
    exact ⟨cA, fun n z => ⟨fun k h => (by cases h), k, h2, comp, h3⟩, h1⟩
  have hqr : ∀ (C : String), Cond.arrayOver (.object C) ∈ lw_tbl → ∃ cA, ArrOfT s cA (.object C) ∧ va_RA s cA (.object C) := by
    intro C h
    obtain ⟨comp, cA, k, h1, h2, h3, h4, h5⟩ := Cond.arrayOver_spec (hts _ h)
    exact ⟨cA, fun n z => ⟨fun k h => (by cases h), k, h3, comp, h4⟩, k, comp, h3, h4, h1, h5⟩
  obtain ⟨a0, p0, q0⟩ := hpr .int w_ac0
  obtain ⟨a1, p1, q1⟩ := hpr .byte w_ac1
  obtain ⟨a2, p2, q2⟩ := hpr .boolean w_ac2
  obtain ⟨a3, p3, q3⟩ := hqr RX6 (List.mem_append_right _ (List.mem_of_getElem? (i := 42) (by decide +kernel)))
  obtain ⟨a4, p4, q4⟩ := hqr RX2 (List.mem_append_right _ (List.mem_of_getElem? (i := 367) (by decide +kernel)))
  obtain ⟨a5, p5, q5⟩ := hqr RX1 (List.mem_append_right _ (List.mem_of_getElem? (i := 35) (by decide +kernel)))
  obtain ⟨a6, p6, q6⟩ := hqr RX8 (List.mem_append_right _ (List.mem_of_getElem? (i := 291) (by decide +kernel)))
  refine ⟨(fun k => match k with
    | 0 => c0
    | 1 => c1
    | 2 => c2
    | 3 => c3
    | 4 => c4
    | 5 => c5
    | 6 => c6
    | 7 => c7
    | _ => c8, fun k => match k with
    | 0 => i0
    | 1 => i1
    | 2 => i2
    | 3 => i3
    | 4 => i4
    | 5 => i5
    | 6 => i6
    | 7 => i7
    | _ => i8), fun k => match k with
    | 0 => a0
    | 1 => a1
    | 2 => a2
    | 3 => a3
    | 4 => a4
    | 5 => a5
    | _ => a6, ⟨fun c q hq => ?_, fun k q hq => ?_⟩, fun q hq => ?_, fun C hC => ?_⟩
  · match c, hq with
    | 0, hq => cases hq; exact k0
    | 1, hq => cases hq; exact k1
    | 2, hq => cases hq; exact k2
    | 3, hq => cases hq; exact k3
    | 4, hq => cases hq; exact k4
    | 5, hq => cases hq; exact k5
    | 6, hq => cases hq; exact k6
    | 7, hq => cases hq; exact k7
    | 8, hq => cases hq; exact k8
    | k + 9, hq => simp [vwCl] at hq
  · match k, hq with
    | 0, hq => cases hq; exact ⟨p0, q0⟩
    | 1, hq => cases hq; exact ⟨p1, q1⟩
    | 2, hq => cases hq; exact ⟨p2, q2⟩
    | 3, hq => cases hq; exact ⟨p3, q3⟩
    | 4, hq => cases hq; exact ⟨p4, q4⟩
    | 5, hq => cases hq; exact ⟨p5, q5⟩
    | 6, hq => cases hq; exact ⟨p6, q6⟩
    | k + 7, hq => simp [tyL] at hq
  · have h9 : ∀ q ∈ nestQ, Cond.methodLinkNest q.1 q.2.1 q.2.2.1 q.2.2.2 ∈ lw_tbl := by
      intro q hq
      have h8 : nestQ = [45, 88, 294, 337, 368, 530, 675, 804].filterMap (fun (i : Nat) => match (tables_1[i]? : Option Cond) with
        | some (Cond.methodLinkNest a b c d) => some (a, b, c, d)
        | _ => none) := by decide +kernel
      rw [h8] at hq
      obtain ⟨i, -, hi⟩ := List.mem_filterMap.mp hq
      cases hc : tables_1[i]? with
      | none => rw [hc] at hi; cases hi
      | some w =>
        rw [hc] at hi
        have hm : w ∈ lw_tbl := List.mem_append_right _ (List.mem_of_getElem? hc)
        cases w <;> first | (cases hi; exact hm) | cases hi
    exact va_Nw.of rfl (hts _ (h9 q hq))
  · have h7 : ∀ C ∈ aoQ, Cond.arrayOver (.object C) ∈ lw_tbl := by
      intro C hC
      rcases (show C = RX1 ∨ C = RX6 ∨ C = RX8 ∨ C = RX2 by simpa [aoQ] using hC) with rfl | rfl | rfl | rfl
      · exact List.mem_append_right _ (List.mem_of_getElem? (i := 35) (by decide +kernel))
      · exact List.mem_append_right _ (List.mem_of_getElem? (i := 42) (by decide +kernel))
      · exact List.mem_append_right _ (List.mem_of_getElem? (i := 291) (by decide +kernel))
      · exact List.mem_append_right _ (List.mem_of_getElem? (i := 367) (by decide +kernel))
    exact va_AO.of (hts _ (h7 C hC))

