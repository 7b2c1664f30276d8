set_option maxHeartbeats 4000000 in
set_option maxRecDepth 100000 in
theorem c_X10_isIn {l : Launch} {D : va_G} {kA : Nat → ClassId} {M : mM} {T : mT} {sz : Nat} {v le mo : Int32}  : mCi l yX10_isIn cX10_isIn 3 (some .boolean) 0 0 0 D kA M T sz [.int v, .int le, .int mo] (fun r u => (((le.toInt ≤ v.toInt ∧ v.toInt ≤ mo.toInt) ∧ r = 1) ∨ ((¬ (le.toInt ≤ v.toInt ∧ v.toInt ≤ mo.toInt)) ∧ r = 0)) ∧ u.2 = T ∧ u.1 = M) := by
  unfold mCi
  refine start_W (by decide) (Nat.le_of_ble_eq_true rfl) ?_
  intro p e s m below meth c ls hC hr hlk hnm hK hH hsz hl
  have hx := hC.1
  have hb := hC.2.1
  have hl : lv_has ls 3 [(0, .int v), (1, .int le), (2, .int mo)] := hl
  refine lv_iload_n hx hb dX10_isIn_0 rfl (lv_at hl 0 rfl) ?_
  refine lv_iload_n hx hb dX10_isIn_1 rfl (lv_at hl 1 rfl) ?_
  refine jic_lt (tgt := 14) hx hb dX10_isIn_2 (by decide) (fun cq1_ => ?_) (fun cq1_ => ?_)
  · skip
    have cq1_ : v.toInt < le.toInt := cq1_
    refine lv_iconst (v := 0) hx hb dX10_isIn_14 (by decide) ?_
    exact ret_z hC hr hlk hK hH (by first | exact Or.inl rfl | exact Or.inr rfl | assumption) (⟨Or.inr (⟨by omega, rfl⟩), rfl, rfl⟩) (Nat.le_of_ble_eq_true rfl) (Nat.le_of_ble_eq_true rfl) dX10_isIn_15
  · skip
    have cq1_ : le.toInt ≤ v.toInt := cq1_
    refine lv_iload_n hx hb dX10_isIn_5 rfl (lv_at hl 0 rfl) ?_
    refine lv_iload_n hx hb dX10_isIn_6 rfl (lv_at hl 2 rfl) ?_
    refine jic_gt (tgt := 14) hx hb dX10_isIn_7 (by decide) (fun cq2_ => ?_) (fun cq2_ => ?_)
    · skip
      have cq2_ : mo.toInt < v.toInt := cq2_
      refine lv_iconst (v := 0) hx hb dX10_isIn_14 (by decide) ?_
      exact ret_z hC hr hlk hK hH (by first | exact Or.inl rfl | exact Or.inr rfl | assumption) (⟨Or.inr (⟨by omega, rfl⟩), rfl, rfl⟩) (Nat.le_of_ble_eq_true rfl) (Nat.le_of_ble_eq_true rfl) dX10_isIn_15
    · skip
      have cq2_ : v.toInt ≤ mo.toInt := cq2_
      refine lv_iconst (v := 1) hx hb dX10_isIn_10 (by decide) ?_
      refine lv_goto (tgt := 15) hx hb dX10_isIn_11 (by decide) ?_
      exact ret_z hC hr hlk hK hH (by first | exact Or.inl rfl | exact Or.inr rfl | assumption) (⟨Or.inl (⟨by omega, rfl⟩), rfl, rfl⟩) (Nat.le_of_ble_eq_true rfl) (Nat.le_of_ble_eq_true rfl) dX10_isIn_15
set_option maxHeartbeats 4000000 in
set_option maxRecDepth 100000 in
theorem c_X10_isPerson {l : Launch} {D : va_G} {kA : Nat → ClassId} {M : mM} {T : mT} {sz : Nat} {n : Int32}  : mCi l yX10_isPerson cX10_isPerson 1 (some .boolean) 1 0 0 D kA M T sz [.int n] (fun r u => (((0 ≤ n.toInt ∧ n.toInt ≤ 7) ∧ r = 1) ∨ ((¬ (0 ≤ n.toInt ∧ n.toInt ≤ 7)) ∧ r = 0)) ∧ u.2 = T ∧ u.1 = M) := by
  unfold mCi
  refine start_W (by decide) (Nat.le_of_ble_eq_true rfl) ?_
  intro p e s m below meth c ls hC hr hlk hnm hK hH hsz hl
  have hx := hC.1
  have hb := hC.2.1
  have hl : lv_has ls 1 [(0, .int n)] := hl
  refine lv_iload_n hx hb dX10_isPerson_0 rfl (lv_at hl 0 rfl) ?_
  refine lv_iconst (v := 0) hx hb dX10_isPerson_1 (by decide) ?_
  refine lv_bipush (v := 7) hx hb dX10_isPerson_2 (by decide) ?_
  refine goI hK hH (runS (As := [.int n, .int 0, .int 7]) (rest := []) hC hK hH (c_X10_isIn) mlX10_33 ⟨⟨Nat.le_of_ble_eq_true rfl, Nat.le_of_ble_eq_true rfl⟩, Nat.le_of_ble_eq_true rfl, Nat.le_of_ble_eq_true rfl⟩ rfl hl.1 rfl (Nat.le_of_ble_eq_true rfl) dX10_isPerson_4) (fun rq3_ Mq1_ Tq2_ Hq_ lcq_ hP hz hH => ?_)
  try dsimp only at hP
  obtain ⟨(⟨cq4_, rfl⟩ | ⟨cq5_, rfl⟩), eT, eM⟩ := hP
  · skip
    have eT := eT.symm; subst eT
    have eM := eM.symm; subst eM
    have cq4_ : (0 : Int) ≤ n.toInt ∧ n.toInt ≤ (7 : Int) := cq4_
    exact ret_z hC hr hlk hK hH (by first | exact Or.inl rfl | exact Or.inr rfl | assumption) (⟨Or.inl (⟨by omega, rfl⟩), rfl, rfl⟩) (Nat.le_of_ble_eq_true rfl) (Nat.le_of_ble_eq_true rfl) dX10_isPerson_7
  · skip
    have eT := eT.symm; subst eT
    have eM := eM.symm; subst eM
    have cq5_ : ¬ ((0 : Int) ≤ n.toInt ∧ n.toInt ≤ (7 : Int)) := cq5_
    exact ret_z hC hr hlk hK hH (by first | exact Or.inl rfl | exact Or.inr rfl | assumption) (⟨Or.inr (⟨by omega, rfl⟩), rfl, rfl⟩) (Nat.le_of_ble_eq_true rfl) (Nat.le_of_ble_eq_true rfl) dX10_isPerson_7
set_option maxHeartbeats 4000000 in
set_option maxRecDepth 100000 in
theorem c_X10_at {l : Launch} {D : va_G} {kA : Nat → ClassId} {M : mM} {T : mT} {sz : Nat}   : mCi l yX10_at cX10_at 2 (some .int) 0 0 0 D kA M T sz [.int 0, .int 0] (fun r u => (r = 20) ∧ u.2 = T ∧ u.1 = M) := by
  unfold mCi
  refine start_W (by decide) (Nat.le_of_ble_eq_true rfl) ?_
  intro p e s m below meth c ls hC hr hlk hnm hK hH hsz hl
  have hx := hC.1
  have hb := hC.2.1
  have hl : lv_has ls 2 [(0, .int 0), (1, .int 0)] := hl
  refine lv_iload_n hx hb dX10_at_0 rfl (lv_at hl 0 rfl) ?_
  refine lv_bipush (v := 20) hx hb dX10_at_1 (by decide) ?_
  refine lv_iadd hx hb dX10_at_3 ?_
  refine lv_cst (v := 20) (by decide) ?_
  refine lv_sipush (v := 280) hx hb dX10_at_4 (by decide) ?_
  refine lv_iload_n hx hb dX10_at_7 rfl (lv_at hl 1 rfl) ?_
  refine lv_imul hx hb dX10_at_8 ?_
  refine lv_cst (v := 0) (by decide) ?_
  refine lv_iadd hx hb dX10_at_9 ?_
  refine lv_cst (v := 20) (by decide) ?_
  exact ret_i hC hr hlk hK hH (⟨rfl, rfl, rfl⟩) (Nat.le_of_ble_eq_true rfl) (Nat.le_of_ble_eq_true rfl) dX10_at_10
set_option maxHeartbeats 4000000 in
set_option maxRecDepth 100000 in
theorem c_X10_partyAt_0 {l : Launch} {D : va_G} {kA : Nat → ClassId} {M : mM} {T : mT} {sz : Nat}   : mCi l yX10_partyAt cX10_partyAt 2 (some .int) 0 0 0 D kA M T sz [.int 20, .int 0] (fun r u => (r = 204) ∧ u.2 = T ∧ u.1 = M) := by
  unfold mCi
  refine start_W (by decide) (Nat.le_of_ble_eq_true rfl) ?_
  intro p e s m below meth c ls hC hr hlk hnm hK hH hsz hl
  have hx := hC.1
  have hb := hC.2.1
  have hl : lv_has ls 2 [(0, .int 20), (1, .int 0)] := hl
  refine lv_iload_n hx hb dX10_partyAt_0 rfl (lv_at hl 0 rfl) ?_
  refine lv_sipush (v := 184) hx hb dX10_partyAt_1 (by decide) ?_
  refine lv_iadd hx hb dX10_partyAt_4 ?_
  refine lv_cst (v := 204) (by decide) ?_
  refine lv_bipush (v := 6) hx hb dX10_partyAt_5 (by decide) ?_
  refine lv_iload_n hx hb dX10_partyAt_7 rfl (lv_at hl 1 rfl) ?_
  refine lv_imul hx hb dX10_partyAt_8 ?_
  refine lv_cst (v := 0) (by decide) ?_
  refine lv_iadd hx hb dX10_partyAt_9 ?_
  refine lv_cst (v := 204) (by decide) ?_
  exact ret_i hC hr hlk hK hH (⟨rfl, rfl, rfl⟩) (Nat.le_of_ble_eq_true rfl) (Nat.le_of_ble_eq_true rfl) dX10_partyAt_10
set_option maxHeartbeats 4000000 in
set_option maxRecDepth 100000 in
theorem c_X10_partyAt_1 {l : Launch} {D : va_G} {kA : Nat → ClassId} {M : mM} {T : mT} {sz : Nat}   : mCi l yX10_partyAt cX10_partyAt 2 (some .int) 0 0 0 D kA M T sz [.int 20, .int 1] (fun r u => (r = 210) ∧ u.2 = T ∧ u.1 = M) := by
  unfold mCi
  refine start_W (by decide) (Nat.le_of_ble_eq_true rfl) ?_
  intro p e s m below meth c ls hC hr hlk hnm hK hH hsz hl
  have hx := hC.1
  have hb := hC.2.1
  have hl : lv_has ls 2 [(0, .int 20), (1, .int 1)] := hl
  refine lv_iload_n hx hb dX10_partyAt_0 rfl (lv_at hl 0 rfl) ?_
  refine lv_sipush (v := 184) hx hb dX10_partyAt_1 (by decide) ?_
  refine lv_iadd hx hb dX10_partyAt_4 ?_
  refine lv_cst (v := 204) (by decide) ?_
  refine lv_bipush (v := 6) hx hb dX10_partyAt_5 (by decide) ?_
  refine lv_iload_n hx hb dX10_partyAt_7 rfl (lv_at hl 1 rfl) ?_
  refine lv_imul hx hb dX10_partyAt_8 ?_
  refine lv_cst (v := 6) (by decide) ?_
  refine lv_iadd hx hb dX10_partyAt_9 ?_
  refine lv_cst (v := 210) (by decide) ?_
  exact ret_i hC hr hlk hK hH (⟨rfl, rfl, rfl⟩) (Nat.le_of_ble_eq_true rfl) (Nat.le_of_ble_eq_true rfl) dX10_partyAt_10
set_option maxHeartbeats 4000000 in
set_option maxRecDepth 100000 in
theorem c_X10_isBill {l : Launch} {D : va_G} {kA : Nat → ClassId} {M : mM} {T : mT} {sz : Nat} {h al mt ii pa li : Nat} {f : Nat → Int32} {b : Int32} (hc_h : M h = some (.inr (8, [.ref al, .ref mt, .ref ii, .int 0, .int (-1), .ref pa, .int 0, .int 0, .int 0, .int 0, .int 0, .long 0, .int 0, .ref li]))) (hc_al : M al = some (.inl (kA 0, 7506, .inl f))) (hfi : ∀ j, j < 1140 → f j = mIni j) : mCi l yX10_isBill cX10_isBill 2 (some .boolean) 1 0 0 D kA M T sz [.ref h, .int b] (fun r u => (r = 0) ∧ u.2 = T ∧ u.1 = M) := by
  unfold mCi
  refine start_W (by decide) (Nat.le_of_ble_eq_true rfl) ?_
  intro p e s m below meth c ls hC hr hlk hnm hK hH hsz hl
  have hx := hC.1
  have hb := hC.2.1
  have hl : lv_has ls 2 [(0, .ref h), (1, .int b)] := hl
  have n_h_al : h ≠ al := neM hc_h hc_al (by simp)
  have n_al_h : al ≠ h := neM hc_al hc_h (by simp)
  refine lv_iload_n hx hb dX10_isBill_0 rfl (lv_at hl 1 rfl) ?_
  refine lv_iconst (v := 0) hx hb dX10_isBill_1 (by decide) ?_
  refine lv_aload_n hx hb dX10_isBill_2 rfl (lv_at hl 0 rfl) ?_
  refine xg hC hK hH flX10_7 hc_h rfl dX10_isBill_3 ?_
  refine lv_iconst (v := 1) hx hb dX10_isBill_6 (by decide) ?_
  refine xild hC hK hH hc_al (iIn (by decide) (by decide)) dX10_isBill_7 ?_
  refine lv_cst (v := 0) ((hfi _ (by decide)).trans (by decide)) ?_
  refine lv_iconst (v := 1) hx hb dX10_isBill_8 (by decide) ?_
  refine lv_isub hx hb dX10_isBill_9 ?_
  refine lv_cst (v := -1) (by decide) ?_
  refine goI hK hH (runS (As := [.int b, .int 0, .int (-1)]) (rest := []) hC hK hH (c_X10_isIn) mlX10_33 ⟨⟨Nat.le_of_ble_eq_true rfl, Nat.le_of_ble_eq_true rfl⟩, Nat.le_of_ble_eq_true rfl, Nat.le_of_ble_eq_true rfl⟩ rfl hl.1 rfl (Nat.le_of_ble_eq_true rfl) dX10_isBill_10) (fun rq3_ Mq1_ Tq2_ Hq_ lcq_ hP hz hH => ?_)
  try dsimp only at hP
  obtain ⟨(⟨cq4_, rfl⟩ | ⟨cq5_, rfl⟩), eT, eM⟩ := hP
  · skip
    have eT := eT.symm; subst eT
    have eM := eM.symm; subst eM
    have cq4_ : (0 : Int) ≤ b.toInt ∧ b.toInt ≤ (-1 : Int) := cq4_
    exact absurd cq4_ (by omega)
  · skip
    have eT := eT.symm; subst eT
    have eM := eM.symm; subst eM
    have cq5_ : ¬ ((0 : Int) ≤ b.toInt ∧ b.toInt ≤ (-1 : Int)) := cq5_
    exact ret_z hC hr hlk hK hH (by first | exact Or.inl rfl | exact Or.inr rfl | assumption) (⟨rfl, rfl, rfl⟩) (Nat.le_of_ble_eq_true rfl) (Nat.le_of_ble_eq_true rfl) dX10_isBill_13
set_option maxHeartbeats 4000000 in
set_option maxRecDepth 100000 in
theorem c_X10_told {l : Launch} {D : va_G} {kA : Nat → ClassId} {M : mM} {T : mT} {sz : Nat} {h al mt ii pa li : Nat} {f : Nat → Int32} {n : Int32} (hc_h : M h = some (.inr (8, [.ref al, .ref mt, .ref ii, .int 0, .int (-1), .ref pa, .int 0, .int 0, .int 0, .int 0, .int 0, .long 0, .int 0, .ref li]))) (hc_al : M al = some (.inl (kA 0, 7506, .inl f))) : mCi l yX10_told cX10_told 2 (some .int) 0 0 0 D kA M T sz [.ref h, .int n] (fun r u => ∃ g : Nat → Int32, (∀ j, j < 4 → g j = f j) ∧ (r = n ∧ u.1 al = some (.inl (kA 0, 7506, .inl g))) ∧ u.2 = T ∧ (∀ q, q ≠ al → u.1 q = M q)) := by
  unfold mCi
  refine start_W (by decide) (Nat.le_of_ble_eq_true rfl) ?_
  intro p e s m below meth c ls hC hr hlk hnm hK hH hsz hl
  have hx := hC.1
  have hb := hC.2.1
  have hl : lv_has ls 2 [(0, .ref h), (1, .int n)] := hl
  have hF : ∀ q, q ≠ al → M q = M q := fun q _ => rfl
  have n_h_al : h ≠ al := neM hc_h hc_al (by simp)
  have n_al_h : al ≠ h := neM hc_al hc_h (by simp)
  refine lv_aload_n hx hb dX10_told_0 rfl (lv_at hl 0 rfl) ?_
  refine xg hC hK hH flX10_7 hc_h rfl dX10_told_1 ?_
  refine lv_iconst (v := 5) hx hb dX10_told_4 (by decide) ?_
  refine lv_iload_n hx hb dX10_told_5 rfl (lv_at hl 1 rfl) ?_
  refine yist (x := n) hC hK hH hc_al (iIn (by decide) (by decide)) dX10_told_6 (fun Hq_ lcq_ Mq1_ hc_al hfr hH => ?_)
  have hc_al : Mq1_ al = some (.inl (kA 0, 7506, .inl (upd f (Int32.toNatClampNeg 5) n))) := hc_al
  have hc_h : Mq1_ h = some (.inr (8, [.ref al, .ref mt, .ref ii, .int 0, .int (-1), .ref pa, .int 0, .int 0, .int 0, .int 0, .int 0, .long 0, .int 0, .ref li])) := (hfr h n_h_al).trans hc_h
  have hF : ∀ q, q ≠ al → Mq1_ q = M q := fun q h0 => (hfr q h0).trans (hF q h0)
  refine lv_aload_n hx hb dX10_told_7 rfl (lv_at hl 0 rfl) ?_
  refine xg hC hK hH flX10_7 hc_h rfl dX10_told_8 ?_
  refine lv_iconst (v := 4) hx hb dX10_told_11 (by decide) ?_
  refine lv_dup2_11 hx hb dX10_told_12 rfl rfl ?_
  refine xild hC hK hH hc_al (iIn (by decide) (by decide)) dX10_told_13 ?_
  refine lv_topi (fun xq2_ e_xq2_ => ?_)
  refine lv_iload_n hx hb dX10_told_14 rfl (lv_at hl 1 rfl) ?_
  refine jif_le (tgt := 22) hx hb dX10_told_15 (by decide) (fun cq3_ => ?_) (fun cq3_ => ?_)
  · skip
    have cq3_ : n.toInt ≤ 0 := cq3_
    refine lv_iconst (v := 0) hx hb dX10_told_22 (by decide) ?_
    refine lv_iadd hx hb dX10_told_23 ?_
    refine lv_topi (fun zq4_ e_zq4_ => ?_)
    have h_zq4_ : zq4_.toInt = xq2_.toInt + 0 := by rw [e_zq4_, iAdd (by have := iRg xq2_; have : (0 : Int32).toInt = 0 := rfl; omega) (by have := iRg xq2_; have : (0 : Int32).toInt = 0 := rfl; omega)]; rfl
    refine yist (x := zq4_) hC hK hH hc_al (iIn (by decide) (by decide)) dX10_told_24 (fun Hq_ lcq_ Mq5_ hc_al hfr hH => ?_)
    have hc_al : Mq5_ al = some (.inl (kA 0, 7506, .inl (upd (upd f (Int32.toNatClampNeg 5) n) (Int32.toNatClampNeg 4) zq4_))) := hc_al
    have hc_h : Mq5_ h = some (.inr (8, [.ref al, .ref mt, .ref ii, .int 0, .int (-1), .ref pa, .int 0, .int 0, .int 0, .int 0, .int 0, .long 0, .int 0, .ref li])) := (hfr h n_h_al).trans hc_h
    have hF : ∀ q, q ≠ al → Mq5_ q = M q := fun q h0 => (hfr q h0).trans (hF q h0)
    refine lv_iload_n hx hb dX10_told_25 rfl (lv_at hl 1 rfl) ?_
    exact ret_i hC hr hlk hK hH (⟨_, fun j hj => ((pk_un (by have : Int32.toNatClampNeg 4 = 4 := rfl; omega)).trans ((pk_un (by have : Int32.toNatClampNeg 5 = 5 := rfl; omega)).trans rfl)), ⟨rfl, hc_al⟩, rfl, hF⟩) (Nat.le_of_ble_eq_true rfl) (Nat.le_of_ble_eq_true rfl) dX10_told_26
  · skip
    have cq3_ : 0 < n.toInt := cq3_
    refine lv_iconst (v := 1) hx hb dX10_told_18 (by decide) ?_
    refine lv_goto (tgt := 23) hx hb dX10_told_19 (by decide) ?_
    refine lv_iadd hx hb dX10_told_23 ?_
    refine lv_topi (fun zq6_ e_zq6_ => ?_)
    have rg_xq2_ := iRg xq2_
    rcases (show xq2_.toInt ≤ 2147483646 ∨ 2147483646 < xq2_.toInt by omega) with cq7_ | cq7_
    · skip
      have h_zq6_ : zq6_.toInt = xq2_.toInt + 1 := by rw [e_zq6_, iAdd (by have := iRg xq2_; have : (1 : Int32).toInt = 1 := rfl; omega) (by have := iRg xq2_; have : (1 : Int32).toInt = 1 := rfl; omega)]; rfl
      refine yist (x := zq6_) hC hK hH hc_al (iIn (by decide) (by decide)) dX10_told_24 (fun Hq_ lcq_ Mq8_ hc_al hfr hH => ?_)
      have hc_al : Mq8_ al = some (.inl (kA 0, 7506, .inl (upd (upd f (Int32.toNatClampNeg 5) n) (Int32.toNatClampNeg 4) zq6_))) := hc_al
      have hc_h : Mq8_ h = some (.inr (8, [.ref al, .ref mt, .ref ii, .int 0, .int (-1), .ref pa, .int 0, .int 0, .int 0, .int 0, .int 0, .long 0, .int 0, .ref li])) := (hfr h n_h_al).trans hc_h
      have hF : ∀ q, q ≠ al → Mq8_ q = M q := fun q h0 => (hfr q h0).trans (hF q h0)
      refine lv_iload_n hx hb dX10_told_25 rfl (lv_at hl 1 rfl) ?_
      exact ret_i hC hr hlk hK hH (⟨_, fun j hj => ((pk_un (by have : Int32.toNatClampNeg 4 = 4 := rfl; omega)).trans ((pk_un (by have : Int32.toNatClampNeg 5 = 5 := rfl; omega)).trans rfl)), ⟨rfl, hc_al⟩, rfl, hF⟩) (Nat.le_of_ble_eq_true rfl) (Nat.le_of_ble_eq_true rfl) dX10_told_26
    · skip
      have h_zq6_ : zq6_.toInt = xq2_.toInt + 1 - 4294967296 := by rw [e_zq6_, iAddW (by have := iRg xq2_; have : (1 : Int32).toInt = 1 := rfl; omega)]; rfl
      refine yist (x := zq6_) hC hK hH hc_al (iIn (by decide) (by decide)) dX10_told_24 (fun Hq_ lcq_ Mq9_ hc_al hfr hH => ?_)
      have hc_al : Mq9_ al = some (.inl (kA 0, 7506, .inl (upd (upd f (Int32.toNatClampNeg 5) n) (Int32.toNatClampNeg 4) zq6_))) := hc_al
      have hc_h : Mq9_ h = some (.inr (8, [.ref al, .ref mt, .ref ii, .int 0, .int (-1), .ref pa, .int 0, .int 0, .int 0, .int 0, .int 0, .long 0, .int 0, .ref li])) := (hfr h n_h_al).trans hc_h
      have hF : ∀ q, q ≠ al → Mq9_ q = M q := fun q h0 => (hfr q h0).trans (hF q h0)
      refine lv_iload_n hx hb dX10_told_25 rfl (lv_at hl 1 rfl) ?_
      exact ret_i hC hr hlk hK hH (⟨_, fun j hj => ((pk_un (by have : Int32.toNatClampNeg 4 = 4 := rfl; omega)).trans ((pk_un (by have : Int32.toNatClampNeg 5 = 5 := rfl; omega)).trans rfl)), ⟨rfl, hc_al⟩, rfl, hF⟩) (Nat.le_of_ble_eq_true rfl) (Nat.le_of_ble_eq_true rfl) dX10_told_26
set_option maxHeartbeats 4000000 in
set_option maxRecDepth 100000 in
theorem c_X10_days {l : Launch} {D : va_G} {kA : Nat → ClassId} {M : mM} {T : mT} {sz : Nat} {h al mt ii pa li : Nat} {f : Nat → Int32} {n : Int32} (hc_h : M h = some (.inr (8, [.ref al, .ref mt, .ref ii, .int 0, .int (-1), .ref pa, .int 0, .int 0, .int 0, .int 0, .int 0, .long 0, .int 0, .ref li]))) (hc_al : M al = some (.inl (kA 0, 7506, .inl f))) (hfi : ∀ j, j < 1140 → f j = mIni j) : mCi l yX10_days cX10_days 2 (some .int) 1 0 0 D kA M T sz [.ref h, .int n] (fun r u => ∃ g : Nat → Int32, (∀ j, j < 0 → g j = f j) ∧ (((1 ≤ n.toInt ∧ n.toInt ≤ 99) ∧ r = 0 ∧ u.1 al = some (.inl (kA 0, 7506, .inl g))) ∨ ((¬ (1 ≤ n.toInt ∧ n.toInt ≤ 99)) ∧ r = 30 ∧ u.1 al = some (.inl (kA 0, 7506, .inl g)))) ∧ u.2 = T ∧ (∀ q, q ≠ al → u.1 q = M q)) := by
  unfold mCi
  refine start_W (by decide) (Nat.le_of_ble_eq_true rfl) ?_
  intro p e s m below meth c ls hC hr hlk hnm hK hH hsz hl
  have hx := hC.1
  have hb := hC.2.1
  have hl : lv_has ls 2 [(0, .ref h), (1, .int n)] := hl
  have hF : ∀ q, q ≠ al → M q = M q := fun q _ => rfl
  have n_h_al : h ≠ al := neM hc_h hc_al (by simp)
  have n_al_h : al ≠ h := neM hc_al hc_h (by simp)
  refine lv_iload_n hx hb dX10_days_0 rfl (lv_at hl 1 rfl) ?_
  refine lv_iconst (v := 1) hx hb dX10_days_1 (by decide) ?_
  refine lv_bipush (v := 99) hx hb dX10_days_2 (by decide) ?_
  refine goI hK hH (runS (As := [.int n, .int 1, .int 99]) (rest := []) hC hK hH (c_X10_isIn) mlX10_33 ⟨⟨Nat.le_of_ble_eq_true rfl, Nat.le_of_ble_eq_true rfl⟩, Nat.le_of_ble_eq_true rfl, Nat.le_of_ble_eq_true rfl⟩ rfl hl.1 rfl (Nat.le_of_ble_eq_true rfl) dX10_days_4) (fun rq3_ Mq1_ Tq2_ Hq_ lcq_ hP hz hH => ?_)
  try dsimp only at hP
  obtain ⟨(⟨cq4_, rfl⟩ | ⟨cq5_, rfl⟩), eT, eM⟩ := hP
  · skip
    have eT := eT.symm; subst eT
    have eM := eM.symm; subst eM
    have cq4_ : (1 : Int) ≤ n.toInt ∧ n.toInt ≤ (99 : Int) := cq4_
    refine jif_eq (tgt := 24) hx hb dX10_days_7 (by decide) (fun cq6_ => absurd cq6_ (by decide)) (fun cq6_ => ?_)
    refine lv_aload_n hx hb dX10_days_10 rfl (lv_at hl 0 rfl) ?_
    refine xg hC hK hH flX10_7 hc_h rfl dX10_days_11 ?_
    refine lv_iconst (v := 0) hx hb dX10_days_14 (by decide) ?_
    refine xild hC hK hH hc_al (iIn (by decide) (by decide)) dX10_days_15 ?_
    refine lv_cst (v := 0) ((hfi _ (by decide)).trans (by decide)) ?_
    refine lv_iload_n hx hb dX10_days_16 rfl (lv_at hl 1 rfl) ?_
    refine lv_iadd hx hb dX10_days_17 ?_
    refine lv_topi (fun zq7_ e_zq7_ => ?_)
    have h_zq7_ : zq7_.toInt = 0 + n.toInt := by rw [e_zq7_, iAdd (by have : (0 : Int32).toInt = 0 := rfl; have := iRg n; omega) (by have : (0 : Int32).toInt = 0 := rfl; have := iRg n; omega)]; rfl
    refine lv_sipush (v := 999) hx hb dX10_days_18 (by decide) ?_
    refine jic_le (tgt := 27) hx hb dX10_days_21 (by decide) (fun cq8_ => ?_) (fun cq8_ => absurd cq8_ (by have := iRg zq7_; have : (999 : Int32).toInt = 999 := rfl; omega))
    have cq8_ : zq7_.toInt ≤ 999 := cq8_
    refine lv_aload_n hx hb dX10_days_27 rfl (lv_at hl 0 rfl) ?_
    refine xg hC hK hH flX10_7 hc_h rfl dX10_days_28 ?_
    refine lv_iconst (v := 0) hx hb dX10_days_31 (by decide) ?_
    refine lv_dup2_11 hx hb dX10_days_32 rfl rfl ?_
    refine xild hC hK hH hc_al (iIn (by decide) (by decide)) dX10_days_33 ?_
    refine lv_cst (v := 0) ((hfi _ (by decide)).trans (by decide)) ?_
    refine lv_iload_n hx hb dX10_days_34 rfl (lv_at hl 1 rfl) ?_
    refine lv_iadd hx hb dX10_days_35 ?_
    refine lv_topi (fun zq9_ e_zq9_ => ?_)
    have h_zq9_ : zq9_.toInt = 0 + n.toInt := by rw [e_zq9_, iAdd (by have : (0 : Int32).toInt = 0 := rfl; have := iRg n; omega) (by have : (0 : Int32).toInt = 0 := rfl; have := iRg n; omega)]; rfl
    refine yist (x := zq9_) hC hK hH hc_al (iIn (by decide) (by decide)) dX10_days_36 (fun Hq_ lcq_ Mq10_ hc_al hfr hH => ?_)
    have hc_al : Mq10_ al = some (.inl (kA 0, 7506, .inl (upd f (Int32.toNatClampNeg 0) zq9_))) := hc_al
    have hc_h : Mq10_ h = some (.inr (8, [.ref al, .ref mt, .ref ii, .int 0, .int (-1), .ref pa, .int 0, .int 0, .int 0, .int 0, .int 0, .long 0, .int 0, .ref li])) := (hfr h n_h_al).trans hc_h
    have hF : ∀ q, q ≠ al → Mq10_ q = M q := fun q h0 => (hfr q h0).trans (hF q h0)
    refine lv_iconst (v := 0) hx hb dX10_days_37 (by decide) ?_
    exact ret_i hC hr hlk hK hH (⟨_, fun j hj => ((pk_un (by have : Int32.toNatClampNeg 0 = 0 := rfl; omega)).trans rfl), Or.inl (⟨by omega, rfl, hc_al⟩), rfl, hF⟩) (Nat.le_of_ble_eq_true rfl) (Nat.le_of_ble_eq_true rfl) dX10_days_38
  · skip
    have eT := eT.symm; subst eT
    have eM := eM.symm; subst eM
    have cq5_ : ¬ ((1 : Int) ≤ n.toInt ∧ n.toInt ≤ (99 : Int)) := cq5_
    refine jif_eq (tgt := 24) hx hb dX10_days_7 (by decide) (fun cq11_ => ?_) (fun cq11_ => absurd cq11_ (by decide))
    refine lv_bipush (v := 30) hx hb dX10_days_24 (by decide) ?_
    exact ret_i hC hr hlk hK hH (⟨_, fun j hj => rfl, Or.inr (⟨by omega, rfl, hc_al⟩), rfl, hF⟩) (Nat.le_of_ble_eq_true rfl) (Nat.le_of_ble_eq_true rfl) dX10_days_26
set_option maxHeartbeats 4000000 in
set_option maxRecDepth 100000 in
theorem c_X10_hasNow {l : Launch} {D : va_G} {kA : Nat → ClassId} {M : mM} {T : mT} {sz : Nat} {h al mt ii pa li : Nat} {f : Nat → Int32} {ps n : Int32} (hc_h : M h = some (.inr (8, [.ref al, .ref mt, .ref ii, .int 0, .int (-1), .ref pa, .int 0, .int 0, .int 0, .int 0, .int 0, .long 0, .int 0, .ref li]))) (hc_al : M al = some (.inl (kA 0, 7506, .inl f))) (hfi : ∀ j, j < 1140 → f j = mIni j) : mCi l yX10_hasNow cX10_hasNow 3 (some .int) 2 0 0 D kA M T sz [.ref h, .int ps, .int n] (fun r u => ∃ g : Nat → Int32, (∀ j, j < 6 → g j = f j) ∧ (((0 ≤ ps.toInt ∧ ps.toInt ≤ 7 ∧ 0 ≤ n.toInt ∧ n.toInt ≤ 9999) ∧ r = 0 ∧ u.1 al = some (.inl (kA 0, 7506, .inl g))) ∨ ((¬ (0 ≤ ps.toInt ∧ ps.toInt ≤ 7 ∧ 0 ≤ n.toInt ∧ n.toInt ≤ 9999)) ∧ r = 30 ∧ u.1 al = some (.inl (kA 0, 7506, .inl g)))) ∧ u.2 = T ∧ (∀ q, q ≠ al → u.1 q = M q)) := by
  unfold mCi
  refine start_W (by decide) (Nat.le_of_ble_eq_true rfl) ?_
  intro p e s m below meth c ls hC hr hlk hnm hK hH hsz hl
  have hx := hC.1
  have hb := hC.2.1
  have hl : lv_has ls 3 [(0, .ref h), (1, .int ps), (2, .int n)] := hl
  have hF : ∀ q, q ≠ al → M q = M q := fun q _ => rfl
  have n_h_al : h ≠ al := neM hc_h hc_al (by simp)
  have n_al_h : al ≠ h := neM hc_al hc_h (by simp)
  refine lv_iload_n hx hb dX10_hasNow_0 rfl (lv_at hl 1 rfl) ?_
  refine goI hK hH (runS (As := [.int ps]) (rest := []) hC hK hH (c_X10_isPerson) mlX10_100 ⟨⟨Nat.le_of_ble_eq_true rfl, Nat.le_of_ble_eq_true rfl⟩, Nat.le_of_ble_eq_true rfl, Nat.le_of_ble_eq_true rfl⟩ rfl hl.1 rfl (Nat.le_of_ble_eq_true rfl) dX10_hasNow_1) (fun rq3_ Mq1_ Tq2_ Hq_ lcq_ hP hz hH => ?_)
  try dsimp only at hP
  obtain ⟨(⟨cq4_, rfl⟩ | ⟨cq5_, rfl⟩), eT, eM⟩ := hP
  · skip
    have eT := eT.symm; subst eT
    have eM := eM.symm; subst eM
    have cq4_ : 0 ≤ ps.toInt ∧ ps.toInt ≤ 7 := cq4_
    refine jif_eq (tgt := 18) hx hb dX10_hasNow_4 (by decide) (fun cq6_ => absurd cq6_ (by decide)) (fun cq6_ => ?_)
    refine lv_iload_n hx hb dX10_hasNow_7 rfl (lv_at hl 2 rfl) ?_
    refine lv_iconst (v := 0) hx hb dX10_hasNow_8 (by decide) ?_
    refine lv_sipush (v := 9999) hx hb dX10_hasNow_9 (by decide) ?_
    refine goI hK hH (runS (As := [.int n, .int 0, .int 9999]) (rest := []) hC hK hH (c_X10_isIn) mlX10_33 ⟨⟨Nat.le_of_ble_eq_true rfl, Nat.le_of_ble_eq_true rfl⟩, Nat.le_of_ble_eq_true rfl, Nat.le_of_ble_eq_true rfl⟩ rfl hl.1 rfl (Nat.le_of_ble_eq_true rfl) dX10_hasNow_12) (fun rq9_ Mq7_ Tq8_ Hq_ lcq_ hP hz hH => ?_)
    try dsimp only at hP
    obtain ⟨(⟨cq10_, rfl⟩ | ⟨cq11_, rfl⟩), eT, eM⟩ := hP
    · skip
      have eT := eT.symm; subst eT
      have eM := eM.symm; subst eM
      have cq10_ : (0 : Int) ≤ n.toInt ∧ n.toInt ≤ (9999 : Int) := cq10_
      refine jif_ne (tgt := 21) hx hb dX10_hasNow_15 (by decide) (fun cq12_ => ?_) (fun cq12_ => absurd cq12_ (by decide))
      refine lv_aload_n hx hb dX10_hasNow_21 rfl (lv_at hl 0 rfl) ?_
      refine xg hC hK hH flX10_7 hc_h rfl dX10_hasNow_22 ?_
      refine lv_bipush (v := 6) hx hb dX10_hasNow_25 (by decide) ?_
      refine lv_iload_n hx hb dX10_hasNow_27 rfl (lv_at hl 1 rfl) ?_
      refine lv_iadd hx hb dX10_hasNow_28 ?_
      refine lv_topi (fun zq13_ e_zq13_ => ?_)
      have h_zq13_ : zq13_.toInt = 6 + ps.toInt := by rw [e_zq13_, iAdd (by have : (6 : Int32).toInt = 6 := rfl; have := iRg ps; omega) (by have : (6 : Int32).toInt = 6 := rfl; have := iRg ps; omega)]; rfl
      refine lv_iload_n hx hb dX10_hasNow_29 rfl (lv_at hl 2 rfl) ?_
      refine yist (x := n) hC hK hH hc_al (iIn (by omega) (by omega)) dX10_hasNow_30 (fun Hq_ lcq_ Mq14_ hc_al hfr hH => ?_)
      have hc_al : Mq14_ al = some (.inl (kA 0, 7506, .inl (upd f (Int32.toNatClampNeg zq13_) n))) := hc_al
      have hc_h : Mq14_ h = some (.inr (8, [.ref al, .ref mt, .ref ii, .int 0, .int (-1), .ref pa, .int 0, .int 0, .int 0, .int 0, .int 0, .long 0, .int 0, .ref li])) := (hfr h n_h_al).trans hc_h
      have hF : ∀ q, q ≠ al → Mq14_ q = M q := fun q h0 => (hfr q h0).trans (hF q h0)
      refine lv_iconst (v := 0) hx hb dX10_hasNow_31 (by decide) ?_
      exact ret_i hC hr hlk hK hH (⟨_, fun j hj => ((pk_un (by have := iCl (x := zq13_) (by omega); omega)).trans rfl), Or.inl (⟨by omega, rfl, hc_al⟩), rfl, hF⟩) (Nat.le_of_ble_eq_true rfl) (Nat.le_of_ble_eq_true rfl) dX10_hasNow_32
    · skip
      have eT := eT.symm; subst eT
      have eM := eM.symm; subst eM
      have cq11_ : ¬ ((0 : Int) ≤ n.toInt ∧ n.toInt ≤ (9999 : Int)) := cq11_
      refine jif_ne (tgt := 21) hx hb dX10_hasNow_15 (by decide) (fun cq15_ => absurd cq15_ (by decide)) (fun cq15_ => ?_)
      refine lv_bipush (v := 30) hx hb dX10_hasNow_18 (by decide) ?_
      exact ret_i hC hr hlk hK hH (⟨_, fun j hj => rfl, Or.inr (⟨by omega, rfl, hc_al⟩), rfl, hF⟩) (Nat.le_of_ble_eq_true rfl) (Nat.le_of_ble_eq_true rfl) dX10_hasNow_20
  · skip
    have eT := eT.symm; subst eT
    have eM := eM.symm; subst eM
    have cq5_ : ¬ (0 ≤ ps.toInt ∧ ps.toInt ≤ 7) := cq5_
    refine jif_eq (tgt := 18) hx hb dX10_hasNow_4 (by decide) (fun cq16_ => ?_) (fun cq16_ => absurd cq16_ (by decide))
    refine lv_bipush (v := 30) hx hb dX10_hasNow_18 (by decide) ?_
    exact ret_i hC hr hlk hK hH (⟨_, fun j hj => rfl, Or.inr (⟨by omega, rfl, hc_al⟩), rfl, hF⟩) (Nat.le_of_ble_eq_true rfl) (Nat.le_of_ble_eq_true rfl) dX10_hasNow_20
set_option maxHeartbeats 4000000 in
set_option maxRecDepth 100000 in
theorem c_X10_graces {l : Launch} {D : va_G} {kA : Nat → ClassId} {M : mM} {T : mT} {sz : Nat} {h al mt ii pa li : Nat} {f : Nat → Int32} {n : Int32} (hc_h : M h = some (.inr (8, [.ref al, .ref mt, .ref ii, .int 0, .int (-1), .ref pa, .int 0, .int 0, .int 0, .int 0, .int 0, .long 0, .int 0, .ref li]))) (hc_al : M al = some (.inl (kA 0, 7506, .inl f))) (hfi : ∀ j, j < 1140 → f j = mIni j) : mCi l yX10_graces cX10_graces 2 (some .int) 1 0 0 D kA M T sz [.ref h, .int n] (fun r u => ∃ g : Nat → Int32, (∀ j, j < 2 → g j = f j) ∧ (((1 ≤ n.toInt ∧ n.toInt ≤ 9) ∧ r = 0 ∧ u.1 al = some (.inl (kA 0, 7506, .inl g))) ∨ ((¬ (1 ≤ n.toInt ∧ n.toInt ≤ 9)) ∧ r = 30 ∧ u.1 al = some (.inl (kA 0, 7506, .inl g)))) ∧ u.2 = T ∧ (∀ q, q ≠ al → u.1 q = M q)) := by
  unfold mCi
  refine start_W (by decide) (Nat.le_of_ble_eq_true rfl) ?_
  intro p e s m below meth c ls hC hr hlk hnm hK hH hsz hl
  have hx := hC.1
  have hb := hC.2.1
  have hl : lv_has ls 2 [(0, .ref h), (1, .int n)] := hl
  have hF : ∀ q, q ≠ al → M q = M q := fun q _ => rfl
  have n_h_al : h ≠ al := neM hc_h hc_al (by simp)
  have n_al_h : al ≠ h := neM hc_al hc_h (by simp)
  refine lv_iload_n hx hb dX10_graces_0 rfl (lv_at hl 1 rfl) ?_
  refine lv_iconst (v := 1) hx hb dX10_graces_1 (by decide) ?_
  refine lv_bipush (v := 9) hx hb dX10_graces_2 (by decide) ?_
  refine goI hK hH (runS (As := [.int n, .int 1, .int 9]) (rest := []) hC hK hH (c_X10_isIn) mlX10_33 ⟨⟨Nat.le_of_ble_eq_true rfl, Nat.le_of_ble_eq_true rfl⟩, Nat.le_of_ble_eq_true rfl, Nat.le_of_ble_eq_true rfl⟩ rfl hl.1 rfl (Nat.le_of_ble_eq_true rfl) dX10_graces_4) (fun rq3_ Mq1_ Tq2_ Hq_ lcq_ hP hz hH => ?_)
  try dsimp only at hP
  obtain ⟨(⟨cq4_, rfl⟩ | ⟨cq5_, rfl⟩), eT, eM⟩ := hP
  · skip
    have eT := eT.symm; subst eT
    have eM := eM.symm; subst eM
    have cq4_ : (1 : Int) ≤ n.toInt ∧ n.toInt ≤ (9 : Int) := cq4_
    refine jif_ne (tgt := 13) hx hb dX10_graces_7 (by decide) (fun cq6_ => ?_) (fun cq6_ => absurd cq6_ (by decide))
    refine lv_aload_n hx hb dX10_graces_13 rfl (lv_at hl 0 rfl) ?_
    refine xg hC hK hH flX10_7 hc_h rfl dX10_graces_14 ?_
    refine lv_iconst (v := 2) hx hb dX10_graces_17 (by decide) ?_
    refine lv_iload_n hx hb dX10_graces_18 rfl (lv_at hl 1 rfl) ?_
    refine yist (x := n) hC hK hH hc_al (iIn (by decide) (by decide)) dX10_graces_19 (fun Hq_ lcq_ Mq7_ hc_al hfr hH => ?_)
    have hc_al : Mq7_ al = some (.inl (kA 0, 7506, .inl (upd f (Int32.toNatClampNeg 2) n))) := hc_al
    have hc_h : Mq7_ h = some (.inr (8, [.ref al, .ref mt, .ref ii, .int 0, .int (-1), .ref pa, .int 0, .int 0, .int 0, .int 0, .int 0, .long 0, .int 0, .ref li])) := (hfr h n_h_al).trans hc_h
    have hF : ∀ q, q ≠ al → Mq7_ q = M q := fun q h0 => (hfr q h0).trans (hF q h0)
    refine lv_iconst (v := 0) hx hb dX10_graces_20 (by decide) ?_
    exact ret_i hC hr hlk hK hH (⟨_, fun j hj => ((pk_un (by have : Int32.toNatClampNeg 2 = 2 := rfl; omega)).trans rfl), Or.inl (⟨by omega, rfl, hc_al⟩), rfl, hF⟩) (Nat.le_of_ble_eq_true rfl) (Nat.le_of_ble_eq_true rfl) dX10_graces_21
  · skip
    have eT := eT.symm; subst eT
    have eM := eM.symm; subst eM
    have cq5_ : ¬ ((1 : Int) ≤ n.toInt ∧ n.toInt ≤ (9 : Int)) := cq5_
    refine jif_ne (tgt := 13) hx hb dX10_graces_7 (by decide) (fun cq8_ => absurd cq8_ (by decide)) (fun cq8_ => ?_)
    refine lv_bipush (v := 30) hx hb dX10_graces_10 (by decide) ?_
    exact ret_i hC hr hlk hK hH (⟨_, fun j hj => rfl, Or.inr (⟨by omega, rfl, hc_al⟩), rfl, hF⟩) (Nat.le_of_ble_eq_true rfl) (Nat.le_of_ble_eq_true rfl) dX10_graces_12
set_option maxHeartbeats 4000000 in
set_option maxRecDepth 100000 in
theorem c_X10_accepts {l : Launch} {D : va_G} {kA : Nat → ClassId} {M : mM} {T : mT} {sz : Nat} {h al mt ii pa li : Nat} {f : Nat → Int32} {b : Int32} (hc_h : M h = some (.inr (8, [.ref al, .ref mt, .ref ii, .int 0, .int (-1), .ref pa, .int 0, .int 0, .int 0, .int 0, .int 0, .long 0, .int 0, .ref li]))) (hc_al : M al = some (.inl (kA 0, 7506, .inl f))) (hfi : ∀ j, j < 1140 → f j = mIni j) : mCi l yX10_accepts cX10_accepts 3 (some .int) 2 0 0 D kA M T sz [.ref h, .int b] (fun r u => (r = 30) ∧ u.2 = T ∧ u.1 = M) := by
  unfold mCi
  refine start_W (by decide) (Nat.le_of_ble_eq_true rfl) ?_
  intro p e s m below meth c ls hC hr hlk hnm hK hH hsz hl
  have hx := hC.1
  have hb := hC.2.1
  have hl : lv_has ls 3 [(0, .ref h), (1, .int b)] := hl
  have n_h_al : h ≠ al := neM hc_h hc_al (by simp)
  have n_al_h : al ≠ h := neM hc_al hc_h (by simp)
  refine lv_aload_n hx hb dX10_accepts_0 rfl (lv_at hl 0 rfl) ?_
  refine lv_iload_n hx hb dX10_accepts_1 rfl (lv_at hl 1 rfl) ?_
  refine goI hK hH (runV (As := [.int b]) (rest := []) hC hK hH (c_X10_isBill hc_h hc_al hfi) mlX10_116 (rcvM hK hH hc_h rfl) ⟨⟨Nat.le_of_ble_eq_true rfl, Nat.le_of_ble_eq_true rfl⟩, Nat.le_of_ble_eq_true rfl, Nat.le_of_ble_eq_true rfl⟩ rfl hl.1 rfl (Nat.le_of_ble_eq_true rfl) dX10_accepts_2) (fun rq3_ Mq1_ Tq2_ Hq_ lcq_ hP hz hH => ?_)
  try dsimp only at hP
  obtain ⟨(rfl), eT, eM⟩ := hP
  have eT := eT.symm; subst eT
  have eM := eM.symm; subst eM
  refine jif_ne (tgt := 11) hx hb dX10_accepts_5 (by decide) (fun cq4_ => absurd cq4_ (by decide)) (fun cq4_ => ?_)
  refine lv_bipush (v := 30) hx hb dX10_accepts_8 (by decide) ?_
  exact ret_i hC hr hlk hK hH (⟨rfl, rfl, rfl⟩) (Nat.le_of_ble_eq_true rfl) (Nat.le_of_ble_eq_true rfl) dX10_accepts_10
set_option maxHeartbeats 4000000 in
set_option maxRecDepth 100000 in
theorem c_X10_stepReason {l : Launch} {D : va_G} {kA : Nat → ClassId} {M : mM} {T : mT} {sz : Nat} {h al mt ii pa li : Nat} {f : Nat → Int32} {b to va : Int32} (hc_h : M h = some (.inr (8, [.ref al, .ref mt, .ref ii, .int 0, .int (-1), .ref pa, .int 0, .int 0, .int 0, .int 0, .int 0, .long 0, .int 0, .ref li]))) (hc_al : M al = some (.inl (kA 0, 7506, .inl f))) (hfi : ∀ j, j < 1140 → f j = mIni j) : mCi l yX10_stepReason cX10_stepReason 5 (some .int) 2 0 0 D kA M T sz [.ref h, .int b, .int to, .int va] (fun r u => (r = 30) ∧ u.2 = T ∧ u.1 = M) := by
  unfold mCi
  refine start_W (by decide) (Nat.le_of_ble_eq_true rfl) ?_
  intro p e s m below meth c ls hC hr hlk hnm hK hH hsz hl
  have hx := hC.1
  have hb := hC.2.1
  have hl : lv_has ls 5 [(0, .ref h), (1, .int b), (2, .int to), (3, .int va)] := hl
  have n_h_al : h ≠ al := neM hc_h hc_al (by simp)
  have n_al_h : al ≠ h := neM hc_al hc_h (by simp)
  refine lv_aload_n hx hb dX10_stepReason_0 rfl (lv_at hl 0 rfl) ?_
  refine lv_iload_n hx hb dX10_stepReason_1 rfl (lv_at hl 1 rfl) ?_
  refine goI hK hH (runV (As := [.int b]) (rest := []) hC hK hH (c_X10_isBill hc_h hc_al hfi) mlX10_116 (rcvM hK hH hc_h rfl) ⟨⟨Nat.le_of_ble_eq_true rfl, Nat.le_of_ble_eq_true rfl⟩, Nat.le_of_ble_eq_true rfl, Nat.le_of_ble_eq_true rfl⟩ rfl hl.1 rfl (Nat.le_of_ble_eq_true rfl) dX10_stepReason_2) (fun rq3_ Mq1_ Tq2_ Hq_ lcq_ hP hz hH => ?_)
  try dsimp only at hP
  obtain ⟨(rfl), eT, eM⟩ := hP
  have eT := eT.symm; subst eT
  have eM := eM.symm; subst eM
  refine jif_eq (tgt := 26) hx hb dX10_stepReason_5 (by decide) (fun cq4_ => ?_) (fun cq4_ => absurd cq4_ (by decide))
  refine lv_bipush (v := 30) hx hb dX10_stepReason_26 (by decide) ?_
  exact ret_i hC hr hlk hK hH (⟨rfl, rfl, rfl⟩) (Nat.le_of_ble_eq_true rfl) (Nat.le_of_ble_eq_true rfl) dX10_stepReason_28
set_option maxHeartbeats 4000000 in
set_option maxRecDepth 100000 in
theorem c_X10_passes {l : Launch} {D : va_G} {kA : Nat → ClassId} {M : mM} {T : mT} {sz : Nat} {h al mt ii pa li : Nat} {f : Nat → Int32} {b so wi to va no : Int32} (hc_h : M h = some (.inr (8, [.ref al, .ref mt, .ref ii, .int 0, .int (-1), .ref pa, .int 0, .int 0, .int 0, .int 0, .int 0, .long 0, .int 0, .ref li]))) (hc_al : M al = some (.inl (kA 0, 7506, .inl f))) (hfi : ∀ j, j < 1140 → f j = mIni j) : mCi l yX10_passes cX10_passes 9 (some .int) 3 0 0 D kA M T sz [.ref h, .int b, .int so, .int wi, .int to, .int va, .int no] (fun r u => (r = 30) ∧ u.2 = T ∧ u.1 = M) := by
  unfold mCi
  refine start_W (by decide) (Nat.le_of_ble_eq_true rfl) ?_
  intro p e s m below meth c ls hC hr hlk hnm hK hH hsz hl
  have hx := hC.1
  have hb := hC.2.1
  have hl : lv_has ls 9 [(0, .ref h), (1, .int b), (2, .int so), (3, .int wi), (4, .int to), (5, .int va), (6, .int no)] := hl
  have n_h_al : h ≠ al := neM hc_h hc_al (by simp)
  have n_al_h : al ≠ h := neM hc_al hc_h (by simp)
  refine lv_iload_n hx hb dX10_passes_0 rfl (lv_at hl 2 rfl) ?_
  refine lv_iconst (v := 0) hx hb dX10_passes_1 (by decide) ?_
  refine lv_iconst (v := 3) hx hb dX10_passes_2 (by decide) ?_
  refine goI hK hH (runS (As := [.int so, .int 0, .int 3]) (rest := []) hC hK hH (c_X10_isIn) mlX10_33 ⟨⟨Nat.le_of_ble_eq_true rfl, Nat.le_of_ble_eq_true rfl⟩, Nat.le_of_ble_eq_true rfl, Nat.le_of_ble_eq_true rfl⟩ rfl hl.1 rfl (Nat.le_of_ble_eq_true rfl) dX10_passes_3) (fun rq3_ Mq1_ Tq2_ Hq_ lcq_ hP hz hH => ?_)
  try dsimp only at hP
  obtain ⟨(⟨cq4_, rfl⟩ | ⟨cq5_, rfl⟩), eT, eM⟩ := hP
  · skip
    have eT := eT.symm; subst eT
    have eM := eM.symm; subst eM
    have cq4_ : (0 : Int) ≤ so.toInt ∧ so.toInt ≤ (3 : Int) := cq4_
    refine jif_eq (tgt := 18) hx hb dX10_passes_6 (by decide) (fun cq6_ => absurd cq6_ (by decide)) (fun cq6_ => ?_)
    refine lv_iload_n hx hb dX10_passes_9 rfl (lv_at hl 3 rfl) ?_
    refine jif_eq (tgt := 21) hx hb dX10_passes_10 (by decide) (fun cq7_ => ?_) (fun cq7_ => ?_)
    · skip
      have cq7_ : wi.toInt = 0 := cq7_
      refine lv_aload_n hx hb dX10_passes_21 rfl (lv_at hl 0 rfl) ?_
      refine lv_iload_n hx hb dX10_passes_22 rfl (lv_at hl 1 rfl) ?_
      refine lv_iload hx hb dX10_passes_23 (lv_at hl 4 rfl) ?_
      refine lv_iload hx hb dX10_passes_25 (lv_at hl 5 rfl) ?_
      refine goI hK hH (runV (As := [.int b, .int to, .int va]) (rest := []) hC hK hH (c_X10_stepReason hc_h hc_al hfi) mlX10_122 (rcvM hK hH hc_h rfl) ⟨⟨Nat.le_of_ble_eq_true rfl, Nat.le_of_ble_eq_true rfl⟩, Nat.le_of_ble_eq_true rfl, Nat.le_of_ble_eq_true rfl⟩ rfl hl.1 rfl (Nat.le_of_ble_eq_true rfl) dX10_passes_27) (fun rq10_ Mq8_ Tq9_ Hq_ lcq_ hP hz hH => ?_)
      try dsimp only at hP
      obtain ⟨(rfl), eT, eM⟩ := hP
      have eT := eT.symm; subst eT
      have eM := eM.symm; subst eM
      refine lv_istore (lv' := [(7, .int 30), (0, .ref h), (1, .int b), (2, .int so), (3, .int wi), (4, .int to), (5, .int va), (6, .int no)]) hx hb dX10_passes_30 hl (by decide) rfl (fun ls hl => ?_)
      refine lv_iload hx hb dX10_passes_32 (lv_at hl 0 rfl) ?_
      refine jif_le (tgt := 40) hx hb dX10_passes_34 (by decide) (fun cq11_ => absurd cq11_ (by decide)) (fun cq11_ => ?_)
      refine lv_iload hx hb dX10_passes_37 (lv_at hl 0 rfl) ?_
      exact ret_i hC hr hlk hK hH (⟨rfl, rfl, rfl⟩) (Nat.le_of_ble_eq_true rfl) (Nat.le_of_ble_eq_true rfl) dX10_passes_39
    · skip
      have cq7_ : wi.toInt ≠ 0 := cq7_
      refine lv_iload_n hx hb dX10_passes_13 rfl (lv_at hl 2 rfl) ?_
      refine lv_iconst (v := 3) hx hb dX10_passes_14 (by decide) ?_
      refine jic_ne (tgt := 21) hx hb dX10_passes_15 (by decide) (fun cq12_ => ?_) (fun cq12_ => ?_)
      · skip
        have cq12_ : so.toInt ≠ 3 := cq12_
        refine lv_aload_n hx hb dX10_passes_21 rfl (lv_at hl 0 rfl) ?_
        refine lv_iload_n hx hb dX10_passes_22 rfl (lv_at hl 1 rfl) ?_
        refine lv_iload hx hb dX10_passes_23 (lv_at hl 4 rfl) ?_
        refine lv_iload hx hb dX10_passes_25 (lv_at hl 5 rfl) ?_
        refine goI hK hH (runV (As := [.int b, .int to, .int va]) (rest := []) hC hK hH (c_X10_stepReason hc_h hc_al hfi) mlX10_122 (rcvM hK hH hc_h rfl) ⟨⟨Nat.le_of_ble_eq_true rfl, Nat.le_of_ble_eq_true rfl⟩, Nat.le_of_ble_eq_true rfl, Nat.le_of_ble_eq_true rfl⟩ rfl hl.1 rfl (Nat.le_of_ble_eq_true rfl) dX10_passes_27) (fun rq15_ Mq13_ Tq14_ Hq_ lcq_ hP hz hH => ?_)
        try dsimp only at hP
        obtain ⟨(rfl), eT, eM⟩ := hP
        have eT := eT.symm; subst eT
        have eM := eM.symm; subst eM
        refine lv_istore (lv' := [(7, .int 30), (0, .ref h), (1, .int b), (2, .int so), (3, .int wi), (4, .int to), (5, .int va), (6, .int no)]) hx hb dX10_passes_30 hl (by decide) rfl (fun ls hl => ?_)
        refine lv_iload hx hb dX10_passes_32 (lv_at hl 0 rfl) ?_
        refine jif_le (tgt := 40) hx hb dX10_passes_34 (by decide) (fun cq16_ => absurd cq16_ (by decide)) (fun cq16_ => ?_)
        refine lv_iload hx hb dX10_passes_37 (lv_at hl 0 rfl) ?_
        exact ret_i hC hr hlk hK hH (⟨rfl, rfl, rfl⟩) (Nat.le_of_ble_eq_true rfl) (Nat.le_of_ble_eq_true rfl) dX10_passes_39
      · skip
        have cq12_ : so.toInt = 3 := cq12_
        refine lv_bipush (v := 30) hx hb dX10_passes_18 (by decide) ?_
        exact ret_i hC hr hlk hK hH (⟨rfl, rfl, rfl⟩) (Nat.le_of_ble_eq_true rfl) (Nat.le_of_ble_eq_true rfl) dX10_passes_20
  · skip
    have eT := eT.symm; subst eT
    have eM := eM.symm; subst eM
    have cq5_ : ¬ ((0 : Int) ≤ so.toInt ∧ so.toInt ≤ (3 : Int)) := cq5_
    refine jif_eq (tgt := 18) hx hb dX10_passes_6 (by decide) (fun cq17_ => ?_) (fun cq17_ => absurd cq17_ (by decide))
    refine lv_bipush (v := 30) hx hb dX10_passes_18 (by decide) ?_
    exact ret_i hC hr hlk hK hH (⟨rfl, rfl, rfl⟩) (Nat.le_of_ble_eq_true rfl) (Nat.le_of_ble_eq_true rfl) dX10_passes_20
set_option maxHeartbeats 4000000 in
set_option maxRecDepth 100000 in
theorem c_X10_forges {l : Launch} {D : va_G} {kA : Nat → ClassId} {M : mM} {T : mT} {sz : Nat} {h al mt ii pa li : Nat} {f : Nat → Int32} {b nm to va no : Int32} (hc_h : M h = some (.inr (8, [.ref al, .ref mt, .ref ii, .int 0, .int (-1), .ref pa, .int 0, .int 0, .int 0, .int 0, .int 0, .long 0, .int 0, .ref li]))) (hc_al : M al = some (.inl (kA 0, 7506, .inl f))) (hfi : ∀ j, j < 1140 → f j = mIni j) : mCi l yX10_forges cX10_forges 8 (some .int) 3 0 0 D kA M T sz [.ref h, .int b, .int nm, .int to, .int va, .int no] (fun r u => (r = 30) ∧ u.2 = T ∧ u.1 = M) := by
  unfold mCi
  refine start_W (by decide) (Nat.le_of_ble_eq_true rfl) ?_
  intro p e s m below meth c ls hC hr hlk hnm hK hH hsz hl
  have hx := hC.1
  have hb := hC.2.1
  have hl : lv_has ls 8 [(0, .ref h), (1, .int b), (2, .int nm), (3, .int to), (4, .int va), (5, .int no)] := hl
  have n_h_al : h ≠ al := neM hc_h hc_al (by simp)
  have n_al_h : al ≠ h := neM hc_al hc_h (by simp)
  refine lv_aload_n hx hb dX10_forges_0 rfl (lv_at hl 0 rfl) ?_
  refine lv_iload_n hx hb dX10_forges_1 rfl (lv_at hl 1 rfl) ?_
  refine goI hK hH (runV (As := [.int b]) (rest := []) hC hK hH (c_X10_isBill hc_h hc_al hfi) mlX10_116 (rcvM hK hH hc_h rfl) ⟨⟨Nat.le_of_ble_eq_true rfl, Nat.le_of_ble_eq_true rfl⟩, Nat.le_of_ble_eq_true rfl, Nat.le_of_ble_eq_true rfl⟩ rfl hl.1 rfl (Nat.le_of_ble_eq_true rfl) dX10_forges_2) (fun rq3_ Mq1_ Tq2_ Hq_ lcq_ hP hz hH => ?_)
  try dsimp only at hP
  obtain ⟨(rfl), eT, eM⟩ := hP
  have eT := eT.symm; subst eT
  have eM := eM.symm; subst eM
  refine jif_eq (tgt := 32) hx hb dX10_forges_5 (by decide) (fun cq4_ => ?_) (fun cq4_ => absurd cq4_ (by decide))
  refine lv_bipush (v := 30) hx hb dX10_forges_32 (by decide) ?_
  exact ret_i hC hr hlk hK hH (⟨rfl, rfl, rfl⟩) (Nat.le_of_ble_eq_true rfl) (Nat.le_of_ble_eq_true rfl) dX10_forges_34
set_option maxHeartbeats 4000000 in
set_option maxRecDepth 100000 in
theorem c_X10_finds {l : Launch} {D : va_G} {kA : Nat → ClassId} {M : mM} {T : mT} {sz : Nat} {h al mt ii pa li : Nat} {f : Nat → Int32} {b by_ : Int32} (hc_h : M h = some (.inr (8, [.ref al, .ref mt, .ref ii, .int 0, .int (-1), .ref pa, .int 0, .int 0, .int 0, .int 0, .int 0, .long 0, .int 0, .ref li]))) (hc_al : M al = some (.inl (kA 0, 7506, .inl f))) (hfi : ∀ j, j < 1140 → f j = mIni j) : mCi l yX10_finds cX10_finds 4 (some .int) 3 0 0 D kA M T sz [.ref h, .int b, .int by_] (fun r u => (r = 30) ∧ u.2 = T ∧ u.1 = M) := by
  unfold mCi
  refine start_W (by decide) (Nat.le_of_ble_eq_true rfl) ?_
  intro p e s m below meth c ls hC hr hlk hnm hK hH hsz hl
  have hx := hC.1
  have hb := hC.2.1
  have hl : lv_has ls 4 [(0, .ref h), (1, .int b), (2, .int by_)] := hl
  have n_h_al : h ≠ al := neM hc_h hc_al (by simp)
  have n_al_h : al ≠ h := neM hc_al hc_h (by simp)
  refine lv_aload_n hx hb dX10_finds_0 rfl (lv_at hl 0 rfl) ?_
  refine lv_iload_n hx hb dX10_finds_1 rfl (lv_at hl 1 rfl) ?_
  refine lv_iload_n hx hb dX10_finds_2 rfl (lv_at hl 2 rfl) ?_
  refine lv_iconst (v := 0) hx hb dX10_finds_3 (by decide) ?_
  refine goI hK hH (runV (As := [.int b, .int by_, .int 0]) (rest := []) hC hK hH (c_X10_stepReason hc_h hc_al hfi) mlX10_122 (rcvM hK hH hc_h rfl) ⟨⟨Nat.le_of_ble_eq_true rfl, Nat.le_of_ble_eq_true rfl⟩, Nat.le_of_ble_eq_true rfl, Nat.le_of_ble_eq_true rfl⟩ rfl hl.1 rfl (Nat.le_of_ble_eq_true rfl) dX10_finds_4) (fun rq3_ Mq1_ Tq2_ Hq_ lcq_ hP hz hH => ?_)
  try dsimp only at hP
  obtain ⟨(rfl), eT, eM⟩ := hP
  have eT := eT.symm; subst eT
  have eM := eM.symm; subst eM
  refine lv_istore_n (lv' := [(3, .int 30), (0, .ref h), (1, .int b), (2, .int by_)]) hx hb dX10_finds_7 rfl hl (by decide) rfl (fun ls hl => ?_)
  refine lv_iload_n hx hb dX10_finds_8 rfl (lv_at hl 0 rfl) ?_
  refine jif_le (tgt := 16) hx hb dX10_finds_9 (by decide) (fun cq4_ => absurd cq4_ (by decide)) (fun cq4_ => ?_)
  refine lv_iload_n hx hb dX10_finds_12 rfl (lv_at hl 0 rfl) ?_
  refine lv_goto (tgt := 33) hx hb dX10_finds_13 (by decide) ?_
  exact ret_i hC hr hlk hK hH (⟨rfl, rfl, rfl⟩) (Nat.le_of_ble_eq_true rfl) (Nat.le_of_ble_eq_true rfl) dX10_finds_33
set_option maxHeartbeats 4000000 in
set_option maxRecDepth 100000 in
theorem c_X10_isSigned {l : Launch} {D : va_G} {kA : Nat → ClassId} {M : mM} {T : mT} {sz : Nat} {h al mt ii pa li : Nat} {f : Nat → Int32} {b pt : Int32} (hc_h : M h = some (.inr (8, [.ref al, .ref mt, .ref ii, .int 0, .int (-1), .ref pa, .int 0, .int 0, .int 0, .int 0, .int 0, .long 0, .int 0, .ref li]))) (hc_al : M al = some (.inl (kA 0, 7506, .inl f))) (hfi : ∀ j, j < 1140 → f j = mIni j) : mCi l yX10_isSigned cX10_isSigned 3 (some .boolean) 2 0 0 D kA M T sz [.ref h, .int b, .int pt] (fun r u => (r = 0) ∧ u.2 = T ∧ u.1 = M) := by
  unfold mCi
  refine start_W (by decide) (Nat.le_of_ble_eq_true rfl) ?_
  intro p e s m below meth c ls hC hr hlk hnm hK hH hsz hl
  have hx := hC.1
  have hb := hC.2.1
  have hl : lv_has ls 3 [(0, .ref h), (1, .int b), (2, .int pt)] := hl
  have n_h_al : h ≠ al := neM hc_h hc_al (by simp)
  have n_al_h : al ≠ h := neM hc_al hc_h (by simp)
  refine lv_aload_n hx hb dX10_isSigned_0 rfl (lv_at hl 0 rfl) ?_
  refine lv_iload_n hx hb dX10_isSigned_1 rfl (lv_at hl 1 rfl) ?_
  refine goI hK hH (runV (As := [.int b]) (rest := []) hC hK hH (c_X10_isBill hc_h hc_al hfi) mlX10_116 (rcvM hK hH hc_h rfl) ⟨⟨Nat.le_of_ble_eq_true rfl, Nat.le_of_ble_eq_true rfl⟩, Nat.le_of_ble_eq_true rfl, Nat.le_of_ble_eq_true rfl⟩ rfl hl.1 rfl (Nat.le_of_ble_eq_true rfl) dX10_isSigned_2) (fun rq3_ Mq1_ Tq2_ Hq_ lcq_ hP hz hH => ?_)
  try dsimp only at hP
  obtain ⟨(rfl), eT, eM⟩ := hP
  have eT := eT.symm; subst eT
  have eM := eM.symm; subst eM
  refine jif_eq (tgt := 38) hx hb dX10_isSigned_5 (by decide) (fun cq4_ => ?_) (fun cq4_ => absurd cq4_ (by decide))
  refine lv_iconst (v := 0) hx hb dX10_isSigned_38 (by decide) ?_
  exact ret_z hC hr hlk hK hH (by first | exact Or.inl rfl | exact Or.inr rfl | assumption) (⟨rfl, rfl, rfl⟩) (Nat.le_of_ble_eq_true rfl) (Nat.le_of_ble_eq_true rfl) dX10_isSigned_39
set_option maxHeartbeats 4000000 in
set_option maxRecDepth 100000 in
theorem c_X10_defends {l : Launch} {D : va_G} {kA : Nat → ClassId} {M : mM} {T : mT} {sz : Nat} {h al mt ii pa li : Nat} {f : Nat → Int32} {b pt re : Int32} (hc_h : M h = some (.inr (8, [.ref al, .ref mt, .ref ii, .int 0, .int (-1), .ref pa, .int 0, .int 0, .int 0, .int 0, .int 0, .long 0, .int 0, .ref li]))) (hc_al : M al = some (.inl (kA 0, 7506, .inl f))) (hfi : ∀ j, j < 1140 → f j = mIni j) : mCi l yX10_defends cX10_defends 6 (some .int) 3 0 0 D kA M T sz [.ref h, .int b, .int pt, .int re] (fun r u => (r = 30) ∧ u.2 = T ∧ u.1 = M) := by
  unfold mCi
  refine start_W (by decide) (Nat.le_of_ble_eq_true rfl) ?_
  intro p e s m below meth c ls hC hr hlk hnm hK hH hsz hl
  have hx := hC.1
  have hb := hC.2.1
  have hl : lv_has ls 6 [(0, .ref h), (1, .int b), (2, .int pt), (3, .int re)] := hl
  have n_h_al : h ≠ al := neM hc_h hc_al (by simp)
  have n_al_h : al ≠ h := neM hc_al hc_h (by simp)
  refine lv_aload_n hx hb dX10_defends_0 rfl (lv_at hl 0 rfl) ?_
  refine lv_iload_n hx hb dX10_defends_1 rfl (lv_at hl 1 rfl) ?_
  refine lv_iload_n hx hb dX10_defends_2 rfl (lv_at hl 2 rfl) ?_
  refine goI hK hH (runV (As := [.int b, .int pt]) (rest := []) hC hK hH (c_X10_isSigned hc_h hc_al hfi) mlX10_143 (rcvM hK hH hc_h rfl) ⟨⟨Nat.le_of_ble_eq_true rfl, Nat.le_of_ble_eq_true rfl⟩, Nat.le_of_ble_eq_true rfl, Nat.le_of_ble_eq_true rfl⟩ rfl hl.1 rfl (Nat.le_of_ble_eq_true rfl) dX10_defends_3) (fun rq3_ Mq1_ Tq2_ Hq_ lcq_ hP hz hH => ?_)
  try dsimp only at hP
  obtain ⟨(rfl), eT, eM⟩ := hP
  have eT := eT.symm; subst eT
  have eM := eM.symm; subst eM
  refine jif_ne (tgt := 12) hx hb dX10_defends_6 (by decide) (fun cq4_ => absurd cq4_ (by decide)) (fun cq4_ => ?_)
  refine lv_bipush (v := 30) hx hb dX10_defends_9 (by decide) ?_
  exact ret_i hC hr hlk hK hH (⟨rfl, rfl, rfl⟩) (Nat.le_of_ble_eq_true rfl) (Nat.le_of_ble_eq_true rfl) dX10_defends_11
set_option maxHeartbeats 4000000 in
set_option maxRecDepth 100000 in
theorem c_X10_presents {l : Launch} {D : va_G} {kA : Nat → ClassId} {M : mM} {T : mT} {sz : Nat} {h al mt ii pa li : Nat} {f : Nat → Int32} {b : Int32} (hc_h : M h = some (.inr (8, [.ref al, .ref mt, .ref ii, .int 0, .int (-1), .ref pa, .int 0, .int 0, .int 0, .int 0, .int 0, .long 0, .int 0, .ref li]))) (hc_al : M al = some (.inl (kA 0, 7506, .inl f))) (hfi : ∀ j, j < 1140 → f j = mIni j) : mCi l yX10_presents cX10_presents 3 (some .int) 2 0 0 D kA M T sz [.ref h, .int b] (fun r u => (r = 30) ∧ u.2 = T ∧ u.1 = M) := by
  unfold mCi
  refine start_W (by decide) (Nat.le_of_ble_eq_true rfl) ?_
  intro p e s m below meth c ls hC hr hlk hnm hK hH hsz hl
  have hx := hC.1
  have hb := hC.2.1
  have hl : lv_has ls 3 [(0, .ref h), (1, .int b)] := hl
  have n_h_al : h ≠ al := neM hc_h hc_al (by simp)
  have n_al_h : al ≠ h := neM hc_al hc_h (by simp)
  refine lv_aload_n hx hb dX10_presents_0 rfl (lv_at hl 0 rfl) ?_
  refine lv_iload_n hx hb dX10_presents_1 rfl (lv_at hl 1 rfl) ?_
  refine goI hK hH (runV (As := [.int b]) (rest := []) hC hK hH (c_X10_isBill hc_h hc_al hfi) mlX10_116 (rcvM hK hH hc_h rfl) ⟨⟨Nat.le_of_ble_eq_true rfl, Nat.le_of_ble_eq_true rfl⟩, Nat.le_of_ble_eq_true rfl, Nat.le_of_ble_eq_true rfl⟩ rfl hl.1 rfl (Nat.le_of_ble_eq_true rfl) dX10_presents_2) (fun rq3_ Mq1_ Tq2_ Hq_ lcq_ hP hz hH => ?_)
  try dsimp only at hP
  obtain ⟨(rfl), eT, eM⟩ := hP
  have eT := eT.symm; subst eT
  have eM := eM.symm; subst eM
  refine jif_ne (tgt := 11) hx hb dX10_presents_5 (by decide) (fun cq4_ => absurd cq4_ (by decide)) (fun cq4_ => ?_)
  refine lv_bipush (v := 30) hx hb dX10_presents_8 (by decide) ?_
  exact ret_i hC hr hlk hK hH (⟨rfl, rfl, rfl⟩) (Nat.le_of_ble_eq_true rfl) (Nat.le_of_ble_eq_true rfl) dX10_presents_10
set_option maxHeartbeats 4000000 in
set_option maxRecDepth 100000 in
theorem c_X10_notifies {l : Launch} {D : va_G} {kA : Nat → ClassId} {M : mM} {T : mT} {sz : Nat} {h al mt ii pa li : Nat} {f : Nat → Int32} {b fr to : Int32} (hc_h : M h = some (.inr (8, [.ref al, .ref mt, .ref ii, .int 0, .int (-1), .ref pa, .int 0, .int 0, .int 0, .int 0, .int 0, .long 0, .int 0, .ref li]))) (hc_al : M al = some (.inl (kA 0, 7506, .inl f))) (hfi : ∀ j, j < 1140 → f j = mIni j) : mCi l yX10_notifies cX10_notifies 6 (some .int) 3 0 0 D kA M T sz [.ref h, .int b, .int fr, .int to] (fun r u => (r = 30) ∧ u.2 = T ∧ u.1 = M) := by
  unfold mCi
  refine start_W (by decide) (Nat.le_of_ble_eq_true rfl) ?_
  intro p e s m below meth c ls hC hr hlk hnm hK hH hsz hl
  have hx := hC.1
  have hb := hC.2.1
  have hl : lv_has ls 6 [(0, .ref h), (1, .int b), (2, .int fr), (3, .int to)] := hl
  have n_h_al : h ≠ al := neM hc_h hc_al (by simp)
  have n_al_h : al ≠ h := neM hc_al hc_h (by simp)
  refine lv_aload_n hx hb dX10_notifies_0 rfl (lv_at hl 0 rfl) ?_
  refine lv_iload_n hx hb dX10_notifies_1 rfl (lv_at hl 1 rfl) ?_
  refine lv_iload_n hx hb dX10_notifies_2 rfl (lv_at hl 3 rfl) ?_
  refine goI hK hH (runV (As := [.int b, .int to]) (rest := []) hC hK hH (c_X10_isSigned hc_h hc_al hfi) mlX10_143 (rcvM hK hH hc_h rfl) ⟨⟨Nat.le_of_ble_eq_true rfl, Nat.le_of_ble_eq_true rfl⟩, Nat.le_of_ble_eq_true rfl, Nat.le_of_ble_eq_true rfl⟩ rfl hl.1 rfl (Nat.le_of_ble_eq_true rfl) dX10_notifies_3) (fun rq3_ Mq1_ Tq2_ Hq_ lcq_ hP hz hH => ?_)
  try dsimp only at hP
  obtain ⟨(rfl), eT, eM⟩ := hP
  have eT := eT.symm; subst eT
  have eM := eM.symm; subst eM
  refine jif_eq (tgt := 13) hx hb dX10_notifies_6 (by decide) (fun cq4_ => ?_) (fun cq4_ => absurd cq4_ (by decide))
  refine lv_bipush (v := 30) hx hb dX10_notifies_13 (by decide) ?_
  exact ret_i hC hr hlk hK hH (⟨rfl, rfl, rfl⟩) (Nat.le_of_ble_eq_true rfl) (Nat.le_of_ble_eq_true rfl) dX10_notifies_15
set_option maxHeartbeats 4000000 in
set_option maxRecDepth 100000 in
theorem c_X10_releases {l : Launch} {D : va_G} {kA : Nat → ClassId} {M : mM} {T : mT} {sz : Nat} {h al mt ii pa li : Nat} {f : Nat → Int32} {b pt : Int32} (hc_h : M h = some (.inr (8, [.ref al, .ref mt, .ref ii, .int 0, .int (-1), .ref pa, .int 0, .int 0, .int 0, .int 0, .int 0, .long 0, .int 0, .ref li]))) (hc_al : M al = some (.inl (kA 0, 7506, .inl f))) (hfi : ∀ j, j < 1140 → f j = mIni j) : mCi l yX10_releases cX10_releases 4 (some .int) 3 0 0 D kA M T sz [.ref h, .int b, .int pt] (fun r u => (r = 30) ∧ u.2 = T ∧ u.1 = M) := by
  unfold mCi
  refine start_W (by decide) (Nat.le_of_ble_eq_true rfl) ?_
  intro p e s m below meth c ls hC hr hlk hnm hK hH hsz hl
  have hx := hC.1
  have hb := hC.2.1
  have hl : lv_has ls 4 [(0, .ref h), (1, .int b), (2, .int pt)] := hl
  have n_h_al : h ≠ al := neM hc_h hc_al (by simp)
  have n_al_h : al ≠ h := neM hc_al hc_h (by simp)
  refine lv_aload_n hx hb dX10_releases_0 rfl (lv_at hl 0 rfl) ?_
  refine lv_iload_n hx hb dX10_releases_1 rfl (lv_at hl 1 rfl) ?_
  refine lv_iload_n hx hb dX10_releases_2 rfl (lv_at hl 2 rfl) ?_
  refine goI hK hH (runV (As := [.int b, .int pt]) (rest := []) hC hK hH (c_X10_isSigned hc_h hc_al hfi) mlX10_143 (rcvM hK hH hc_h rfl) ⟨⟨Nat.le_of_ble_eq_true rfl, Nat.le_of_ble_eq_true rfl⟩, Nat.le_of_ble_eq_true rfl, Nat.le_of_ble_eq_true rfl⟩ rfl hl.1 rfl (Nat.le_of_ble_eq_true rfl) dX10_releases_3) (fun rq3_ Mq1_ Tq2_ Hq_ lcq_ hP hz hH => ?_)
  try dsimp only at hP
  obtain ⟨(rfl), eT, eM⟩ := hP
  have eT := eT.symm; subst eT
  have eM := eM.symm; subst eM
  refine jif_ne (tgt := 12) hx hb dX10_releases_6 (by decide) (fun cq4_ => absurd cq4_ (by decide)) (fun cq4_ => ?_)
  refine lv_bipush (v := 30) hx hb dX10_releases_9 (by decide) ?_
  exact ret_i hC hr hlk hK hH (⟨rfl, rfl, rfl⟩) (Nat.le_of_ble_eq_true rfl) (Nat.le_of_ble_eq_true rfl) dX10_releases_11
set_option maxHeartbeats 4000000 in
set_option maxRecDepth 100000 in
theorem c_X10_paysNow {l : Launch} {D : va_G} {kA : Nat → ClassId} {M : mM} {T : mT} {sz : Nat} {h al mt ii pa li : Nat} {f : Nat → Int32} {b pt : Int32} (hc_h : M h = some (.inr (8, [.ref al, .ref mt, .ref ii, .int 0, .int (-1), .ref pa, .int 0, .int 0, .int 0, .int 0, .int 0, .long 0, .int 0, .ref li]))) (hc_al : M al = some (.inl (kA 0, 7506, .inl f))) (hfi : ∀ j, j < 1140 → f j = mIni j) : mCi l yX10_paysNow cX10_paysNow 3 (some .int) 2 0 0 D kA M T sz [.ref h, .int b, .int pt] (fun r u => (r = 30) ∧ u.2 = T ∧ u.1 = M) := by
  unfold mCi
  refine start_W (by decide) (Nat.le_of_ble_eq_true rfl) ?_
  intro p e s m below meth c ls hC hr hlk hnm hK hH hsz hl
  have hx := hC.1
  have hb := hC.2.1
  have hl : lv_has ls 3 [(0, .ref h), (1, .int b), (2, .int pt)] := hl
  have n_h_al : h ≠ al := neM hc_h hc_al (by simp)
  have n_al_h : al ≠ h := neM hc_al hc_h (by simp)
  refine lv_aload_n hx hb dX10_paysNow_0 rfl (lv_at hl 0 rfl) ?_
  refine lv_iload_n hx hb dX10_paysNow_1 rfl (lv_at hl 1 rfl) ?_
  refine goI hK hH (runV (As := [.int b]) (rest := []) hC hK hH (c_X10_isBill hc_h hc_al hfi) mlX10_116 (rcvM hK hH hc_h rfl) ⟨⟨Nat.le_of_ble_eq_true rfl, Nat.le_of_ble_eq_true rfl⟩, Nat.le_of_ble_eq_true rfl, Nat.le_of_ble_eq_true rfl⟩ rfl hl.1 rfl (Nat.le_of_ble_eq_true rfl) dX10_paysNow_2) (fun rq3_ Mq1_ Tq2_ Hq_ lcq_ hP hz hH => ?_)
  try dsimp only at hP
  obtain ⟨(rfl), eT, eM⟩ := hP
  have eT := eT.symm; subst eT
  have eM := eM.symm; subst eM
  refine jif_eq (tgt := 35) hx hb dX10_paysNow_5 (by decide) (fun cq4_ => ?_) (fun cq4_ => absurd cq4_ (by decide))
  refine lv_bipush (v := 30) hx hb dX10_paysNow_35 (by decide) ?_
  exact ret_i hC hr hlk hK hH (⟨rfl, rfl, rfl⟩) (Nat.le_of_ble_eq_true rfl) (Nat.le_of_ble_eq_true rfl) dX10_paysNow_37
set_option maxHeartbeats 4000000 in
set_option maxRecDepth 100000 in
theorem c_X10_billsThat {l : Launch} {D : va_G} {kA : Nat → ClassId} {M : mM} {T : mT} {sz : Nat} {h al mt ii pa li : Nat} {f : Nat → Int32} {wh : Int32} (hc_h : M h = some (.inr (8, [.ref al, .ref mt, .ref ii, .int 0, .int (-1), .ref pa, .int 0, .int 0, .int 0, .int 0, .int 0, .long 0, .int 0, .ref li]))) (hc_al : M al = some (.inl (kA 0, 7506, .inl f))) (hfi : ∀ j, j < 1140 → f j = mIni j) : mCi l yX10_billsThat cX10_billsThat 4 (some .int) 0 0 0 D kA M T sz [.ref h, .int wh] (fun r u => (r = 0) ∧ u.2 = T ∧ u.1 = M) := by
  unfold mCi
  refine start_W (by decide) (Nat.le_of_ble_eq_true rfl) ?_
  intro p e s m below meth c ls hC hr hlk hnm hK hH hsz hl
  have hx := hC.1
  have hb := hC.2.1
  have hl : lv_has ls 4 [(0, .ref h), (1, .int wh)] := hl
  have n_h_al : h ≠ al := neM hc_h hc_al (by simp)
  have n_al_h : al ≠ h := neM hc_al hc_h (by simp)
  refine lv_iconst (v := 0) hx hb dX10_billsThat_0 (by decide) ?_
  refine lv_istore_n (lv' := [(2, .int 0), (0, .ref h), (1, .int wh)]) hx hb dX10_billsThat_1 rfl hl (by decide) rfl (fun ls hl => ?_)
  refine lv_iconst (v := 0) hx hb dX10_billsThat_2 (by decide) ?_
  refine lv_istore_n (lv' := [(3, .int 0), (2, .int 0), (0, .ref h), (1, .int wh)]) hx hb dX10_billsThat_3 rfl hl (by decide) rfl (fun ls hl => ?_)
  refine lv_iload_n hx hb dX10_billsThat_4 rfl (lv_at hl 0 rfl) ?_
  refine lv_aload_n hx hb dX10_billsThat_5 rfl (lv_at hl 2 rfl) ?_
  refine xg hC hK hH flX10_7 hc_h rfl dX10_billsThat_6 ?_
  refine lv_iconst (v := 1) hx hb dX10_billsThat_9 (by decide) ?_
  refine xild hC hK hH hc_al (iIn (by decide) (by decide)) dX10_billsThat_10 ?_
  refine lv_cst (v := 0) ((hfi _ (by decide)).trans (by decide)) ?_
  refine jic_ge (tgt := 66) hx hb dX10_billsThat_11 (by decide) (fun cq1_ => ?_) (fun cq1_ => absurd cq1_ (by decide))
  refine lv_iload_n hx hb dX10_billsThat_66 rfl (lv_at hl 1 rfl) ?_
  exact ret_i hC hr hlk hK hH (⟨rfl, rfl, rfl⟩) (Nat.le_of_ble_eq_true rfl) (Nat.le_of_ble_eq_true rfl) dX10_billsThat_67
set_option maxHeartbeats 4000000 in
set_option maxRecDepth 100000 in
theorem c_X10_isStep {l : Launch} {D : va_G} {kA : Nat → ClassId} {M : mM} {T : mT} {sz : Nat} {h al mt ii pa li : Nat} {f : Nat → Int32} {b k : Int32} (hc_h : M h = some (.inr (8, [.ref al, .ref mt, .ref ii, .int 0, .int (-1), .ref pa, .int 0, .int 0, .int 0, .int 0, .int 0, .long 0, .int 0, .ref li]))) (hc_al : M al = some (.inl (kA 0, 7506, .inl f))) (hfi : ∀ j, j < 1140 → f j = mIni j) : mCi l yX10_isStep cX10_isStep 3 (some .boolean) 2 0 0 D kA M T sz [.ref h, .int b, .int k] (fun r u => (r = 0) ∧ u.2 = T ∧ u.1 = M) := by
  unfold mCi
  refine start_W (by decide) (Nat.le_of_ble_eq_true rfl) ?_
  intro p e s m below meth c ls hC hr hlk hnm hK hH hsz hl
  have hx := hC.1
  have hb := hC.2.1
  have hl : lv_has ls 3 [(0, .ref h), (1, .int b), (2, .int k)] := hl
  have n_h_al : h ≠ al := neM hc_h hc_al (by simp)
  have n_al_h : al ≠ h := neM hc_al hc_h (by simp)
  refine lv_aload_n hx hb dX10_isStep_0 rfl (lv_at hl 0 rfl) ?_
  refine lv_iload_n hx hb dX10_isStep_1 rfl (lv_at hl 1 rfl) ?_
  refine goI hK hH (runV (As := [.int b]) (rest := []) hC hK hH (c_X10_isBill hc_h hc_al hfi) mlX10_116 (rcvM hK hH hc_h rfl) ⟨⟨Nat.le_of_ble_eq_true rfl, Nat.le_of_ble_eq_true rfl⟩, Nat.le_of_ble_eq_true rfl, Nat.le_of_ble_eq_true rfl⟩ rfl hl.1 rfl (Nat.le_of_ble_eq_true rfl) dX10_isStep_2) (fun rq3_ Mq1_ Tq2_ Hq_ lcq_ hP hz hH => ?_)
  try dsimp only at hP
  obtain ⟨(rfl), eT, eM⟩ := hP
  have eT := eT.symm; subst eT
  have eM := eM.symm; subst eM
  refine jif_eq (tgt := 35) hx hb dX10_isStep_5 (by decide) (fun cq4_ => ?_) (fun cq4_ => absurd cq4_ (by decide))
  refine lv_iconst (v := 0) hx hb dX10_isStep_35 (by decide) ?_
  exact ret_z hC hr hlk hK hH (by first | exact Or.inl rfl | exact Or.inr rfl | assumption) (⟨rfl, rfl, rfl⟩) (Nat.le_of_ble_eq_true rfl) (Nat.le_of_ble_eq_true rfl) dX10_isStep_36
set_option maxHeartbeats 4000000 in
set_option maxRecDepth 100000 in
theorem c_X10_day {l : Launch} {D : va_G} {kA : Nat → ClassId} {M : mM} {T : mT} {sz : Nat} {h al mt ii pa li : Nat} {f : Nat → Int32} {n : Int32} (hc_h : M h = some (.inr (8, [.ref al, .ref mt, .ref ii, .int 0, .int (-1), .ref pa, .int 0, .int 0, .int 0, .int 0, .int 0, .long 0, .int 0, .ref li]))) (hc_al : M al = some (.inl (kA 0, 7506, .inl f))) (hfi : ∀ j, j < 1140 → f j = mIni j) : mCi l yX10_day cX10_day 2 (some .int) 2 0 0 D kA M T sz [.ref h, .int n] (fun r u => (((1 ≤ n.toInt ∧ n.toInt ≤ 99) ∧ r = 0) ∨ ((¬ (1 ≤ n.toInt ∧ n.toInt ≤ 99)) ∧ r = 30)) ∧ u.2 = T ∧ (∀ q, q ≠ al → u.1 q = M q)) := by
  unfold mCi
  refine start_W (by decide) (Nat.le_of_ble_eq_true rfl) ?_
  intro p e s m below meth c ls hC hr hlk hnm hK hH hsz hl
  have hx := hC.1
  have hb := hC.2.1
  have hl : lv_has ls 2 [(0, .ref h), (1, .int n)] := hl
  have hF : ∀ q, q ≠ al → M q = M q := fun q _ => rfl
  have n_h_al : h ≠ al := neM hc_h hc_al (by simp)
  have n_al_h : al ≠ h := neM hc_al hc_h (by simp)
  refine lv_aload_n hx hb dX10_day_0 rfl (lv_at hl 0 rfl) ?_
  refine lv_aload_n hx hb dX10_day_1 rfl (lv_at hl 0 rfl) ?_
  refine lv_iload_n hx hb dX10_day_2 rfl (lv_at hl 1 rfl) ?_
  refine goI hK hH (runV (As := [.int n]) (rest := [.ref h]) hC hK hH (c_X10_days hc_h hc_al hfi) mlX10_94 (rcvM hK hH hc_h rfl) ⟨⟨Nat.le_of_ble_eq_true rfl, Nat.le_of_ble_eq_true rfl⟩, Nat.le_of_ble_eq_true rfl, Nat.le_of_ble_eq_true rfl⟩ rfl hl.1 rfl (Nat.le_of_ble_eq_true rfl) dX10_day_3) (fun rq3_ Mq1_ Tq2_ Hq_ lcq_ hP hz hH => ?_)
  try dsimp only at hP
  obtain ⟨gq6_, h_gq6_, (⟨cq4_, rfl, hx_al⟩ | ⟨cq5_, rfl, hx_al⟩), eT, hfr⟩ := hP
  · skip
    have eT := eT.symm; subst eT
    have hc_h : Mq1_ h = some (.inr (8, [.ref al, .ref mt, .ref ii, .int 0, .int (-1), .ref pa, .int 0, .int 0, .int 0, .int 0, .int 0, .long 0, .int 0, .ref li])) := (hfr h n_h_al).trans hc_h
    have hc_al : Mq1_ al = some (.inl (kA 0, 7506, .inl gq6_)) := hx_al
    have hF : ∀ q, q ≠ al → Mq1_ q = M q := fun q h0 => (hfr q h0).trans (hF q h0)
    have cq4_ : 1 ≤ n.toInt ∧ n.toInt ≤ 99 := cq4_
    refine goI hK hH (runV (As := [.int 0]) (rest := []) hC hK hH (c_X10_told hc_h hc_al) mlX10_97 (rcvM hK hH hc_h rfl) ⟨⟨Nat.le_of_ble_eq_true rfl, Nat.le_of_ble_eq_true rfl⟩, Nat.le_of_ble_eq_true rfl, Nat.le_of_ble_eq_true rfl⟩ rfl hl.1 rfl (Nat.le_of_ble_eq_true rfl) dX10_day_6) (fun rq9_ Mq7_ Tq8_ Hq_ lcq_ hP hz hH => ?_)
    try dsimp only at hP
    obtain ⟨gq10_, h_gq10_, (⟨rfl, hx_al⟩), eT, hfr⟩ := hP
    have eT := eT.symm; subst eT
    have hc_h : Mq7_ h = some (.inr (8, [.ref al, .ref mt, .ref ii, .int 0, .int (-1), .ref pa, .int 0, .int 0, .int 0, .int 0, .int 0, .long 0, .int 0, .ref li])) := (hfr h n_h_al).trans hc_h
    have hc_al : Mq7_ al = some (.inl (kA 0, 7506, .inl gq10_)) := hx_al
    have hF : ∀ q, q ≠ al → Mq7_ q = M q := fun q h0 => (hfr q h0).trans (hF q h0)
    exact ret_i hC hr hlk hK hH (⟨Or.inl (⟨by omega, rfl⟩), rfl, hF⟩) (Nat.le_of_ble_eq_true rfl) (Nat.le_of_ble_eq_true rfl) dX10_day_9
  · skip
    have eT := eT.symm; subst eT
    have hc_h : Mq1_ h = some (.inr (8, [.ref al, .ref mt, .ref ii, .int 0, .int (-1), .ref pa, .int 0, .int 0, .int 0, .int 0, .int 0, .long 0, .int 0, .ref li])) := (hfr h n_h_al).trans hc_h
    have hc_al : Mq1_ al = some (.inl (kA 0, 7506, .inl gq6_)) := hx_al
    have hF : ∀ q, q ≠ al → Mq1_ q = M q := fun q h0 => (hfr q h0).trans (hF q h0)
    have cq5_ : ¬ (1 ≤ n.toInt ∧ n.toInt ≤ 99) := cq5_
    refine goI hK hH (runV (As := [.int 30]) (rest := []) hC hK hH (c_X10_told hc_h hc_al) mlX10_97 (rcvM hK hH hc_h rfl) ⟨⟨Nat.le_of_ble_eq_true rfl, Nat.le_of_ble_eq_true rfl⟩, Nat.le_of_ble_eq_true rfl, Nat.le_of_ble_eq_true rfl⟩ rfl hl.1 rfl (Nat.le_of_ble_eq_true rfl) dX10_day_6) (fun rq13_ Mq11_ Tq12_ Hq_ lcq_ hP hz hH => ?_)
    try dsimp only at hP
    obtain ⟨gq14_, h_gq14_, (⟨rfl, hx_al⟩), eT, hfr⟩ := hP
    have eT := eT.symm; subst eT
    have hc_h : Mq11_ h = some (.inr (8, [.ref al, .ref mt, .ref ii, .int 0, .int (-1), .ref pa, .int 0, .int 0, .int 0, .int 0, .int 0, .long 0, .int 0, .ref li])) := (hfr h n_h_al).trans hc_h
    have hc_al : Mq11_ al = some (.inl (kA 0, 7506, .inl gq14_)) := hx_al
    have hF : ∀ q, q ≠ al → Mq11_ q = M q := fun q h0 => (hfr q h0).trans (hF q h0)
    exact ret_i hC hr hlk hK hH (⟨Or.inr (⟨by omega, rfl⟩), rfl, hF⟩) (Nat.le_of_ble_eq_true rfl) (Nat.le_of_ble_eq_true rfl) dX10_day_9
set_option maxHeartbeats 4000000 in
set_option maxRecDepth 100000 in
theorem c_X10_cash {l : Launch} {D : va_G} {kA : Nat → ClassId} {M : mM} {T : mT} {sz : Nat} {h al mt ii pa li : Nat} {f : Nat → Int32} {ps n : Int32} (hc_h : M h = some (.inr (8, [.ref al, .ref mt, .ref ii, .int 0, .int (-1), .ref pa, .int 0, .int 0, .int 0, .int 0, .int 0, .long 0, .int 0, .ref li]))) (hc_al : M al = some (.inl (kA 0, 7506, .inl f))) (hfi : ∀ j, j < 1140 → f j = mIni j) : mCi l yX10_cash cX10_cash 3 (some .int) 3 0 0 D kA M T sz [.ref h, .int ps, .int n] (fun r u => (((0 ≤ ps.toInt ∧ ps.toInt ≤ 7 ∧ 0 ≤ n.toInt ∧ n.toInt ≤ 9999) ∧ r = 0) ∨ ((¬ (0 ≤ ps.toInt ∧ ps.toInt ≤ 7 ∧ 0 ≤ n.toInt ∧ n.toInt ≤ 9999)) ∧ r = 30)) ∧ u.2 = T ∧ (∀ q, q ≠ al → u.1 q = M q)) := by
  unfold mCi
  refine start_W (by decide) (Nat.le_of_ble_eq_true rfl) ?_
  intro p e s m below meth c ls hC hr hlk hnm hK hH hsz hl
  have hx := hC.1
  have hb := hC.2.1
  have hl : lv_has ls 3 [(0, .ref h), (1, .int ps), (2, .int n)] := hl
  have hF : ∀ q, q ≠ al → M q = M q := fun q _ => rfl
  have n_h_al : h ≠ al := neM hc_h hc_al (by simp)
  have n_al_h : al ≠ h := neM hc_al hc_h (by simp)
  refine lv_aload_n hx hb dX10_cash_0 rfl (lv_at hl 0 rfl) ?_
  refine lv_aload_n hx hb dX10_cash_1 rfl (lv_at hl 0 rfl) ?_
  refine lv_iload_n hx hb dX10_cash_2 rfl (lv_at hl 1 rfl) ?_
  refine lv_iload_n hx hb dX10_cash_3 rfl (lv_at hl 2 rfl) ?_
  refine goI hK hH (runV (As := [.int ps, .int n]) (rest := [.ref h]) hC hK hH (c_X10_hasNow hc_h hc_al hfi) mlX10_103 (rcvM hK hH hc_h rfl) ⟨⟨Nat.le_of_ble_eq_true rfl, Nat.le_of_ble_eq_true rfl⟩, Nat.le_of_ble_eq_true rfl, Nat.le_of_ble_eq_true rfl⟩ rfl hl.1 rfl (Nat.le_of_ble_eq_true rfl) dX10_cash_4) (fun rq3_ Mq1_ Tq2_ Hq_ lcq_ hP hz hH => ?_)
  try dsimp only at hP
  obtain ⟨gq6_, h_gq6_, (⟨cq4_, rfl, hx_al⟩ | ⟨cq5_, rfl, hx_al⟩), eT, hfr⟩ := hP
  · skip
    have eT := eT.symm; subst eT
    have hc_h : Mq1_ h = some (.inr (8, [.ref al, .ref mt, .ref ii, .int 0, .int (-1), .ref pa, .int 0, .int 0, .int 0, .int 0, .int 0, .long 0, .int 0, .ref li])) := (hfr h n_h_al).trans hc_h
    have hc_al : Mq1_ al = some (.inl (kA 0, 7506, .inl gq6_)) := hx_al
    have hF : ∀ q, q ≠ al → Mq1_ q = M q := fun q h0 => (hfr q h0).trans (hF q h0)
    have cq4_ : 0 ≤ ps.toInt ∧ ps.toInt ≤ 7 ∧ 0 ≤ n.toInt ∧ n.toInt ≤ 9999 := cq4_
    refine goI hK hH (runV (As := [.int 0]) (rest := []) hC hK hH (c_X10_told hc_h hc_al) mlX10_97 (rcvM hK hH hc_h rfl) ⟨⟨Nat.le_of_ble_eq_true rfl, Nat.le_of_ble_eq_true rfl⟩, Nat.le_of_ble_eq_true rfl, Nat.le_of_ble_eq_true rfl⟩ rfl hl.1 rfl (Nat.le_of_ble_eq_true rfl) dX10_cash_7) (fun rq9_ Mq7_ Tq8_ Hq_ lcq_ hP hz hH => ?_)
    try dsimp only at hP
    obtain ⟨gq10_, h_gq10_, (⟨rfl, hx_al⟩), eT, hfr⟩ := hP
    have eT := eT.symm; subst eT
    have hc_h : Mq7_ h = some (.inr (8, [.ref al, .ref mt, .ref ii, .int 0, .int (-1), .ref pa, .int 0, .int 0, .int 0, .int 0, .int 0, .long 0, .int 0, .ref li])) := (hfr h n_h_al).trans hc_h
    have hc_al : Mq7_ al = some (.inl (kA 0, 7506, .inl gq10_)) := hx_al
    have hF : ∀ q, q ≠ al → Mq7_ q = M q := fun q h0 => (hfr q h0).trans (hF q h0)
    exact ret_i hC hr hlk hK hH (⟨Or.inl (⟨by omega, rfl⟩), rfl, hF⟩) (Nat.le_of_ble_eq_true rfl) (Nat.le_of_ble_eq_true rfl) dX10_cash_10
  · skip
    have eT := eT.symm; subst eT
    have hc_h : Mq1_ h = some (.inr (8, [.ref al, .ref mt, .ref ii, .int 0, .int (-1), .ref pa, .int 0, .int 0, .int 0, .int 0, .int 0, .long 0, .int 0, .ref li])) := (hfr h n_h_al).trans hc_h
    have hc_al : Mq1_ al = some (.inl (kA 0, 7506, .inl gq6_)) := hx_al
    have hF : ∀ q, q ≠ al → Mq1_ q = M q := fun q h0 => (hfr q h0).trans (hF q h0)
    have cq5_ : ¬ (0 ≤ ps.toInt ∧ ps.toInt ≤ 7 ∧ 0 ≤ n.toInt ∧ n.toInt ≤ 9999) := cq5_
    refine goI hK hH (runV (As := [.int 30]) (rest := []) hC hK hH (c_X10_told hc_h hc_al) mlX10_97 (rcvM hK hH hc_h rfl) ⟨⟨Nat.le_of_ble_eq_true rfl, Nat.le_of_ble_eq_true rfl⟩, Nat.le_of_ble_eq_true rfl, Nat.le_of_ble_eq_true rfl⟩ rfl hl.1 rfl (Nat.le_of_ble_eq_true rfl) dX10_cash_7) (fun rq13_ Mq11_ Tq12_ Hq_ lcq_ hP hz hH => ?_)
    try dsimp only at hP
    obtain ⟨gq14_, h_gq14_, (⟨rfl, hx_al⟩), eT, hfr⟩ := hP
    have eT := eT.symm; subst eT
    have hc_h : Mq11_ h = some (.inr (8, [.ref al, .ref mt, .ref ii, .int 0, .int (-1), .ref pa, .int 0, .int 0, .int 0, .int 0, .int 0, .long 0, .int 0, .ref li])) := (hfr h n_h_al).trans hc_h
    have hc_al : Mq11_ al = some (.inl (kA 0, 7506, .inl gq14_)) := hx_al
    have hF : ∀ q, q ≠ al → Mq11_ q = M q := fun q h0 => (hfr q h0).trans (hF q h0)
    exact ret_i hC hr hlk hK hH (⟨Or.inr (⟨by omega, rfl⟩), rfl, hF⟩) (Nat.le_of_ble_eq_true rfl) (Nat.le_of_ble_eq_true rfl) dX10_cash_10
set_option maxHeartbeats 4000000 in
set_option maxRecDepth 100000 in
theorem c_X10_grace {l : Launch} {D : va_G} {kA : Nat → ClassId} {M : mM} {T : mT} {sz : Nat} {h al mt ii pa li : Nat} {f : Nat → Int32} {n : Int32} (hc_h : M h = some (.inr (8, [.ref al, .ref mt, .ref ii, .int 0, .int (-1), .ref pa, .int 0, .int 0, .int 0, .int 0, .int 0, .long 0, .int 0, .ref li]))) (hc_al : M al = some (.inl (kA 0, 7506, .inl f))) (hfi : ∀ j, j < 1140 → f j = mIni j) : mCi l yX10_grace cX10_grace 2 (some .int) 2 0 0 D kA M T sz [.ref h, .int n] (fun r u => (((1 ≤ n.toInt ∧ n.toInt ≤ 9) ∧ r = 0) ∨ ((¬ (1 ≤ n.toInt ∧ n.toInt ≤ 9)) ∧ r = 30)) ∧ u.2 = T ∧ (∀ q, q ≠ al → u.1 q = M q)) := by
  unfold mCi
  refine start_W (by decide) (Nat.le_of_ble_eq_true rfl) ?_
  intro p e s m below meth c ls hC hr hlk hnm hK hH hsz hl
  have hx := hC.1
  have hb := hC.2.1
  have hl : lv_has ls 2 [(0, .ref h), (1, .int n)] := hl
  have hF : ∀ q, q ≠ al → M q = M q := fun q _ => rfl
  have n_h_al : h ≠ al := neM hc_h hc_al (by simp)
  have n_al_h : al ≠ h := neM hc_al hc_h (by simp)
  refine lv_aload_n hx hb dX10_grace_0 rfl (lv_at hl 0 rfl) ?_
  refine lv_aload_n hx hb dX10_grace_1 rfl (lv_at hl 0 rfl) ?_
  refine lv_iload_n hx hb dX10_grace_2 rfl (lv_at hl 1 rfl) ?_
  refine goI hK hH (runV (As := [.int n]) (rest := [.ref h]) hC hK hH (c_X10_graces hc_h hc_al hfi) mlX10_106 (rcvM hK hH hc_h rfl) ⟨⟨Nat.le_of_ble_eq_true rfl, Nat.le_of_ble_eq_true rfl⟩, Nat.le_of_ble_eq_true rfl, Nat.le_of_ble_eq_true rfl⟩ rfl hl.1 rfl (Nat.le_of_ble_eq_true rfl) dX10_grace_3) (fun rq3_ Mq1_ Tq2_ Hq_ lcq_ hP hz hH => ?_)
  try dsimp only at hP
  obtain ⟨gq6_, h_gq6_, (⟨cq4_, rfl, hx_al⟩ | ⟨cq5_, rfl, hx_al⟩), eT, hfr⟩ := hP
  · skip
    have eT := eT.symm; subst eT
    have hc_h : Mq1_ h = some (.inr (8, [.ref al, .ref mt, .ref ii, .int 0, .int (-1), .ref pa, .int 0, .int 0, .int 0, .int 0, .int 0, .long 0, .int 0, .ref li])) := (hfr h n_h_al).trans hc_h
    have hc_al : Mq1_ al = some (.inl (kA 0, 7506, .inl gq6_)) := hx_al
    have hF : ∀ q, q ≠ al → Mq1_ q = M q := fun q h0 => (hfr q h0).trans (hF q h0)
    have cq4_ : 1 ≤ n.toInt ∧ n.toInt ≤ 9 := cq4_
    refine goI hK hH (runV (As := [.int 0]) (rest := []) hC hK hH (c_X10_told hc_h hc_al) mlX10_97 (rcvM hK hH hc_h rfl) ⟨⟨Nat.le_of_ble_eq_true rfl, Nat.le_of_ble_eq_true rfl⟩, Nat.le_of_ble_eq_true rfl, Nat.le_of_ble_eq_true rfl⟩ rfl hl.1 rfl (Nat.le_of_ble_eq_true rfl) dX10_grace_6) (fun rq9_ Mq7_ Tq8_ Hq_ lcq_ hP hz hH => ?_)
    try dsimp only at hP
    obtain ⟨gq10_, h_gq10_, (⟨rfl, hx_al⟩), eT, hfr⟩ := hP
    have eT := eT.symm; subst eT
    have hc_h : Mq7_ h = some (.inr (8, [.ref al, .ref mt, .ref ii, .int 0, .int (-1), .ref pa, .int 0, .int 0, .int 0, .int 0, .int 0, .long 0, .int 0, .ref li])) := (hfr h n_h_al).trans hc_h
    have hc_al : Mq7_ al = some (.inl (kA 0, 7506, .inl gq10_)) := hx_al
    have hF : ∀ q, q ≠ al → Mq7_ q = M q := fun q h0 => (hfr q h0).trans (hF q h0)
    exact ret_i hC hr hlk hK hH (⟨Or.inl (⟨by omega, rfl⟩), rfl, hF⟩) (Nat.le_of_ble_eq_true rfl) (Nat.le_of_ble_eq_true rfl) dX10_grace_9
  · skip
    have eT := eT.symm; subst eT
    have hc_h : Mq1_ h = some (.inr (8, [.ref al, .ref mt, .ref ii, .int 0, .int (-1), .ref pa, .int 0, .int 0, .int 0, .int 0, .int 0, .long 0, .int 0, .ref li])) := (hfr h n_h_al).trans hc_h
    have hc_al : Mq1_ al = some (.inl (kA 0, 7506, .inl gq6_)) := hx_al
    have hF : ∀ q, q ≠ al → Mq1_ q = M q := fun q h0 => (hfr q h0).trans (hF q h0)
    have cq5_ : ¬ (1 ≤ n.toInt ∧ n.toInt ≤ 9) := cq5_
    refine goI hK hH (runV (As := [.int 30]) (rest := []) hC hK hH (c_X10_told hc_h hc_al) mlX10_97 (rcvM hK hH hc_h rfl) ⟨⟨Nat.le_of_ble_eq_true rfl, Nat.le_of_ble_eq_true rfl⟩, Nat.le_of_ble_eq_true rfl, Nat.le_of_ble_eq_true rfl⟩ rfl hl.1 rfl (Nat.le_of_ble_eq_true rfl) dX10_grace_6) (fun rq13_ Mq11_ Tq12_ Hq_ lcq_ hP hz hH => ?_)
    try dsimp only at hP
    obtain ⟨gq14_, h_gq14_, (⟨rfl, hx_al⟩), eT, hfr⟩ := hP
    have eT := eT.symm; subst eT
    have hc_h : Mq11_ h = some (.inr (8, [.ref al, .ref mt, .ref ii, .int 0, .int (-1), .ref pa, .int 0, .int 0, .int 0, .int 0, .int 0, .long 0, .int 0, .ref li])) := (hfr h n_h_al).trans hc_h
    have hc_al : Mq11_ al = some (.inl (kA 0, 7506, .inl gq14_)) := hx_al
    have hF : ∀ q, q ≠ al → Mq11_ q = M q := fun q h0 => (hfr q h0).trans (hF q h0)
    exact ret_i hC hr hlk hK hH (⟨Or.inr (⟨by omega, rfl⟩), rfl, hF⟩) (Nat.le_of_ble_eq_true rfl) (Nat.le_of_ble_eq_true rfl) dX10_grace_9
set_option maxHeartbeats 4000000 in
set_option maxRecDepth 100000 in
theorem c_X10_accept {l : Launch} {D : va_G} {kA : Nat → ClassId} {M : mM} {T : mT} {sz : Nat} {h al mt ii pa li : Nat} {f : Nat → Int32} {b : Int32} (hc_h : M h = some (.inr (8, [.ref al, .ref mt, .ref ii, .int 0, .int (-1), .ref pa, .int 0, .int 0, .int 0, .int 0, .int 0, .long 0, .int 0, .ref li]))) (hc_al : M al = some (.inl (kA 0, 7506, .inl f))) (hfi : ∀ j, j < 1140 → f j = mIni j) : mCi l yX10_accept cX10_accept 2 (some .int) 3 0 0 D kA M T sz [.ref h, .int b] (fun r u => (r = 30) ∧ u.2 = T ∧ (∀ q, q ≠ al → u.1 q = M q)) := by
  unfold mCi
  refine start_W (by decide) (Nat.le_of_ble_eq_true rfl) ?_
  intro p e s m below meth c ls hC hr hlk hnm hK hH hsz hl
  have hx := hC.1
  have hb := hC.2.1
  have hl : lv_has ls 2 [(0, .ref h), (1, .int b)] := hl
  have hF : ∀ q, q ≠ al → M q = M q := fun q _ => rfl
  have n_h_al : h ≠ al := neM hc_h hc_al (by simp)
  have n_al_h : al ≠ h := neM hc_al hc_h (by simp)
  refine lv_aload_n hx hb dX10_accept_0 rfl (lv_at hl 0 rfl) ?_
  refine lv_aload_n hx hb dX10_accept_1 rfl (lv_at hl 0 rfl) ?_
  refine lv_iload_n hx hb dX10_accept_2 rfl (lv_at hl 1 rfl) ?_
  refine goI hK hH (runV (As := [.int b]) (rest := [.ref h]) hC hK hH (c_X10_accepts hc_h hc_al hfi) mlX10_119 (rcvM hK hH hc_h rfl) ⟨⟨Nat.le_of_ble_eq_true rfl, Nat.le_of_ble_eq_true rfl⟩, Nat.le_of_ble_eq_true rfl, Nat.le_of_ble_eq_true rfl⟩ rfl hl.1 rfl (Nat.le_of_ble_eq_true rfl) dX10_accept_3) (fun rq3_ Mq1_ Tq2_ Hq_ lcq_ hP hz hH => ?_)
  try dsimp only at hP
  obtain ⟨(rfl), eT, eM⟩ := hP
  have eT := eT.symm; subst eT
  have eM := eM.symm; subst eM
  refine goI hK hH (runV (As := [.int 30]) (rest := []) hC hK hH (c_X10_told hc_h hc_al) mlX10_97 (rcvM hK hH hc_h rfl) ⟨⟨Nat.le_of_ble_eq_true rfl, Nat.le_of_ble_eq_true rfl⟩, Nat.le_of_ble_eq_true rfl, Nat.le_of_ble_eq_true rfl⟩ rfl hl.1 rfl (Nat.le_of_ble_eq_true rfl) dX10_accept_6) (fun rq6_ Mq4_ Tq5_ Hq_ lcq_ hP hz hH => ?_)
  try dsimp only at hP
  obtain ⟨gq7_, h_gq7_, (⟨rfl, hx_al⟩), eT, hfr⟩ := hP
  have eT := eT.symm; subst eT
  have hc_h : Mq4_ h = some (.inr (8, [.ref al, .ref mt, .ref ii, .int 0, .int (-1), .ref pa, .int 0, .int 0, .int 0, .int 0, .int 0, .long 0, .int 0, .ref li])) := (hfr h n_h_al).trans hc_h
  have hc_al : Mq4_ al = some (.inl (kA 0, 7506, .inl gq7_)) := hx_al
  have hF : ∀ q, q ≠ al → Mq4_ q = M q := fun q h0 => (hfr q h0).trans (hF q h0)
  exact ret_i hC hr hlk hK hH (⟨rfl, rfl, hF⟩) (Nat.le_of_ble_eq_true rfl) (Nat.le_of_ble_eq_true rfl) dX10_accept_9
set_option maxHeartbeats 4000000 in
set_option maxRecDepth 100000 in
theorem c_X10_pass {l : Launch} {D : va_G} {kA : Nat → ClassId} {M : mM} {T : mT} {sz : Nat} {h al mt ii pa li : Nat} {f : Nat → Int32} {b so to va no : Int32} (hc_h : M h = some (.inr (8, [.ref al, .ref mt, .ref ii, .int 0, .int (-1), .ref pa, .int 0, .int 0, .int 0, .int 0, .int 0, .long 0, .int 0, .ref li]))) (hc_al : M al = some (.inl (kA 0, 7506, .inl f))) (hfi : ∀ j, j < 1140 → f j = mIni j) : mCi l yX10_pass cX10_pass 6 (some .int) 4 0 0 D kA M T sz [.ref h, .int b, .int so, .int to, .int va, .int no] (fun r u => (r = 30) ∧ u.2 = T ∧ (∀ q, q ≠ al → u.1 q = M q)) := by
  unfold mCi
  refine start_W (by decide) (Nat.le_of_ble_eq_true rfl) ?_
  intro p e s m below meth c ls hC hr hlk hnm hK hH hsz hl
  have hx := hC.1
  have hb := hC.2.1
  have hl : lv_has ls 6 [(0, .ref h), (1, .int b), (2, .int so), (3, .int to), (4, .int va), (5, .int no)] := hl
  have hF : ∀ q, q ≠ al → M q = M q := fun q _ => rfl
  have n_h_al : h ≠ al := neM hc_h hc_al (by simp)
  have n_al_h : al ≠ h := neM hc_al hc_h (by simp)
  refine lv_aload_n hx hb dX10_pass_0 rfl (lv_at hl 0 rfl) ?_
  refine lv_aload_n hx hb dX10_pass_1 rfl (lv_at hl 0 rfl) ?_
  refine lv_iload_n hx hb dX10_pass_2 rfl (lv_at hl 1 rfl) ?_
  refine lv_iload_n hx hb dX10_pass_3 rfl (lv_at hl 2 rfl) ?_
  refine lv_bipush (v := 9) hx hb dX10_pass_4 (by decide) ?_
  refine jic_le (tgt := 16) hx hb dX10_pass_6 (by decide) (fun cq1_ => ?_) (fun cq1_ => ?_)
  · skip
    have cq1_ : so.toInt ≤ 9 := cq1_
    refine lv_iload_n hx hb dX10_pass_16 rfl (lv_at hl 2 rfl) ?_
    refine lv_iload_n hx hb dX10_pass_17 rfl (lv_at hl 2 rfl) ?_
    refine lv_bipush (v := 9) hx hb dX10_pass_18 (by decide) ?_
    refine jic_le (tgt := 27) hx hb dX10_pass_20 (by decide) (fun cq2_ => ?_) (fun cq2_ => absurd cq2_ (by have := iRg so; have : (9 : Int32).toInt = 9 := rfl; omega))
    have cq2_ : so.toInt ≤ 9 := cq2_
    refine lv_iconst (v := 0) hx hb dX10_pass_27 (by decide) ?_
    refine lv_iload_n hx hb dX10_pass_28 rfl (lv_at hl 3 rfl) ?_
    refine lv_iload hx hb dX10_pass_29 (lv_at hl 4 rfl) ?_
    refine lv_iload hx hb dX10_pass_31 (lv_at hl 5 rfl) ?_
    refine goI hK hH (runV (As := [.int b, .int so, .int 0, .int to, .int va, .int no]) (rest := [.ref h]) hC hK hH (c_X10_passes hc_h hc_al hfi) mlX10_129 (rcvM hK hH hc_h rfl) ⟨⟨Nat.le_of_ble_eq_true rfl, Nat.le_of_ble_eq_true rfl⟩, Nat.le_of_ble_eq_true rfl, Nat.le_of_ble_eq_true rfl⟩ rfl hl.1 rfl (Nat.le_of_ble_eq_true rfl) dX10_pass_33) (fun rq5_ Mq3_ Tq4_ Hq_ lcq_ hP hz hH => ?_)
    try dsimp only at hP
    obtain ⟨(rfl), eT, eM⟩ := hP
    have eT := eT.symm; subst eT
    have eM := eM.symm; subst eM
    refine goI hK hH (runV (As := [.int 30]) (rest := []) hC hK hH (c_X10_told hc_h hc_al) mlX10_97 (rcvM hK hH hc_h rfl) ⟨⟨Nat.le_of_ble_eq_true rfl, Nat.le_of_ble_eq_true rfl⟩, Nat.le_of_ble_eq_true rfl, Nat.le_of_ble_eq_true rfl⟩ rfl hl.1 rfl (Nat.le_of_ble_eq_true rfl) dX10_pass_36) (fun rq8_ Mq6_ Tq7_ Hq_ lcq_ hP hz hH => ?_)
    try dsimp only at hP
    obtain ⟨gq9_, h_gq9_, (⟨rfl, hx_al⟩), eT, hfr⟩ := hP
    have eT := eT.symm; subst eT
    have hc_h : Mq6_ h = some (.inr (8, [.ref al, .ref mt, .ref ii, .int 0, .int (-1), .ref pa, .int 0, .int 0, .int 0, .int 0, .int 0, .long 0, .int 0, .ref li])) := (hfr h n_h_al).trans hc_h
    have hc_al : Mq6_ al = some (.inl (kA 0, 7506, .inl gq9_)) := hx_al
    have hF : ∀ q, q ≠ al → Mq6_ q = M q := fun q h0 => (hfr q h0).trans (hF q h0)
    exact ret_i hC hr hlk hK hH (⟨rfl, rfl, hF⟩) (Nat.le_of_ble_eq_true rfl) (Nat.le_of_ble_eq_true rfl) dX10_pass_39
  · skip
    have cq1_ : 9 < so.toInt := cq1_
    refine lv_iload_n hx hb dX10_pass_9 rfl (lv_at hl 2 rfl) ?_
    refine lv_bipush (v := 10) hx hb dX10_pass_10 (by decide) ?_
    refine lv_isub hx hb dX10_pass_12 ?_
    refine lv_topi (fun zq10_ e_zq10_ => ?_)
    have h_zq10_ : zq10_.toInt = so.toInt - 10 := by rw [e_zq10_, iSub (by have := iRg so; have : (10 : Int32).toInt = 10 := rfl; omega) (by have := iRg so; have : (10 : Int32).toInt = 10 := rfl; omega)]; rfl
    refine lv_goto (tgt := 17) hx hb dX10_pass_13 (by decide) ?_
    refine lv_iload_n hx hb dX10_pass_17 rfl (lv_at hl 2 rfl) ?_
    refine lv_bipush (v := 9) hx hb dX10_pass_18 (by decide) ?_
    refine jic_le (tgt := 27) hx hb dX10_pass_20 (by decide) (fun cq11_ => absurd cq11_ (by have := iRg so; have : (9 : Int32).toInt = 9 := rfl; omega)) (fun cq11_ => ?_)
    have cq11_ : 9 < so.toInt := cq11_
    refine lv_iconst (v := 1) hx hb dX10_pass_23 (by decide) ?_
    refine lv_goto (tgt := 28) hx hb dX10_pass_24 (by decide) ?_
    refine lv_iload_n hx hb dX10_pass_28 rfl (lv_at hl 3 rfl) ?_
    refine lv_iload hx hb dX10_pass_29 (lv_at hl 4 rfl) ?_
    refine lv_iload hx hb dX10_pass_31 (lv_at hl 5 rfl) ?_
    refine goI hK hH (runV (As := [.int b, .int zq10_, .int 1, .int to, .int va, .int no]) (rest := [.ref h]) hC hK hH (c_X10_passes hc_h hc_al hfi) mlX10_129 (rcvM hK hH hc_h rfl) ⟨⟨Nat.le_of_ble_eq_true rfl, Nat.le_of_ble_eq_true rfl⟩, Nat.le_of_ble_eq_true rfl, Nat.le_of_ble_eq_true rfl⟩ rfl hl.1 rfl (Nat.le_of_ble_eq_true rfl) dX10_pass_33) (fun rq14_ Mq12_ Tq13_ Hq_ lcq_ hP hz hH => ?_)
    try dsimp only at hP
    obtain ⟨(rfl), eT, eM⟩ := hP
    have eT := eT.symm; subst eT
    have eM := eM.symm; subst eM
    refine goI hK hH (runV (As := [.int 30]) (rest := []) hC hK hH (c_X10_told hc_h hc_al) mlX10_97 (rcvM hK hH hc_h rfl) ⟨⟨Nat.le_of_ble_eq_true rfl, Nat.le_of_ble_eq_true rfl⟩, Nat.le_of_ble_eq_true rfl, Nat.le_of_ble_eq_true rfl⟩ rfl hl.1 rfl (Nat.le_of_ble_eq_true rfl) dX10_pass_36) (fun rq17_ Mq15_ Tq16_ Hq_ lcq_ hP hz hH => ?_)
    try dsimp only at hP
    obtain ⟨gq18_, h_gq18_, (⟨rfl, hx_al⟩), eT, hfr⟩ := hP
    have eT := eT.symm; subst eT
    have hc_h : Mq15_ h = some (.inr (8, [.ref al, .ref mt, .ref ii, .int 0, .int (-1), .ref pa, .int 0, .int 0, .int 0, .int 0, .int 0, .long 0, .int 0, .ref li])) := (hfr h n_h_al).trans hc_h
    have hc_al : Mq15_ al = some (.inl (kA 0, 7506, .inl gq18_)) := hx_al
    have hF : ∀ q, q ≠ al → Mq15_ q = M q := fun q h0 => (hfr q h0).trans (hF q h0)
    subst e_zq10_
    exact ret_i hC hr hlk hK hH (⟨rfl, rfl, hF⟩) (Nat.le_of_ble_eq_true rfl) (Nat.le_of_ble_eq_true rfl) dX10_pass_39
set_option maxHeartbeats 4000000 in
set_option maxRecDepth 100000 in
theorem c_X10_forge {l : Launch} {D : va_G} {kA : Nat → ClassId} {M : mM} {T : mT} {sz : Nat} {h al mt ii pa li : Nat} {f : Nat → Int32} {b nm to va no : Int32} (hc_h : M h = some (.inr (8, [.ref al, .ref mt, .ref ii, .int 0, .int (-1), .ref pa, .int 0, .int 0, .int 0, .int 0, .int 0, .long 0, .int 0, .ref li]))) (hc_al : M al = some (.inl (kA 0, 7506, .inl f))) (hfi : ∀ j, j < 1140 → f j = mIni j) : mCi l yX10_forge cX10_forge 6 (some .int) 4 0 0 D kA M T sz [.ref h, .int b, .int nm, .int to, .int va, .int no] (fun r u => (r = 30) ∧ u.2 = T ∧ (∀ q, q ≠ al → u.1 q = M q)) := by
  unfold mCi
  refine start_W (by decide) (Nat.le_of_ble_eq_true rfl) ?_
  intro p e s m below meth c ls hC hr hlk hnm hK hH hsz hl
  have hx := hC.1
  have hb := hC.2.1
  have hl : lv_has ls 6 [(0, .ref h), (1, .int b), (2, .int nm), (3, .int to), (4, .int va), (5, .int no)] := hl
  have hF : ∀ q, q ≠ al → M q = M q := fun q _ => rfl
  have n_h_al : h ≠ al := neM hc_h hc_al (by simp)
  have n_al_h : al ≠ h := neM hc_al hc_h (by simp)
  refine lv_aload_n hx hb dX10_forge_0 rfl (lv_at hl 0 rfl) ?_
  refine lv_aload_n hx hb dX10_forge_1 rfl (lv_at hl 0 rfl) ?_
  refine lv_iload_n hx hb dX10_forge_2 rfl (lv_at hl 1 rfl) ?_
  refine lv_iload_n hx hb dX10_forge_3 rfl (lv_at hl 2 rfl) ?_
  refine lv_iload_n hx hb dX10_forge_4 rfl (lv_at hl 3 rfl) ?_
  refine lv_iload hx hb dX10_forge_5 (lv_at hl 4 rfl) ?_
  refine lv_iload hx hb dX10_forge_7 (lv_at hl 5 rfl) ?_
  refine goI hK hH (runV (As := [.int b, .int nm, .int to, .int va, .int no]) (rest := [.ref h]) hC hK hH (c_X10_forges hc_h hc_al hfi) mlX10_133 (rcvM hK hH hc_h rfl) ⟨⟨Nat.le_of_ble_eq_true rfl, Nat.le_of_ble_eq_true rfl⟩, Nat.le_of_ble_eq_true rfl, Nat.le_of_ble_eq_true rfl⟩ rfl hl.1 rfl (Nat.le_of_ble_eq_true rfl) dX10_forge_9) (fun rq3_ Mq1_ Tq2_ Hq_ lcq_ hP hz hH => ?_)
  try dsimp only at hP
  obtain ⟨(rfl), eT, eM⟩ := hP
  have eT := eT.symm; subst eT
  have eM := eM.symm; subst eM
  refine goI hK hH (runV (As := [.int 30]) (rest := []) hC hK hH (c_X10_told hc_h hc_al) mlX10_97 (rcvM hK hH hc_h rfl) ⟨⟨Nat.le_of_ble_eq_true rfl, Nat.le_of_ble_eq_true rfl⟩, Nat.le_of_ble_eq_true rfl, Nat.le_of_ble_eq_true rfl⟩ rfl hl.1 rfl (Nat.le_of_ble_eq_true rfl) dX10_forge_12) (fun rq6_ Mq4_ Tq5_ Hq_ lcq_ hP hz hH => ?_)
  try dsimp only at hP
  obtain ⟨gq7_, h_gq7_, (⟨rfl, hx_al⟩), eT, hfr⟩ := hP
  have eT := eT.symm; subst eT
  have hc_h : Mq4_ h = some (.inr (8, [.ref al, .ref mt, .ref ii, .int 0, .int (-1), .ref pa, .int 0, .int 0, .int 0, .int 0, .int 0, .long 0, .int 0, .ref li])) := (hfr h n_h_al).trans hc_h
  have hc_al : Mq4_ al = some (.inl (kA 0, 7506, .inl gq7_)) := hx_al
  have hF : ∀ q, q ≠ al → Mq4_ q = M q := fun q h0 => (hfr q h0).trans (hF q h0)
  exact ret_i hC hr hlk hK hH (⟨rfl, rfl, hF⟩) (Nat.le_of_ble_eq_true rfl) (Nat.le_of_ble_eq_true rfl) dX10_forge_15
set_option maxHeartbeats 4000000 in
set_option maxRecDepth 100000 in
theorem c_X10_find {l : Launch} {D : va_G} {kA : Nat → ClassId} {M : mM} {T : mT} {sz : Nat} {h al mt ii pa li : Nat} {f : Nat → Int32} {b by_ : Int32} (hc_h : M h = some (.inr (8, [.ref al, .ref mt, .ref ii, .int 0, .int (-1), .ref pa, .int 0, .int 0, .int 0, .int 0, .int 0, .long 0, .int 0, .ref li]))) (hc_al : M al = some (.inl (kA 0, 7506, .inl f))) (hfi : ∀ j, j < 1140 → f j = mIni j) : mCi l yX10_find cX10_find 3 (some .int) 4 0 0 D kA M T sz [.ref h, .int b, .int by_] (fun r u => (r = 30) ∧ u.2 = T ∧ (∀ q, q ≠ al → u.1 q = M q)) := by
  unfold mCi
  refine start_W (by decide) (Nat.le_of_ble_eq_true rfl) ?_
  intro p e s m below meth c ls hC hr hlk hnm hK hH hsz hl
  have hx := hC.1
  have hb := hC.2.1
  have hl : lv_has ls 3 [(0, .ref h), (1, .int b), (2, .int by_)] := hl
  have hF : ∀ q, q ≠ al → M q = M q := fun q _ => rfl
  have n_h_al : h ≠ al := neM hc_h hc_al (by simp)
  have n_al_h : al ≠ h := neM hc_al hc_h (by simp)
  refine lv_aload_n hx hb dX10_find_0 rfl (lv_at hl 0 rfl) ?_
  refine lv_aload_n hx hb dX10_find_1 rfl (lv_at hl 0 rfl) ?_
  refine lv_iload_n hx hb dX10_find_2 rfl (lv_at hl 1 rfl) ?_
  refine lv_iload_n hx hb dX10_find_3 rfl (lv_at hl 2 rfl) ?_
  refine goI hK hH (runV (As := [.int b, .int by_]) (rest := [.ref h]) hC hK hH (c_X10_finds hc_h hc_al hfi) mlX10_137 (rcvM hK hH hc_h rfl) ⟨⟨Nat.le_of_ble_eq_true rfl, Nat.le_of_ble_eq_true rfl⟩, Nat.le_of_ble_eq_true rfl, Nat.le_of_ble_eq_true rfl⟩ rfl hl.1 rfl (Nat.le_of_ble_eq_true rfl) dX10_find_4) (fun rq3_ Mq1_ Tq2_ Hq_ lcq_ hP hz hH => ?_)
  try dsimp only at hP
  obtain ⟨(rfl), eT, eM⟩ := hP
  have eT := eT.symm; subst eT
  have eM := eM.symm; subst eM
  refine goI hK hH (runV (As := [.int 30]) (rest := []) hC hK hH (c_X10_told hc_h hc_al) mlX10_97 (rcvM hK hH hc_h rfl) ⟨⟨Nat.le_of_ble_eq_true rfl, Nat.le_of_ble_eq_true rfl⟩, Nat.le_of_ble_eq_true rfl, Nat.le_of_ble_eq_true rfl⟩ rfl hl.1 rfl (Nat.le_of_ble_eq_true rfl) dX10_find_7) (fun rq6_ Mq4_ Tq5_ Hq_ lcq_ hP hz hH => ?_)
  try dsimp only at hP
  obtain ⟨gq7_, h_gq7_, (⟨rfl, hx_al⟩), eT, hfr⟩ := hP
  have eT := eT.symm; subst eT
  have hc_h : Mq4_ h = some (.inr (8, [.ref al, .ref mt, .ref ii, .int 0, .int (-1), .ref pa, .int 0, .int 0, .int 0, .int 0, .int 0, .long 0, .int 0, .ref li])) := (hfr h n_h_al).trans hc_h
  have hc_al : Mq4_ al = some (.inl (kA 0, 7506, .inl gq7_)) := hx_al
  have hF : ∀ q, q ≠ al → Mq4_ q = M q := fun q h0 => (hfr q h0).trans (hF q h0)
  exact ret_i hC hr hlk hK hH (⟨rfl, rfl, hF⟩) (Nat.le_of_ble_eq_true rfl) (Nat.le_of_ble_eq_true rfl) dX10_find_10
set_option maxHeartbeats 4000000 in
set_option maxRecDepth 100000 in
theorem c_X10_defend {l : Launch} {D : va_G} {kA : Nat → ClassId} {M : mM} {T : mT} {sz : Nat} {h al mt ii pa li : Nat} {f : Nat → Int32} {b pt re : Int32} (hc_h : M h = some (.inr (8, [.ref al, .ref mt, .ref ii, .int 0, .int (-1), .ref pa, .int 0, .int 0, .int 0, .int 0, .int 0, .long 0, .int 0, .ref li]))) (hc_al : M al = some (.inl (kA 0, 7506, .inl f))) (hfi : ∀ j, j < 1140 → f j = mIni j) : mCi l yX10_defend cX10_defend 4 (some .int) 4 0 0 D kA M T sz [.ref h, .int b, .int pt, .int re] (fun r u => (r = 30) ∧ u.2 = T ∧ (∀ q, q ≠ al → u.1 q = M q)) := by
  unfold mCi
  refine start_W (by decide) (Nat.le_of_ble_eq_true rfl) ?_
  intro p e s m below meth c ls hC hr hlk hnm hK hH hsz hl
  have hx := hC.1
  have hb := hC.2.1
  have hl : lv_has ls 4 [(0, .ref h), (1, .int b), (2, .int pt), (3, .int re)] := hl
  have hF : ∀ q, q ≠ al → M q = M q := fun q _ => rfl
  have n_h_al : h ≠ al := neM hc_h hc_al (by simp)
  have n_al_h : al ≠ h := neM hc_al hc_h (by simp)
  refine lv_aload_n hx hb dX10_defend_0 rfl (lv_at hl 0 rfl) ?_
  refine lv_aload_n hx hb dX10_defend_1 rfl (lv_at hl 0 rfl) ?_
  refine lv_iload_n hx hb dX10_defend_2 rfl (lv_at hl 1 rfl) ?_
  refine lv_iload_n hx hb dX10_defend_3 rfl (lv_at hl 2 rfl) ?_
  refine lv_iload_n hx hb dX10_defend_4 rfl (lv_at hl 3 rfl) ?_
  refine goI hK hH (runV (As := [.int b, .int pt, .int re]) (rest := [.ref h]) hC hK hH (c_X10_defends hc_h hc_al hfi) mlX10_146 (rcvM hK hH hc_h rfl) ⟨⟨Nat.le_of_ble_eq_true rfl, Nat.le_of_ble_eq_true rfl⟩, Nat.le_of_ble_eq_true rfl, Nat.le_of_ble_eq_true rfl⟩ rfl hl.1 rfl (Nat.le_of_ble_eq_true rfl) dX10_defend_5) (fun rq3_ Mq1_ Tq2_ Hq_ lcq_ hP hz hH => ?_)
  try dsimp only at hP
  obtain ⟨(rfl), eT, eM⟩ := hP
  have eT := eT.symm; subst eT
  have eM := eM.symm; subst eM
  refine goI hK hH (runV (As := [.int 30]) (rest := []) hC hK hH (c_X10_told hc_h hc_al) mlX10_97 (rcvM hK hH hc_h rfl) ⟨⟨Nat.le_of_ble_eq_true rfl, Nat.le_of_ble_eq_true rfl⟩, Nat.le_of_ble_eq_true rfl, Nat.le_of_ble_eq_true rfl⟩ rfl hl.1 rfl (Nat.le_of_ble_eq_true rfl) dX10_defend_8) (fun rq6_ Mq4_ Tq5_ Hq_ lcq_ hP hz hH => ?_)
  try dsimp only at hP
  obtain ⟨gq7_, h_gq7_, (⟨rfl, hx_al⟩), eT, hfr⟩ := hP
  have eT := eT.symm; subst eT
  have hc_h : Mq4_ h = some (.inr (8, [.ref al, .ref mt, .ref ii, .int 0, .int (-1), .ref pa, .int 0, .int 0, .int 0, .int 0, .int 0, .long 0, .int 0, .ref li])) := (hfr h n_h_al).trans hc_h
  have hc_al : Mq4_ al = some (.inl (kA 0, 7506, .inl gq7_)) := hx_al
  have hF : ∀ q, q ≠ al → Mq4_ q = M q := fun q h0 => (hfr q h0).trans (hF q h0)
  exact ret_i hC hr hlk hK hH (⟨rfl, rfl, hF⟩) (Nat.le_of_ble_eq_true rfl) (Nat.le_of_ble_eq_true rfl) dX10_defend_11
set_option maxHeartbeats 4000000 in
set_option maxRecDepth 100000 in
theorem c_X10_present {l : Launch} {D : va_G} {kA : Nat → ClassId} {M : mM} {T : mT} {sz : Nat} {h al mt ii pa li : Nat} {f : Nat → Int32} {b : Int32} (hc_h : M h = some (.inr (8, [.ref al, .ref mt, .ref ii, .int 0, .int (-1), .ref pa, .int 0, .int 0, .int 0, .int 0, .int 0, .long 0, .int 0, .ref li]))) (hc_al : M al = some (.inl (kA 0, 7506, .inl f))) (hfi : ∀ j, j < 1140 → f j = mIni j) : mCi l yX10_present cX10_present 4 (some .int) 3 0 0 D kA M T sz [.ref h, .int b] (fun r u => (r = 30) ∧ u.2 = T ∧ (∀ q, q ≠ al → u.1 q = M q)) := by
  unfold mCi
  refine start_W (by decide) (Nat.le_of_ble_eq_true rfl) ?_
  intro p e s m below meth c ls hC hr hlk hnm hK hH hsz hl
  have hx := hC.1
  have hb := hC.2.1
  have hl : lv_has ls 4 [(0, .ref h), (1, .int b)] := hl
  have hF : ∀ q, q ≠ al → M q = M q := fun q _ => rfl
  have n_h_al : h ≠ al := neM hc_h hc_al (by simp)
  have n_al_h : al ≠ h := neM hc_al hc_h (by simp)
  refine lv_aload_n hx hb dX10_present_0 rfl (lv_at hl 0 rfl) ?_
  refine lv_iload_n hx hb dX10_present_1 rfl (lv_at hl 1 rfl) ?_
  refine goI hK hH (runV (As := [.int b]) (rest := []) hC hK hH (c_X10_presents hc_h hc_al hfi) mlX10_153 (rcvM hK hH hc_h rfl) ⟨⟨Nat.le_of_ble_eq_true rfl, Nat.le_of_ble_eq_true rfl⟩, Nat.le_of_ble_eq_true rfl, Nat.le_of_ble_eq_true rfl⟩ rfl hl.1 rfl (Nat.le_of_ble_eq_true rfl) dX10_present_2) (fun rq3_ Mq1_ Tq2_ Hq_ lcq_ hP hz hH => ?_)
  try dsimp only at hP
  obtain ⟨(rfl), eT, eM⟩ := hP
  have eT := eT.symm; subst eT
  have eM := eM.symm; subst eM
  refine lv_istore_n (lv' := [(2, .int 30), (0, .ref h), (1, .int b)]) hx hb dX10_present_5 rfl hl (by decide) rfl (fun ls hl => ?_)
  refine lv_aload_n hx hb dX10_present_6 rfl (lv_at hl 1 rfl) ?_
  refine lv_iload_n hx hb dX10_present_7 rfl (lv_at hl 0 rfl) ?_
  refine lv_iconst (v := 1) hx hb dX10_present_8 (by decide) ?_
  refine jic_le (tgt := 16) hx hb dX10_present_9 (by decide) (fun cq4_ => absurd cq4_ (by decide)) (fun cq4_ => ?_)
  refine lv_iload_n hx hb dX10_present_12 rfl (lv_at hl 0 rfl) ?_
  refine lv_goto (tgt := 17) hx hb dX10_present_13 (by decide) ?_
  refine goI hK hH (runV (As := [.int 30]) (rest := []) hC hK hH (c_X10_told hc_h hc_al) mlX10_97 (rcvM hK hH hc_h rfl) ⟨⟨Nat.le_of_ble_eq_true rfl, Nat.le_of_ble_eq_true rfl⟩, Nat.le_of_ble_eq_true rfl, Nat.le_of_ble_eq_true rfl⟩ rfl hl.1 rfl (Nat.le_of_ble_eq_true rfl) dX10_present_17) (fun rq7_ Mq5_ Tq6_ Hq_ lcq_ hP hz hH => ?_)
  try dsimp only at hP
  obtain ⟨gq8_, h_gq8_, (⟨rfl, hx_al⟩), eT, hfr⟩ := hP
  have eT := eT.symm; subst eT
  have hc_h : Mq5_ h = some (.inr (8, [.ref al, .ref mt, .ref ii, .int 0, .int (-1), .ref pa, .int 0, .int 0, .int 0, .int 0, .int 0, .long 0, .int 0, .ref li])) := (hfr h n_h_al).trans hc_h
  have hc_al : Mq5_ al = some (.inl (kA 0, 7506, .inl gq8_)) := hx_al
  have hF : ∀ q, q ≠ al → Mq5_ q = M q := fun q h0 => (hfr q h0).trans (hF q h0)
  refine lv_istore_n (lv' := [(3, .int 30), (2, .int 30), (0, .ref h), (1, .int b)]) hx hb dX10_present_20 rfl hl (by decide) rfl (fun ls hl => ?_)
  refine lv_iload_n hx hb dX10_present_21 rfl (lv_at hl 1 rfl) ?_
  exact ret_i hC hr hlk hK hH (⟨rfl, rfl, hF⟩) (Nat.le_of_ble_eq_true rfl) (Nat.le_of_ble_eq_true rfl) dX10_present_22
set_option maxHeartbeats 4000000 in
set_option maxRecDepth 100000 in
theorem c_X10_tell {l : Launch} {D : va_G} {kA : Nat → ClassId} {M : mM} {T : mT} {sz : Nat} {h al mt ii pa li : Nat} {f : Nat → Int32} {b fr to : Int32} (hc_h : M h = some (.inr (8, [.ref al, .ref mt, .ref ii, .int 0, .int (-1), .ref pa, .int 0, .int 0, .int 0, .int 0, .int 0, .long 0, .int 0, .ref li]))) (hc_al : M al = some (.inl (kA 0, 7506, .inl f))) (hfi : ∀ j, j < 1140 → f j = mIni j) : mCi l yX10_tell cX10_tell 4 (some .int) 4 0 0 D kA M T sz [.ref h, .int b, .int fr, .int to] (fun r u => (r = 30) ∧ u.2 = T ∧ (∀ q, q ≠ al → u.1 q = M q)) := by
  unfold mCi
  refine start_W (by decide) (Nat.le_of_ble_eq_true rfl) ?_
  intro p e s m below meth c ls hC hr hlk hnm hK hH hsz hl
  have hx := hC.1
  have hb := hC.2.1
  have hl : lv_has ls 4 [(0, .ref h), (1, .int b), (2, .int fr), (3, .int to)] := hl
  have hF : ∀ q, q ≠ al → M q = M q := fun q _ => rfl
  have n_h_al : h ≠ al := neM hc_h hc_al (by simp)
  have n_al_h : al ≠ h := neM hc_al hc_h (by simp)
  refine lv_aload_n hx hb dX10_tell_0 rfl (lv_at hl 0 rfl) ?_
  refine lv_aload_n hx hb dX10_tell_1 rfl (lv_at hl 0 rfl) ?_
  refine lv_iload_n hx hb dX10_tell_2 rfl (lv_at hl 1 rfl) ?_
  refine lv_iload_n hx hb dX10_tell_3 rfl (lv_at hl 2 rfl) ?_
  refine lv_iload_n hx hb dX10_tell_4 rfl (lv_at hl 3 rfl) ?_
  refine goI hK hH (runV (As := [.int b, .int fr, .int to]) (rest := [.ref h]) hC hK hH (c_X10_notifies hc_h hc_al hfi) mlX10_156 (rcvM hK hH hc_h rfl) ⟨⟨Nat.le_of_ble_eq_true rfl, Nat.le_of_ble_eq_true rfl⟩, Nat.le_of_ble_eq_true rfl, Nat.le_of_ble_eq_true rfl⟩ rfl hl.1 rfl (Nat.le_of_ble_eq_true rfl) dX10_tell_5) (fun rq3_ Mq1_ Tq2_ Hq_ lcq_ hP hz hH => ?_)
  try dsimp only at hP
  obtain ⟨(rfl), eT, eM⟩ := hP
  have eT := eT.symm; subst eT
  have eM := eM.symm; subst eM
  refine goI hK hH (runV (As := [.int 30]) (rest := []) hC hK hH (c_X10_told hc_h hc_al) mlX10_97 (rcvM hK hH hc_h rfl) ⟨⟨Nat.le_of_ble_eq_true rfl, Nat.le_of_ble_eq_true rfl⟩, Nat.le_of_ble_eq_true rfl, Nat.le_of_ble_eq_true rfl⟩ rfl hl.1 rfl (Nat.le_of_ble_eq_true rfl) dX10_tell_8) (fun rq6_ Mq4_ Tq5_ Hq_ lcq_ hP hz hH => ?_)
  try dsimp only at hP
  obtain ⟨gq7_, h_gq7_, (⟨rfl, hx_al⟩), eT, hfr⟩ := hP
  have eT := eT.symm; subst eT
  have hc_h : Mq4_ h = some (.inr (8, [.ref al, .ref mt, .ref ii, .int 0, .int (-1), .ref pa, .int 0, .int 0, .int 0, .int 0, .int 0, .long 0, .int 0, .ref li])) := (hfr h n_h_al).trans hc_h
  have hc_al : Mq4_ al = some (.inl (kA 0, 7506, .inl gq7_)) := hx_al
  have hF : ∀ q, q ≠ al → Mq4_ q = M q := fun q h0 => (hfr q h0).trans (hF q h0)
  exact ret_i hC hr hlk hK hH (⟨rfl, rfl, hF⟩) (Nat.le_of_ble_eq_true rfl) (Nat.le_of_ble_eq_true rfl) dX10_tell_11
set_option maxHeartbeats 4000000 in
set_option maxRecDepth 100000 in
theorem c_X10_release {l : Launch} {D : va_G} {kA : Nat → ClassId} {M : mM} {T : mT} {sz : Nat} {h al mt ii pa li : Nat} {f : Nat → Int32} {b pt : Int32} (hc_h : M h = some (.inr (8, [.ref al, .ref mt, .ref ii, .int 0, .int (-1), .ref pa, .int 0, .int 0, .int 0, .int 0, .int 0, .long 0, .int 0, .ref li]))) (hc_al : M al = some (.inl (kA 0, 7506, .inl f))) (hfi : ∀ j, j < 1140 → f j = mIni j) : mCi l yX10_release cX10_release 3 (some .int) 4 0 0 D kA M T sz [.ref h, .int b, .int pt] (fun r u => (r = 30) ∧ u.2 = T ∧ (∀ q, q ≠ al → u.1 q = M q)) := by
  unfold mCi
  refine start_W (by decide) (Nat.le_of_ble_eq_true rfl) ?_
  intro p e s m below meth c ls hC hr hlk hnm hK hH hsz hl
  have hx := hC.1
  have hb := hC.2.1
  have hl : lv_has ls 3 [(0, .ref h), (1, .int b), (2, .int pt)] := hl
  have hF : ∀ q, q ≠ al → M q = M q := fun q _ => rfl
  have n_h_al : h ≠ al := neM hc_h hc_al (by simp)
  have n_al_h : al ≠ h := neM hc_al hc_h (by simp)
  refine lv_aload_n hx hb dX10_release_0 rfl (lv_at hl 0 rfl) ?_
  refine lv_aload_n hx hb dX10_release_1 rfl (lv_at hl 0 rfl) ?_
  refine lv_iload_n hx hb dX10_release_2 rfl (lv_at hl 1 rfl) ?_
  refine lv_iload_n hx hb dX10_release_3 rfl (lv_at hl 2 rfl) ?_
  refine goI hK hH (runV (As := [.int b, .int pt]) (rest := [.ref h]) hC hK hH (c_X10_releases hc_h hc_al hfi) mlX10_159 (rcvM hK hH hc_h rfl) ⟨⟨Nat.le_of_ble_eq_true rfl, Nat.le_of_ble_eq_true rfl⟩, Nat.le_of_ble_eq_true rfl, Nat.le_of_ble_eq_true rfl⟩ rfl hl.1 rfl (Nat.le_of_ble_eq_true rfl) dX10_release_4) (fun rq3_ Mq1_ Tq2_ Hq_ lcq_ hP hz hH => ?_)
  try dsimp only at hP
  obtain ⟨(rfl), eT, eM⟩ := hP
  have eT := eT.symm; subst eT
  have eM := eM.symm; subst eM
  refine goI hK hH (runV (As := [.int 30]) (rest := []) hC hK hH (c_X10_told hc_h hc_al) mlX10_97 (rcvM hK hH hc_h rfl) ⟨⟨Nat.le_of_ble_eq_true rfl, Nat.le_of_ble_eq_true rfl⟩, Nat.le_of_ble_eq_true rfl, Nat.le_of_ble_eq_true rfl⟩ rfl hl.1 rfl (Nat.le_of_ble_eq_true rfl) dX10_release_7) (fun rq6_ Mq4_ Tq5_ Hq_ lcq_ hP hz hH => ?_)
  try dsimp only at hP
  obtain ⟨gq7_, h_gq7_, (⟨rfl, hx_al⟩), eT, hfr⟩ := hP
  have eT := eT.symm; subst eT
  have hc_h : Mq4_ h = some (.inr (8, [.ref al, .ref mt, .ref ii, .int 0, .int (-1), .ref pa, .int 0, .int 0, .int 0, .int 0, .int 0, .long 0, .int 0, .ref li])) := (hfr h n_h_al).trans hc_h
  have hc_al : Mq4_ al = some (.inl (kA 0, 7506, .inl gq7_)) := hx_al
  have hF : ∀ q, q ≠ al → Mq4_ q = M q := fun q h0 => (hfr q h0).trans (hF q h0)
  exact ret_i hC hr hlk hK hH (⟨rfl, rfl, hF⟩) (Nat.le_of_ble_eq_true rfl) (Nat.le_of_ble_eq_true rfl) dX10_release_10
set_option maxHeartbeats 4000000 in
set_option maxRecDepth 100000 in
theorem c_X10_pay {l : Launch} {D : va_G} {kA : Nat → ClassId} {M : mM} {T : mT} {sz : Nat} {h al mt ii pa li : Nat} {f : Nat → Int32} {b pt : Int32} (hc_h : M h = some (.inr (8, [.ref al, .ref mt, .ref ii, .int 0, .int (-1), .ref pa, .int 0, .int 0, .int 0, .int 0, .int 0, .long 0, .int 0, .ref li]))) (hc_al : M al = some (.inl (kA 0, 7506, .inl f))) (hfi : ∀ j, j < 1140 → f j = mIni j) : mCi l yX10_pay cX10_pay 3 (some .int) 3 0 0 D kA M T sz [.ref h, .int b, .int pt] (fun r u => (r = 30) ∧ u.2 = T ∧ (∀ q, q ≠ al → u.1 q = M q)) := by
  unfold mCi
  refine start_W (by decide) (Nat.le_of_ble_eq_true rfl) ?_
  intro p e s m below meth c ls hC hr hlk hnm hK hH hsz hl
  have hx := hC.1
  have hb := hC.2.1
  have hl : lv_has ls 3 [(0, .ref h), (1, .int b), (2, .int pt)] := hl
  have hF : ∀ q, q ≠ al → M q = M q := fun q _ => rfl
  have n_h_al : h ≠ al := neM hc_h hc_al (by simp)
  have n_al_h : al ≠ h := neM hc_al hc_h (by simp)
  refine lv_aload_n hx hb dX10_pay_0 rfl (lv_at hl 0 rfl) ?_
  refine lv_aload_n hx hb dX10_pay_1 rfl (lv_at hl 0 rfl) ?_
  refine lv_iload_n hx hb dX10_pay_2 rfl (lv_at hl 1 rfl) ?_
  refine lv_iload_n hx hb dX10_pay_3 rfl (lv_at hl 2 rfl) ?_
  refine goI hK hH (runV (As := [.int b, .int pt]) (rest := [.ref h]) hC hK hH (c_X10_paysNow hc_h hc_al hfi) mlX10_162 (rcvM hK hH hc_h rfl) ⟨⟨Nat.le_of_ble_eq_true rfl, Nat.le_of_ble_eq_true rfl⟩, Nat.le_of_ble_eq_true rfl, Nat.le_of_ble_eq_true rfl⟩ rfl hl.1 rfl (Nat.le_of_ble_eq_true rfl) dX10_pay_4) (fun rq3_ Mq1_ Tq2_ Hq_ lcq_ hP hz hH => ?_)
  try dsimp only at hP
  obtain ⟨(rfl), eT, eM⟩ := hP
  have eT := eT.symm; subst eT
  have eM := eM.symm; subst eM
  refine goI hK hH (runV (As := [.int 30]) (rest := []) hC hK hH (c_X10_told hc_h hc_al) mlX10_97 (rcvM hK hH hc_h rfl) ⟨⟨Nat.le_of_ble_eq_true rfl, Nat.le_of_ble_eq_true rfl⟩, Nat.le_of_ble_eq_true rfl, Nat.le_of_ble_eq_true rfl⟩ rfl hl.1 rfl (Nat.le_of_ble_eq_true rfl) dX10_pay_7) (fun rq6_ Mq4_ Tq5_ Hq_ lcq_ hP hz hH => ?_)
  try dsimp only at hP
  obtain ⟨gq7_, h_gq7_, (⟨rfl, hx_al⟩), eT, hfr⟩ := hP
  have eT := eT.symm; subst eT
  have hc_h : Mq4_ h = some (.inr (8, [.ref al, .ref mt, .ref ii, .int 0, .int (-1), .ref pa, .int 0, .int 0, .int 0, .int 0, .int 0, .long 0, .int 0, .ref li])) := (hfr h n_h_al).trans hc_h
  have hc_al : Mq4_ al = some (.inl (kA 0, 7506, .inl gq7_)) := hx_al
  have hF : ∀ q, q ≠ al → Mq4_ q = M q := fun q h0 => (hfr q h0).trans (hF q h0)
  exact ret_i hC hr hlk hK hH (⟨rfl, rfl, hF⟩) (Nat.le_of_ble_eq_true rfl) (Nat.le_of_ble_eq_true rfl) dX10_pay_10
set_option maxHeartbeats 4000000 in
set_option maxRecDepth 100000 in
theorem c_X10_count {l : Launch} {D : va_G} {kA : Nat → ClassId} {M : mM} {T : mT} {sz : Nat} {h al mt ii pa li : Nat} {f : Nat → Int32} {wh : Int32} (hc_h : M h = some (.inr (8, [.ref al, .ref mt, .ref ii, .int 0, .int (-1), .ref pa, .int 0, .int 0, .int 0, .int 0, .int 0, .long 0, .int 0, .ref li]))) (hc_al : M al = some (.inl (kA 0, 7506, .inl f))) (hfi : ∀ j, j < 1140 → f j = mIni j) : mCi l yX10_count cX10_count 4 (some .int) 1 0 0 D kA M T sz [.ref h, .int wh] (fun r u => ((wh.toInt = 2 ∧ r = 2) ∨ (wh.toInt = 3 ∧ r = 800) ∨ ((10 ≤ wh.toInt ∧ wh.toInt ≤ 17) ∧ r = 100) ∨ ((0 ≤ wh.toInt ∧ wh.toInt ≤ 8 ∧ wh.toInt ≠ 2 ∧ wh.toInt ≠ 3) ∧ r = 0) ∨ ((¬ (0 ≤ wh.toInt ∧ wh.toInt ≤ 8) ∧ ¬ (10 ≤ wh.toInt ∧ wh.toInt ≤ 17)) ∧ r = -1)) ∧ u.2 = T ∧ u.1 = M) := by
  unfold mCi
  refine start_W (by decide) (Nat.le_of_ble_eq_true rfl) ?_
  intro p e s m below meth c ls hC hr hlk hnm hK hH hsz hl
  have hx := hC.1
  have hb := hC.2.1
  have hl : lv_has ls 4 [(0, .ref h), (1, .int wh)] := hl
  have n_h_al : h ≠ al := neM hc_h hc_al (by simp)
  have n_al_h : al ≠ h := neM hc_al hc_h (by simp)
  refine lv_iload_n hx hb dX10_count_0 rfl (lv_at hl 1 rfl) ?_
  refine lv_bipush (v := 10) hx hb dX10_count_1 (by decide) ?_
  refine lv_bipush (v := 17) hx hb dX10_count_3 (by decide) ?_
  refine goI hK hH (runS (As := [.int wh, .int 10, .int 17]) (rest := []) hC hK hH (c_X10_isIn) mlX10_33 ⟨⟨Nat.le_of_ble_eq_true rfl, Nat.le_of_ble_eq_true rfl⟩, Nat.le_of_ble_eq_true rfl, Nat.le_of_ble_eq_true rfl⟩ rfl hl.1 rfl (Nat.le_of_ble_eq_true rfl) dX10_count_5) (fun rq3_ Mq1_ Tq2_ Hq_ lcq_ hP hz hH => ?_)
  try dsimp only at hP
  obtain ⟨(⟨cq4_, rfl⟩ | ⟨cq5_, rfl⟩), eT, eM⟩ := hP
  · skip
    have eT := eT.symm; subst eT
    have eM := eM.symm; subst eM
    have cq4_ : (10 : Int) ≤ wh.toInt ∧ wh.toInt ≤ (17 : Int) := cq4_
    refine jif_eq (tgt := 24) hx hb dX10_count_8 (by decide) (fun cq6_ => absurd cq6_ (by decide)) (fun cq6_ => ?_)
    refine lv_aload_n hx hb dX10_count_11 rfl (lv_at hl 0 rfl) ?_
    refine xg hC hK hH flX10_7 hc_h rfl dX10_count_12 ?_
    refine lv_bipush (v := 6) hx hb dX10_count_15 (by decide) ?_
    refine lv_iload_n hx hb dX10_count_17 rfl (lv_at hl 1 rfl) ?_
    refine lv_iadd hx hb dX10_count_18 ?_
    refine lv_topi (fun zq7_ e_zq7_ => ?_)
    have h_zq7_ : zq7_.toInt = 6 + wh.toInt := by rw [e_zq7_, iAdd (by have : (6 : Int32).toInt = 6 := rfl; have := iRg wh; omega) (by have : (6 : Int32).toInt = 6 := rfl; have := iRg wh; omega)]; rfl
    refine lv_bipush (v := 10) hx hb dX10_count_19 (by decide) ?_
    refine lv_isub hx hb dX10_count_21 ?_
    refine lv_topi (fun zq8_ e_zq8_ => ?_)
    have h_zq8_ : zq8_.toInt = zq7_.toInt - 10 := by rw [e_zq8_, iSub (by have := iRg zq7_; have : (10 : Int32).toInt = 10 := rfl; omega) (by have := iRg zq7_; have : (10 : Int32).toInt = 10 := rfl; omega)]; rfl
    refine xild hC hK hH hc_al (iIn (by omega) (by omega)) dX10_count_22 ?_
    refine lv_cst (v := 100) ((hfi _ (by have := iCl (x := zq8_) (by omega); omega)).trans (mIni_cash (by have := iCl (x := zq8_) (by omega); omega) (by have := iCl (x := zq8_) (by omega); omega))) ?_
    subst e_zq8_
    subst e_zq7_
    exact ret_i hC hr hlk hK hH (⟨Or.inr (Or.inr (Or.inl (⟨by omega, rfl⟩))), rfl, rfl⟩) (Nat.le_of_ble_eq_true rfl) (Nat.le_of_ble_eq_true rfl) dX10_count_23
  · skip
    have eT := eT.symm; subst eT
    have eM := eM.symm; subst eM
    have cq5_ : ¬ ((10 : Int) ≤ wh.toInt ∧ wh.toInt ≤ (17 : Int)) := cq5_
    refine jif_eq (tgt := 24) hx hb dX10_count_8 (by decide) (fun cq9_ => ?_) (fun cq9_ => absurd cq9_ (by decide))
    refine lv_iload_n hx hb dX10_count_24 rfl (lv_at hl 1 rfl) ?_
    rcases (show wh.toInt < 0 ∨ 8 < wh.toInt ∨ wh.toInt = 0 ∨ wh.toInt = 1 ∨ wh.toInt = 2 ∨ wh.toInt = 3 ∨ wh.toInt = 4 ∨ wh.toInt = 5 ∨ wh.toInt = 6 ∨ wh.toInt = 7 ∨ wh.toInt = 8 by omega) with cq10_ | cq10_ | cq10_ | cq10_ | cq10_ | cq10_ | cq10_ | cq10_ | cq10_ | cq10_ | cq10_
    · skip
      refine lv_tableOut (tgt := 159) hx hb dX10_count_25 (Or.inl cq10_) (by decide) ?_
      refine lv_iconst (v := -1) hx hb dX10_count_159 (by decide) ?_
      exact ret_i hC hr hlk hK hH (⟨Or.inr (Or.inr (Or.inr (Or.inr (⟨by omega, rfl⟩)))), rfl, rfl⟩) (Nat.le_of_ble_eq_true rfl) (Nat.le_of_ble_eq_true rfl) dX10_count_160
    · skip
      refine lv_tableOut (tgt := 159) hx hb dX10_count_25 (Or.inr cq10_) (by decide) ?_
      refine lv_iconst (v := -1) hx hb dX10_count_159 (by decide) ?_
      exact ret_i hC hr hlk hK hH (⟨Or.inr (Or.inr (Or.inr (Or.inr (⟨by omega, rfl⟩)))), rfl, rfl⟩) (Nat.le_of_ble_eq_true rfl) (Nat.le_of_ble_eq_true rfl) dX10_count_160
    · skip
      refine lv_tableIn (off := 51) (tgt := 76) hx hb dX10_count_25 (by omega) (by omega) (by rw [cq10_]; rfl) (by decide) ?_
      refine lv_aload_n hx hb dX10_count_76 rfl (lv_at hl 0 rfl) ?_
      refine xg hC hK hH flX10_7 hc_h rfl dX10_count_77 ?_
      refine lv_iconst (v := 0) hx hb dX10_count_80 (by decide) ?_
      refine xild hC hK hH hc_al (iIn (by decide) (by decide)) dX10_count_81 ?_
      refine lv_cst (v := 0) ((hfi _ (by decide)).trans (by decide)) ?_
      exact ret_i hC hr hlk hK hH (⟨Or.inr (Or.inr (Or.inr (Or.inl (⟨by omega, rfl⟩)))), rfl, rfl⟩) (Nat.le_of_ble_eq_true rfl) (Nat.le_of_ble_eq_true rfl) dX10_count_82
    · skip
      refine lv_tableIn (off := 58) (tgt := 83) hx hb dX10_count_25 (by omega) (by omega) (by rw [cq10_]; rfl) (by decide) ?_
      refine lv_aload_n hx hb dX10_count_83 rfl (lv_at hl 0 rfl) ?_
      refine xg hC hK hH flX10_7 hc_h rfl dX10_count_84 ?_
      refine lv_iconst (v := 1) hx hb dX10_count_87 (by decide) ?_
      refine xild hC hK hH hc_al (iIn (by decide) (by decide)) dX10_count_88 ?_
      refine lv_cst (v := 0) ((hfi _ (by decide)).trans (by decide)) ?_
      exact ret_i hC hr hlk hK hH (⟨Or.inr (Or.inr (Or.inr (Or.inl (⟨by omega, rfl⟩)))), rfl, rfl⟩) (Nat.le_of_ble_eq_true rfl) (Nat.le_of_ble_eq_true rfl) dX10_count_89
    · skip
      refine lv_tableIn (off := 65) (tgt := 90) hx hb dX10_count_25 (by omega) (by omega) (by rw [cq10_]; rfl) (by decide) ?_
      refine lv_aload_n hx hb dX10_count_90 rfl (lv_at hl 0 rfl) ?_
      refine xg hC hK hH flX10_7 hc_h rfl dX10_count_91 ?_
      refine lv_iconst (v := 2) hx hb dX10_count_94 (by decide) ?_
      refine xild hC hK hH hc_al (iIn (by decide) (by decide)) dX10_count_95 ?_
      refine lv_cst (v := 2) ((hfi _ (by decide)).trans (by decide)) ?_
      exact ret_i hC hr hlk hK hH (⟨Or.inl (⟨by omega, rfl⟩), rfl, rfl⟩) (Nat.le_of_ble_eq_true rfl) (Nat.le_of_ble_eq_true rfl) dX10_count_96
    · skip
      refine lv_tableIn (off := 72) (tgt := 97) hx hb dX10_count_25 (by omega) (by omega) (by rw [cq10_]; rfl) (by decide) ?_
      refine lv_iconst (v := 0) hx hb dX10_count_97 (by decide) ?_
      refine lv_istore_n (lv' := [(2, .int 0), (0, .ref h), (1, .int wh)]) hx hb dX10_count_98 rfl hl (by decide) rfl (fun ls hl => ?_)
      refine lv_iconst (v := 0) hx hb dX10_count_99 (by decide) ?_
      refine lv_istore_n (lv' := [(3, .int 0), (2, .int 0), (0, .ref h), (1, .int wh)]) hx hb dX10_count_100 rfl hl (by decide) rfl (fun ls hl => ?_)
      refine lv_iload_n hx hb dX10_count_101 rfl (lv_at hl 0 rfl) ?_
      refine lv_bipush (v := 8) hx hb dX10_count_102 (by decide) ?_
      refine jic_ge (tgt := 125) hx hb dX10_count_104 (by decide) (fun cq11_ => absurd cq11_ (by decide)) (fun cq11_ => ?_)
      refine lv_iload_n hx hb dX10_count_107 rfl (lv_at hl 1 rfl) ?_
      refine lv_aload_n hx hb dX10_count_108 rfl (lv_at hl 2 rfl) ?_
      refine xg hC hK hH flX10_7 hc_h rfl dX10_count_109 ?_
      refine lv_bipush (v := 6) hx hb dX10_count_112 (by decide) ?_
      refine lv_iload_n hx hb dX10_count_114 rfl (lv_at hl 0 rfl) ?_
      refine lv_iadd hx hb dX10_count_115 ?_
      refine lv_cst (v := 6) (by decide) ?_
      refine xild hC hK hH hc_al (iIn (by decide) (by decide)) dX10_count_116 ?_
      refine lv_cst (v := 100) ((hfi _ (by decide)).trans (by decide)) ?_
      refine lv_iadd hx hb dX10_count_117 ?_
      refine lv_cst (v := 100) (by decide) ?_
      refine lv_istore_n (lv' := [(2, .int 100), (3, .int 0), (0, .ref h), (1, .int wh)]) hx hb dX10_count_118 rfl hl (by decide) rfl (fun ls hl => ?_)
      refine lv_iinc (v := 1) (lv' := [(3, .int 1), (2, .int 100), (0, .ref h), (1, .int wh)]) hx hb dX10_count_119 hl (k := 1) rfl (by decide) (by decide) rfl (fun ls hl => ?_)
      refine lv_goto (tgt := 101) hx hb dX10_count_122 (by decide) ?_
      refine lv_iload_n hx hb dX10_count_101 rfl (lv_at hl 0 rfl) ?_
      refine lv_bipush (v := 8) hx hb dX10_count_102 (by decide) ?_
      refine jic_ge (tgt := 125) hx hb dX10_count_104 (by decide) (fun cq12_ => absurd cq12_ (by decide)) (fun cq12_ => ?_)
      refine lv_iload_n hx hb dX10_count_107 rfl (lv_at hl 1 rfl) ?_
      refine lv_aload_n hx hb dX10_count_108 rfl (lv_at hl 2 rfl) ?_
      refine xg hC hK hH flX10_7 hc_h rfl dX10_count_109 ?_
      refine lv_bipush (v := 6) hx hb dX10_count_112 (by decide) ?_
      refine lv_iload_n hx hb dX10_count_114 rfl (lv_at hl 0 rfl) ?_
      refine lv_iadd hx hb dX10_count_115 ?_
      refine lv_cst (v := 7) (by decide) ?_
      refine xild hC hK hH hc_al (iIn (by decide) (by decide)) dX10_count_116 ?_
      refine lv_cst (v := 100) ((hfi _ (by decide)).trans (by decide)) ?_
      refine lv_iadd hx hb dX10_count_117 ?_
      refine lv_cst (v := 200) (by decide) ?_
      refine lv_istore_n (lv' := [(2, .int 200), (3, .int 1), (0, .ref h), (1, .int wh)]) hx hb dX10_count_118 rfl hl (by decide) rfl (fun ls hl => ?_)
      refine lv_iinc (v := 2) (lv' := [(3, .int 2), (2, .int 200), (0, .ref h), (1, .int wh)]) hx hb dX10_count_119 hl (k := 1) rfl (by decide) (by decide) rfl (fun ls hl => ?_)
      refine lv_goto (tgt := 101) hx hb dX10_count_122 (by decide) ?_
      refine lv_iload_n hx hb dX10_count_101 rfl (lv_at hl 0 rfl) ?_
      refine lv_bipush (v := 8) hx hb dX10_count_102 (by decide) ?_
      refine jic_ge (tgt := 125) hx hb dX10_count_104 (by decide) (fun cq13_ => absurd cq13_ (by decide)) (fun cq13_ => ?_)
      refine lv_iload_n hx hb dX10_count_107 rfl (lv_at hl 1 rfl) ?_
      refine lv_aload_n hx hb dX10_count_108 rfl (lv_at hl 2 rfl) ?_
      refine xg hC hK hH flX10_7 hc_h rfl dX10_count_109 ?_
      refine lv_bipush (v := 6) hx hb dX10_count_112 (by decide) ?_
      refine lv_iload_n hx hb dX10_count_114 rfl (lv_at hl 0 rfl) ?_
      refine lv_iadd hx hb dX10_count_115 ?_
      refine lv_cst (v := 8) (by decide) ?_
      refine xild hC hK hH hc_al (iIn (by decide) (by decide)) dX10_count_116 ?_
      refine lv_cst (v := 100) ((hfi _ (by decide)).trans (by decide)) ?_
      refine lv_iadd hx hb dX10_count_117 ?_
      refine lv_cst (v := 300) (by decide) ?_
      refine lv_istore_n (lv' := [(2, .int 300), (3, .int 2), (0, .ref h), (1, .int wh)]) hx hb dX10_count_118 rfl hl (by decide) rfl (fun ls hl => ?_)
      refine lv_iinc (v := 3) (lv' := [(3, .int 3), (2, .int 300), (0, .ref h), (1, .int wh)]) hx hb dX10_count_119 hl (k := 1) rfl (by decide) (by decide) rfl (fun ls hl => ?_)
      refine lv_goto (tgt := 101) hx hb dX10_count_122 (by decide) ?_
      refine lv_iload_n hx hb dX10_count_101 rfl (lv_at hl 0 rfl) ?_
      refine lv_bipush (v := 8) hx hb dX10_count_102 (by decide) ?_
      refine jic_ge (tgt := 125) hx hb dX10_count_104 (by decide) (fun cq14_ => absurd cq14_ (by decide)) (fun cq14_ => ?_)
      refine lv_iload_n hx hb dX10_count_107 rfl (lv_at hl 1 rfl) ?_
      refine lv_aload_n hx hb dX10_count_108 rfl (lv_at hl 2 rfl) ?_
      refine xg hC hK hH flX10_7 hc_h rfl dX10_count_109 ?_
      refine lv_bipush (v := 6) hx hb dX10_count_112 (by decide) ?_
      refine lv_iload_n hx hb dX10_count_114 rfl (lv_at hl 0 rfl) ?_
      refine lv_iadd hx hb dX10_count_115 ?_
      refine lv_cst (v := 9) (by decide) ?_
      refine xild hC hK hH hc_al (iIn (by decide) (by decide)) dX10_count_116 ?_
      refine lv_cst (v := 100) ((hfi _ (by decide)).trans (by decide)) ?_
      refine lv_iadd hx hb dX10_count_117 ?_
      refine lv_cst (v := 400) (by decide) ?_
      refine lv_istore_n (lv' := [(2, .int 400), (3, .int 3), (0, .ref h), (1, .int wh)]) hx hb dX10_count_118 rfl hl (by decide) rfl (fun ls hl => ?_)
      refine lv_iinc (v := 4) (lv' := [(3, .int 4), (2, .int 400), (0, .ref h), (1, .int wh)]) hx hb dX10_count_119 hl (k := 1) rfl (by decide) (by decide) rfl (fun ls hl => ?_)
      refine lv_goto (tgt := 101) hx hb dX10_count_122 (by decide) ?_
      refine lv_iload_n hx hb dX10_count_101 rfl (lv_at hl 0 rfl) ?_
      refine lv_bipush (v := 8) hx hb dX10_count_102 (by decide) ?_
      refine jic_ge (tgt := 125) hx hb dX10_count_104 (by decide) (fun cq15_ => absurd cq15_ (by decide)) (fun cq15_ => ?_)
      refine lv_iload_n hx hb dX10_count_107 rfl (lv_at hl 1 rfl) ?_
      refine lv_aload_n hx hb dX10_count_108 rfl (lv_at hl 2 rfl) ?_
      refine xg hC hK hH flX10_7 hc_h rfl dX10_count_109 ?_
      refine lv_bipush (v := 6) hx hb dX10_count_112 (by decide) ?_
      refine lv_iload_n hx hb dX10_count_114 rfl (lv_at hl 0 rfl) ?_
      refine lv_iadd hx hb dX10_count_115 ?_
      refine lv_cst (v := 10) (by decide) ?_
      refine xild hC hK hH hc_al (iIn (by decide) (by decide)) dX10_count_116 ?_
      refine lv_cst (v := 100) ((hfi _ (by decide)).trans (by decide)) ?_
      refine lv_iadd hx hb dX10_count_117 ?_
      refine lv_cst (v := 500) (by decide) ?_
      refine lv_istore_n (lv' := [(2, .int 500), (3, .int 4), (0, .ref h), (1, .int wh)]) hx hb dX10_count_118 rfl hl (by decide) rfl (fun ls hl => ?_)
      refine lv_iinc (v := 5) (lv' := [(3, .int 5), (2, .int 500), (0, .ref h), (1, .int wh)]) hx hb dX10_count_119 hl (k := 1) rfl (by decide) (by decide) rfl (fun ls hl => ?_)
      refine lv_goto (tgt := 101) hx hb dX10_count_122 (by decide) ?_
      refine lv_iload_n hx hb dX10_count_101 rfl (lv_at hl 0 rfl) ?_
      refine lv_bipush (v := 8) hx hb dX10_count_102 (by decide) ?_
      refine jic_ge (tgt := 125) hx hb dX10_count_104 (by decide) (fun cq16_ => absurd cq16_ (by decide)) (fun cq16_ => ?_)
      refine lv_iload_n hx hb dX10_count_107 rfl (lv_at hl 1 rfl) ?_
      refine lv_aload_n hx hb dX10_count_108 rfl (lv_at hl 2 rfl) ?_
      refine xg hC hK hH flX10_7 hc_h rfl dX10_count_109 ?_
      refine lv_bipush (v := 6) hx hb dX10_count_112 (by decide) ?_
      refine lv_iload_n hx hb dX10_count_114 rfl (lv_at hl 0 rfl) ?_
      refine lv_iadd hx hb dX10_count_115 ?_
      refine lv_cst (v := 11) (by decide) ?_
      refine xild hC hK hH hc_al (iIn (by decide) (by decide)) dX10_count_116 ?_
      refine lv_cst (v := 100) ((hfi _ (by decide)).trans (by decide)) ?_
      refine lv_iadd hx hb dX10_count_117 ?_
      refine lv_cst (v := 600) (by decide) ?_
      refine lv_istore_n (lv' := [(2, .int 600), (3, .int 5), (0, .ref h), (1, .int wh)]) hx hb dX10_count_118 rfl hl (by decide) rfl (fun ls hl => ?_)
      refine lv_iinc (v := 6) (lv' := [(3, .int 6), (2, .int 600), (0, .ref h), (1, .int wh)]) hx hb dX10_count_119 hl (k := 1) rfl (by decide) (by decide) rfl (fun ls hl => ?_)
      refine lv_goto (tgt := 101) hx hb dX10_count_122 (by decide) ?_
      refine lv_iload_n hx hb dX10_count_101 rfl (lv_at hl 0 rfl) ?_
      refine lv_bipush (v := 8) hx hb dX10_count_102 (by decide) ?_
      refine jic_ge (tgt := 125) hx hb dX10_count_104 (by decide) (fun cq17_ => absurd cq17_ (by decide)) (fun cq17_ => ?_)
      refine lv_iload_n hx hb dX10_count_107 rfl (lv_at hl 1 rfl) ?_
      refine lv_aload_n hx hb dX10_count_108 rfl (lv_at hl 2 rfl) ?_
      refine xg hC hK hH flX10_7 hc_h rfl dX10_count_109 ?_
      refine lv_bipush (v := 6) hx hb dX10_count_112 (by decide) ?_
      refine lv_iload_n hx hb dX10_count_114 rfl (lv_at hl 0 rfl) ?_
      refine lv_iadd hx hb dX10_count_115 ?_
      refine lv_cst (v := 12) (by decide) ?_
      refine xild hC hK hH hc_al (iIn (by decide) (by decide)) dX10_count_116 ?_
      refine lv_cst (v := 100) ((hfi _ (by decide)).trans (by decide)) ?_
      refine lv_iadd hx hb dX10_count_117 ?_
      refine lv_cst (v := 700) (by decide) ?_
      refine lv_istore_n (lv' := [(2, .int 700), (3, .int 6), (0, .ref h), (1, .int wh)]) hx hb dX10_count_118 rfl hl (by decide) rfl (fun ls hl => ?_)
      refine lv_iinc (v := 7) (lv' := [(3, .int 7), (2, .int 700), (0, .ref h), (1, .int wh)]) hx hb dX10_count_119 hl (k := 1) rfl (by decide) (by decide) rfl (fun ls hl => ?_)
      refine lv_goto (tgt := 101) hx hb dX10_count_122 (by decide) ?_
      refine lv_iload_n hx hb dX10_count_101 rfl (lv_at hl 0 rfl) ?_
      refine lv_bipush (v := 8) hx hb dX10_count_102 (by decide) ?_
      refine jic_ge (tgt := 125) hx hb dX10_count_104 (by decide) (fun cq18_ => absurd cq18_ (by decide)) (fun cq18_ => ?_)
      refine lv_iload_n hx hb dX10_count_107 rfl (lv_at hl 1 rfl) ?_
      refine lv_aload_n hx hb dX10_count_108 rfl (lv_at hl 2 rfl) ?_
      refine xg hC hK hH flX10_7 hc_h rfl dX10_count_109 ?_
      refine lv_bipush (v := 6) hx hb dX10_count_112 (by decide) ?_
      refine lv_iload_n hx hb dX10_count_114 rfl (lv_at hl 0 rfl) ?_
      refine lv_iadd hx hb dX10_count_115 ?_
      refine lv_cst (v := 13) (by decide) ?_
      refine xild hC hK hH hc_al (iIn (by decide) (by decide)) dX10_count_116 ?_
      refine lv_cst (v := 100) ((hfi _ (by decide)).trans (by decide)) ?_
      refine lv_iadd hx hb dX10_count_117 ?_
      refine lv_cst (v := 800) (by decide) ?_
      refine lv_istore_n (lv' := [(2, .int 800), (3, .int 7), (0, .ref h), (1, .int wh)]) hx hb dX10_count_118 rfl hl (by decide) rfl (fun ls hl => ?_)
      refine lv_iinc (v := 8) (lv' := [(3, .int 8), (2, .int 800), (0, .ref h), (1, .int wh)]) hx hb dX10_count_119 hl (k := 1) rfl (by decide) (by decide) rfl (fun ls hl => ?_)
      refine lv_goto (tgt := 101) hx hb dX10_count_122 (by decide) ?_
      refine lv_iload_n hx hb dX10_count_101 rfl (lv_at hl 0 rfl) ?_
      refine lv_bipush (v := 8) hx hb dX10_count_102 (by decide) ?_
      refine jic_ge (tgt := 125) hx hb dX10_count_104 (by decide) (fun cq19_ => ?_) (fun cq19_ => absurd cq19_ (by decide))
      refine lv_iload_n hx hb dX10_count_125 rfl (lv_at hl 1 rfl) ?_
      exact ret_i hC hr hlk hK hH (⟨Or.inr (Or.inl (⟨by omega, rfl⟩)), rfl, rfl⟩) (Nat.le_of_ble_eq_true rfl) (Nat.le_of_ble_eq_true rfl) dX10_count_126
    · skip
      refine lv_tableIn (off := 102) (tgt := 127) hx hb dX10_count_25 (by omega) (by omega) (by rw [cq10_]; rfl) (by decide) ?_
      refine lv_aload_n hx hb dX10_count_127 rfl (lv_at hl 0 rfl) ?_
      refine xg hC hK hH flX10_7 hc_h rfl dX10_count_128 ?_
      refine lv_iconst (v := 3) hx hb dX10_count_131 (by decide) ?_
      refine xild hC hK hH hc_al (iIn (by decide) (by decide)) dX10_count_132 ?_
      refine lv_cst (v := 0) ((hfi _ (by decide)).trans (by decide)) ?_
      exact ret_i hC hr hlk hK hH (⟨Or.inr (Or.inr (Or.inr (Or.inl (⟨by omega, rfl⟩)))), rfl, rfl⟩) (Nat.le_of_ble_eq_true rfl) (Nat.le_of_ble_eq_true rfl) dX10_count_133
    · skip
      refine lv_tableIn (off := 109) (tgt := 134) hx hb dX10_count_25 (by omega) (by omega) (by rw [cq10_]; rfl) (by decide) ?_
      refine lv_aload_n hx hb dX10_count_134 rfl (lv_at hl 0 rfl) ?_
      refine lv_iconst (v := 5) hx hb dX10_count_135 (by decide) ?_
      refine goI hK hH (runV (As := [.int 5]) (rest := []) hC hK hH (c_X10_billsThat hc_h hc_al hfi) mlX10_177 (rcvM hK hH hc_h rfl) ⟨⟨Nat.le_of_ble_eq_true rfl, Nat.le_of_ble_eq_true rfl⟩, Nat.le_of_ble_eq_true rfl, Nat.le_of_ble_eq_true rfl⟩ rfl hl.1 rfl (Nat.le_of_ble_eq_true rfl) dX10_count_136) (fun rq22_ Mq20_ Tq21_ Hq_ lcq_ hP hz hH => ?_)
      try dsimp only at hP
      obtain ⟨(rfl), eT, eM⟩ := hP
      have eT := eT.symm; subst eT
      have eM := eM.symm; subst eM
      exact ret_i hC hr hlk hK hH (⟨Or.inr (Or.inr (Or.inr (Or.inl (⟨by omega, rfl⟩)))), rfl, rfl⟩) (Nat.le_of_ble_eq_true rfl) (Nat.le_of_ble_eq_true rfl) dX10_count_139
    · skip
      refine lv_tableIn (off := 115) (tgt := 140) hx hb dX10_count_25 (by omega) (by omega) (by rw [cq10_]; rfl) (by decide) ?_
      refine lv_aload_n hx hb dX10_count_140 rfl (lv_at hl 0 rfl) ?_
      refine lv_bipush (v := 6) hx hb dX10_count_141 (by decide) ?_
      refine goI hK hH (runV (As := [.int 6]) (rest := []) hC hK hH (c_X10_billsThat hc_h hc_al hfi) mlX10_177 (rcvM hK hH hc_h rfl) ⟨⟨Nat.le_of_ble_eq_true rfl, Nat.le_of_ble_eq_true rfl⟩, Nat.le_of_ble_eq_true rfl, Nat.le_of_ble_eq_true rfl⟩ rfl hl.1 rfl (Nat.le_of_ble_eq_true rfl) dX10_count_143) (fun rq25_ Mq23_ Tq24_ Hq_ lcq_ hP hz hH => ?_)
      try dsimp only at hP
      obtain ⟨(rfl), eT, eM⟩ := hP
      have eT := eT.symm; subst eT
      have eM := eM.symm; subst eM
      exact ret_i hC hr hlk hK hH (⟨Or.inr (Or.inr (Or.inr (Or.inl (⟨by omega, rfl⟩)))), rfl, rfl⟩) (Nat.le_of_ble_eq_true rfl) (Nat.le_of_ble_eq_true rfl) dX10_count_146
    · skip
      refine lv_tableIn (off := 122) (tgt := 147) hx hb dX10_count_25 (by omega) (by omega) (by rw [cq10_]; rfl) (by decide) ?_
      refine lv_aload_n hx hb dX10_count_147 rfl (lv_at hl 0 rfl) ?_
      refine xg hC hK hH flX10_7 hc_h rfl dX10_count_148 ?_
      refine lv_iconst (v := 4) hx hb dX10_count_151 (by decide) ?_
      refine xild hC hK hH hc_al (iIn (by decide) (by decide)) dX10_count_152 ?_
      refine lv_cst (v := 0) ((hfi _ (by decide)).trans (by decide)) ?_
      exact ret_i hC hr hlk hK hH (⟨Or.inr (Or.inr (Or.inr (Or.inl (⟨by omega, rfl⟩)))), rfl, rfl⟩) (Nat.le_of_ble_eq_true rfl) (Nat.le_of_ble_eq_true rfl) dX10_count_153
    · skip
      refine lv_tableIn (off := 129) (tgt := 154) hx hb dX10_count_25 (by omega) (by omega) (by rw [cq10_]; rfl) (by decide) ?_
      refine lv_aload_n hx hb dX10_count_154 rfl (lv_at hl 0 rfl) ?_
      refine xg hC hK hH flX10_180 hc_h rfl dX10_count_155 ?_
      exact ret_i hC hr hlk hK hH (⟨Or.inr (Or.inr (Or.inr (Or.inl (⟨by omega, rfl⟩)))), rfl, rfl⟩) (Nat.le_of_ble_eq_true rfl) (Nat.le_of_ble_eq_true rfl) dX10_count_158
set_option maxHeartbeats 4000000 in
set_option maxRecDepth 100000 in
theorem c_X10_refused {l : Launch} {D : va_G} {kA : Nat → ClassId} {M : mM} {T : mT} {sz : Nat} {h al mt ii pa li : Nat} {f : Nat → Int32} (hc_h : M h = some (.inr (8, [.ref al, .ref mt, .ref ii, .int 0, .int (-1), .ref pa, .int 0, .int 0, .int 0, .int 0, .int 0, .long 0, .int 0, .ref li]))) (hc_al : M al = some (.inl (kA 0, 7506, .inl f))) (hfi : ∀ j, j < 1140 → f j = mIni j) : mCi l yX10_refused cX10_refused 1 (some .int) 0 0 0 D kA M T sz [.ref h] (fun r u => (r = 0) ∧ u.2 = T ∧ u.1 = M) := by
  unfold mCi
  refine start_W (by decide) (Nat.le_of_ble_eq_true rfl) ?_
  intro p e s m below meth c ls hC hr hlk hnm hK hH hsz hl
  have hx := hC.1
  have hb := hC.2.1
  have hl : lv_has ls 1 [(0, .ref h)] := hl
  have n_h_al : h ≠ al := neM hc_h hc_al (by simp)
  have n_al_h : al ≠ h := neM hc_al hc_h (by simp)
  refine lv_aload_n hx hb dX10_refused_0 rfl (lv_at hl 0 rfl) ?_
  refine xg hC hK hH flX10_7 hc_h rfl dX10_refused_1 ?_
  refine lv_iconst (v := 5) hx hb dX10_refused_4 (by decide) ?_
  refine xild hC hK hH hc_al (iIn (by decide) (by decide)) dX10_refused_5 ?_
  refine lv_cst (v := 0) ((hfi _ (by decide)).trans (by decide)) ?_
  exact ret_i hC hr hlk hK hH (⟨rfl, rfl, rfl⟩) (Nat.le_of_ble_eq_true rfl) (Nat.le_of_ble_eq_true rfl) dX10_refused_6
set_option maxHeartbeats 4000000 in
set_option maxRecDepth 100000 in
theorem c_X10_fault {l : Launch} {D : va_G} {kA : Nat → ClassId} {M : mM} {T : mT} {sz : Nat} {h al mt ii pa li : Nat} {f : Nat → Int32} (hc_h : M h = some (.inr (8, [.ref al, .ref mt, .ref ii, .int 0, .int (-1), .ref pa, .int 0, .int 0, .int 0, .int 0, .int 0, .long 0, .int 0, .ref li]))) (hc_al : M al = some (.inl (kA 0, 7506, .inl f))) (hfi : ∀ j, j < 1140 → f j = mIni j) : mCi l yX10_fault cX10_fault 1 (some .int) 0 0 0 D kA M T sz [.ref h] (fun r u => (r = -1) ∧ u.2 = T ∧ u.1 = M) := by
  unfold mCi
  refine start_W (by decide) (Nat.le_of_ble_eq_true rfl) ?_
  intro p e s m below meth c ls hC hr hlk hnm hK hH hsz hl
  have hx := hC.1
  have hb := hC.2.1
  have hl : lv_has ls 1 [(0, .ref h)] := hl
  have n_h_al : h ≠ al := neM hc_h hc_al (by simp)
  have n_al_h : al ≠ h := neM hc_al hc_h (by simp)
  refine lv_aload_n hx hb dX10_fault_0 rfl (lv_at hl 0 rfl) ?_
  refine xg hC hK hH flX10_20 hc_h rfl dX10_fault_1 ?_
  exact ret_i hC hr hlk hK hH (⟨rfl, rfl, rfl⟩) (Nat.le_of_ble_eq_true rfl) (Nat.le_of_ble_eq_true rfl) dX10_fault_4
set_option maxHeartbeats 4000000 in
set_option maxRecDepth 100000 in
theorem c_X10_bill {l : Launch} {D : va_G} {kA : Nat → ClassId} {M : mM} {T : mT} {sz : Nat} {h al mt ii pa li : Nat} {f : Nat → Int32} {b wh : Int32} (hc_h : M h = some (.inr (8, [.ref al, .ref mt, .ref ii, .int 0, .int (-1), .ref pa, .int 0, .int 0, .int 0, .int 0, .int 0, .long 0, .int 0, .ref li]))) (hc_al : M al = some (.inl (kA 0, 7506, .inl f))) (hfi : ∀ j, j < 1140 → f j = mIni j) : mCi l yX10_bill cX10_bill 4 (some .int) 2 0 0 D kA M T sz [.ref h, .int b, .int wh] (fun r u => (r = -2) ∧ u.2 = T ∧ u.1 = M) := by
  unfold mCi
  refine start_W (by decide) (Nat.le_of_ble_eq_true rfl) ?_
  intro p e s m below meth c ls hC hr hlk hnm hK hH hsz hl
  have hx := hC.1
  have hb := hC.2.1
  have hl : lv_has ls 4 [(0, .ref h), (1, .int b), (2, .int wh)] := hl
  have n_h_al : h ≠ al := neM hc_h hc_al (by simp)
  have n_al_h : al ≠ h := neM hc_al hc_h (by simp)
  refine lv_aload_n hx hb dX10_bill_0 rfl (lv_at hl 0 rfl) ?_
  refine lv_iload_n hx hb dX10_bill_1 rfl (lv_at hl 1 rfl) ?_
  refine goI hK hH (runV (As := [.int b]) (rest := []) hC hK hH (c_X10_isBill hc_h hc_al hfi) mlX10_116 (rcvM hK hH hc_h rfl) ⟨⟨Nat.le_of_ble_eq_true rfl, Nat.le_of_ble_eq_true rfl⟩, Nat.le_of_ble_eq_true rfl, Nat.le_of_ble_eq_true rfl⟩ rfl hl.1 rfl (Nat.le_of_ble_eq_true rfl) dX10_bill_2) (fun rq3_ Mq1_ Tq2_ Hq_ lcq_ hP hz hH => ?_)
  try dsimp only at hP
  obtain ⟨(rfl), eT, eM⟩ := hP
  have eT := eT.symm; subst eT
  have eM := eM.symm; subst eM
  refine jif_eq (tgt := 18) hx hb dX10_bill_5 (by decide) (fun cq4_ => ?_) (fun cq4_ => absurd cq4_ (by decide))
  refine lv_bipush (v := -2) hx hb dX10_bill_18 (by decide) ?_
  exact ret_i hC hr hlk hK hH (⟨rfl, rfl, rfl⟩) (Nat.le_of_ble_eq_true rfl) (Nat.le_of_ble_eq_true rfl) dX10_bill_20
set_option maxHeartbeats 4000000 in
set_option maxRecDepth 100000 in
theorem c_X10_step {l : Launch} {D : va_G} {kA : Nat → ClassId} {M : mM} {T : mT} {sz : Nat} {h al mt ii pa li : Nat} {f : Nat → Int32} {b st wh : Int32} (hc_h : M h = some (.inr (8, [.ref al, .ref mt, .ref ii, .int 0, .int (-1), .ref pa, .int 0, .int 0, .int 0, .int 0, .int 0, .long 0, .int 0, .ref li]))) (hc_al : M al = some (.inl (kA 0, 7506, .inl f))) (hfi : ∀ j, j < 1140 → f j = mIni j) : mCi l yX10_step cX10_step 4 (some .int) 3 0 0 D kA M T sz [.ref h, .int b, .int st, .int wh] (fun r u => (r = -2) ∧ u.2 = T ∧ u.1 = M) := by
  unfold mCi
  refine start_W (by decide) (Nat.le_of_ble_eq_true rfl) ?_
  intro p e s m below meth c ls hC hr hlk hnm hK hH hsz hl
  have hx := hC.1
  have hb := hC.2.1
  have hl : lv_has ls 4 [(0, .ref h), (1, .int b), (2, .int st), (3, .int wh)] := hl
  have n_h_al : h ≠ al := neM hc_h hc_al (by simp)
  have n_al_h : al ≠ h := neM hc_al hc_h (by simp)
  refine lv_aload_n hx hb dX10_step_0 rfl (lv_at hl 0 rfl) ?_
  refine lv_iload_n hx hb dX10_step_1 rfl (lv_at hl 1 rfl) ?_
  refine lv_iload_n hx hb dX10_step_2 rfl (lv_at hl 2 rfl) ?_
  refine goI hK hH (runV (As := [.int b, .int st]) (rest := []) hC hK hH (c_X10_isStep hc_h hc_al hfi) mlX10_186 (rcvM hK hH hc_h rfl) ⟨⟨Nat.le_of_ble_eq_true rfl, Nat.le_of_ble_eq_true rfl⟩, Nat.le_of_ble_eq_true rfl, Nat.le_of_ble_eq_true rfl⟩ rfl hl.1 rfl (Nat.le_of_ble_eq_true rfl) dX10_step_3) (fun rq3_ Mq1_ Tq2_ Hq_ lcq_ hP hz hH => ?_)
  try dsimp only at hP
  obtain ⟨(rfl), eT, eM⟩ := hP
  have eT := eT.symm; subst eT
  have eM := eM.symm; subst eM
  refine jif_eq (tgt := 38) hx hb dX10_step_6 (by decide) (fun cq4_ => ?_) (fun cq4_ => absurd cq4_ (by decide))
  refine lv_bipush (v := -2) hx hb dX10_step_38 (by decide) ?_
  exact ret_i hC hr hlk hK hH (⟨rfl, rfl, rfl⟩) (Nat.le_of_ble_eq_true rfl) (Nat.le_of_ble_eq_true rfl) dX10_step_40
set_option maxHeartbeats 4000000 in
set_option maxRecDepth 100000 in
theorem c_X10_party {l : Launch} {D : va_G} {kA : Nat → ClassId} {M : mM} {T : mT} {sz : Nat} {h al mt ii pa li : Nat} {f : Nat → Int32} {b pt wh : Int32} (hc_h : M h = some (.inr (8, [.ref al, .ref mt, .ref ii, .int 0, .int (-1), .ref pa, .int 0, .int 0, .int 0, .int 0, .int 0, .long 0, .int 0, .ref li]))) (hc_al : M al = some (.inl (kA 0, 7506, .inl f))) (hfi : ∀ j, j < 1140 → f j = mIni j) : mCi l yX10_party cX10_party 6 (some .int) 2 0 0 D kA M T sz [.ref h, .int b, .int pt, .int wh] (fun r u => (r = -2) ∧ u.2 = T ∧ u.1 = M) := by
  unfold mCi
  refine start_W (by decide) (Nat.le_of_ble_eq_true rfl) ?_
  intro p e s m below meth c ls hC hr hlk hnm hK hH hsz hl
  have hx := hC.1
  have hb := hC.2.1
  have hl : lv_has ls 6 [(0, .ref h), (1, .int b), (2, .int pt), (3, .int wh)] := hl
  have n_h_al : h ≠ al := neM hc_h hc_al (by simp)
  have n_al_h : al ≠ h := neM hc_al hc_h (by simp)
  refine lv_aload_n hx hb dX10_party_0 rfl (lv_at hl 0 rfl) ?_
  refine lv_iload_n hx hb dX10_party_1 rfl (lv_at hl 1 rfl) ?_
  refine goI hK hH (runV (As := [.int b]) (rest := []) hC hK hH (c_X10_isBill hc_h hc_al hfi) mlX10_116 (rcvM hK hH hc_h rfl) ⟨⟨Nat.le_of_ble_eq_true rfl, Nat.le_of_ble_eq_true rfl⟩, Nat.le_of_ble_eq_true rfl, Nat.le_of_ble_eq_true rfl⟩ rfl hl.1 rfl (Nat.le_of_ble_eq_true rfl) dX10_party_2) (fun rq3_ Mq1_ Tq2_ Hq_ lcq_ hP hz hH => ?_)
  try dsimp only at hP
  obtain ⟨(rfl), eT, eM⟩ := hP
  have eT := eT.symm; subst eT
  have eM := eM.symm; subst eM
  refine jif_eq (tgt := 21) hx hb dX10_party_5 (by decide) (fun cq4_ => ?_) (fun cq4_ => absurd cq4_ (by decide))
  refine lv_bipush (v := -2) hx hb dX10_party_21 (by decide) ?_
  exact ret_i hC hr hlk hK hH (⟨rfl, rfl, rfl⟩) (Nat.le_of_ble_eq_true rfl) (Nat.le_of_ble_eq_true rfl) dX10_party_23
set_option maxHeartbeats 4000000 in
set_option maxRecDepth 100000 in
theorem c_X10_why {l : Launch} {D : va_G} {kA : Nat → ClassId} {M : mM} {T : mT} {sz : Nat} {h al mt ii pa li : Nat} {f : Nat → Int32} {b pt lv wh : Int32} (hc_h : M h = some (.inr (8, [.ref al, .ref mt, .ref ii, .int 0, .int (-1), .ref pa, .int 0, .int 0, .int 0, .int 0, .int 0, .long 0, .int 0, .ref li]))) (hc_al : M al = some (.inl (kA 0, 7506, .inl f))) (hfi : ∀ j, j < 1140 → f j = mIni j) : mCi l yX10_why cX10_why 8 (some .int) 2 0 0 D kA M T sz [.ref h, .int b, .int pt, .int lv, .int wh] (fun r u => (r = -2) ∧ u.2 = T ∧ u.1 = M) := by
  unfold mCi
  refine start_W (by decide) (Nat.le_of_ble_eq_true rfl) ?_
  intro p e s m below meth c ls hC hr hlk hnm hK hH hsz hl
  have hx := hC.1
  have hb := hC.2.1
  have hl : lv_has ls 8 [(0, .ref h), (1, .int b), (2, .int pt), (3, .int lv), (4, .int wh)] := hl
  have n_h_al : h ≠ al := neM hc_h hc_al (by simp)
  have n_al_h : al ≠ h := neM hc_al hc_h (by simp)
  refine lv_aload_n hx hb dX10_why_0 rfl (lv_at hl 0 rfl) ?_
  refine lv_iload_n hx hb dX10_why_1 rfl (lv_at hl 1 rfl) ?_
  refine goI hK hH (runV (As := [.int b]) (rest := []) hC hK hH (c_X10_isBill hc_h hc_al hfi) mlX10_116 (rcvM hK hH hc_h rfl) ⟨⟨Nat.le_of_ble_eq_true rfl, Nat.le_of_ble_eq_true rfl⟩, Nat.le_of_ble_eq_true rfl, Nat.le_of_ble_eq_true rfl⟩ rfl hl.1 rfl (Nat.le_of_ble_eq_true rfl) dX10_why_2) (fun rq3_ Mq1_ Tq2_ Hq_ lcq_ hP hz hH => ?_)
  try dsimp only at hP
  obtain ⟨(rfl), eT, eM⟩ := hP
  have eT := eT.symm; subst eT
  have eM := eM.symm; subst eM
  refine jif_eq (tgt := 40) hx hb dX10_why_5 (by decide) (fun cq4_ => ?_) (fun cq4_ => absurd cq4_ (by decide))
  refine lv_bipush (v := -2) hx hb dX10_why_40 (by decide) ?_
  exact ret_i hC hr hlk hK hH (⟨rfl, rfl, rfl⟩) (Nat.le_of_ble_eq_true rfl) (Nat.le_of_ble_eq_true rfl) dX10_why_42
set_option maxHeartbeats 4000000 in
set_option maxRecDepth 100000 in
theorem c_X10_liable {l : Launch} {D : va_G} {kA : Nat → ClassId} {M : mM} {T : mT} {sz : Nat} {h al mt ii pa li : Nat} {f : Nat → Int32} {b : Int32} (hc_h : M h = some (.inr (8, [.ref al, .ref mt, .ref ii, .int 0, .int (-1), .ref pa, .int 0, .int 0, .int 0, .int 0, .int 0, .long 0, .int 0, .ref li]))) (hc_al : M al = some (.inl (kA 0, 7506, .inl f))) (hfi : ∀ j, j < 1140 → f j = mIni j) : mCi l yX10_liable cX10_liable 2 (some .int) 2 0 0 D kA M T sz [.ref h, .int b] (fun r u => (r = -2) ∧ u.2 = T ∧ u.1 = M) := by
  unfold mCi
  refine start_W (by decide) (Nat.le_of_ble_eq_true rfl) ?_
  intro p e s m below meth c ls hC hr hlk hnm hK hH hsz hl
  have hx := hC.1
  have hb := hC.2.1
  have hl : lv_has ls 2 [(0, .ref h), (1, .int b)] := hl
  have n_h_al : h ≠ al := neM hc_h hc_al (by simp)
  have n_al_h : al ≠ h := neM hc_al hc_h (by simp)
  refine lv_aload_n hx hb dX10_liable_0 rfl (lv_at hl 0 rfl) ?_
  refine lv_iload_n hx hb dX10_liable_1 rfl (lv_at hl 1 rfl) ?_
  refine goI hK hH (runV (As := [.int b]) (rest := []) hC hK hH (c_X10_isBill hc_h hc_al hfi) mlX10_116 (rcvM hK hH hc_h rfl) ⟨⟨Nat.le_of_ble_eq_true rfl, Nat.le_of_ble_eq_true rfl⟩, Nat.le_of_ble_eq_true rfl, Nat.le_of_ble_eq_true rfl⟩ rfl hl.1 rfl (Nat.le_of_ble_eq_true rfl) dX10_liable_2) (fun rq3_ Mq1_ Tq2_ Hq_ lcq_ hP hz hH => ?_)
  try dsimp only at hP
  obtain ⟨(rfl), eT, eM⟩ := hP
  have eT := eT.symm; subst eT
  have eM := eM.symm; subst eM
  refine jif_eq (tgt := 21) hx hb dX10_liable_5 (by decide) (fun cq4_ => ?_) (fun cq4_ => absurd cq4_ (by decide))
  refine lv_bipush (v := -2) hx hb dX10_liable_21 (by decide) ?_
  exact ret_i hC hr hlk hK hH (⟨rfl, rfl, rfl⟩) (Nat.le_of_ble_eq_true rfl) (Nat.le_of_ble_eq_true rfl) dX10_liable_23
set_option maxHeartbeats 4000000 in
set_option maxRecDepth 100000 in
theorem c_X10_reach {l : Launch} {D : va_G} {kA : Nat → ClassId} {M : mM} {T : mT} {sz : Nat} {h al mt ii pa li : Nat} {f : Nat → Int32} {b : Int32} (hc_h : M h = some (.inr (8, [.ref al, .ref mt, .ref ii, .int 0, .int (-1), .ref pa, .int 0, .int 0, .int 0, .int 0, .int 0, .long 0, .int 0, .ref li]))) (hc_al : M al = some (.inl (kA 0, 7506, .inl f))) (hfi : ∀ j, j < 1140 → f j = mIni j) : mCi l yX10_reach cX10_reach 2 (some .int) 2 0 0 D kA M T sz [.ref h, .int b] (fun r u => (r = -2) ∧ u.2 = T ∧ u.1 = M) := by
  unfold mCi
  refine start_W (by decide) (Nat.le_of_ble_eq_true rfl) ?_
  intro p e s m below meth c ls hC hr hlk hnm hK hH hsz hl
  have hx := hC.1
  have hb := hC.2.1
  have hl : lv_has ls 2 [(0, .ref h), (1, .int b)] := hl
  have n_h_al : h ≠ al := neM hc_h hc_al (by simp)
  have n_al_h : al ≠ h := neM hc_al hc_h (by simp)
  refine lv_aload_n hx hb dX10_reach_0 rfl (lv_at hl 0 rfl) ?_
  refine lv_iload_n hx hb dX10_reach_1 rfl (lv_at hl 1 rfl) ?_
  refine goI hK hH (runV (As := [.int b]) (rest := []) hC hK hH (c_X10_isBill hc_h hc_al hfi) mlX10_116 (rcvM hK hH hc_h rfl) ⟨⟨Nat.le_of_ble_eq_true rfl, Nat.le_of_ble_eq_true rfl⟩, Nat.le_of_ble_eq_true rfl, Nat.le_of_ble_eq_true rfl⟩ rfl hl.1 rfl (Nat.le_of_ble_eq_true rfl) dX10_reach_2) (fun rq3_ Mq1_ Tq2_ Hq_ lcq_ hP hz hH => ?_)
  try dsimp only at hP
  obtain ⟨(rfl), eT, eM⟩ := hP
  have eT := eT.symm; subst eT
  have eM := eM.symm; subst eM
  refine jif_eq (tgt := 21) hx hb dX10_reach_5 (by decide) (fun cq4_ => ?_) (fun cq4_ => absurd cq4_ (by decide))
  refine lv_bipush (v := -2) hx hb dX10_reach_21 (by decide) ?_
  exact ret_i hC hr hlk hK hH (⟨rfl, rfl, rfl⟩) (Nat.le_of_ble_eq_true rfl) (Nat.le_of_ble_eq_true rfl) dX10_reach_23
set_option maxHeartbeats 4000000 in
set_option maxRecDepth 100000 in
theorem c_X10_run {l : Launch} {D : va_G} {kA : Nat → ClassId} {M : mM} {T : mT} {sz : Nat} {h al mt ii pa li : Nat} {f : Nat → Int32} {b k : Int32} (hc_h : M h = some (.inr (8, [.ref al, .ref mt, .ref ii, .int 0, .int (-1), .ref pa, .int 0, .int 0, .int 0, .int 0, .int 0, .long 0, .int 0, .ref li]))) (hc_al : M al = some (.inl (kA 0, 7506, .inl f))) (hfi : ∀ j, j < 1140 → f j = mIni j) : mCi l yX10_run cX10_run 4 (some .int) 2 0 0 D kA M T sz [.ref h, .int b, .int k] (fun r u => (r = -2) ∧ u.2 = T ∧ u.1 = M) := by
  unfold mCi
  refine start_W (by decide) (Nat.le_of_ble_eq_true rfl) ?_
  intro p e s m below meth c ls hC hr hlk hnm hK hH hsz hl
  have hx := hC.1
  have hb := hC.2.1
  have hl : lv_has ls 4 [(0, .ref h), (1, .int b), (2, .int k)] := hl
  have n_h_al : h ≠ al := neM hc_h hc_al (by simp)
  have n_al_h : al ≠ h := neM hc_al hc_h (by simp)
  refine lv_aload_n hx hb dX10_run_0 rfl (lv_at hl 0 rfl) ?_
  refine lv_iload_n hx hb dX10_run_1 rfl (lv_at hl 1 rfl) ?_
  refine goI hK hH (runV (As := [.int b]) (rest := []) hC hK hH (c_X10_isBill hc_h hc_al hfi) mlX10_116 (rcvM hK hH hc_h rfl) ⟨⟨Nat.le_of_ble_eq_true rfl, Nat.le_of_ble_eq_true rfl⟩, Nat.le_of_ble_eq_true rfl, Nat.le_of_ble_eq_true rfl⟩ rfl hl.1 rfl (Nat.le_of_ble_eq_true rfl) dX10_run_2) (fun rq3_ Mq1_ Tq2_ Hq_ lcq_ hP hz hH => ?_)
  try dsimp only at hP
  obtain ⟨(rfl), eT, eM⟩ := hP
  have eT := eT.symm; subst eT
  have eM := eM.symm; subst eM
  refine jif_ne (tgt := 11) hx hb dX10_run_5 (by decide) (fun cq4_ => absurd cq4_ (by decide)) (fun cq4_ => ?_)
  refine lv_bipush (v := -2) hx hb dX10_run_8 (by decide) ?_
  exact ret_i hC hr hlk hK hH (⟨rfl, rfl, rfl⟩) (Nat.le_of_ble_eq_true rfl) (Nat.le_of_ble_eq_true rfl) dX10_run_10
set_option maxHeartbeats 4000000 in
set_option maxRecDepth 100000 in
theorem c_X10_gains {l : Launch} {D : va_G} {kA : Nat → ClassId} {M : mM} {T : mT} {sz : Nat} {h al mt ii pa li : Nat} {f : Nat → Int32} {b ps : Int32} (hc_h : M h = some (.inr (8, [.ref al, .ref mt, .ref ii, .int 0, .int (-1), .ref pa, .int 0, .int 0, .int 0, .int 0, .int 0, .long 0, .int 0, .ref li]))) (hc_al : M al = some (.inl (kA 0, 7506, .inl f))) (hfi : ∀ j, j < 1140 → f j = mIni j) : mCi l yX10_gains cX10_gains 4 (some .int) 2 0 0 D kA M T sz [.ref h, .int b, .int ps] (fun r u => (r = 0) ∧ u.2 = T ∧ u.1 = M) := by
  unfold mCi
  refine start_W (by decide) (Nat.le_of_ble_eq_true rfl) ?_
  intro p e s m below meth c ls hC hr hlk hnm hK hH hsz hl
  have hx := hC.1
  have hb := hC.2.1
  have hl : lv_has ls 4 [(0, .ref h), (1, .int b), (2, .int ps)] := hl
  have n_h_al : h ≠ al := neM hc_h hc_al (by simp)
  have n_al_h : al ≠ h := neM hc_al hc_h (by simp)
  refine lv_aload_n hx hb dX10_gains_0 rfl (lv_at hl 0 rfl) ?_
  refine lv_iload_n hx hb dX10_gains_1 rfl (lv_at hl 1 rfl) ?_
  refine goI hK hH (runV (As := [.int b]) (rest := []) hC hK hH (c_X10_isBill hc_h hc_al hfi) mlX10_116 (rcvM hK hH hc_h rfl) ⟨⟨Nat.le_of_ble_eq_true rfl, Nat.le_of_ble_eq_true rfl⟩, Nat.le_of_ble_eq_true rfl, Nat.le_of_ble_eq_true rfl⟩ rfl hl.1 rfl (Nat.le_of_ble_eq_true rfl) dX10_gains_2) (fun rq3_ Mq1_ Tq2_ Hq_ lcq_ hP hz hH => ?_)
  try dsimp only at hP
  obtain ⟨(rfl), eT, eM⟩ := hP
  have eT := eT.symm; subst eT
  have eM := eM.symm; subst eM
  refine jif_eq (tgt := 15) hx hb dX10_gains_5 (by decide) (fun cq4_ => ?_) (fun cq4_ => absurd cq4_ (by decide))
  refine lv_iconst (v := 0) hx hb dX10_gains_15 (by decide) ?_
  exact ret_i hC hr hlk hK hH (⟨rfl, rfl, rfl⟩) (Nat.le_of_ble_eq_true rfl) (Nat.le_of_ble_eq_true rfl) dX10_gains_16
set_option maxHeartbeats 4000000 in
set_option maxRecDepth 100000 in
theorem c_X10_ends {l : Launch} {D : va_G} {kA : Nat → ClassId} {M : mM} {T : mT} {sz : Nat} {h al mt ii pa li : Nat} {f : Nat → Int32} {b : Int32} (hc_h : M h = some (.inr (8, [.ref al, .ref mt, .ref ii, .int 0, .int (-1), .ref pa, .int 0, .int 0, .int 0, .int 0, .int 0, .long 0, .int 0, .ref li]))) (hc_al : M al = some (.inl (kA 0, 7506, .inl f))) (hfi : ∀ j, j < 1140 → f j = mIni j) : mCi l yX10_ends cX10_ends 3 (some .int) 2 0 0 D kA M T sz [.ref h, .int b] (fun r u => (r = -1) ∧ u.2 = T ∧ u.1 = M) := by
  unfold mCi
  refine start_W (by decide) (Nat.le_of_ble_eq_true rfl) ?_
  intro p e s m below meth c ls hC hr hlk hnm hK hH hsz hl
  have hx := hC.1
  have hb := hC.2.1
  have hl : lv_has ls 3 [(0, .ref h), (1, .int b)] := hl
  have n_h_al : h ≠ al := neM hc_h hc_al (by simp)
  have n_al_h : al ≠ h := neM hc_al hc_h (by simp)
  refine lv_aload_n hx hb dX10_ends_0 rfl (lv_at hl 0 rfl) ?_
  refine lv_iload_n hx hb dX10_ends_1 rfl (lv_at hl 1 rfl) ?_
  refine goI hK hH (runV (As := [.int b]) (rest := []) hC hK hH (c_X10_isBill hc_h hc_al hfi) mlX10_116 (rcvM hK hH hc_h rfl) ⟨⟨Nat.le_of_ble_eq_true rfl, Nat.le_of_ble_eq_true rfl⟩, Nat.le_of_ble_eq_true rfl, Nat.le_of_ble_eq_true rfl⟩ rfl hl.1 rfl (Nat.le_of_ble_eq_true rfl) dX10_ends_2) (fun rq3_ Mq1_ Tq2_ Hq_ lcq_ hP hz hH => ?_)
  try dsimp only at hP
  obtain ⟨(rfl), eT, eM⟩ := hP
  have eT := eT.symm; subst eT
  have eM := eM.symm; subst eM
  refine jif_ne (tgt := 10) hx hb dX10_ends_5 (by decide) (fun cq4_ => absurd cq4_ (by decide)) (fun cq4_ => ?_)
  refine lv_iconst (v := -1) hx hb dX10_ends_8 (by decide) ?_
  exact ret_i hC hr hlk hK hH (⟨rfl, rfl, rfl⟩) (Nat.le_of_ble_eq_true rfl) (Nat.le_of_ble_eq_true rfl) dX10_ends_9
set_option maxHeartbeats 4000000 in
set_option maxRecDepth 100000 in
theorem c_X10_owes {l : Launch} {D : va_G} {kA : Nat → ClassId} {M : mM} {T : mT} {sz : Nat} {h al mt ii pa li : Nat} {f : Nat → Int32} {ps : Int32} (hc_h : M h = some (.inr (8, [.ref al, .ref mt, .ref ii, .int 0, .int (-1), .ref pa, .int 0, .int 0, .int 0, .int 0, .int 0, .long 0, .int 0, .ref li]))) (hc_al : M al = some (.inl (kA 0, 7506, .inl f))) (hfi : ∀ j, j < 1140 → f j = mIni j) : mCi l yX10_owes cX10_owes 7 (some .int) 2 0 0 D kA M T sz [.ref h, .int ps] (fun r u => (((0 ≤ ps.toInt ∧ ps.toInt ≤ 7) ∧ r = 0) ∨ ((¬ (0 ≤ ps.toInt ∧ ps.toInt ≤ 7)) ∧ r = -1)) ∧ u.2 = T ∧ u.1 = M) := by
  unfold mCi
  refine start_W (by decide) (Nat.le_of_ble_eq_true rfl) ?_
  intro p e s m below meth c ls hC hr hlk hnm hK hH hsz hl
  have hx := hC.1
  have hb := hC.2.1
  have hl : lv_has ls 7 [(0, .ref h), (1, .int ps)] := hl
  have n_h_al : h ≠ al := neM hc_h hc_al (by simp)
  have n_al_h : al ≠ h := neM hc_al hc_h (by simp)
  refine lv_iload_n hx hb dX10_owes_0 rfl (lv_at hl 1 rfl) ?_
  refine goI hK hH (runS (As := [.int ps]) (rest := []) hC hK hH (c_X10_isPerson) mlX10_100 ⟨⟨Nat.le_of_ble_eq_true rfl, Nat.le_of_ble_eq_true rfl⟩, Nat.le_of_ble_eq_true rfl, Nat.le_of_ble_eq_true rfl⟩ rfl hl.1 rfl (Nat.le_of_ble_eq_true rfl) dX10_owes_1) (fun rq3_ Mq1_ Tq2_ Hq_ lcq_ hP hz hH => ?_)
  try dsimp only at hP
  obtain ⟨(⟨cq4_, rfl⟩ | ⟨cq5_, rfl⟩), eT, eM⟩ := hP
  · skip
    have eT := eT.symm; subst eT
    have eM := eM.symm; subst eM
    have cq4_ : 0 ≤ ps.toInt ∧ ps.toInt ≤ 7 := cq4_
    refine jif_ne (tgt := 9) hx hb dX10_owes_4 (by decide) (fun cq6_ => ?_) (fun cq6_ => absurd cq6_ (by decide))
    refine lv_iconst (v := 0) hx hb dX10_owes_9 (by decide) ?_
    refine lv_istore_n (lv' := [(2, .int 0), (0, .ref h), (1, .int ps)]) hx hb dX10_owes_10 rfl hl (by decide) rfl (fun ls hl => ?_)
    refine lv_iconst (v := 0) hx hb dX10_owes_11 (by decide) ?_
    refine lv_istore_n (lv' := [(3, .int 0), (2, .int 0), (0, .ref h), (1, .int ps)]) hx hb dX10_owes_12 rfl hl (by decide) rfl (fun ls hl => ?_)
    refine lv_iload_n hx hb dX10_owes_13 rfl (lv_at hl 0 rfl) ?_
    refine lv_aload_n hx hb dX10_owes_14 rfl (lv_at hl 2 rfl) ?_
    refine xg hC hK hH flX10_7 hc_h rfl dX10_owes_15 ?_
    refine lv_iconst (v := 1) hx hb dX10_owes_18 (by decide) ?_
    refine xild hC hK hH hc_al (iIn (by decide) (by decide)) dX10_owes_19 ?_
    refine lv_cst (v := 0) ((hfi _ (by decide)).trans (by decide)) ?_
    refine jic_ge (tgt := 135) hx hb dX10_owes_20 (by decide) (fun cq7_ => ?_) (fun cq7_ => absurd cq7_ (by decide))
    refine lv_iload_n hx hb dX10_owes_135 rfl (lv_at hl 1 rfl) ?_
    exact ret_i hC hr hlk hK hH (⟨Or.inl (⟨by omega, rfl⟩), rfl, rfl⟩) (Nat.le_of_ble_eq_true rfl) (Nat.le_of_ble_eq_true rfl) dX10_owes_136
  · skip
    have eT := eT.symm; subst eT
    have eM := eM.symm; subst eM
    have cq5_ : ¬ (0 ≤ ps.toInt ∧ ps.toInt ≤ 7) := cq5_
    refine jif_ne (tgt := 9) hx hb dX10_owes_4 (by decide) (fun cq8_ => absurd cq8_ (by decide)) (fun cq8_ => ?_)
    refine lv_iconst (v := -1) hx hb dX10_owes_7 (by decide) ?_
    exact ret_i hC hr hlk hK hH (⟨Or.inr (⟨by omega, rfl⟩), rfl, rfl⟩) (Nat.le_of_ble_eq_true rfl) (Nat.le_of_ble_eq_true rfl) dX10_owes_8
set_option maxHeartbeats 4000000 in
set_option maxRecDepth 100000 in
theorem c_X10_worth {l : Launch} {D : va_G} {kA : Nat → ClassId} {M : mM} {T : mT} {sz : Nat} {h al mt ii pa li : Nat} {f : Nat → Int32} {ps : Int32} (hc_h : M h = some (.inr (8, [.ref al, .ref mt, .ref ii, .int 0, .int (-1), .ref pa, .int 0, .int 0, .int 0, .int 0, .int 0, .long 0, .int 0, .ref li]))) (hc_al : M al = some (.inl (kA 0, 7506, .inl f))) (hfi : ∀ j, j < 1140 → f j = mIni j) : mCi l yX10_worth cX10_worth 5 (some .int) 2 0 0 D kA M T sz [.ref h, .int ps] (fun r u => (((0 ≤ ps.toInt ∧ ps.toInt ≤ 7) ∧ r = 0) ∨ ((¬ (0 ≤ ps.toInt ∧ ps.toInt ≤ 7)) ∧ r = -1)) ∧ u.2 = T ∧ u.1 = M) := by
  unfold mCi
  refine start_W (by decide) (Nat.le_of_ble_eq_true rfl) ?_
  intro p e s m below meth c ls hC hr hlk hnm hK hH hsz hl
  have hx := hC.1
  have hb := hC.2.1
  have hl : lv_has ls 5 [(0, .ref h), (1, .int ps)] := hl
  have n_h_al : h ≠ al := neM hc_h hc_al (by simp)
  have n_al_h : al ≠ h := neM hc_al hc_h (by simp)
  refine lv_iload_n hx hb dX10_worth_0 rfl (lv_at hl 1 rfl) ?_
  refine goI hK hH (runS (As := [.int ps]) (rest := []) hC hK hH (c_X10_isPerson) mlX10_100 ⟨⟨Nat.le_of_ble_eq_true rfl, Nat.le_of_ble_eq_true rfl⟩, Nat.le_of_ble_eq_true rfl, Nat.le_of_ble_eq_true rfl⟩ rfl hl.1 rfl (Nat.le_of_ble_eq_true rfl) dX10_worth_1) (fun rq3_ Mq1_ Tq2_ Hq_ lcq_ hP hz hH => ?_)
  try dsimp only at hP
  obtain ⟨(⟨cq4_, rfl⟩ | ⟨cq5_, rfl⟩), eT, eM⟩ := hP
  · skip
    have eT := eT.symm; subst eT
    have eM := eM.symm; subst eM
    have cq4_ : 0 ≤ ps.toInt ∧ ps.toInt ≤ 7 := cq4_
    refine jif_ne (tgt := 9) hx hb dX10_worth_4 (by decide) (fun cq6_ => ?_) (fun cq6_ => absurd cq6_ (by decide))
    refine lv_iconst (v := 0) hx hb dX10_worth_9 (by decide) ?_
    refine lv_istore_n (lv' := [(2, .int 0), (0, .ref h), (1, .int ps)]) hx hb dX10_worth_10 rfl hl (by decide) rfl (fun ls hl => ?_)
    refine lv_iconst (v := 0) hx hb dX10_worth_11 (by decide) ?_
    refine lv_istore_n (lv' := [(3, .int 0), (2, .int 0), (0, .ref h), (1, .int ps)]) hx hb dX10_worth_12 rfl hl (by decide) rfl (fun ls hl => ?_)
    refine lv_iload_n hx hb dX10_worth_13 rfl (lv_at hl 0 rfl) ?_
    refine lv_aload_n hx hb dX10_worth_14 rfl (lv_at hl 2 rfl) ?_
    refine xg hC hK hH flX10_7 hc_h rfl dX10_worth_15 ?_
    refine lv_iconst (v := 1) hx hb dX10_worth_18 (by decide) ?_
    refine xild hC hK hH hc_al (iIn (by decide) (by decide)) dX10_worth_19 ?_
    refine lv_cst (v := 0) ((hfi _ (by decide)).trans (by decide)) ?_
    refine jic_ge (tgt := 98) hx hb dX10_worth_20 (by decide) (fun cq7_ => ?_) (fun cq7_ => absurd cq7_ (by decide))
    refine lv_iload_n hx hb dX10_worth_98 rfl (lv_at hl 1 rfl) ?_
    exact ret_i hC hr hlk hK hH (⟨Or.inl (⟨by omega, rfl⟩), rfl, rfl⟩) (Nat.le_of_ble_eq_true rfl) (Nat.le_of_ble_eq_true rfl) dX10_worth_99
  · skip
    have eT := eT.symm; subst eT
    have eM := eM.symm; subst eM
    have cq5_ : ¬ (0 ≤ ps.toInt ∧ ps.toInt ≤ 7) := cq5_
    refine jif_ne (tgt := 9) hx hb dX10_worth_4 (by decide) (fun cq8_ => absurd cq8_ (by decide)) (fun cq8_ => ?_)
    refine lv_iconst (v := -1) hx hb dX10_worth_7 (by decide) ?_
    exact ret_i hC hr hlk hK hH (⟨Or.inr (⟨by omega, rfl⟩), rfl, rfl⟩) (Nat.le_of_ble_eq_true rfl) (Nat.le_of_ble_eq_true rfl) dX10_worth_8
set_option maxHeartbeats 4000000 in
set_option maxRecDepth 100000 in
theorem c_X10_until {l : Launch} {D : va_G} {kA : Nat → ClassId} {M : mM} {T : mT} {sz : Nat} {h al mt ii pa li : Nat} {f : Nat → Int32} {b pt : Int32} (hc_h : M h = some (.inr (8, [.ref al, .ref mt, .ref ii, .int 0, .int (-1), .ref pa, .int 0, .int 0, .int 0, .int 0, .int 0, .long 0, .int 0, .ref li]))) (hc_al : M al = some (.inl (kA 0, 7506, .inl f))) (hfi : ∀ j, j < 1140 → f j = mIni j) : mCi l yX10_until cX10_until 7 (some .int) 3 0 0 D kA M T sz [.ref h, .int b, .int pt] (fun r u => (r = -1) ∧ u.2 = T ∧ u.1 = M) := by
  unfold mCi
  refine start_W (by decide) (Nat.le_of_ble_eq_true rfl) ?_
  intro p e s m below meth c ls hC hr hlk hnm hK hH hsz hl
  have hx := hC.1
  have hb := hC.2.1
  have hl : lv_has ls 7 [(0, .ref h), (1, .int b), (2, .int pt)] := hl
  have n_h_al : h ≠ al := neM hc_h hc_al (by simp)
  have n_al_h : al ≠ h := neM hc_al hc_h (by simp)
  refine lv_aload_n hx hb dX10_until_0 rfl (lv_at hl 0 rfl) ?_
  refine lv_iload_n hx hb dX10_until_1 rfl (lv_at hl 1 rfl) ?_
  refine lv_iload_n hx hb dX10_until_2 rfl (lv_at hl 2 rfl) ?_
  refine goI hK hH (runV (As := [.int b, .int pt]) (rest := []) hC hK hH (c_X10_isSigned hc_h hc_al hfi) mlX10_143 (rcvM hK hH hc_h rfl) ⟨⟨Nat.le_of_ble_eq_true rfl, Nat.le_of_ble_eq_true rfl⟩, Nat.le_of_ble_eq_true rfl, Nat.le_of_ble_eq_true rfl⟩ rfl hl.1 rfl (Nat.le_of_ble_eq_true rfl) dX10_until_3) (fun rq3_ Mq1_ Tq2_ Hq_ lcq_ hP hz hH => ?_)
  try dsimp only at hP
  obtain ⟨(rfl), eT, eM⟩ := hP
  have eT := eT.symm; subst eT
  have eM := eM.symm; subst eM
  refine jif_eq (tgt := 13) hx hb dX10_until_6 (by decide) (fun cq4_ => ?_) (fun cq4_ => absurd cq4_ (by decide))
  refine lv_iconst (v := -1) hx hb dX10_until_13 (by decide) ?_
  exact ret_i hC hr hlk hK hH (⟨rfl, rfl, rfl⟩) (Nat.le_of_ble_eq_true rfl) (Nat.le_of_ble_eq_true rfl) dX10_until_14
set_option maxHeartbeats 4000000 in
set_option maxRecDepth 100000 in
theorem c_X10_sorts {l : Launch} {D : va_G} {kA : Nat → ClassId} {M : mM} {T : mT} {sz : Nat} {h al mt ii pa li : Nat} {f : Nat → Int32} {b so : Int32} (hc_h : M h = some (.inr (8, [.ref al, .ref mt, .ref ii, .int 0, .int (-1), .ref pa, .int 0, .int 0, .int 0, .int 0, .int 0, .long 0, .int 0, .ref li]))) (hc_al : M al = some (.inl (kA 0, 7506, .inl f))) (hfi : ∀ j, j < 1140 → f j = mIni j) : mCi l yX10_sorts cX10_sorts 6 (some .int) 2 0 0 D kA M T sz [.ref h, .int b, .int so] (fun r u => (r = -2) ∧ u.2 = T ∧ u.1 = M) := by
  unfold mCi
  refine start_W (by decide) (Nat.le_of_ble_eq_true rfl) ?_
  intro p e s m below meth c ls hC hr hlk hnm hK hH hsz hl
  have hx := hC.1
  have hb := hC.2.1
  have hl : lv_has ls 6 [(0, .ref h), (1, .int b), (2, .int so)] := hl
  have n_h_al : h ≠ al := neM hc_h hc_al (by simp)
  have n_al_h : al ≠ h := neM hc_al hc_h (by simp)
  refine lv_aload_n hx hb dX10_sorts_0 rfl (lv_at hl 0 rfl) ?_
  refine lv_iload_n hx hb dX10_sorts_1 rfl (lv_at hl 1 rfl) ?_
  refine goI hK hH (runV (As := [.int b]) (rest := []) hC hK hH (c_X10_isBill hc_h hc_al hfi) mlX10_116 (rcvM hK hH hc_h rfl) ⟨⟨Nat.le_of_ble_eq_true rfl, Nat.le_of_ble_eq_true rfl⟩, Nat.le_of_ble_eq_true rfl, Nat.le_of_ble_eq_true rfl⟩ rfl hl.1 rfl (Nat.le_of_ble_eq_true rfl) dX10_sorts_2) (fun rq3_ Mq1_ Tq2_ Hq_ lcq_ hP hz hH => ?_)
  try dsimp only at hP
  obtain ⟨(rfl), eT, eM⟩ := hP
  have eT := eT.symm; subst eT
  have eM := eM.symm; subst eM
  refine jif_ne (tgt := 11) hx hb dX10_sorts_5 (by decide) (fun cq4_ => absurd cq4_ (by decide)) (fun cq4_ => ?_)
  refine lv_bipush (v := -2) hx hb dX10_sorts_8 (by decide) ?_
  exact ret_i hC hr hlk hK hH (⟨rfl, rfl, rfl⟩) (Nat.le_of_ble_eq_true rfl) (Nat.le_of_ble_eq_true rfl) dX10_sorts_10
set_option maxHeartbeats 4000000 in
set_option maxRecDepth 100000 in
theorem c_X10_end {l : Launch} {D : va_G} {kA : Nat → ClassId} {M : mM} {T : mT} {sz : Nat} {h al mt ii pa li : Nat} {f : Nat → Int32} {n : Int32} (hc_h : M h = some (.inr (8, [.ref al, .ref mt, .ref ii, .int 0, .int (-1), .ref pa, .int 0, .int 0, .int 0, .int 0, .int 0, .long 0, .int 0, .ref li]))) (hc_al : M al = some (.inl (kA 0, 7506, .inl f))) (hfi : ∀ j, j < 1140 → f j = mIni j) : mCi l yX10_end cX10_end 2 (some .int) 1 0 0 D kA M T sz [.ref h, .int n] (fun r u => ((n.toInt = 0 ∧ r = 0) ∨ (n.toInt ≠ 0 ∧ r = -1)) ∧ u.2 = T ∧ (∀ q, q ≠ h → u.1 q = M q)) := by
  unfold mCi
  refine start_W (by decide) (Nat.le_of_ble_eq_true rfl) ?_
  intro p e s m below meth c ls hC hr hlk hnm hK hH hsz hl
  have hx := hC.1
  have hb := hC.2.1
  have hl : lv_has ls 2 [(0, .ref h), (1, .int n)] := hl
  have hF : ∀ q, q ≠ h → M q = M q := fun q _ => rfl
  have n_h_al : h ≠ al := neM hc_h hc_al (by simp)
  have n_al_h : al ≠ h := neM hc_al hc_h (by simp)
  refine lv_iload_n hx hb dX10_end_0 rfl (lv_at hl 1 rfl) ?_
  refine lv_iconst (v := 0) hx hb dX10_end_1 (by decide) ?_
  refine lv_aload_n hx hb dX10_end_2 rfl (lv_at hl 0 rfl) ?_
  refine xg hC hK hH flX10_180 hc_h rfl dX10_end_3 ?_
  refine goI hK hH (runS (As := [.int n, .int 0, .int 0]) (rest := []) hC hK hH (c_X10_isIn) mlX10_33 ⟨⟨Nat.le_of_ble_eq_true rfl, Nat.le_of_ble_eq_true rfl⟩, Nat.le_of_ble_eq_true rfl, Nat.le_of_ble_eq_true rfl⟩ rfl hl.1 rfl (Nat.le_of_ble_eq_true rfl) dX10_end_6) (fun rq3_ Mq1_ Tq2_ Hq_ lcq_ hP hz hH => ?_)
  try dsimp only at hP
  obtain ⟨(⟨cq4_, rfl⟩ | ⟨cq5_, rfl⟩), eT, eM⟩ := hP
  · skip
    have eT := eT.symm; subst eT
    have eM := eM.symm; subst eM
    have cq4_ : (0 : Int) ≤ n.toInt ∧ n.toInt ≤ (0 : Int) := cq4_
    refine jif_ne (tgt := 14) hx hb dX10_end_9 (by decide) (fun cq6_ => ?_) (fun cq6_ => absurd cq6_ (by decide))
    refine lv_aload_n hx hb dX10_end_14 rfl (lv_at hl 0 rfl) ?_
    refine lv_iload_n hx hb dX10_end_15 rfl (lv_at hl 1 rfl) ?_
    refine yp (v := .int n) hC hK hH flX10_180 hc_h rfl rfl (Nat.le_of_ble_eq_true rfl) dX10_end_16 (fun Hq_ lcq_ Mq7_ hc_h hfr hH => ?_)
    have hc_h : Mq7_ h = some (.inr (8, [.ref al, .ref mt, .ref ii, .int n, .int (-1), .ref pa, .int 0, .int 0, .int 0, .int 0, .int 0, .long 0, .int 0, .ref li])) := hc_h
    have hc_al : Mq7_ al = some (.inl (kA 0, 7506, .inl f)) := (hfr al n_al_h).trans hc_al
    have hF : ∀ q, q ≠ h → Mq7_ q = M q := fun q h0 => (hfr q h0).trans (hF q h0)
    refine lv_iload_n hx hb dX10_end_19 rfl (lv_at hl 1 rfl) ?_
    exact ret_i hC hr hlk hK hH (⟨Or.inl (⟨by omega, iEq.mpr (by have : (0 : Int32).toInt = 0 := rfl; omega)⟩), rfl, hF⟩) (Nat.le_of_ble_eq_true rfl) (Nat.le_of_ble_eq_true rfl) dX10_end_20
  · skip
    have eT := eT.symm; subst eT
    have eM := eM.symm; subst eM
    have cq5_ : ¬ ((0 : Int) ≤ n.toInt ∧ n.toInt ≤ (0 : Int)) := cq5_
    refine jif_ne (tgt := 14) hx hb dX10_end_9 (by decide) (fun cq8_ => absurd cq8_ (by decide)) (fun cq8_ => ?_)
    refine lv_iconst (v := -1) hx hb dX10_end_12 (by decide) ?_
    exact ret_i hC hr hlk hK hH (⟨Or.inr (⟨by omega, rfl⟩), rfl, hF⟩) (Nat.le_of_ble_eq_true rfl) (Nat.le_of_ble_eq_true rfl) dX10_end_13
set_option maxHeartbeats 4000000 in
set_option maxRecDepth 100000 in
theorem c_X10_again {l : Launch} {D : va_G} {kA : Nat → ClassId} {M : mM} {T : mT} {sz : Nat} {h al mt ii pa li : Nat} {f : Nat → Int32} {k : Int32} (hc_h : M h = some (.inr (8, [.ref al, .ref mt, .ref ii, .int 0, .int (-1), .ref pa, .int 0, .int 0, .int 0, .int 0, .int 0, .long 0, .int 0, .ref li]))) (hc_al : M al = some (.inl (kA 0, 7506, .inl f))) (hc_ii : M ii = some (.inl (kA 2, 3, .inl (fun _ => 0)))) (hfi : ∀ j, j < 1140 → f j = mIni j) : mCi l yX10_again cX10_again 4 (some .boolean) 1 0 0 D kA M T sz [.ref h, .int k] (fun r u => (r = 0) ∧ u.2 = T ∧ u.1 = M) := by
  unfold mCi
  refine start_W (by decide) (Nat.le_of_ble_eq_true rfl) ?_
  intro p e s m below meth c ls hC hr hlk hnm hK hH hsz hl
  have hx := hC.1
  have hb := hC.2.1
  have hl : lv_has ls 4 [(0, .ref h), (1, .int k)] := hl
  have n_h_al : h ≠ al := neM hc_h hc_al (by simp)
  have n_h_ii : h ≠ ii := neM hc_h hc_ii (by simp)
  have n_al_h : al ≠ h := neM hc_al hc_h (by simp)
  have n_al_ii : al ≠ ii := neM hc_al hc_ii (by simp)
  have n_ii_h : ii ≠ h := neM hc_ii hc_h (by simp)
  have n_ii_al : ii ≠ al := neM hc_ii hc_al (by simp)
  refine lv_iload_n hx hb dX10_again_0 rfl (lv_at hl 1 rfl) ?_
  refine lv_iconst (v := 0) hx hb dX10_again_1 (by decide) ?_
  refine lv_iconst (v := 2) hx hb dX10_again_2 (by decide) ?_
  refine goI hK hH (runS (As := [.int k, .int 0, .int 2]) (rest := []) hC hK hH (c_X10_isIn) mlX10_33 ⟨⟨Nat.le_of_ble_eq_true rfl, Nat.le_of_ble_eq_true rfl⟩, Nat.le_of_ble_eq_true rfl, Nat.le_of_ble_eq_true rfl⟩ rfl hl.1 rfl (Nat.le_of_ble_eq_true rfl) dX10_again_3) (fun rq3_ Mq1_ Tq2_ Hq_ lcq_ hP hz hH => ?_)
  try dsimp only at hP
  obtain ⟨(⟨cq4_, rfl⟩ | ⟨cq5_, rfl⟩), eT, eM⟩ := hP
  · skip
    have eT := eT.symm; subst eT
    have eM := eM.symm; subst eM
    have cq4_ : (0 : Int) ≤ k.toInt ∧ k.toInt ≤ (2 : Int) := cq4_
    refine jif_eq (tgt := 18) hx hb dX10_again_6 (by decide) (fun cq6_ => absurd cq6_ (by decide)) (fun cq6_ => ?_)
    refine lv_aload_n hx hb dX10_again_9 rfl (lv_at hl 0 rfl) ?_
    refine xg hC hK hH flX10_16 hc_h rfl dX10_again_10 ?_
    refine lv_iload_n hx hb dX10_again_13 rfl (lv_at hl 1 rfl) ?_
    refine xzld hC hK hH hc_ii (iIn (by omega) (by omega)) dX10_again_14 ?_
    refine lv_cst (v := 0) rfl ?_
    refine jif_ne (tgt := 20) hx hb dX10_again_15 (by decide) (fun cq7_ => absurd cq7_ (by decide)) (fun cq7_ => ?_)
    refine lv_iconst (v := 0) hx hb dX10_again_18 (by decide) ?_
    exact ret_z hC hr hlk hK hH (by first | exact Or.inl rfl | exact Or.inr rfl | assumption) (⟨rfl, rfl, rfl⟩) (Nat.le_of_ble_eq_true rfl) (Nat.le_of_ble_eq_true rfl) dX10_again_19
  · skip
    have eT := eT.symm; subst eT
    have eM := eM.symm; subst eM
    have cq5_ : ¬ ((0 : Int) ≤ k.toInt ∧ k.toInt ≤ (2 : Int)) := cq5_
    refine jif_eq (tgt := 18) hx hb dX10_again_6 (by decide) (fun cq8_ => ?_) (fun cq8_ => absurd cq8_ (by decide))
    refine lv_iconst (v := 0) hx hb dX10_again_18 (by decide) ?_
    exact ret_z hC hr hlk hK hH (by first | exact Or.inl rfl | exact Or.inr rfl | assumption) (⟨rfl, rfl, rfl⟩) (Nat.le_of_ble_eq_true rfl) (Nat.le_of_ble_eq_true rfl) dX10_again_19
