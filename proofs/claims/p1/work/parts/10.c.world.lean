set_option maxHeartbeats 4000000 in
set_option maxRecDepth 100000 in
theorem c_X9_isPerson {l : Launch} {D : va_G} {kA : Nat → ClassId} {M : mM} {T : mT} {sz : Nat} {n : Int32}  : mCi l yX9_isPerson cX9_isPerson 1 (some .boolean) 0 0 0 D kA M T sz [.int n] (fun r u => (((0 ≤ n.toInt ∧ n.toInt ≤ 7) ∧ r = 1) ∨ ((¬ (0 ≤ n.toInt ∧ n.toInt ≤ 7)) ∧ r = 0)) ∧ u.2 = T ∧ u.1 = M) := by
  unfold mCi
  refine start_W (by decide) (Nat.le_of_ble_eq_true rfl) ?_
  intro p e s m below meth c ls hC hr hlk hnm hK hH hsz hl
  have hx := hC.1
  have hb := hC.2.1
  have hl : lv_has ls 1 [(0, .int n)] := hl
  refine lv_iload_n hx hb dX9_isPerson_0 rfl (lv_at hl 0 rfl) ?_
  refine jif_lt (tgt := 14) hx hb dX9_isPerson_1 (by decide) (fun cq1_ => ?_) (fun cq1_ => ?_)
  · skip
    have cq1_ : n.toInt < 0 := cq1_
    refine lv_iconst (v := 0) hx hb dX9_isPerson_14 (by decide) ?_
    exact ret_z hC hr hlk hK hH (by first | exact Or.inl rfl | exact Or.inr rfl | assumption) (⟨Or.inr (⟨by omega, rfl⟩), rfl, rfl⟩) (Nat.le_of_ble_eq_true rfl) (Nat.le_of_ble_eq_true rfl) dX9_isPerson_15
  · skip
    have cq1_ : 0 ≤ n.toInt := cq1_
    refine lv_iload_n hx hb dX9_isPerson_4 rfl (lv_at hl 0 rfl) ?_
    refine lv_bipush (v := 8) hx hb dX9_isPerson_5 (by decide) ?_
    refine jic_ge (tgt := 14) hx hb dX9_isPerson_7 (by decide) (fun cq2_ => ?_) (fun cq2_ => ?_)
    · skip
      have cq2_ : 8 ≤ n.toInt := cq2_
      refine lv_iconst (v := 0) hx hb dX9_isPerson_14 (by decide) ?_
      exact ret_z hC hr hlk hK hH (by first | exact Or.inl rfl | exact Or.inr rfl | assumption) (⟨Or.inr (⟨by omega, rfl⟩), rfl, rfl⟩) (Nat.le_of_ble_eq_true rfl) (Nat.le_of_ble_eq_true rfl) dX9_isPerson_15
    · skip
      have cq2_ : n.toInt < 8 := cq2_
      refine lv_iconst (v := 1) hx hb dX9_isPerson_10 (by decide) ?_
      refine lv_goto (tgt := 15) hx hb dX9_isPerson_11 (by decide) ?_
      exact ret_z hC hr hlk hK hH (by first | exact Or.inl rfl | exact Or.inr rfl | assumption) (⟨Or.inl (⟨by omega, rfl⟩), rfl, rfl⟩) (Nat.le_of_ble_eq_true rfl) (Nat.le_of_ble_eq_true rfl) dX9_isPerson_15
set_option maxHeartbeats 4000000 in
set_option maxRecDepth 100000 in
theorem c_X9_refusalOf {l : Launch} {D : va_G} {kA : Nat → ClassId} {M : mM} {T : mT} {sz : Nat} {n : Int32}  : mCi l yX9_refusalOf cX9_refusalOf 1 (some .int) 0 0 0 D kA M T sz [.int n] (fun r u => ((n.toInt = 1 ∧ r = 0) ∨ (n.toInt ≠ 1 ∧ r = n)) ∧ u.2 = T ∧ u.1 = M) := by
  unfold mCi
  refine start_W (by decide) (Nat.le_of_ble_eq_true rfl) ?_
  intro p e s m below meth c ls hC hr hlk hnm hK hH hsz hl
  have hx := hC.1
  have hb := hC.2.1
  have hl : lv_has ls 1 [(0, .int n)] := hl
  refine lv_iload_n hx hb dX9_refusalOf_0 rfl (lv_at hl 0 rfl) ?_
  refine lv_iconst (v := 1) hx hb dX9_refusalOf_1 (by decide) ?_
  refine jic_ne (tgt := 9) hx hb dX9_refusalOf_2 (by decide) (fun cq1_ => ?_) (fun cq1_ => ?_)
  · skip
    have cq1_ : n.toInt ≠ 1 := cq1_
    refine lv_iload_n hx hb dX9_refusalOf_9 rfl (lv_at hl 0 rfl) ?_
    exact ret_i hC hr hlk hK hH (⟨Or.inr (⟨by omega, rfl⟩), rfl, rfl⟩) (Nat.le_of_ble_eq_true rfl) (Nat.le_of_ble_eq_true rfl) dX9_refusalOf_10
  · skip
    have cq1_ : n.toInt = 1 := cq1_
    refine lv_iconst (v := 0) hx hb dX9_refusalOf_5 (by decide) ?_
    refine lv_goto (tgt := 10) hx hb dX9_refusalOf_6 (by decide) ?_
    exact ret_i hC hr hlk hK hH (⟨Or.inl (⟨by omega, rfl⟩), rfl, rfl⟩) (Nat.le_of_ble_eq_true rfl) (Nat.le_of_ble_eq_true rfl) dX9_refusalOf_10
set_option maxHeartbeats 4000000 in
set_option maxRecDepth 100000 in
theorem c_X8_note {l : Launch} {D : va_G} {kA : Nat → ClassId} {M : mM} {T : mT} {sz : Nat} {w cs bs tp : Nat} {td gd bc py rf lt tl fp : Int32} {n : Int32} (hc_w : M w = some (.inr (6, [.int td, .int gd, .int bc, .int py, .int rf, .int lt, .int tl, .int fp, .ref cs, .ref bs, .ref tp]))) : mCi l yX8_note cX8_note 2 (some .int) 0 0 0 D kA M T sz [.ref w, .int n] (fun r u => ((n.toInt ≠ 0 ∧ r = n ∧ u.1 w = some (.inr (6, [.int td, .int gd, .int bc, .int py, .int (rf + 1), .int n, .int tl, .int fp, .ref cs, .ref bs, .ref tp]))) ∨ (n.toInt = 0 ∧ r = n ∧ u.1 w = some (.inr (6, [.int td, .int gd, .int bc, .int py, .int rf, .int n, .int tl, .int fp, .ref cs, .ref bs, .ref tp])))) ∧ u.2 = T ∧ (∀ q, q ≠ w → u.1 q = M q)) := by
  unfold mCi
  refine start_W (by decide) (Nat.le_of_ble_eq_true rfl) ?_
  intro p e s m below meth c ls hC hr hlk hnm hK hH hsz hl
  have hx := hC.1
  have hb := hC.2.1
  have hl : lv_has ls 2 [(0, .ref w), (1, .int n)] := hl
  have hF : ∀ q, q ≠ w → M q = M q := fun q _ => rfl
  refine lv_aload_n hx hb dX8_note_0 rfl (lv_at hl 0 rfl) ?_
  refine lv_iload_n hx hb dX8_note_1 rfl (lv_at hl 1 rfl) ?_
  refine yp (v := .int n) hC hK hH flX8_45 hc_w rfl rfl (Nat.le_of_ble_eq_true rfl) dX8_note_2 (fun Hq_ lcq_ Mq1_ hc_w hfr hH => ?_)
  have hc_w : Mq1_ w = some (.inr (6, [.int td, .int gd, .int bc, .int py, .int rf, .int n, .int tl, .int fp, .ref cs, .ref bs, .ref tp])) := hc_w
  have hF : ∀ q, q ≠ w → Mq1_ q = M q := fun q h0 => (hfr q h0).trans (hF q h0)
  refine lv_iload_n hx hb dX8_note_5 rfl (lv_at hl 1 rfl) ?_
  refine jif_eq (tgt := 19) hx hb dX8_note_6 (by decide) (fun cq2_ => ?_) (fun cq2_ => ?_)
  · skip
    have cq2_ : n.toInt = 0 := cq2_
    refine lv_iload_n hx hb dX8_note_19 rfl (lv_at hl 1 rfl) ?_
    exact ret_i hC hr hlk hK hH (⟨Or.inr (⟨by omega, rfl, hc_w⟩), rfl, hF⟩) (Nat.le_of_ble_eq_true rfl) (Nat.le_of_ble_eq_true rfl) dX8_note_20
  · skip
    have cq2_ : n.toInt ≠ 0 := cq2_
    refine lv_aload_n hx hb dX8_note_9 rfl (lv_at hl 0 rfl) ?_
    refine lv_dup hx hb dX8_note_10 rfl ?_
    refine xg hC hK hH flX8_42 hc_w rfl dX8_note_11 ?_
    refine lv_iconst (v := 1) hx hb dX8_note_14 (by decide) ?_
    refine lv_iadd hx hb dX8_note_15 ?_
    refine lv_topi (fun zq3_ e_zq3_ => ?_)
    have rg_rf := iRg rf
    rcases (show rf.toInt ≤ 2147483646 ∨ 2147483646 < rf.toInt by omega) with cq4_ | cq4_
    · skip
      have h_zq3_ : zq3_.toInt = rf.toInt + 1 := by rw [e_zq3_, iAdd (by have := iRg rf; have : (1 : Int32).toInt = 1 := rfl; omega) (by have := iRg rf; have : (1 : Int32).toInt = 1 := rfl; omega)]; rfl
      refine yp (v := .int zq3_) hC hK hH flX8_42 hc_w rfl rfl (Nat.le_of_ble_eq_true rfl) dX8_note_16 (fun Hq_ lcq_ Mq5_ hc_w hfr hH => ?_)
      have hc_w : Mq5_ w = some (.inr (6, [.int td, .int gd, .int bc, .int py, .int zq3_, .int n, .int tl, .int fp, .ref cs, .ref bs, .ref tp])) := hc_w
      have hF : ∀ q, q ≠ w → Mq5_ q = M q := fun q h0 => (hfr q h0).trans (hF q h0)
      refine lv_iload_n hx hb dX8_note_19 rfl (lv_at hl 1 rfl) ?_
      subst e_zq3_
      exact ret_i hC hr hlk hK hH (⟨Or.inl (⟨by omega, rfl, hc_w⟩), rfl, hF⟩) (Nat.le_of_ble_eq_true rfl) (Nat.le_of_ble_eq_true rfl) dX8_note_20
    · skip
      have h_zq3_ : zq3_.toInt = rf.toInt + 1 - 4294967296 := by rw [e_zq3_, iAddW (by have := iRg rf; have : (1 : Int32).toInt = 1 := rfl; omega)]; rfl
      refine yp (v := .int zq3_) hC hK hH flX8_42 hc_w rfl rfl (Nat.le_of_ble_eq_true rfl) dX8_note_16 (fun Hq_ lcq_ Mq6_ hc_w hfr hH => ?_)
      have hc_w : Mq6_ w = some (.inr (6, [.int td, .int gd, .int bc, .int py, .int zq3_, .int n, .int tl, .int fp, .ref cs, .ref bs, .ref tp])) := hc_w
      have hF : ∀ q, q ≠ w → Mq6_ q = M q := fun q h0 => (hfr q h0).trans (hF q h0)
      refine lv_iload_n hx hb dX8_note_19 rfl (lv_at hl 1 rfl) ?_
      subst e_zq3_
      exact ret_i hC hr hlk hK hH (⟨Or.inl (⟨by omega, rfl, hc_w⟩), rfl, hF⟩) (Nat.le_of_ble_eq_true rfl) (Nat.le_of_ble_eq_true rfl) dX8_note_20
set_option maxHeartbeats 4000000 in
set_option maxRecDepth 100000 in
theorem c_X8_hasBill {l : Launch} {D : va_G} {kA : Nat → ClassId} {M : mM} {T : mT} {sz : Nat} {w cs bs tp : Nat} {td gd bc py rf lt tl fp : Int32} {b : Int32} (hc_w : M w = some (.inr (6, [.int td, .int gd, .int bc, .int py, .int rf, .int lt, .int tl, .int fp, .ref cs, .ref bs, .ref tp]))) : mCi l yX8_hasBill cX8_hasBill 2 (some .boolean) 0 0 0 D kA M T sz [.ref w, .int b] (fun r u => (((0 ≤ b.toInt ∧ b.toInt < bc.toInt) ∧ r = 1) ∨ ((¬ (0 ≤ b.toInt ∧ b.toInt < bc.toInt)) ∧ r = 0)) ∧ u.2 = T ∧ u.1 = M) := by
  unfold mCi
  refine start_W (by decide) (Nat.le_of_ble_eq_true rfl) ?_
  intro p e s m below meth c ls hC hr hlk hnm hK hH hsz hl
  have hx := hC.1
  have hb := hC.2.1
  have hl : lv_has ls 2 [(0, .ref w), (1, .int b)] := hl
  refine lv_iload_n hx hb dX8_hasBill_0 rfl (lv_at hl 1 rfl) ?_
  refine jif_lt (tgt := 16) hx hb dX8_hasBill_1 (by decide) (fun cq1_ => ?_) (fun cq1_ => ?_)
  · skip
    have cq1_ : b.toInt < 0 := cq1_
    refine lv_iconst (v := 0) hx hb dX8_hasBill_16 (by decide) ?_
    exact ret_z hC hr hlk hK hH (by first | exact Or.inl rfl | exact Or.inr rfl | assumption) (⟨Or.inr (⟨by omega, rfl⟩), rfl, rfl⟩) (Nat.le_of_ble_eq_true rfl) (Nat.le_of_ble_eq_true rfl) dX8_hasBill_17
  · skip
    have cq1_ : 0 ≤ b.toInt := cq1_
    refine lv_iload_n hx hb dX8_hasBill_4 rfl (lv_at hl 1 rfl) ?_
    refine lv_aload_n hx hb dX8_hasBill_5 rfl (lv_at hl 0 rfl) ?_
    refine xg hC hK hH flX8_36 hc_w rfl dX8_hasBill_6 ?_
    refine jic_ge (tgt := 16) hx hb dX8_hasBill_9 (by decide) (fun cq2_ => ?_) (fun cq2_ => ?_)
    · skip
      have cq2_ : bc.toInt ≤ b.toInt := cq2_
      refine lv_iconst (v := 0) hx hb dX8_hasBill_16 (by decide) ?_
      exact ret_z hC hr hlk hK hH (by first | exact Or.inl rfl | exact Or.inr rfl | assumption) (⟨Or.inr (⟨by omega, rfl⟩), rfl, rfl⟩) (Nat.le_of_ble_eq_true rfl) (Nat.le_of_ble_eq_true rfl) dX8_hasBill_17
    · skip
      have cq2_ : b.toInt < bc.toInt := cq2_
      refine lv_iconst (v := 1) hx hb dX8_hasBill_12 (by decide) ?_
      refine lv_goto (tgt := 17) hx hb dX8_hasBill_13 (by decide) ?_
      exact ret_z hC hr hlk hK hH (by first | exact Or.inl rfl | exact Or.inr rfl | assumption) (⟨Or.inl (⟨by omega, rfl⟩), rfl, rfl⟩) (Nat.le_of_ble_eq_true rfl) (Nat.le_of_ble_eq_true rfl) dX8_hasBill_17
set_option maxHeartbeats 4000000 in
set_option maxRecDepth 100000 in
theorem c_X8_hasParty {l : Launch} {D : va_G} {kA : Nat → ClassId} {M : mM} {T : mT} {sz : Nat} {w cs bs tp : Nat} {td gd py rf lt tl fp : Int32} {b pt : Int32} (hc_w : M w = some (.inr (6, [.int td, .int gd, .int 0, .int py, .int rf, .int lt, .int tl, .int fp, .ref cs, .ref bs, .ref tp]))) : mCi l yX8_hasParty cX8_hasParty 3 (some .boolean) 1 0 0 D kA M T sz [.ref w, .int b, .int pt] (fun r u => (r = 0) ∧ u.2 = T ∧ u.1 = M) := by
  unfold mCi
  refine start_W (by decide) (Nat.le_of_ble_eq_true rfl) ?_
  intro p e s m below meth c ls hC hr hlk hnm hK hH hsz hl
  have hx := hC.1
  have hb := hC.2.1
  have hl : lv_has ls 3 [(0, .ref w), (1, .int b), (2, .int pt)] := hl
  refine lv_aload_n hx hb dX8_hasParty_0 rfl (lv_at hl 0 rfl) ?_
  refine lv_iload_n hx hb dX8_hasParty_1 rfl (lv_at hl 1 rfl) ?_
  refine goI hK hH (runV (As := [.int b]) (rest := []) hC hK hH (c_X8_hasBill hc_w) mlX8_68 (rcvM hK hH hc_w rfl) ⟨⟨Nat.le_of_ble_eq_true rfl, Nat.le_of_ble_eq_true rfl⟩, Nat.le_of_ble_eq_true rfl, Nat.le_of_ble_eq_true rfl⟩ rfl hl.1 rfl (Nat.le_of_ble_eq_true rfl) dX8_hasParty_2) (fun rq3_ Mq1_ Tq2_ Hq_ lcq_ hP hz hH => ?_)
  try dsimp only at hP
  obtain ⟨(⟨cq4_, rfl⟩ | ⟨cq5_, rfl⟩), eT, eM⟩ := hP
  · skip
    have eT := eT.symm; subst eT
    have eM := eM.symm; subst eM
    have cq4_ : 0 ≤ b.toInt ∧ b.toInt < (0 : Int) := cq4_
    exact absurd cq4_ (by omega)
  · skip
    have eT := eT.symm; subst eT
    have eM := eM.symm; subst eM
    have cq5_ : ¬ (0 ≤ b.toInt ∧ b.toInt < (0 : Int)) := cq5_
    refine jif_eq (tgt := 29) hx hb dX8_hasParty_5 (by decide) (fun cq6_ => ?_) (fun cq6_ => absurd cq6_ (by decide))
    refine lv_iconst (v := 0) hx hb dX8_hasParty_29 (by decide) ?_
    exact ret_z hC hr hlk hK hH (by first | exact Or.inl rfl | exact Or.inr rfl | assumption) (⟨rfl, rfl, rfl⟩) (Nat.le_of_ble_eq_true rfl) (Nat.le_of_ble_eq_true rfl) dX8_hasParty_30
set_option maxHeartbeats 4000000 in
set_option maxRecDepth 100000 in
theorem c_X8_hasSigner {l : Launch} {D : va_G} {kA : Nat → ClassId} {M : mM} {T : mT} {sz : Nat} {w cs bs tp : Nat} {td gd py rf lt tl fp : Int32} {b pt : Int32} (hc_w : M w = some (.inr (6, [.int td, .int gd, .int 0, .int py, .int rf, .int lt, .int tl, .int fp, .ref cs, .ref bs, .ref tp]))) : mCi l yX8_hasSigner cX8_hasSigner 3 (some .boolean) 2 0 0 D kA M T sz [.ref w, .int b, .int pt] (fun r u => (r = 0) ∧ u.2 = T ∧ u.1 = M) := by
  unfold mCi
  refine start_W (by decide) (Nat.le_of_ble_eq_true rfl) ?_
  intro p e s m below meth c ls hC hr hlk hnm hK hH hsz hl
  have hx := hC.1
  have hb := hC.2.1
  have hl : lv_has ls 3 [(0, .ref w), (1, .int b), (2, .int pt)] := hl
  refine lv_aload_n hx hb dX8_hasSigner_0 rfl (lv_at hl 0 rfl) ?_
  refine lv_iload_n hx hb dX8_hasSigner_1 rfl (lv_at hl 1 rfl) ?_
  refine lv_iload_n hx hb dX8_hasSigner_2 rfl (lv_at hl 2 rfl) ?_
  refine goI hK hH (runV (As := [.int b, .int pt]) (rest := []) hC hK hH (c_X8_hasParty hc_w) mlX8_76 (rcvM hK hH hc_w rfl) ⟨⟨Nat.le_of_ble_eq_true rfl, Nat.le_of_ble_eq_true rfl⟩, Nat.le_of_ble_eq_true rfl, Nat.le_of_ble_eq_true rfl⟩ rfl hl.1 rfl (Nat.le_of_ble_eq_true rfl) dX8_hasSigner_3) (fun rq3_ Mq1_ Tq2_ Hq_ lcq_ hP hz hH => ?_)
  try dsimp only at hP
  obtain ⟨(rfl), eT, eM⟩ := hP
  have eT := eT.symm; subst eT
  have eM := eM.symm; subst eM
  refine jif_eq (tgt := 26) hx hb dX8_hasSigner_6 (by decide) (fun cq4_ => ?_) (fun cq4_ => absurd cq4_ (by decide))
  refine lv_iconst (v := 0) hx hb dX8_hasSigner_26 (by decide) ?_
  exact ret_z hC hr hlk hK hH (by first | exact Or.inl rfl | exact Or.inr rfl | assumption) (⟨rfl, rfl, rfl⟩) (Nat.le_of_ble_eq_true rfl) (Nat.le_of_ble_eq_true rfl) dX8_hasSigner_27
set_option maxHeartbeats 4000000 in
set_option maxRecDepth 100000 in
theorem c_X8_acceptOne {l : Launch} {D : va_G} {kA : Nat → ClassId} {M : mM} {T : mT} {sz : Nat} {w cs bs tp : Nat} {td gd py rf lt tl fp : Int32} {b : Int32} (hc_w : M w = some (.inr (6, [.int td, .int gd, .int 0, .int py, .int rf, .int lt, .int tl, .int fp, .ref cs, .ref bs, .ref tp]))) : mCi l yX8_acceptOne cX8_acceptOne 3 (some .int) 1 0 0 D kA M T sz [.ref w, .int b] (fun r u => (r = 30) ∧ u.2 = T ∧ u.1 = M) := by
  unfold mCi
  refine start_W (by decide) (Nat.le_of_ble_eq_true rfl) ?_
  intro p e s m below meth c ls hC hr hlk hnm hK hH hsz hl
  have hx := hC.1
  have hb := hC.2.1
  have hl : lv_has ls 3 [(0, .ref w), (1, .int b)] := hl
  refine lv_aload_n hx hb dX8_acceptOne_0 rfl (lv_at hl 0 rfl) ?_
  refine lv_iload_n hx hb dX8_acceptOne_1 rfl (lv_at hl 1 rfl) ?_
  refine goI hK hH (runV (As := [.int b]) (rest := []) hC hK hH (c_X8_hasBill hc_w) mlX8_68 (rcvM hK hH hc_w rfl) ⟨⟨Nat.le_of_ble_eq_true rfl, Nat.le_of_ble_eq_true rfl⟩, Nat.le_of_ble_eq_true rfl, Nat.le_of_ble_eq_true rfl⟩ rfl hl.1 rfl (Nat.le_of_ble_eq_true rfl) dX8_acceptOne_2) (fun rq3_ Mq1_ Tq2_ Hq_ lcq_ hP hz hH => ?_)
  try dsimp only at hP
  obtain ⟨(⟨cq4_, rfl⟩ | ⟨cq5_, rfl⟩), eT, eM⟩ := hP
  · skip
    have eT := eT.symm; subst eT
    have eM := eM.symm; subst eM
    have cq4_ : 0 ≤ b.toInt ∧ b.toInt < (0 : Int) := cq4_
    exact absurd cq4_ (by omega)
  · skip
    have eT := eT.symm; subst eT
    have eM := eM.symm; subst eM
    have cq5_ : ¬ (0 ≤ b.toInt ∧ b.toInt < (0 : Int)) := cq5_
    refine jif_ne (tgt := 11) hx hb dX8_acceptOne_5 (by decide) (fun cq6_ => absurd cq6_ (by decide)) (fun cq6_ => ?_)
    refine lv_bipush (v := 30) hx hb dX8_acceptOne_8 (by decide) ?_
    exact ret_i hC hr hlk hK hH (⟨rfl, rfl, rfl⟩) (Nat.le_of_ble_eq_true rfl) (Nat.le_of_ble_eq_true rfl) dX8_acceptOne_10
set_option maxHeartbeats 4000000 in
set_option maxRecDepth 100000 in
theorem c_X8_whyNoStep {l : Launch} {D : va_G} {kA : Nat → ClassId} {M : mM} {T : mT} {sz : Nat} {w cs bs tp : Nat} {td gd py rf lt tl fp : Int32} {b to va : Int32} (hc_w : M w = some (.inr (6, [.int td, .int gd, .int 0, .int py, .int rf, .int lt, .int tl, .int fp, .ref cs, .ref bs, .ref tp]))) : mCi l yX8_whyNoStep cX8_whyNoStep 4 (some .int) 1 0 0 D kA M T sz [.ref w, .int b, .int to, .int va] (fun r u => (r = 30) ∧ u.2 = T ∧ u.1 = M) := by
  unfold mCi
  refine start_W (by decide) (Nat.le_of_ble_eq_true rfl) ?_
  intro p e s m below meth c ls hC hr hlk hnm hK hH hsz hl
  have hx := hC.1
  have hb := hC.2.1
  have hl : lv_has ls 4 [(0, .ref w), (1, .int b), (2, .int to), (3, .int va)] := hl
  refine lv_aload_n hx hb dX8_whyNoStep_0 rfl (lv_at hl 0 rfl) ?_
  refine lv_iload_n hx hb dX8_whyNoStep_1 rfl (lv_at hl 1 rfl) ?_
  refine goI hK hH (runV (As := [.int b]) (rest := []) hC hK hH (c_X8_hasBill hc_w) mlX8_68 (rcvM hK hH hc_w rfl) ⟨⟨Nat.le_of_ble_eq_true rfl, Nat.le_of_ble_eq_true rfl⟩, Nat.le_of_ble_eq_true rfl, Nat.le_of_ble_eq_true rfl⟩ rfl hl.1 rfl (Nat.le_of_ble_eq_true rfl) dX8_whyNoStep_2) (fun rq3_ Mq1_ Tq2_ Hq_ lcq_ hP hz hH => ?_)
  try dsimp only at hP
  obtain ⟨(⟨cq4_, rfl⟩ | ⟨cq5_, rfl⟩), eT, eM⟩ := hP
  · skip
    have eT := eT.symm; subst eT
    have eM := eM.symm; subst eM
    have cq4_ : 0 ≤ b.toInt ∧ b.toInt < (0 : Int) := cq4_
    exact absurd cq4_ (by omega)
  · skip
    have eT := eT.symm; subst eT
    have eM := eM.symm; subst eM
    have cq5_ : ¬ (0 ≤ b.toInt ∧ b.toInt < (0 : Int)) := cq5_
    refine jif_eq (tgt := 26) hx hb dX8_whyNoStep_5 (by decide) (fun cq6_ => ?_) (fun cq6_ => absurd cq6_ (by decide))
    refine lv_bipush (v := 30) hx hb dX8_whyNoStep_26 (by decide) ?_
    exact ret_i hC hr hlk hK hH (⟨rfl, rfl, rfl⟩) (Nat.le_of_ble_eq_true rfl) (Nat.le_of_ble_eq_true rfl) dX8_whyNoStep_28
set_option maxHeartbeats 4000000 in
set_option maxRecDepth 100000 in
theorem c_X8_passOn {l : Launch} {D : va_G} {kA : Nat → ClassId} {M : mM} {T : mT} {sz : Nat} {w cs bs tp : Nat} {td gd py rf lt tl fp : Int32} {b so to va no wi : Int32} (hc_w : M w = some (.inr (6, [.int td, .int gd, .int 0, .int py, .int rf, .int lt, .int tl, .int fp, .ref cs, .ref bs, .ref tp]))) : mCi l yX8_passOn cX8_passOn 10 (some .int) 2 0 0 D kA M T sz [.ref w, .int b, .int so, .int to, .int va, .int no, .int wi] (fun r u => (r = 30) ∧ u.2 = T ∧ u.1 = M) := by
  unfold mCi
  refine start_W (by decide) (Nat.le_of_ble_eq_true rfl) ?_
  intro p e s m below meth c ls hC hr hlk hnm hK hH hsz hl
  have hx := hC.1
  have hb := hC.2.1
  have hl : lv_has ls 10 [(0, .ref w), (1, .int b), (2, .int so), (3, .int to), (4, .int va), (5, .int no), (6, .int wi)] := hl
  refine lv_iload_n hx hb dX8_passOn_0 rfl (lv_at hl 2 rfl) ?_
  refine jif_lt (tgt := 19) hx hb dX8_passOn_1 (by decide) (fun cq1_ => ?_) (fun cq1_ => ?_)
  · skip
    have cq1_ : so.toInt < 0 := cq1_
    refine lv_bipush (v := 30) hx hb dX8_passOn_19 (by decide) ?_
    exact ret_i hC hr hlk hK hH (⟨rfl, rfl, rfl⟩) (Nat.le_of_ble_eq_true rfl) (Nat.le_of_ble_eq_true rfl) dX8_passOn_21
  · skip
    have cq1_ : 0 ≤ so.toInt := cq1_
    refine lv_iload_n hx hb dX8_passOn_4 rfl (lv_at hl 2 rfl) ?_
    refine lv_iconst (v := 3) hx hb dX8_passOn_5 (by decide) ?_
    refine jic_gt (tgt := 19) hx hb dX8_passOn_6 (by decide) (fun cq2_ => ?_) (fun cq2_ => ?_)
    · skip
      have cq2_ : 3 < so.toInt := cq2_
      refine lv_bipush (v := 30) hx hb dX8_passOn_19 (by decide) ?_
      exact ret_i hC hr hlk hK hH (⟨rfl, rfl, rfl⟩) (Nat.le_of_ble_eq_true rfl) (Nat.le_of_ble_eq_true rfl) dX8_passOn_21
    · skip
      have cq2_ : so.toInt ≤ 3 := cq2_
      refine lv_iload hx hb dX8_passOn_9 (lv_at hl 6 rfl) ?_
      refine jif_eq (tgt := 22) hx hb dX8_passOn_11 (by decide) (fun cq3_ => ?_) (fun cq3_ => ?_)
      · skip
        have cq3_ : wi.toInt = 0 := cq3_
        refine lv_aload_n hx hb dX8_passOn_22 rfl (lv_at hl 0 rfl) ?_
        refine lv_iload_n hx hb dX8_passOn_23 rfl (lv_at hl 1 rfl) ?_
        refine lv_iload_n hx hb dX8_passOn_24 rfl (lv_at hl 3 rfl) ?_
        refine lv_iload hx hb dX8_passOn_25 (lv_at hl 4 rfl) ?_
        refine goI hK hH (runV (As := [.int b, .int to, .int va]) (rest := []) hC hK hH (c_X8_whyNoStep hc_w) mlX8_109 (rcvM hK hH hc_w rfl) ⟨⟨Nat.le_of_ble_eq_true rfl, Nat.le_of_ble_eq_true rfl⟩, Nat.le_of_ble_eq_true rfl, Nat.le_of_ble_eq_true rfl⟩ rfl hl.1 rfl (Nat.le_of_ble_eq_true rfl) dX8_passOn_27) (fun rq6_ Mq4_ Tq5_ Hq_ lcq_ hP hz hH => ?_)
        try dsimp only at hP
        obtain ⟨(rfl), eT, eM⟩ := hP
        have eT := eT.symm; subst eT
        have eM := eM.symm; subst eM
        refine lv_istore (lv' := [(7, .int 30), (0, .ref w), (1, .int b), (2, .int so), (3, .int to), (4, .int va), (5, .int no), (6, .int wi)]) hx hb dX8_passOn_30 hl (by decide) rfl (fun ls hl => ?_)
        refine lv_iload hx hb dX8_passOn_32 (lv_at hl 0 rfl) ?_
        refine jif_ne (tgt := 100) hx hb dX8_passOn_34 (by decide) (fun cq7_ => ?_) (fun cq7_ => absurd cq7_ (by decide))
        refine lv_iload hx hb dX8_passOn_100 (lv_at hl 0 rfl) ?_
        exact ret_i hC hr hlk hK hH (⟨rfl, rfl, rfl⟩) (Nat.le_of_ble_eq_true rfl) (Nat.le_of_ble_eq_true rfl) dX8_passOn_102
      · skip
        have cq3_ : wi.toInt ≠ 0 := cq3_
        refine lv_iload_n hx hb dX8_passOn_14 rfl (lv_at hl 2 rfl) ?_
        refine lv_iconst (v := 3) hx hb dX8_passOn_15 (by decide) ?_
        refine jic_ne (tgt := 22) hx hb dX8_passOn_16 (by decide) (fun cq8_ => ?_) (fun cq8_ => ?_)
        · skip
          have cq8_ : so.toInt ≠ 3 := cq8_
          refine lv_aload_n hx hb dX8_passOn_22 rfl (lv_at hl 0 rfl) ?_
          refine lv_iload_n hx hb dX8_passOn_23 rfl (lv_at hl 1 rfl) ?_
          refine lv_iload_n hx hb dX8_passOn_24 rfl (lv_at hl 3 rfl) ?_
          refine lv_iload hx hb dX8_passOn_25 (lv_at hl 4 rfl) ?_
          refine goI hK hH (runV (As := [.int b, .int to, .int va]) (rest := []) hC hK hH (c_X8_whyNoStep hc_w) mlX8_109 (rcvM hK hH hc_w rfl) ⟨⟨Nat.le_of_ble_eq_true rfl, Nat.le_of_ble_eq_true rfl⟩, Nat.le_of_ble_eq_true rfl, Nat.le_of_ble_eq_true rfl⟩ rfl hl.1 rfl (Nat.le_of_ble_eq_true rfl) dX8_passOn_27) (fun rq11_ Mq9_ Tq10_ Hq_ lcq_ hP hz hH => ?_)
          try dsimp only at hP
          obtain ⟨(rfl), eT, eM⟩ := hP
          have eT := eT.symm; subst eT
          have eM := eM.symm; subst eM
          refine lv_istore (lv' := [(7, .int 30), (0, .ref w), (1, .int b), (2, .int so), (3, .int to), (4, .int va), (5, .int no), (6, .int wi)]) hx hb dX8_passOn_30 hl (by decide) rfl (fun ls hl => ?_)
          refine lv_iload hx hb dX8_passOn_32 (lv_at hl 0 rfl) ?_
          refine jif_ne (tgt := 100) hx hb dX8_passOn_34 (by decide) (fun cq12_ => ?_) (fun cq12_ => absurd cq12_ (by decide))
          refine lv_iload hx hb dX8_passOn_100 (lv_at hl 0 rfl) ?_
          exact ret_i hC hr hlk hK hH (⟨rfl, rfl, rfl⟩) (Nat.le_of_ble_eq_true rfl) (Nat.le_of_ble_eq_true rfl) dX8_passOn_102
        · skip
          have cq8_ : so.toInt = 3 := cq8_
          refine lv_bipush (v := 30) hx hb dX8_passOn_19 (by decide) ?_
          exact ret_i hC hr hlk hK hH (⟨rfl, rfl, rfl⟩) (Nat.le_of_ble_eq_true rfl) (Nat.le_of_ble_eq_true rfl) dX8_passOn_21
set_option maxHeartbeats 4000000 in
set_option maxRecDepth 100000 in
theorem c_X8_passForged {l : Launch} {D : va_G} {kA : Nat → ClassId} {M : mM} {T : mT} {sz : Nat} {w cs bs tp : Nat} {td gd py rf lt tl fp : Int32} {b nm to va no : Int32} (hc_w : M w = some (.inr (6, [.int td, .int gd, .int 0, .int py, .int rf, .int lt, .int tl, .int fp, .ref cs, .ref bs, .ref tp]))) : mCi l yX8_passForged cX8_passForged 9 (some .int) 2 0 0 D kA M T sz [.ref w, .int b, .int nm, .int to, .int va, .int no] (fun r u => (r = 30) ∧ u.2 = T ∧ u.1 = M) := by
  unfold mCi
  refine start_W (by decide) (Nat.le_of_ble_eq_true rfl) ?_
  intro p e s m below meth c ls hC hr hlk hnm hK hH hsz hl
  have hx := hC.1
  have hb := hC.2.1
  have hl : lv_has ls 9 [(0, .ref w), (1, .int b), (2, .int nm), (3, .int to), (4, .int va), (5, .int no)] := hl
  refine lv_aload_n hx hb dX8_passForged_0 rfl (lv_at hl 0 rfl) ?_
  refine lv_iload_n hx hb dX8_passForged_1 rfl (lv_at hl 1 rfl) ?_
  refine goI hK hH (runV (As := [.int b]) (rest := []) hC hK hH (c_X8_hasBill hc_w) mlX8_68 (rcvM hK hH hc_w rfl) ⟨⟨Nat.le_of_ble_eq_true rfl, Nat.le_of_ble_eq_true rfl⟩, Nat.le_of_ble_eq_true rfl, Nat.le_of_ble_eq_true rfl⟩ rfl hl.1 rfl (Nat.le_of_ble_eq_true rfl) dX8_passForged_2) (fun rq3_ Mq1_ Tq2_ Hq_ lcq_ hP hz hH => ?_)
  try dsimp only at hP
  obtain ⟨(⟨cq4_, rfl⟩ | ⟨cq5_, rfl⟩), eT, eM⟩ := hP
  · skip
    have eT := eT.symm; subst eT
    have eM := eM.symm; subst eM
    have cq4_ : 0 ≤ b.toInt ∧ b.toInt < (0 : Int) := cq4_
    exact absurd cq4_ (by omega)
  · skip
    have eT := eT.symm; subst eT
    have eM := eM.symm; subst eM
    have cq5_ : ¬ (0 ≤ b.toInt ∧ b.toInt < (0 : Int)) := cq5_
    refine jif_eq (tgt := 28) hx hb dX8_passForged_5 (by decide) (fun cq6_ => ?_) (fun cq6_ => absurd cq6_ (by decide))
    refine lv_bipush (v := 30) hx hb dX8_passForged_28 (by decide) ?_
    exact ret_i hC hr hlk hK hH (⟨rfl, rfl, rfl⟩) (Nat.le_of_ble_eq_true rfl) (Nat.le_of_ble_eq_true rfl) dX8_passForged_30
set_option maxHeartbeats 4000000 in
set_option maxRecDepth 100000 in
theorem c_X8_findOne {l : Launch} {D : va_G} {kA : Nat → ClassId} {M : mM} {T : mT} {sz : Nat} {w cs bs tp : Nat} {td gd py rf lt tl fp : Int32} {b by_ : Int32} (hc_w : M w = some (.inr (6, [.int td, .int gd, .int 0, .int py, .int rf, .int lt, .int tl, .int fp, .ref cs, .ref bs, .ref tp]))) : mCi l yX8_findOne cX8_findOne 5 (some .int) 2 0 0 D kA M T sz [.ref w, .int b, .int by_] (fun r u => (r = 30) ∧ u.2 = T ∧ u.1 = M) := by
  unfold mCi
  refine start_W (by decide) (Nat.le_of_ble_eq_true rfl) ?_
  intro p e s m below meth c ls hC hr hlk hnm hK hH hsz hl
  have hx := hC.1
  have hb := hC.2.1
  have hl : lv_has ls 5 [(0, .ref w), (1, .int b), (2, .int by_)] := hl
  refine lv_aload_n hx hb dX8_findOne_0 rfl (lv_at hl 0 rfl) ?_
  refine lv_iload_n hx hb dX8_findOne_1 rfl (lv_at hl 1 rfl) ?_
  refine lv_iload_n hx hb dX8_findOne_2 rfl (lv_at hl 2 rfl) ?_
  refine lv_iconst (v := 0) hx hb dX8_findOne_3 (by decide) ?_
  refine goI hK hH (runV (As := [.int b, .int by_, .int 0]) (rest := []) hC hK hH (c_X8_whyNoStep hc_w) mlX8_109 (rcvM hK hH hc_w rfl) ⟨⟨Nat.le_of_ble_eq_true rfl, Nat.le_of_ble_eq_true rfl⟩, Nat.le_of_ble_eq_true rfl, Nat.le_of_ble_eq_true rfl⟩ rfl hl.1 rfl (Nat.le_of_ble_eq_true rfl) dX8_findOne_4) (fun rq3_ Mq1_ Tq2_ Hq_ lcq_ hP hz hH => ?_)
  try dsimp only at hP
  obtain ⟨(rfl), eT, eM⟩ := hP
  have eT := eT.symm; subst eT
  have eM := eM.symm; subst eM
  refine lv_istore_n (lv' := [(3, .int 30), (0, .ref w), (1, .int b), (2, .int by_)]) hx hb dX8_findOne_7 rfl hl (by decide) rfl (fun ls hl => ?_)
  refine lv_iload_n hx hb dX8_findOne_8 rfl (lv_at hl 0 rfl) ?_
  refine jif_ne (tgt := 37) hx hb dX8_findOne_9 (by decide) (fun cq4_ => ?_) (fun cq4_ => absurd cq4_ (by decide))
  refine lv_iload_n hx hb dX8_findOne_37 rfl (lv_at hl 0 rfl) ?_
  exact ret_i hC hr hlk hK hH (⟨rfl, rfl, rfl⟩) (Nat.le_of_ble_eq_true rfl) (Nat.le_of_ble_eq_true rfl) dX8_findOne_38
set_option maxHeartbeats 4000000 in
set_option maxRecDepth 100000 in
theorem c_X8_giveDefence {l : Launch} {D : va_G} {kA : Nat → ClassId} {M : mM} {T : mT} {sz : Nat} {w cs bs tp : Nat} {td gd py rf lt tl fp : Int32} {b pt re : Int32} (hc_w : M w = some (.inr (6, [.int td, .int gd, .int 0, .int py, .int rf, .int lt, .int tl, .int fp, .ref cs, .ref bs, .ref tp]))) : mCi l yX8_giveDefence cX8_giveDefence 6 (some .int) 3 0 0 D kA M T sz [.ref w, .int b, .int pt, .int re] (fun r u => (r = 30) ∧ u.2 = T ∧ u.1 = M) := by
  unfold mCi
  refine start_W (by decide) (Nat.le_of_ble_eq_true rfl) ?_
  intro p e s m below meth c ls hC hr hlk hnm hK hH hsz hl
  have hx := hC.1
  have hb := hC.2.1
  have hl : lv_has ls 6 [(0, .ref w), (1, .int b), (2, .int pt), (3, .int re)] := hl
  refine lv_aload_n hx hb dX8_giveDefence_0 rfl (lv_at hl 0 rfl) ?_
  refine lv_iload_n hx hb dX8_giveDefence_1 rfl (lv_at hl 1 rfl) ?_
  refine lv_iload_n hx hb dX8_giveDefence_2 rfl (lv_at hl 2 rfl) ?_
  refine goI hK hH (runV (As := [.int b, .int pt]) (rest := []) hC hK hH (c_X8_hasSigner hc_w) mlX8_138 (rcvM hK hH hc_w rfl) ⟨⟨Nat.le_of_ble_eq_true rfl, Nat.le_of_ble_eq_true rfl⟩, Nat.le_of_ble_eq_true rfl, Nat.le_of_ble_eq_true rfl⟩ rfl hl.1 rfl (Nat.le_of_ble_eq_true rfl) dX8_giveDefence_3) (fun rq3_ Mq1_ Tq2_ Hq_ lcq_ hP hz hH => ?_)
  try dsimp only at hP
  obtain ⟨(rfl), eT, eM⟩ := hP
  have eT := eT.symm; subst eT
  have eM := eM.symm; subst eM
  refine jif_ne (tgt := 12) hx hb dX8_giveDefence_6 (by decide) (fun cq4_ => absurd cq4_ (by decide)) (fun cq4_ => ?_)
  refine lv_bipush (v := 30) hx hb dX8_giveDefence_9 (by decide) ?_
  exact ret_i hC hr hlk hK hH (⟨rfl, rfl, rfl⟩) (Nat.le_of_ble_eq_true rfl) (Nat.le_of_ble_eq_true rfl) dX8_giveDefence_11
set_option maxHeartbeats 4000000 in
set_option maxRecDepth 100000 in
theorem c_X8_presentOne {l : Launch} {D : va_G} {kA : Nat → ClassId} {M : mM} {T : mT} {sz : Nat} {w cs bs tp : Nat} {td gd py rf lt tl fp : Int32} {b : Int32} (hc_w : M w = some (.inr (6, [.int td, .int gd, .int 0, .int py, .int rf, .int lt, .int tl, .int fp, .ref cs, .ref bs, .ref tp]))) : mCi l yX8_presentOne cX8_presentOne 3 (some .int) 1 0 0 D kA M T sz [.ref w, .int b] (fun r u => (r = 30) ∧ u.2 = T ∧ u.1 = M) := by
  unfold mCi
  refine start_W (by decide) (Nat.le_of_ble_eq_true rfl) ?_
  intro p e s m below meth c ls hC hr hlk hnm hK hH hsz hl
  have hx := hC.1
  have hb := hC.2.1
  have hl : lv_has ls 3 [(0, .ref w), (1, .int b)] := hl
  refine lv_aload_n hx hb dX8_presentOne_0 rfl (lv_at hl 0 rfl) ?_
  refine lv_iload_n hx hb dX8_presentOne_1 rfl (lv_at hl 1 rfl) ?_
  refine goI hK hH (runV (As := [.int b]) (rest := []) hC hK hH (c_X8_hasBill hc_w) mlX8_68 (rcvM hK hH hc_w rfl) ⟨⟨Nat.le_of_ble_eq_true rfl, Nat.le_of_ble_eq_true rfl⟩, Nat.le_of_ble_eq_true rfl, Nat.le_of_ble_eq_true rfl⟩ rfl hl.1 rfl (Nat.le_of_ble_eq_true rfl) dX8_presentOne_2) (fun rq3_ Mq1_ Tq2_ Hq_ lcq_ hP hz hH => ?_)
  try dsimp only at hP
  obtain ⟨(⟨cq4_, rfl⟩ | ⟨cq5_, rfl⟩), eT, eM⟩ := hP
  · skip
    have eT := eT.symm; subst eT
    have eM := eM.symm; subst eM
    have cq4_ : 0 ≤ b.toInt ∧ b.toInt < (0 : Int) := cq4_
    exact absurd cq4_ (by omega)
  · skip
    have eT := eT.symm; subst eT
    have eM := eM.symm; subst eM
    have cq5_ : ¬ (0 ≤ b.toInt ∧ b.toInt < (0 : Int)) := cq5_
    refine jif_ne (tgt := 11) hx hb dX8_presentOne_5 (by decide) (fun cq6_ => absurd cq6_ (by decide)) (fun cq6_ => ?_)
    refine lv_bipush (v := 30) hx hb dX8_presentOne_8 (by decide) ?_
    exact ret_i hC hr hlk hK hH (⟨rfl, rfl, rfl⟩) (Nat.le_of_ble_eq_true rfl) (Nat.le_of_ble_eq_true rfl) dX8_presentOne_10
set_option maxHeartbeats 4000000 in
set_option maxRecDepth 100000 in
theorem c_X8_giveNotice {l : Launch} {D : va_G} {kA : Nat → ClassId} {M : mM} {T : mT} {sz : Nat} {w cs bs tp : Nat} {td gd py rf lt tl fp : Int32} {b fr to : Int32} (hc_w : M w = some (.inr (6, [.int td, .int gd, .int 0, .int py, .int rf, .int lt, .int tl, .int fp, .ref cs, .ref bs, .ref tp]))) : mCi l yX8_giveNotice cX8_giveNotice 5 (some .int) 3 0 0 D kA M T sz [.ref w, .int b, .int fr, .int to] (fun r u => (r = 30) ∧ u.2 = T ∧ u.1 = M) := by
  unfold mCi
  refine start_W (by decide) (Nat.le_of_ble_eq_true rfl) ?_
  intro p e s m below meth c ls hC hr hlk hnm hK hH hsz hl
  have hx := hC.1
  have hb := hC.2.1
  have hl : lv_has ls 5 [(0, .ref w), (1, .int b), (2, .int fr), (3, .int to)] := hl
  refine lv_iload_n hx hb dX8_giveNotice_0 rfl (lv_at hl 3 rfl) ?_
  refine lv_iconst (v := 1) hx hb dX8_giveNotice_1 (by decide) ?_
  refine jic_lt (tgt := 28) hx hb dX8_giveNotice_2 (by decide) (fun cq1_ => ?_) (fun cq1_ => ?_)
  · skip
    have cq1_ : to.toInt < 1 := cq1_
    refine lv_bipush (v := 30) hx hb dX8_giveNotice_28 (by decide) ?_
    exact ret_i hC hr hlk hK hH (⟨rfl, rfl, rfl⟩) (Nat.le_of_ble_eq_true rfl) (Nat.le_of_ble_eq_true rfl) dX8_giveNotice_30
  · skip
    have cq1_ : 1 ≤ to.toInt := cq1_
    refine lv_aload_n hx hb dX8_giveNotice_5 rfl (lv_at hl 0 rfl) ?_
    refine lv_iload_n hx hb dX8_giveNotice_6 rfl (lv_at hl 1 rfl) ?_
    refine lv_iload_n hx hb dX8_giveNotice_7 rfl (lv_at hl 3 rfl) ?_
    refine goI hK hH (runV (As := [.int b, .int to]) (rest := []) hC hK hH (c_X8_hasSigner hc_w) mlX8_138 (rcvM hK hH hc_w rfl) ⟨⟨Nat.le_of_ble_eq_true rfl, Nat.le_of_ble_eq_true rfl⟩, Nat.le_of_ble_eq_true rfl, Nat.le_of_ble_eq_true rfl⟩ rfl hl.1 rfl (Nat.le_of_ble_eq_true rfl) dX8_giveNotice_8) (fun rq4_ Mq2_ Tq3_ Hq_ lcq_ hP hz hH => ?_)
    try dsimp only at hP
    obtain ⟨(rfl), eT, eM⟩ := hP
    have eT := eT.symm; subst eT
    have eM := eM.symm; subst eM
    refine jif_eq (tgt := 28) hx hb dX8_giveNotice_11 (by decide) (fun cq5_ => ?_) (fun cq5_ => absurd cq5_ (by decide))
    refine lv_bipush (v := 30) hx hb dX8_giveNotice_28 (by decide) ?_
    exact ret_i hC hr hlk hK hH (⟨rfl, rfl, rfl⟩) (Nat.le_of_ble_eq_true rfl) (Nat.le_of_ble_eq_true rfl) dX8_giveNotice_30
set_option maxHeartbeats 4000000 in
set_option maxRecDepth 100000 in
theorem c_X8_releaseOne {l : Launch} {D : va_G} {kA : Nat → ClassId} {M : mM} {T : mT} {sz : Nat} {w cs bs tp : Nat} {td gd py rf lt tl fp : Int32} {b pt : Int32} (hc_w : M w = some (.inr (6, [.int td, .int gd, .int 0, .int py, .int rf, .int lt, .int tl, .int fp, .ref cs, .ref bs, .ref tp]))) : mCi l yX8_releaseOne cX8_releaseOne 4 (some .int) 3 0 0 D kA M T sz [.ref w, .int b, .int pt] (fun r u => (r = 30) ∧ u.2 = T ∧ u.1 = M) := by
  unfold mCi
  refine start_W (by decide) (Nat.le_of_ble_eq_true rfl) ?_
  intro p e s m below meth c ls hC hr hlk hnm hK hH hsz hl
  have hx := hC.1
  have hb := hC.2.1
  have hl : lv_has ls 4 [(0, .ref w), (1, .int b), (2, .int pt)] := hl
  refine lv_aload_n hx hb dX8_releaseOne_0 rfl (lv_at hl 0 rfl) ?_
  refine lv_iload_n hx hb dX8_releaseOne_1 rfl (lv_at hl 1 rfl) ?_
  refine lv_iload_n hx hb dX8_releaseOne_2 rfl (lv_at hl 2 rfl) ?_
  refine goI hK hH (runV (As := [.int b, .int pt]) (rest := []) hC hK hH (c_X8_hasSigner hc_w) mlX8_138 (rcvM hK hH hc_w rfl) ⟨⟨Nat.le_of_ble_eq_true rfl, Nat.le_of_ble_eq_true rfl⟩, Nat.le_of_ble_eq_true rfl, Nat.le_of_ble_eq_true rfl⟩ rfl hl.1 rfl (Nat.le_of_ble_eq_true rfl) dX8_releaseOne_3) (fun rq3_ Mq1_ Tq2_ Hq_ lcq_ hP hz hH => ?_)
  try dsimp only at hP
  obtain ⟨(rfl), eT, eM⟩ := hP
  have eT := eT.symm; subst eT
  have eM := eM.symm; subst eM
  refine jif_ne (tgt := 12) hx hb dX8_releaseOne_6 (by decide) (fun cq4_ => absurd cq4_ (by decide)) (fun cq4_ => ?_)
  refine lv_bipush (v := 30) hx hb dX8_releaseOne_9 (by decide) ?_
  exact ret_i hC hr hlk hK hH (⟨rfl, rfl, rfl⟩) (Nat.le_of_ble_eq_true rfl) (Nat.le_of_ble_eq_true rfl) dX8_releaseOne_11
set_option maxHeartbeats 4000000 in
set_option maxRecDepth 100000 in
theorem c_X8_payOne {l : Launch} {D : va_G} {kA : Nat → ClassId} {M : mM} {T : mT} {sz : Nat} {w cs bs tp : Nat} {td gd py rf lt tl fp : Int32} {b pt : Int32} (hc_w : M w = some (.inr (6, [.int td, .int gd, .int 0, .int py, .int rf, .int lt, .int tl, .int fp, .ref cs, .ref bs, .ref tp]))) : mCi l yX8_payOne cX8_payOne 5 (some .int) 2 0 0 D kA M T sz [.ref w, .int b, .int pt] (fun r u => (r = 30) ∧ u.2 = T ∧ u.1 = M) := by
  unfold mCi
  refine start_W (by decide) (Nat.le_of_ble_eq_true rfl) ?_
  intro p e s m below meth c ls hC hr hlk hnm hK hH hsz hl
  have hx := hC.1
  have hb := hC.2.1
  have hl : lv_has ls 5 [(0, .ref w), (1, .int b), (2, .int pt)] := hl
  refine lv_aload_n hx hb dX8_payOne_0 rfl (lv_at hl 0 rfl) ?_
  refine lv_iload_n hx hb dX8_payOne_1 rfl (lv_at hl 1 rfl) ?_
  refine lv_iload_n hx hb dX8_payOne_2 rfl (lv_at hl 2 rfl) ?_
  refine goI hK hH (runV (As := [.int b, .int pt]) (rest := []) hC hK hH (c_X8_hasParty hc_w) mlX8_76 (rcvM hK hH hc_w rfl) ⟨⟨Nat.le_of_ble_eq_true rfl, Nat.le_of_ble_eq_true rfl⟩, Nat.le_of_ble_eq_true rfl, Nat.le_of_ble_eq_true rfl⟩ rfl hl.1 rfl (Nat.le_of_ble_eq_true rfl) dX8_payOne_3) (fun rq3_ Mq1_ Tq2_ Hq_ lcq_ hP hz hH => ?_)
  try dsimp only at hP
  obtain ⟨(rfl), eT, eM⟩ := hP
  have eT := eT.symm; subst eT
  have eM := eM.symm; subst eM
  refine jif_ne (tgt := 12) hx hb dX8_payOne_6 (by decide) (fun cq4_ => absurd cq4_ (by decide)) (fun cq4_ => ?_)
  refine lv_bipush (v := 30) hx hb dX8_payOne_9 (by decide) ?_
  exact ret_i hC hr hlk hK hH (⟨rfl, rfl, rfl⟩) (Nat.le_of_ble_eq_true rfl) (Nat.le_of_ble_eq_true rfl) dX8_payOne_11
set_option maxHeartbeats 4000000 in
set_option maxRecDepth 100000 in
theorem c_X8_goOn {l : Launch} {D : va_G} {kA : Nat → ClassId} {M : mM} {T : mT} {sz : Nat} {w cs bs tp : Nat} {gd bc py rf lt tl fp : Int32} {n : Int32} (hc_w : M w = some (.inr (6, [.int 0, .int gd, .int bc, .int py, .int rf, .int lt, .int tl, .int fp, .ref cs, .ref bs, .ref tp]))) : mCi l yX8_goOn cX8_goOn 2 (some .int) 0 0 0 D kA M T sz [.ref w, .int n] (fun r u => (((1 ≤ n.toInt ∧ n.toInt ≤ 99) ∧ r = 0 ∧ u.1 w = some (.inr (6, [.int (0 + n), .int gd, .int bc, .int py, .int rf, .int lt, .int tl, .int fp, .ref cs, .ref bs, .ref tp]))) ∨ ((¬ (1 ≤ n.toInt ∧ n.toInt ≤ 99)) ∧ r = 30 ∧ u.1 w = some (.inr (6, [.int 0, .int gd, .int bc, .int py, .int rf, .int lt, .int tl, .int fp, .ref cs, .ref bs, .ref tp])))) ∧ u.2 = T ∧ (∀ q, q ≠ w → u.1 q = M q)) := by
  unfold mCi
  refine start_W (by decide) (Nat.le_of_ble_eq_true rfl) ?_
  intro p e s m below meth c ls hC hr hlk hnm hK hH hsz hl
  have hx := hC.1
  have hb := hC.2.1
  have hl : lv_has ls 2 [(0, .ref w), (1, .int n)] := hl
  have hF : ∀ q, q ≠ w → M q = M q := fun q _ => rfl
  refine lv_iload_n hx hb dX8_goOn_0 rfl (lv_at hl 1 rfl) ?_
  refine lv_iconst (v := 1) hx hb dX8_goOn_1 (by decide) ?_
  refine jic_lt (tgt := 23) hx hb dX8_goOn_2 (by decide) (fun cq1_ => ?_) (fun cq1_ => ?_)
  · skip
    have cq1_ : n.toInt < 1 := cq1_
    refine lv_bipush (v := 30) hx hb dX8_goOn_23 (by decide) ?_
    exact ret_i hC hr hlk hK hH (⟨Or.inr (⟨by omega, rfl, hc_w⟩), rfl, hF⟩) (Nat.le_of_ble_eq_true rfl) (Nat.le_of_ble_eq_true rfl) dX8_goOn_25
  · skip
    have cq1_ : 1 ≤ n.toInt := cq1_
    refine lv_iload_n hx hb dX8_goOn_5 rfl (lv_at hl 1 rfl) ?_
    refine lv_bipush (v := 99) hx hb dX8_goOn_6 (by decide) ?_
    refine jic_gt (tgt := 23) hx hb dX8_goOn_8 (by decide) (fun cq2_ => ?_) (fun cq2_ => ?_)
    · skip
      have cq2_ : 99 < n.toInt := cq2_
      refine lv_bipush (v := 30) hx hb dX8_goOn_23 (by decide) ?_
      exact ret_i hC hr hlk hK hH (⟨Or.inr (⟨by omega, rfl, hc_w⟩), rfl, hF⟩) (Nat.le_of_ble_eq_true rfl) (Nat.le_of_ble_eq_true rfl) dX8_goOn_25
    · skip
      have cq2_ : n.toInt ≤ 99 := cq2_
      refine lv_aload_n hx hb dX8_goOn_11 rfl (lv_at hl 0 rfl) ?_
      refine xg hC hK hH flX8_29 hc_w rfl dX8_goOn_12 ?_
      refine lv_iload_n hx hb dX8_goOn_15 rfl (lv_at hl 1 rfl) ?_
      refine lv_iadd hx hb dX8_goOn_16 ?_
      refine lv_topi (fun zq3_ e_zq3_ => ?_)
      have h_zq3_ : zq3_.toInt = 0 + n.toInt := by rw [e_zq3_, iAdd (by have : (0 : Int32).toInt = 0 := rfl; have := iRg n; omega) (by have : (0 : Int32).toInt = 0 := rfl; have := iRg n; omega)]; rfl
      refine lv_sipush (v := 999) hx hb dX8_goOn_17 (by decide) ?_
      refine jic_le (tgt := 26) hx hb dX8_goOn_20 (by decide) (fun cq4_ => ?_) (fun cq4_ => absurd cq4_ (by have := iRg zq3_; have : (999 : Int32).toInt = 999 := rfl; omega))
      have cq4_ : zq3_.toInt ≤ 999 := cq4_
      refine lv_aload_n hx hb dX8_goOn_26 rfl (lv_at hl 0 rfl) ?_
      refine lv_dup hx hb dX8_goOn_27 rfl ?_
      refine xg hC hK hH flX8_29 hc_w rfl dX8_goOn_28 ?_
      refine lv_iload_n hx hb dX8_goOn_31 rfl (lv_at hl 1 rfl) ?_
      refine lv_iadd hx hb dX8_goOn_32 ?_
      refine lv_topi (fun zq5_ e_zq5_ => ?_)
      have h_zq5_ : zq5_.toInt = 0 + n.toInt := by rw [e_zq5_, iAdd (by have : (0 : Int32).toInt = 0 := rfl; have := iRg n; omega) (by have : (0 : Int32).toInt = 0 := rfl; have := iRg n; omega)]; rfl
      refine yp (v := .int zq5_) hC hK hH flX8_29 hc_w rfl rfl (Nat.le_of_ble_eq_true rfl) dX8_goOn_33 (fun Hq_ lcq_ Mq6_ hc_w hfr hH => ?_)
      have hc_w : Mq6_ w = some (.inr (6, [.int zq5_, .int gd, .int bc, .int py, .int rf, .int lt, .int tl, .int fp, .ref cs, .ref bs, .ref tp])) := hc_w
      have hF : ∀ q, q ≠ w → Mq6_ q = M q := fun q h0 => (hfr q h0).trans (hF q h0)
      refine lv_iconst (v := 0) hx hb dX8_goOn_36 (by decide) ?_
      subst e_zq5_
      subst e_zq3_
      exact ret_i hC hr hlk hK hH (⟨Or.inl (⟨by omega, rfl, hc_w⟩), rfl, hF⟩) (Nat.le_of_ble_eq_true rfl) (Nat.le_of_ble_eq_true rfl) dX8_goOn_37
set_option maxHeartbeats 4000000 in
set_option maxRecDepth 100000 in
theorem c_X8_setGrace {l : Launch} {D : va_G} {kA : Nat → ClassId} {M : mM} {T : mT} {sz : Nat} {w cs bs tp : Nat} {td gd bc py rf lt tl fp : Int32} {n : Int32} (hc_w : M w = some (.inr (6, [.int td, .int gd, .int bc, .int py, .int rf, .int lt, .int tl, .int fp, .ref cs, .ref bs, .ref tp]))) : mCi l yX8_setGrace cX8_setGrace 2 (some .int) 0 0 0 D kA M T sz [.ref w, .int n] (fun r u => (((1 ≤ n.toInt ∧ n.toInt ≤ 9) ∧ r = 0 ∧ u.1 w = some (.inr (6, [.int td, .int n, .int bc, .int py, .int rf, .int lt, .int tl, .int fp, .ref cs, .ref bs, .ref tp]))) ∨ ((¬ (1 ≤ n.toInt ∧ n.toInt ≤ 9)) ∧ r = 30 ∧ u.1 w = some (.inr (6, [.int td, .int gd, .int bc, .int py, .int rf, .int lt, .int tl, .int fp, .ref cs, .ref bs, .ref tp])))) ∧ u.2 = T ∧ (∀ q, q ≠ w → u.1 q = M q)) := by
  unfold mCi
  refine start_W (by decide) (Nat.le_of_ble_eq_true rfl) ?_
  intro p e s m below meth c ls hC hr hlk hnm hK hH hsz hl
  have hx := hC.1
  have hb := hC.2.1
  have hl : lv_has ls 2 [(0, .ref w), (1, .int n)] := hl
  have hF : ∀ q, q ≠ w → M q = M q := fun q _ => rfl
  refine lv_iload_n hx hb dX8_setGrace_0 rfl (lv_at hl 1 rfl) ?_
  refine lv_iconst (v := 1) hx hb dX8_setGrace_1 (by decide) ?_
  refine jic_lt (tgt := 11) hx hb dX8_setGrace_2 (by decide) (fun cq1_ => ?_) (fun cq1_ => ?_)
  · skip
    have cq1_ : n.toInt < 1 := cq1_
    refine lv_bipush (v := 30) hx hb dX8_setGrace_11 (by decide) ?_
    exact ret_i hC hr hlk hK hH (⟨Or.inr (⟨by omega, rfl, hc_w⟩), rfl, hF⟩) (Nat.le_of_ble_eq_true rfl) (Nat.le_of_ble_eq_true rfl) dX8_setGrace_13
  · skip
    have cq1_ : 1 ≤ n.toInt := cq1_
    refine lv_iload_n hx hb dX8_setGrace_5 rfl (lv_at hl 1 rfl) ?_
    refine lv_bipush (v := 9) hx hb dX8_setGrace_6 (by decide) ?_
    refine jic_le (tgt := 14) hx hb dX8_setGrace_8 (by decide) (fun cq2_ => ?_) (fun cq2_ => ?_)
    · skip
      have cq2_ : n.toInt ≤ 9 := cq2_
      refine lv_aload_n hx hb dX8_setGrace_14 rfl (lv_at hl 0 rfl) ?_
      refine lv_iload_n hx hb dX8_setGrace_15 rfl (lv_at hl 1 rfl) ?_
      refine yp (v := .int n) hC hK hH flX8_33 hc_w rfl rfl (Nat.le_of_ble_eq_true rfl) dX8_setGrace_16 (fun Hq_ lcq_ Mq3_ hc_w hfr hH => ?_)
      have hc_w : Mq3_ w = some (.inr (6, [.int td, .int n, .int bc, .int py, .int rf, .int lt, .int tl, .int fp, .ref cs, .ref bs, .ref tp])) := hc_w
      have hF : ∀ q, q ≠ w → Mq3_ q = M q := fun q h0 => (hfr q h0).trans (hF q h0)
      refine lv_iconst (v := 0) hx hb dX8_setGrace_19 (by decide) ?_
      exact ret_i hC hr hlk hK hH (⟨Or.inl (⟨by omega, rfl, hc_w⟩), rfl, hF⟩) (Nat.le_of_ble_eq_true rfl) (Nat.le_of_ble_eq_true rfl) dX8_setGrace_20
    · skip
      have cq2_ : 9 < n.toInt := cq2_
      refine lv_bipush (v := 30) hx hb dX8_setGrace_11 (by decide) ?_
      exact ret_i hC hr hlk hK hH (⟨Or.inr (⟨by omega, rfl, hc_w⟩), rfl, hF⟩) (Nat.le_of_ble_eq_true rfl) (Nat.le_of_ble_eq_true rfl) dX8_setGrace_13
set_option maxHeartbeats 4000000 in
set_option maxRecDepth 100000 in
theorem c_X8_setCash {l : Launch} {D : va_G} {kA : Nat → ClassId} {M : mM} {T : mT} {sz : Nat} {w cs bs tp : Nat} {td gd bc py rf lt tl fp : Int32} {ps n : Int32} {f : Nat → Int32} (hc_w : M w = some (.inr (6, [.int td, .int gd, .int bc, .int py, .int rf, .int lt, .int tl, .int fp, .ref cs, .ref bs, .ref tp]))) (hc_cs : M cs = some (.inl (kA 0, 8, .inl f))) : mCi l yX8_setCash cX8_setCash 3 (some .int) 1 0 0 D kA M T sz [.ref w, .int ps, .int n] (fun r u => (((0 ≤ ps.toInt ∧ ps.toInt ≤ 7 ∧ 0 ≤ n.toInt ∧ n.toInt ≤ 9999) ∧ r = 0 ∧ u.1 cs = some (.inl (kA 0, 8, .inl (upd f (Int32.toNatClampNeg ps) n)))) ∨ ((¬ (0 ≤ ps.toInt ∧ ps.toInt ≤ 7 ∧ 0 ≤ n.toInt ∧ n.toInt ≤ 9999)) ∧ r = 30 ∧ u.1 cs = some (.inl (kA 0, 8, .inl f)))) ∧ u.2 = T ∧ (∀ q, q ≠ cs → u.1 q = M q)) := by
  unfold mCi
  refine start_W (by decide) (Nat.le_of_ble_eq_true rfl) ?_
  intro p e s m below meth c ls hC hr hlk hnm hK hH hsz hl
  have hx := hC.1
  have hb := hC.2.1
  have hl : lv_has ls 3 [(0, .ref w), (1, .int ps), (2, .int n)] := hl
  have hF : ∀ q, q ≠ cs → M q = M q := fun q _ => rfl
  have n_w_cs : w ≠ cs := neM hc_w hc_cs (by simp)
  have n_cs_w : cs ≠ w := neM hc_cs hc_w (by simp)
  refine lv_iload_n hx hb dX8_setCash_0 rfl (lv_at hl 1 rfl) ?_
  refine goI hK hH (runSN (As := [.int ps]) (rest := []) hC hK hH (c_X9_isPerson) mlX8_94 ⟨⟨Nat.le_of_ble_eq_true rfl, Nat.le_of_ble_eq_true rfl⟩, Nat.le_of_ble_eq_true rfl, Nat.le_of_ble_eq_true rfl⟩ rfl hl.1 rfl (Nat.le_of_ble_eq_true rfl) dX8_setCash_1) (fun rq3_ Mq1_ Tq2_ Hq_ lcq_ hP hz hH => ?_)
  try dsimp only at hP
  obtain ⟨(⟨cq4_, rfl⟩ | ⟨cq5_, rfl⟩), eT, eM⟩ := hP
  · skip
    have eT := eT.symm; subst eT
    have eM := eM.symm; subst eM
    have cq4_ : 0 ≤ ps.toInt ∧ ps.toInt ≤ 7 := cq4_
    refine jif_eq (tgt := 18) hx hb dX8_setCash_4 (by decide) (fun cq6_ => absurd cq6_ (by decide)) (fun cq6_ => ?_)
    refine lv_iload_n hx hb dX8_setCash_7 rfl (lv_at hl 2 rfl) ?_
    refine jif_lt (tgt := 18) hx hb dX8_setCash_8 (by decide) (fun cq7_ => ?_) (fun cq7_ => ?_)
    · skip
      have cq7_ : n.toInt < 0 := cq7_
      refine lv_bipush (v := 30) hx hb dX8_setCash_18 (by decide) ?_
      exact ret_i hC hr hlk hK hH (⟨Or.inr (⟨by omega, rfl, hc_cs⟩), rfl, hF⟩) (Nat.le_of_ble_eq_true rfl) (Nat.le_of_ble_eq_true rfl) dX8_setCash_20
    · skip
      have cq7_ : 0 ≤ n.toInt := cq7_
      refine lv_iload_n hx hb dX8_setCash_11 rfl (lv_at hl 2 rfl) ?_
      refine lv_sipush (v := 9999) hx hb dX8_setCash_12 (by decide) ?_
      refine jic_le (tgt := 21) hx hb dX8_setCash_15 (by decide) (fun cq8_ => ?_) (fun cq8_ => ?_)
      · skip
        have cq8_ : n.toInt ≤ 9999 := cq8_
        refine lv_aload_n hx hb dX8_setCash_21 rfl (lv_at hl 0 rfl) ?_
        refine xg hC hK hH flX8_9 hc_w rfl dX8_setCash_22 ?_
        refine lv_iload_n hx hb dX8_setCash_25 rfl (lv_at hl 1 rfl) ?_
        refine lv_iload_n hx hb dX8_setCash_26 rfl (lv_at hl 2 rfl) ?_
        refine yist (x := n) hC hK hH hc_cs (iIn (by omega) (by omega)) dX8_setCash_27 (fun Hq_ lcq_ Mq9_ hc_cs hfr hH => ?_)
        have hc_cs : Mq9_ cs = some (.inl (kA 0, 8, .inl (upd f (Int32.toNatClampNeg ps) n))) := hc_cs
        have hc_w : Mq9_ w = some (.inr (6, [.int td, .int gd, .int bc, .int py, .int rf, .int lt, .int tl, .int fp, .ref cs, .ref bs, .ref tp])) := (hfr w n_w_cs).trans hc_w
        have hF : ∀ q, q ≠ cs → Mq9_ q = M q := fun q h0 => (hfr q h0).trans (hF q h0)
        refine lv_iconst (v := 0) hx hb dX8_setCash_28 (by decide) ?_
        exact ret_i hC hr hlk hK hH (⟨Or.inl (⟨by omega, rfl, hc_cs⟩), rfl, hF⟩) (Nat.le_of_ble_eq_true rfl) (Nat.le_of_ble_eq_true rfl) dX8_setCash_29
      · skip
        have cq8_ : 9999 < n.toInt := cq8_
        refine lv_bipush (v := 30) hx hb dX8_setCash_18 (by decide) ?_
        exact ret_i hC hr hlk hK hH (⟨Or.inr (⟨by omega, rfl, hc_cs⟩), rfl, hF⟩) (Nat.le_of_ble_eq_true rfl) (Nat.le_of_ble_eq_true rfl) dX8_setCash_20
  · skip
    have eT := eT.symm; subst eT
    have eM := eM.symm; subst eM
    have cq5_ : ¬ (0 ≤ ps.toInt ∧ ps.toInt ≤ 7) := cq5_
    refine jif_eq (tgt := 18) hx hb dX8_setCash_4 (by decide) (fun cq10_ => ?_) (fun cq10_ => absurd cq10_ (by decide))
    refine lv_bipush (v := 30) hx hb dX8_setCash_18 (by decide) ?_
    exact ret_i hC hr hlk hK hH (⟨Or.inr (⟨by omega, rfl, hc_cs⟩), rfl, hF⟩) (Nat.le_of_ble_eq_true rfl) (Nat.le_of_ble_eq_true rfl) dX8_setCash_20
