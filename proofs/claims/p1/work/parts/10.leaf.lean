set_option maxHeartbeats 4000000 in
set_option maxRecDepth 100000 in
theorem c_X9_isPerson {l : Launch} {D : va_G} {kA : Nat → ClassId} {M : mM} {T : mT} {sz : Nat} {n : Int32}  : mCi l yX9_isPerson cX9_isPerson 1 (some .boolean) 0 0 0 D kA M T sz [.int n] (fun r u => (((0 ≤ n.toInt ∧ n.toInt ≤ 7) ∧ r = 1) ∨ ((¬ (0 ≤ n.toInt ∧ n.toInt ≤ 7)) ∧ r = 0)) ∧ u.2 = T ∧ u.1 = M) := by
  unfold mCi
  refine start_W (by decide) (Nat.le_of_ble_eq_true rfl) ?_
  intro p e s m below meth c ls hC hr hlk hnm hK hH hsz hl
  have hx := hC.1
  have hb := hC.2.1
  have hl : lv_has ls 1 [(0, .int n)] := hl
  refine lv_iload_n hx hb dX9_isPerson_0 rfl (lv_at hl 0 rfl) ?_
  refine jif_lt (tgt := 14) hx hb dX9_isPerson_1 (by decide) (fun c1 => ?_) (fun c1 => ?_)
  · skip
    have c1 : n.toInt < 0 := c1
    refine lv_iconst (v := 0) hx hb dX9_isPerson_14 (by decide) ?_
    exact ret_z hC hr hlk hK hH (by first | exact Or.inl rfl | exact Or.inr rfl | assumption) (⟨Or.inr (⟨by omega, rfl⟩), rfl, rfl⟩) (Nat.le_of_ble_eq_true rfl) (Nat.le_of_ble_eq_true rfl) dX9_isPerson_15
  · skip
    have c1 : 0 ≤ n.toInt := c1
    refine lv_iload_n hx hb dX9_isPerson_4 rfl (lv_at hl 0 rfl) ?_
    refine lv_bipush (v := 8) hx hb dX9_isPerson_5 (by decide) ?_
    refine jic_ge (tgt := 14) hx hb dX9_isPerson_7 (by decide) (fun c2 => ?_) (fun c2 => ?_)
    · skip
      have c2 : 8 ≤ n.toInt := c2
      refine lv_iconst (v := 0) hx hb dX9_isPerson_14 (by decide) ?_
      exact ret_z hC hr hlk hK hH (by first | exact Or.inl rfl | exact Or.inr rfl | assumption) (⟨Or.inr (⟨by omega, rfl⟩), rfl, rfl⟩) (Nat.le_of_ble_eq_true rfl) (Nat.le_of_ble_eq_true rfl) dX9_isPerson_15
    · skip
      have c2 : n.toInt < 8 := c2
      refine lv_iconst (v := 1) hx hb dX9_isPerson_10 (by decide) ?_
      refine lv_goto (tgt := 15) hx hb dX9_isPerson_11 (by decide) ?_
      exact ret_z hC hr hlk hK hH (by first | exact Or.inl rfl | exact Or.inr rfl | assumption) (⟨Or.inl (⟨by omega, rfl⟩), rfl, rfl⟩) (Nat.le_of_ble_eq_true rfl) (Nat.le_of_ble_eq_true rfl) dX9_isPerson_15
set_option maxHeartbeats 4000000 in
set_option maxRecDepth 100000 in
theorem c_X8_note {l : Launch} {D : va_G} {kA : Nat → ClassId} {M : mM} {T : mT} {sz : Nat} {w cs bs tp : Nat} {td gd bc py rf lt tl fp : Int32} {n : Int32} (hc_w : M w = some (.inr (6, [.int td, .int gd, .int bc, .int py, .int rf, .int lt, .int tl, .int fp, .ref cs, .ref bs, .ref tp]))) : mCi l yX8_note cX8_note 2 (some .int) 0 0 0 D kA M T sz [.ref w, .int n] (fun r u => ((n.toInt ≠ 0 ∧ r = n ∧ u.1 w = some (.inr (6, [.int td, .int gd, .int bc, .int py, .int ((rf + 1)), .int n, .int tl, .int fp, .ref cs, .ref bs, .ref tp]))) ∨ (n.toInt = 0 ∧ r = n ∧ u.1 w = some (.inr (6, [.int td, .int gd, .int bc, .int py, .int rf, .int n, .int tl, .int fp, .ref cs, .ref bs, .ref tp])))) ∧ u.2 = T ∧ (∀ q, q ≠ w → u.1 q = M q)) := by
  unfold mCi
  refine start_W (by decide) (Nat.le_of_ble_eq_true rfl) ?_
  intro p e s m below meth c ls hC hr hlk hnm hK hH hsz hl
  have hx := hC.1
  have hb := hC.2.1
  have hl : lv_has ls 2 [(0, .ref w), (1, .int n)] := hl
  have hF : ∀ q, q ≠ w → M q = M q := fun q _ => rfl
  refine lv_aload_n hx hb dX8_note_0 rfl (lv_at hl 0 rfl) ?_
  refine lv_iload_n hx hb dX8_note_1 rfl (lv_at hl 1 rfl) ?_
  refine yp (v := .int n) hC hK hH flX8_45 hc_w rfl rfl (Nat.le_of_ble_eq_true rfl) dX8_note_2 (fun H locs M1 hc_w hfr hH => ?_)
  have hc_w : M1 w = some (.inr (6, [.int td, .int gd, .int bc, .int py, .int rf, .int n, .int tl, .int fp, .ref cs, .ref bs, .ref tp])) := hc_w
  have hF : ∀ q, q ≠ w → M1 q = M q := fun q h0 => (hfr q h0).trans (hF q h0)
  refine lv_iload_n hx hb dX8_note_5 rfl (lv_at hl 1 rfl) ?_
  refine jif_eq (tgt := 19) hx hb dX8_note_6 (by decide) (fun c2 => ?_) (fun c2 => ?_)
  · skip
    have c2 : n.toInt = 0 := c2
    refine lv_iload_n hx hb dX8_note_19 rfl (lv_at hl 1 rfl) ?_
    exact ret_i hC hr hlk hK hH (⟨Or.inr (⟨by omega, rfl, hc_w⟩), rfl, hF⟩) (Nat.le_of_ble_eq_true rfl) (Nat.le_of_ble_eq_true rfl) dX8_note_20
  · skip
    have c2 : n.toInt ≠ 0 := c2
    refine lv_aload_n hx hb dX8_note_9 rfl (lv_at hl 0 rfl) ?_
    refine lv_dup hx hb dX8_note_10 rfl ?_
    refine xg hC hK hH flX8_42 hc_w rfl dX8_note_11 ?_
    refine lv_iconst (v := 1) hx hb dX8_note_14 (by decide) ?_
    refine lv_iadd hx hb dX8_note_15 ?_
    refine lv_topi (fun z3 e_z3 => ?_)
    refine yp (v := .int z3) hC hK hH flX8_42 hc_w rfl rfl (Nat.le_of_ble_eq_true rfl) dX8_note_16 (fun H locs M4 hc_w hfr hH => ?_)
    have hc_w : M4 w = some (.inr (6, [.int td, .int gd, .int bc, .int py, .int z3, .int n, .int tl, .int fp, .ref cs, .ref bs, .ref tp])) := hc_w
    have hF : ∀ q, q ≠ w → M4 q = M q := fun q h0 => (hfr q h0).trans (hF q h0)
    refine lv_iload_n hx hb dX8_note_19 rfl (lv_at hl 1 rfl) ?_
    subst e_z3
    exact ret_i hC hr hlk hK hH (⟨Or.inl (⟨by omega, rfl, hc_w⟩), rfl, hF⟩) (Nat.le_of_ble_eq_true rfl) (Nat.le_of_ble_eq_true rfl) dX8_note_20
