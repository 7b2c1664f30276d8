set_option maxHeartbeats 4000000 in
set_option maxRecDepth 100000 in
theorem c_X8_drawOne {l : Launch} {D : va_G} {kA : Nat → ClassId} {M : mM} {T : mT} {sz : Nat} {w cs bs tp : Nat} {dr de pe su dy op : Int32} (hc_w : M w = some (.inr (6, [.int 0, .int 2, .int 0, .int 0, .int 0, .int 0, .int 0, .int (-1), .ref cs, .ref bs, .ref tp]))) (ht_bs : T bs = some 6) (hop : op = 0 ∨ op = 1) : mCi l yX8_drawOne cX8_drawOne 8 (some .int) 3 0 0 D kA M T sz [.ref w, .int dr, .int de, .int pe, .int su, .int dy, .int op] (fun r u => (((0 ≤ dr.toInt ∧ dr.toInt ≤ 7 ∧ 0 ≤ de.toInt ∧ de.toInt ≤ 7 ∧ 0 ≤ pe.toInt ∧ pe.toInt ≤ 7 ∧ 1 ≤ su.toInt ∧ su.toInt ≤ 999 ∧ 0 ≤ dy.toInt ∧ dy.toInt ≤ 99) ∧ r = 0 ∧ u.1 w = some (.inr (6, [.int 0, .int 2, .int 1, .int 0, .int 0, .int 0, .int 0, .int (-1), .ref cs, .ref bs, .ref tp]))) ∨ ((¬ (0 ≤ dr.toInt ∧ dr.toInt ≤ 7 ∧ 0 ≤ de.toInt ∧ de.toInt ≤ 7 ∧ 0 ≤ pe.toInt ∧ pe.toInt ≤ 7 ∧ 1 ≤ su.toInt ∧ su.toInt ≤ 999 ∧ 0 ≤ dy.toInt ∧ dy.toInt ≤ 99)) ∧ r = 30 ∧ u.1 w = some (.inr (6, [.int 0, .int 2, .int 0, .int 0, .int 0, .int 0, .int 0, .int (-1), .ref cs, .ref bs, .ref tp])))) ∧ u.2 = T ∧ (∀ q, q ≠ w → u.1 q = M q)) := by
  unfold mCi
  refine start_W (by decide) (Nat.le_of_ble_eq_true rfl) ?_
  intro p e s m below meth c ls hC hr hlk hnm hK hH hsz hl
  have hx := hC.1
  have hb := hC.2.1
  have hl : lv_has ls 8 [(0, .ref w), (1, .int dr), (2, .int de), (3, .int pe), (4, .int su), (5, .int dy), (6, .int op)] := hl
  have hF : ∀ q, q ≠ w → M q = M q := fun q _ => rfl
  refine lv_aload_n hx hb dX8_drawOne_0 rfl (lv_at hl 0 rfl) ?_
  refine xg hC hK hH flX8_36 hc_w rfl dX8_drawOne_1 ?_
  refine lv_iconst (v := 4) hx hb dX8_drawOne_4 (by decide) ?_
  refine jic_ge (tgt := 29) hx hb dX8_drawOne_5 (by decide) (fun c1 => absurd c1 (by decide)) (fun c1 => ?_)
  refine lv_iload_n hx hb dX8_drawOne_8 rfl (lv_at hl 1 rfl) ?_
  refine goI hK hH (runSN (As := [.int dr]) (rest := []) hC hK hH (c_X9_isPerson) mlX8_94 ⟨⟨Nat.le_of_ble_eq_true rfl, Nat.le_of_ble_eq_true rfl⟩, Nat.le_of_ble_eq_true rfl, Nat.le_of_ble_eq_true rfl⟩ rfl hl.1 rfl (Nat.le_of_ble_eq_true rfl) dX8_drawOne_9) (fun r4 M2 T3 H locs hP hz hH => ?_)
  try dsimp only at hP
  obtain ⟨(⟨c5, rfl⟩ | ⟨c6, rfl⟩), eT, eM⟩ := hP
  · skip
    have eT := eT.symm; subst eT
    have eM := eM.symm; subst eM
    have c5 : 0 ≤ dr.toInt ∧ dr.toInt ≤ 7 := c5
    refine jif_eq (tgt := 29) hx hb dX8_drawOne_12 (by decide) (fun c7 => absurd c7 (by decide)) (fun c7 => ?_)
    refine lv_iload_n hx hb dX8_drawOne_15 rfl (lv_at hl 2 rfl) ?_
    refine goI hK hH (runSN (As := [.int de]) (rest := []) hC hK hH (c_X9_isPerson) mlX8_94 ⟨⟨Nat.le_of_ble_eq_true rfl, Nat.le_of_ble_eq_true rfl⟩, Nat.le_of_ble_eq_true rfl, Nat.le_of_ble_eq_true rfl⟩ rfl hl.1 rfl (Nat.le_of_ble_eq_true rfl) dX8_drawOne_16) (fun r10 M8 T9 H locs hP hz hH => ?_)
    try dsimp only at hP
    obtain ⟨(⟨c11, rfl⟩ | ⟨c12, rfl⟩), eT, eM⟩ := hP
    · skip
      have eT := eT.symm; subst eT
      have eM := eM.symm; subst eM
      have c11 : 0 ≤ de.toInt ∧ de.toInt ≤ 7 := c11
      refine jif_eq (tgt := 29) hx hb dX8_drawOne_19 (by decide) (fun c13 => absurd c13 (by decide)) (fun c13 => ?_)
      refine lv_iload_n hx hb dX8_drawOne_22 rfl (lv_at hl 3 rfl) ?_
      refine goI hK hH (runSN (As := [.int pe]) (rest := []) hC hK hH (c_X9_isPerson) mlX8_94 ⟨⟨Nat.le_of_ble_eq_true rfl, Nat.le_of_ble_eq_true rfl⟩, Nat.le_of_ble_eq_true rfl, Nat.le_of_ble_eq_true rfl⟩ rfl hl.1 rfl (Nat.le_of_ble_eq_true rfl) dX8_drawOne_23) (fun r16 M14 T15 H locs hP hz hH => ?_)
      try dsimp only at hP
      obtain ⟨(⟨c17, rfl⟩ | ⟨c18, rfl⟩), eT, eM⟩ := hP
      · skip
        have eT := eT.symm; subst eT
        have eM := eM.symm; subst eM
        have c17 : 0 ≤ pe.toInt ∧ pe.toInt ≤ 7 := c17
        refine jif_ne (tgt := 32) hx hb dX8_drawOne_26 (by decide) (fun c19 => ?_) (fun c19 => absurd c19 (by decide))
        refine lv_iload hx hb dX8_drawOne_32 (lv_at hl 4 rfl) ?_
        refine lv_iconst (v := 1) hx hb dX8_drawOne_34 (by decide) ?_
        refine jic_lt (tgt := 58) hx hb dX8_drawOne_35 (by decide) (fun c20 => ?_) (fun c20 => ?_)
        · skip
          have c20 : su.toInt < 1 := c20
          refine lv_bipush (v := 30) hx hb dX8_drawOne_58 (by decide) ?_
          exact ret_i hC hr hlk hK hH (⟨Or.inr (⟨by omega, rfl, hc_w⟩), rfl, hF⟩) (Nat.le_of_ble_eq_true rfl) (Nat.le_of_ble_eq_true rfl) dX8_drawOne_60
        · skip
          have c20 : 1 ≤ su.toInt := c20
          refine lv_iload hx hb dX8_drawOne_38 (lv_at hl 4 rfl) ?_
          refine lv_sipush (v := 999) hx hb dX8_drawOne_40 (by decide) ?_
          refine jic_gt (tgt := 58) hx hb dX8_drawOne_43 (by decide) (fun c21 => ?_) (fun c21 => ?_)
          · skip
            have c21 : 999 < su.toInt := c21
            refine lv_bipush (v := 30) hx hb dX8_drawOne_58 (by decide) ?_
            exact ret_i hC hr hlk hK hH (⟨Or.inr (⟨by omega, rfl, hc_w⟩), rfl, hF⟩) (Nat.le_of_ble_eq_true rfl) (Nat.le_of_ble_eq_true rfl) dX8_drawOne_60
          · skip
            have c21 : su.toInt ≤ 999 := c21
            refine lv_iload hx hb dX8_drawOne_46 (lv_at hl 5 rfl) ?_
            refine jif_lt (tgt := 58) hx hb dX8_drawOne_48 (by decide) (fun c22 => ?_) (fun c22 => ?_)
            · skip
              have c22 : dy.toInt < 0 := c22
              refine lv_bipush (v := 30) hx hb dX8_drawOne_58 (by decide) ?_
              exact ret_i hC hr hlk hK hH (⟨Or.inr (⟨by omega, rfl, hc_w⟩), rfl, hF⟩) (Nat.le_of_ble_eq_true rfl) (Nat.le_of_ble_eq_true rfl) dX8_drawOne_60
            · skip
              have c22 : 0 ≤ dy.toInt := c22
              refine lv_iload hx hb dX8_drawOne_51 (lv_at hl 5 rfl) ?_
              refine lv_bipush (v := 99) hx hb dX8_drawOne_53 (by decide) ?_
              refine jic_le (tgt := 61) hx hb dX8_drawOne_55 (by decide) (fun c23 => ?_) (fun c23 => ?_)
              · skip
                have c23 : dy.toInt ≤ 99 := c23
                refine lv_aload_n hx hb dX8_drawOne_61 rfl (lv_at hl 0 rfl) ?_
                refine xg hC hK hH flX8_17 hc_w rfl dX8_drawOne_62 ?_
                refine lv_aload_n hx hb dX8_drawOne_65 rfl (lv_at hl 0 rfl) ?_
                refine xg hC hK hH flX8_36 hc_w rfl dX8_drawOne_66 ?_
                refine tqld hC hK hH ht_bs rfl rfl (iIn (by decide) (by decide)) dX8_drawOne_69 (fun q24 t_q24 => ?_)
                refine lv_astore (lv' := [(7, .ref q24), (0, .ref w), (1, .int dr), (2, .int de), (3, .int pe), (4, .int su), (5, .int dy), (6, .int op)]) hx hb dX8_drawOne_70 hl (by decide) rfl (fun ls hl => ?_)
                refine lv_aload hx hb dX8_drawOne_72 (lv_at hl 0 rfl) ?_
                refine lv_iload_n hx hb dX8_drawOne_74 rfl (lv_at hl 2 rfl) ?_
                refine lv_iload_n hx hb dX8_drawOne_75 rfl (lv_at hl 3 rfl) ?_
                refine lv_iload_n hx hb dX8_drawOne_76 rfl (lv_at hl 4 rfl) ?_
                refine lv_iload hx hb dX8_drawOne_77 (lv_at hl 7 rfl) ?_
                refine goV hK hH (runV (As := [.int dr, .int de, .int pe, .int op]) (rest := []) hC hK hH (c_X1_begin t_q24 (by omega) (by omega)) mlX8_97 (rcvT hK hH t_q24 rfl rfl) ⟨⟨Nat.le_of_ble_eq_true rfl, Nat.le_of_ble_eq_true rfl⟩, Nat.le_of_ble_eq_true rfl, Nat.le_of_ble_eq_true rfl⟩ rfl hl.1 rfl (Nat.le_of_ble_eq_true rfl) dX8_drawOne_79) (fun M25 T26 H locs hP hz hH => ?_)
                try dsimp only at hP
                obtain ⟨(-), eT, eM⟩ := hP
                have eT := eT.symm; subst eT
                have eM := eM.symm; subst eM
                refine lv_aload hx hb dX8_drawOne_82 (lv_at hl 0 rfl) ?_
                refine lv_iload hx hb dX8_drawOne_84 (lv_at hl 5 rfl) ?_
                refine tpu hC hK hH flX8_100 t_q24 rfl rfl (iRg _).1 (iRg _).2 rfl rfl dX8_drawOne_86 (fun H locs hH => ?_)
                refine lv_aload hx hb dX8_drawOne_89 (lv_at hl 0 rfl) ?_
                refine lv_aload_n hx hb dX8_drawOne_91 rfl (lv_at hl 1 rfl) ?_
                refine xg hC hK hH flX8_29 hc_w rfl dX8_drawOne_92 ?_
                refine lv_iload hx hb dX8_drawOne_95 (lv_at hl 6 rfl) ?_
                refine lv_iadd hx hb dX8_drawOne_97 ?_
                refine lv_topi (fun z28 e_z28 => ?_)
                have h_z28 : z28.toInt = 0 + dy.toInt := by rw [e_z28, iAdd (by have : (0 : Int32).toInt = 0 := rfl; have := iRg dy; omega) (by have : (0 : Int32).toInt = 0 := rfl; have := iRg dy; omega)]; rfl
                refine tpu hC hK hH flX8_103 t_q24 rfl rfl (iRg _).1 (iRg _).2 rfl rfl dX8_drawOne_98 (fun H locs hH => ?_)
                refine lv_aload_n hx hb dX8_drawOne_101 rfl (lv_at hl 1 rfl) ?_
                refine lv_dup hx hb dX8_drawOne_102 rfl ?_
                refine xg hC hK hH flX8_36 hc_w rfl dX8_drawOne_103 ?_
                refine lv_iconst (v := 1) hx hb dX8_drawOne_106 (by decide) ?_
                refine lv_iadd hx hb dX8_drawOne_107 ?_
                refine lv_cst (v := 1) (by decide) ?_
                refine yp (v := .int 1) hC hK hH flX8_36 hc_w rfl rfl (Nat.le_of_ble_eq_true rfl) dX8_drawOne_108 (fun H locs M29 hc_w hfr hH => ?_)
                have hc_w : M29 w = some (.inr (6, [.int 0, .int 2, .int 1, .int 0, .int 0, .int 0, .int 0, .int (-1), .ref cs, .ref bs, .ref tp])) := hc_w
                have hF : ∀ q, q ≠ w → M29 q = M q := fun q h0 => (hfr q h0).trans (hF q h0)
                refine lv_iconst (v := 0) hx hb dX8_drawOne_111 (by decide) ?_
                subst e_z28
                exact ret_i hC hr hlk hK hH (⟨Or.inl (⟨by omega, rfl, hc_w⟩), rfl, hF⟩) (Nat.le_of_ble_eq_true rfl) (Nat.le_of_ble_eq_true rfl) dX8_drawOne_112
              · skip
                have c23 : 99 < dy.toInt := c23
                refine lv_bipush (v := 30) hx hb dX8_drawOne_58 (by decide) ?_
                exact ret_i hC hr hlk hK hH (⟨Or.inr (⟨by omega, rfl, hc_w⟩), rfl, hF⟩) (Nat.le_of_ble_eq_true rfl) (Nat.le_of_ble_eq_true rfl) dX8_drawOne_60
      · skip
        have eT := eT.symm; subst eT
        have eM := eM.symm; subst eM
        have c18 : ¬ (0 ≤ pe.toInt ∧ pe.toInt ≤ 7) := c18
        refine jif_ne (tgt := 32) hx hb dX8_drawOne_26 (by decide) (fun c30 => absurd c30 (by decide)) (fun c30 => ?_)
        refine lv_bipush (v := 30) hx hb dX8_drawOne_29 (by decide) ?_
        exact ret_i hC hr hlk hK hH (⟨Or.inr (⟨by omega, rfl, hc_w⟩), rfl, hF⟩) (Nat.le_of_ble_eq_true rfl) (Nat.le_of_ble_eq_true rfl) dX8_drawOne_31
    · skip
      have eT := eT.symm; subst eT
      have eM := eM.symm; subst eM
      have c12 : ¬ (0 ≤ de.toInt ∧ de.toInt ≤ 7) := c12
      refine jif_eq (tgt := 29) hx hb dX8_drawOne_19 (by decide) (fun c31 => ?_) (fun c31 => absurd c31 (by decide))
      refine lv_bipush (v := 30) hx hb dX8_drawOne_29 (by decide) ?_
      exact ret_i hC hr hlk hK hH (⟨Or.inr (⟨by omega, rfl, hc_w⟩), rfl, hF⟩) (Nat.le_of_ble_eq_true rfl) (Nat.le_of_ble_eq_true rfl) dX8_drawOne_31
  · skip
    have eT := eT.symm; subst eT
    have eM := eM.symm; subst eM
    have c6 : ¬ (0 ≤ dr.toInt ∧ dr.toInt ≤ 7) := c6
    refine jif_eq (tgt := 29) hx hb dX8_drawOne_12 (by decide) (fun c32 => ?_) (fun c32 => absurd c32 (by decide))
    refine lv_bipush (v := 30) hx hb dX8_drawOne_29 (by decide) ?_
    exact ret_i hC hr hlk hK hH (⟨Or.inr (⟨by omega, rfl, hc_w⟩), rfl, hF⟩) (Nat.le_of_ble_eq_true rfl) (Nat.le_of_ble_eq_true rfl) dX8_drawOne_31
set_option maxHeartbeats 4000000 in
set_option maxRecDepth 100000 in
theorem c_X9_draw {l : Launch} {D : va_G} {kA : Nat → ClassId} {M : mM} {T : mT} {sz : Nat} {ro im rd rc cu : Nat} {w cs bs tp : Nat} {dr de pe su dy : Int32} (hc_ro : M ro = some (.inr (7, [.ref w, .ref im, .ref rd, .ref rc, .ref cu]))) (hc_w : M w = some (.inr (6, [.int 0, .int 2, .int 0, .int 0, .int 0, .int 0, .int 0, .int (-1), .ref cs, .ref bs, .ref tp]))) (ht_bs : T bs = some 6) : mCi l yX9_draw cX9_draw 8 (some .int) 4 0 0 D kA M T sz [.ref ro, .int dr, .int de, .int pe, .int su, .int dy] (fun r u => (((0 ≤ dr.toInt ∧ dr.toInt ≤ 7 ∧ 0 ≤ de.toInt ∧ de.toInt ≤ 7 ∧ (0 ≤ pe.toInt ∧ pe.toInt ≤ 7 ∨ 10 ≤ pe.toInt ∧ pe.toInt ≤ 17) ∧ 1 ≤ su.toInt ∧ su.toInt ≤ 999 ∧ 0 ≤ dy.toInt ∧ dy.toInt ≤ 99) ∧ r = 0) ∨ ((¬ (0 ≤ dr.toInt ∧ dr.toInt ≤ 7 ∧ 0 ≤ de.toInt ∧ de.toInt ≤ 7 ∧ (0 ≤ pe.toInt ∧ pe.toInt ≤ 7 ∨ 10 ≤ pe.toInt ∧ pe.toInt ≤ 17) ∧ 1 ≤ su.toInt ∧ su.toInt ≤ 999 ∧ 0 ≤ dy.toInt ∧ dy.toInt ≤ 99)) ∧ r = -30)) ∧ u.2 = T ∧ (∀ q, q ≠ w → u.1 q = M q)) := by
  unfold mCi
  refine start_W (by decide) (Nat.le_of_ble_eq_true rfl) ?_
  intro p e s m below meth c ls hC hr hlk hnm hK hH hsz hl
  have hx := hC.1
  have hb := hC.2.1
  have hl : lv_has ls 8 [(0, .ref ro), (1, .int dr), (2, .int de), (3, .int pe), (4, .int su), (5, .int dy)] := hl
  have hF : ∀ q, q ≠ w → M q = M q := fun q _ => rfl
  have n_ro_w : ro ≠ w := neM hc_ro hc_w (by simp)
  have n_w_ro : w ≠ ro := neM hc_w hc_ro (by simp)
  refine lv_iload_n hx hb dX9_draw_0 rfl (lv_at hl 3 rfl) ?_
  refine lv_bipush (v := 10) hx hb dX9_draw_1 (by decide) ?_
  refine jic_lt (tgt := 10) hx hb dX9_draw_3 (by decide) (fun c1 => ?_) (fun c1 => ?_)
  · skip
    have c1 : pe.toInt < 10 := c1
    refine lv_iconst (v := 0) hx hb dX9_draw_10 (by decide) ?_
    refine lv_istore (lv' := [(6, .int 0), (0, .ref ro), (1, .int dr), (2, .int de), (3, .int pe), (4, .int su), (5, .int dy)]) hx hb dX9_draw_11 hl (by decide) rfl (fun ls hl => ?_)
    refine lv_aload_n hx hb dX9_draw_13 rfl (lv_at hl 1 rfl) ?_
    refine xg hC hK hH flX9_12 hc_ro rfl dX9_draw_14 ?_
    refine lv_aload_n hx hb dX9_draw_17 rfl (lv_at hl 1 rfl) ?_
    refine xg hC hK hH flX9_12 hc_ro rfl dX9_draw_18 ?_
    refine lv_iload_n hx hb dX9_draw_21 rfl (lv_at hl 2 rfl) ?_
    refine lv_iload_n hx hb dX9_draw_22 rfl (lv_at hl 3 rfl) ?_
    refine lv_iload hx hb dX9_draw_23 (lv_at hl 0 rfl) ?_
    refine jif_eq (tgt := 35) hx hb dX9_draw_25 (by decide) (fun c2 => ?_) (fun c2 => absurd c2 (by decide))
    refine lv_iload_n hx hb dX9_draw_35 rfl (lv_at hl 4 rfl) ?_
    refine lv_iload hx hb dX9_draw_36 (lv_at hl 5 rfl) ?_
    refine lv_iload hx hb dX9_draw_38 (lv_at hl 6 rfl) ?_
    refine lv_iload hx hb dX9_draw_40 (lv_at hl 0 rfl) ?_
    refine goI hK hH (runV (As := [.int dr, .int de, .int pe, .int su, .int dy, .int 0]) (rest := [.ref w]) hC hK hH (c_X8_drawOne hc_w ht_bs (by decide)) mlX9_93 (rcvM hK hH hc_w rfl) ⟨⟨Nat.le_of_ble_eq_true rfl, Nat.le_of_ble_eq_true rfl⟩, Nat.le_of_ble_eq_true rfl, Nat.le_of_ble_eq_true rfl⟩ rfl hl.1 rfl (Nat.le_of_ble_eq_true rfl) dX9_draw_42) (fun r5 M3 T4 H locs hP hz hH => ?_)
    try dsimp only at hP
    obtain ⟨(⟨c6, rfl, hx_w⟩ | ⟨c7, rfl, hx_w⟩), eT, hfr⟩ := hP
    · skip
      have eT := eT.symm; subst eT
      have hc_ro : M3 ro = some (.inr (7, [.ref w, .ref im, .ref rd, .ref rc, .ref cu])) := (hfr ro n_ro_w).trans hc_ro
      have hc_w : M3 w = some (.inr (6, [.int 0, .int 2, .int 1, .int 0, .int 0, .int 0, .int 0, .int (-1), .ref cs, .ref bs, .ref tp])) := hx_w
      have hF : ∀ q, q ≠ w → M3 q = M q := fun q h0 => (hfr q h0).trans (hF q h0)
      have c6 : 0 ≤ dr.toInt ∧ dr.toInt ≤ 7 ∧ 0 ≤ de.toInt ∧ de.toInt ≤ 7 ∧ 0 ≤ pe.toInt ∧ pe.toInt ≤ 7 ∧ 1 ≤ su.toInt ∧ su.toInt ≤ 999 ∧ 0 ≤ dy.toInt ∧ dy.toInt ≤ 99 := c6
      refine goI hK hH (runV (As := [.int 0]) (rest := []) hC hK hH (c_X8_note hc_w) mlX9_76 (rcvM hK hH hc_w rfl) ⟨⟨Nat.le_of_ble_eq_true rfl, Nat.le_of_ble_eq_true rfl⟩, Nat.le_of_ble_eq_true rfl, Nat.le_of_ble_eq_true rfl⟩ rfl hl.1 rfl (Nat.le_of_ble_eq_true rfl) dX9_draw_45) (fun r10 M8 T9 H locs hP hz hH => ?_)
      try dsimp only at hP
      obtain ⟨(⟨c11, rfl, hx_w⟩ | ⟨c12, rfl, hx_w⟩), eT, hfr⟩ := hP
      · skip
        have eT := eT.symm; subst eT
        have hc_ro : M8 ro = some (.inr (7, [.ref w, .ref im, .ref rd, .ref rc, .ref cu])) := (hfr ro n_ro_w).trans hc_ro
        have hc_w : M8 w = some (.inr (6, [.int 0, .int 2, .int 1, .int 0, .int (0 + 1), .int 0, .int 0, .int (-1), .ref cs, .ref bs, .ref tp])) := hx_w
        have hF : ∀ q, q ≠ w → M8 q = M q := fun q h0 => (hfr q h0).trans (hF q h0)
        have c11 : (0 : Int) ≠ 0 := c11
        exact absurd c11 (by omega)
      · skip
        have eT := eT.symm; subst eT
        have hc_ro : M8 ro = some (.inr (7, [.ref w, .ref im, .ref rd, .ref rc, .ref cu])) := (hfr ro n_ro_w).trans hc_ro
        have hc_w : M8 w = some (.inr (6, [.int 0, .int 2, .int 1, .int 0, .int 0, .int 0, .int 0, .int (-1), .ref cs, .ref bs, .ref tp])) := hx_w
        have hF : ∀ q, q ≠ w → M8 q = M q := fun q h0 => (hfr q h0).trans (hF q h0)
        have c12 : (0 : Int) = 0 := c12
        refine lv_istore (lv' := [(7, .int 0), (6, .int 0), (0, .ref ro), (1, .int dr), (2, .int de), (3, .int pe), (4, .int su), (5, .int dy)]) hx hb dX9_draw_48 hl (by decide) rfl (fun ls hl => ?_)
        refine lv_iload hx hb dX9_draw_50 (lv_at hl 0 rfl) ?_
        refine jif_ne (tgt := 67) hx hb dX9_draw_52 (by decide) (fun c13 => absurd c13 (by decide)) (fun c13 => ?_)
        refine lv_aload_n hx hb dX9_draw_55 rfl (lv_at hl 2 rfl) ?_
        refine xg hC hK hH flX9_12 hc_ro rfl dX9_draw_56 ?_
        refine xg hC hK hH flX9_97 hc_w rfl dX9_draw_59 ?_
        refine lv_iconst (v := 1) hx hb dX9_draw_62 (by decide) ?_
        refine lv_isub hx hb dX9_draw_63 ?_
        refine lv_cst (v := 0) (by decide) ?_
        refine lv_goto (tgt := 70) hx hb dX9_draw_64 (by decide) ?_
        exact ret_i hC hr hlk hK hH (⟨Or.inl (⟨by omega, rfl⟩), rfl, hF⟩) (Nat.le_of_ble_eq_true rfl) (Nat.le_of_ble_eq_true rfl) dX9_draw_70
    · skip
      have eT := eT.symm; subst eT
      have hc_ro : M3 ro = some (.inr (7, [.ref w, .ref im, .ref rd, .ref rc, .ref cu])) := (hfr ro n_ro_w).trans hc_ro
      have hc_w : M3 w = some (.inr (6, [.int 0, .int 2, .int 0, .int 0, .int 0, .int 0, .int 0, .int (-1), .ref cs, .ref bs, .ref tp])) := hx_w
      have hF : ∀ q, q ≠ w → M3 q = M q := fun q h0 => (hfr q h0).trans (hF q h0)
      have c7 : ¬ (0 ≤ dr.toInt ∧ dr.toInt ≤ 7 ∧ 0 ≤ de.toInt ∧ de.toInt ≤ 7 ∧ 0 ≤ pe.toInt ∧ pe.toInt ≤ 7 ∧ 1 ≤ su.toInt ∧ su.toInt ≤ 999 ∧ 0 ≤ dy.toInt ∧ dy.toInt ≤ 99) := c7
      refine goI hK hH (runV (As := [.int 30]) (rest := []) hC hK hH (c_X8_note hc_w) mlX9_76 (rcvM hK hH hc_w rfl) ⟨⟨Nat.le_of_ble_eq_true rfl, Nat.le_of_ble_eq_true rfl⟩, Nat.le_of_ble_eq_true rfl, Nat.le_of_ble_eq_true rfl⟩ rfl hl.1 rfl (Nat.le_of_ble_eq_true rfl) dX9_draw_45) (fun r16 M14 T15 H locs hP hz hH => ?_)
      try dsimp only at hP
      obtain ⟨(⟨c17, rfl, hx_w⟩ | ⟨c18, rfl, hx_w⟩), eT, hfr⟩ := hP
      · skip
        have eT := eT.symm; subst eT
        have hc_ro : M14 ro = some (.inr (7, [.ref w, .ref im, .ref rd, .ref rc, .ref cu])) := (hfr ro n_ro_w).trans hc_ro
        have hc_w : M14 w = some (.inr (6, [.int 0, .int 2, .int 0, .int 0, .int (0 + 1), .int 30, .int 0, .int (-1), .ref cs, .ref bs, .ref tp])) := hx_w
        have hF : ∀ q, q ≠ w → M14 q = M q := fun q h0 => (hfr q h0).trans (hF q h0)
        have c17 : (30 : Int) ≠ 0 := c17
        refine lv_istore (lv' := [(7, .int 30), (6, .int 0), (0, .ref ro), (1, .int dr), (2, .int de), (3, .int pe), (4, .int su), (5, .int dy)]) hx hb dX9_draw_48 hl (by decide) rfl (fun ls hl => ?_)
        refine lv_iload hx hb dX9_draw_50 (lv_at hl 0 rfl) ?_
        refine jif_ne (tgt := 67) hx hb dX9_draw_52 (by decide) (fun c19 => ?_) (fun c19 => absurd c19 (by decide))
        refine lv_iload hx hb dX9_draw_67 (lv_at hl 0 rfl) ?_
        refine lv_ineg hx hb dX9_draw_69 ?_
        refine lv_cst (v := -30) (by decide) ?_
        exact ret_i hC hr hlk hK hH (⟨Or.inr (⟨by omega, rfl⟩), rfl, hF⟩) (Nat.le_of_ble_eq_true rfl) (Nat.le_of_ble_eq_true rfl) dX9_draw_70
      · skip
        have eT := eT.symm; subst eT
        have hc_ro : M14 ro = some (.inr (7, [.ref w, .ref im, .ref rd, .ref rc, .ref cu])) := (hfr ro n_ro_w).trans hc_ro
        have hc_w : M14 w = some (.inr (6, [.int 0, .int 2, .int 0, .int 0, .int 0, .int 30, .int 0, .int (-1), .ref cs, .ref bs, .ref tp])) := hx_w
        have hF : ∀ q, q ≠ w → M14 q = M q := fun q h0 => (hfr q h0).trans (hF q h0)
        have c18 : (30 : Int) = 0 := c18
        exact absurd c18 (by omega)
  · skip
    have c1 : 10 ≤ pe.toInt := c1
    refine lv_iconst (v := 1) hx hb dX9_draw_6 (by decide) ?_
    refine lv_goto (tgt := 11) hx hb dX9_draw_7 (by decide) ?_
    refine lv_istore (lv' := [(6, .int 1), (0, .ref ro), (1, .int dr), (2, .int de), (3, .int pe), (4, .int su), (5, .int dy)]) hx hb dX9_draw_11 hl (by decide) rfl (fun ls hl => ?_)
    refine lv_aload_n hx hb dX9_draw_13 rfl (lv_at hl 1 rfl) ?_
    refine xg hC hK hH flX9_12 hc_ro rfl dX9_draw_14 ?_
    refine lv_aload_n hx hb dX9_draw_17 rfl (lv_at hl 1 rfl) ?_
    refine xg hC hK hH flX9_12 hc_ro rfl dX9_draw_18 ?_
    refine lv_iload_n hx hb dX9_draw_21 rfl (lv_at hl 2 rfl) ?_
    refine lv_iload_n hx hb dX9_draw_22 rfl (lv_at hl 3 rfl) ?_
    refine lv_iload hx hb dX9_draw_23 (lv_at hl 0 rfl) ?_
    refine jif_eq (tgt := 35) hx hb dX9_draw_25 (by decide) (fun c20 => absurd c20 (by decide)) (fun c20 => ?_)
    refine lv_iload_n hx hb dX9_draw_28 rfl (lv_at hl 4 rfl) ?_
    refine lv_bipush (v := 10) hx hb dX9_draw_29 (by decide) ?_
    refine lv_isub hx hb dX9_draw_31 ?_
    refine lv_topi (fun z21 e_z21 => ?_)
    have h_z21 : z21.toInt = pe.toInt - 10 := by rw [e_z21, iSub (by have := iRg pe; have : (10 : Int32).toInt = 10 := rfl; omega) (by have := iRg pe; have : (10 : Int32).toInt = 10 := rfl; omega)]; rfl
    refine lv_goto (tgt := 36) hx hb dX9_draw_32 (by decide) ?_
    refine lv_iload hx hb dX9_draw_36 (lv_at hl 5 rfl) ?_
    refine lv_iload hx hb dX9_draw_38 (lv_at hl 6 rfl) ?_
    refine lv_iload hx hb dX9_draw_40 (lv_at hl 0 rfl) ?_
    refine goI hK hH (runV (As := [.int dr, .int de, .int z21, .int su, .int dy, .int 1]) (rest := [.ref w]) hC hK hH (c_X8_drawOne hc_w ht_bs (by decide)) mlX9_93 (rcvM hK hH hc_w rfl) ⟨⟨Nat.le_of_ble_eq_true rfl, Nat.le_of_ble_eq_true rfl⟩, Nat.le_of_ble_eq_true rfl, Nat.le_of_ble_eq_true rfl⟩ rfl hl.1 rfl (Nat.le_of_ble_eq_true rfl) dX9_draw_42) (fun r24 M22 T23 H locs hP hz hH => ?_)
    try dsimp only at hP
    obtain ⟨(⟨c25, rfl, hx_w⟩ | ⟨c26, rfl, hx_w⟩), eT, hfr⟩ := hP
    · skip
      have eT := eT.symm; subst eT
      have hc_ro : M22 ro = some (.inr (7, [.ref w, .ref im, .ref rd, .ref rc, .ref cu])) := (hfr ro n_ro_w).trans hc_ro
      have hc_w : M22 w = some (.inr (6, [.int 0, .int 2, .int 1, .int 0, .int 0, .int 0, .int 0, .int (-1), .ref cs, .ref bs, .ref tp])) := hx_w
      have hF : ∀ q, q ≠ w → M22 q = M q := fun q h0 => (hfr q h0).trans (hF q h0)
      have c25 : 0 ≤ dr.toInt ∧ dr.toInt ≤ 7 ∧ 0 ≤ de.toInt ∧ de.toInt ≤ 7 ∧ 0 ≤ z21.toInt ∧ z21.toInt ≤ 7 ∧ 1 ≤ su.toInt ∧ su.toInt ≤ 999 ∧ 0 ≤ dy.toInt ∧ dy.toInt ≤ 99 := c25
      refine goI hK hH (runV (As := [.int 0]) (rest := []) hC hK hH (c_X8_note hc_w) mlX9_76 (rcvM hK hH hc_w rfl) ⟨⟨Nat.le_of_ble_eq_true rfl, Nat.le_of_ble_eq_true rfl⟩, Nat.le_of_ble_eq_true rfl, Nat.le_of_ble_eq_true rfl⟩ rfl hl.1 rfl (Nat.le_of_ble_eq_true rfl) dX9_draw_45) (fun r29 M27 T28 H locs hP hz hH => ?_)
      try dsimp only at hP
      obtain ⟨(⟨c30, rfl, hx_w⟩ | ⟨c31, rfl, hx_w⟩), eT, hfr⟩ := hP
      · skip
        have eT := eT.symm; subst eT
        have hc_ro : M27 ro = some (.inr (7, [.ref w, .ref im, .ref rd, .ref rc, .ref cu])) := (hfr ro n_ro_w).trans hc_ro
        have hc_w : M27 w = some (.inr (6, [.int 0, .int 2, .int 1, .int 0, .int (0 + 1), .int 0, .int 0, .int (-1), .ref cs, .ref bs, .ref tp])) := hx_w
        have hF : ∀ q, q ≠ w → M27 q = M q := fun q h0 => (hfr q h0).trans (hF q h0)
        have c30 : (0 : Int) ≠ 0 := c30
        exact absurd c30 (by omega)
      · skip
        have eT := eT.symm; subst eT
        have hc_ro : M27 ro = some (.inr (7, [.ref w, .ref im, .ref rd, .ref rc, .ref cu])) := (hfr ro n_ro_w).trans hc_ro
        have hc_w : M27 w = some (.inr (6, [.int 0, .int 2, .int 1, .int 0, .int 0, .int 0, .int 0, .int (-1), .ref cs, .ref bs, .ref tp])) := hx_w
        have hF : ∀ q, q ≠ w → M27 q = M q := fun q h0 => (hfr q h0).trans (hF q h0)
        have c31 : (0 : Int) = 0 := c31
        refine lv_istore (lv' := [(7, .int 0), (6, .int 1), (0, .ref ro), (1, .int dr), (2, .int de), (3, .int pe), (4, .int su), (5, .int dy)]) hx hb dX9_draw_48 hl (by decide) rfl (fun ls hl => ?_)
        refine lv_iload hx hb dX9_draw_50 (lv_at hl 0 rfl) ?_
        refine jif_ne (tgt := 67) hx hb dX9_draw_52 (by decide) (fun c32 => absurd c32 (by decide)) (fun c32 => ?_)
        refine lv_aload_n hx hb dX9_draw_55 rfl (lv_at hl 2 rfl) ?_
        refine xg hC hK hH flX9_12 hc_ro rfl dX9_draw_56 ?_
        refine xg hC hK hH flX9_97 hc_w rfl dX9_draw_59 ?_
        refine lv_iconst (v := 1) hx hb dX9_draw_62 (by decide) ?_
        refine lv_isub hx hb dX9_draw_63 ?_
        refine lv_cst (v := 0) (by decide) ?_
        refine lv_goto (tgt := 70) hx hb dX9_draw_64 (by decide) ?_
        subst e_z21
        exact ret_i hC hr hlk hK hH (⟨Or.inl (⟨by omega, rfl⟩), rfl, hF⟩) (Nat.le_of_ble_eq_true rfl) (Nat.le_of_ble_eq_true rfl) dX9_draw_70
    · skip
      have eT := eT.symm; subst eT
      have hc_ro : M22 ro = some (.inr (7, [.ref w, .ref im, .ref rd, .ref rc, .ref cu])) := (hfr ro n_ro_w).trans hc_ro
      have hc_w : M22 w = some (.inr (6, [.int 0, .int 2, .int 0, .int 0, .int 0, .int 0, .int 0, .int (-1), .ref cs, .ref bs, .ref tp])) := hx_w
      have hF : ∀ q, q ≠ w → M22 q = M q := fun q h0 => (hfr q h0).trans (hF q h0)
      have c26 : ¬ (0 ≤ dr.toInt ∧ dr.toInt ≤ 7 ∧ 0 ≤ de.toInt ∧ de.toInt ≤ 7 ∧ 0 ≤ z21.toInt ∧ z21.toInt ≤ 7 ∧ 1 ≤ su.toInt ∧ su.toInt ≤ 999 ∧ 0 ≤ dy.toInt ∧ dy.toInt ≤ 99) := c26
      refine goI hK hH (runV (As := [.int 30]) (rest := []) hC hK hH (c_X8_note hc_w) mlX9_76 (rcvM hK hH hc_w rfl) ⟨⟨Nat.le_of_ble_eq_true rfl, Nat.le_of_ble_eq_true rfl⟩, Nat.le_of_ble_eq_true rfl, Nat.le_of_ble_eq_true rfl⟩ rfl hl.1 rfl (Nat.le_of_ble_eq_true rfl) dX9_draw_45) (fun r35 M33 T34 H locs hP hz hH => ?_)
      try dsimp only at hP
      obtain ⟨(⟨c36, rfl, hx_w⟩ | ⟨c37, rfl, hx_w⟩), eT, hfr⟩ := hP
      · skip
        have eT := eT.symm; subst eT
        have hc_ro : M33 ro = some (.inr (7, [.ref w, .ref im, .ref rd, .ref rc, .ref cu])) := (hfr ro n_ro_w).trans hc_ro
        have hc_w : M33 w = some (.inr (6, [.int 0, .int 2, .int 0, .int 0, .int (0 + 1), .int 30, .int 0, .int (-1), .ref cs, .ref bs, .ref tp])) := hx_w
        have hF : ∀ q, q ≠ w → M33 q = M q := fun q h0 => (hfr q h0).trans (hF q h0)
        have c36 : (30 : Int) ≠ 0 := c36
        refine lv_istore (lv' := [(7, .int 30), (6, .int 1), (0, .ref ro), (1, .int dr), (2, .int de), (3, .int pe), (4, .int su), (5, .int dy)]) hx hb dX9_draw_48 hl (by decide) rfl (fun ls hl => ?_)
        refine lv_iload hx hb dX9_draw_50 (lv_at hl 0 rfl) ?_
        refine jif_ne (tgt := 67) hx hb dX9_draw_52 (by decide) (fun c38 => ?_) (fun c38 => absurd c38 (by decide))
        refine lv_iload hx hb dX9_draw_67 (lv_at hl 0 rfl) ?_
        refine lv_ineg hx hb dX9_draw_69 ?_
        refine lv_cst (v := -30) (by decide) ?_
        subst e_z21
        exact ret_i hC hr hlk hK hH (⟨Or.inr (⟨by omega, rfl⟩), rfl, hF⟩) (Nat.le_of_ble_eq_true rfl) (Nat.le_of_ble_eq_true rfl) dX9_draw_70
      · skip
        have eT := eT.symm; subst eT
        have hc_ro : M33 ro = some (.inr (7, [.ref w, .ref im, .ref rd, .ref rc, .ref cu])) := (hfr ro n_ro_w).trans hc_ro
        have hc_w : M33 w = some (.inr (6, [.int 0, .int 2, .int 0, .int 0, .int 0, .int 30, .int 0, .int (-1), .ref cs, .ref bs, .ref tp])) := hx_w
        have hF : ∀ q, q ≠ w → M33 q = M q := fun q h0 => (hfr q h0).trans (hF q h0)
        have c37 : (30 : Int) = 0 := c37
        exact absurd c37 (by omega)
