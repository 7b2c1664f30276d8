set_option maxHeartbeats 4000000 in
set_option maxRecDepth 100000 in
theorem c_X8_drawOne {l : Launch} {D : va_G} {kA : Nat → ClassId} {M : mM} {T : mT} {sz : Nat} {w cs bs tp : Nat} {dr de pe su dy op : Int32} (hc_w : M w = some (.inr (6, [.int 0, .int 2, .int 0, .int 0, .int 0, .int 0, .int 0, .int (-1), .ref cs, .ref bs, .ref tp]))) (ht_bs : T bs = some 6) (hop : op = 0 ∨ op = 1) : mCi l yX8_drawOne cX8_drawOne 8 (some .int) 3 0 0 D kA M T sz [.ref w, .int dr, .int de, .int pe, .int su, .int dy, .int op] (fun r u => (((0 ≤ dr.toInt ∧ dr.toInt ≤ 7 ∧ 0 ≤ de.toInt ∧ de.toInt ≤ 7 ∧ 0 ≤ pe.toInt ∧ pe.toInt ≤ 7 ∧ 1 ≤ su.toInt ∧ su.toInt ≤ 999 ∧ 0 ≤ dy.toInt ∧ dy.toInt ≤ 99) ∧ r = 0 ∧ u.1 w = some (.inr (6, [.int 0, .int 2, .int 1, .int 0, .int 0, .int 0, .int 0, .int (-1), .ref cs, .ref bs, .ref tp]))) ∨ ((¬ (0 ≤ dr.toInt ∧ dr.toInt ≤ 7 ∧ 0 ≤ de.toInt ∧ de.toInt ≤ 7 ∧ 0 ≤ pe.toInt ∧ pe.toInt ≤ 7 ∧ 1 ≤ su.toInt ∧ su.toInt ≤ 999 ∧ 0 ≤ dy.toInt ∧ dy.toInt ≤ 99)) ∧ r = 30 ∧ u.1 w = some (.inr (6, [.int 0, .int 2, .int 0, .int 0, .int 0, .int 0, .int 0, .int (-1), .ref cs, .ref bs, .ref tp])))) ∧ u.2 = T ∧ (∀ q, q ≠ w → u.1 q = M q)) := by
  unfold mCi
  refine start_W (by decide) (Nat.le_of_ble_eq_true rfl) ?_
  intro p e s m below meth c ls hC hr hlk hnm hK hH hsz hl
  have hx := hC.1
  have hb := hC.2.1
  have hl : lv_has ls 8 [(0, .ref w), (1, .int dr), (2, .int de), (3, .int pe), (4, .int su), (5, .int dy), (6, .int op)] := hl
  have hF : ∀ q, q ≠ w → M q = M q := fun q _ => rfl
  refine lv_aload_n hx hb dX8_drawOne_0 rfl (lv_at hl 0 rfl) ?_
  refine xg hC hK hH flX8_36 hc_w rfl dX8_drawOne_1 ?_
  refine lv_iconst (v := 4) hx hb dX8_drawOne_4 (by decide) ?_
  refine jic_ge (tgt := 29) hx hb dX8_drawOne_5 (by decide) (fun cq1_ => absurd cq1_ (by decide)) (fun cq1_ => ?_)
  refine lv_iload_n hx hb dX8_drawOne_8 rfl (lv_at hl 1 rfl) ?_
  refine goI hK hH (runSN (As := [.int dr]) (rest := []) hC hK hH (c_X9_isPerson) mlX8_94 ⟨⟨Nat.le_of_ble_eq_true rfl, Nat.le_of_ble_eq_true rfl⟩, Nat.le_of_ble_eq_true rfl, Nat.le_of_ble_eq_true rfl⟩ rfl hl.1 rfl (Nat.le_of_ble_eq_true rfl) dX8_drawOne_9) (fun rq4_ Mq2_ Tq3_ Hq_ lcq_ hP hz hH => ?_)
  try dsimp only at hP
  obtain ⟨(⟨cq5_, rfl⟩ | ⟨cq6_, rfl⟩), eT, eM⟩ := hP
  · skip
    have eT := eT.symm; subst eT
    have eM := eM.symm; subst eM
    have cq5_ : 0 ≤ dr.toInt ∧ dr.toInt ≤ 7 := cq5_
    refine jif_eq (tgt := 29) hx hb dX8_drawOne_12 (by decide) (fun cq7_ => absurd cq7_ (by decide)) (fun cq7_ => ?_)
    refine lv_iload_n hx hb dX8_drawOne_15 rfl (lv_at hl 2 rfl) ?_
    refine goI hK hH (runSN (As := [.int de]) (rest := []) hC hK hH (c_X9_isPerson) mlX8_94 ⟨⟨Nat.le_of_ble_eq_true rfl, Nat.le_of_ble_eq_true rfl⟩, Nat.le_of_ble_eq_true rfl, Nat.le_of_ble_eq_true rfl⟩ rfl hl.1 rfl (Nat.le_of_ble_eq_true rfl) dX8_drawOne_16) (fun rq10_ Mq8_ Tq9_ Hq_ lcq_ hP hz hH => ?_)
    try dsimp only at hP
    obtain ⟨(⟨cq11_, rfl⟩ | ⟨cq12_, rfl⟩), eT, eM⟩ := hP
    · skip
      have eT := eT.symm; subst eT
      have eM := eM.symm; subst eM
      have cq11_ : 0 ≤ de.toInt ∧ de.toInt ≤ 7 := cq11_
      refine jif_eq (tgt := 29) hx hb dX8_drawOne_19 (by decide) (fun cq13_ => absurd cq13_ (by decide)) (fun cq13_ => ?_)
      refine lv_iload_n hx hb dX8_drawOne_22 rfl (lv_at hl 3 rfl) ?_
      refine goI hK hH (runSN (As := [.int pe]) (rest := []) hC hK hH (c_X9_isPerson) mlX8_94 ⟨⟨Nat.le_of_ble_eq_true rfl, Nat.le_of_ble_eq_true rfl⟩, Nat.le_of_ble_eq_true rfl, Nat.le_of_ble_eq_true rfl⟩ rfl hl.1 rfl (Nat.le_of_ble_eq_true rfl) dX8_drawOne_23) (fun rq16_ Mq14_ Tq15_ Hq_ lcq_ hP hz hH => ?_)
      try dsimp only at hP
      obtain ⟨(⟨cq17_, rfl⟩ | ⟨cq18_, rfl⟩), eT, eM⟩ := hP
      · skip
        have eT := eT.symm; subst eT
        have eM := eM.symm; subst eM
        have cq17_ : 0 ≤ pe.toInt ∧ pe.toInt ≤ 7 := cq17_
        refine jif_ne (tgt := 32) hx hb dX8_drawOne_26 (by decide) (fun cq19_ => ?_) (fun cq19_ => absurd cq19_ (by decide))
        refine lv_iload hx hb dX8_drawOne_32 (lv_at hl 4 rfl) ?_
        refine lv_iconst (v := 1) hx hb dX8_drawOne_34 (by decide) ?_
        refine jic_lt (tgt := 58) hx hb dX8_drawOne_35 (by decide) (fun cq20_ => ?_) (fun cq20_ => ?_)
        · skip
          have cq20_ : su.toInt < 1 := cq20_
          refine lv_bipush (v := 30) hx hb dX8_drawOne_58 (by decide) ?_
          exact ret_i hC hr hlk hK hH (⟨Or.inr (⟨by omega, rfl, hc_w⟩), rfl, hF⟩) (Nat.le_of_ble_eq_true rfl) (Nat.le_of_ble_eq_true rfl) dX8_drawOne_60
        · skip
          have cq20_ : 1 ≤ su.toInt := cq20_
          refine lv_iload hx hb dX8_drawOne_38 (lv_at hl 4 rfl) ?_
          refine lv_sipush (v := 999) hx hb dX8_drawOne_40 (by decide) ?_
          refine jic_gt (tgt := 58) hx hb dX8_drawOne_43 (by decide) (fun cq21_ => ?_) (fun cq21_ => ?_)
          · skip
            have cq21_ : 999 < su.toInt := cq21_
            refine lv_bipush (v := 30) hx hb dX8_drawOne_58 (by decide) ?_
            exact ret_i hC hr hlk hK hH (⟨Or.inr (⟨by omega, rfl, hc_w⟩), rfl, hF⟩) (Nat.le_of_ble_eq_true rfl) (Nat.le_of_ble_eq_true rfl) dX8_drawOne_60
          · skip
            have cq21_ : su.toInt ≤ 999 := cq21_
            refine lv_iload hx hb dX8_drawOne_46 (lv_at hl 5 rfl) ?_
            refine jif_lt (tgt := 58) hx hb dX8_drawOne_48 (by decide) (fun cq22_ => ?_) (fun cq22_ => ?_)
            · skip
              have cq22_ : dy.toInt < 0 := cq22_
              refine lv_bipush (v := 30) hx hb dX8_drawOne_58 (by decide) ?_
              exact ret_i hC hr hlk hK hH (⟨Or.inr (⟨by omega, rfl, hc_w⟩), rfl, hF⟩) (Nat.le_of_ble_eq_true rfl) (Nat.le_of_ble_eq_true rfl) dX8_drawOne_60
            · skip
              have cq22_ : 0 ≤ dy.toInt := cq22_
              refine lv_iload hx hb dX8_drawOne_51 (lv_at hl 5 rfl) ?_
              refine lv_bipush (v := 99) hx hb dX8_drawOne_53 (by decide) ?_
              refine jic_le (tgt := 61) hx hb dX8_drawOne_55 (by decide) (fun cq23_ => ?_) (fun cq23_ => ?_)
              · skip
                have cq23_ : dy.toInt ≤ 99 := cq23_
                refine lv_aload_n hx hb dX8_drawOne_61 rfl (lv_at hl 0 rfl) ?_
                refine xg hC hK hH flX8_17 hc_w rfl dX8_drawOne_62 ?_
                refine lv_aload_n hx hb dX8_drawOne_65 rfl (lv_at hl 0 rfl) ?_
                refine xg hC hK hH flX8_36 hc_w rfl dX8_drawOne_66 ?_
                refine tqld hC hK hH ht_bs rfl rfl (iIn (by decide) (by decide)) dX8_drawOne_69 (fun qq24_ t_qq24_ => ?_)
                refine lv_astore (lv' := [(7, .ref qq24_), (0, .ref w), (1, .int dr), (2, .int de), (3, .int pe), (4, .int su), (5, .int dy), (6, .int op)]) hx hb dX8_drawOne_70 hl (by decide) rfl (fun ls hl => ?_)
                refine lv_aload hx hb dX8_drawOne_72 (lv_at hl 0 rfl) ?_
                refine lv_iload_n hx hb dX8_drawOne_74 rfl (lv_at hl 2 rfl) ?_
                refine lv_iload_n hx hb dX8_drawOne_75 rfl (lv_at hl 3 rfl) ?_
                refine lv_iload_n hx hb dX8_drawOne_76 rfl (lv_at hl 4 rfl) ?_
                refine lv_iload hx hb dX8_drawOne_77 (lv_at hl 7 rfl) ?_
                refine goV hK hH (runV (As := [.int dr, .int de, .int pe, .int op]) (rest := []) hC hK hH (c_X1_begin t_qq24_ (by omega) (by omega)) mlX8_97 (rcvT hK hH t_qq24_ rfl rfl) ⟨⟨Nat.le_of_ble_eq_true rfl, Nat.le_of_ble_eq_true rfl⟩, Nat.le_of_ble_eq_true rfl, Nat.le_of_ble_eq_true rfl⟩ rfl hl.1 rfl (Nat.le_of_ble_eq_true rfl) dX8_drawOne_79) (fun Mq25_ Tq26_ Hq_ lcq_ hP hz hH => ?_)
                try dsimp only at hP
                obtain ⟨(-), eT, eM⟩ := hP
                have eT := eT.symm; subst eT
                have eM := eM.symm; subst eM
                refine lv_aload hx hb dX8_drawOne_82 (lv_at hl 0 rfl) ?_
                refine lv_iload hx hb dX8_drawOne_84 (lv_at hl 5 rfl) ?_
                refine tpu hC hK hH flX8_100 t_qq24_ rfl rfl (iRg _).1 (iRg _).2 rfl rfl dX8_drawOne_86 (fun Hq_ lcq_ hH => ?_)
                refine lv_aload hx hb dX8_drawOne_89 (lv_at hl 0 rfl) ?_
                refine lv_aload_n hx hb dX8_drawOne_91 rfl (lv_at hl 1 rfl) ?_
                refine xg hC hK hH flX8_29 hc_w rfl dX8_drawOne_92 ?_
                refine lv_iload hx hb dX8_drawOne_95 (lv_at hl 6 rfl) ?_
                refine lv_iadd hx hb dX8_drawOne_97 ?_
                refine lv_topi (fun zq28_ e_zq28_ => ?_)
                have h_zq28_ : zq28_.toInt = 0 + dy.toInt := by rw [e_zq28_, iAdd (by have : (0 : Int32).toInt = 0 := rfl; have := iRg dy; omega) (by have : (0 : Int32).toInt = 0 := rfl; have := iRg dy; omega)]; rfl
                refine tpu hC hK hH flX8_103 t_qq24_ rfl rfl (iRg _).1 (iRg _).2 rfl rfl dX8_drawOne_98 (fun Hq_ lcq_ hH => ?_)
                refine lv_aload_n hx hb dX8_drawOne_101 rfl (lv_at hl 1 rfl) ?_
                refine lv_dup hx hb dX8_drawOne_102 rfl ?_
                refine xg hC hK hH flX8_36 hc_w rfl dX8_drawOne_103 ?_
                refine lv_iconst (v := 1) hx hb dX8_drawOne_106 (by decide) ?_
                refine lv_iadd hx hb dX8_drawOne_107 ?_
                refine lv_cst (v := 1) (by decide) ?_
                refine yp (v := .int 1) hC hK hH flX8_36 hc_w rfl rfl (Nat.le_of_ble_eq_true rfl) dX8_drawOne_108 (fun Hq_ lcq_ Mq29_ hc_w hfr hH => ?_)
                have hc_w : Mq29_ w = some (.inr (6, [.int 0, .int 2, .int 1, .int 0, .int 0, .int 0, .int 0, .int (-1), .ref cs, .ref bs, .ref tp])) := hc_w
                have hF : ∀ q, q ≠ w → Mq29_ q = M q := fun q h0 => (hfr q h0).trans (hF q h0)
                refine lv_iconst (v := 0) hx hb dX8_drawOne_111 (by decide) ?_
                subst e_zq28_
                exact ret_i hC hr hlk hK hH (⟨Or.inl (⟨by omega, rfl, hc_w⟩), rfl, hF⟩) (Nat.le_of_ble_eq_true rfl) (Nat.le_of_ble_eq_true rfl) dX8_drawOne_112
              · skip
                have cq23_ : 99 < dy.toInt := cq23_
                refine lv_bipush (v := 30) hx hb dX8_drawOne_58 (by decide) ?_
                exact ret_i hC hr hlk hK hH (⟨Or.inr (⟨by omega, rfl, hc_w⟩), rfl, hF⟩) (Nat.le_of_ble_eq_true rfl) (Nat.le_of_ble_eq_true rfl) dX8_drawOne_60
      · skip
        have eT := eT.symm; subst eT
        have eM := eM.symm; subst eM
        have cq18_ : ¬ (0 ≤ pe.toInt ∧ pe.toInt ≤ 7) := cq18_
        refine jif_ne (tgt := 32) hx hb dX8_drawOne_26 (by decide) (fun cq30_ => absurd cq30_ (by decide)) (fun cq30_ => ?_)
        refine lv_bipush (v := 30) hx hb dX8_drawOne_29 (by decide) ?_
        exact ret_i hC hr hlk hK hH (⟨Or.inr (⟨by omega, rfl, hc_w⟩), rfl, hF⟩) (Nat.le_of_ble_eq_true rfl) (Nat.le_of_ble_eq_true rfl) dX8_drawOne_31
    · skip
      have eT := eT.symm; subst eT
      have eM := eM.symm; subst eM
      have cq12_ : ¬ (0 ≤ de.toInt ∧ de.toInt ≤ 7) := cq12_
      refine jif_eq (tgt := 29) hx hb dX8_drawOne_19 (by decide) (fun cq31_ => ?_) (fun cq31_ => absurd cq31_ (by decide))
      refine lv_bipush (v := 30) hx hb dX8_drawOne_29 (by decide) ?_
      exact ret_i hC hr hlk hK hH (⟨Or.inr (⟨by omega, rfl, hc_w⟩), rfl, hF⟩) (Nat.le_of_ble_eq_true rfl) (Nat.le_of_ble_eq_true rfl) dX8_drawOne_31
  · skip
    have eT := eT.symm; subst eT
    have eM := eM.symm; subst eM
    have cq6_ : ¬ (0 ≤ dr.toInt ∧ dr.toInt ≤ 7) := cq6_
    refine jif_eq (tgt := 29) hx hb dX8_drawOne_12 (by decide) (fun cq32_ => ?_) (fun cq32_ => absurd cq32_ (by decide))
    refine lv_bipush (v := 30) hx hb dX8_drawOne_29 (by decide) ?_
    exact ret_i hC hr hlk hK hH (⟨Or.inr (⟨by omega, rfl, hc_w⟩), rfl, hF⟩) (Nat.le_of_ble_eq_true rfl) (Nat.le_of_ble_eq_true rfl) dX8_drawOne_31
set_option maxHeartbeats 4000000 in
set_option maxRecDepth 100000 in
theorem c_X9_draw {l : Launch} {D : va_G} {kA : Nat → ClassId} {M : mM} {T : mT} {sz : Nat} {ro im rd rc cu : Nat} {w cs bs tp : Nat} {dr de pe su dy : Int32} (hc_ro : M ro = some (.inr (7, [.ref w, .ref im, .ref rd, .ref rc, .ref cu]))) (hc_w : M w = some (.inr (6, [.int 0, .int 2, .int 0, .int 0, .int 0, .int 0, .int 0, .int (-1), .ref cs, .ref bs, .ref tp]))) (ht_bs : T bs = some 6) : mCi l yX9_draw cX9_draw 8 (some .int) 4 0 0 D kA M T sz [.ref ro, .int dr, .int de, .int pe, .int su, .int dy] (fun r u => (((0 ≤ dr.toInt ∧ dr.toInt ≤ 7 ∧ 0 ≤ de.toInt ∧ de.toInt ≤ 7 ∧ (0 ≤ pe.toInt ∧ pe.toInt ≤ 7 ∨ 10 ≤ pe.toInt ∧ pe.toInt ≤ 17) ∧ 1 ≤ su.toInt ∧ su.toInt ≤ 999 ∧ 0 ≤ dy.toInt ∧ dy.toInt ≤ 99) ∧ r = 0) ∨ ((¬ (0 ≤ dr.toInt ∧ dr.toInt ≤ 7 ∧ 0 ≤ de.toInt ∧ de.toInt ≤ 7 ∧ (0 ≤ pe.toInt ∧ pe.toInt ≤ 7 ∨ 10 ≤ pe.toInt ∧ pe.toInt ≤ 17) ∧ 1 ≤ su.toInt ∧ su.toInt ≤ 999 ∧ 0 ≤ dy.toInt ∧ dy.toInt ≤ 99)) ∧ r = -30)) ∧ u.2 = T ∧ (∀ q, q ≠ w → u.1 q = M q)) := by
  unfold mCi
  refine start_W (by decide) (Nat.le_of_ble_eq_true rfl) ?_
  intro p e s m below meth c ls hC hr hlk hnm hK hH hsz hl
  have hx := hC.1
  have hb := hC.2.1
  have hl : lv_has ls 8 [(0, .ref ro), (1, .int dr), (2, .int de), (3, .int pe), (4, .int su), (5, .int dy)] := hl
  have hF : ∀ q, q ≠ w → M q = M q := fun q _ => rfl
  have n_ro_w : ro ≠ w := neM hc_ro hc_w (by simp)
  have n_w_ro : w ≠ ro := neM hc_w hc_ro (by simp)
  refine lv_iload_n hx hb dX9_draw_0 rfl (lv_at hl 3 rfl) ?_
  refine lv_bipush (v := 10) hx hb dX9_draw_1 (by decide) ?_
  refine jic_lt (tgt := 10) hx hb dX9_draw_3 (by decide) (fun cq1_ => ?_) (fun cq1_ => ?_)
  · skip
    have cq1_ : pe.toInt < 10 := cq1_
    refine lv_iconst (v := 0) hx hb dX9_draw_10 (by decide) ?_
    refine lv_istore (lv' := [(6, .int 0), (0, .ref ro), (1, .int dr), (2, .int de), (3, .int pe), (4, .int su), (5, .int dy)]) hx hb dX9_draw_11 hl (by decide) rfl (fun ls hl => ?_)
    refine lv_aload_n hx hb dX9_draw_13 rfl (lv_at hl 1 rfl) ?_
    refine xg hC hK hH flX9_12 hc_ro rfl dX9_draw_14 ?_
    refine lv_aload_n hx hb dX9_draw_17 rfl (lv_at hl 1 rfl) ?_
    refine xg hC hK hH flX9_12 hc_ro rfl dX9_draw_18 ?_
    refine lv_iload_n hx hb dX9_draw_21 rfl (lv_at hl 2 rfl) ?_
    refine lv_iload_n hx hb dX9_draw_22 rfl (lv_at hl 3 rfl) ?_
    refine lv_iload hx hb dX9_draw_23 (lv_at hl 0 rfl) ?_
    refine jif_eq (tgt := 35) hx hb dX9_draw_25 (by decide) (fun cq2_ => ?_) (fun cq2_ => absurd cq2_ (by decide))
    refine lv_iload_n hx hb dX9_draw_35 rfl (lv_at hl 4 rfl) ?_
    refine lv_iload hx hb dX9_draw_36 (lv_at hl 5 rfl) ?_
    refine lv_iload hx hb dX9_draw_38 (lv_at hl 6 rfl) ?_
    refine lv_iload hx hb dX9_draw_40 (lv_at hl 0 rfl) ?_
    refine goI hK hH (runV (As := [.int dr, .int de, .int pe, .int su, .int dy, .int 0]) (rest := [.ref w]) hC hK hH (c_X8_drawOne hc_w ht_bs (by decide)) mlX9_93 (rcvM hK hH hc_w rfl) ⟨⟨Nat.le_of_ble_eq_true rfl, Nat.le_of_ble_eq_true rfl⟩, Nat.le_of_ble_eq_true rfl, Nat.le_of_ble_eq_true rfl⟩ rfl hl.1 rfl (Nat.le_of_ble_eq_true rfl) dX9_draw_42) (fun rq5_ Mq3_ Tq4_ Hq_ lcq_ hP hz hH => ?_)
    try dsimp only at hP
    obtain ⟨(⟨cq6_, rfl, hx_w⟩ | ⟨cq7_, rfl, hx_w⟩), eT, hfr⟩ := hP
    · skip
      have eT := eT.symm; subst eT
      have hc_ro : Mq3_ ro = some (.inr (7, [.ref w, .ref im, .ref rd, .ref rc, .ref cu])) := (hfr ro n_ro_w).trans hc_ro
      have hc_w : Mq3_ w = some (.inr (6, [.int 0, .int 2, .int 1, .int 0, .int 0, .int 0, .int 0, .int (-1), .ref cs, .ref bs, .ref tp])) := hx_w
      have hF : ∀ q, q ≠ w → Mq3_ q = M q := fun q h0 => (hfr q h0).trans (hF q h0)
      have cq6_ : 0 ≤ dr.toInt ∧ dr.toInt ≤ 7 ∧ 0 ≤ de.toInt ∧ de.toInt ≤ 7 ∧ 0 ≤ pe.toInt ∧ pe.toInt ≤ 7 ∧ 1 ≤ su.toInt ∧ su.toInt ≤ 999 ∧ 0 ≤ dy.toInt ∧ dy.toInt ≤ 99 := cq6_
      refine goI hK hH (runV (As := [.int 0]) (rest := []) hC hK hH (c_X8_note hc_w) mlX9_76 (rcvM hK hH hc_w rfl) ⟨⟨Nat.le_of_ble_eq_true rfl, Nat.le_of_ble_eq_true rfl⟩, Nat.le_of_ble_eq_true rfl, Nat.le_of_ble_eq_true rfl⟩ rfl hl.1 rfl (Nat.le_of_ble_eq_true rfl) dX9_draw_45) (fun rq10_ Mq8_ Tq9_ Hq_ lcq_ hP hz hH => ?_)
      try dsimp only at hP
      obtain ⟨(⟨cq11_, rfl, hx_w⟩ | ⟨cq12_, rfl, hx_w⟩), eT, hfr⟩ := hP
      · skip
        have eT := eT.symm; subst eT
        have hc_ro : Mq8_ ro = some (.inr (7, [.ref w, .ref im, .ref rd, .ref rc, .ref cu])) := (hfr ro n_ro_w).trans hc_ro
        have hc_w : Mq8_ w = some (.inr (6, [.int 0, .int 2, .int 1, .int 0, .int (0 + 1), .int 0, .int 0, .int (-1), .ref cs, .ref bs, .ref tp])) := hx_w
        have hF : ∀ q, q ≠ w → Mq8_ q = M q := fun q h0 => (hfr q h0).trans (hF q h0)
        have cq11_ : (0 : Int) ≠ 0 := cq11_
        exact absurd cq11_ (by omega)
      · skip
        have eT := eT.symm; subst eT
        have hc_ro : Mq8_ ro = some (.inr (7, [.ref w, .ref im, .ref rd, .ref rc, .ref cu])) := (hfr ro n_ro_w).trans hc_ro
        have hc_w : Mq8_ w = some (.inr (6, [.int 0, .int 2, .int 1, .int 0, .int 0, .int 0, .int 0, .int (-1), .ref cs, .ref bs, .ref tp])) := hx_w
        have hF : ∀ q, q ≠ w → Mq8_ q = M q := fun q h0 => (hfr q h0).trans (hF q h0)
        have cq12_ : (0 : Int) = 0 := cq12_
        refine lv_istore (lv' := [(7, .int 0), (6, .int 0), (0, .ref ro), (1, .int dr), (2, .int de), (3, .int pe), (4, .int su), (5, .int dy)]) hx hb dX9_draw_48 hl (by decide) rfl (fun ls hl => ?_)
        refine lv_iload hx hb dX9_draw_50 (lv_at hl 0 rfl) ?_
        refine jif_ne (tgt := 67) hx hb dX9_draw_52 (by decide) (fun cq13_ => absurd cq13_ (by decide)) (fun cq13_ => ?_)
        refine lv_aload_n hx hb dX9_draw_55 rfl (lv_at hl 2 rfl) ?_
        refine xg hC hK hH flX9_12 hc_ro rfl dX9_draw_56 ?_
        refine xg hC hK hH flX9_97 hc_w rfl dX9_draw_59 ?_
        refine lv_iconst (v := 1) hx hb dX9_draw_62 (by decide) ?_
        refine lv_isub hx hb dX9_draw_63 ?_
        refine lv_cst (v := 0) (by decide) ?_
        refine lv_goto (tgt := 70) hx hb dX9_draw_64 (by decide) ?_
        exact ret_i hC hr hlk hK hH (⟨Or.inl (⟨by omega, rfl⟩), rfl, hF⟩) (Nat.le_of_ble_eq_true rfl) (Nat.le_of_ble_eq_true rfl) dX9_draw_70
    · skip
      have eT := eT.symm; subst eT
      have hc_ro : Mq3_ ro = some (.inr (7, [.ref w, .ref im, .ref rd, .ref rc, .ref cu])) := (hfr ro n_ro_w).trans hc_ro
      have hc_w : Mq3_ w = some (.inr (6, [.int 0, .int 2, .int 0, .int 0, .int 0, .int 0, .int 0, .int (-1), .ref cs, .ref bs, .ref tp])) := hx_w
      have hF : ∀ q, q ≠ w → Mq3_ q = M q := fun q h0 => (hfr q h0).trans (hF q h0)
      have cq7_ : ¬ (0 ≤ dr.toInt ∧ dr.toInt ≤ 7 ∧ 0 ≤ de.toInt ∧ de.toInt ≤ 7 ∧ 0 ≤ pe.toInt ∧ pe.toInt ≤ 7 ∧ 1 ≤ su.toInt ∧ su.toInt ≤ 999 ∧ 0 ≤ dy.toInt ∧ dy.toInt ≤ 99) := cq7_
      refine goI hK hH (runV (As := [.int 30]) (rest := []) hC hK hH (c_X8_note hc_w) mlX9_76 (rcvM hK hH hc_w rfl) ⟨⟨Nat.le_of_ble_eq_true rfl, Nat.le_of_ble_eq_true rfl⟩, Nat.le_of_ble_eq_true rfl, Nat.le_of_ble_eq_true rfl⟩ rfl hl.1 rfl (Nat.le_of_ble_eq_true rfl) dX9_draw_45) (fun rq16_ Mq14_ Tq15_ Hq_ lcq_ hP hz hH => ?_)
      try dsimp only at hP
      obtain ⟨(⟨cq17_, rfl, hx_w⟩ | ⟨cq18_, rfl, hx_w⟩), eT, hfr⟩ := hP
      · skip
        have eT := eT.symm; subst eT
        have hc_ro : Mq14_ ro = some (.inr (7, [.ref w, .ref im, .ref rd, .ref rc, .ref cu])) := (hfr ro n_ro_w).trans hc_ro
        have hc_w : Mq14_ w = some (.inr (6, [.int 0, .int 2, .int 0, .int 0, .int (0 + 1), .int 30, .int 0, .int (-1), .ref cs, .ref bs, .ref tp])) := hx_w
        have hF : ∀ q, q ≠ w → Mq14_ q = M q := fun q h0 => (hfr q h0).trans (hF q h0)
        have cq17_ : (30 : Int) ≠ 0 := cq17_
        refine lv_istore (lv' := [(7, .int 30), (6, .int 0), (0, .ref ro), (1, .int dr), (2, .int de), (3, .int pe), (4, .int su), (5, .int dy)]) hx hb dX9_draw_48 hl (by decide) rfl (fun ls hl => ?_)
        refine lv_iload hx hb dX9_draw_50 (lv_at hl 0 rfl) ?_
        refine jif_ne (tgt := 67) hx hb dX9_draw_52 (by decide) (fun cq19_ => ?_) (fun cq19_ => absurd cq19_ (by decide))
        refine lv_iload hx hb dX9_draw_67 (lv_at hl 0 rfl) ?_
        refine lv_ineg hx hb dX9_draw_69 ?_
        refine lv_cst (v := -30) (by decide) ?_
        exact ret_i hC hr hlk hK hH (⟨Or.inr (⟨by omega, rfl⟩), rfl, hF⟩) (Nat.le_of_ble_eq_true rfl) (Nat.le_of_ble_eq_true rfl) dX9_draw_70
      · skip
        have eT := eT.symm; subst eT
        have hc_ro : Mq14_ ro = some (.inr (7, [.ref w, .ref im, .ref rd, .ref rc, .ref cu])) := (hfr ro n_ro_w).trans hc_ro
        have hc_w : Mq14_ w = some (.inr (6, [.int 0, .int 2, .int 0, .int 0, .int 0, .int 30, .int 0, .int (-1), .ref cs, .ref bs, .ref tp])) := hx_w
        have hF : ∀ q, q ≠ w → Mq14_ q = M q := fun q h0 => (hfr q h0).trans (hF q h0)
        have cq18_ : (30 : Int) = 0 := cq18_
        exact absurd cq18_ (by omega)
  · skip
    have cq1_ : 10 ≤ pe.toInt := cq1_
    refine lv_iconst (v := 1) hx hb dX9_draw_6 (by decide) ?_
    refine lv_goto (tgt := 11) hx hb dX9_draw_7 (by decide) ?_
    refine lv_istore (lv' := [(6, .int 1), (0, .ref ro), (1, .int dr), (2, .int de), (3, .int pe), (4, .int su), (5, .int dy)]) hx hb dX9_draw_11 hl (by decide) rfl (fun ls hl => ?_)
    refine lv_aload_n hx hb dX9_draw_13 rfl (lv_at hl 1 rfl) ?_
    refine xg hC hK hH flX9_12 hc_ro rfl dX9_draw_14 ?_
    refine lv_aload_n hx hb dX9_draw_17 rfl (lv_at hl 1 rfl) ?_
    refine xg hC hK hH flX9_12 hc_ro rfl dX9_draw_18 ?_
    refine lv_iload_n hx hb dX9_draw_21 rfl (lv_at hl 2 rfl) ?_
    refine lv_iload_n hx hb dX9_draw_22 rfl (lv_at hl 3 rfl) ?_
    refine lv_iload hx hb dX9_draw_23 (lv_at hl 0 rfl) ?_
    refine jif_eq (tgt := 35) hx hb dX9_draw_25 (by decide) (fun cq20_ => absurd cq20_ (by decide)) (fun cq20_ => ?_)
    refine lv_iload_n hx hb dX9_draw_28 rfl (lv_at hl 4 rfl) ?_
    refine lv_bipush (v := 10) hx hb dX9_draw_29 (by decide) ?_
    refine lv_isub hx hb dX9_draw_31 ?_
    refine lv_topi (fun zq21_ e_zq21_ => ?_)
    have h_zq21_ : zq21_.toInt = pe.toInt - 10 := by rw [e_zq21_, iSub (by have := iRg pe; have : (10 : Int32).toInt = 10 := rfl; omega) (by have := iRg pe; have : (10 : Int32).toInt = 10 := rfl; omega)]; rfl
    refine lv_goto (tgt := 36) hx hb dX9_draw_32 (by decide) ?_
    refine lv_iload hx hb dX9_draw_36 (lv_at hl 5 rfl) ?_
    refine lv_iload hx hb dX9_draw_38 (lv_at hl 6 rfl) ?_
    refine lv_iload hx hb dX9_draw_40 (lv_at hl 0 rfl) ?_
    refine goI hK hH (runV (As := [.int dr, .int de, .int zq21_, .int su, .int dy, .int 1]) (rest := [.ref w]) hC hK hH (c_X8_drawOne hc_w ht_bs (by decide)) mlX9_93 (rcvM hK hH hc_w rfl) ⟨⟨Nat.le_of_ble_eq_true rfl, Nat.le_of_ble_eq_true rfl⟩, Nat.le_of_ble_eq_true rfl, Nat.le_of_ble_eq_true rfl⟩ rfl hl.1 rfl (Nat.le_of_ble_eq_true rfl) dX9_draw_42) (fun rq24_ Mq22_ Tq23_ Hq_ lcq_ hP hz hH => ?_)
    try dsimp only at hP
    obtain ⟨(⟨cq25_, rfl, hx_w⟩ | ⟨cq26_, rfl, hx_w⟩), eT, hfr⟩ := hP
    · skip
      have eT := eT.symm; subst eT
      have hc_ro : Mq22_ ro = some (.inr (7, [.ref w, .ref im, .ref rd, .ref rc, .ref cu])) := (hfr ro n_ro_w).trans hc_ro
      have hc_w : Mq22_ w = some (.inr (6, [.int 0, .int 2, .int 1, .int 0, .int 0, .int 0, .int 0, .int (-1), .ref cs, .ref bs, .ref tp])) := hx_w
      have hF : ∀ q, q ≠ w → Mq22_ q = M q := fun q h0 => (hfr q h0).trans (hF q h0)
      have cq25_ : 0 ≤ dr.toInt ∧ dr.toInt ≤ 7 ∧ 0 ≤ de.toInt ∧ de.toInt ≤ 7 ∧ 0 ≤ zq21_.toInt ∧ zq21_.toInt ≤ 7 ∧ 1 ≤ su.toInt ∧ su.toInt ≤ 999 ∧ 0 ≤ dy.toInt ∧ dy.toInt ≤ 99 := cq25_
      refine goI hK hH (runV (As := [.int 0]) (rest := []) hC hK hH (c_X8_note hc_w) mlX9_76 (rcvM hK hH hc_w rfl) ⟨⟨Nat.le_of_ble_eq_true rfl, Nat.le_of_ble_eq_true rfl⟩, Nat.le_of_ble_eq_true rfl, Nat.le_of_ble_eq_true rfl⟩ rfl hl.1 rfl (Nat.le_of_ble_eq_true rfl) dX9_draw_45) (fun rq29_ Mq27_ Tq28_ Hq_ lcq_ hP hz hH => ?_)
      try dsimp only at hP
      obtain ⟨(⟨cq30_, rfl, hx_w⟩ | ⟨cq31_, rfl, hx_w⟩), eT, hfr⟩ := hP
      · skip
        have eT := eT.symm; subst eT
        have hc_ro : Mq27_ ro = some (.inr (7, [.ref w, .ref im, .ref rd, .ref rc, .ref cu])) := (hfr ro n_ro_w).trans hc_ro
        have hc_w : Mq27_ w = some (.inr (6, [.int 0, .int 2, .int 1, .int 0, .int (0 + 1), .int 0, .int 0, .int (-1), .ref cs, .ref bs, .ref tp])) := hx_w
        have hF : ∀ q, q ≠ w → Mq27_ q = M q := fun q h0 => (hfr q h0).trans (hF q h0)
        have cq30_ : (0 : Int) ≠ 0 := cq30_
        exact absurd cq30_ (by omega)
      · skip
        have eT := eT.symm; subst eT
        have hc_ro : Mq27_ ro = some (.inr (7, [.ref w, .ref im, .ref rd, .ref rc, .ref cu])) := (hfr ro n_ro_w).trans hc_ro
        have hc_w : Mq27_ w = some (.inr (6, [.int 0, .int 2, .int 1, .int 0, .int 0, .int 0, .int 0, .int (-1), .ref cs, .ref bs, .ref tp])) := hx_w
        have hF : ∀ q, q ≠ w → Mq27_ q = M q := fun q h0 => (hfr q h0).trans (hF q h0)
        have cq31_ : (0 : Int) = 0 := cq31_
        refine lv_istore (lv' := [(7, .int 0), (6, .int 1), (0, .ref ro), (1, .int dr), (2, .int de), (3, .int pe), (4, .int su), (5, .int dy)]) hx hb dX9_draw_48 hl (by decide) rfl (fun ls hl => ?_)
        refine lv_iload hx hb dX9_draw_50 (lv_at hl 0 rfl) ?_
        refine jif_ne (tgt := 67) hx hb dX9_draw_52 (by decide) (fun cq32_ => absurd cq32_ (by decide)) (fun cq32_ => ?_)
        refine lv_aload_n hx hb dX9_draw_55 rfl (lv_at hl 2 rfl) ?_
        refine xg hC hK hH flX9_12 hc_ro rfl dX9_draw_56 ?_
        refine xg hC hK hH flX9_97 hc_w rfl dX9_draw_59 ?_
        refine lv_iconst (v := 1) hx hb dX9_draw_62 (by decide) ?_
        refine lv_isub hx hb dX9_draw_63 ?_
        refine lv_cst (v := 0) (by decide) ?_
        refine lv_goto (tgt := 70) hx hb dX9_draw_64 (by decide) ?_
        subst e_zq21_
        exact ret_i hC hr hlk hK hH (⟨Or.inl (⟨by omega, rfl⟩), rfl, hF⟩) (Nat.le_of_ble_eq_true rfl) (Nat.le_of_ble_eq_true rfl) dX9_draw_70
    · skip
      have eT := eT.symm; subst eT
      have hc_ro : Mq22_ ro = some (.inr (7, [.ref w, .ref im, .ref rd, .ref rc, .ref cu])) := (hfr ro n_ro_w).trans hc_ro
      have hc_w : Mq22_ w = some (.inr (6, [.int 0, .int 2, .int 0, .int 0, .int 0, .int 0, .int 0, .int (-1), .ref cs, .ref bs, .ref tp])) := hx_w
      have hF : ∀ q, q ≠ w → Mq22_ q = M q := fun q h0 => (hfr q h0).trans (hF q h0)
      have cq26_ : ¬ (0 ≤ dr.toInt ∧ dr.toInt ≤ 7 ∧ 0 ≤ de.toInt ∧ de.toInt ≤ 7 ∧ 0 ≤ zq21_.toInt ∧ zq21_.toInt ≤ 7 ∧ 1 ≤ su.toInt ∧ su.toInt ≤ 999 ∧ 0 ≤ dy.toInt ∧ dy.toInt ≤ 99) := cq26_
      refine goI hK hH (runV (As := [.int 30]) (rest := []) hC hK hH (c_X8_note hc_w) mlX9_76 (rcvM hK hH hc_w rfl) ⟨⟨Nat.le_of_ble_eq_true rfl, Nat.le_of_ble_eq_true rfl⟩, Nat.le_of_ble_eq_true rfl, Nat.le_of_ble_eq_true rfl⟩ rfl hl.1 rfl (Nat.le_of_ble_eq_true rfl) dX9_draw_45) (fun rq35_ Mq33_ Tq34_ Hq_ lcq_ hP hz hH => ?_)
      try dsimp only at hP
      obtain ⟨(⟨cq36_, rfl, hx_w⟩ | ⟨cq37_, rfl, hx_w⟩), eT, hfr⟩ := hP
      · skip
        have eT := eT.symm; subst eT
        have hc_ro : Mq33_ ro = some (.inr (7, [.ref w, .ref im, .ref rd, .ref rc, .ref cu])) := (hfr ro n_ro_w).trans hc_ro
        have hc_w : Mq33_ w = some (.inr (6, [.int 0, .int 2, .int 0, .int 0, .int (0 + 1), .int 30, .int 0, .int (-1), .ref cs, .ref bs, .ref tp])) := hx_w
        have hF : ∀ q, q ≠ w → Mq33_ q = M q := fun q h0 => (hfr q h0).trans (hF q h0)
        have cq36_ : (30 : Int) ≠ 0 := cq36_
        refine lv_istore (lv' := [(7, .int 30), (6, .int 1), (0, .ref ro), (1, .int dr), (2, .int de), (3, .int pe), (4, .int su), (5, .int dy)]) hx hb dX9_draw_48 hl (by decide) rfl (fun ls hl => ?_)
        refine lv_iload hx hb dX9_draw_50 (lv_at hl 0 rfl) ?_
        refine jif_ne (tgt := 67) hx hb dX9_draw_52 (by decide) (fun cq38_ => ?_) (fun cq38_ => absurd cq38_ (by decide))
        refine lv_iload hx hb dX9_draw_67 (lv_at hl 0 rfl) ?_
        refine lv_ineg hx hb dX9_draw_69 ?_
        refine lv_cst (v := -30) (by decide) ?_
        subst e_zq21_
        exact ret_i hC hr hlk hK hH (⟨Or.inr (⟨by omega, rfl⟩), rfl, hF⟩) (Nat.le_of_ble_eq_true rfl) (Nat.le_of_ble_eq_true rfl) dX9_draw_70
      · skip
        have eT := eT.symm; subst eT
        have hc_ro : Mq33_ ro = some (.inr (7, [.ref w, .ref im, .ref rd, .ref rc, .ref cu])) := (hfr ro n_ro_w).trans hc_ro
        have hc_w : Mq33_ w = some (.inr (6, [.int 0, .int 2, .int 0, .int 0, .int 0, .int 30, .int 0, .int (-1), .ref cs, .ref bs, .ref tp])) := hx_w
        have hF : ∀ q, q ≠ w → Mq33_ q = M q := fun q h0 => (hfr q h0).trans (hF q h0)
        have cq37_ : (30 : Int) = 0 := cq37_
        exact absurd cq37_ (by omega)
