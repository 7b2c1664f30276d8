theorem mxX1_178 : MXL RX1 178 := ⟨TB_t 866 (by decide +kernel) rfl, TB_t 701 (by decide +kernel) rfl, TB_t 12 (by decide +kernel) rfl, TB_t 702 (by decide +kernel) rfl⟩
set_option maxHeartbeats 4000000 in
set_option maxRecDepth 100000 in
theorem c_X9_isPerson {l : Launch} {D : va_G} {kA : Nat → ClassId} {M : mM} {T : mT} {sz : Nat} {n : Int32}  : mCi l yX9_isPerson cX9_isPerson 1 (some .boolean) 0 0 0 D kA M T sz [.int n] (fun r u => (((0 ≤ n.toInt ∧ n.toInt ≤ 7) ∧ r = 1) ∨ ((¬ (0 ≤ n.toInt ∧ n.toInt ≤ 7)) ∧ r = 0)) ∧ u.2 = T ∧ u.1 = M) := by
  unfold mCi
  refine start_W (by decide) (Nat.le_of_ble_eq_true rfl) ?_
  intro p e s m below meth c ls hC hr hlk hnm hK hH hsz hl
  have hx := hC.1
  have hb := hC.2.1
  have hl : lv_has ls 1 [(0, .int n)] := hl
  refine lv_iload_n hx hb dX9_isPerson_0 rfl (lv_at hl 0 rfl) ?_
  refine jif_lt (tgt := 14) hx hb dX9_isPerson_1 (by decide) (fun cq1_ => ?_) (fun cq1_ => ?_)
  · skip
    have cq1_ : n.toInt < 0 := cq1_
    refine lv_iconst (v := 0) hx hb dX9_isPerson_14 (by decide) ?_
    exact ret_z hC hr hlk hK hH (by first | exact Or.inl rfl | exact Or.inr rfl | assumption) (⟨Or.inr (⟨by omega, rfl⟩), rfl, rfl⟩) (Nat.le_of_ble_eq_true rfl) (Nat.le_of_ble_eq_true rfl) dX9_isPerson_15
  · skip
    have cq1_ : 0 ≤ n.toInt := cq1_
    refine lv_iload_n hx hb dX9_isPerson_4 rfl (lv_at hl 0 rfl) ?_
    refine lv_bipush (v := 8) hx hb dX9_isPerson_5 (by decide) ?_
    refine jic_ge (tgt := 14) hx hb dX9_isPerson_7 (by decide) (fun cq2_ => ?_) (fun cq2_ => ?_)
    · skip
      have cq2_ : 8 ≤ n.toInt := cq2_
      refine lv_iconst (v := 0) hx hb dX9_isPerson_14 (by decide) ?_
      exact ret_z hC hr hlk hK hH (by first | exact Or.inl rfl | exact Or.inr rfl | assumption) (⟨Or.inr (⟨by omega, rfl⟩), rfl, rfl⟩) (Nat.le_of_ble_eq_true rfl) (Nat.le_of_ble_eq_true rfl) dX9_isPerson_15
    · skip
      have cq2_ : n.toInt < 8 := cq2_
      refine lv_iconst (v := 1) hx hb dX9_isPerson_10 (by decide) ?_
      refine lv_goto (tgt := 15) hx hb dX9_isPerson_11 (by decide) ?_
      exact ret_z hC hr hlk hK hH (by first | exact Or.inl rfl | exact Or.inr rfl | assumption) (⟨Or.inl (⟨by omega, rfl⟩), rfl, rfl⟩) (Nat.le_of_ble_eq_true rfl) (Nat.le_of_ble_eq_true rfl) dX9_isPerson_15
set_option maxHeartbeats 4000000 in
set_option maxRecDepth 100000 in
theorem c_X9_bit {l : Launch} {D : va_G} {kA : Nat → ClassId} {M : mM} {T : mT} {sz : Nat} {n : Int32}  : mCi l yX9_bit cX9_bit 1 (some .int) 0 0 0 D kA M T sz [.int n] (fun r u => ((r = 1) ∨ (r = 0)) ∧ u.2 = T ∧ u.1 = M) := by
  unfold mCi
  refine start_W (by decide) (Nat.le_of_ble_eq_true rfl) ?_
  intro p e s m below meth c ls hC hr hlk hnm hK hH hsz hl
  have hx := hC.1
  have hb := hC.2.1
  have hl : lv_has ls 1 [(0, .int n)] := hl
  refine lv_iload_n hx hb dX9_bit_0 rfl (lv_at hl 0 rfl) ?_
  refine jif_eq (tgt := 8) hx hb dX9_bit_1 (by decide) (fun cq1_ => ?_) (fun cq1_ => ?_)
  · skip
    have cq1_ : n.toInt = 0 := cq1_
    refine lv_iconst (v := 0) hx hb dX9_bit_8 (by decide) ?_
    exact ret_i hC hr hlk hK hH (⟨Or.inr (rfl), rfl, rfl⟩) (Nat.le_of_ble_eq_true rfl) (Nat.le_of_ble_eq_true rfl) dX9_bit_9
  · skip
    have cq1_ : n.toInt ≠ 0 := cq1_
    refine lv_iconst (v := 1) hx hb dX9_bit_4 (by decide) ?_
    refine lv_goto (tgt := 9) hx hb dX9_bit_5 (by decide) ?_
    exact ret_i hC hr hlk hK hH (⟨Or.inl (rfl), rfl, rfl⟩) (Nat.le_of_ble_eq_true rfl) (Nat.le_of_ble_eq_true rfl) dX9_bit_9
set_option maxHeartbeats 4000000 in
set_option maxRecDepth 100000 in
theorem c_X1_parties {l : Launch} {D : va_G} {kA : Nat → ClassId} {M : mM} {T : mT} {sz : Nat} {h : Nat} (ht_h : T h = some 2) : mCi l yX1_parties cX1_parties 1 (some .int) 0 0 0 D kA M T sz [.ref h] (fun r u => ((((2 : Int) ≤ r.toInt ∧ r.toInt ≤ 14))) ∧ u.2 = T ∧ u.1 = M) := by
  unfold mCi
  refine start_W (by decide) (Nat.le_of_ble_eq_true rfl) ?_
  intro p e s m below meth c ls hC hr hlk hnm hK hH hsz hl
  have hx := hC.1
  have hb := hC.2.1
  have hl : lv_has ls 1 [(0, .ref h)] := hl
  refine lv_iconst (v := 2) hx hb dX1_parties_0 (by decide) ?_
  refine lv_aload_n hx hb dX1_parties_1 rfl (lv_at hl 0 rfl) ?_
  refine tg hC hK hH flX1_61 ht_h rfl rfl dX1_parties_2 (fun xq1_ l_xq1_ g_xq1_ => ?_)
  have l_xq1_ : (0 : Int) ≤ xq1_.toInt := l_xq1_
  have g_xq1_ : xq1_.toInt ≤ 12 := g_xq1_
  refine lv_iadd hx hb dX1_parties_5 ?_
  refine lv_topi (fun zq2_ e_zq2_ => ?_)
  have h_zq2_ : zq2_.toInt = 2 + xq1_.toInt := by rw [e_zq2_, iAdd (by have : (2 : Int32).toInt = 2 := rfl; have := iRg xq1_; omega) (by have : (2 : Int32).toInt = 2 := rfl; have := iRg xq1_; omega)]; rfl
  subst e_zq2_
  exact ret_i hC hr hlk hK hH (⟨⟨by omega, by omega⟩, rfl, rfl⟩) (Nat.le_of_ble_eq_true rfl) (Nat.le_of_ble_eq_true rfl) dX1_parties_6
set_option maxHeartbeats 4000000 in
set_option maxRecDepth 100000 in
theorem c_X1_hasStep {l : Launch} {D : va_G} {kA : Nat → ClassId} {M : mM} {T : mT} {sz : Nat} {h : Nat} {k : Int32} (ht_h : T h = some 2) : mCi l yX1_hasStep cX1_hasStep 2 (some .boolean) 0 0 0 D kA M T sz [.ref h, .int k] (fun r u => (((0 ≤ k.toInt ∧ k.toInt ≤ 11) ∧ r = 1) ∨ (r = 0)) ∧ u.2 = T ∧ u.1 = M) := by
  unfold mCi
  refine start_W (by decide) (Nat.le_of_ble_eq_true rfl) ?_
  intro p e s m below meth c ls hC hr hlk hnm hK hH hsz hl
  have hx := hC.1
  have hb := hC.2.1
  have hl : lv_has ls 2 [(0, .ref h), (1, .int k)] := hl
  refine lv_iload_n hx hb dX1_hasStep_0 rfl (lv_at hl 1 rfl) ?_
  refine jif_lt (tgt := 16) hx hb dX1_hasStep_1 (by decide) (fun cq1_ => ?_) (fun cq1_ => ?_)
  · skip
    have cq1_ : k.toInt < 0 := cq1_
    refine lv_iconst (v := 0) hx hb dX1_hasStep_16 (by decide) ?_
    exact ret_z hC hr hlk hK hH (by first | exact Or.inl rfl | exact Or.inr rfl | assumption) (⟨Or.inr (rfl), rfl, rfl⟩) (Nat.le_of_ble_eq_true rfl) (Nat.le_of_ble_eq_true rfl) dX1_hasStep_17
  · skip
    have cq1_ : 0 ≤ k.toInt := cq1_
    refine lv_iload_n hx hb dX1_hasStep_4 rfl (lv_at hl 1 rfl) ?_
    refine lv_aload_n hx hb dX1_hasStep_5 rfl (lv_at hl 0 rfl) ?_
    refine tg hC hK hH flX1_61 ht_h rfl rfl dX1_hasStep_6 (fun xq2_ l_xq2_ g_xq2_ => ?_)
    have l_xq2_ : (0 : Int) ≤ xq2_.toInt := l_xq2_
    have g_xq2_ : xq2_.toInt ≤ 12 := g_xq2_
    refine jic_ge (tgt := 16) hx hb dX1_hasStep_9 (by decide) (fun cq3_ => ?_) (fun cq3_ => ?_)
    · skip
      have cq3_ : xq2_.toInt ≤ k.toInt := cq3_
      refine lv_iconst (v := 0) hx hb dX1_hasStep_16 (by decide) ?_
      exact ret_z hC hr hlk hK hH (by first | exact Or.inl rfl | exact Or.inr rfl | assumption) (⟨Or.inr (rfl), rfl, rfl⟩) (Nat.le_of_ble_eq_true rfl) (Nat.le_of_ble_eq_true rfl) dX1_hasStep_17
    · skip
      have cq3_ : k.toInt < xq2_.toInt := cq3_
      refine lv_iconst (v := 1) hx hb dX1_hasStep_12 (by decide) ?_
      refine lv_goto (tgt := 17) hx hb dX1_hasStep_13 (by decide) ?_
      exact ret_z hC hr hlk hK hH (by first | exact Or.inl rfl | exact Or.inr rfl | assumption) (⟨Or.inl (⟨by omega, rfl⟩), rfl, rfl⟩) (Nat.le_of_ble_eq_true rfl) (Nat.le_of_ble_eq_true rfl) dX1_hasStep_17
set_option maxHeartbeats 4000000 in
set_option maxRecDepth 100000 in
theorem c_X1_who {l : Launch} {D : va_G} {kA : Nat → ClassId} {M : mM} {T : mT} {sz : Nat} {h : Nat} {pt : Int32} (ht_h : T h = some 2) : mCi l yX1_who cX1_who 2 (some .int) 1 0 0 D kA M T sz [.ref h, .int pt] (fun r u => (True) ∧ u.2 = T ∧ u.1 = M) := by
  unfold mCi
  refine start_W (by decide) (Nat.le_of_ble_eq_true rfl) ?_
  intro p e s m below meth c ls hC hr hlk hnm hK hH hsz hl
  have hx := hC.1
  have hb := hC.2.1
  have hl : lv_has ls 2 [(0, .ref h), (1, .int pt)] := hl
  refine lv_iload_n hx hb dX1_who_0 rfl (lv_at hl 1 rfl) ?_
  refine jif_ne (tgt := 20) hx hb dX1_who_1 (by decide) (fun cq1_ => ?_) (fun cq1_ => ?_)
  · skip
    have cq1_ : pt.toInt ≠ 0 := cq1_
    refine lv_iload_n hx hb dX1_who_20 rfl (lv_at hl 1 rfl) ?_
    refine lv_iconst (v := 1) hx hb dX1_who_21 (by decide) ?_
    refine jic_ne (tgt := 30) hx hb dX1_who_22 (by decide) (fun cq2_ => ?_) (fun cq2_ => ?_)
    · skip
      have cq2_ : pt.toInt ≠ 1 := cq2_
      refine lv_aload_n hx hb dX1_who_30 rfl (lv_at hl 0 rfl) ?_
      refine lv_iload_n hx hb dX1_who_31 rfl (lv_at hl 1 rfl) ?_
      refine lv_iconst (v := 2) hx hb dX1_who_32 (by decide) ?_
      refine lv_isub hx hb dX1_who_33 ?_
      refine lv_topi (fun zq3_ e_zq3_ => ?_)
      refine goI hK hH (runV (As := [.int zq3_]) (rest := []) hC hK hH (c_X1_hasStep ht_h) mlX1_96 (rcvT hK hH ht_h rfl rfl) ⟨⟨Nat.le_of_ble_eq_true rfl, Nat.le_of_ble_eq_true rfl⟩, Nat.le_of_ble_eq_true rfl, Nat.le_of_ble_eq_true rfl⟩ rfl hl.1 rfl (Nat.le_of_ble_eq_true rfl) dX1_who_34) (fun rq6_ Mq4_ Tq5_ Hq_ lcq_ hP hz hH => ?_)
      try dsimp only at hP
      obtain ⟨(⟨cq7_, er_rq6_⟩ | er_rq6_), eT, eM⟩ := hP
      · skip
        have eT := eT.symm; subst eT
        have er_rq6_ := er_rq6_.symm; subst er_rq6_
        have eM := eM.symm; subst eM
        have cq7_ : 0 ≤ zq3_.toInt ∧ zq3_.toInt ≤ 11 := cq7_
        refine jif_eq (tgt := 54) hx hb dX1_who_37 (by decide) (fun cq8_ => absurd cq8_ (by decide)) (fun cq8_ => ?_)
        refine lv_aload_n hx hb dX1_who_40 rfl (lv_at hl 0 rfl) ?_
        refine tgr hC hK hH flX1_11 ht_h rfl rfl dX1_who_41 (fun qq9_ t_qq9_ => ?_)
        refine lv_iload_n hx hb dX1_who_44 rfl (lv_at hl 1 rfl) ?_
        refine lv_iconst (v := 2) hx hb dX1_who_45 (by decide) ?_
        refine lv_isub hx hb dX1_who_46 ?_
        refine lv_cst (v := zq3_) e_zq3_.symm ?_
        refine tqld hC hK hH t_qq9_ rfl rfl (iIn (by omega) (by omega)) dX1_who_47 (fun qq10_ t_qq10_ => ?_)
        refine tg hC hK hH flX1_100 t_qq10_ rfl rfl dX1_who_48 (fun xq11_ l_xq11_ g_xq11_ => ?_)
        refine lv_goto (tgt := 55) hx hb dX1_who_51 (by decide) ?_
        subst e_zq3_
        exact ret_i hC hr hlk hK hH (⟨trivial, rfl, rfl⟩) (Nat.le_of_ble_eq_true rfl) (Nat.le_of_ble_eq_true rfl) dX1_who_55
      · skip
        have eT := eT.symm; subst eT
        have er_rq6_ := er_rq6_.symm; subst er_rq6_
        have eM := eM.symm; subst eM
        refine jif_eq (tgt := 54) hx hb dX1_who_37 (by decide) (fun cq12_ => ?_) (fun cq12_ => absurd cq12_ (by decide))
        refine lv_iconst (v := -1) hx hb dX1_who_54 (by decide) ?_
        subst e_zq3_
        exact ret_i hC hr hlk hK hH (⟨trivial, rfl, rfl⟩) (Nat.le_of_ble_eq_true rfl) (Nat.le_of_ble_eq_true rfl) dX1_who_55
    · skip
      have cq2_ : pt.toInt = 1 := cq2_
      refine lv_aload_n hx hb dX1_who_25 rfl (lv_at hl 0 rfl) ?_
      refine tg hC hK hH flX1_41 ht_h rfl rfl dX1_who_26 (fun xq13_ l_xq13_ g_xq13_ => ?_)
      exact ret_i hC hr hlk hK hH (⟨trivial, rfl, rfl⟩) (Nat.le_of_ble_eq_true rfl) (Nat.le_of_ble_eq_true rfl) dX1_who_29
  · skip
    have cq1_ : pt.toInt = 0 := cq1_
    refine lv_aload_n hx hb dX1_who_4 rfl (lv_at hl 0 rfl) ?_
    refine tg hC hK hH flX1_67 ht_h rfl rfl dX1_who_5 (fun xq14_ l_xq14_ g_xq14_ => ?_)
    have l_xq14_ : (0 : Int) ≤ xq14_.toInt := l_xq14_
    have g_xq14_ : xq14_.toInt ≤ 1 := g_xq14_
    refine jif_eq (tgt := 18) hx hb dX1_who_8 (by decide) (fun cq15_ => ?_) (fun cq15_ => ?_)
    · skip
      have cq15_ : xq14_.toInt = 0 := cq15_
      refine lv_iconst (v := -1) hx hb dX1_who_18 (by decide) ?_
      exact ret_i hC hr hlk hK hH (⟨trivial, rfl, rfl⟩) (Nat.le_of_ble_eq_true rfl) (Nat.le_of_ble_eq_true rfl) dX1_who_19
    · skip
      have cq15_ : xq14_.toInt ≠ 0 := cq15_
      refine lv_aload_n hx hb dX1_who_11 rfl (lv_at hl 0 rfl) ?_
      refine tg hC hK hH flX1_45 ht_h rfl rfl dX1_who_12 (fun xq16_ l_xq16_ g_xq16_ => ?_)
      refine lv_goto (tgt := 19) hx hb dX1_who_15 (by decide) ?_
      exact ret_i hC hr hlk hK hH (⟨trivial, rfl, rfl⟩) (Nat.le_of_ble_eq_true rfl) (Nat.le_of_ble_eq_true rfl) dX1_who_19
set_option maxHeartbeats 4000000 in
set_option maxRecDepth 100000 in
theorem c_X1_signed {l : Launch} {D : va_G} {kA : Nat → ClassId} {M : mM} {T : mT} {sz : Nat} {h : Nat} {pt : Int32} (ht_h : T h = some 2) : mCi l yX1_signed cX1_signed 2 (some .boolean) 1 0 0 D kA M T sz [.ref h, .int pt] (fun r u => ((((0 : Int) ≤ r.toInt ∧ r.toInt ≤ 1))) ∧ u.2 = T ∧ u.1 = M) := by
  unfold mCi
  refine start_W (by decide) (Nat.le_of_ble_eq_true rfl) ?_
  intro p e s m below meth c ls hC hr hlk hnm hK hH hsz hl
  have hx := hC.1
  have hb := hC.2.1
  have hl : lv_has ls 2 [(0, .ref h), (1, .int pt)] := hl
  refine lv_iload_n hx hb dX1_signed_0 rfl (lv_at hl 1 rfl) ?_
  refine jif_ne (tgt := 9) hx hb dX1_signed_1 (by decide) (fun cq1_ => ?_) (fun cq1_ => ?_)
  · skip
    have cq1_ : pt.toInt ≠ 0 := cq1_
    refine lv_iload_n hx hb dX1_signed_9 rfl (lv_at hl 1 rfl) ?_
    refine lv_iconst (v := 1) hx hb dX1_signed_10 (by decide) ?_
    refine jic_eq (tgt := 38) hx hb dX1_signed_11 (by decide) (fun cq2_ => ?_) (fun cq2_ => ?_)
    · skip
      have cq2_ : pt.toInt = 1 := cq2_
      refine lv_iconst (v := 1) hx hb dX1_signed_38 (by decide) ?_
      refine lv_goto (tgt := 43) hx hb dX1_signed_39 (by decide) ?_
      exact ret_z hC hr hlk hK hH (by first | exact Or.inl rfl | exact Or.inr rfl | assumption) (⟨⟨by decide, by decide⟩, rfl, rfl⟩) (Nat.le_of_ble_eq_true rfl) (Nat.le_of_ble_eq_true rfl) dX1_signed_43
    · skip
      have cq2_ : pt.toInt ≠ 1 := cq2_
      refine lv_aload_n hx hb dX1_signed_14 rfl (lv_at hl 0 rfl) ?_
      refine lv_iload_n hx hb dX1_signed_15 rfl (lv_at hl 1 rfl) ?_
      refine lv_iconst (v := 2) hx hb dX1_signed_16 (by decide) ?_
      refine lv_isub hx hb dX1_signed_17 ?_
      refine lv_topi (fun zq3_ e_zq3_ => ?_)
      refine goI hK hH (runV (As := [.int zq3_]) (rest := []) hC hK hH (c_X1_hasStep ht_h) mlX1_96 (rcvT hK hH ht_h rfl rfl) ⟨⟨Nat.le_of_ble_eq_true rfl, Nat.le_of_ble_eq_true rfl⟩, Nat.le_of_ble_eq_true rfl, Nat.le_of_ble_eq_true rfl⟩ rfl hl.1 rfl (Nat.le_of_ble_eq_true rfl) dX1_signed_18) (fun rq6_ Mq4_ Tq5_ Hq_ lcq_ hP hz hH => ?_)
      try dsimp only at hP
      obtain ⟨(⟨cq7_, er_rq6_⟩ | er_rq6_), eT, eM⟩ := hP
      · skip
        have eT := eT.symm; subst eT
        have er_rq6_ := er_rq6_.symm; subst er_rq6_
        have eM := eM.symm; subst eM
        have cq7_ : 0 ≤ zq3_.toInt ∧ zq3_.toInt ≤ 11 := cq7_
        refine jif_eq (tgt := 42) hx hb dX1_signed_21 (by decide) (fun cq8_ => absurd cq8_ (by decide)) (fun cq8_ => ?_)
        refine lv_aload_n hx hb dX1_signed_24 rfl (lv_at hl 0 rfl) ?_
        refine tgr hC hK hH flX1_11 ht_h rfl rfl dX1_signed_25 (fun qq9_ t_qq9_ => ?_)
        refine lv_iload_n hx hb dX1_signed_28 rfl (lv_at hl 1 rfl) ?_
        refine lv_iconst (v := 2) hx hb dX1_signed_29 (by decide) ?_
        refine lv_isub hx hb dX1_signed_30 ?_
        refine lv_cst (v := zq3_) e_zq3_.symm ?_
        refine tqld hC hK hH t_qq9_ rfl rfl (iIn (by omega) (by omega)) dX1_signed_31 (fun qq10_ t_qq10_ => ?_)
        refine goI hK hH (runV (As := []) (rest := []) hC hK hH (c_X6_signed t_qq10_) mlX1_103 (rcvT hK hH t_qq10_ rfl rfl) ⟨⟨Nat.le_of_ble_eq_true rfl, Nat.le_of_ble_eq_true rfl⟩, Nat.le_of_ble_eq_true rfl, Nat.le_of_ble_eq_true rfl⟩ rfl hl.1 rfl (Nat.le_of_ble_eq_true rfl) dX1_signed_32) (fun rq13_ Mq11_ Tq12_ Hq_ lcq_ hP hz hH => ?_)
        try dsimp only at hP
        obtain ⟨(er_rq13_ | er_rq13_), eT, eM⟩ := hP
        · skip
          have eT := eT.symm; subst eT
          have er_rq13_ := er_rq13_.symm; subst er_rq13_
          have eM := eM.symm; subst eM
          refine jif_eq (tgt := 42) hx hb dX1_signed_35 (by decide) (fun cq14_ => absurd cq14_ (by decide)) (fun cq14_ => ?_)
          refine lv_iconst (v := 1) hx hb dX1_signed_38 (by decide) ?_
          refine lv_goto (tgt := 43) hx hb dX1_signed_39 (by decide) ?_
          subst e_zq3_
          exact ret_z hC hr hlk hK hH (by first | exact Or.inl rfl | exact Or.inr rfl | assumption) (⟨⟨by decide, by decide⟩, rfl, rfl⟩) (Nat.le_of_ble_eq_true rfl) (Nat.le_of_ble_eq_true rfl) dX1_signed_43
        · skip
          have eT := eT.symm; subst eT
          have er_rq13_ := er_rq13_.symm; subst er_rq13_
          have eM := eM.symm; subst eM
          refine jif_eq (tgt := 42) hx hb dX1_signed_35 (by decide) (fun cq15_ => ?_) (fun cq15_ => absurd cq15_ (by decide))
          refine lv_iconst (v := 0) hx hb dX1_signed_42 (by decide) ?_
          subst e_zq3_
          exact ret_z hC hr hlk hK hH (by first | exact Or.inl rfl | exact Or.inr rfl | assumption) (⟨⟨by decide, by decide⟩, rfl, rfl⟩) (Nat.le_of_ble_eq_true rfl) (Nat.le_of_ble_eq_true rfl) dX1_signed_43
      · skip
        have eT := eT.symm; subst eT
        have er_rq6_ := er_rq6_.symm; subst er_rq6_
        have eM := eM.symm; subst eM
        refine jif_eq (tgt := 42) hx hb dX1_signed_21 (by decide) (fun cq16_ => ?_) (fun cq16_ => absurd cq16_ (by decide))
        refine lv_iconst (v := 0) hx hb dX1_signed_42 (by decide) ?_
        subst e_zq3_
        exact ret_z hC hr hlk hK hH (by first | exact Or.inl rfl | exact Or.inr rfl | assumption) (⟨⟨by decide, by decide⟩, rfl, rfl⟩) (Nat.le_of_ble_eq_true rfl) (Nat.le_of_ble_eq_true rfl) dX1_signed_43
  · skip
    have cq1_ : pt.toInt = 0 := cq1_
    refine lv_aload_n hx hb dX1_signed_4 rfl (lv_at hl 0 rfl) ?_
    refine tg hC hK hH flX1_67 ht_h rfl rfl dX1_signed_5 (fun xq17_ l_xq17_ g_xq17_ => ?_)
    have l_xq17_ : (0 : Int) ≤ xq17_.toInt := l_xq17_
    have g_xq17_ : xq17_.toInt ≤ 1 := g_xq17_
    exact ret_z hC hr hlk hK hH (z01 (by omega) (by omega)) (⟨⟨by omega, by omega⟩, rfl, rfl⟩) (Nat.le_of_ble_eq_true rfl) (Nat.le_of_ble_eq_true rfl) dX1_signed_8
set_option maxHeartbeats 4000000 in
set_option maxRecDepth 100000 in
theorem c_X1_forgedAt {l : Launch} {D : va_G} {kA : Nat → ClassId} {M : mM} {T : mT} {sz : Nat} {h : Nat} {pt : Int32} (ht_h : T h = some 2) : mCi l yX1_forgedAt cX1_forgedAt 2 (some .boolean) 1 0 0 D kA M T sz [.ref h, .int pt] (fun r u => ((r = 1) ∨ (r = 0)) ∧ u.2 = T ∧ u.1 = M) := by
  unfold mCi
  refine start_W (by decide) (Nat.le_of_ble_eq_true rfl) ?_
  intro p e s m below meth c ls hC hr hlk hnm hK hH hsz hl
  have hx := hC.1
  have hb := hC.2.1
  have hl : lv_has ls 2 [(0, .ref h), (1, .int pt)] := hl
  refine lv_aload_n hx hb dX1_forgedAt_0 rfl (lv_at hl 0 rfl) ?_
  refine lv_iload_n hx hb dX1_forgedAt_1 rfl (lv_at hl 1 rfl) ?_
  refine lv_iconst (v := 2) hx hb dX1_forgedAt_2 (by decide) ?_
  refine lv_isub hx hb dX1_forgedAt_3 ?_
  refine lv_topi (fun zq1_ e_zq1_ => ?_)
  refine goI hK hH (runV (As := [.int zq1_]) (rest := []) hC hK hH (c_X1_hasStep ht_h) mlX1_96 (rcvT hK hH ht_h rfl rfl) ⟨⟨Nat.le_of_ble_eq_true rfl, Nat.le_of_ble_eq_true rfl⟩, Nat.le_of_ble_eq_true rfl, Nat.le_of_ble_eq_true rfl⟩ rfl hl.1 rfl (Nat.le_of_ble_eq_true rfl) dX1_forgedAt_4) (fun rq4_ Mq2_ Tq3_ Hq_ lcq_ hP hz hH => ?_)
  try dsimp only at hP
  obtain ⟨(⟨cq5_, er_rq4_⟩ | er_rq4_), eT, eM⟩ := hP
  · skip
    have eT := eT.symm; subst eT
    have er_rq4_ := er_rq4_.symm; subst er_rq4_
    have eM := eM.symm; subst eM
    have cq5_ : 0 ≤ zq1_.toInt ∧ zq1_.toInt ≤ 11 := cq5_
    refine jif_eq (tgt := 28) hx hb dX1_forgedAt_7 (by decide) (fun cq6_ => absurd cq6_ (by decide)) (fun cq6_ => ?_)
    refine lv_aload_n hx hb dX1_forgedAt_10 rfl (lv_at hl 0 rfl) ?_
    refine tgr hC hK hH flX1_11 ht_h rfl rfl dX1_forgedAt_11 (fun qq7_ t_qq7_ => ?_)
    refine lv_iload_n hx hb dX1_forgedAt_14 rfl (lv_at hl 1 rfl) ?_
    refine lv_iconst (v := 2) hx hb dX1_forgedAt_15 (by decide) ?_
    refine lv_isub hx hb dX1_forgedAt_16 ?_
    refine lv_cst (v := zq1_) e_zq1_.symm ?_
    refine tqld hC hK hH t_qq7_ rfl rfl (iIn (by omega) (by omega)) dX1_forgedAt_17 (fun qq8_ t_qq8_ => ?_)
    refine goI hK hH (runV (As := []) (rest := []) hC hK hH (c_X6_forged t_qq8_) mlX1_107 (rcvT hK hH t_qq8_ rfl rfl) ⟨⟨Nat.le_of_ble_eq_true rfl, Nat.le_of_ble_eq_true rfl⟩, Nat.le_of_ble_eq_true rfl, Nat.le_of_ble_eq_true rfl⟩ rfl hl.1 rfl (Nat.le_of_ble_eq_true rfl) dX1_forgedAt_18) (fun rq11_ Mq9_ Tq10_ Hq_ lcq_ hP hz hH => ?_)
    try dsimp only at hP
    obtain ⟨(er_rq11_ | er_rq11_), eT, eM⟩ := hP
    · skip
      have eT := eT.symm; subst eT
      have er_rq11_ := er_rq11_.symm; subst er_rq11_
      have eM := eM.symm; subst eM
      refine jif_eq (tgt := 28) hx hb dX1_forgedAt_21 (by decide) (fun cq12_ => absurd cq12_ (by decide)) (fun cq12_ => ?_)
      refine lv_iconst (v := 1) hx hb dX1_forgedAt_24 (by decide) ?_
      refine lv_goto (tgt := 29) hx hb dX1_forgedAt_25 (by decide) ?_
      subst e_zq1_
      exact ret_z hC hr hlk hK hH (by first | exact Or.inl rfl | exact Or.inr rfl | assumption) (⟨Or.inl (rfl), rfl, rfl⟩) (Nat.le_of_ble_eq_true rfl) (Nat.le_of_ble_eq_true rfl) dX1_forgedAt_29
    · skip
      have eT := eT.symm; subst eT
      have er_rq11_ := er_rq11_.symm; subst er_rq11_
      have eM := eM.symm; subst eM
      refine jif_eq (tgt := 28) hx hb dX1_forgedAt_21 (by decide) (fun cq13_ => ?_) (fun cq13_ => absurd cq13_ (by decide))
      refine lv_iconst (v := 0) hx hb dX1_forgedAt_28 (by decide) ?_
      subst e_zq1_
      exact ret_z hC hr hlk hK hH (by first | exact Or.inl rfl | exact Or.inr rfl | assumption) (⟨Or.inr (rfl), rfl, rfl⟩) (Nat.le_of_ble_eq_true rfl) (Nat.le_of_ble_eq_true rfl) dX1_forgedAt_29
  · skip
    have eT := eT.symm; subst eT
    have er_rq4_ := er_rq4_.symm; subst er_rq4_
    have eM := eM.symm; subst eM
    refine jif_eq (tgt := 28) hx hb dX1_forgedAt_7 (by decide) (fun cq14_ => ?_) (fun cq14_ => absurd cq14_ (by decide))
    refine lv_iconst (v := 0) hx hb dX1_forgedAt_28 (by decide) ?_
    subst e_zq1_
    exact ret_z hC hr hlk hK hH (by first | exact Or.inl rfl | exact Or.inr rfl | assumption) (⟨Or.inr (rfl), rfl, rfl⟩) (Nat.le_of_ble_eq_true rfl) (Nat.le_of_ble_eq_true rfl) dX1_forgedAt_29
set_option maxHeartbeats 4000000 in
set_option maxRecDepth 100000 in
theorem c_X1_hasTitle {l : Launch} {D : va_G} {kA : Nat → ClassId} {M : mM} {T : mT} {sz : Nat} {h : Nat} (ht_h : T h = some 2) : mCi l yX1_hasTitle cX1_hasTitle 1 (some .boolean) 1 0 0 D kA M T sz [.ref h] (fun r u => ((r = 1) ∨ (r = 0)) ∧ u.2 = T ∧ u.1 = M) := by
  unfold mCi
  refine start_W (by decide) (Nat.le_of_ble_eq_true rfl) ?_
  intro p e s m below meth c ls hC hr hlk hnm hK hH hsz hl
  have hx := hC.1
  have hb := hC.2.1
  have hl : lv_has ls 1 [(0, .ref h)] := hl
  refine lv_aload_n hx hb dX1_hasTitle_0 rfl (lv_at hl 0 rfl) ?_
  refine tgr hC hK hH flX1_20 ht_h rfl rfl dX1_hasTitle_1 (fun qq1_ t_qq1_ => ?_)
  refine lv_aload_n hx hb dX1_hasTitle_4 rfl (lv_at hl 0 rfl) ?_
  refine tg hC hK hH flX1_55 ht_h rfl rfl dX1_hasTitle_5 (fun xq2_ l_xq2_ g_xq2_ => ?_)
  have l_xq2_ : (0 : Int) ≤ xq2_.toInt := l_xq2_
  have g_xq2_ : xq2_.toInt ≤ 7 := g_xq2_
  refine goI hK hH (runV (As := [.int xq2_]) (rest := []) hC hK hH (c_X2_entitles t_qq1_) mlX1_110 (rcvT hK hH t_qq1_ rfl rfl) ⟨⟨Nat.le_of_ble_eq_true rfl, Nat.le_of_ble_eq_true rfl⟩, Nat.le_of_ble_eq_true rfl, Nat.le_of_ble_eq_true rfl⟩ rfl hl.1 rfl (Nat.le_of_ble_eq_true rfl) dX1_hasTitle_8) (fun rq5_ Mq3_ Tq4_ Hq_ lcq_ hP hz hH => ?_)
  try dsimp only at hP
  obtain ⟨(er_rq5_ | er_rq5_), eT, eM⟩ := hP
  · skip
    have eT := eT.symm; subst eT
    have er_rq5_ := er_rq5_.symm; subst er_rq5_
    have eM := eM.symm; subst eM
    exact ret_z hC hr hlk hK hH (by first | exact Or.inl rfl | exact Or.inr rfl | assumption) (⟨Or.inl (rfl), rfl, rfl⟩) (Nat.le_of_ble_eq_true rfl) (Nat.le_of_ble_eq_true rfl) dX1_hasTitle_11
  · skip
    have eT := eT.symm; subst eT
    have er_rq5_ := er_rq5_.symm; subst er_rq5_
    have eM := eM.symm; subst eM
    exact ret_z hC hr hlk hK hH (by first | exact Or.inl rfl | exact Or.inr rfl | assumption) (⟨Or.inr (rfl), rfl, rfl⟩) (Nat.le_of_ble_eq_true rfl) (Nat.le_of_ble_eq_true rfl) dX1_hasTitle_11
set_option maxHeartbeats 4000000 in
set_option maxRecDepth 100000 in
theorem c_X1_rank {l : Launch} {D : va_G} {kA : Nat → ClassId} {M : mM} {T : mT} {sz : Nat} {h : Nat} (ht_h : T h = some 2) : mCi l yX1_rank cX1_rank 2 (some .int) 2 0 0 D kA M T sz [.ref h] (fun r u => ((((1 : Int) ≤ r.toInt ∧ r.toInt ≤ 14))) ∧ u.2 = T ∧ u.1 = M) := by
  unfold mCi
  refine start_W (by decide) (Nat.le_of_ble_eq_true rfl) ?_
  intro p e s m below meth c ls hC hr hlk hnm hK hH hsz hl
  have hx := hC.1
  have hb := hC.2.1
  have hl : lv_has ls 2 [(0, .ref h)] := hl
  refine lv_iconst (v := 1) hx hb dX1_rank_0 (by decide) ?_
  refine lv_istore_n (lv' := [(1, .int 1), (0, .ref h)]) hx hb dX1_rank_1 rfl hl (by decide) rfl (fun ls hl => ?_)
  have loop : ∀ (n : Nat) (iq1_ : Int32) (Hq_ : Heap) (lcq_ : List Loc) (ls : Array Slot), iq1_.toInt + (n : Int) = 14 → (1 : Int) ≤ iq1_.toInt → iq1_.toInt ≤ 14 → mS D kA M T (mA M T sz) s.heap Hq_ lcq_ → lv_has ls 2 [(1, .int iq1_), (0, .ref h)] → W p l e (rmL 2 0 0) s m ([.ref h] : List Value).toArray below meth c Hq_ lcq_ 0 0 (MQ below (va_Qi (fun r u => ((((1 : Int) ≤ r.toInt ∧ r.toInt ≤ 14))) ∧ u.2 = T ∧ u.1 = M) (mB D kA M T sz) (mA M T sz)) ([.ref h] : List Value).toArray s 0 0 (mA M T sz)) (F0 m 2 ls []) := by
    intro n
    induction n with
    | zero =>
      intro iq1_ Hq_ lcq_ ls hi_iq1_ h0_iq1_ h9_iq1_ hH hl
      have hi2_iq1_ : iq1_.toInt = 14 := by omega
      refine lv_iload_n hx hb dX1_rank_2 rfl (lv_at hl 0 rfl) ?_
      refine lv_aload_n hx hb dX1_rank_3 rfl (lv_at hl 1 rfl) ?_
      refine goI hK hH (runV (As := []) (rest := [.int iq1_]) hC hK hH (c_X1_parties ht_h) mlX1_113 (rcvT hK hH ht_h rfl rfl) ⟨⟨Nat.le_of_ble_eq_true rfl, Nat.le_of_ble_eq_true rfl⟩, Nat.le_of_ble_eq_true rfl, Nat.le_of_ble_eq_true rfl⟩ rfl hl.1 rfl (Nat.le_of_ble_eq_true rfl) dX1_rank_4) (fun rq4_ Mq2_ Tq3_ Hq_ lcq_ hP hz hH => ?_)
      try dsimp only at hP
      obtain ⟨(⟨l_rq4_, g_rq4_⟩), eT, eM⟩ := hP
      have eT := eT.symm; subst eT
      have eM := eM.symm; subst eM
      refine jic_ge (tgt := 38) hx hb dX1_rank_7 (by decide) (fun cq5_ => ?_) (fun cq5_ => absurd cq5_ (by have := iRg iq1_; have := iRg rq4_; omega))
      have cq5_ : rq4_.toInt ≤ iq1_.toInt := cq5_
      refine lv_aload_n hx hb dX1_rank_38 rfl (lv_at hl 1 rfl) ?_
      refine goI hK hH (runV (As := []) (rest := []) hC hK hH (c_X1_parties ht_h) mlX1_113 (rcvT hK hH ht_h rfl rfl) ⟨⟨Nat.le_of_ble_eq_true rfl, Nat.le_of_ble_eq_true rfl⟩, Nat.le_of_ble_eq_true rfl, Nat.le_of_ble_eq_true rfl⟩ rfl hl.1 rfl (Nat.le_of_ble_eq_true rfl) dX1_rank_39) (fun rq8_ Mq6_ Tq7_ Hq_ lcq_ hP hz hH => ?_)
      try dsimp only at hP
      obtain ⟨(⟨l_rq8_, g_rq8_⟩), eT, eM⟩ := hP
      have eT := eT.symm; subst eT
      have eM := eM.symm; subst eM
      exact ret_i hC hr hlk hK hH (⟨⟨by omega, by omega⟩, rfl, rfl⟩) (Nat.le_of_ble_eq_true rfl) (Nat.le_of_ble_eq_true rfl) dX1_rank_42
    | succ n ih =>
      intro iq1_ Hq_ lcq_ ls hi_iq1_ h0_iq1_ h9_iq1_ hH hl
      have hi2_iq1_ : iq1_.toInt ≤ 13 := by omega
      refine lv_iload_n hx hb dX1_rank_2 rfl (lv_at hl 0 rfl) ?_
      refine lv_aload_n hx hb dX1_rank_3 rfl (lv_at hl 1 rfl) ?_
      refine goI hK hH (runV (As := []) (rest := [.int iq1_]) hC hK hH (c_X1_parties ht_h) mlX1_113 (rcvT hK hH ht_h rfl rfl) ⟨⟨Nat.le_of_ble_eq_true rfl, Nat.le_of_ble_eq_true rfl⟩, Nat.le_of_ble_eq_true rfl, Nat.le_of_ble_eq_true rfl⟩ rfl hl.1 rfl (Nat.le_of_ble_eq_true rfl) dX1_rank_4) (fun rq11_ Mq9_ Tq10_ Hq_ lcq_ hP hz hH => ?_)
      try dsimp only at hP
      obtain ⟨(⟨l_rq11_, g_rq11_⟩), eT, eM⟩ := hP
      have eT := eT.symm; subst eT
      have eM := eM.symm; subst eM
      refine jic_ge (tgt := 38) hx hb dX1_rank_7 (by decide) (fun cq12_ => ?_) (fun cq12_ => ?_)
      · skip
        have cq12_ : rq11_.toInt ≤ iq1_.toInt := cq12_
        refine lv_aload_n hx hb dX1_rank_38 rfl (lv_at hl 1 rfl) ?_
        refine goI hK hH (runV (As := []) (rest := []) hC hK hH (c_X1_parties ht_h) mlX1_113 (rcvT hK hH ht_h rfl rfl) ⟨⟨Nat.le_of_ble_eq_true rfl, Nat.le_of_ble_eq_true rfl⟩, Nat.le_of_ble_eq_true rfl, Nat.le_of_ble_eq_true rfl⟩ rfl hl.1 rfl (Nat.le_of_ble_eq_true rfl) dX1_rank_39) (fun rq15_ Mq13_ Tq14_ Hq_ lcq_ hP hz hH => ?_)
        try dsimp only at hP
        obtain ⟨(⟨l_rq15_, g_rq15_⟩), eT, eM⟩ := hP
        have eT := eT.symm; subst eT
        have eM := eM.symm; subst eM
        exact ret_i hC hr hlk hK hH (⟨⟨by omega, by omega⟩, rfl, rfl⟩) (Nat.le_of_ble_eq_true rfl) (Nat.le_of_ble_eq_true rfl) dX1_rank_42
      · skip
        have cq12_ : iq1_.toInt < rq11_.toInt := cq12_
        refine lv_aload_n hx hb dX1_rank_10 rfl (lv_at hl 1 rfl) ?_
        refine lv_iload_n hx hb dX1_rank_11 rfl (lv_at hl 0 rfl) ?_
        refine goI hK hH (runV (As := [.int iq1_]) (rest := []) hC hK hH (c_X1_who ht_h) mlX1_117 (rcvT hK hH ht_h rfl rfl) ⟨⟨Nat.le_of_ble_eq_true rfl, Nat.le_of_ble_eq_true rfl⟩, Nat.le_of_ble_eq_true rfl, Nat.le_of_ble_eq_true rfl⟩ rfl hl.1 rfl (Nat.le_of_ble_eq_true rfl) dX1_rank_12) (fun rq18_ Mq16_ Tq17_ Hq_ lcq_ hP hz hH => ?_)
        try dsimp only at hP
        obtain ⟨(-), eT, eM⟩ := hP
        have eT := eT.symm; subst eT
        have eM := eM.symm; subst eM
        refine lv_aload_n hx hb dX1_rank_15 rfl (lv_at hl 1 rfl) ?_
        refine tg hC hK hH flX1_55 ht_h rfl rfl dX1_rank_16 (fun xq19_ l_xq19_ g_xq19_ => ?_)
        have l_xq19_ : (0 : Int) ≤ xq19_.toInt := l_xq19_
        have g_xq19_ : xq19_.toInt ≤ 7 := g_xq19_
        refine jic_ne (tgt := 32) hx hb dX1_rank_19 (by decide) (fun cq20_ => ?_) (fun cq20_ => ?_)
        · skip
          have cq20_ : rq18_.toInt ≠ xq19_.toInt := cq20_
          obtain ⟨zq21_, e_zq21_⟩ : ∃ y : Int32, y = iq1_ + 1 := ⟨_, rfl⟩
          refine lv_iinc (v := zq21_) (lv' := [(1, .int zq21_), (0, .ref h)]) hx hb dX1_rank_32 hl (k := 0) rfl (by rw [e_zq21_]; rfl) (by decide) rfl (fun ls hl => ?_)
          have h_zq21_ : zq21_.toInt = iq1_.toInt + 1 := by rw [e_zq21_, iAdd (by have : (1 : Int32).toInt = 1 := rfl; omega) (by have : (1 : Int32).toInt = 1 := rfl; omega)]; rfl
          refine lv_goto (tgt := 2) hx hb dX1_rank_35 (by decide) ?_
          exact ih zq21_ _ _ ls (by omega) (by omega) (by omega) hH (lv_sub hl [0, 1] rfl)
        · skip
          have cq20_ : rq18_.toInt = xq19_.toInt := cq20_
          refine lv_aload_n hx hb dX1_rank_22 rfl (lv_at hl 1 rfl) ?_
          refine lv_iload_n hx hb dX1_rank_23 rfl (lv_at hl 0 rfl) ?_
          refine goI hK hH (runV (As := [.int iq1_]) (rest := []) hC hK hH (c_X1_signed ht_h) mlX1_121 (rcvT hK hH ht_h rfl rfl) ⟨⟨Nat.le_of_ble_eq_true rfl, Nat.le_of_ble_eq_true rfl⟩, Nat.le_of_ble_eq_true rfl, Nat.le_of_ble_eq_true rfl⟩ rfl hl.1 rfl (Nat.le_of_ble_eq_true rfl) dX1_rank_24) (fun rq24_ Mq22_ Tq23_ Hq_ lcq_ hP hz hH => ?_)
          try dsimp only at hP
          obtain ⟨(⟨l_rq24_, g_rq24_⟩), eT, eM⟩ := hP
          have eT := eT.symm; subst eT
          have eM := eM.symm; subst eM
          refine jif_eq (tgt := 32) hx hb dX1_rank_27 (by decide) (fun cq25_ => ?_) (fun cq25_ => ?_)
          · skip
            have cq25_ : rq24_.toInt = 0 := cq25_
            obtain ⟨zq26_, e_zq26_⟩ : ∃ y : Int32, y = iq1_ + 1 := ⟨_, rfl⟩
            refine lv_iinc (v := zq26_) (lv' := [(1, .int zq26_), (0, .ref h)]) hx hb dX1_rank_32 hl (k := 0) rfl (by rw [e_zq26_]; rfl) (by decide) rfl (fun ls hl => ?_)
            have h_zq26_ : zq26_.toInt = iq1_.toInt + 1 := by rw [e_zq26_, iAdd (by have : (1 : Int32).toInt = 1 := rfl; omega) (by have : (1 : Int32).toInt = 1 := rfl; omega)]; rfl
            refine lv_goto (tgt := 2) hx hb dX1_rank_35 (by decide) ?_
            exact ih zq26_ _ _ ls (by omega) (by omega) (by omega) hH (lv_sub hl [0, 1] rfl)
          · skip
            have cq25_ : rq24_.toInt ≠ 0 := cq25_
            refine lv_iload_n hx hb dX1_rank_30 rfl (lv_at hl 0 rfl) ?_
            exact ret_i hC hr hlk hK hH (⟨⟨by omega, by omega⟩, rfl, rfl⟩) (Nat.le_of_ble_eq_true rfl) (Nat.le_of_ble_eq_true rfl) dX1_rank_31
  exact loop (Int.toNat (14 - 1)) 1 _ _ ls (by have : (1 : Int32).toInt = 1 := rfl; omega) (by have : (1 : Int32).toInt = 1 := rfl; omega) (by have : (1 : Int32).toInt = 1 := rfl; omega) hH hl
set_option maxHeartbeats 4000000 in
set_option maxRecDepth 100000 in
theorem c_X1_defenceOf {l : Launch} {D : va_G} {kA : Nat → ClassId} {M : mM} {T : mT} {sz : Nat} {h : Nat} {pt : Int32} (ht_h : T h = some 2) (h_pt : 0 ≤ pt.toInt ∧ pt.toInt ≤ 13) : mCi l yX1_defenceOf cX1_defenceOf 2 (some .int) 0 0 0 D kA M T sz [.ref h, .int pt] (fun r u => (True) ∧ u.2 = T ∧ u.1 = M) := by
  unfold mCi
  refine start_W (by decide) (Nat.le_of_ble_eq_true rfl) ?_
  intro p e s m below meth c ls hC hr hlk hnm hK hH hsz hl
  have hx := hC.1
  have hb := hC.2.1
  have hl : lv_has ls 2 [(0, .ref h), (1, .int pt)] := hl
  refine lv_aload_n hx hb dX1_defenceOf_0 rfl (lv_at hl 0 rfl) ?_
  refine tgr hC hK hH flX1_37 ht_h rfl rfl dX1_defenceOf_1 (fun qq1_ t_qq1_ => ?_)
  refine lv_iload_n hx hb dX1_defenceOf_4 rfl (lv_at hl 1 rfl) ?_
  refine tild hC hK hH t_qq1_ rfl (iIn (by omega) (by omega)) dX1_defenceOf_5 (fun xq2_ l_xq2_ g_xq2_ => ?_)
  refine lv_iconst (v := 1) hx hb dX1_defenceOf_6 (by decide) ?_
  refine lv_iand hx hb dX1_defenceOf_7 ?_
  refine lv_topi (fun zq3_ e_zq3_ => ?_)
  refine jif_eq (tgt := 14) hx hb dX1_defenceOf_8 (by decide) (fun cq4_ => ?_) (fun cq4_ => ?_)
  · skip
    have cq4_ : zq3_.toInt = 0 := cq4_
    refine lv_aload_n hx hb dX1_defenceOf_14 rfl (lv_at hl 0 rfl) ?_
    refine tgr hC hK hH flX1_37 ht_h rfl rfl dX1_defenceOf_15 (fun qq5_ t_qq5_ => ?_)
    refine lv_iload_n hx hb dX1_defenceOf_18 rfl (lv_at hl 1 rfl) ?_
    refine tild hC hK hH t_qq5_ rfl (iIn (by omega) (by omega)) dX1_defenceOf_19 (fun xq6_ l_xq6_ g_xq6_ => ?_)
    refine jif_eq (tgt := 39) hx hb dX1_defenceOf_20 (by decide) (fun cq7_ => ?_) (fun cq7_ => ?_)
    · skip
      have cq7_ : xq6_.toInt = 0 := cq7_
      refine lv_iconst (v := 0) hx hb dX1_defenceOf_39 (by decide) ?_
      exact ret_i hC hr hlk hK hH (⟨trivial, rfl, rfl⟩) (Nat.le_of_ble_eq_true rfl) (Nat.le_of_ble_eq_true rfl) dX1_defenceOf_40
    · skip
      have cq7_ : xq6_.toInt ≠ 0 := cq7_
      refine lv_aload_n hx hb dX1_defenceOf_23 rfl (lv_at hl 0 rfl) ?_
      refine tgr hC hK hH flX1_20 ht_h rfl rfl dX1_defenceOf_24 (fun qq8_ t_qq8_ => ?_)
      refine tg hC hK hH flX1_155 t_qq8_ rfl rfl dX1_defenceOf_27 (fun xq9_ l_xq9_ g_xq9_ => ?_)
      refine lv_iconst (v := 1) hx hb dX1_defenceOf_30 (by decide) ?_
      refine jic_ne (tgt := 39) hx hb dX1_defenceOf_31 (by decide) (fun cq10_ => ?_) (fun cq10_ => ?_)
      · skip
        have cq10_ : xq9_.toInt ≠ 1 := cq10_
        refine lv_iconst (v := 0) hx hb dX1_defenceOf_39 (by decide) ?_
        exact ret_i hC hr hlk hK hH (⟨trivial, rfl, rfl⟩) (Nat.le_of_ble_eq_true rfl) (Nat.le_of_ble_eq_true rfl) dX1_defenceOf_40
      · skip
        have cq10_ : xq9_.toInt = 1 := cq10_
        refine lv_bipush (v := 20) hx hb dX1_defenceOf_34 (by decide) ?_
        refine lv_goto (tgt := 40) hx hb dX1_defenceOf_36 (by decide) ?_
        exact ret_i hC hr hlk hK hH (⟨trivial, rfl, rfl⟩) (Nat.le_of_ble_eq_true rfl) (Nat.le_of_ble_eq_true rfl) dX1_defenceOf_40
  · skip
    have cq4_ : zq3_.toInt ≠ 0 := cq4_
    refine lv_bipush (v := 19) hx hb dX1_defenceOf_11 (by decide) ?_
    exact ret_i hC hr hlk hK hH (⟨trivial, rfl, rfl⟩) (Nat.le_of_ble_eq_true rfl) (Nat.le_of_ble_eq_true rfl) dX1_defenceOf_13
set_option maxHeartbeats 4000000 in
set_option maxRecDepth 100000 in
theorem c_X1_whyNot {l : Launch} {D : va_G} {kA : Nat → ClassId} {M : mM} {T : mT} {sz : Nat} {h : Nat} {pt td : Int32} (ht_h : T h = some 2) (h_pt : 0 ≤ pt.toInt ∧ pt.toInt ≤ 13) : mCi l yX1_whyNot cX1_whyNot 3 (some .int) 3 0 0 D kA M T sz [.ref h, .int pt, .int td] (fun r u => (True) ∧ u.2 = T ∧ u.1 = M) := by
  unfold mCi
  refine start_W (by decide) (Nat.le_of_ble_eq_true rfl) ?_
  intro p e s m below meth c ls hC hr hlk hnm hK hH hsz hl
  have hx := hC.1
  have hb := hC.2.1
  have hl : lv_has ls 3 [(0, .ref h), (1, .int pt), (2, .int td)] := hl
  refine lv_aload_n hx hb dX1_whyNot_0 rfl (lv_at hl 0 rfl) ?_
  refine goI hK hH (runV (As := []) (rest := []) hC hK hH (c_X1_hasTitle ht_h) mlX1_159 (rcvT hK hH ht_h rfl rfl) ⟨⟨Nat.le_of_ble_eq_true rfl, Nat.le_of_ble_eq_true rfl⟩, Nat.le_of_ble_eq_true rfl, Nat.le_of_ble_eq_true rfl⟩ rfl hl.1 rfl (Nat.le_of_ble_eq_true rfl) dX1_whyNot_1) (fun rq3_ Mq1_ Tq2_ Hq_ lcq_ hP hz hH => ?_)
  try dsimp only at hP
  obtain ⟨(er_rq3_ | er_rq3_), eT, eM⟩ := hP
  · skip
    have eT := eT.symm; subst eT
    have er_rq3_ := er_rq3_.symm; subst er_rq3_
    have eM := eM.symm; subst eM
    refine jif_ne (tgt := 9) hx hb dX1_whyNot_4 (by decide) (fun cq4_ => ?_) (fun cq4_ => absurd cq4_ (by decide))
    refine lv_aload_n hx hb dX1_whyNot_9 rfl (lv_at hl 0 rfl) ?_
    refine tg hC hK hH flX1_70 ht_h rfl rfl dX1_whyNot_10 (fun xq5_ l_xq5_ g_xq5_ => ?_)
    have l_xq5_ : (0 : Int) ≤ xq5_.toInt := l_xq5_
    have g_xq5_ : xq5_.toInt ≤ 1 := g_xq5_
    refine jif_eq (tgt := 18) hx hb dX1_whyNot_13 (by decide) (fun cq6_ => ?_) (fun cq6_ => ?_)
    · skip
      have cq6_ : xq5_.toInt = 0 := cq6_
      refine lv_aload_n hx hb dX1_whyNot_18 rfl (lv_at hl 0 rfl) ?_
      refine lv_iload_n hx hb dX1_whyNot_19 rfl (lv_at hl 1 rfl) ?_
      refine goI hK hH (runV (As := [.int pt]) (rest := []) hC hK hH (c_X1_signed ht_h) mlX1_121 (rcvT hK hH ht_h rfl rfl) ⟨⟨Nat.le_of_ble_eq_true rfl, Nat.le_of_ble_eq_true rfl⟩, Nat.le_of_ble_eq_true rfl, Nat.le_of_ble_eq_true rfl⟩ rfl hl.1 rfl (Nat.le_of_ble_eq_true rfl) dX1_whyNot_20) (fun rq9_ Mq7_ Tq8_ Hq_ lcq_ hP hz hH => ?_)
      try dsimp only at hP
      obtain ⟨(⟨l_rq9_, g_rq9_⟩), eT, eM⟩ := hP
      have eT := eT.symm; subst eT
      have eM := eM.symm; subst eM
      refine jif_ne (tgt := 28) hx hb dX1_whyNot_23 (by decide) (fun cq10_ => ?_) (fun cq10_ => ?_)
      · skip
        have cq10_ : rq9_.toInt ≠ 0 := cq10_
        refine lv_iload_n hx hb dX1_whyNot_28 rfl (lv_at hl 1 rfl) ?_
        refine lv_aload_n hx hb dX1_whyNot_29 rfl (lv_at hl 0 rfl) ?_
        refine goI hK hH (runV (As := []) (rest := [.int pt]) hC hK hH (c_X1_rank ht_h) mlX1_162 (rcvT hK hH ht_h rfl rfl) ⟨⟨Nat.le_of_ble_eq_true rfl, Nat.le_of_ble_eq_true rfl⟩, Nat.le_of_ble_eq_true rfl, Nat.le_of_ble_eq_true rfl⟩ rfl hl.1 rfl (Nat.le_of_ble_eq_true rfl) dX1_whyNot_30) (fun rq13_ Mq11_ Tq12_ Hq_ lcq_ hP hz hH => ?_)
        try dsimp only at hP
        obtain ⟨(⟨l_rq13_, g_rq13_⟩), eT, eM⟩ := hP
        have eT := eT.symm; subst eT
        have eM := eM.symm; subst eM
        refine jic_lt (tgt := 38) hx hb dX1_whyNot_33 (by decide) (fun cq14_ => ?_) (fun cq14_ => ?_)
        · skip
          have cq14_ : pt.toInt < rq13_.toInt := cq14_
          refine lv_aload_n hx hb dX1_whyNot_38 rfl (lv_at hl 0 rfl) ?_
          refine tgr hC hK hH flX1_31 ht_h rfl rfl dX1_whyNot_39 (fun qq15_ t_qq15_ => ?_)
          refine lv_iload_n hx hb dX1_whyNot_42 rfl (lv_at hl 1 rfl) ?_
          refine tild hC hK hH t_qq15_ rfl (iIn (by omega) (by omega)) dX1_whyNot_43 (fun xq16_ l_xq16_ g_xq16_ => ?_)
          refine jif_eq (tgt := 49) hx hb dX1_whyNot_44 (by decide) (fun cq17_ => ?_) (fun cq17_ => ?_)
          · skip
            have cq17_ : xq16_.toInt = 0 := cq17_
            refine lv_aload_n hx hb dX1_whyNot_49 rfl (lv_at hl 0 rfl) ?_
            refine lv_iload_n hx hb dX1_whyNot_50 rfl (lv_at hl 1 rfl) ?_
            refine lv_iconst (v := 2) hx hb dX1_whyNot_51 (by decide) ?_
            refine lv_isub hx hb dX1_whyNot_52 ?_
            refine lv_topi (fun zq18_ e_zq18_ => ?_)
            have h_zq18_ : zq18_.toInt = pt.toInt - 2 := by rw [e_zq18_, iSub (by have := iRg pt; have : (2 : Int32).toInt = 2 := rfl; omega) (by have := iRg pt; have : (2 : Int32).toInt = 2 := rfl; omega)]; rfl
            refine goI hK hH (runV (As := [.int zq18_]) (rest := []) hC hK hH (c_X1_hasStep ht_h) mlX1_96 (rcvT hK hH ht_h rfl rfl) ⟨⟨Nat.le_of_ble_eq_true rfl, Nat.le_of_ble_eq_true rfl⟩, Nat.le_of_ble_eq_true rfl, Nat.le_of_ble_eq_true rfl⟩ rfl hl.1 rfl (Nat.le_of_ble_eq_true rfl) dX1_whyNot_53) (fun rq21_ Mq19_ Tq20_ Hq_ lcq_ hP hz hH => ?_)
            try dsimp only at hP
            obtain ⟨(⟨cq22_, er_rq21_⟩ | er_rq21_), eT, eM⟩ := hP
            · skip
              have eT := eT.symm; subst eT
              have er_rq21_ := er_rq21_.symm; subst er_rq21_
              have eM := eM.symm; subst eM
              have cq22_ : 0 ≤ zq18_.toInt ∧ zq18_.toInt ≤ 11 := cq22_
              refine jif_eq (tgt := 76) hx hb dX1_whyNot_56 (by decide) (fun cq23_ => absurd cq23_ (by decide)) (fun cq23_ => ?_)
              refine lv_aload_n hx hb dX1_whyNot_59 rfl (lv_at hl 0 rfl) ?_
              refine tgr hC hK hH flX1_11 ht_h rfl rfl dX1_whyNot_60 (fun qq24_ t_qq24_ => ?_)
              refine lv_iload_n hx hb dX1_whyNot_63 rfl (lv_at hl 1 rfl) ?_
              refine lv_iconst (v := 2) hx hb dX1_whyNot_64 (by decide) ?_
              refine lv_isub hx hb dX1_whyNot_65 ?_
              refine lv_cst (v := zq18_) e_zq18_.symm ?_
              refine tqld hC hK hH t_qq24_ rfl rfl (iIn (by omega) (by omega)) dX1_whyNot_66 (fun qq25_ t_qq25_ => ?_)
              refine tg hC hK hH flX1_138 t_qq25_ rfl rfl dX1_whyNot_67 (fun xq26_ l_xq26_ g_xq26_ => ?_)
              have l_xq26_ : (0 : Int) ≤ xq26_.toInt := l_xq26_
              have g_xq26_ : xq26_.toInt ≤ 1 := g_xq26_
              refine jif_eq (tgt := 76) hx hb dX1_whyNot_70 (by decide) (fun cq27_ => ?_) (fun cq27_ => ?_)
              · skip
                have cq27_ : xq26_.toInt = 0 := cq27_
                refine lv_iload_n hx hb dX1_whyNot_76 rfl (lv_at hl 1 rfl) ?_
                refine jif_ne (tgt := 91) hx hb dX1_whyNot_77 (by decide) (fun cq28_ => ?_) (fun cq28_ => absurd cq28_ (by have := iRg pt; have : (0 : Int32).toInt = 0 := rfl; omega))
                have cq28_ : pt.toInt ≠ 0 := cq28_
                refine lv_aload_n hx hb dX1_whyNot_91 rfl (lv_at hl 0 rfl) ?_
                refine tg hC hK hH flX1_58 ht_h rfl rfl dX1_whyNot_92 (fun xq29_ l_xq29_ g_xq29_ => ?_)
                refine lv_iconst (v := -1) hx hb dX1_whyNot_95 (by decide) ?_
                refine jic_ne (tgt := 102) hx hb dX1_whyNot_96 (by decide) (fun cq30_ => ?_) (fun cq30_ => ?_)
                · skip
                  have cq30_ : xq29_.toInt ≠ (-1) := cq30_
                  refine lv_iload_n hx hb dX1_whyNot_102 rfl (lv_at hl 1 rfl) ?_
                  refine jif_eq (tgt := 119) hx hb dX1_whyNot_103 (by decide) (fun cq31_ => absurd cq31_ (by have := iRg pt; have : (0 : Int32).toInt = 0 := rfl; omega)) (fun cq31_ => ?_)
                  have cq31_ : pt.toInt ≠ 0 := cq31_
                  refine lv_aload_n hx hb dX1_whyNot_106 rfl (lv_at hl 0 rfl) ?_
                  refine tgr hC hK hH flX1_27 ht_h rfl rfl dX1_whyNot_107 (fun qq32_ t_qq32_ => ?_)
                  refine lv_iload_n hx hb dX1_whyNot_110 rfl (lv_at hl 1 rfl) ?_
                  refine tild hC hK hH t_qq32_ rfl (iIn (by omega) (by omega)) dX1_whyNot_111 (fun xq33_ l_xq33_ g_xq33_ => ?_)
                  refine lv_iconst (v := -1) hx hb dX1_whyNot_112 (by decide) ?_
                  refine jic_ne (tgt := 119) hx hb dX1_whyNot_113 (by decide) (fun cq34_ => ?_) (fun cq34_ => ?_)
                  · skip
                    have cq34_ : xq33_.toInt ≠ (-1) := cq34_
                    refine lv_aload_n hx hb dX1_whyNot_119 rfl (lv_at hl 0 rfl) ?_
                    refine lv_iload_n hx hb dX1_whyNot_120 rfl (lv_at hl 1 rfl) ?_
                    refine goI hK hH (runV (As := [.int pt]) (rest := []) hC hK hH (c_X1_defenceOf ht_h (by omega)) mlX1_165 (rcvT hK hH ht_h rfl rfl) ⟨⟨Nat.le_of_ble_eq_true rfl, Nat.le_of_ble_eq_true rfl⟩, Nat.le_of_ble_eq_true rfl, Nat.le_of_ble_eq_true rfl⟩ rfl hl.1 rfl (Nat.le_of_ble_eq_true rfl) dX1_whyNot_121) (fun rq37_ Mq35_ Tq36_ Hq_ lcq_ hP hz hH => ?_)
                    try dsimp only at hP
                    obtain ⟨(-), eT, eM⟩ := hP
                    have eT := eT.symm; subst eT
                    have eM := eM.symm; subst eM
                    refine jif_ne (tgt := 131) hx hb dX1_whyNot_124 (by decide) (fun cq38_ => ?_) (fun cq38_ => ?_)
                    · skip
                      have cq38_ : rq37_.toInt ≠ 0 := cq38_
                      refine lv_bipush (v := 9) hx hb dX1_whyNot_131 (by decide) ?_
                      subst e_zq18_
                      exact ret_i hC hr hlk hK hH (⟨trivial, rfl, rfl⟩) (Nat.le_of_ble_eq_true rfl) (Nat.le_of_ble_eq_true rfl) dX1_whyNot_133
                    · skip
                      have cq38_ : rq37_.toInt = 0 := cq38_
                      refine lv_iconst (v := 0) hx hb dX1_whyNot_127 (by decide) ?_
                      refine lv_goto (tgt := 133) hx hb dX1_whyNot_128 (by decide) ?_
                      subst e_zq18_
                      exact ret_i hC hr hlk hK hH (⟨trivial, rfl, rfl⟩) (Nat.le_of_ble_eq_true rfl) (Nat.le_of_ble_eq_true rfl) dX1_whyNot_133
                  · skip
                    have cq34_ : xq33_.toInt = (-1) := cq34_
                    refine lv_bipush (v := 8) hx hb dX1_whyNot_116 (by decide) ?_
                    subst e_zq18_
                    exact ret_i hC hr hlk hK hH (⟨trivial, rfl, rfl⟩) (Nat.le_of_ble_eq_true rfl) (Nat.le_of_ble_eq_true rfl) dX1_whyNot_118
                · skip
                  have cq30_ : xq29_.toInt = (-1) := cq30_
                  refine lv_bipush (v := 7) hx hb dX1_whyNot_99 (by decide) ?_
                  subst e_zq18_
                  exact ret_i hC hr hlk hK hH (⟨trivial, rfl, rfl⟩) (Nat.le_of_ble_eq_true rfl) (Nat.le_of_ble_eq_true rfl) dX1_whyNot_101
              · skip
                have cq27_ : xq26_.toInt ≠ 0 := cq27_
                refine lv_bipush (v := 6) hx hb dX1_whyNot_73 (by decide) ?_
                subst e_zq18_
                exact ret_i hC hr hlk hK hH (⟨trivial, rfl, rfl⟩) (Nat.le_of_ble_eq_true rfl) (Nat.le_of_ble_eq_true rfl) dX1_whyNot_75
            · skip
              have eT := eT.symm; subst eT
              have er_rq21_ := er_rq21_.symm; subst er_rq21_
              have eM := eM.symm; subst eM
              refine jif_eq (tgt := 76) hx hb dX1_whyNot_56 (by decide) (fun cq39_ => ?_) (fun cq39_ => absurd cq39_ (by decide))
              refine lv_iload_n hx hb dX1_whyNot_76 rfl (lv_at hl 1 rfl) ?_
              refine jif_ne (tgt := 91) hx hb dX1_whyNot_77 (by decide) (fun cq40_ => ?_) (fun cq40_ => ?_)
              · skip
                have cq40_ : pt.toInt ≠ 0 := cq40_
                refine lv_aload_n hx hb dX1_whyNot_91 rfl (lv_at hl 0 rfl) ?_
                refine tg hC hK hH flX1_58 ht_h rfl rfl dX1_whyNot_92 (fun xq41_ l_xq41_ g_xq41_ => ?_)
                refine lv_iconst (v := -1) hx hb dX1_whyNot_95 (by decide) ?_
                refine jic_ne (tgt := 102) hx hb dX1_whyNot_96 (by decide) (fun cq42_ => ?_) (fun cq42_ => ?_)
                · skip
                  have cq42_ : xq41_.toInt ≠ (-1) := cq42_
                  refine lv_iload_n hx hb dX1_whyNot_102 rfl (lv_at hl 1 rfl) ?_
                  refine jif_eq (tgt := 119) hx hb dX1_whyNot_103 (by decide) (fun cq43_ => absurd cq43_ (by have := iRg pt; have : (0 : Int32).toInt = 0 := rfl; omega)) (fun cq43_ => ?_)
                  have cq43_ : pt.toInt ≠ 0 := cq43_
                  refine lv_aload_n hx hb dX1_whyNot_106 rfl (lv_at hl 0 rfl) ?_
                  refine tgr hC hK hH flX1_27 ht_h rfl rfl dX1_whyNot_107 (fun qq44_ t_qq44_ => ?_)
                  refine lv_iload_n hx hb dX1_whyNot_110 rfl (lv_at hl 1 rfl) ?_
                  refine tild hC hK hH t_qq44_ rfl (iIn (by omega) (by omega)) dX1_whyNot_111 (fun xq45_ l_xq45_ g_xq45_ => ?_)
                  refine lv_iconst (v := -1) hx hb dX1_whyNot_112 (by decide) ?_
                  refine jic_ne (tgt := 119) hx hb dX1_whyNot_113 (by decide) (fun cq46_ => ?_) (fun cq46_ => ?_)
                  · skip
                    have cq46_ : xq45_.toInt ≠ (-1) := cq46_
                    refine lv_aload_n hx hb dX1_whyNot_119 rfl (lv_at hl 0 rfl) ?_
                    refine lv_iload_n hx hb dX1_whyNot_120 rfl (lv_at hl 1 rfl) ?_
                    refine goI hK hH (runV (As := [.int pt]) (rest := []) hC hK hH (c_X1_defenceOf ht_h (by omega)) mlX1_165 (rcvT hK hH ht_h rfl rfl) ⟨⟨Nat.le_of_ble_eq_true rfl, Nat.le_of_ble_eq_true rfl⟩, Nat.le_of_ble_eq_true rfl, Nat.le_of_ble_eq_true rfl⟩ rfl hl.1 rfl (Nat.le_of_ble_eq_true rfl) dX1_whyNot_121) (fun rq49_ Mq47_ Tq48_ Hq_ lcq_ hP hz hH => ?_)
                    try dsimp only at hP
                    obtain ⟨(-), eT, eM⟩ := hP
                    have eT := eT.symm; subst eT
                    have eM := eM.symm; subst eM
                    refine jif_ne (tgt := 131) hx hb dX1_whyNot_124 (by decide) (fun cq50_ => ?_) (fun cq50_ => ?_)
                    · skip
                      have cq50_ : rq49_.toInt ≠ 0 := cq50_
                      refine lv_bipush (v := 9) hx hb dX1_whyNot_131 (by decide) ?_
                      subst e_zq18_
                      exact ret_i hC hr hlk hK hH (⟨trivial, rfl, rfl⟩) (Nat.le_of_ble_eq_true rfl) (Nat.le_of_ble_eq_true rfl) dX1_whyNot_133
                    · skip
                      have cq50_ : rq49_.toInt = 0 := cq50_
                      refine lv_iconst (v := 0) hx hb dX1_whyNot_127 (by decide) ?_
                      refine lv_goto (tgt := 133) hx hb dX1_whyNot_128 (by decide) ?_
                      subst e_zq18_
                      exact ret_i hC hr hlk hK hH (⟨trivial, rfl, rfl⟩) (Nat.le_of_ble_eq_true rfl) (Nat.le_of_ble_eq_true rfl) dX1_whyNot_133
                  · skip
                    have cq46_ : xq45_.toInt = (-1) := cq46_
                    refine lv_bipush (v := 8) hx hb dX1_whyNot_116 (by decide) ?_
                    subst e_zq18_
                    exact ret_i hC hr hlk hK hH (⟨trivial, rfl, rfl⟩) (Nat.le_of_ble_eq_true rfl) (Nat.le_of_ble_eq_true rfl) dX1_whyNot_118
                · skip
                  have cq42_ : xq41_.toInt = (-1) := cq42_
                  refine lv_bipush (v := 7) hx hb dX1_whyNot_99 (by decide) ?_
                  subst e_zq18_
                  exact ret_i hC hr hlk hK hH (⟨trivial, rfl, rfl⟩) (Nat.le_of_ble_eq_true rfl) (Nat.le_of_ble_eq_true rfl) dX1_whyNot_101
              · skip
                have cq40_ : pt.toInt = 0 := cq40_
                refine lv_iload_n hx hb dX1_whyNot_80 rfl (lv_at hl 2 rfl) ?_
                refine lv_aload_n hx hb dX1_whyNot_81 rfl (lv_at hl 0 rfl) ?_
                refine tg hC hK hH flX1_84 ht_h rfl rfl dX1_whyNot_82 (fun xq51_ l_xq51_ g_xq51_ => ?_)
                refine jic_ge (tgt := 102) hx hb dX1_whyNot_85 (by decide) (fun cq52_ => ?_) (fun cq52_ => ?_)
                · skip
                  have cq52_ : xq51_.toInt ≤ td.toInt := cq52_
                  refine lv_iload_n hx hb dX1_whyNot_102 rfl (lv_at hl 1 rfl) ?_
                  refine jif_eq (tgt := 119) hx hb dX1_whyNot_103 (by decide) (fun cq53_ => ?_) (fun cq53_ => absurd cq53_ (by have := iRg pt; have : (0 : Int32).toInt = 0 := rfl; omega))
                  have cq53_ : pt.toInt = 0 := cq53_
                  refine lv_aload_n hx hb dX1_whyNot_119 rfl (lv_at hl 0 rfl) ?_
                  refine lv_iload_n hx hb dX1_whyNot_120 rfl (lv_at hl 1 rfl) ?_
                  refine goI hK hH (runV (As := [.int pt]) (rest := []) hC hK hH (c_X1_defenceOf ht_h (by omega)) mlX1_165 (rcvT hK hH ht_h rfl rfl) ⟨⟨Nat.le_of_ble_eq_true rfl, Nat.le_of_ble_eq_true rfl⟩, Nat.le_of_ble_eq_true rfl, Nat.le_of_ble_eq_true rfl⟩ rfl hl.1 rfl (Nat.le_of_ble_eq_true rfl) dX1_whyNot_121) (fun rq56_ Mq54_ Tq55_ Hq_ lcq_ hP hz hH => ?_)
                  try dsimp only at hP
                  obtain ⟨(-), eT, eM⟩ := hP
                  have eT := eT.symm; subst eT
                  have eM := eM.symm; subst eM
                  refine jif_ne (tgt := 131) hx hb dX1_whyNot_124 (by decide) (fun cq57_ => ?_) (fun cq57_ => ?_)
                  · skip
                    have cq57_ : rq56_.toInt ≠ 0 := cq57_
                    refine lv_bipush (v := 9) hx hb dX1_whyNot_131 (by decide) ?_
                    subst e_zq18_
                    exact ret_i hC hr hlk hK hH (⟨trivial, rfl, rfl⟩) (Nat.le_of_ble_eq_true rfl) (Nat.le_of_ble_eq_true rfl) dX1_whyNot_133
                  · skip
                    have cq57_ : rq56_.toInt = 0 := cq57_
                    refine lv_iconst (v := 0) hx hb dX1_whyNot_127 (by decide) ?_
                    refine lv_goto (tgt := 133) hx hb dX1_whyNot_128 (by decide) ?_
                    subst e_zq18_
                    exact ret_i hC hr hlk hK hH (⟨trivial, rfl, rfl⟩) (Nat.le_of_ble_eq_true rfl) (Nat.le_of_ble_eq_true rfl) dX1_whyNot_133
                · skip
                  have cq52_ : td.toInt < xq51_.toInt := cq52_
                  refine lv_goto (tgt := 99) hx hb dX1_whyNot_88 (by decide) ?_
                  refine lv_bipush (v := 7) hx hb dX1_whyNot_99 (by decide) ?_
                  subst e_zq18_
                  exact ret_i hC hr hlk hK hH (⟨trivial, rfl, rfl⟩) (Nat.le_of_ble_eq_true rfl) (Nat.le_of_ble_eq_true rfl) dX1_whyNot_101
          · skip
            have cq17_ : xq16_.toInt ≠ 0 := cq17_
            refine lv_iconst (v := 5) hx hb dX1_whyNot_47 (by decide) ?_
            exact ret_i hC hr hlk hK hH (⟨trivial, rfl, rfl⟩) (Nat.le_of_ble_eq_true rfl) (Nat.le_of_ble_eq_true rfl) dX1_whyNot_48
        · skip
          have cq14_ : rq13_.toInt ≤ pt.toInt := cq14_
          refine lv_iconst (v := 4) hx hb dX1_whyNot_36 (by decide) ?_
          exact ret_i hC hr hlk hK hH (⟨trivial, rfl, rfl⟩) (Nat.le_of_ble_eq_true rfl) (Nat.le_of_ble_eq_true rfl) dX1_whyNot_37
      · skip
        have cq10_ : rq9_.toInt = 0 := cq10_
        refine lv_iconst (v := 3) hx hb dX1_whyNot_26 (by decide) ?_
        exact ret_i hC hr hlk hK hH (⟨trivial, rfl, rfl⟩) (Nat.le_of_ble_eq_true rfl) (Nat.le_of_ble_eq_true rfl) dX1_whyNot_27
    · skip
      have cq6_ : xq5_.toInt ≠ 0 := cq6_
      refine lv_iconst (v := 2) hx hb dX1_whyNot_16 (by decide) ?_
      exact ret_i hC hr hlk hK hH (⟨trivial, rfl, rfl⟩) (Nat.le_of_ble_eq_true rfl) (Nat.le_of_ble_eq_true rfl) dX1_whyNot_17
  · skip
    have eT := eT.symm; subst eT
    have er_rq3_ := er_rq3_.symm; subst er_rq3_
    have eM := eM.symm; subst eM
    refine jif_ne (tgt := 9) hx hb dX1_whyNot_4 (by decide) (fun cq58_ => absurd cq58_ (by decide)) (fun cq58_ => ?_)
    refine lv_iconst (v := 1) hx hb dX1_whyNot_7 (by decide) ?_
    exact ret_i hC hr hlk hK hH (⟨trivial, rfl, rfl⟩) (Nat.le_of_ble_eq_true rfl) (Nat.le_of_ble_eq_true rfl) dX1_whyNot_8
set_option maxHeartbeats 4000000 in
set_option maxRecDepth 100000 in
theorem c_X1_free {l : Launch} {D : va_G} {kA : Nat → ClassId} {M : mM} {T : mT} {sz : Nat} {h : Nat} {pt ca : Int32} (ht_h : T h = some 2) (h_pt : 0 ≤ pt.toInt ∧ pt.toInt ≤ 13) : mCv l yX1_free cX1_free 4 1 0 0 D kA M T sz [.ref h, .int pt, .int ca] (fun u => (True) ∧ u.2 = T ∧ (∀ q, FrK T q → u.1 q = M q)) := by
  unfold mCv
  refine start_W (by decide) (Nat.le_of_ble_eq_true rfl) ?_
  intro p e s m below meth c ls hC hr hlk hnm hK hH hsz hl
  have hx := hC.1
  have hb := hC.2.1
  have hl : lv_has ls 4 [(0, .ref h), (1, .int pt), (2, .int ca)] := hl
  have hF : ∀ q, FrK T q → M q = M q := fun q _  => rfl
  refine lv_iload_n hx hb dX1_free_0 rfl (lv_at hl 1 rfl) ?_
  refine lv_istore_n (lv' := [(3, .int pt), (0, .ref h), (1, .int pt), (2, .int ca)]) hx hb dX1_free_1 rfl hl (by decide) rfl (fun ls hl => ?_)
  have loop : ∀ (n : Nat) (iq1_ : Int32) (Hq_ : Heap) (lcq_ : List Loc) (Mq2_ : mM) (ls : Array Slot), iq1_.toInt + (n : Int) = 14 → (0 : Int) ≤ iq1_.toInt → iq1_.toInt ≤ 14 → (∀ q, FrK T q → Mq2_ q = M q) → mS D kA Mq2_ T (mA M T sz) s.heap Hq_ lcq_ → lv_has ls 4 [(3, .int iq1_), (0, .ref h), (1, .int pt), (2, .int ca)] → W p l e (rmL 1 0 0) s m ([.ref h, .int pt, .int ca] : List Value).toArray below meth c Hq_ lcq_ 0 0 (MQ below (va_Qv (fun u => (True) ∧ u.2 = T ∧ (∀ q, FrK T q → u.1 q = M q)) (mB D kA M T sz) (mA M T sz)) ([.ref h, .int pt, .int ca] : List Value).toArray s 0 0 (mA M T sz)) (F0 m 2 ls []) := by
    intro n
    induction n with
    | zero =>
      intro iq1_ Hq_ lcq_ Mq2_ ls hi_iq1_ h0_iq1_ h9_iq1_ hF hH hl
      have hi2_iq1_ : iq1_.toInt = 14 := by omega
      refine lv_iload_n hx hb dX1_free_2 rfl (lv_at hl 0 rfl) ?_
      refine lv_aload_n hx hb dX1_free_3 rfl (lv_at hl 1 rfl) ?_
      refine goI hK hH (runV (As := []) (rest := [.int iq1_]) hC hK hH (c_X1_parties ht_h) mlX1_113 (rcvT hK hH ht_h rfl rfl) ⟨⟨Nat.le_of_ble_eq_true rfl, Nat.le_of_ble_eq_true rfl⟩, Nat.le_of_ble_eq_true rfl, Nat.le_of_ble_eq_true rfl⟩ rfl hl.1 rfl (Nat.le_of_ble_eq_true rfl) dX1_free_4) (fun rq5_ Mq3_ Tq4_ Hq_ lcq_ hP hz hH => ?_)
      try dsimp only at hP
      obtain ⟨(⟨l_rq5_, g_rq5_⟩), eT, eM⟩ := hP
      have eT := eT.symm; subst eT
      have eM := eM.symm; subst eM
      refine jic_ge (tgt := 39) hx hb dX1_free_7 (by decide) (fun cq6_ => ?_) (fun cq6_ => absurd cq6_ (by have := iRg iq1_; have := iRg rq5_; omega))
      have cq6_ : rq5_.toInt ≤ iq1_.toInt := cq6_
      exact ret_v hC hr hlk hK hH (⟨trivial, rfl, hF⟩) (Nat.le_of_ble_eq_true rfl) (Nat.le_of_ble_eq_true rfl) dX1_free_39
    | succ n ih =>
      intro iq1_ Hq_ lcq_ Mq2_ ls hi_iq1_ h0_iq1_ h9_iq1_ hF hH hl
      have hi2_iq1_ : iq1_.toInt ≤ 13 := by omega
      refine lv_iload_n hx hb dX1_free_2 rfl (lv_at hl 0 rfl) ?_
      refine lv_aload_n hx hb dX1_free_3 rfl (lv_at hl 1 rfl) ?_
      refine goI hK hH (runV (As := []) (rest := [.int iq1_]) hC hK hH (c_X1_parties ht_h) mlX1_113 (rcvT hK hH ht_h rfl rfl) ⟨⟨Nat.le_of_ble_eq_true rfl, Nat.le_of_ble_eq_true rfl⟩, Nat.le_of_ble_eq_true rfl, Nat.le_of_ble_eq_true rfl⟩ rfl hl.1 rfl (Nat.le_of_ble_eq_true rfl) dX1_free_4) (fun rq9_ Mq7_ Tq8_ Hq_ lcq_ hP hz hH => ?_)
      try dsimp only at hP
      obtain ⟨(⟨l_rq9_, g_rq9_⟩), eT, eM⟩ := hP
      have eT := eT.symm; subst eT
      have eM := eM.symm; subst eM
      refine jic_ge (tgt := 39) hx hb dX1_free_7 (by decide) (fun cq10_ => ?_) (fun cq10_ => ?_)
      · skip
        have cq10_ : rq9_.toInt ≤ iq1_.toInt := cq10_
        exact ret_v hC hr hlk hK hH (⟨trivial, rfl, hF⟩) (Nat.le_of_ble_eq_true rfl) (Nat.le_of_ble_eq_true rfl) dX1_free_39
      · skip
        have cq10_ : iq1_.toInt < rq9_.toInt := cq10_
        refine lv_aload_n hx hb dX1_free_10 rfl (lv_at hl 1 rfl) ?_
        refine tgr hC hK hH flX1_31 ht_h rfl rfl dX1_free_11 (fun qq11_ t_qq11_ => ?_)
        refine lv_iload_n hx hb dX1_free_14 rfl (lv_at hl 0 rfl) ?_
        refine tild hC hK hH t_qq11_ rfl (iIn (by omega) (by omega)) dX1_free_15 (fun xq12_ l_xq12_ g_xq12_ => ?_)
        refine jif_ne (tgt := 33) hx hb dX1_free_16 (by decide) (fun cq13_ => ?_) (fun cq13_ => ?_)
        · skip
          have cq13_ : xq12_.toInt ≠ 0 := cq13_
          obtain ⟨zq14_, e_zq14_⟩ : ∃ y : Int32, y = iq1_ + 1 := ⟨_, rfl⟩
          refine lv_iinc (v := zq14_) (lv' := [(3, .int zq14_), (0, .ref h), (1, .int pt), (2, .int ca)]) hx hb dX1_free_33 hl (k := 0) rfl (by rw [e_zq14_]; rfl) (by decide) rfl (fun ls hl => ?_)
          have h_zq14_ : zq14_.toInt = iq1_.toInt + 1 := by rw [e_zq14_, iAdd (by have : (1 : Int32).toInt = 1 := rfl; omega) (by have : (1 : Int32).toInt = 1 := rfl; omega)]; rfl
          refine lv_goto (tgt := 2) hx hb dX1_free_36 (by decide) ?_
          exact ih zq14_ _ _ _ ls (by omega) (by omega) (by omega) hF hH (lv_sub hl [0, 1, 2, 3] rfl)
        · skip
          have cq13_ : xq12_.toInt = 0 := cq13_
          refine lv_aload_n hx hb dX1_free_19 rfl (lv_at hl 1 rfl) ?_
          refine tgr hC hK hH flX1_31 ht_h rfl rfl dX1_free_20 (fun qq15_ t_qq15_ => ?_)
          refine lv_iload_n hx hb dX1_free_23 rfl (lv_at hl 0 rfl) ?_
          refine lv_iload_n hx hb dX1_free_24 rfl (lv_at hl 3 rfl) ?_
          refine tist (x := ca) hC hK hH t_qq15_ rfl (iIn (by omega) (by omega)) (iRg _).1 (iRg _).2 dX1_free_25 (fun Hq_ lcq_ Mq16_ _ hfr hH => ?_)
          have hF : ∀ q, FrK T q → Mq16_ q = M q := fun q hq  => (hfr q (neF hq t_qq15_ (by decide))).trans (hF q hq )
          refine lv_aload_n hx hb dX1_free_26 rfl (lv_at hl 1 rfl) ?_
          refine tgr hC hK hH flX1_34 ht_h rfl rfl dX1_free_27 (fun qq17_ t_qq17_ => ?_)
          refine lv_iload_n hx hb dX1_free_30 rfl (lv_at hl 0 rfl) ?_
          refine lv_iload_n hx hb dX1_free_31 rfl (lv_at hl 2 rfl) ?_
          refine tist (x := pt) hC hK hH t_qq17_ rfl (iIn (by omega) (by omega)) (iRg _).1 (iRg _).2 dX1_free_32 (fun Hq_ lcq_ Mq18_ _ hfr hH => ?_)
          have hF : ∀ q, FrK T q → Mq18_ q = M q := fun q hq  => (hfr q (neF hq t_qq17_ (by decide))).trans (hF q hq )
          obtain ⟨zq19_, e_zq19_⟩ : ∃ y : Int32, y = iq1_ + 1 := ⟨_, rfl⟩
          refine lv_iinc (v := zq19_) (lv' := [(3, .int zq19_), (0, .ref h), (1, .int pt), (2, .int ca)]) hx hb dX1_free_33 hl (k := 0) rfl (by rw [e_zq19_]; rfl) (by decide) rfl (fun ls hl => ?_)
          have h_zq19_ : zq19_.toInt = iq1_.toInt + 1 := by rw [e_zq19_, iAdd (by have : (1 : Int32).toInt = 1 := rfl; omega) (by have : (1 : Int32).toInt = 1 := rfl; omega)]; rfl
          refine lv_goto (tgt := 2) hx hb dX1_free_36 (by decide) ?_
          exact ih zq19_ _ _ _ ls (by omega) (by omega) (by omega) hF hH (lv_sub hl [0, 1, 2, 3] rfl)
  exact loop (Int.toNat (14 - pt.toInt)) pt _ _ _ ls (by have := iRg pt; omega) (by have := iRg pt; omega) (by have := iRg pt; omega) hF hH hl
set_option maxHeartbeats 4000000 in
set_option maxRecDepth 100000 in
theorem c_X1_lastDayToTell {l : Launch} {D : va_G} {kA : Nat → ClassId} {M : mM} {T : mT} {sz : Nat} {h : Nat} {pt gr : Int32} (ht_h : T h = some 2) (h_pt : 0 ≤ pt.toInt ∧ pt.toInt ≤ 13) : mCi l yX1_lastDayToTell cX1_lastDayToTell 5 (some .int) 3 0 0 D kA M T sz [.ref h, .int pt, .int gr] (fun r u => (True) ∧ u.2 = T ∧ u.1 = M) := by
  unfold mCi
  refine start_W (by decide) (Nat.le_of_ble_eq_true rfl) ?_
  intro p e s m below meth c ls hC hr hlk hnm hK hH hsz hl
  have hx := hC.1
  have hb := hC.2.1
  have hl : lv_has ls 5 [(0, .ref h), (1, .int pt), (2, .int gr)] := hl
  refine lv_iload_n hx hb dX1_lastDayToTell_0 rfl (lv_at hl 1 rfl) ?_
  refine jif_eq (tgt := 30) hx hb dX1_lastDayToTell_1 (by decide) (fun cq1_ => ?_) (fun cq1_ => ?_)
  · skip
    have cq1_ : pt.toInt = 0 := cq1_
    refine lv_iconst (v := -1) hx hb dX1_lastDayToTell_30 (by decide) ?_
    exact ret_i hC hr hlk hK hH (⟨trivial, rfl, rfl⟩) (Nat.le_of_ble_eq_true rfl) (Nat.le_of_ble_eq_true rfl) dX1_lastDayToTell_31
  · skip
    have cq1_ : pt.toInt ≠ 0 := cq1_
    refine lv_aload_n hx hb dX1_lastDayToTell_4 rfl (lv_at hl 0 rfl) ?_
    refine tg hC hK hH flX1_58 ht_h rfl rfl dX1_lastDayToTell_5 (fun xq2_ l_xq2_ g_xq2_ => ?_)
    refine lv_iconst (v := -1) hx hb dX1_lastDayToTell_8 (by decide) ?_
    refine jic_eq (tgt := 30) hx hb dX1_lastDayToTell_9 (by decide) (fun cq3_ => ?_) (fun cq3_ => ?_)
    · skip
      have cq3_ : xq2_.toInt = (-1) := cq3_
      refine lv_iconst (v := -1) hx hb dX1_lastDayToTell_30 (by decide) ?_
      exact ret_i hC hr hlk hK hH (⟨trivial, rfl, rfl⟩) (Nat.le_of_ble_eq_true rfl) (Nat.le_of_ble_eq_true rfl) dX1_lastDayToTell_31
    · skip
      have cq3_ : xq2_.toInt ≠ (-1) := cq3_
      refine lv_aload_n hx hb dX1_lastDayToTell_12 rfl (lv_at hl 0 rfl) ?_
      refine tgr hC hK hH flX1_27 ht_h rfl rfl dX1_lastDayToTell_13 (fun qq4_ t_qq4_ => ?_)
      refine lv_iload_n hx hb dX1_lastDayToTell_16 rfl (lv_at hl 1 rfl) ?_
      refine tild hC hK hH t_qq4_ rfl (iIn (by omega) (by omega)) dX1_lastDayToTell_17 (fun xq5_ l_xq5_ g_xq5_ => ?_)
      refine lv_iconst (v := -1) hx hb dX1_lastDayToTell_18 (by decide) ?_
      refine jic_ne (tgt := 30) hx hb dX1_lastDayToTell_19 (by decide) (fun cq6_ => ?_) (fun cq6_ => ?_)
      · skip
        have cq6_ : xq5_.toInt ≠ (-1) := cq6_
        refine lv_iconst (v := -1) hx hb dX1_lastDayToTell_30 (by decide) ?_
        exact ret_i hC hr hlk hK hH (⟨trivial, rfl, rfl⟩) (Nat.le_of_ble_eq_true rfl) (Nat.le_of_ble_eq_true rfl) dX1_lastDayToTell_31
      · skip
        have cq6_ : xq5_.toInt = (-1) := cq6_
        refine lv_aload_n hx hb dX1_lastDayToTell_22 rfl (lv_at hl 0 rfl) ?_
        refine lv_iload_n hx hb dX1_lastDayToTell_23 rfl (lv_at hl 1 rfl) ?_
        refine goI hK hH (runV (As := [.int pt]) (rest := []) hC hK hH (c_X1_signed ht_h) mlX1_121 (rcvT hK hH ht_h rfl rfl) ⟨⟨Nat.le_of_ble_eq_true rfl, Nat.le_of_ble_eq_true rfl⟩, Nat.le_of_ble_eq_true rfl, Nat.le_of_ble_eq_true rfl⟩ rfl hl.1 rfl (Nat.le_of_ble_eq_true rfl) dX1_lastDayToTell_24) (fun rq9_ Mq7_ Tq8_ Hq_ lcq_ hP hz hH => ?_)
        try dsimp only at hP
        obtain ⟨(⟨l_rq9_, g_rq9_⟩), eT, eM⟩ := hP
        have eT := eT.symm; subst eT
        have eM := eM.symm; subst eM
        refine jif_ne (tgt := 32) hx hb dX1_lastDayToTell_27 (by decide) (fun cq10_ => ?_) (fun cq10_ => ?_)
        · skip
          have cq10_ : rq9_.toInt ≠ 0 := cq10_
          refine lv_aload_n hx hb dX1_lastDayToTell_32 rfl (lv_at hl 0 rfl) ?_
          refine goI hK hH (runV (As := []) (rest := []) hC hK hH (c_X1_hasTitle ht_h) mlX1_159 (rcvT hK hH ht_h rfl rfl) ⟨⟨Nat.le_of_ble_eq_true rfl, Nat.le_of_ble_eq_true rfl⟩, Nat.le_of_ble_eq_true rfl, Nat.le_of_ble_eq_true rfl⟩ rfl hl.1 rfl (Nat.le_of_ble_eq_true rfl) dX1_lastDayToTell_33) (fun rq13_ Mq11_ Tq12_ Hq_ lcq_ hP hz hH => ?_)
          try dsimp only at hP
          obtain ⟨(er_rq13_ | er_rq13_), eT, eM⟩ := hP
          · skip
            have eT := eT.symm; subst eT
            have er_rq13_ := er_rq13_.symm; subst er_rq13_
            have eM := eM.symm; subst eM
            refine jif_eq (tgt := 56) hx hb dX1_lastDayToTell_36 (by decide) (fun cq14_ => absurd cq14_ (by decide)) (fun cq14_ => ?_)
            refine lv_iload_n hx hb dX1_lastDayToTell_39 rfl (lv_at hl 1 rfl) ?_
            refine lv_aload_n hx hb dX1_lastDayToTell_40 rfl (lv_at hl 0 rfl) ?_
            refine goI hK hH (runV (As := []) (rest := [.int pt]) hC hK hH (c_X1_rank ht_h) mlX1_162 (rcvT hK hH ht_h rfl rfl) ⟨⟨Nat.le_of_ble_eq_true rfl, Nat.le_of_ble_eq_true rfl⟩, Nat.le_of_ble_eq_true rfl, Nat.le_of_ble_eq_true rfl⟩ rfl hl.1 rfl (Nat.le_of_ble_eq_true rfl) dX1_lastDayToTell_41) (fun rq17_ Mq15_ Tq16_ Hq_ lcq_ hP hz hH => ?_)
            try dsimp only at hP
            obtain ⟨(⟨l_rq17_, g_rq17_⟩), eT, eM⟩ := hP
            have eT := eT.symm; subst eT
            have eM := eM.symm; subst eM
            refine jic_ge (tgt := 56) hx hb dX1_lastDayToTell_44 (by decide) (fun cq18_ => ?_) (fun cq18_ => ?_)
            · skip
              have cq18_ : rq17_.toInt ≤ pt.toInt := cq18_
              refine lv_iconst (v := -1) hx hb dX1_lastDayToTell_56 (by decide) ?_
              refine lv_istore_n (lv' := [(3, .int (-1)), (0, .ref h), (1, .int pt), (2, .int gr)]) hx hb dX1_lastDayToTell_57 rfl hl (by decide) rfl (fun ls hl => ?_)
              refine lv_iload_n hx hb dX1_lastDayToTell_58 rfl (lv_at hl 2 rfl) ?_
              refine lv_iconst (v := 1) hx hb dX1_lastDayToTell_59 (by decide) ?_
              refine lv_iadd hx hb dX1_lastDayToTell_60 ?_
              refine lv_topi (fun zq19_ e_zq19_ => ?_)
              have h_zq19_ : zq19_.toInt = pt.toInt + 1 := by rw [e_zq19_, iAdd (by have := iRg pt; have : (1 : Int32).toInt = 1 := rfl; omega) (by have := iRg pt; have : (1 : Int32).toInt = 1 := rfl; omega)]; rfl
              refine lv_istore (lv' := [(4, .int zq19_), (3, .int (-1)), (0, .ref h), (1, .int pt), (2, .int gr)]) hx hb dX1_lastDayToTell_61 hl (by decide) rfl (fun ls hl => ?_)
              have loop : ∀ (n : Nat) (iq20_ : Int32) (yq21_ : Int32) (Hq_ : Heap) (lcq_ : List Loc) (ls : Array Slot), iq20_.toInt + (n : Int) = 14 → (2 : Int) ≤ iq20_.toInt → iq20_.toInt ≤ 14 → mS D kA M T (mA M T sz) s.heap Hq_ lcq_ → lv_has ls 5 [(4, .int iq20_), (3, .int yq21_), (0, .ref h), (1, .int pt), (2, .int gr)] → W p l e (rmL 3 0 0) s m ([.ref h, .int pt, .int gr] : List Value).toArray below meth c Hq_ lcq_ 0 0 (MQ below (va_Qi (fun r u => (True) ∧ u.2 = T ∧ u.1 = M) (mB D kA M T sz) (mA M T sz)) ([.ref h, .int pt, .int gr] : List Value).toArray s 0 0 (mA M T sz)) (F0 m 63 ls []) := by
                intro n
                induction n with
                | zero =>
                  intro iq20_ yq21_ Hq_ lcq_ ls hi_iq20_ h0_iq20_ h9_iq20_ hH hl
                  have hi2_iq20_ : iq20_.toInt = 14 := by omega
                  refine lv_iload hx hb dX1_lastDayToTell_63 (lv_at hl 0 rfl) ?_
                  refine lv_aload_n hx hb dX1_lastDayToTell_65 rfl (lv_at hl 2 rfl) ?_
                  refine goI hK hH (runV (As := []) (rest := [.int iq20_]) hC hK hH (c_X1_parties ht_h) mlX1_113 (rcvT hK hH ht_h rfl rfl) ⟨⟨Nat.le_of_ble_eq_true rfl, Nat.le_of_ble_eq_true rfl⟩, Nat.le_of_ble_eq_true rfl, Nat.le_of_ble_eq_true rfl⟩ rfl hl.1 rfl (Nat.le_of_ble_eq_true rfl) dX1_lastDayToTell_66) (fun rq24_ Mq22_ Tq23_ Hq_ lcq_ hP hz hH => ?_)
                  try dsimp only at hP
                  obtain ⟨(⟨l_rq24_, g_rq24_⟩), eT, eM⟩ := hP
                  have eT := eT.symm; subst eT
                  have eM := eM.symm; subst eM
                  refine jic_ge (tgt := 103) hx hb dX1_lastDayToTell_69 (by decide) (fun cq25_ => ?_) (fun cq25_ => absurd cq25_ (by have := iRg iq20_; have := iRg rq24_; omega))
                  have cq25_ : rq24_.toInt ≤ iq20_.toInt := cq25_
                  refine lv_iload_n hx hb dX1_lastDayToTell_103 rfl (lv_at hl 1 rfl) ?_
                  subst e_zq19_
                  exact ret_i hC hr hlk hK hH (⟨trivial, rfl, rfl⟩) (Nat.le_of_ble_eq_true rfl) (Nat.le_of_ble_eq_true rfl) dX1_lastDayToTell_104
                | succ n ih =>
                  intro iq20_ yq21_ Hq_ lcq_ ls hi_iq20_ h0_iq20_ h9_iq20_ hH hl
                  have hi2_iq20_ : iq20_.toInt ≤ 13 := by omega
                  refine lv_iload hx hb dX1_lastDayToTell_63 (lv_at hl 0 rfl) ?_
                  refine lv_aload_n hx hb dX1_lastDayToTell_65 rfl (lv_at hl 2 rfl) ?_
                  refine goI hK hH (runV (As := []) (rest := [.int iq20_]) hC hK hH (c_X1_parties ht_h) mlX1_113 (rcvT hK hH ht_h rfl rfl) ⟨⟨Nat.le_of_ble_eq_true rfl, Nat.le_of_ble_eq_true rfl⟩, Nat.le_of_ble_eq_true rfl, Nat.le_of_ble_eq_true rfl⟩ rfl hl.1 rfl (Nat.le_of_ble_eq_true rfl) dX1_lastDayToTell_66) (fun rq28_ Mq26_ Tq27_ Hq_ lcq_ hP hz hH => ?_)
                  try dsimp only at hP
                  obtain ⟨(⟨l_rq28_, g_rq28_⟩), eT, eM⟩ := hP
                  have eT := eT.symm; subst eT
                  have eM := eM.symm; subst eM
                  refine jic_ge (tgt := 103) hx hb dX1_lastDayToTell_69 (by decide) (fun cq29_ => ?_) (fun cq29_ => ?_)
                  · skip
                    have cq29_ : rq28_.toInt ≤ iq20_.toInt := cq29_
                    refine lv_iload_n hx hb dX1_lastDayToTell_103 rfl (lv_at hl 1 rfl) ?_
                    subst e_zq19_
                    exact ret_i hC hr hlk hK hH (⟨trivial, rfl, rfl⟩) (Nat.le_of_ble_eq_true rfl) (Nat.le_of_ble_eq_true rfl) dX1_lastDayToTell_104
                  · skip
                    have cq29_ : iq20_.toInt < rq28_.toInt := cq29_
                    refine lv_aload_n hx hb dX1_lastDayToTell_72 rfl (lv_at hl 2 rfl) ?_
                    refine tgr hC hK hH flX1_27 ht_h rfl rfl dX1_lastDayToTell_73 (fun qq30_ t_qq30_ => ?_)
                    refine lv_iload hx hb dX1_lastDayToTell_76 (lv_at hl 0 rfl) ?_
                    refine tild hC hK hH t_qq30_ rfl (iIn (by omega) (by omega)) dX1_lastDayToTell_78 (fun xq31_ l_xq31_ g_xq31_ => ?_)
                    refine lv_iconst (v := -1) hx hb dX1_lastDayToTell_79 (by decide) ?_
                    refine jic_eq (tgt := 97) hx hb dX1_lastDayToTell_80 (by decide) (fun cq32_ => ?_) (fun cq32_ => ?_)
                    · skip
                      have cq32_ : xq31_.toInt = (-1) := cq32_
                      obtain ⟨zq33_, e_zq33_⟩ : ∃ y : Int32, y = iq20_ + 1 := ⟨_, rfl⟩
                      refine lv_iinc (v := zq33_) (lv' := [(4, .int zq33_), (3, .int yq21_), (0, .ref h), (1, .int pt), (2, .int gr)]) hx hb dX1_lastDayToTell_97 hl (k := 0) rfl (by rw [e_zq33_]; rfl) (by decide) rfl (fun ls hl => ?_)
                      have h_zq33_ : zq33_.toInt = iq20_.toInt + 1 := by rw [e_zq33_, iAdd (by have : (1 : Int32).toInt = 1 := rfl; omega) (by have : (1 : Int32).toInt = 1 := rfl; omega)]; rfl
                      refine lv_goto (tgt := 63) hx hb dX1_lastDayToTell_100 (by decide) ?_
                      exact ih zq33_ yq21_ _ _ ls (by omega) (by omega) (by omega) hH (lv_sub hl [0, 1, 2, 3, 4] rfl)
                    · skip
                      have cq32_ : xq31_.toInt ≠ (-1) := cq32_
                      refine lv_iload_n hx hb dX1_lastDayToTell_83 rfl (lv_at hl 1 rfl) ?_
                      refine lv_aload_n hx hb dX1_lastDayToTell_84 rfl (lv_at hl 2 rfl) ?_
                      refine tgr hC hK hH flX1_27 ht_h rfl rfl dX1_lastDayToTell_85 (fun qq34_ t_qq34_ => ?_)
                      refine lv_iload hx hb dX1_lastDayToTell_88 (lv_at hl 0 rfl) ?_
                      refine tild hC hK hH t_qq34_ rfl (iIn (by omega) (by omega)) dX1_lastDayToTell_90 (fun xq35_ l_xq35_ g_xq35_ => ?_)
                      refine lv_iload_n hx hb dX1_lastDayToTell_91 rfl (lv_at hl 4 rfl) ?_
                      refine lv_iadd hx hb dX1_lastDayToTell_92 ?_
                      refine lv_topi (fun zq36_ e_zq36_ => ?_)
                      refine xmax hC hl.1 mxX1_178 (Nat.le_of_ble_eq_true rfl) (Nat.le_of_ble_eq_true rfl) (Nat.le_of_ble_eq_true rfl) (Nat.le_of_ble_eq_true rfl) dX1_lastDayToTell_93 ?_
                      refine lv_topi (fun zq37_ e_zq37_ => ?_)
                      refine lv_istore_n (lv' := [(3, .int zq37_), (4, .int iq20_), (0, .ref h), (1, .int pt), (2, .int gr)]) hx hb dX1_lastDayToTell_96 rfl hl (by decide) rfl (fun ls hl => ?_)
                      obtain ⟨zq38_, e_zq38_⟩ : ∃ y : Int32, y = iq20_ + 1 := ⟨_, rfl⟩
                      refine lv_iinc (v := zq38_) (lv' := [(4, .int zq38_), (3, .int zq37_), (0, .ref h), (1, .int pt), (2, .int gr)]) hx hb dX1_lastDayToTell_97 hl (k := 1) rfl (by rw [e_zq38_]; rfl) (by decide) rfl (fun ls hl => ?_)
                      have h_zq38_ : zq38_.toInt = iq20_.toInt + 1 := by rw [e_zq38_, iAdd (by have : (1 : Int32).toInt = 1 := rfl; omega) (by have : (1 : Int32).toInt = 1 := rfl; omega)]; rfl
                      refine lv_goto (tgt := 63) hx hb dX1_lastDayToTell_100 (by decide) ?_
                      exact ih zq38_ zq37_ _ _ ls (by omega) (by omega) (by omega) hH (lv_sub hl [0, 1, 2, 3, 4] rfl)
              exact loop (Int.toNat (14 - zq19_.toInt)) zq19_ (-1) _ _ ls (by have := iRg zq19_; omega) (by have := iRg zq19_; omega) (by have := iRg zq19_; omega) hH hl
            · skip
              have cq18_ : pt.toInt < rq17_.toInt := cq18_
              refine lv_aload_n hx hb dX1_lastDayToTell_47 rfl (lv_at hl 0 rfl) ?_
              refine tg hC hK hH flX1_58 ht_h rfl rfl dX1_lastDayToTell_48 (fun xq39_ l_xq39_ g_xq39_ => ?_)
              refine lv_iload_n hx hb dX1_lastDayToTell_51 rfl (lv_at hl 2 rfl) ?_
              refine lv_iadd hx hb dX1_lastDayToTell_52 ?_
              refine lv_topi (fun zq40_ e_zq40_ => ?_)
              refine lv_goto (tgt := 57) hx hb dX1_lastDayToTell_53 (by decide) ?_
              refine lv_istore_n (lv' := [(3, .int zq40_), (0, .ref h), (1, .int pt), (2, .int gr)]) hx hb dX1_lastDayToTell_57 rfl hl (by decide) rfl (fun ls hl => ?_)
              refine lv_iload_n hx hb dX1_lastDayToTell_58 rfl (lv_at hl 2 rfl) ?_
              refine lv_iconst (v := 1) hx hb dX1_lastDayToTell_59 (by decide) ?_
              refine lv_iadd hx hb dX1_lastDayToTell_60 ?_
              refine lv_topi (fun zq41_ e_zq41_ => ?_)
              have h_zq41_ : zq41_.toInt = pt.toInt + 1 := by rw [e_zq41_, iAdd (by have := iRg pt; have : (1 : Int32).toInt = 1 := rfl; omega) (by have := iRg pt; have : (1 : Int32).toInt = 1 := rfl; omega)]; rfl
              refine lv_istore (lv' := [(4, .int zq41_), (3, .int zq40_), (0, .ref h), (1, .int pt), (2, .int gr)]) hx hb dX1_lastDayToTell_61 hl (by decide) rfl (fun ls hl => ?_)
              have loop : ∀ (n : Nat) (iq42_ : Int32) (yq43_ : Int32) (Hq_ : Heap) (lcq_ : List Loc) (ls : Array Slot), iq42_.toInt + (n : Int) = 14 → (2 : Int) ≤ iq42_.toInt → iq42_.toInt ≤ 14 → mS D kA M T (mA M T sz) s.heap Hq_ lcq_ → lv_has ls 5 [(4, .int iq42_), (3, .int yq43_), (0, .ref h), (1, .int pt), (2, .int gr)] → W p l e (rmL 3 0 0) s m ([.ref h, .int pt, .int gr] : List Value).toArray below meth c Hq_ lcq_ 0 0 (MQ below (va_Qi (fun r u => (True) ∧ u.2 = T ∧ u.1 = M) (mB D kA M T sz) (mA M T sz)) ([.ref h, .int pt, .int gr] : List Value).toArray s 0 0 (mA M T sz)) (F0 m 63 ls []) := by
                intro n
                induction n with
                | zero =>
                  intro iq42_ yq43_ Hq_ lcq_ ls hi_iq42_ h0_iq42_ h9_iq42_ hH hl
                  have hi2_iq42_ : iq42_.toInt = 14 := by omega
                  refine lv_iload hx hb dX1_lastDayToTell_63 (lv_at hl 0 rfl) ?_
                  refine lv_aload_n hx hb dX1_lastDayToTell_65 rfl (lv_at hl 2 rfl) ?_
                  refine goI hK hH (runV (As := []) (rest := [.int iq42_]) hC hK hH (c_X1_parties ht_h) mlX1_113 (rcvT hK hH ht_h rfl rfl) ⟨⟨Nat.le_of_ble_eq_true rfl, Nat.le_of_ble_eq_true rfl⟩, Nat.le_of_ble_eq_true rfl, Nat.le_of_ble_eq_true rfl⟩ rfl hl.1 rfl (Nat.le_of_ble_eq_true rfl) dX1_lastDayToTell_66) (fun rq46_ Mq44_ Tq45_ Hq_ lcq_ hP hz hH => ?_)
                  try dsimp only at hP
                  obtain ⟨(⟨l_rq46_, g_rq46_⟩), eT, eM⟩ := hP
                  have eT := eT.symm; subst eT
                  have eM := eM.symm; subst eM
                  refine jic_ge (tgt := 103) hx hb dX1_lastDayToTell_69 (by decide) (fun cq47_ => ?_) (fun cq47_ => absurd cq47_ (by have := iRg iq42_; have := iRg rq46_; omega))
                  have cq47_ : rq46_.toInt ≤ iq42_.toInt := cq47_
                  refine lv_iload_n hx hb dX1_lastDayToTell_103 rfl (lv_at hl 1 rfl) ?_
                  subst e_zq41_
                  subst e_zq40_
                  exact ret_i hC hr hlk hK hH (⟨trivial, rfl, rfl⟩) (Nat.le_of_ble_eq_true rfl) (Nat.le_of_ble_eq_true rfl) dX1_lastDayToTell_104
                | succ n ih =>
                  intro iq42_ yq43_ Hq_ lcq_ ls hi_iq42_ h0_iq42_ h9_iq42_ hH hl
                  have hi2_iq42_ : iq42_.toInt ≤ 13 := by omega
                  refine lv_iload hx hb dX1_lastDayToTell_63 (lv_at hl 0 rfl) ?_
                  refine lv_aload_n hx hb dX1_lastDayToTell_65 rfl (lv_at hl 2 rfl) ?_
                  refine goI hK hH (runV (As := []) (rest := [.int iq42_]) hC hK hH (c_X1_parties ht_h) mlX1_113 (rcvT hK hH ht_h rfl rfl) ⟨⟨Nat.le_of_ble_eq_true rfl, Nat.le_of_ble_eq_true rfl⟩, Nat.le_of_ble_eq_true rfl, Nat.le_of_ble_eq_true rfl⟩ rfl hl.1 rfl (Nat.le_of_ble_eq_true rfl) dX1_lastDayToTell_66) (fun rq50_ Mq48_ Tq49_ Hq_ lcq_ hP hz hH => ?_)
                  try dsimp only at hP
                  obtain ⟨(⟨l_rq50_, g_rq50_⟩), eT, eM⟩ := hP
                  have eT := eT.symm; subst eT
                  have eM := eM.symm; subst eM
                  refine jic_ge (tgt := 103) hx hb dX1_lastDayToTell_69 (by decide) (fun cq51_ => ?_) (fun cq51_ => ?_)
                  · skip
                    have cq51_ : rq50_.toInt ≤ iq42_.toInt := cq51_
                    refine lv_iload_n hx hb dX1_lastDayToTell_103 rfl (lv_at hl 1 rfl) ?_
                    subst e_zq41_
                    subst e_zq40_
                    exact ret_i hC hr hlk hK hH (⟨trivial, rfl, rfl⟩) (Nat.le_of_ble_eq_true rfl) (Nat.le_of_ble_eq_true rfl) dX1_lastDayToTell_104
                  · skip
                    have cq51_ : iq42_.toInt < rq50_.toInt := cq51_
                    refine lv_aload_n hx hb dX1_lastDayToTell_72 rfl (lv_at hl 2 rfl) ?_
                    refine tgr hC hK hH flX1_27 ht_h rfl rfl dX1_lastDayToTell_73 (fun qq52_ t_qq52_ => ?_)
                    refine lv_iload hx hb dX1_lastDayToTell_76 (lv_at hl 0 rfl) ?_
                    refine tild hC hK hH t_qq52_ rfl (iIn (by omega) (by omega)) dX1_lastDayToTell_78 (fun xq53_ l_xq53_ g_xq53_ => ?_)
                    refine lv_iconst (v := -1) hx hb dX1_lastDayToTell_79 (by decide) ?_
                    refine jic_eq (tgt := 97) hx hb dX1_lastDayToTell_80 (by decide) (fun cq54_ => ?_) (fun cq54_ => ?_)
                    · skip
                      have cq54_ : xq53_.toInt = (-1) := cq54_
                      obtain ⟨zq55_, e_zq55_⟩ : ∃ y : Int32, y = iq42_ + 1 := ⟨_, rfl⟩
                      refine lv_iinc (v := zq55_) (lv' := [(4, .int zq55_), (3, .int yq43_), (0, .ref h), (1, .int pt), (2, .int gr)]) hx hb dX1_lastDayToTell_97 hl (k := 0) rfl (by rw [e_zq55_]; rfl) (by decide) rfl (fun ls hl => ?_)
                      have h_zq55_ : zq55_.toInt = iq42_.toInt + 1 := by rw [e_zq55_, iAdd (by have : (1 : Int32).toInt = 1 := rfl; omega) (by have : (1 : Int32).toInt = 1 := rfl; omega)]; rfl
                      refine lv_goto (tgt := 63) hx hb dX1_lastDayToTell_100 (by decide) ?_
                      exact ih zq55_ yq43_ _ _ ls (by omega) (by omega) (by omega) hH (lv_sub hl [0, 1, 2, 3, 4] rfl)
                    · skip
                      have cq54_ : xq53_.toInt ≠ (-1) := cq54_
                      refine lv_iload_n hx hb dX1_lastDayToTell_83 rfl (lv_at hl 1 rfl) ?_
                      refine lv_aload_n hx hb dX1_lastDayToTell_84 rfl (lv_at hl 2 rfl) ?_
                      refine tgr hC hK hH flX1_27 ht_h rfl rfl dX1_lastDayToTell_85 (fun qq56_ t_qq56_ => ?_)
                      refine lv_iload hx hb dX1_lastDayToTell_88 (lv_at hl 0 rfl) ?_
                      refine tild hC hK hH t_qq56_ rfl (iIn (by omega) (by omega)) dX1_lastDayToTell_90 (fun xq57_ l_xq57_ g_xq57_ => ?_)
                      refine lv_iload_n hx hb dX1_lastDayToTell_91 rfl (lv_at hl 4 rfl) ?_
                      refine lv_iadd hx hb dX1_lastDayToTell_92 ?_
                      refine lv_topi (fun zq58_ e_zq58_ => ?_)
                      refine xmax hC hl.1 mxX1_178 (Nat.le_of_ble_eq_true rfl) (Nat.le_of_ble_eq_true rfl) (Nat.le_of_ble_eq_true rfl) (Nat.le_of_ble_eq_true rfl) dX1_lastDayToTell_93 ?_
                      refine lv_topi (fun zq59_ e_zq59_ => ?_)
                      refine lv_istore_n (lv' := [(3, .int zq59_), (4, .int iq42_), (0, .ref h), (1, .int pt), (2, .int gr)]) hx hb dX1_lastDayToTell_96 rfl hl (by decide) rfl (fun ls hl => ?_)
                      obtain ⟨zq60_, e_zq60_⟩ : ∃ y : Int32, y = iq42_ + 1 := ⟨_, rfl⟩
                      refine lv_iinc (v := zq60_) (lv' := [(4, .int zq60_), (3, .int zq59_), (0, .ref h), (1, .int pt), (2, .int gr)]) hx hb dX1_lastDayToTell_97 hl (k := 1) rfl (by rw [e_zq60_]; rfl) (by decide) rfl (fun ls hl => ?_)
                      have h_zq60_ : zq60_.toInt = iq42_.toInt + 1 := by rw [e_zq60_, iAdd (by have : (1 : Int32).toInt = 1 := rfl; omega) (by have : (1 : Int32).toInt = 1 := rfl; omega)]; rfl
                      refine lv_goto (tgt := 63) hx hb dX1_lastDayToTell_100 (by decide) ?_
                      exact ih zq60_ zq59_ _ _ ls (by omega) (by omega) (by omega) hH (lv_sub hl [0, 1, 2, 3, 4] rfl)
              exact loop (Int.toNat (14 - zq41_.toInt)) zq41_ zq40_ _ _ ls (by have := iRg zq41_; omega) (by have := iRg zq41_; omega) (by have := iRg zq41_; omega) hH hl
          · skip
            have eT := eT.symm; subst eT
            have er_rq13_ := er_rq13_.symm; subst er_rq13_
            have eM := eM.symm; subst eM
            refine jif_eq (tgt := 56) hx hb dX1_lastDayToTell_36 (by decide) (fun cq61_ => ?_) (fun cq61_ => absurd cq61_ (by decide))
            refine lv_iconst (v := -1) hx hb dX1_lastDayToTell_56 (by decide) ?_
            refine lv_istore_n (lv' := [(3, .int (-1)), (0, .ref h), (1, .int pt), (2, .int gr)]) hx hb dX1_lastDayToTell_57 rfl hl (by decide) rfl (fun ls hl => ?_)
            refine lv_iload_n hx hb dX1_lastDayToTell_58 rfl (lv_at hl 2 rfl) ?_
            refine lv_iconst (v := 1) hx hb dX1_lastDayToTell_59 (by decide) ?_
            refine lv_iadd hx hb dX1_lastDayToTell_60 ?_
            refine lv_topi (fun zq62_ e_zq62_ => ?_)
            have h_zq62_ : zq62_.toInt = pt.toInt + 1 := by rw [e_zq62_, iAdd (by have := iRg pt; have : (1 : Int32).toInt = 1 := rfl; omega) (by have := iRg pt; have : (1 : Int32).toInt = 1 := rfl; omega)]; rfl
            refine lv_istore (lv' := [(4, .int zq62_), (3, .int (-1)), (0, .ref h), (1, .int pt), (2, .int gr)]) hx hb dX1_lastDayToTell_61 hl (by decide) rfl (fun ls hl => ?_)
            have loop : ∀ (n : Nat) (iq63_ : Int32) (yq64_ : Int32) (Hq_ : Heap) (lcq_ : List Loc) (ls : Array Slot), iq63_.toInt + (n : Int) = 14 → (2 : Int) ≤ iq63_.toInt → iq63_.toInt ≤ 14 → mS D kA M T (mA M T sz) s.heap Hq_ lcq_ → lv_has ls 5 [(4, .int iq63_), (3, .int yq64_), (0, .ref h), (1, .int pt), (2, .int gr)] → W p l e (rmL 3 0 0) s m ([.ref h, .int pt, .int gr] : List Value).toArray below meth c Hq_ lcq_ 0 0 (MQ below (va_Qi (fun r u => (True) ∧ u.2 = T ∧ u.1 = M) (mB D kA M T sz) (mA M T sz)) ([.ref h, .int pt, .int gr] : List Value).toArray s 0 0 (mA M T sz)) (F0 m 63 ls []) := by
              intro n
              induction n with
              | zero =>
                intro iq63_ yq64_ Hq_ lcq_ ls hi_iq63_ h0_iq63_ h9_iq63_ hH hl
                have hi2_iq63_ : iq63_.toInt = 14 := by omega
                refine lv_iload hx hb dX1_lastDayToTell_63 (lv_at hl 0 rfl) ?_
                refine lv_aload_n hx hb dX1_lastDayToTell_65 rfl (lv_at hl 2 rfl) ?_
                refine goI hK hH (runV (As := []) (rest := [.int iq63_]) hC hK hH (c_X1_parties ht_h) mlX1_113 (rcvT hK hH ht_h rfl rfl) ⟨⟨Nat.le_of_ble_eq_true rfl, Nat.le_of_ble_eq_true rfl⟩, Nat.le_of_ble_eq_true rfl, Nat.le_of_ble_eq_true rfl⟩ rfl hl.1 rfl (Nat.le_of_ble_eq_true rfl) dX1_lastDayToTell_66) (fun rq67_ Mq65_ Tq66_ Hq_ lcq_ hP hz hH => ?_)
                try dsimp only at hP
                obtain ⟨(⟨l_rq67_, g_rq67_⟩), eT, eM⟩ := hP
                have eT := eT.symm; subst eT
                have eM := eM.symm; subst eM
                refine jic_ge (tgt := 103) hx hb dX1_lastDayToTell_69 (by decide) (fun cq68_ => ?_) (fun cq68_ => absurd cq68_ (by have := iRg iq63_; have := iRg rq67_; omega))
                have cq68_ : rq67_.toInt ≤ iq63_.toInt := cq68_
                refine lv_iload_n hx hb dX1_lastDayToTell_103 rfl (lv_at hl 1 rfl) ?_
                subst e_zq62_
                exact ret_i hC hr hlk hK hH (⟨trivial, rfl, rfl⟩) (Nat.le_of_ble_eq_true rfl) (Nat.le_of_ble_eq_true rfl) dX1_lastDayToTell_104
              | succ n ih =>
                intro iq63_ yq64_ Hq_ lcq_ ls hi_iq63_ h0_iq63_ h9_iq63_ hH hl
                have hi2_iq63_ : iq63_.toInt ≤ 13 := by omega
                refine lv_iload hx hb dX1_lastDayToTell_63 (lv_at hl 0 rfl) ?_
                refine lv_aload_n hx hb dX1_lastDayToTell_65 rfl (lv_at hl 2 rfl) ?_
                refine goI hK hH (runV (As := []) (rest := [.int iq63_]) hC hK hH (c_X1_parties ht_h) mlX1_113 (rcvT hK hH ht_h rfl rfl) ⟨⟨Nat.le_of_ble_eq_true rfl, Nat.le_of_ble_eq_true rfl⟩, Nat.le_of_ble_eq_true rfl, Nat.le_of_ble_eq_true rfl⟩ rfl hl.1 rfl (Nat.le_of_ble_eq_true rfl) dX1_lastDayToTell_66) (fun rq71_ Mq69_ Tq70_ Hq_ lcq_ hP hz hH => ?_)
                try dsimp only at hP
                obtain ⟨(⟨l_rq71_, g_rq71_⟩), eT, eM⟩ := hP
                have eT := eT.symm; subst eT
                have eM := eM.symm; subst eM
                refine jic_ge (tgt := 103) hx hb dX1_lastDayToTell_69 (by decide) (fun cq72_ => ?_) (fun cq72_ => ?_)
                · skip
                  have cq72_ : rq71_.toInt ≤ iq63_.toInt := cq72_
                  refine lv_iload_n hx hb dX1_lastDayToTell_103 rfl (lv_at hl 1 rfl) ?_
                  subst e_zq62_
                  exact ret_i hC hr hlk hK hH (⟨trivial, rfl, rfl⟩) (Nat.le_of_ble_eq_true rfl) (Nat.le_of_ble_eq_true rfl) dX1_lastDayToTell_104
                · skip
                  have cq72_ : iq63_.toInt < rq71_.toInt := cq72_
                  refine lv_aload_n hx hb dX1_lastDayToTell_72 rfl (lv_at hl 2 rfl) ?_
                  refine tgr hC hK hH flX1_27 ht_h rfl rfl dX1_lastDayToTell_73 (fun qq73_ t_qq73_ => ?_)
                  refine lv_iload hx hb dX1_lastDayToTell_76 (lv_at hl 0 rfl) ?_
                  refine tild hC hK hH t_qq73_ rfl (iIn (by omega) (by omega)) dX1_lastDayToTell_78 (fun xq74_ l_xq74_ g_xq74_ => ?_)
                  refine lv_iconst (v := -1) hx hb dX1_lastDayToTell_79 (by decide) ?_
                  refine jic_eq (tgt := 97) hx hb dX1_lastDayToTell_80 (by decide) (fun cq75_ => ?_) (fun cq75_ => ?_)
                  · skip
                    have cq75_ : xq74_.toInt = (-1) := cq75_
                    obtain ⟨zq76_, e_zq76_⟩ : ∃ y : Int32, y = iq63_ + 1 := ⟨_, rfl⟩
                    refine lv_iinc (v := zq76_) (lv' := [(4, .int zq76_), (3, .int yq64_), (0, .ref h), (1, .int pt), (2, .int gr)]) hx hb dX1_lastDayToTell_97 hl (k := 0) rfl (by rw [e_zq76_]; rfl) (by decide) rfl (fun ls hl => ?_)
                    have h_zq76_ : zq76_.toInt = iq63_.toInt + 1 := by rw [e_zq76_, iAdd (by have : (1 : Int32).toInt = 1 := rfl; omega) (by have : (1 : Int32).toInt = 1 := rfl; omega)]; rfl
                    refine lv_goto (tgt := 63) hx hb dX1_lastDayToTell_100 (by decide) ?_
                    exact ih zq76_ yq64_ _ _ ls (by omega) (by omega) (by omega) hH (lv_sub hl [0, 1, 2, 3, 4] rfl)
                  · skip
                    have cq75_ : xq74_.toInt ≠ (-1) := cq75_
                    refine lv_iload_n hx hb dX1_lastDayToTell_83 rfl (lv_at hl 1 rfl) ?_
                    refine lv_aload_n hx hb dX1_lastDayToTell_84 rfl (lv_at hl 2 rfl) ?_
                    refine tgr hC hK hH flX1_27 ht_h rfl rfl dX1_lastDayToTell_85 (fun qq77_ t_qq77_ => ?_)
                    refine lv_iload hx hb dX1_lastDayToTell_88 (lv_at hl 0 rfl) ?_
                    refine tild hC hK hH t_qq77_ rfl (iIn (by omega) (by omega)) dX1_lastDayToTell_90 (fun xq78_ l_xq78_ g_xq78_ => ?_)
                    refine lv_iload_n hx hb dX1_lastDayToTell_91 rfl (lv_at hl 4 rfl) ?_
                    refine lv_iadd hx hb dX1_lastDayToTell_92 ?_
                    refine lv_topi (fun zq79_ e_zq79_ => ?_)
                    refine xmax hC hl.1 mxX1_178 (Nat.le_of_ble_eq_true rfl) (Nat.le_of_ble_eq_true rfl) (Nat.le_of_ble_eq_true rfl) (Nat.le_of_ble_eq_true rfl) dX1_lastDayToTell_93 ?_
                    refine lv_topi (fun zq80_ e_zq80_ => ?_)
                    refine lv_istore_n (lv' := [(3, .int zq80_), (4, .int iq63_), (0, .ref h), (1, .int pt), (2, .int gr)]) hx hb dX1_lastDayToTell_96 rfl hl (by decide) rfl (fun ls hl => ?_)
                    obtain ⟨zq81_, e_zq81_⟩ : ∃ y : Int32, y = iq63_ + 1 := ⟨_, rfl⟩
                    refine lv_iinc (v := zq81_) (lv' := [(4, .int zq81_), (3, .int zq80_), (0, .ref h), (1, .int pt), (2, .int gr)]) hx hb dX1_lastDayToTell_97 hl (k := 1) rfl (by rw [e_zq81_]; rfl) (by decide) rfl (fun ls hl => ?_)
                    have h_zq81_ : zq81_.toInt = iq63_.toInt + 1 := by rw [e_zq81_, iAdd (by have : (1 : Int32).toInt = 1 := rfl; omega) (by have : (1 : Int32).toInt = 1 := rfl; omega)]; rfl
                    refine lv_goto (tgt := 63) hx hb dX1_lastDayToTell_100 (by decide) ?_
                    exact ih zq81_ zq80_ _ _ ls (by omega) (by omega) (by omega) hH (lv_sub hl [0, 1, 2, 3, 4] rfl)
            exact loop (Int.toNat (14 - zq62_.toInt)) zq62_ (-1) _ _ ls (by have := iRg zq62_; omega) (by have := iRg zq62_; omega) (by have := iRg zq62_; omega) hH hl
        · skip
          have cq10_ : rq9_.toInt = 0 := cq10_
          refine lv_iconst (v := -1) hx hb dX1_lastDayToTell_30 (by decide) ?_
          exact ret_i hC hr hlk hK hH (⟨trivial, rfl, rfl⟩) (Nat.le_of_ble_eq_true rfl) (Nat.le_of_ble_eq_true rfl) dX1_lastDayToTell_31
set_option maxHeartbeats 4000000 in
set_option maxRecDepth 100000 in
theorem c_X1_inReach {l : Launch} {D : va_G} {kA : Nat → ClassId} {M : mM} {T : mT} {sz : Nat} {h : Nat} {pt td gr : Int32} (ht_h : T h = some 2) (h_pt : 0 ≤ pt.toInt ∧ pt.toInt ≤ 13) : mCi l yX1_inReach cX1_inReach 4 (some .boolean) 4 0 0 D kA M T sz [.ref h, .int pt, .int td, .int gr] (fun r u => ((r = 1) ∨ (r = 0)) ∧ u.2 = T ∧ u.1 = M) := by
  unfold mCi
  refine start_W (by decide) (Nat.le_of_ble_eq_true rfl) ?_
  intro p e s m below meth c ls hC hr hlk hnm hK hH hsz hl
  have hx := hC.1
  have hb := hC.2.1
  have hl : lv_has ls 4 [(0, .ref h), (1, .int pt), (2, .int td), (3, .int gr)] := hl
  refine lv_aload_n hx hb dX1_inReach_0 rfl (lv_at hl 0 rfl) ?_
  refine lv_iload_n hx hb dX1_inReach_1 rfl (lv_at hl 1 rfl) ?_
  refine lv_iload_n hx hb dX1_inReach_2 rfl (lv_at hl 3 rfl) ?_
  refine goI hK hH (runV (As := [.int pt, .int gr]) (rest := []) hC hK hH (c_X1_lastDayToTell ht_h (by omega)) mlX1_184 (rcvT hK hH ht_h rfl rfl) ⟨⟨Nat.le_of_ble_eq_true rfl, Nat.le_of_ble_eq_true rfl⟩, Nat.le_of_ble_eq_true rfl, Nat.le_of_ble_eq_true rfl⟩ rfl hl.1 rfl (Nat.le_of_ble_eq_true rfl) dX1_inReach_3) (fun rq3_ Mq1_ Tq2_ Hq_ lcq_ hP hz hH => ?_)
  try dsimp only at hP
  obtain ⟨(-), eT, eM⟩ := hP
  have eT := eT.symm; subst eT
  have eM := eM.symm; subst eM
  refine lv_iload_n hx hb dX1_inReach_6 rfl (lv_at hl 2 rfl) ?_
  refine jic_lt (tgt := 14) hx hb dX1_inReach_7 (by decide) (fun cq4_ => ?_) (fun cq4_ => ?_)
  · skip
    have cq4_ : rq3_.toInt < td.toInt := cq4_
    refine lv_iconst (v := 0) hx hb dX1_inReach_14 (by decide) ?_
    exact ret_z hC hr hlk hK hH (by first | exact Or.inl rfl | exact Or.inr rfl | assumption) (⟨Or.inr (rfl), rfl, rfl⟩) (Nat.le_of_ble_eq_true rfl) (Nat.le_of_ble_eq_true rfl) dX1_inReach_15
  · skip
    have cq4_ : td.toInt ≤ rq3_.toInt := cq4_
    refine lv_iconst (v := 1) hx hb dX1_inReach_10 (by decide) ?_
    refine lv_goto (tgt := 15) hx hb dX1_inReach_11 (by decide) ?_
    exact ret_z hC hr hlk hK hH (by first | exact Or.inl rfl | exact Or.inr rfl | assumption) (⟨Or.inl (rfl), rfl, rfl⟩) (Nat.le_of_ble_eq_true rfl) (Nat.le_of_ble_eq_true rfl) dX1_inReach_15
set_option maxHeartbeats 4000000 in
set_option maxRecDepth 100000 in
theorem c_X1_comesOf {l : Launch} {D : va_G} {kA : Nat → ClassId} {M : mM} {T : mT} {sz : Nat} {h : Nat} {pt re td gr : Int32} (ht_h : T h = some 2) (h_pt : 0 ≤ pt.toInt ∧ pt.toInt ≤ 13) : mCi l yX1_comesOf cX1_comesOf 5 (some .int) 5 0 0 D kA M T sz [.ref h, .int pt, .int re, .int td, .int gr] (fun r u => (True) ∧ u.2 = T ∧ u.1 = M) := by
  unfold mCi
  refine start_W (by decide) (Nat.le_of_ble_eq_true rfl) ?_
  intro p e s m below meth c ls hC hr hlk hnm hK hH hsz hl
  have hx := hC.1
  have hb := hC.2.1
  have hl : lv_has ls 5 [(0, .ref h), (1, .int pt), (2, .int re), (3, .int td), (4, .int gr)] := hl
  refine lv_iload_n hx hb dX1_comesOf_0 rfl (lv_at hl 2 rfl) ?_
  rcases (show re.toInt < 1 ∨ 9 < re.toInt ∨ re.toInt = 1 ∨ re.toInt = 2 ∨ re.toInt = 3 ∨ re.toInt = 4 ∨ re.toInt = 5 ∨ re.toInt = 6 ∨ re.toInt = 7 ∨ re.toInt = 8 ∨ re.toInt = 9 by omega) with cq1_ | cq1_ | cq1_ | cq1_ | cq1_ | cq1_ | cq1_ | cq1_ | cq1_ | cq1_ | cq1_
  · skip
    refine lv_tableOut (tgt := 118) hx hb dX1_comesOf_1 (Or.inl cq1_) (by decide) ?_
    refine lv_iconst (v := 0) hx hb dX1_comesOf_118 (by decide) ?_
    exact ret_i hC hr hlk hK hH (⟨trivial, rfl, rfl⟩) (Nat.le_of_ble_eq_true rfl) (Nat.le_of_ble_eq_true rfl) dX1_comesOf_119
  · skip
    refine lv_tableOut (tgt := 118) hx hb dX1_comesOf_1 (Or.inr cq1_) (by decide) ?_
    refine lv_iconst (v := 0) hx hb dX1_comesOf_118 (by decide) ?_
    exact ret_i hC hr hlk hK hH (⟨trivial, rfl, rfl⟩) (Nat.le_of_ble_eq_true rfl) (Nat.le_of_ble_eq_true rfl) dX1_comesOf_119
  · skip
    refine lv_tableIn (off := 51) (tgt := 52) hx hb dX1_comesOf_1 (by omega) (by omega) (by rw [cq1_]; rfl) (by decide) ?_
    refine lv_aload_n hx hb dX1_comesOf_52 rfl (lv_at hl 0 rfl) ?_
    refine tgr hC hK hH flX1_20 ht_h rfl rfl dX1_comesOf_53 (fun qq2_ t_qq2_ => ?_)
    refine tg hC hK hH flX1_168 t_qq2_ rfl rfl dX1_comesOf_56 (fun xq3_ l_xq3_ g_xq3_ => ?_)
    refine lv_iconst (v := -1) hx hb dX1_comesOf_59 (by decide) ?_
    refine jic_ne (tgt := 68) hx hb dX1_comesOf_60 (by decide) (fun cq4_ => ?_) (fun cq4_ => ?_)
    · skip
      have cq4_ : xq3_.toInt ≠ (-1) := cq4_
      refine lv_bipush (v := 11) hx hb dX1_comesOf_68 (by decide) ?_
      exact ret_i hC hr hlk hK hH (⟨trivial, rfl, rfl⟩) (Nat.le_of_ble_eq_true rfl) (Nat.le_of_ble_eq_true rfl) dX1_comesOf_70
    · skip
      have cq4_ : xq3_.toInt = (-1) := cq4_
      refine lv_bipush (v := 14) hx hb dX1_comesOf_63 (by decide) ?_
      refine lv_goto (tgt := 70) hx hb dX1_comesOf_65 (by decide) ?_
      exact ret_i hC hr hlk hK hH (⟨trivial, rfl, rfl⟩) (Nat.le_of_ble_eq_true rfl) (Nat.le_of_ble_eq_true rfl) dX1_comesOf_70
  · skip
    refine lv_tableIn (off := 117) (tgt := 118) hx hb dX1_comesOf_1 (by omega) (by omega) (by rw [cq1_]; rfl) (by decide) ?_
    refine lv_iconst (v := 0) hx hb dX1_comesOf_118 (by decide) ?_
    exact ret_i hC hr hlk hK hH (⟨trivial, rfl, rfl⟩) (Nat.le_of_ble_eq_true rfl) (Nat.le_of_ble_eq_true rfl) dX1_comesOf_119
  · skip
    refine lv_tableIn (off := 70) (tgt := 71) hx hb dX1_comesOf_1 (by omega) (by omega) (by rw [cq1_]; rfl) (by decide) ?_
    refine lv_aload_n hx hb dX1_comesOf_71 rfl (lv_at hl 0 rfl) ?_
    refine lv_iload_n hx hb dX1_comesOf_72 rfl (lv_at hl 1 rfl) ?_
    refine goI hK hH (runV (As := [.int pt]) (rest := []) hC hK hH (c_X1_forgedAt ht_h) mlX1_171 (rcvT hK hH ht_h rfl rfl) ⟨⟨Nat.le_of_ble_eq_true rfl, Nat.le_of_ble_eq_true rfl⟩, Nat.le_of_ble_eq_true rfl, Nat.le_of_ble_eq_true rfl⟩ rfl hl.1 rfl (Nat.le_of_ble_eq_true rfl) dX1_comesOf_73) (fun rq7_ Mq5_ Tq6_ Hq_ lcq_ hP hz hH => ?_)
    try dsimp only at hP
    obtain ⟨(er_rq7_ | er_rq7_), eT, eM⟩ := hP
    · skip
      have eT := eT.symm; subst eT
      have er_rq7_ := er_rq7_.symm; subst er_rq7_
      have eM := eM.symm; subst eM
      refine jif_eq (tgt := 84) hx hb dX1_comesOf_76 (by decide) (fun cq8_ => absurd cq8_ (by decide)) (fun cq8_ => ?_)
      refine lv_bipush (v := 12) hx hb dX1_comesOf_79 (by decide) ?_
      refine lv_goto (tgt := 85) hx hb dX1_comesOf_81 (by decide) ?_
      exact ret_i hC hr hlk hK hH (⟨trivial, rfl, rfl⟩) (Nat.le_of_ble_eq_true rfl) (Nat.le_of_ble_eq_true rfl) dX1_comesOf_85
    · skip
      have eT := eT.symm; subst eT
      have er_rq7_ := er_rq7_.symm; subst er_rq7_
      have eM := eM.symm; subst eM
      refine jif_eq (tgt := 84) hx hb dX1_comesOf_76 (by decide) (fun cq9_ => ?_) (fun cq9_ => absurd cq9_ (by decide))
      refine lv_iconst (v := 0) hx hb dX1_comesOf_84 (by decide) ?_
      exact ret_i hC hr hlk hK hH (⟨trivial, rfl, rfl⟩) (Nat.le_of_ble_eq_true rfl) (Nat.le_of_ble_eq_true rfl) dX1_comesOf_85
  · skip
    refine lv_tableIn (off := 117) (tgt := 118) hx hb dX1_comesOf_1 (by omega) (by omega) (by rw [cq1_]; rfl) (by decide) ?_
    refine lv_iconst (v := 0) hx hb dX1_comesOf_118 (by decide) ?_
    exact ret_i hC hr hlk hK hH (⟨trivial, rfl, rfl⟩) (Nat.le_of_ble_eq_true rfl) (Nat.le_of_ble_eq_true rfl) dX1_comesOf_119
  · skip
    refine lv_tableIn (off := 85) (tgt := 86) hx hb dX1_comesOf_1 (by omega) (by omega) (by rw [cq1_]; rfl) (by decide) ?_
    refine lv_aload_n hx hb dX1_comesOf_86 rfl (lv_at hl 0 rfl) ?_
    refine tgr hC hK hH flX1_31 ht_h rfl rfl dX1_comesOf_87 (fun qq10_ t_qq10_ => ?_)
    refine lv_iload_n hx hb dX1_comesOf_90 rfl (lv_at hl 1 rfl) ?_
    refine tild hC hK hH t_qq10_ rfl (iIn (by omega) (by omega)) dX1_comesOf_91 (fun xq11_ l_xq11_ g_xq11_ => ?_)
    exact ret_i hC hr hlk hK hH (⟨trivial, rfl, rfl⟩) (Nat.le_of_ble_eq_true rfl) (Nat.le_of_ble_eq_true rfl) dX1_comesOf_92
  · skip
    refine lv_tableIn (off := 117) (tgt := 118) hx hb dX1_comesOf_1 (by omega) (by omega) (by rw [cq1_]; rfl) (by decide) ?_
    refine lv_iconst (v := 0) hx hb dX1_comesOf_118 (by decide) ?_
    exact ret_i hC hr hlk hK hH (⟨trivial, rfl, rfl⟩) (Nat.le_of_ble_eq_true rfl) (Nat.le_of_ble_eq_true rfl) dX1_comesOf_119
  · skip
    refine lv_tableIn (off := 117) (tgt := 118) hx hb dX1_comesOf_1 (by omega) (by omega) (by rw [cq1_]; rfl) (by decide) ?_
    refine lv_iconst (v := 0) hx hb dX1_comesOf_118 (by decide) ?_
    exact ret_i hC hr hlk hK hH (⟨trivial, rfl, rfl⟩) (Nat.le_of_ble_eq_true rfl) (Nat.le_of_ble_eq_true rfl) dX1_comesOf_119
  · skip
    refine lv_tableIn (off := 92) (tgt := 93) hx hb dX1_comesOf_1 (by omega) (by omega) (by rw [cq1_]; rfl) (by decide) ?_
    refine lv_aload_n hx hb dX1_comesOf_93 rfl (lv_at hl 0 rfl) ?_
    refine lv_iload_n hx hb dX1_comesOf_94 rfl (lv_at hl 1 rfl) ?_
    refine lv_iload_n hx hb dX1_comesOf_95 rfl (lv_at hl 3 rfl) ?_
    refine lv_iload hx hb dX1_comesOf_96 (lv_at hl 4 rfl) ?_
    refine goI hK hH (runV (As := [.int pt, .int td, .int gr]) (rest := []) hC hK hH (c_X1_inReach ht_h (by omega)) mlX1_174 (rcvT hK hH ht_h rfl rfl) ⟨⟨Nat.le_of_ble_eq_true rfl, Nat.le_of_ble_eq_true rfl⟩, Nat.le_of_ble_eq_true rfl, Nat.le_of_ble_eq_true rfl⟩ rfl hl.1 rfl (Nat.le_of_ble_eq_true rfl) dX1_comesOf_98) (fun rq14_ Mq12_ Tq13_ Hq_ lcq_ hP hz hH => ?_)
    try dsimp only at hP
    obtain ⟨(er_rq14_ | er_rq14_), eT, eM⟩ := hP
    · skip
      have eT := eT.symm; subst eT
      have er_rq14_ := er_rq14_.symm; subst er_rq14_
      have eM := eM.symm; subst eM
      refine jif_eq (tgt := 109) hx hb dX1_comesOf_101 (by decide) (fun cq15_ => absurd cq15_ (by decide)) (fun cq15_ => ?_)
      refine lv_bipush (v := 17) hx hb dX1_comesOf_104 (by decide) ?_
      refine lv_goto (tgt := 111) hx hb dX1_comesOf_106 (by decide) ?_
      exact ret_i hC hr hlk hK hH (⟨trivial, rfl, rfl⟩) (Nat.le_of_ble_eq_true rfl) (Nat.le_of_ble_eq_true rfl) dX1_comesOf_111
    · skip
      have eT := eT.symm; subst eT
      have er_rq14_ := er_rq14_.symm; subst er_rq14_
      have eM := eM.symm; subst eM
      refine jif_eq (tgt := 109) hx hb dX1_comesOf_101 (by decide) (fun cq16_ => ?_) (fun cq16_ => absurd cq16_ (by decide))
      refine lv_bipush (v := 18) hx hb dX1_comesOf_109 (by decide) ?_
      exact ret_i hC hr hlk hK hH (⟨trivial, rfl, rfl⟩) (Nat.le_of_ble_eq_true rfl) (Nat.le_of_ble_eq_true rfl) dX1_comesOf_111
  · skip
    refine lv_tableIn (off := 111) (tgt := 112) hx hb dX1_comesOf_1 (by omega) (by omega) (by rw [cq1_]; rfl) (by decide) ?_
    refine lv_aload_n hx hb dX1_comesOf_112 rfl (lv_at hl 0 rfl) ?_
    refine lv_iload_n hx hb dX1_comesOf_113 rfl (lv_at hl 1 rfl) ?_
    refine goI hK hH (runV (As := [.int pt]) (rest := []) hC hK hH (c_X1_defenceOf ht_h (by omega)) mlX1_165 (rcvT hK hH ht_h rfl rfl) ⟨⟨Nat.le_of_ble_eq_true rfl, Nat.le_of_ble_eq_true rfl⟩, Nat.le_of_ble_eq_true rfl, Nat.le_of_ble_eq_true rfl⟩ rfl hl.1 rfl (Nat.le_of_ble_eq_true rfl) dX1_comesOf_114) (fun rq19_ Mq17_ Tq18_ Hq_ lcq_ hP hz hH => ?_)
    try dsimp only at hP
    obtain ⟨(-), eT, eM⟩ := hP
    have eT := eT.symm; subst eT
    have eM := eM.symm; subst eM
    exact ret_i hC hr hlk hK hH (⟨trivial, rfl, rfl⟩) (Nat.le_of_ble_eq_true rfl) (Nat.le_of_ble_eq_true rfl) dX1_comesOf_117
set_option maxHeartbeats 4000000 in
set_option maxRecDepth 100000 in
theorem c_X1_placeOf {l : Launch} {D : va_G} {kA : Nat → ClassId} {M : mM} {T : mT} {sz : Nat} {h : Nat} {pt ca : Int32} (ht_h : T h = some 2) (h_pt : 0 ≤ pt.toInt ∧ pt.toInt ≤ 13) : mCi l yX1_placeOf cX1_placeOf 3 (some .int) 0 0 0 D kA M T sz [.ref h, .int pt, .int ca] (fun r u => (True) ∧ u.2 = T ∧ u.1 = M) := by
  unfold mCi
  refine start_W (by decide) (Nat.le_of_ble_eq_true rfl) ?_
  intro p e s m below meth c ls hC hr hlk hnm hK hH hsz hl
  have hx := hC.1
  have hb := hC.2.1
  have hl : lv_has ls 3 [(0, .ref h), (1, .int pt), (2, .int ca)] := hl
  refine lv_iload_n hx hb dX1_placeOf_0 rfl (lv_at hl 2 rfl) ?_
  rcases (show ca.toInt < 11 ∨ 16 < ca.toInt ∨ ca.toInt = 11 ∨ ca.toInt = 12 ∨ ca.toInt = 13 ∨ ca.toInt = 14 ∨ ca.toInt = 15 ∨ ca.toInt = 16 by omega) with cq1_ | cq1_ | cq1_ | cq1_ | cq1_ | cq1_ | cq1_ | cq1_
  · skip
    refine lv_tableOut (tgt := 80) hx hb dX1_placeOf_1 (Or.inl cq1_) (by decide) ?_
    refine lv_iconst (v := -1) hx hb dX1_placeOf_80 (by decide) ?_
    exact ret_i hC hr hlk hK hH (⟨trivial, rfl, rfl⟩) (Nat.le_of_ble_eq_true rfl) (Nat.le_of_ble_eq_true rfl) dX1_placeOf_81
  · skip
    refine lv_tableOut (tgt := 80) hx hb dX1_placeOf_1 (Or.inr cq1_) (by decide) ?_
    refine lv_iconst (v := -1) hx hb dX1_placeOf_80 (by decide) ?_
    exact ret_i hC hr hlk hK hH (⟨trivial, rfl, rfl⟩) (Nat.le_of_ble_eq_true rfl) (Nat.le_of_ble_eq_true rfl) dX1_placeOf_81
  · skip
    refine lv_tableIn (off := 39) (tgt := 40) hx hb dX1_placeOf_1 (by omega) (by omega) (by rw [cq1_]; rfl) (by decide) ?_
    refine lv_aload_n hx hb dX1_placeOf_40 rfl (lv_at hl 0 rfl) ?_
    refine tgr hC hK hH flX1_20 ht_h rfl rfl dX1_placeOf_41 (fun qq2_ t_qq2_ => ?_)
    refine tg hC hK hH flX1_168 t_qq2_ rfl rfl dX1_placeOf_44 (fun xq3_ l_xq3_ g_xq3_ => ?_)
    exact ret_i hC hr hlk hK hH (⟨trivial, rfl, rfl⟩) (Nat.le_of_ble_eq_true rfl) (Nat.le_of_ble_eq_true rfl) dX1_placeOf_47
  · skip
    refine lv_tableIn (off := 47) (tgt := 48) hx hb dX1_placeOf_1 (by omega) (by omega) (by rw [cq1_]; rfl) (by decide) ?_
    refine lv_aload_n hx hb dX1_placeOf_48 rfl (lv_at hl 0 rfl) ?_
    refine tgr hC hK hH flX1_20 ht_h rfl rfl dX1_placeOf_49 (fun qq4_ t_qq4_ => ?_)
    refine tg hC hK hH flX1_168 t_qq4_ rfl rfl dX1_placeOf_52 (fun xq5_ l_xq5_ g_xq5_ => ?_)
    refine lv_iconst (v := -1) hx hb dX1_placeOf_55 (by decide) ?_
    refine jic_ne (tgt := 65) hx hb dX1_placeOf_56 (by decide) (fun cq6_ => ?_) (fun cq6_ => ?_)
    · skip
      have cq6_ : xq5_.toInt ≠ (-1) := cq6_
      refine lv_aload_n hx hb dX1_placeOf_65 rfl (lv_at hl 0 rfl) ?_
      refine tgr hC hK hH flX1_20 ht_h rfl rfl dX1_placeOf_66 (fun qq7_ t_qq7_ => ?_)
      refine tg hC hK hH flX1_168 t_qq7_ rfl rfl dX1_placeOf_69 (fun xq8_ l_xq8_ g_xq8_ => ?_)
      exact ret_i hC hr hlk hK hH (⟨trivial, rfl, rfl⟩) (Nat.le_of_ble_eq_true rfl) (Nat.le_of_ble_eq_true rfl) dX1_placeOf_72
    · skip
      have cq6_ : xq5_.toInt = (-1) := cq6_
      refine lv_iload_n hx hb dX1_placeOf_59 rfl (lv_at hl 1 rfl) ?_
      refine lv_iconst (v := 2) hx hb dX1_placeOf_60 (by decide) ?_
      refine lv_isub hx hb dX1_placeOf_61 ?_
      refine lv_topi (fun zq9_ e_zq9_ => ?_)
      have h_zq9_ : zq9_.toInt = pt.toInt - 2 := by rw [e_zq9_, iSub (by have := iRg pt; have : (2 : Int32).toInt = 2 := rfl; omega) (by have := iRg pt; have : (2 : Int32).toInt = 2 := rfl; omega)]; rfl
      refine lv_goto (tgt := 72) hx hb dX1_placeOf_62 (by decide) ?_
      subst e_zq9_
      exact ret_i hC hr hlk hK hH (⟨trivial, rfl, rfl⟩) (Nat.le_of_ble_eq_true rfl) (Nat.le_of_ble_eq_true rfl) dX1_placeOf_72
  · skip
    refine lv_tableIn (off := 39) (tgt := 40) hx hb dX1_placeOf_1 (by omega) (by omega) (by rw [cq1_]; rfl) (by decide) ?_
    refine lv_aload_n hx hb dX1_placeOf_40 rfl (lv_at hl 0 rfl) ?_
    refine tgr hC hK hH flX1_20 ht_h rfl rfl dX1_placeOf_41 (fun qq10_ t_qq10_ => ?_)
    refine tg hC hK hH flX1_168 t_qq10_ rfl rfl dX1_placeOf_44 (fun xq11_ l_xq11_ g_xq11_ => ?_)
    exact ret_i hC hr hlk hK hH (⟨trivial, rfl, rfl⟩) (Nat.le_of_ble_eq_true rfl) (Nat.le_of_ble_eq_true rfl) dX1_placeOf_47
  · skip
    refine lv_tableIn (off := 79) (tgt := 80) hx hb dX1_placeOf_1 (by omega) (by omega) (by rw [cq1_]; rfl) (by decide) ?_
    refine lv_iconst (v := -1) hx hb dX1_placeOf_80 (by decide) ?_
    exact ret_i hC hr hlk hK hH (⟨trivial, rfl, rfl⟩) (Nat.le_of_ble_eq_true rfl) (Nat.le_of_ble_eq_true rfl) dX1_placeOf_81
  · skip
    refine lv_tableIn (off := 72) (tgt := 73) hx hb dX1_placeOf_1 (by omega) (by omega) (by rw [cq1_]; rfl) (by decide) ?_
    refine lv_aload_n hx hb dX1_placeOf_73 rfl (lv_at hl 0 rfl) ?_
    refine tgr hC hK hH flX1_34 ht_h rfl rfl dX1_placeOf_74 (fun qq12_ t_qq12_ => ?_)
    refine lv_iload_n hx hb dX1_placeOf_77 rfl (lv_at hl 1 rfl) ?_
    refine tild hC hK hH t_qq12_ rfl (iIn (by omega) (by omega)) dX1_placeOf_78 (fun xq13_ l_xq13_ g_xq13_ => ?_)
    exact ret_i hC hr hlk hK hH (⟨trivial, rfl, rfl⟩) (Nat.le_of_ble_eq_true rfl) (Nat.le_of_ble_eq_true rfl) dX1_placeOf_79
  · skip
    refine lv_tableIn (off := 72) (tgt := 73) hx hb dX1_placeOf_1 (by omega) (by omega) (by rw [cq1_]; rfl) (by decide) ?_
    refine lv_aload_n hx hb dX1_placeOf_73 rfl (lv_at hl 0 rfl) ?_
    refine tgr hC hK hH flX1_34 ht_h rfl rfl dX1_placeOf_74 (fun qq14_ t_qq14_ => ?_)
    refine lv_iload_n hx hb dX1_placeOf_77 rfl (lv_at hl 1 rfl) ?_
    refine tild hC hK hH t_qq14_ rfl (iIn (by omega) (by omega)) dX1_placeOf_78 (fun xq15_ l_xq15_ g_xq15_ => ?_)
    exact ret_i hC hr hlk hK hH (⟨trivial, rfl, rfl⟩) (Nat.le_of_ble_eq_true rfl) (Nat.le_of_ble_eq_true rfl) dX1_placeOf_79
set_option maxHeartbeats 4000000 in
set_option maxRecDepth 100000 in
theorem c_X1_canTell {l : Launch} {D : va_G} {kA : Nat → ClassId} {M : mM} {T : mT} {sz : Nat} {h : Nat} {fr td gr : Int32} (ht_h : T h = some 2) (h_fr : -1 ≤ fr.toInt ∧ fr.toInt ≤ 13) : mCi l yX1_canTell cX1_canTell 4 (some .boolean) 2 0 0 D kA M T sz [.ref h, .int fr, .int td, .int gr] (fun r u => ((r = 1) ∨ (r = 0)) ∧ u.2 = T ∧ u.1 = M) := by
  unfold mCi
  refine start_W (by decide) (Nat.le_of_ble_eq_true rfl) ?_
  intro p e s m below meth c ls hC hr hlk hnm hK hH hsz hl
  have hx := hC.1
  have hb := hC.2.1
  have hl : lv_has ls 4 [(0, .ref h), (1, .int fr), (2, .int td), (3, .int gr)] := hl
  refine lv_aload_n hx hb dX1_canTell_0 rfl (lv_at hl 0 rfl) ?_
  refine tg hC hK hH flX1_58 ht_h rfl rfl dX1_canTell_1 (fun xq1_ l_xq1_ g_xq1_ => ?_)
  refine lv_iconst (v := -1) hx hb dX1_canTell_4 (by decide) ?_
  refine jic_ne (tgt := 10) hx hb dX1_canTell_5 (by decide) (fun cq2_ => ?_) (fun cq2_ => ?_)
  · skip
    have cq2_ : xq1_.toInt ≠ (-1) := cq2_
    refine lv_iload_n hx hb dX1_canTell_10 rfl (lv_at hl 1 rfl) ?_
    refine lv_iconst (v := -1) hx hb dX1_canTell_11 (by decide) ?_
    refine jic_ne (tgt := 38) hx hb dX1_canTell_12 (by decide) (fun cq3_ => ?_) (fun cq3_ => ?_)
    · skip
      have cq3_ : fr.toInt ≠ (-1) := cq3_
      refine lv_aload_n hx hb dX1_canTell_38 rfl (lv_at hl 0 rfl) ?_
      refine tgr hC hK hH flX1_27 ht_h rfl rfl dX1_canTell_39 (fun qq4_ t_qq4_ => ?_)
      refine lv_iload_n hx hb dX1_canTell_42 rfl (lv_at hl 1 rfl) ?_
      refine tild hC hK hH t_qq4_ rfl (iIn (by omega) (by omega)) dX1_canTell_43 (fun xq5_ l_xq5_ g_xq5_ => ?_)
      refine lv_iconst (v := -1) hx hb dX1_canTell_44 (by decide) ?_
      refine jic_eq (tgt := 64) hx hb dX1_canTell_45 (by decide) (fun cq6_ => ?_) (fun cq6_ => ?_)
      · skip
        have cq6_ : xq5_.toInt = (-1) := cq6_
        refine lv_iconst (v := 0) hx hb dX1_canTell_64 (by decide) ?_
        exact ret_z hC hr hlk hK hH (by first | exact Or.inl rfl | exact Or.inr rfl | assumption) (⟨Or.inr (rfl), rfl, rfl⟩) (Nat.le_of_ble_eq_true rfl) (Nat.le_of_ble_eq_true rfl) dX1_canTell_65
      · skip
        have cq6_ : xq5_.toInt ≠ (-1) := cq6_
        refine lv_iload_n hx hb dX1_canTell_48 rfl (lv_at hl 2 rfl) ?_
        refine lv_aload_n hx hb dX1_canTell_49 rfl (lv_at hl 0 rfl) ?_
        refine tgr hC hK hH flX1_27 ht_h rfl rfl dX1_canTell_50 (fun qq7_ t_qq7_ => ?_)
        refine lv_iload_n hx hb dX1_canTell_53 rfl (lv_at hl 1 rfl) ?_
        refine tild hC hK hH t_qq7_ rfl (iIn (by omega) (by omega)) dX1_canTell_54 (fun xq8_ l_xq8_ g_xq8_ => ?_)
        refine lv_isub hx hb dX1_canTell_55 ?_
        refine lv_topi (fun zq9_ e_zq9_ => ?_)
        refine lv_iload_n hx hb dX1_canTell_56 rfl (lv_at hl 3 rfl) ?_
        refine jic_gt (tgt := 64) hx hb dX1_canTell_57 (by decide) (fun cq10_ => ?_) (fun cq10_ => ?_)
        · skip
          have cq10_ : gr.toInt < zq9_.toInt := cq10_
          refine lv_iconst (v := 0) hx hb dX1_canTell_64 (by decide) ?_
          subst e_zq9_
          exact ret_z hC hr hlk hK hH (by first | exact Or.inl rfl | exact Or.inr rfl | assumption) (⟨Or.inr (rfl), rfl, rfl⟩) (Nat.le_of_ble_eq_true rfl) (Nat.le_of_ble_eq_true rfl) dX1_canTell_65
        · skip
          have cq10_ : zq9_.toInt ≤ gr.toInt := cq10_
          refine lv_iconst (v := 1) hx hb dX1_canTell_60 (by decide) ?_
          refine lv_goto (tgt := 65) hx hb dX1_canTell_61 (by decide) ?_
          subst e_zq9_
          exact ret_z hC hr hlk hK hH (by first | exact Or.inl rfl | exact Or.inr rfl | assumption) (⟨Or.inl (rfl), rfl, rfl⟩) (Nat.le_of_ble_eq_true rfl) (Nat.le_of_ble_eq_true rfl) dX1_canTell_65
    · skip
      have cq3_ : fr.toInt = (-1) := cq3_
      refine lv_aload_n hx hb dX1_canTell_15 rfl (lv_at hl 0 rfl) ?_
      refine goI hK hH (runV (As := []) (rest := []) hC hK hH (c_X1_hasTitle ht_h) mlX1_159 (rcvT hK hH ht_h rfl rfl) ⟨⟨Nat.le_of_ble_eq_true rfl, Nat.le_of_ble_eq_true rfl⟩, Nat.le_of_ble_eq_true rfl, Nat.le_of_ble_eq_true rfl⟩ rfl hl.1 rfl (Nat.le_of_ble_eq_true rfl) dX1_canTell_16) (fun rq13_ Mq11_ Tq12_ Hq_ lcq_ hP hz hH => ?_)
      try dsimp only at hP
      obtain ⟨(er_rq13_ | er_rq13_), eT, eM⟩ := hP
      · skip
        have eT := eT.symm; subst eT
        have er_rq13_ := er_rq13_.symm; subst er_rq13_
        have eM := eM.symm; subst eM
        refine jif_eq (tgt := 36) hx hb dX1_canTell_19 (by decide) (fun cq14_ => absurd cq14_ (by decide)) (fun cq14_ => ?_)
        refine lv_iload_n hx hb dX1_canTell_22 rfl (lv_at hl 2 rfl) ?_
        refine lv_aload_n hx hb dX1_canTell_23 rfl (lv_at hl 0 rfl) ?_
        refine tg hC hK hH flX1_58 ht_h rfl rfl dX1_canTell_24 (fun xq15_ l_xq15_ g_xq15_ => ?_)
        refine lv_isub hx hb dX1_canTell_27 ?_
        refine lv_topi (fun zq16_ e_zq16_ => ?_)
        refine lv_iload_n hx hb dX1_canTell_28 rfl (lv_at hl 3 rfl) ?_
        refine jic_gt (tgt := 36) hx hb dX1_canTell_29 (by decide) (fun cq17_ => ?_) (fun cq17_ => ?_)
        · skip
          have cq17_ : gr.toInt < zq16_.toInt := cq17_
          refine lv_iconst (v := 0) hx hb dX1_canTell_36 (by decide) ?_
          subst e_zq16_
          exact ret_z hC hr hlk hK hH (by first | exact Or.inl rfl | exact Or.inr rfl | assumption) (⟨Or.inr (rfl), rfl, rfl⟩) (Nat.le_of_ble_eq_true rfl) (Nat.le_of_ble_eq_true rfl) dX1_canTell_37
        · skip
          have cq17_ : zq16_.toInt ≤ gr.toInt := cq17_
          refine lv_iconst (v := 1) hx hb dX1_canTell_32 (by decide) ?_
          refine lv_goto (tgt := 37) hx hb dX1_canTell_33 (by decide) ?_
          subst e_zq16_
          exact ret_z hC hr hlk hK hH (by first | exact Or.inl rfl | exact Or.inr rfl | assumption) (⟨Or.inl (rfl), rfl, rfl⟩) (Nat.le_of_ble_eq_true rfl) (Nat.le_of_ble_eq_true rfl) dX1_canTell_37
      · skip
        have eT := eT.symm; subst eT
        have er_rq13_ := er_rq13_.symm; subst er_rq13_
        have eM := eM.symm; subst eM
        refine jif_eq (tgt := 36) hx hb dX1_canTell_19 (by decide) (fun cq18_ => ?_) (fun cq18_ => absurd cq18_ (by decide))
        refine lv_iconst (v := 0) hx hb dX1_canTell_36 (by decide) ?_
        exact ret_z hC hr hlk hK hH (by first | exact Or.inl rfl | exact Or.inr rfl | assumption) (⟨Or.inr (rfl), rfl, rfl⟩) (Nat.le_of_ble_eq_true rfl) (Nat.le_of_ble_eq_true rfl) dX1_canTell_37
  · skip
    have cq2_ : xq1_.toInt = (-1) := cq2_
    refine lv_iconst (v := 0) hx hb dX1_canTell_8 (by decide) ?_
    exact ret_z hC hr hlk hK hH (by first | exact Or.inl rfl | exact Or.inr rfl | assumption) (⟨Or.inr (rfl), rfl, rfl⟩) (Nat.le_of_ble_eq_true rfl) (Nat.le_of_ble_eq_true rfl) dX1_canTell_9
set_option maxHeartbeats 4000000 in
set_option maxRecDepth 100000 in
theorem c_X1_binds {l : Launch} {D : va_G} {kA : Nat → ClassId} {M : mM} {T : mT} {sz : Nat} {h : Nat} {ps td : Int32} (ht_h : T h = some 2) : mCi l yX1_binds cX1_binds 4 (some .boolean) 4 0 0 D kA M T sz [.ref h, .int ps, .int td] (fun r u => ((r = 1) ∨ (r = 0)) ∧ u.2 = T ∧ u.1 = M) := by
  unfold mCi
  refine start_W (by decide) (Nat.le_of_ble_eq_true rfl) ?_
  intro p e s m below meth c ls hC hr hlk hnm hK hH hsz hl
  have hx := hC.1
  have hb := hC.2.1
  have hl : lv_has ls 4 [(0, .ref h), (1, .int ps), (2, .int td)] := hl
  refine lv_iconst (v := 0) hx hb dX1_binds_0 (by decide) ?_
  refine lv_istore_n (lv' := [(3, .int 0), (0, .ref h), (1, .int ps), (2, .int td)]) hx hb dX1_binds_1 rfl hl (by decide) rfl (fun ls hl => ?_)
  have loop : ∀ (n : Nat) (iq1_ : Int32) (Hq_ : Heap) (lcq_ : List Loc) (ls : Array Slot), iq1_.toInt + (n : Int) = 14 → (0 : Int) ≤ iq1_.toInt → iq1_.toInt ≤ 14 → mS D kA M T (mA M T sz) s.heap Hq_ lcq_ → lv_has ls 4 [(3, .int iq1_), (0, .ref h), (1, .int ps), (2, .int td)] → W p l e (rmL 4 0 0) s m ([.ref h, .int ps, .int td] : List Value).toArray below meth c Hq_ lcq_ 0 0 (MQ below (va_Qi (fun r u => ((r = 1) ∨ (r = 0)) ∧ u.2 = T ∧ u.1 = M) (mB D kA M T sz) (mA M T sz)) ([.ref h, .int ps, .int td] : List Value).toArray s 0 0 (mA M T sz)) (F0 m 2 ls []) := by
    intro n
    induction n with
    | zero =>
      intro iq1_ Hq_ lcq_ ls hi_iq1_ h0_iq1_ h9_iq1_ hH hl
      have hi2_iq1_ : iq1_.toInt = 14 := by omega
      refine lv_iload_n hx hb dX1_binds_2 rfl (lv_at hl 0 rfl) ?_
      refine lv_aload_n hx hb dX1_binds_3 rfl (lv_at hl 1 rfl) ?_
      refine goI hK hH (runV (As := []) (rest := [.int iq1_]) hC hK hH (c_X1_parties ht_h) mlX1_113 (rcvT hK hH ht_h rfl rfl) ⟨⟨Nat.le_of_ble_eq_true rfl, Nat.le_of_ble_eq_true rfl⟩, Nat.le_of_ble_eq_true rfl, Nat.le_of_ble_eq_true rfl⟩ rfl hl.1 rfl (Nat.le_of_ble_eq_true rfl) dX1_binds_4) (fun rq4_ Mq2_ Tq3_ Hq_ lcq_ hP hz hH => ?_)
      try dsimp only at hP
      obtain ⟨(⟨l_rq4_, g_rq4_⟩), eT, eM⟩ := hP
      have eT := eT.symm; subst eT
      have eM := eM.symm; subst eM
      refine jic_ge (tgt := 36) hx hb dX1_binds_7 (by decide) (fun cq5_ => ?_) (fun cq5_ => absurd cq5_ (by have := iRg iq1_; have := iRg rq4_; omega))
      have cq5_ : rq4_.toInt ≤ iq1_.toInt := cq5_
      refine lv_iconst (v := 0) hx hb dX1_binds_36 (by decide) ?_
      exact ret_z hC hr hlk hK hH (by first | exact Or.inl rfl | exact Or.inr rfl | assumption) (⟨Or.inr (rfl), rfl, rfl⟩) (Nat.le_of_ble_eq_true rfl) (Nat.le_of_ble_eq_true rfl) dX1_binds_37
    | succ n ih =>
      intro iq1_ Hq_ lcq_ ls hi_iq1_ h0_iq1_ h9_iq1_ hH hl
      have hi2_iq1_ : iq1_.toInt ≤ 13 := by omega
      refine lv_iload_n hx hb dX1_binds_2 rfl (lv_at hl 0 rfl) ?_
      refine lv_aload_n hx hb dX1_binds_3 rfl (lv_at hl 1 rfl) ?_
      refine goI hK hH (runV (As := []) (rest := [.int iq1_]) hC hK hH (c_X1_parties ht_h) mlX1_113 (rcvT hK hH ht_h rfl rfl) ⟨⟨Nat.le_of_ble_eq_true rfl, Nat.le_of_ble_eq_true rfl⟩, Nat.le_of_ble_eq_true rfl, Nat.le_of_ble_eq_true rfl⟩ rfl hl.1 rfl (Nat.le_of_ble_eq_true rfl) dX1_binds_4) (fun rq8_ Mq6_ Tq7_ Hq_ lcq_ hP hz hH => ?_)
      try dsimp only at hP
      obtain ⟨(⟨l_rq8_, g_rq8_⟩), eT, eM⟩ := hP
      have eT := eT.symm; subst eT
      have eM := eM.symm; subst eM
      refine jic_ge (tgt := 36) hx hb dX1_binds_7 (by decide) (fun cq9_ => ?_) (fun cq9_ => ?_)
      · skip
        have cq9_ : rq8_.toInt ≤ iq1_.toInt := cq9_
        refine lv_iconst (v := 0) hx hb dX1_binds_36 (by decide) ?_
        exact ret_z hC hr hlk hK hH (by first | exact Or.inl rfl | exact Or.inr rfl | assumption) (⟨Or.inr (rfl), rfl, rfl⟩) (Nat.le_of_ble_eq_true rfl) (Nat.le_of_ble_eq_true rfl) dX1_binds_37
      · skip
        have cq9_ : iq1_.toInt < rq8_.toInt := cq9_
        refine lv_aload_n hx hb dX1_binds_10 rfl (lv_at hl 1 rfl) ?_
        refine lv_iload_n hx hb dX1_binds_11 rfl (lv_at hl 0 rfl) ?_
        refine goI hK hH (runV (As := [.int iq1_]) (rest := []) hC hK hH (c_X1_who ht_h) mlX1_117 (rcvT hK hH ht_h rfl rfl) ⟨⟨Nat.le_of_ble_eq_true rfl, Nat.le_of_ble_eq_true rfl⟩, Nat.le_of_ble_eq_true rfl, Nat.le_of_ble_eq_true rfl⟩ rfl hl.1 rfl (Nat.le_of_ble_eq_true rfl) dX1_binds_12) (fun rq12_ Mq10_ Tq11_ Hq_ lcq_ hP hz hH => ?_)
        try dsimp only at hP
        obtain ⟨(-), eT, eM⟩ := hP
        have eT := eT.symm; subst eT
        have eM := eM.symm; subst eM
        refine lv_iload_n hx hb dX1_binds_15 rfl (lv_at hl 2 rfl) ?_
        refine jic_ne (tgt := 30) hx hb dX1_binds_16 (by decide) (fun cq13_ => ?_) (fun cq13_ => ?_)
        · skip
          have cq13_ : rq12_.toInt ≠ ps.toInt := cq13_
          obtain ⟨zq14_, e_zq14_⟩ : ∃ y : Int32, y = iq1_ + 1 := ⟨_, rfl⟩
          refine lv_iinc (v := zq14_) (lv' := [(3, .int zq14_), (0, .ref h), (1, .int ps), (2, .int td)]) hx hb dX1_binds_30 hl (k := 0) rfl (by rw [e_zq14_]; rfl) (by decide) rfl (fun ls hl => ?_)
          have h_zq14_ : zq14_.toInt = iq1_.toInt + 1 := by rw [e_zq14_, iAdd (by have : (1 : Int32).toInt = 1 := rfl; omega) (by have : (1 : Int32).toInt = 1 := rfl; omega)]; rfl
          refine lv_goto (tgt := 2) hx hb dX1_binds_33 (by decide) ?_
          exact ih zq14_ _ _ ls (by omega) (by omega) (by omega) hH (lv_sub hl [0, 1, 2, 3] rfl)
        · skip
          have cq13_ : rq12_.toInt = ps.toInt := cq13_
          refine lv_aload_n hx hb dX1_binds_19 rfl (lv_at hl 1 rfl) ?_
          refine lv_iload_n hx hb dX1_binds_20 rfl (lv_at hl 0 rfl) ?_
          refine lv_iload_n hx hb dX1_binds_21 rfl (lv_at hl 3 rfl) ?_
          refine goI hK hH (runV (As := [.int iq1_, .int td]) (rest := []) hC hK hH (c_X1_whyNot ht_h (by omega)) mlX1_187 (rcvT hK hH ht_h rfl rfl) ⟨⟨Nat.le_of_ble_eq_true rfl, Nat.le_of_ble_eq_true rfl⟩, Nat.le_of_ble_eq_true rfl, Nat.le_of_ble_eq_true rfl⟩ rfl hl.1 rfl (Nat.le_of_ble_eq_true rfl) dX1_binds_22) (fun rq17_ Mq15_ Tq16_ Hq_ lcq_ hP hz hH => ?_)
          try dsimp only at hP
          obtain ⟨(-), eT, eM⟩ := hP
          have eT := eT.symm; subst eT
          have eM := eM.symm; subst eM
          refine jif_ne (tgt := 30) hx hb dX1_binds_25 (by decide) (fun cq18_ => ?_) (fun cq18_ => ?_)
          · skip
            have cq18_ : rq17_.toInt ≠ 0 := cq18_
            obtain ⟨zq19_, e_zq19_⟩ : ∃ y : Int32, y = iq1_ + 1 := ⟨_, rfl⟩
            refine lv_iinc (v := zq19_) (lv' := [(3, .int zq19_), (0, .ref h), (1, .int ps), (2, .int td)]) hx hb dX1_binds_30 hl (k := 0) rfl (by rw [e_zq19_]; rfl) (by decide) rfl (fun ls hl => ?_)
            have h_zq19_ : zq19_.toInt = iq1_.toInt + 1 := by rw [e_zq19_, iAdd (by have : (1 : Int32).toInt = 1 := rfl; omega) (by have : (1 : Int32).toInt = 1 := rfl; omega)]; rfl
            refine lv_goto (tgt := 2) hx hb dX1_binds_33 (by decide) ?_
            exact ih zq19_ _ _ ls (by omega) (by omega) (by omega) hH (lv_sub hl [0, 1, 2, 3] rfl)
          · skip
            have cq18_ : rq17_.toInt = 0 := cq18_
            refine lv_iconst (v := 1) hx hb dX1_binds_28 (by decide) ?_
            exact ret_z hC hr hlk hK hH (by first | exact Or.inl rfl | exact Or.inr rfl | assumption) (⟨Or.inl (rfl), rfl, rfl⟩) (Nat.le_of_ble_eq_true rfl) (Nat.le_of_ble_eq_true rfl) dX1_binds_29
  exact loop (Int.toNat (14 - 0)) 0 _ _ ls (by have : (0 : Int32).toInt = 0 := rfl; omega) (by have : (0 : Int32).toInt = 0 := rfl; omega) (by have : (0 : Int32).toInt = 0 := rfl; omega) hH hl
set_option maxHeartbeats 4000000 in
set_option maxRecDepth 100000 in
theorem c_X1_hasCash {l : Launch} {D : va_G} {kA : Nat → ClassId} {M : mM} {T : mT} {sz : Nat} {h cs : Nat} {pt : Int32} (ht_h : T h = some 2) (ht_cs : T cs = some 3) : mCi l yX1_hasCash cX1_hasCash 4 (some .boolean) 2 0 0 D kA M T sz [.ref h, .int pt, .ref cs] (fun r u => ((r = 1) ∨ (r = 0)) ∧ u.2 = T ∧ u.1 = M) := by
  unfold mCi
  refine start_W (by decide) (Nat.le_of_ble_eq_true rfl) ?_
  intro p e s m below meth c ls hC hr hlk hnm hK hH hsz hl
  have hx := hC.1
  have hb := hC.2.1
  have hl : lv_has ls 4 [(0, .ref h), (1, .int pt), (2, .ref cs)] := hl
  refine lv_aload_n hx hb dX1_hasCash_0 rfl (lv_at hl 0 rfl) ?_
  refine lv_iload_n hx hb dX1_hasCash_1 rfl (lv_at hl 1 rfl) ?_
  refine goI hK hH (runV (As := [.int pt]) (rest := []) hC hK hH (c_X1_who ht_h) mlX1_117 (rcvT hK hH ht_h rfl rfl) ⟨⟨Nat.le_of_ble_eq_true rfl, Nat.le_of_ble_eq_true rfl⟩, Nat.le_of_ble_eq_true rfl, Nat.le_of_ble_eq_true rfl⟩ rfl hl.1 rfl (Nat.le_of_ble_eq_true rfl) dX1_hasCash_2) (fun rq3_ Mq1_ Tq2_ Hq_ lcq_ hP hz hH => ?_)
  try dsimp only at hP
  obtain ⟨(-), eT, eM⟩ := hP
  have eT := eT.symm; subst eT
  have eM := eM.symm; subst eM
  refine lv_istore_n (lv' := [(3, .int rq3_), (0, .ref h), (1, .int pt), (2, .ref cs)]) hx hb dX1_hasCash_5 rfl hl (by decide) rfl (fun ls hl => ?_)
  refine lv_iload_n hx hb dX1_hasCash_6 rfl (lv_at hl 0 rfl) ?_
  refine goI hK hH (runSN (As := [.int rq3_]) (rest := []) hC hK hH (c_X9_isPerson) mlX1_190 ⟨⟨Nat.le_of_ble_eq_true rfl, Nat.le_of_ble_eq_true rfl⟩, Nat.le_of_ble_eq_true rfl, Nat.le_of_ble_eq_true rfl⟩ rfl hl.1 rfl (Nat.le_of_ble_eq_true rfl) dX1_hasCash_7) (fun rq6_ Mq4_ Tq5_ Hq_ lcq_ hP hz hH => ?_)
  try dsimp only at hP
  obtain ⟨(⟨cq7_, er_rq6_⟩ | ⟨cq8_, er_rq6_⟩), eT, eM⟩ := hP
  · skip
    have eT := eT.symm; subst eT
    have er_rq6_ := er_rq6_.symm; subst er_rq6_
    have eM := eM.symm; subst eM
    have cq7_ : 0 ≤ rq3_.toInt ∧ rq3_.toInt ≤ 7 := cq7_
    refine jif_eq (tgt := 27) hx hb dX1_hasCash_10 (by decide) (fun cq9_ => absurd cq9_ (by decide)) (fun cq9_ => ?_)
    refine lv_aload_n hx hb dX1_hasCash_13 rfl (lv_at hl 3 rfl) ?_
    refine lv_iload_n hx hb dX1_hasCash_14 rfl (lv_at hl 0 rfl) ?_
    refine tild hC hK hH ht_cs rfl (iIn (by omega) (by omega)) dX1_hasCash_15 (fun xq10_ l_xq10_ g_xq10_ => ?_)
    refine lv_aload_n hx hb dX1_hasCash_16 rfl (lv_at hl 1 rfl) ?_
    refine tg hC hK hH flX1_81 ht_h rfl rfl dX1_hasCash_17 (fun xq11_ l_xq11_ g_xq11_ => ?_)
    refine jic_lt (tgt := 27) hx hb dX1_hasCash_20 (by decide) (fun cq12_ => ?_) (fun cq12_ => ?_)
    · skip
      have cq12_ : xq10_.toInt < xq11_.toInt := cq12_
      refine lv_iconst (v := 0) hx hb dX1_hasCash_27 (by decide) ?_
      exact ret_z hC hr hlk hK hH (by first | exact Or.inl rfl | exact Or.inr rfl | assumption) (⟨Or.inr (rfl), rfl, rfl⟩) (Nat.le_of_ble_eq_true rfl) (Nat.le_of_ble_eq_true rfl) dX1_hasCash_28
    · skip
      have cq12_ : xq11_.toInt ≤ xq10_.toInt := cq12_
      refine lv_iconst (v := 1) hx hb dX1_hasCash_23 (by decide) ?_
      refine lv_goto (tgt := 28) hx hb dX1_hasCash_24 (by decide) ?_
      exact ret_z hC hr hlk hK hH (by first | exact Or.inl rfl | exact Or.inr rfl | assumption) (⟨Or.inl (rfl), rfl, rfl⟩) (Nat.le_of_ble_eq_true rfl) (Nat.le_of_ble_eq_true rfl) dX1_hasCash_28
  · skip
    have eT := eT.symm; subst eT
    have er_rq6_ := er_rq6_.symm; subst er_rq6_
    have eM := eM.symm; subst eM
    have cq8_ : ¬ (0 ≤ rq3_.toInt ∧ rq3_.toInt ≤ 7) := cq8_
    refine jif_eq (tgt := 27) hx hb dX1_hasCash_10 (by decide) (fun cq13_ => ?_) (fun cq13_ => absurd cq13_ (by decide))
    refine lv_iconst (v := 0) hx hb dX1_hasCash_27 (by decide) ?_
    exact ret_z hC hr hlk hK hH (by first | exact Or.inl rfl | exact Or.inr rfl | assumption) (⟨Or.inr (rfl), rfl, rfl⟩) (Nat.le_of_ble_eq_true rfl) (Nat.le_of_ble_eq_true rfl) dX1_hasCash_28
set_option maxHeartbeats 4000000 in
set_option maxRecDepth 100000 in
theorem c_X1_greatestPayer {l : Launch} {D : va_G} {kA : Nat → ClassId} {M : mM} {T : mT} {sz : Nat} {h cs : Nat} {td : Int32} (ht_h : T h = some 2) (ht_cs : T cs = some 3) : mCi l yX1_greatestPayer cX1_greatestPayer 4 (some .int) 4 0 0 D kA M T sz [.ref h, .ref cs, .int td] (fun r u => ((((-1 : Int) ≤ r.toInt ∧ r.toInt ≤ 13))) ∧ u.2 = T ∧ u.1 = M) := by
  unfold mCi
  refine start_W (by decide) (Nat.le_of_ble_eq_true rfl) ?_
  intro p e s m below meth c ls hC hr hlk hnm hK hH hsz hl
  have hx := hC.1
  have hb := hC.2.1
  have hl : lv_has ls 4 [(0, .ref h), (1, .ref cs), (2, .int td)] := hl
  refine lv_aload_n hx hb dX1_greatestPayer_0 rfl (lv_at hl 0 rfl) ?_
  refine goI hK hH (runV (As := []) (rest := []) hC hK hH (c_X1_parties ht_h) mlX1_113 (rcvT hK hH ht_h rfl rfl) ⟨⟨Nat.le_of_ble_eq_true rfl, Nat.le_of_ble_eq_true rfl⟩, Nat.le_of_ble_eq_true rfl, Nat.le_of_ble_eq_true rfl⟩ rfl hl.1 rfl (Nat.le_of_ble_eq_true rfl) dX1_greatestPayer_1) (fun rq3_ Mq1_ Tq2_ Hq_ lcq_ hP hz hH => ?_)
  try dsimp only at hP
  obtain ⟨(⟨l_rq3_, g_rq3_⟩), eT, eM⟩ := hP
  have eT := eT.symm; subst eT
  have eM := eM.symm; subst eM
  refine lv_iconst (v := 1) hx hb dX1_greatestPayer_4 (by decide) ?_
  refine lv_isub hx hb dX1_greatestPayer_5 ?_
  refine lv_topi (fun zq4_ e_zq4_ => ?_)
  have h_zq4_ : zq4_.toInt = rq3_.toInt - 1 := by rw [e_zq4_, iSub (by have := iRg rq3_; have : (1 : Int32).toInt = 1 := rfl; omega) (by have := iRg rq3_; have : (1 : Int32).toInt = 1 := rfl; omega)]; rfl
  refine lv_istore_n (lv' := [(3, .int zq4_), (0, .ref h), (1, .ref cs), (2, .int td)]) hx hb dX1_greatestPayer_6 rfl hl (by decide) rfl (fun ls hl => ?_)
  have loop : ∀ (n : Nat) (iq5_ : Int32) (Hq_ : Heap) (lcq_ : List Loc) (ls : Array Slot), iq5_.toInt + 1 = (n : Int) → (-1 : Int) ≤ iq5_.toInt → iq5_.toInt ≤ 13 → mS D kA M T (mA M T sz) s.heap Hq_ lcq_ → lv_has ls 4 [(3, .int iq5_), (0, .ref h), (1, .ref cs), (2, .int td)] → W p l e (rmL 4 0 0) s m ([.ref h, .ref cs, .int td] : List Value).toArray below meth c Hq_ lcq_ 0 0 (MQ below (va_Qi (fun r u => ((((-1 : Int) ≤ r.toInt ∧ r.toInt ≤ 13))) ∧ u.2 = T ∧ u.1 = M) (mB D kA M T sz) (mA M T sz)) ([.ref h, .ref cs, .int td] : List Value).toArray s 0 0 (mA M T sz)) (F0 m 7 ls []) := by
    intro n
    induction n with
    | zero =>
      intro iq5_ Hq_ lcq_ ls hi_iq5_ h0_iq5_ h9_iq5_ hH hl
      have hi2_iq5_ : iq5_.toInt = -1 := by omega
      refine lv_iload_n hx hb dX1_greatestPayer_7 rfl (lv_at hl 0 rfl) ?_
      refine jif_lt (tgt := 37) hx hb dX1_greatestPayer_8 (by decide) (fun cq6_ => ?_) (fun cq6_ => absurd cq6_ (by have := iRg iq5_; have : (0 : Int32).toInt = 0 := rfl; omega))
      have cq6_ : iq5_.toInt < 0 := cq6_
      refine lv_iconst (v := -1) hx hb dX1_greatestPayer_37 (by decide) ?_
      subst e_zq4_
      exact ret_i hC hr hlk hK hH (⟨⟨by decide, by decide⟩, rfl, rfl⟩) (Nat.le_of_ble_eq_true rfl) (Nat.le_of_ble_eq_true rfl) dX1_greatestPayer_38
    | succ n ih =>
      intro iq5_ Hq_ lcq_ ls hi_iq5_ h0_iq5_ h9_iq5_ hH hl
      have hi2_iq5_ : 0 ≤ iq5_.toInt := by omega
      refine lv_iload_n hx hb dX1_greatestPayer_7 rfl (lv_at hl 0 rfl) ?_
      refine jif_lt (tgt := 37) hx hb dX1_greatestPayer_8 (by decide) (fun cq7_ => absurd cq7_ (by have := iRg iq5_; have : (0 : Int32).toInt = 0 := rfl; omega)) (fun cq7_ => ?_)
      have cq7_ : 0 ≤ iq5_.toInt := cq7_
      refine lv_aload_n hx hb dX1_greatestPayer_11 rfl (lv_at hl 1 rfl) ?_
      refine lv_iload_n hx hb dX1_greatestPayer_12 rfl (lv_at hl 0 rfl) ?_
      refine lv_aload_n hx hb dX1_greatestPayer_13 rfl (lv_at hl 2 rfl) ?_
      refine goI hK hH (runV (As := [.int iq5_, .ref cs]) (rest := []) hC hK hH (c_X1_hasCash ht_h ht_cs) mlX1_193 (rcvT hK hH ht_h rfl rfl) ⟨⟨Nat.le_of_ble_eq_true rfl, Nat.le_of_ble_eq_true rfl⟩, Nat.le_of_ble_eq_true rfl, Nat.le_of_ble_eq_true rfl⟩ rfl hl.1 rfl (Nat.le_of_ble_eq_true rfl) dX1_greatestPayer_14) (fun rq10_ Mq8_ Tq9_ Hq_ lcq_ hP hz hH => ?_)
      try dsimp only at hP
      obtain ⟨(er_rq10_ | er_rq10_), eT, eM⟩ := hP
      · skip
        have eT := eT.symm; subst eT
        have er_rq10_ := er_rq10_.symm; subst er_rq10_
        have eM := eM.symm; subst eM
        refine jif_eq (tgt := 31) hx hb dX1_greatestPayer_17 (by decide) (fun cq11_ => absurd cq11_ (by decide)) (fun cq11_ => ?_)
        refine lv_aload_n hx hb dX1_greatestPayer_20 rfl (lv_at hl 1 rfl) ?_
        refine lv_iload_n hx hb dX1_greatestPayer_21 rfl (lv_at hl 0 rfl) ?_
        refine lv_iload_n hx hb dX1_greatestPayer_22 rfl (lv_at hl 3 rfl) ?_
        refine goI hK hH (runV (As := [.int iq5_, .int td]) (rest := []) hC hK hH (c_X1_whyNot ht_h (by omega)) mlX1_187 (rcvT hK hH ht_h rfl rfl) ⟨⟨Nat.le_of_ble_eq_true rfl, Nat.le_of_ble_eq_true rfl⟩, Nat.le_of_ble_eq_true rfl, Nat.le_of_ble_eq_true rfl⟩ rfl hl.1 rfl (Nat.le_of_ble_eq_true rfl) dX1_greatestPayer_23) (fun rq14_ Mq12_ Tq13_ Hq_ lcq_ hP hz hH => ?_)
        try dsimp only at hP
        obtain ⟨(-), eT, eM⟩ := hP
        have eT := eT.symm; subst eT
        have eM := eM.symm; subst eM
        refine jif_ne (tgt := 31) hx hb dX1_greatestPayer_26 (by decide) (fun cq15_ => ?_) (fun cq15_ => ?_)
        · skip
          have cq15_ : rq14_.toInt ≠ 0 := cq15_
          obtain ⟨zq16_, e_zq16_⟩ : ∃ y : Int32, y = iq5_ + (-1) := ⟨_, rfl⟩
          refine lv_iinc (v := zq16_) (lv' := [(3, .int zq16_), (0, .ref h), (1, .ref cs), (2, .int td)]) hx hb dX1_greatestPayer_31 hl (k := 0) rfl (by rw [e_zq16_]; rfl) (by decide) rfl (fun ls hl => ?_)
          have h_zq16_ : zq16_.toInt = iq5_.toInt + -1 := by rw [e_zq16_, iAdd (by have : (-1 : Int32).toInt = -1 := rfl; omega) (by have : (-1 : Int32).toInt = -1 := rfl; omega)]; rfl
          refine lv_goto (tgt := 7) hx hb dX1_greatestPayer_34 (by decide) ?_
          exact ih zq16_ _ _ ls (by omega) (by omega) (by omega) hH (lv_sub hl [0, 1, 2, 3] rfl)
        · skip
          have cq15_ : rq14_.toInt = 0 := cq15_
          refine lv_iload_n hx hb dX1_greatestPayer_29 rfl (lv_at hl 0 rfl) ?_
          subst e_zq4_
          exact ret_i hC hr hlk hK hH (⟨⟨by omega, by omega⟩, rfl, rfl⟩) (Nat.le_of_ble_eq_true rfl) (Nat.le_of_ble_eq_true rfl) dX1_greatestPayer_30
      · skip
        have eT := eT.symm; subst eT
        have er_rq10_ := er_rq10_.symm; subst er_rq10_
        have eM := eM.symm; subst eM
        refine jif_eq (tgt := 31) hx hb dX1_greatestPayer_17 (by decide) (fun cq17_ => ?_) (fun cq17_ => absurd cq17_ (by decide))
        obtain ⟨zq18_, e_zq18_⟩ : ∃ y : Int32, y = iq5_ + (-1) := ⟨_, rfl⟩
        refine lv_iinc (v := zq18_) (lv' := [(3, .int zq18_), (0, .ref h), (1, .ref cs), (2, .int td)]) hx hb dX1_greatestPayer_31 hl (k := 0) rfl (by rw [e_zq18_]; rfl) (by decide) rfl (fun ls hl => ?_)
        have h_zq18_ : zq18_.toInt = iq5_.toInt + -1 := by rw [e_zq18_, iAdd (by have : (-1 : Int32).toInt = -1 := rfl; omega) (by have : (-1 : Int32).toInt = -1 := rfl; omega)]; rfl
        refine lv_goto (tgt := 7) hx hb dX1_greatestPayer_34 (by decide) ?_
        exact ih zq18_ _ _ ls (by omega) (by omega) (by omega) hH (lv_sub hl [0, 1, 2, 3] rfl)
  exact loop (Int.toNat (zq4_.toInt + 1)) zq4_ _ _ ls (by have := iRg zq4_; omega) (by have := iRg zq4_; omega) (by have := iRg zq4_; omega) hH hl
