set_option maxHeartbeats 4000000 in
set_option maxRecDepth 100000 in
theorem c_X10_isIn {l : Launch} {D : va_G} {kA : Nat → ClassId} {M : mM} {T : mT} {sz : Nat} {v le mo : Int32}  : mCi l yX10_isIn cX10_isIn 3 (some .boolean) 0 0 0 D kA M T sz [.int v, .int le, .int mo] (fun r u => (((le.toInt ≤ v.toInt ∧ v.toInt ≤ mo.toInt) ∧ r = 1) ∨ ((¬ (le.toInt ≤ v.toInt ∧ v.toInt ≤ mo.toInt)) ∧ r = 0)) ∧ u.2 = T ∧ u.1 = M) := by
  unfold mCi
  refine start_W (by decide) (Nat.le_of_ble_eq_true rfl) ?_
  intro p e s m below meth c ls hC hr hlk hnm hK hH hsz hl
  have hx := hC.1
  have hb := hC.2.1
  have hl : lv_has ls 3 [(0, .int v), (1, .int le), (2, .int mo)] := hl
  refine lv_iload_n hx hb dX10_isIn_0 rfl (lv_at hl 0 rfl) ?_
  refine lv_iload_n hx hb dX10_isIn_1 rfl (lv_at hl 1 rfl) ?_
  refine jic_lt (tgt := 14) hx hb dX10_isIn_2 (by decide) (fun cq1_ => ?_) (fun cq1_ => ?_)
  · skip
    have cq1_ : v.toInt < le.toInt := cq1_
    refine lv_iconst (v := 0) hx hb dX10_isIn_14 (by decide) ?_
    exact ret_z hC hr hlk hK hH (by first | exact Or.inl rfl | exact Or.inr rfl | assumption) (⟨Or.inr (⟨by omega, rfl⟩), rfl, rfl⟩) (Nat.le_of_ble_eq_true rfl) (Nat.le_of_ble_eq_true rfl) dX10_isIn_15
  · skip
    have cq1_ : le.toInt ≤ v.toInt := cq1_
    refine lv_iload_n hx hb dX10_isIn_5 rfl (lv_at hl 0 rfl) ?_
    refine lv_iload_n hx hb dX10_isIn_6 rfl (lv_at hl 2 rfl) ?_
    refine jic_gt (tgt := 14) hx hb dX10_isIn_7 (by decide) (fun cq2_ => ?_) (fun cq2_ => ?_)
    · skip
      have cq2_ : mo.toInt < v.toInt := cq2_
      refine lv_iconst (v := 0) hx hb dX10_isIn_14 (by decide) ?_
      exact ret_z hC hr hlk hK hH (by first | exact Or.inl rfl | exact Or.inr rfl | assumption) (⟨Or.inr (⟨by omega, rfl⟩), rfl, rfl⟩) (Nat.le_of_ble_eq_true rfl) (Nat.le_of_ble_eq_true rfl) dX10_isIn_15
    · skip
      have cq2_ : v.toInt ≤ mo.toInt := cq2_
      refine lv_iconst (v := 1) hx hb dX10_isIn_10 (by decide) ?_
      refine lv_goto (tgt := 15) hx hb dX10_isIn_11 (by decide) ?_
      exact ret_z hC hr hlk hK hH (by first | exact Or.inl rfl | exact Or.inr rfl | assumption) (⟨Or.inl (⟨by omega, rfl⟩), rfl, rfl⟩) (Nat.le_of_ble_eq_true rfl) (Nat.le_of_ble_eq_true rfl) dX10_isIn_15
set_option maxHeartbeats 4000000 in
set_option maxRecDepth 100000 in
theorem c_X10_isPerson {l : Launch} {D : va_G} {kA : Nat → ClassId} {M : mM} {T : mT} {sz : Nat} {n : Int32}  : mCi l yX10_isPerson cX10_isPerson 1 (some .boolean) 1 0 0 D kA M T sz [.int n] (fun r u => (((0 ≤ n.toInt ∧ n.toInt ≤ 7) ∧ r = 1) ∨ ((¬ (0 ≤ n.toInt ∧ n.toInt ≤ 7)) ∧ r = 0)) ∧ u.2 = T ∧ u.1 = M) := by
  unfold mCi
  refine start_W (by decide) (Nat.le_of_ble_eq_true rfl) ?_
  intro p e s m below meth c ls hC hr hlk hnm hK hH hsz hl
  have hx := hC.1
  have hb := hC.2.1
  have hl : lv_has ls 1 [(0, .int n)] := hl
  refine lv_iload_n hx hb dX10_isPerson_0 rfl (lv_at hl 0 rfl) ?_
  refine lv_iconst (v := 0) hx hb dX10_isPerson_1 (by decide) ?_
  refine lv_bipush (v := 7) hx hb dX10_isPerson_2 (by decide) ?_
  refine goI hK hH (runS (As := [.int n, .int 0, .int 7]) (rest := []) hC hK hH (c_X10_isIn) mlX10_33 ⟨⟨Nat.le_of_ble_eq_true rfl, Nat.le_of_ble_eq_true rfl⟩, Nat.le_of_ble_eq_true rfl, Nat.le_of_ble_eq_true rfl⟩ rfl hl.1 rfl (Nat.le_of_ble_eq_true rfl) dX10_isPerson_4) (fun rq3_ Mq1_ Tq2_ Hq_ lcq_ hP hz hH => ?_)
  try dsimp only at hP
  obtain ⟨(⟨cq4_, er_rq3_⟩ | ⟨cq5_, er_rq3_⟩), eT, eM⟩ := hP
  · skip
    have eT := eT.symm; subst eT
    have er_rq3_ := er_rq3_.symm; subst er_rq3_
    have eM := eM.symm; subst eM
    have cq4_ : (0 : Int) ≤ n.toInt ∧ n.toInt ≤ (7 : Int) := cq4_
    exact ret_z hC hr hlk hK hH (by first | exact Or.inl rfl | exact Or.inr rfl | assumption) (⟨Or.inl (⟨by omega, rfl⟩), rfl, rfl⟩) (Nat.le_of_ble_eq_true rfl) (Nat.le_of_ble_eq_true rfl) dX10_isPerson_7
  · skip
    have eT := eT.symm; subst eT
    have er_rq3_ := er_rq3_.symm; subst er_rq3_
    have eM := eM.symm; subst eM
    have cq5_ : ¬ ((0 : Int) ≤ n.toInt ∧ n.toInt ≤ (7 : Int)) := cq5_
    exact ret_z hC hr hlk hK hH (by first | exact Or.inl rfl | exact Or.inr rfl | assumption) (⟨Or.inr (⟨by omega, rfl⟩), rfl, rfl⟩) (Nat.le_of_ble_eq_true rfl) (Nat.le_of_ble_eq_true rfl) dX10_isPerson_7
set_option maxHeartbeats 4000000 in
set_option maxRecDepth 100000 in
theorem c_X10_at {l : Launch} {D : va_G} {kA : Nat → ClassId} {M : mM} {T : mT} {sz : Nat} {bb bi : Int32} (h1 : 0 ≤ bb.toInt ∧ bb.toInt ≤ 1140) (h2 : 0 ≤ bi.toInt ∧ bi.toInt ≤ 3) : mCi l yX10_at cX10_at 2 (some .int) 0 0 0 D kA M T sz [.int bb, .int bi] (fun r u => (r.toInt = bb.toInt + 20 + 280 * bi.toInt ∧ (((20 : Int) ≤ r.toInt ∧ r.toInt ≤ 2260))) ∧ u.2 = T ∧ u.1 = M) := by
  unfold mCi
  refine start_W (by decide) (Nat.le_of_ble_eq_true rfl) ?_
  intro p e s m below meth c ls hC hr hlk hnm hK hH hsz hl
  have hx := hC.1
  have hb := hC.2.1
  have hl : lv_has ls 2 [(0, .int bb), (1, .int bi)] := hl
  refine lv_iload_n hx hb dX10_at_0 rfl (lv_at hl 0 rfl) ?_
  refine lv_bipush (v := 20) hx hb dX10_at_1 (by decide) ?_
  refine lv_iadd hx hb dX10_at_3 ?_
  refine lv_topi (fun zq1_ e_zq1_ => ?_)
  have h_zq1_ : zq1_.toInt = bb.toInt + 20 := by rw [e_zq1_, iAdd (by have := iRg bb; have : (20 : Int32).toInt = 20 := rfl; omega) (by have := iRg bb; have : (20 : Int32).toInt = 20 := rfl; omega)]; rfl
  refine lv_sipush (v := 280) hx hb dX10_at_4 (by decide) ?_
  refine lv_iload_n hx hb dX10_at_7 rfl (lv_at hl 1 rfl) ?_
  refine lv_imul hx hb dX10_at_8 ?_
  refine lv_topi (fun zq2_ e_zq2_ => ?_)
  have h_zq2_ : zq2_.toInt = 280 * bi.toInt := by rw [e_zq2_, iMul (by show (-2147483648 : Int) ≤ 280 * bi.toInt; omega) (by show 280 * bi.toInt ≤ (2147483647 : Int); omega)]; rfl
  refine lv_iadd hx hb dX10_at_9 ?_
  refine lv_topi (fun zq3_ e_zq3_ => ?_)
  have h_zq3_ : zq3_.toInt = zq1_.toInt + zq2_.toInt := by rw [e_zq3_, iAdd (by have := iRg zq1_; have := iRg zq2_; omega) (by have := iRg zq1_; have := iRg zq2_; omega)]
  exact ret_i hC hr hlk hK hH (⟨⟨by omega, ⟨by omega, by omega⟩⟩, rfl, rfl⟩) (Nat.le_of_ble_eq_true rfl) (Nat.le_of_ble_eq_true rfl) dX10_at_10
set_option maxHeartbeats 4000000 in
set_option maxRecDepth 100000 in
theorem c_X10_stepAt {l : Launch} {D : va_G} {kA : Nat → ClassId} {M : mM} {T : mT} {sz : Nat} {x k : Int32} (h1 : 0 ≤ x.toInt ∧ x.toInt ≤ 2260) (h2 : 0 ≤ k.toInt ∧ k.toInt ≤ 12) : mCi l yX10_stepAt cX10_stepAt 2 (some .int) 0 0 0 D kA M T sz [.int x, .int k] (fun r u => (r.toInt = x.toInt + 40 + 12 * k.toInt ∧ (((0 : Int) ≤ r.toInt ∧ r.toInt ≤ 3000))) ∧ u.2 = T ∧ u.1 = M) := by
  unfold mCi
  refine start_W (by decide) (Nat.le_of_ble_eq_true rfl) ?_
  intro p e s m below meth c ls hC hr hlk hnm hK hH hsz hl
  have hx := hC.1
  have hb := hC.2.1
  have hl : lv_has ls 2 [(0, .int x), (1, .int k)] := hl
  refine lv_iload_n hx hb dX10_stepAt_0 rfl (lv_at hl 0 rfl) ?_
  refine lv_bipush (v := 40) hx hb dX10_stepAt_1 (by decide) ?_
  refine lv_iadd hx hb dX10_stepAt_3 ?_
  refine lv_topi (fun zq1_ e_zq1_ => ?_)
  have h_zq1_ : zq1_.toInt = x.toInt + 40 := by rw [e_zq1_, iAdd (by have := iRg x; have : (40 : Int32).toInt = 40 := rfl; omega) (by have := iRg x; have : (40 : Int32).toInt = 40 := rfl; omega)]; rfl
  refine lv_bipush (v := 12) hx hb dX10_stepAt_4 (by decide) ?_
  refine lv_iload_n hx hb dX10_stepAt_6 rfl (lv_at hl 1 rfl) ?_
  refine lv_imul hx hb dX10_stepAt_7 ?_
  refine lv_topi (fun zq2_ e_zq2_ => ?_)
  have h_zq2_ : zq2_.toInt = 12 * k.toInt := by rw [e_zq2_, iMul (by show (-2147483648 : Int) ≤ 12 * k.toInt; omega) (by show 12 * k.toInt ≤ (2147483647 : Int); omega)]; rfl
  refine lv_iadd hx hb dX10_stepAt_8 ?_
  refine lv_topi (fun zq3_ e_zq3_ => ?_)
  have h_zq3_ : zq3_.toInt = zq1_.toInt + zq2_.toInt := by rw [e_zq3_, iAdd (by have := iRg zq1_; have := iRg zq2_; omega) (by have := iRg zq1_; have := iRg zq2_; omega)]
  exact ret_i hC hr hlk hK hH (⟨⟨by omega, ⟨by omega, by omega⟩⟩, rfl, rfl⟩) (Nat.le_of_ble_eq_true rfl) (Nat.le_of_ble_eq_true rfl) dX10_stepAt_9
set_option maxHeartbeats 4000000 in
set_option maxRecDepth 100000 in
theorem c_X10_partyAt {l : Launch} {D : va_G} {kA : Nat → ClassId} {M : mM} {T : mT} {sz : Nat} {x k : Int32} (h1 : 0 ≤ x.toInt ∧ x.toInt ≤ 2260) (h2 : 0 ≤ k.toInt ∧ k.toInt ≤ 14) : mCi l yX10_partyAt cX10_partyAt 2 (some .int) 0 0 0 D kA M T sz [.int x, .int k] (fun r u => (r.toInt = x.toInt + 184 + 6 * k.toInt ∧ (((0 : Int) ≤ r.toInt ∧ r.toInt ≤ 3000))) ∧ u.2 = T ∧ u.1 = M) := by
  unfold mCi
  refine start_W (by decide) (Nat.le_of_ble_eq_true rfl) ?_
  intro p e s m below meth c ls hC hr hlk hnm hK hH hsz hl
  have hx := hC.1
  have hb := hC.2.1
  have hl : lv_has ls 2 [(0, .int x), (1, .int k)] := hl
  refine lv_iload_n hx hb dX10_partyAt_0 rfl (lv_at hl 0 rfl) ?_
  refine lv_sipush (v := 184) hx hb dX10_partyAt_1 (by decide) ?_
  refine lv_iadd hx hb dX10_partyAt_4 ?_
  refine lv_topi (fun zq1_ e_zq1_ => ?_)
  have h_zq1_ : zq1_.toInt = x.toInt + 184 := by rw [e_zq1_, iAdd (by have := iRg x; have : (184 : Int32).toInt = 184 := rfl; omega) (by have := iRg x; have : (184 : Int32).toInt = 184 := rfl; omega)]; rfl
  refine lv_bipush (v := 6) hx hb dX10_partyAt_5 (by decide) ?_
  refine lv_iload_n hx hb dX10_partyAt_7 rfl (lv_at hl 1 rfl) ?_
  refine lv_imul hx hb dX10_partyAt_8 ?_
  refine lv_topi (fun zq2_ e_zq2_ => ?_)
  have h_zq2_ : zq2_.toInt = 6 * k.toInt := by rw [e_zq2_, iMul (by show (-2147483648 : Int) ≤ 6 * k.toInt; omega) (by show 6 * k.toInt ≤ (2147483647 : Int); omega)]; rfl
  refine lv_iadd hx hb dX10_partyAt_9 ?_
  refine lv_topi (fun zq3_ e_zq3_ => ?_)
  have h_zq3_ : zq3_.toInt = zq1_.toInt + zq2_.toInt := by rw [e_zq3_, iAdd (by have := iRg zq1_; have := iRg zq2_; omega) (by have := iRg zq1_; have := iRg zq2_; omega)]
  exact ret_i hC hr hlk hK hH (⟨⟨by omega, ⟨by omega, by omega⟩⟩, rfl, rfl⟩) (Nat.le_of_ble_eq_true rfl) (Nat.le_of_ble_eq_true rfl) dX10_partyAt_10
set_option maxHeartbeats 4000000 in
set_option maxRecDepth 100000 in
theorem c_X10_isBill {l : Launch} {D : va_G} {kA : Nat → ClassId} {M : mM} {T : mT} {sz : Nat} {h al mt ii pa li : Nat} {ta fpm sm nx tk pl ln wr : Int32} {va : Int64} {f : Nat → Int32} {bi : Int32} (hc_h : M h = some (.inr (8, [.ref al, .ref mt, .ref ii, .int ta, .int fpm, .ref pa, .int sm, .int nx, .int tk, .int pl, .int ln, .long va, .int wr, .ref li]))) (hn_h : T h = none) (hc_al : M al = some (.inl (kA 0, 7506, .inl f))) (hn_al : T al = none) (ht_mt : T mt = some 11) (ht_pa : T pa = some 13) (ht_li : T li = some 14) (hR_f : Rng f) : mCi l yX10_isBill cX10_isBill 2 (some .boolean) 1 0 0 D kA M T sz [.ref h, .int bi] (fun r u => (((0 ≤ bi.toInt ∧ bi.toInt ≤ 3) ∧ r = 1) ∨ (r = 0)) ∧ u.2 = T ∧ u.1 = M) := by
  unfold mCi
  refine start_W (by decide) (Nat.le_of_ble_eq_true rfl) ?_
  intro p e s m below meth c ls hC hr hlk hnm hK hH hsz hl
  have hx := hC.1
  have hb := hC.2.1
  have hl : lv_has ls 2 [(0, .ref h), (1, .int bi)] := hl
  have n_h_al : h ≠ al := neM hc_h hc_al (by simp)
  have n_al_h : al ≠ h := neM hc_al hc_h (by simp)
  have hK_f : Ke f f := Ke.rf
  refine lv_iload_n hx hb dX10_isBill_0 rfl (lv_at hl 1 rfl) ?_
  refine lv_iconst (v := 0) hx hb dX10_isBill_1 (by decide) ?_
  refine lv_aload_n hx hb dX10_isBill_2 rfl (lv_at hl 0 rfl) ?_
  refine xg hC hK hH flX10_7 hc_h rfl dX10_isBill_3 ?_
  refine lv_iconst (v := 1) hx hb dX10_isBill_6 (by decide) ?_
  refine xild hC hK hH hc_al (iIn (by decide) (by decide)) dX10_isBill_7 ?_
  refine lv_topi (fun xq1_ e_xq1_ => ?_)
  have kt_xq1_ : xq1_.toInt = (f 1).toInt := by rw [e_xq1_]; rfl
  have l_xq1_ : 0 ≤ xq1_.toInt := by rw [kt_xq1_]; exact hR_f.r1.1
  have g_xq1_ : xq1_.toInt ≤ 4 := by rw [kt_xq1_]; exact hR_f.r1.2
  refine lv_iconst (v := 1) hx hb dX10_isBill_8 (by decide) ?_
  refine lv_isub hx hb dX10_isBill_9 ?_
  refine lv_topi (fun zq2_ e_zq2_ => ?_)
  have h_zq2_ : zq2_.toInt = xq1_.toInt - 1 := by rw [e_zq2_, iSub (by have := iRg xq1_; have : (1 : Int32).toInt = 1 := rfl; omega) (by have := iRg xq1_; have : (1 : Int32).toInt = 1 := rfl; omega)]; rfl
  refine goI hK hH (runS (As := [.int bi, .int 0, .int zq2_]) (rest := []) hC hK hH (c_X10_isIn) mlX10_33 ⟨⟨Nat.le_of_ble_eq_true rfl, Nat.le_of_ble_eq_true rfl⟩, Nat.le_of_ble_eq_true rfl, Nat.le_of_ble_eq_true rfl⟩ rfl hl.1 rfl (Nat.le_of_ble_eq_true rfl) dX10_isBill_10) (fun rq5_ Mq3_ Tq4_ Hq_ lcq_ hP hz hH => ?_)
  try dsimp only at hP
  obtain ⟨(⟨cq6_, er_rq5_⟩ | ⟨cq7_, er_rq5_⟩), eT, eM⟩ := hP
  · skip
    have eT := eT.symm; subst eT
    have er_rq5_ := er_rq5_.symm; subst er_rq5_
    have eM := eM.symm; subst eM
    have cq6_ : (0 : Int) ≤ bi.toInt ∧ bi.toInt ≤ zq2_.toInt := cq6_
    exact ret_z hC hr hlk hK hH (by first | exact Or.inl rfl | exact Or.inr rfl | assumption) (⟨Or.inl (⟨by omega, rfl⟩), rfl, rfl⟩) (Nat.le_of_ble_eq_true rfl) (Nat.le_of_ble_eq_true rfl) dX10_isBill_13
  · skip
    have eT := eT.symm; subst eT
    have er_rq5_ := er_rq5_.symm; subst er_rq5_
    have eM := eM.symm; subst eM
    have cq7_ : ¬ ((0 : Int) ≤ bi.toInt ∧ bi.toInt ≤ zq2_.toInt) := cq7_
    exact ret_z hC hr hlk hK hH (by first | exact Or.inl rfl | exact Or.inr rfl | assumption) (⟨Or.inr (rfl), rfl, rfl⟩) (Nat.le_of_ble_eq_true rfl) (Nat.le_of_ble_eq_true rfl) dX10_isBill_13
set_option maxHeartbeats 4000000 in
set_option maxRecDepth 100000 in
theorem c_X10_isParty {l : Launch} {D : va_G} {kA : Nat → ClassId} {M : mM} {T : mT} {sz : Nat} {h al mt ii pa li : Nat} {ta fpm sm nx tk pl ln wr : Int32} {va : Int64} {f : Nat → Int32} {x : Int32} {xn t b : Nat} {pt : Int32} (hc_h : M h = some (.inr (8, [.ref al, .ref mt, .ref ii, .int ta, .int fpm, .ref pa, .int sm, .int nx, .int tk, .int pl, .int ln, .long va, .int wr, .ref li]))) (hn_h : T h = none) (hc_al : M al = some (.inl (kA 0, 7506, .inl f))) (hn_al : T al = none) (ht_mt : T mt = some 11) (ht_pa : T pa = some 13) (ht_li : T li = some 14) (hR_f : Rng f) (hxt : t < 2) (hxb : b < 4) (hxn : xn = 1140 * t + 20 + 280 * b) (hxx : x.toInt = (xn : Int)) : mCi l yX10_isParty cX10_isParty 3 (some .boolean) 1 0 0 D kA M T sz [.ref h, .int x, .int pt] (fun r u => (((0 ≤ pt.toInt ∧ pt.toInt ≤ 1 + (f (xn + 8)).toInt ∧ pt.toInt ≤ 13) ∧ r = 1) ∨ (r = 0)) ∧ u.2 = T ∧ u.1 = M) := by
  unfold mCi
  refine start_W (by decide) (Nat.le_of_ble_eq_true rfl) ?_
  intro p e s m below meth c ls hC hr hlk hnm hK hH hsz hl
  have hx := hC.1
  have hb := hC.2.1
  have hl : lv_has ls 3 [(0, .ref h), (1, .int x), (2, .int pt)] := hl
  have n_h_al : h ≠ al := neM hc_h hc_al (by simp)
  have n_al_h : al ≠ h := neM hc_al hc_h (by simp)
  have hK_f : Ke f f := Ke.rf
  refine lv_iload_n hx hb dX10_isParty_0 rfl (lv_at hl 2 rfl) ?_
  refine lv_iconst (v := 0) hx hb dX10_isParty_1 (by decide) ?_
  refine lv_iconst (v := 1) hx hb dX10_isParty_2 (by decide) ?_
  refine lv_aload_n hx hb dX10_isParty_3 rfl (lv_at hl 0 rfl) ?_
  refine xg hC hK hH flX10_7 hc_h rfl dX10_isParty_4 ?_
  refine lv_iload_n hx hb dX10_isParty_7 rfl (lv_at hl 1 rfl) ?_
  refine lv_bipush (v := 8) hx hb dX10_isParty_8 (by decide) ?_
  refine lv_iadd hx hb dX10_isParty_10 ?_
  refine lv_topi (fun zq1_ e_zq1_ => ?_)
  have h_zq1_ : zq1_.toInt = x.toInt + 8 := by rw [e_zq1_, iAdd (by have := iRg x; have : (8 : Int32).toInt = 8 := rfl; omega) (by have := iRg x; have : (8 : Int32).toInt = 8 := rfl; omega)]; rfl
  refine xild hC hK hH hc_al (iIn (by omega) (by omega)) dX10_isParty_11 ?_
  refine lv_topi (fun xq2_ e_xq2_ => ?_)
  have k_xq2_ : xq2_ = f (xn + 8) := by rw [e_xq2_, clE (n := xn + 8) (by omega)]
  have kt_xq2_ : xq2_.toInt = (f (xn + 8)).toInt := by rw [k_xq2_]
  have rr_xq2_ : (0 : Int) ≤ (f (xn + 8)).toInt ∧ (f (xn + 8)).toInt ≤ 12 := hR_f.rO 8 (t := t) (b := b) (xn := xn) (by omega) (by omega) (by omega) (by decide) rfl
  have l_xq2_ : (0 : Int) ≤ xq2_.toInt := by rw [kt_xq2_, show xn + 8 = xn + 8 from by omega]; exact rr_xq2_.1
  have g_xq2_ : xq2_.toInt ≤ 12 := by rw [kt_xq2_, show xn + 8 = xn + 8 from by omega]; exact rr_xq2_.2
  refine lv_iadd hx hb dX10_isParty_12 ?_
  refine lv_topi (fun zq3_ e_zq3_ => ?_)
  have h_zq3_ : zq3_.toInt = 1 + xq2_.toInt := by rw [e_zq3_, iAdd (by have : (1 : Int32).toInt = 1 := rfl; have := iRg xq2_; omega) (by have : (1 : Int32).toInt = 1 := rfl; have := iRg xq2_; omega)]; rfl
  refine goI hK hH (runS (As := [.int pt, .int 0, .int zq3_]) (rest := []) hC hK hH (c_X10_isIn) mlX10_33 ⟨⟨Nat.le_of_ble_eq_true rfl, Nat.le_of_ble_eq_true rfl⟩, Nat.le_of_ble_eq_true rfl, Nat.le_of_ble_eq_true rfl⟩ rfl hl.1 rfl (Nat.le_of_ble_eq_true rfl) dX10_isParty_13) (fun rq6_ Mq4_ Tq5_ Hq_ lcq_ hP hz hH => ?_)
  try dsimp only at hP
  obtain ⟨(⟨cq7_, er_rq6_⟩ | ⟨cq8_, er_rq6_⟩), eT, eM⟩ := hP
  · skip
    have eT := eT.symm; subst eT
    have er_rq6_ := er_rq6_.symm; subst er_rq6_
    have eM := eM.symm; subst eM
    have cq7_ : (0 : Int) ≤ pt.toInt ∧ pt.toInt ≤ zq3_.toInt := cq7_
    exact ret_z hC hr hlk hK hH (by first | exact Or.inl rfl | exact Or.inr rfl | assumption) (⟨Or.inl (⟨by omega, rfl⟩), rfl, rfl⟩) (Nat.le_of_ble_eq_true rfl) (Nat.le_of_ble_eq_true rfl) dX10_isParty_16
  · skip
    have eT := eT.symm; subst eT
    have er_rq6_ := er_rq6_.symm; subst er_rq6_
    have eM := eM.symm; subst eM
    have cq8_ : ¬ ((0 : Int) ≤ pt.toInt ∧ pt.toInt ≤ zq3_.toInt) := cq8_
    exact ret_z hC hr hlk hK hH (by first | exact Or.inl rfl | exact Or.inr rfl | assumption) (⟨Or.inr (rfl), rfl, rfl⟩) (Nat.le_of_ble_eq_true rfl) (Nat.le_of_ble_eq_true rfl) dX10_isParty_16
set_option maxHeartbeats 4000000 in
set_option maxRecDepth 100000 in
theorem c_X10_who {l : Launch} {D : va_G} {kA : Nat → ClassId} {M : mM} {T : mT} {sz : Nat} {h al mt ii pa li : Nat} {ta fpm sm nx tk pl ln wr : Int32} {va : Int64} {f : Nat → Int32} {x : Int32} {xn t b : Nat} {pt : Int32} {ptn : Nat} (hc_h : M h = some (.inr (8, [.ref al, .ref mt, .ref ii, .int ta, .int fpm, .ref pa, .int sm, .int nx, .int tk, .int pl, .int ln, .long va, .int wr, .ref li]))) (hn_h : T h = none) (hc_al : M al = some (.inl (kA 0, 7506, .inl f))) (hn_al : T al = none) (ht_mt : T mt = some 11) (ht_pa : T pa = some 13) (ht_li : T li = some 14) (hR_f : Rng f) (hxt : t < 2) (hxb : b < 4) (hxn : xn = 1140 * t + 20 + 280 * b) (hxx : x.toInt = (xn : Int)) (hptn : pt.toInt = (ptn : Int)) (hp13 : ptn ≤ 13) : mCi l yX10_who cX10_who 3 (some .int) 1 0 0 D kA M T sz [.ref h, .int x, .int pt] (fun r u => (r.toInt = whoI f xn ptn ∧ (((-1 : Int) ≤ r.toInt ∧ r.toInt ≤ 7))) ∧ u.2 = T ∧ u.1 = M) := by
  unfold mCi
  refine start_W (by decide) (Nat.le_of_ble_eq_true rfl) ?_
  intro p e s m below meth c ls hC hr hlk hnm hK hH hsz hl
  have hx := hC.1
  have hb := hC.2.1
  have hl : lv_has ls 3 [(0, .ref h), (1, .int x), (2, .int pt)] := hl
  have n_h_al : h ≠ al := neM hc_h hc_al (by simp)
  have n_al_h : al ≠ h := neM hc_al hc_h (by simp)
  have hK_f : Ke f f := Ke.rf
  refine lv_iload_n hx hb dX10_who_0 rfl (lv_at hl 2 rfl) ?_
  refine jif_ne (tgt := 30) hx hb dX10_who_1 (by decide) (fun cq1_ => ?_) (fun cq1_ => ?_)
  · skip
    have cq1_ : pt.toInt ≠ 0 := cq1_
    refine lv_iload_n hx hb dX10_who_30 rfl (lv_at hl 2 rfl) ?_
    refine lv_iconst (v := 1) hx hb dX10_who_31 (by decide) ?_
    refine jic_ne (tgt := 44) hx hb dX10_who_32 (by decide) (fun cq2_ => ?_) (fun cq2_ => ?_)
    · skip
      have cq2_ : pt.toInt ≠ 1 := cq2_
      refine lv_aload_n hx hb dX10_who_44 rfl (lv_at hl 0 rfl) ?_
      refine xg hC hK hH flX10_7 hc_h rfl dX10_who_45 ?_
      refine lv_iload_n hx hb dX10_who_48 rfl (lv_at hl 1 rfl) ?_
      refine lv_iload_n hx hb dX10_who_49 rfl (lv_at hl 2 rfl) ?_
      refine lv_iconst (v := 2) hx hb dX10_who_50 (by decide) ?_
      refine lv_isub hx hb dX10_who_51 ?_
      refine lv_topi (fun zq3_ e_zq3_ => ?_)
      have h_zq3_ : zq3_.toInt = pt.toInt - 2 := by rw [e_zq3_, iSub (by have := iRg pt; have : (2 : Int32).toInt = 2 := rfl; omega) (by have := iRg pt; have : (2 : Int32).toInt = 2 := rfl; omega)]; rfl
      refine goI hK hH (runS (As := [.int x, .int zq3_]) (rest := [.ref al]) hC hK hH (c_X10_stepAt (by omega) (by omega)) mlX10_37 ⟨⟨Nat.le_of_ble_eq_true rfl, Nat.le_of_ble_eq_true rfl⟩, Nat.le_of_ble_eq_true rfl, Nat.le_of_ble_eq_true rfl⟩ rfl hl.1 rfl (Nat.le_of_ble_eq_true rfl) dX10_who_52) (fun rq6_ Mq4_ Tq5_ Hq_ lcq_ hP hz hH => ?_)
      try dsimp only at hP
      obtain ⟨(⟨cq7_, ⟨l_rq6_, g_rq6_⟩⟩), eT, eM⟩ := hP
      have eT := eT.symm; subst eT
      have eM := eM.symm; subst eM
      have cq7_ : rq6_.toInt = x.toInt + 40 + 12 * zq3_.toInt := cq7_
      have hx_rq6_ : rq6_.toInt = ((xn + 40 + 12 * (ptn - 2) : Nat) : Int) := by omega
      refine lv_iconst (v := 0) hx hb dX10_who_55 (by decide) ?_
      refine lv_iadd hx hb dX10_who_56 ?_
      refine lv_topi (fun zq8_ e_zq8_ => ?_)
      have h_zq8_ : zq8_.toInt = rq6_.toInt + 0 := by rw [e_zq8_, iAdd (by have := iRg rq6_; have : (0 : Int32).toInt = 0 := rfl; omega) (by have := iRg rq6_; have : (0 : Int32).toInt = 0 := rfl; omega)]; rfl
      refine xild hC hK hH hc_al (iIn (by omega) (by omega)) dX10_who_57 ?_
      refine lv_topi (fun xq9_ e_xq9_ => ?_)
      have k_xq9_ : xq9_ = f (xn + 40 + 12 * (ptn - 2)) := by rw [e_xq9_, clE (n := xn + 40 + 12 * (ptn - 2)) (by omega)]
      have kt_xq9_ : xq9_.toInt = (f (xn + 40 + 12 * (ptn - 2))).toInt := by rw [k_xq9_]
      refine lv_iconst (v := 3) hx hb dX10_who_58 (by decide) ?_
      refine jic_ge (tgt := 79) hx hb dX10_who_59 (by decide) (fun cq10_ => ?_) (fun cq10_ => ?_)
      · skip
        have cq10_ : 3 ≤ xq9_.toInt := cq10_
        refine lv_iconst (v := -1) hx hb dX10_who_79 (by decide) ?_
        exact ret_i hC hr hlk hK hH (⟨⟨by have : (-1 : Int32).toInt = -1 := rfl; unfold whoI; (repeat' split) <;> omega, ⟨by decide, by decide⟩⟩, rfl, rfl⟩) (Nat.le_of_ble_eq_true rfl) (Nat.le_of_ble_eq_true rfl) dX10_who_80
      · skip
        have cq10_ : xq9_.toInt < 3 := cq10_
        refine lv_aload_n hx hb dX10_who_62 rfl (lv_at hl 0 rfl) ?_
        refine xg hC hK hH flX10_7 hc_h rfl dX10_who_63 ?_
        refine lv_iload_n hx hb dX10_who_66 rfl (lv_at hl 1 rfl) ?_
        refine lv_iload_n hx hb dX10_who_67 rfl (lv_at hl 2 rfl) ?_
        refine lv_iconst (v := 2) hx hb dX10_who_68 (by decide) ?_
        refine lv_isub hx hb dX10_who_69 ?_
        refine lv_cst (v := zq3_) e_zq3_.symm ?_
        refine goI hK hH (runS (As := [.int x, .int zq3_]) (rest := [.ref al]) hC hK hH (c_X10_stepAt (by omega) (by omega)) mlX10_37 ⟨⟨Nat.le_of_ble_eq_true rfl, Nat.le_of_ble_eq_true rfl⟩, Nat.le_of_ble_eq_true rfl, Nat.le_of_ble_eq_true rfl⟩ rfl hl.1 rfl (Nat.le_of_ble_eq_true rfl) dX10_who_70) (fun rq13_ Mq11_ Tq12_ Hq_ lcq_ hP hz hH => ?_)
        try dsimp only at hP
        obtain ⟨(⟨cq14_, ⟨l_rq13_, g_rq13_⟩⟩), eT, eM⟩ := hP
        have eT := eT.symm; subst eT
        have eM := eM.symm; subst eM
        have cq14_ : rq13_.toInt = x.toInt + 40 + 12 * zq3_.toInt := cq14_
        have hx_rq13_ : rq13_.toInt = ((xn + 40 + 12 * (ptn - 2) : Nat) : Int) := by omega
        refine lv_iconst (v := 2) hx hb dX10_who_73 (by decide) ?_
        refine lv_iadd hx hb dX10_who_74 ?_
        refine lv_topi (fun zq15_ e_zq15_ => ?_)
        have h_zq15_ : zq15_.toInt = rq13_.toInt + 2 := by rw [e_zq15_, iAdd (by have := iRg rq13_; have : (2 : Int32).toInt = 2 := rfl; omega) (by have := iRg rq13_; have : (2 : Int32).toInt = 2 := rfl; omega)]; rfl
        refine xild hC hK hH hc_al (iIn (by omega) (by omega)) dX10_who_75 ?_
        refine lv_topi (fun xq16_ e_xq16_ => ?_)
        have k_xq16_ : xq16_ = f (xn + 40 + 12 * (ptn - 2) + 2) := by rw [e_xq16_, clE (n := xn + 40 + 12 * (ptn - 2) + 2) (by omega)]
        have kt_xq16_ : xq16_.toInt = (f (xn + 40 + 12 * (ptn - 2) + 2)).toInt := by rw [k_xq16_]
        have rr_xq16_ : (-1 : Int) ≤ (f (xn + (40 + 12 * (ptn - 2) + 2))).toInt ∧ (f (xn + (40 + 12 * (ptn - 2) + 2))).toInt ≤ 7 := hR_f.rO (40 + 12 * (ptn - 2) + 2) (t := t) (b := b) (xn := xn) (by omega) (by omega) (by omega) (by omega) (rgS2 (by omega))
        have l_xq16_ : (-1 : Int) ≤ xq16_.toInt := by rw [kt_xq16_, show xn + 40 + 12 * (ptn - 2) + 2 = xn + (40 + 12 * (ptn - 2) + 2) from by omega]; exact rr_xq16_.1
        have g_xq16_ : xq16_.toInt ≤ 7 := by rw [kt_xq16_, show xn + 40 + 12 * (ptn - 2) + 2 = xn + (40 + 12 * (ptn - 2) + 2) from by omega]; exact rr_xq16_.2
        refine lv_goto (tgt := 80) hx hb dX10_who_76 (by decide) ?_
        exact ret_i hC hr hlk hK hH (⟨⟨by unfold whoI; (repeat' split) <;> omega, ⟨by omega, by omega⟩⟩, rfl, rfl⟩) (Nat.le_of_ble_eq_true rfl) (Nat.le_of_ble_eq_true rfl) dX10_who_80
    · skip
      have cq2_ : pt.toInt = 1 := cq2_
      refine lv_aload_n hx hb dX10_who_35 rfl (lv_at hl 0 rfl) ?_
      refine xg hC hK hH flX10_7 hc_h rfl dX10_who_36 ?_
      refine lv_iload_n hx hb dX10_who_39 rfl (lv_at hl 1 rfl) ?_
      refine lv_iconst (v := 0) hx hb dX10_who_40 (by decide) ?_
      refine lv_iadd hx hb dX10_who_41 ?_
      refine lv_topi (fun zq17_ e_zq17_ => ?_)
      have h_zq17_ : zq17_.toInt = x.toInt + 0 := by rw [e_zq17_, iAdd (by have := iRg x; have : (0 : Int32).toInt = 0 := rfl; omega) (by have := iRg x; have : (0 : Int32).toInt = 0 := rfl; omega)]; rfl
      refine xild hC hK hH hc_al (iIn (by omega) (by omega)) dX10_who_42 ?_
      refine lv_topi (fun xq18_ e_xq18_ => ?_)
      have k_xq18_ : xq18_ = f (xn) := by rw [e_xq18_, clE (n := xn) (by omega)]
      have kt_xq18_ : xq18_.toInt = (f (xn)).toInt := by rw [k_xq18_]
      have rr_xq18_ : (0 : Int) ≤ (f (xn + 0)).toInt ∧ (f (xn + 0)).toInt ≤ 7 := hR_f.rO 0 (t := t) (b := b) (xn := xn) (by omega) (by omega) (by omega) (by decide) rfl
      have l_xq18_ : (0 : Int) ≤ xq18_.toInt := by rw [kt_xq18_, show xn = xn + 0 from by omega]; exact rr_xq18_.1
      have g_xq18_ : xq18_.toInt ≤ 7 := by rw [kt_xq18_, show xn = xn + 0 from by omega]; exact rr_xq18_.2
      exact ret_i hC hr hlk hK hH (⟨⟨by unfold whoI; (repeat' split) <;> omega, ⟨by omega, by omega⟩⟩, rfl, rfl⟩) (Nat.le_of_ble_eq_true rfl) (Nat.le_of_ble_eq_true rfl) dX10_who_43
  · skip
    have cq1_ : pt.toInt = 0 := cq1_
    refine lv_aload_n hx hb dX10_who_4 rfl (lv_at hl 0 rfl) ?_
    refine xg hC hK hH flX10_7 hc_h rfl dX10_who_5 ?_
    refine lv_iload_n hx hb dX10_who_8 rfl (lv_at hl 1 rfl) ?_
    refine lv_bipush (v := 6) hx hb dX10_who_9 (by decide) ?_
    refine lv_iadd hx hb dX10_who_11 ?_
    refine lv_topi (fun zq19_ e_zq19_ => ?_)
    have h_zq19_ : zq19_.toInt = x.toInt + 6 := by rw [e_zq19_, iAdd (by have := iRg x; have : (6 : Int32).toInt = 6 := rfl; omega) (by have := iRg x; have : (6 : Int32).toInt = 6 := rfl; omega)]; rfl
    refine xild hC hK hH hc_al (iIn (by omega) (by omega)) dX10_who_12 ?_
    refine lv_topi (fun xq20_ e_xq20_ => ?_)
    have k_xq20_ : xq20_ = f (xn + 6) := by rw [e_xq20_, clE (n := xn + 6) (by omega)]
    have kt_xq20_ : xq20_.toInt = (f (xn + 6)).toInt := by rw [k_xq20_]
    refine lv_iconst (v := 1) hx hb dX10_who_13 (by decide) ?_
    refine jic_ne (tgt := 28) hx hb dX10_who_14 (by decide) (fun cq21_ => ?_) (fun cq21_ => ?_)
    · skip
      have cq21_ : xq20_.toInt ≠ 1 := cq21_
      refine lv_iconst (v := -1) hx hb dX10_who_28 (by decide) ?_
      exact ret_i hC hr hlk hK hH (⟨⟨by have : (-1 : Int32).toInt = -1 := rfl; unfold whoI; (repeat' split) <;> omega, ⟨by decide, by decide⟩⟩, rfl, rfl⟩) (Nat.le_of_ble_eq_true rfl) (Nat.le_of_ble_eq_true rfl) dX10_who_29
    · skip
      have cq21_ : xq20_.toInt = 1 := cq21_
      refine lv_aload_n hx hb dX10_who_17 rfl (lv_at hl 0 rfl) ?_
      refine xg hC hK hH flX10_7 hc_h rfl dX10_who_18 ?_
      refine lv_iload_n hx hb dX10_who_21 rfl (lv_at hl 1 rfl) ?_
      refine lv_iconst (v := 1) hx hb dX10_who_22 (by decide) ?_
      refine lv_iadd hx hb dX10_who_23 ?_
      refine lv_topi (fun zq22_ e_zq22_ => ?_)
      have h_zq22_ : zq22_.toInt = x.toInt + 1 := by rw [e_zq22_, iAdd (by have := iRg x; have : (1 : Int32).toInt = 1 := rfl; omega) (by have := iRg x; have : (1 : Int32).toInt = 1 := rfl; omega)]; rfl
      refine xild hC hK hH hc_al (iIn (by omega) (by omega)) dX10_who_24 ?_
      refine lv_topi (fun xq23_ e_xq23_ => ?_)
      have k_xq23_ : xq23_ = f (xn + 1) := by rw [e_xq23_, clE (n := xn + 1) (by omega)]
      have kt_xq23_ : xq23_.toInt = (f (xn + 1)).toInt := by rw [k_xq23_]
      have rr_xq23_ : (0 : Int) ≤ (f (xn + 1)).toInt ∧ (f (xn + 1)).toInt ≤ 7 := hR_f.rO 1 (t := t) (b := b) (xn := xn) (by omega) (by omega) (by omega) (by decide) rfl
      have l_xq23_ : (0 : Int) ≤ xq23_.toInt := by rw [kt_xq23_, show xn + 1 = xn + 1 from by omega]; exact rr_xq23_.1
      have g_xq23_ : xq23_.toInt ≤ 7 := by rw [kt_xq23_, show xn + 1 = xn + 1 from by omega]; exact rr_xq23_.2
      refine lv_goto (tgt := 29) hx hb dX10_who_25 (by decide) ?_
      exact ret_i hC hr hlk hK hH (⟨⟨by unfold whoI; (repeat' split) <;> omega, ⟨by omega, by omega⟩⟩, rfl, rfl⟩) (Nat.le_of_ble_eq_true rfl) (Nat.le_of_ble_eq_true rfl) dX10_who_29
set_option maxHeartbeats 4000000 in
set_option maxRecDepth 100000 in
theorem c_X10_hasSigned {l : Launch} {D : va_G} {kA : Nat → ClassId} {M : mM} {T : mT} {sz : Nat} {h al mt ii pa li : Nat} {ta fpm sm nx tk pl ln wr : Int32} {va : Int64} {f : Nat → Int32} {x : Int32} {xn t b : Nat} {pt : Int32} {ptn : Nat} (hc_h : M h = some (.inr (8, [.ref al, .ref mt, .ref ii, .int ta, .int fpm, .ref pa, .int sm, .int nx, .int tk, .int pl, .int ln, .long va, .int wr, .ref li]))) (hn_h : T h = none) (hc_al : M al = some (.inl (kA 0, 7506, .inl f))) (hn_al : T al = none) (ht_mt : T mt = some 11) (ht_pa : T pa = some 13) (ht_li : T li = some 14) (hR_f : Rng f) (hxt : t < 2) (hxb : b < 4) (hxn : xn = 1140 * t + 20 + 280 * b) (hxx : x.toInt = (xn : Int)) (hptn : pt.toInt = (ptn : Int)) (hp13 : ptn ≤ 13) : mCi l yX10_hasSigned cX10_hasSigned 3 (some .boolean) 2 0 0 D kA M T sz [.ref h, .int x, .int pt] (fun r u => ((sgnF f xn ptn ∧ r = 1) ∨ (¬ sgnF f xn ptn ∧ r = 0)) ∧ u.2 = T ∧ u.1 = M) := by
  unfold mCi
  refine start_W (by decide) (Nat.le_of_ble_eq_true rfl) ?_
  intro p e s m below meth c ls hC hr hlk hnm hK hH hsz hl
  have hx := hC.1
  have hb := hC.2.1
  have hl : lv_has ls 3 [(0, .ref h), (1, .int x), (2, .int pt)] := hl
  have n_h_al : h ≠ al := neM hc_h hc_al (by simp)
  have n_al_h : al ≠ h := neM hc_al hc_h (by simp)
  have hK_f : Ke f f := Ke.rf
  refine lv_aload_n hx hb dX10_hasSigned_0 rfl (lv_at hl 0 rfl) ?_
  refine lv_iload_n hx hb dX10_hasSigned_1 rfl (lv_at hl 1 rfl) ?_
  refine lv_iload_n hx hb dX10_hasSigned_2 rfl (lv_at hl 2 rfl) ?_
  refine goI hK hH (runV (As := [.int x, .int pt]) (rest := []) hC hK hH (c_X10_who hc_h hn_h hc_al hn_al ht_mt ht_pa ht_li (by exact hR_f) (by omega) (by omega) (by omega) (by omega) (by omega) (by omega)) mlX10_41 (rcvM hK hH hc_h rfl) ⟨⟨Nat.le_of_ble_eq_true rfl, Nat.le_of_ble_eq_true rfl⟩, Nat.le_of_ble_eq_true rfl, Nat.le_of_ble_eq_true rfl⟩ rfl hl.1 rfl (Nat.le_of_ble_eq_true rfl) dX10_hasSigned_3) (fun rq3_ Mq1_ Tq2_ Hq_ lcq_ hP hz hH => ?_)
  try dsimp only at hP
  obtain ⟨(⟨cq4_, ⟨l_rq3_, g_rq3_⟩⟩), eT, eM⟩ := hP
  have eT := eT.symm; subst eT
  have eM := eM.symm; subst eM
  have cq4_ : rq3_.toInt = whoI f xn ptn := cq4_
  refine lv_iconst (v := -1) hx hb dX10_hasSigned_6 (by decide) ?_
  refine jic_eq (tgt := 37) hx hb dX10_hasSigned_7 (by decide) (fun cq5_ => ?_) (fun cq5_ => ?_)
  · skip
    have cq5_ : rq3_.toInt = (-1) := cq5_
    refine lv_iconst (v := 0) hx hb dX10_hasSigned_37 (by decide) ?_
    exact ret_z hC hr hlk hK hH (by first | exact Or.inl rfl | exact Or.inr rfl | assumption) (⟨Or.inr (⟨by unfold sgnF; omega, rfl⟩), rfl, rfl⟩) (Nat.le_of_ble_eq_true rfl) (Nat.le_of_ble_eq_true rfl) dX10_hasSigned_38
  · skip
    have cq5_ : rq3_.toInt ≠ (-1) := cq5_
    refine lv_iload_n hx hb dX10_hasSigned_10 rfl (lv_at hl 2 rfl) ?_
    refine lv_iconst (v := 2) hx hb dX10_hasSigned_11 (by decide) ?_
    refine jic_lt (tgt := 33) hx hb dX10_hasSigned_12 (by decide) (fun cq6_ => ?_) (fun cq6_ => ?_)
    · skip
      have cq6_ : pt.toInt < 2 := cq6_
      refine lv_iconst (v := 1) hx hb dX10_hasSigned_33 (by decide) ?_
      refine lv_goto (tgt := 38) hx hb dX10_hasSigned_34 (by decide) ?_
      exact ret_z hC hr hlk hK hH (by first | exact Or.inl rfl | exact Or.inr rfl | assumption) (⟨Or.inl (⟨by unfold sgnF; omega, rfl⟩), rfl, rfl⟩) (Nat.le_of_ble_eq_true rfl) (Nat.le_of_ble_eq_true rfl) dX10_hasSigned_38
    · skip
      have cq6_ : 2 ≤ pt.toInt := cq6_
      refine lv_aload_n hx hb dX10_hasSigned_15 rfl (lv_at hl 0 rfl) ?_
      refine xg hC hK hH flX10_7 hc_h rfl dX10_hasSigned_16 ?_
      refine lv_iload_n hx hb dX10_hasSigned_19 rfl (lv_at hl 1 rfl) ?_
      refine lv_iload_n hx hb dX10_hasSigned_20 rfl (lv_at hl 2 rfl) ?_
      refine lv_iconst (v := 2) hx hb dX10_hasSigned_21 (by decide) ?_
      refine lv_isub hx hb dX10_hasSigned_22 ?_
      refine lv_topi (fun zq7_ e_zq7_ => ?_)
      have h_zq7_ : zq7_.toInt = pt.toInt - 2 := by rw [e_zq7_, iSub (by have := iRg pt; have : (2 : Int32).toInt = 2 := rfl; omega) (by have := iRg pt; have : (2 : Int32).toInt = 2 := rfl; omega)]; rfl
      refine goI hK hH (runS (As := [.int x, .int zq7_]) (rest := [.ref al]) hC hK hH (c_X10_stepAt (by omega) (by omega)) mlX10_37 ⟨⟨Nat.le_of_ble_eq_true rfl, Nat.le_of_ble_eq_true rfl⟩, Nat.le_of_ble_eq_true rfl, Nat.le_of_ble_eq_true rfl⟩ rfl hl.1 rfl (Nat.le_of_ble_eq_true rfl) dX10_hasSigned_23) (fun rq10_ Mq8_ Tq9_ Hq_ lcq_ hP hz hH => ?_)
      try dsimp only at hP
      obtain ⟨(⟨cq11_, ⟨l_rq10_, g_rq10_⟩⟩), eT, eM⟩ := hP
      have eT := eT.symm; subst eT
      have eM := eM.symm; subst eM
      have cq11_ : rq10_.toInt = x.toInt + 40 + 12 * zq7_.toInt := cq11_
      have hx_rq10_ : rq10_.toInt = ((xn + 40 + 12 * (ptn - 2) : Nat) : Int) := by omega
      refine lv_bipush (v := 11) hx hb dX10_hasSigned_26 (by decide) ?_
      refine lv_iadd hx hb dX10_hasSigned_28 ?_
      refine lv_topi (fun zq12_ e_zq12_ => ?_)
      have h_zq12_ : zq12_.toInt = rq10_.toInt + 11 := by rw [e_zq12_, iAdd (by have := iRg rq10_; have : (11 : Int32).toInt = 11 := rfl; omega) (by have := iRg rq10_; have : (11 : Int32).toInt = 11 := rfl; omega)]; rfl
      refine xild hC hK hH hc_al (iIn (by omega) (by omega)) dX10_hasSigned_29 ?_
      refine lv_topi (fun xq13_ e_xq13_ => ?_)
      have k_xq13_ : xq13_ = f (xn + 40 + 12 * (ptn - 2) + 11) := by rw [e_xq13_, clE (n := xn + 40 + 12 * (ptn - 2) + 11) (by omega)]
      have kt_xq13_ : xq13_.toInt = (f (xn + 40 + 12 * (ptn - 2) + 11)).toInt := by rw [k_xq13_]
      refine jif_ne (tgt := 37) hx hb dX10_hasSigned_30 (by decide) (fun cq14_ => ?_) (fun cq14_ => ?_)
      · skip
        have cq14_ : xq13_.toInt ≠ 0 := cq14_
        refine lv_iconst (v := 0) hx hb dX10_hasSigned_37 (by decide) ?_
        exact ret_z hC hr hlk hK hH (by first | exact Or.inl rfl | exact Or.inr rfl | assumption) (⟨Or.inr (⟨by unfold sgnF; omega, rfl⟩), rfl, rfl⟩) (Nat.le_of_ble_eq_true rfl) (Nat.le_of_ble_eq_true rfl) dX10_hasSigned_38
      · skip
        have cq14_ : xq13_.toInt = 0 := cq14_
        refine lv_iconst (v := 1) hx hb dX10_hasSigned_33 (by decide) ?_
        refine lv_goto (tgt := 38) hx hb dX10_hasSigned_34 (by decide) ?_
        exact ret_z hC hr hlk hK hH (by first | exact Or.inl rfl | exact Or.inr rfl | assumption) (⟨Or.inl (⟨by unfold sgnF; omega, rfl⟩), rfl, rfl⟩) (Nat.le_of_ble_eq_true rfl) (Nat.le_of_ble_eq_true rfl) dX10_hasSigned_38
set_option maxHeartbeats 4000000 in
set_option maxRecDepth 100000 in
theorem c_X10_hasTitle {l : Launch} {D : va_G} {kA : Nat → ClassId} {M : mM} {T : mT} {sz : Nat} {h al mt ii pa li : Nat} {ta fpm sm nx tk pl ln wr : Int32} {va : Int64} {f : Nat → Int32} {x : Int32} {xn t b : Nat} (hc_h : M h = some (.inr (8, [.ref al, .ref mt, .ref ii, .int ta, .int fpm, .ref pa, .int sm, .int nx, .int tk, .int pl, .int ln, .long va, .int wr, .ref li]))) (hn_h : T h = none) (hc_al : M al = some (.inl (kA 0, 7506, .inl f))) (hn_al : T al = none) (ht_mt : T mt = some 11) (ht_pa : T pa = some 13) (ht_li : T li = some 14) (hR_f : Rng f) (hxt : t < 2) (hxb : b < 4) (hxn : xn = 1140 * t + 20 + 280 * b) (hxx : x.toInt = (xn : Int)) : mCi l yX10_hasTitle cX10_hasTitle 3 (some .boolean) 0 0 0 D kA M T sz [.ref h, .int x] (fun r u => ((titF f xn ∧ r = 1) ∨ (¬ titF f xn ∧ r = 0)) ∧ u.2 = T ∧ u.1 = M) := by
  unfold mCi
  refine start_W (by decide) (Nat.le_of_ble_eq_true rfl) ?_
  intro p e s m below meth c ls hC hr hlk hnm hK hH hsz hl
  have hx := hC.1
  have hb := hC.2.1
  have hl : lv_has ls 3 [(0, .ref h), (1, .int x)] := hl
  have n_h_al : h ≠ al := neM hc_h hc_al (by simp)
  have n_al_h : al ≠ h := neM hc_al hc_h (by simp)
  have hK_f : Ke f f := Ke.rf
  refine lv_aload_n hx hb dX10_hasTitle_0 rfl (lv_at hl 0 rfl) ?_
  refine xg hC hK hH flX10_7 hc_h rfl dX10_hasTitle_1 ?_
  refine lv_iload_n hx hb dX10_hasTitle_4 rfl (lv_at hl 1 rfl) ?_
  refine lv_bipush (v := 11) hx hb dX10_hasTitle_5 (by decide) ?_
  refine lv_iadd hx hb dX10_hasTitle_7 ?_
  refine lv_topi (fun zq1_ e_zq1_ => ?_)
  have h_zq1_ : zq1_.toInt = x.toInt + 11 := by rw [e_zq1_, iAdd (by have := iRg x; have : (11 : Int32).toInt = 11 := rfl; omega) (by have := iRg x; have : (11 : Int32).toInt = 11 := rfl; omega)]; rfl
  refine xild hC hK hH hc_al (iIn (by omega) (by omega)) dX10_hasTitle_8 ?_
  refine lv_topi (fun xq2_ e_xq2_ => ?_)
  have k_xq2_ : xq2_ = f (xn + 11) := by rw [e_xq2_, clE (n := xn + 11) (by omega)]
  have kt_xq2_ : xq2_.toInt = (f (xn + 11)).toInt := by rw [k_xq2_]
  refine lv_iconst (v := 1) hx hb dX10_hasTitle_9 (by decide) ?_
  refine jic_eq (tgt := 34) hx hb dX10_hasTitle_10 (by decide) (fun cq3_ => ?_) (fun cq3_ => ?_)
  · skip
    have cq3_ : xq2_.toInt = 1 := cq3_
    refine lv_iconst (v := 1) hx hb dX10_hasTitle_34 (by decide) ?_
    refine lv_goto (tgt := 39) hx hb dX10_hasTitle_35 (by decide) ?_
    refine lv_istore_n (lv' := [(2, .int 1), (0, .ref h), (1, .int x)]) hx hb dX10_hasTitle_39 rfl hl (by decide) rfl (fun ls hl => ?_)
    refine lv_aload_n hx hb dX10_hasTitle_40 rfl (lv_at hl 1 rfl) ?_
    refine xg hC hK hH flX10_7 hc_h rfl dX10_hasTitle_41 ?_
    refine lv_iload_n hx hb dX10_hasTitle_44 rfl (lv_at hl 2 rfl) ?_
    refine lv_bipush (v := 16) hx hb dX10_hasTitle_45 (by decide) ?_
    refine lv_iadd hx hb dX10_hasTitle_47 ?_
    refine lv_topi (fun zq4_ e_zq4_ => ?_)
    have h_zq4_ : zq4_.toInt = x.toInt + 16 := by rw [e_zq4_, iAdd (by have := iRg x; have : (16 : Int32).toInt = 16 := rfl; omega) (by have := iRg x; have : (16 : Int32).toInt = 16 := rfl; omega)]; rfl
    refine xild hC hK hH hc_al (iIn (by omega) (by omega)) dX10_hasTitle_48 ?_
    refine lv_topi (fun xq5_ e_xq5_ => ?_)
    have k_xq5_ : xq5_ = f (xn + 16) := by rw [e_xq5_, clE (n := xn + 16) (by omega)]
    have kt_xq5_ : xq5_.toInt = (f (xn + 16)).toInt := by rw [k_xq5_]
    refine lv_iconst (v := -1) hx hb dX10_hasTitle_49 (by decide) ?_
    refine jic_ne (tgt := 73) hx hb dX10_hasTitle_50 (by decide) (fun cq6_ => ?_) (fun cq6_ => ?_)
    · skip
      have cq6_ : xq5_.toInt ≠ (-1) := cq6_
      refine lv_iconst (v := 0) hx hb dX10_hasTitle_73 (by decide) ?_
      exact ret_z hC hr hlk hK hH (by first | exact Or.inl rfl | exact Or.inr rfl | assumption) (⟨Or.inr (⟨by unfold titF; omega, rfl⟩), rfl, rfl⟩) (Nat.le_of_ble_eq_true rfl) (Nat.le_of_ble_eq_true rfl) dX10_hasTitle_74
    · skip
      have cq6_ : xq5_.toInt = (-1) := cq6_
      refine lv_aload_n hx hb dX10_hasTitle_53 rfl (lv_at hl 1 rfl) ?_
      refine xg hC hK hH flX10_7 hc_h rfl dX10_hasTitle_54 ?_
      refine lv_iload_n hx hb dX10_hasTitle_57 rfl (lv_at hl 2 rfl) ?_
      refine lv_bipush (v := 15) hx hb dX10_hasTitle_58 (by decide) ?_
      refine lv_iadd hx hb dX10_hasTitle_60 ?_
      refine lv_topi (fun zq7_ e_zq7_ => ?_)
      have h_zq7_ : zq7_.toInt = x.toInt + 15 := by rw [e_zq7_, iAdd (by have := iRg x; have : (15 : Int32).toInt = 15 := rfl; omega) (by have := iRg x; have : (15 : Int32).toInt = 15 := rfl; omega)]; rfl
      refine xild hC hK hH hc_al (iIn (by omega) (by omega)) dX10_hasTitle_61 ?_
      refine lv_topi (fun xq8_ e_xq8_ => ?_)
      have k_xq8_ : xq8_ = f (xn + 15) := by rw [e_xq8_, clE (n := xn + 15) (by omega)]
      have kt_xq8_ : xq8_.toInt = (f (xn + 15)).toInt := by rw [k_xq8_]
      refine jif_ne (tgt := 73) hx hb dX10_hasTitle_62 (by decide) (fun cq9_ => ?_) (fun cq9_ => ?_)
      · skip
        have cq9_ : xq8_.toInt ≠ 0 := cq9_
        refine lv_iconst (v := 0) hx hb dX10_hasTitle_73 (by decide) ?_
        exact ret_z hC hr hlk hK hH (by first | exact Or.inl rfl | exact Or.inr rfl | assumption) (⟨Or.inr (⟨by unfold titF; omega, rfl⟩), rfl, rfl⟩) (Nat.le_of_ble_eq_true rfl) (Nat.le_of_ble_eq_true rfl) dX10_hasTitle_74
      · skip
        have cq9_ : xq8_.toInt = 0 := cq9_
        refine lv_iload_n hx hb dX10_hasTitle_65 rfl (lv_at hl 0 rfl) ?_
        refine jif_eq (tgt := 73) hx hb dX10_hasTitle_66 (by decide) (fun cq10_ => absurd cq10_ (by decide)) (fun cq10_ => ?_)
        refine lv_iconst (v := 1) hx hb dX10_hasTitle_69 (by decide) ?_
        refine lv_goto (tgt := 74) hx hb dX10_hasTitle_70 (by decide) ?_
        exact ret_z hC hr hlk hK hH (by first | exact Or.inl rfl | exact Or.inr rfl | assumption) (⟨Or.inl (⟨by unfold titF; omega, rfl⟩), rfl, rfl⟩) (Nat.le_of_ble_eq_true rfl) (Nat.le_of_ble_eq_true rfl) dX10_hasTitle_74
  · skip
    have cq3_ : xq2_.toInt ≠ 1 := cq3_
    refine lv_aload_n hx hb dX10_hasTitle_13 rfl (lv_at hl 0 rfl) ?_
    refine xg hC hK hH flX10_7 hc_h rfl dX10_hasTitle_14 ?_
    refine lv_iload_n hx hb dX10_hasTitle_17 rfl (lv_at hl 1 rfl) ?_
    refine lv_bipush (v := 12) hx hb dX10_hasTitle_18 (by decide) ?_
    refine lv_iadd hx hb dX10_hasTitle_20 ?_
    refine lv_topi (fun zq11_ e_zq11_ => ?_)
    have h_zq11_ : zq11_.toInt = x.toInt + 12 := by rw [e_zq11_, iAdd (by have := iRg x; have : (12 : Int32).toInt = 12 := rfl; omega) (by have := iRg x; have : (12 : Int32).toInt = 12 := rfl; omega)]; rfl
    refine xild hC hK hH hc_al (iIn (by omega) (by omega)) dX10_hasTitle_21 ?_
    refine lv_topi (fun xq12_ e_xq12_ => ?_)
    have k_xq12_ : xq12_ = f (xn + 12) := by rw [e_xq12_, clE (n := xn + 12) (by omega)]
    have kt_xq12_ : xq12_.toInt = (f (xn + 12)).toInt := by rw [k_xq12_]
    refine lv_aload_n hx hb dX10_hasTitle_22 rfl (lv_at hl 0 rfl) ?_
    refine xg hC hK hH flX10_7 hc_h rfl dX10_hasTitle_23 ?_
    refine lv_iload_n hx hb dX10_hasTitle_26 rfl (lv_at hl 1 rfl) ?_
    refine lv_bipush (v := 7) hx hb dX10_hasTitle_27 (by decide) ?_
    refine lv_iadd hx hb dX10_hasTitle_29 ?_
    refine lv_topi (fun zq13_ e_zq13_ => ?_)
    have h_zq13_ : zq13_.toInt = x.toInt + 7 := by rw [e_zq13_, iAdd (by have := iRg x; have : (7 : Int32).toInt = 7 := rfl; omega) (by have := iRg x; have : (7 : Int32).toInt = 7 := rfl; omega)]; rfl
    refine xild hC hK hH hc_al (iIn (by omega) (by omega)) dX10_hasTitle_30 ?_
    refine lv_topi (fun xq14_ e_xq14_ => ?_)
    have k_xq14_ : xq14_ = f (xn + 7) := by rw [e_xq14_, clE (n := xn + 7) (by omega)]
    have kt_xq14_ : xq14_.toInt = (f (xn + 7)).toInt := by rw [k_xq14_]
    have rr_xq14_ : (0 : Int) ≤ (f (xn + 7)).toInt ∧ (f (xn + 7)).toInt ≤ 7 := hR_f.rO 7 (t := t) (b := b) (xn := xn) (by omega) (by omega) (by omega) (by decide) rfl
    have l_xq14_ : (0 : Int) ≤ xq14_.toInt := by rw [kt_xq14_, show xn + 7 = xn + 7 from by omega]; exact rr_xq14_.1
    have g_xq14_ : xq14_.toInt ≤ 7 := by rw [kt_xq14_, show xn + 7 = xn + 7 from by omega]; exact rr_xq14_.2
    refine jic_ne (tgt := 38) hx hb dX10_hasTitle_31 (by decide) (fun cq15_ => ?_) (fun cq15_ => ?_)
    · skip
      have cq15_ : xq12_.toInt ≠ xq14_.toInt := cq15_
      refine lv_iconst (v := 0) hx hb dX10_hasTitle_38 (by decide) ?_
      refine lv_istore_n (lv' := [(2, .int 0), (0, .ref h), (1, .int x)]) hx hb dX10_hasTitle_39 rfl hl (by decide) rfl (fun ls hl => ?_)
      refine lv_aload_n hx hb dX10_hasTitle_40 rfl (lv_at hl 1 rfl) ?_
      refine xg hC hK hH flX10_7 hc_h rfl dX10_hasTitle_41 ?_
      refine lv_iload_n hx hb dX10_hasTitle_44 rfl (lv_at hl 2 rfl) ?_
      refine lv_bipush (v := 16) hx hb dX10_hasTitle_45 (by decide) ?_
      refine lv_iadd hx hb dX10_hasTitle_47 ?_
      refine lv_topi (fun zq16_ e_zq16_ => ?_)
      have h_zq16_ : zq16_.toInt = x.toInt + 16 := by rw [e_zq16_, iAdd (by have := iRg x; have : (16 : Int32).toInt = 16 := rfl; omega) (by have := iRg x; have : (16 : Int32).toInt = 16 := rfl; omega)]; rfl
      refine xild hC hK hH hc_al (iIn (by omega) (by omega)) dX10_hasTitle_48 ?_
      refine lv_topi (fun xq17_ e_xq17_ => ?_)
      have k_xq17_ : xq17_ = f (xn + 16) := by rw [e_xq17_, clE (n := xn + 16) (by omega)]
      have kt_xq17_ : xq17_.toInt = (f (xn + 16)).toInt := by rw [k_xq17_]
      refine lv_iconst (v := -1) hx hb dX10_hasTitle_49 (by decide) ?_
      refine jic_ne (tgt := 73) hx hb dX10_hasTitle_50 (by decide) (fun cq18_ => ?_) (fun cq18_ => ?_)
      · skip
        have cq18_ : xq17_.toInt ≠ (-1) := cq18_
        refine lv_iconst (v := 0) hx hb dX10_hasTitle_73 (by decide) ?_
        exact ret_z hC hr hlk hK hH (by first | exact Or.inl rfl | exact Or.inr rfl | assumption) (⟨Or.inr (⟨by unfold titF; omega, rfl⟩), rfl, rfl⟩) (Nat.le_of_ble_eq_true rfl) (Nat.le_of_ble_eq_true rfl) dX10_hasTitle_74
      · skip
        have cq18_ : xq17_.toInt = (-1) := cq18_
        refine lv_aload_n hx hb dX10_hasTitle_53 rfl (lv_at hl 1 rfl) ?_
        refine xg hC hK hH flX10_7 hc_h rfl dX10_hasTitle_54 ?_
        refine lv_iload_n hx hb dX10_hasTitle_57 rfl (lv_at hl 2 rfl) ?_
        refine lv_bipush (v := 15) hx hb dX10_hasTitle_58 (by decide) ?_
        refine lv_iadd hx hb dX10_hasTitle_60 ?_
        refine lv_topi (fun zq19_ e_zq19_ => ?_)
        have h_zq19_ : zq19_.toInt = x.toInt + 15 := by rw [e_zq19_, iAdd (by have := iRg x; have : (15 : Int32).toInt = 15 := rfl; omega) (by have := iRg x; have : (15 : Int32).toInt = 15 := rfl; omega)]; rfl
        refine xild hC hK hH hc_al (iIn (by omega) (by omega)) dX10_hasTitle_61 ?_
        refine lv_topi (fun xq20_ e_xq20_ => ?_)
        have k_xq20_ : xq20_ = f (xn + 15) := by rw [e_xq20_, clE (n := xn + 15) (by omega)]
        have kt_xq20_ : xq20_.toInt = (f (xn + 15)).toInt := by rw [k_xq20_]
        refine jif_ne (tgt := 73) hx hb dX10_hasTitle_62 (by decide) (fun cq21_ => ?_) (fun cq21_ => ?_)
        · skip
          have cq21_ : xq20_.toInt ≠ 0 := cq21_
          refine lv_iconst (v := 0) hx hb dX10_hasTitle_73 (by decide) ?_
          exact ret_z hC hr hlk hK hH (by first | exact Or.inl rfl | exact Or.inr rfl | assumption) (⟨Or.inr (⟨by unfold titF; omega, rfl⟩), rfl, rfl⟩) (Nat.le_of_ble_eq_true rfl) (Nat.le_of_ble_eq_true rfl) dX10_hasTitle_74
        · skip
          have cq21_ : xq20_.toInt = 0 := cq21_
          refine lv_iload_n hx hb dX10_hasTitle_65 rfl (lv_at hl 0 rfl) ?_
          refine jif_eq (tgt := 73) hx hb dX10_hasTitle_66 (by decide) (fun cq22_ => ?_) (fun cq22_ => absurd cq22_ (by decide))
          refine lv_iconst (v := 0) hx hb dX10_hasTitle_73 (by decide) ?_
          exact ret_z hC hr hlk hK hH (by first | exact Or.inl rfl | exact Or.inr rfl | assumption) (⟨Or.inr (⟨by unfold titF; omega, rfl⟩), rfl, rfl⟩) (Nat.le_of_ble_eq_true rfl) (Nat.le_of_ble_eq_true rfl) dX10_hasTitle_74
    · skip
      have cq15_ : xq12_.toInt = xq14_.toInt := cq15_
      refine lv_iconst (v := 1) hx hb dX10_hasTitle_34 (by decide) ?_
      refine lv_goto (tgt := 39) hx hb dX10_hasTitle_35 (by decide) ?_
      refine lv_istore_n (lv' := [(2, .int 1), (0, .ref h), (1, .int x)]) hx hb dX10_hasTitle_39 rfl hl (by decide) rfl (fun ls hl => ?_)
      refine lv_aload_n hx hb dX10_hasTitle_40 rfl (lv_at hl 1 rfl) ?_
      refine xg hC hK hH flX10_7 hc_h rfl dX10_hasTitle_41 ?_
      refine lv_iload_n hx hb dX10_hasTitle_44 rfl (lv_at hl 2 rfl) ?_
      refine lv_bipush (v := 16) hx hb dX10_hasTitle_45 (by decide) ?_
      refine lv_iadd hx hb dX10_hasTitle_47 ?_
      refine lv_topi (fun zq23_ e_zq23_ => ?_)
      have h_zq23_ : zq23_.toInt = x.toInt + 16 := by rw [e_zq23_, iAdd (by have := iRg x; have : (16 : Int32).toInt = 16 := rfl; omega) (by have := iRg x; have : (16 : Int32).toInt = 16 := rfl; omega)]; rfl
      refine xild hC hK hH hc_al (iIn (by omega) (by omega)) dX10_hasTitle_48 ?_
      refine lv_topi (fun xq24_ e_xq24_ => ?_)
      have k_xq24_ : xq24_ = f (xn + 16) := by rw [e_xq24_, clE (n := xn + 16) (by omega)]
      have kt_xq24_ : xq24_.toInt = (f (xn + 16)).toInt := by rw [k_xq24_]
      refine lv_iconst (v := -1) hx hb dX10_hasTitle_49 (by decide) ?_
      refine jic_ne (tgt := 73) hx hb dX10_hasTitle_50 (by decide) (fun cq25_ => ?_) (fun cq25_ => ?_)
      · skip
        have cq25_ : xq24_.toInt ≠ (-1) := cq25_
        refine lv_iconst (v := 0) hx hb dX10_hasTitle_73 (by decide) ?_
        exact ret_z hC hr hlk hK hH (by first | exact Or.inl rfl | exact Or.inr rfl | assumption) (⟨Or.inr (⟨by unfold titF; omega, rfl⟩), rfl, rfl⟩) (Nat.le_of_ble_eq_true rfl) (Nat.le_of_ble_eq_true rfl) dX10_hasTitle_74
      · skip
        have cq25_ : xq24_.toInt = (-1) := cq25_
        refine lv_aload_n hx hb dX10_hasTitle_53 rfl (lv_at hl 1 rfl) ?_
        refine xg hC hK hH flX10_7 hc_h rfl dX10_hasTitle_54 ?_
        refine lv_iload_n hx hb dX10_hasTitle_57 rfl (lv_at hl 2 rfl) ?_
        refine lv_bipush (v := 15) hx hb dX10_hasTitle_58 (by decide) ?_
        refine lv_iadd hx hb dX10_hasTitle_60 ?_
        refine lv_topi (fun zq26_ e_zq26_ => ?_)
        have h_zq26_ : zq26_.toInt = x.toInt + 15 := by rw [e_zq26_, iAdd (by have := iRg x; have : (15 : Int32).toInt = 15 := rfl; omega) (by have := iRg x; have : (15 : Int32).toInt = 15 := rfl; omega)]; rfl
        refine xild hC hK hH hc_al (iIn (by omega) (by omega)) dX10_hasTitle_61 ?_
        refine lv_topi (fun xq27_ e_xq27_ => ?_)
        have k_xq27_ : xq27_ = f (xn + 15) := by rw [e_xq27_, clE (n := xn + 15) (by omega)]
        have kt_xq27_ : xq27_.toInt = (f (xn + 15)).toInt := by rw [k_xq27_]
        refine jif_ne (tgt := 73) hx hb dX10_hasTitle_62 (by decide) (fun cq28_ => ?_) (fun cq28_ => ?_)
        · skip
          have cq28_ : xq27_.toInt ≠ 0 := cq28_
          refine lv_iconst (v := 0) hx hb dX10_hasTitle_73 (by decide) ?_
          exact ret_z hC hr hlk hK hH (by first | exact Or.inl rfl | exact Or.inr rfl | assumption) (⟨Or.inr (⟨by unfold titF; omega, rfl⟩), rfl, rfl⟩) (Nat.le_of_ble_eq_true rfl) (Nat.le_of_ble_eq_true rfl) dX10_hasTitle_74
        · skip
          have cq28_ : xq27_.toInt = 0 := cq28_
          refine lv_iload_n hx hb dX10_hasTitle_65 rfl (lv_at hl 0 rfl) ?_
          refine jif_eq (tgt := 73) hx hb dX10_hasTitle_66 (by decide) (fun cq29_ => absurd cq29_ (by decide)) (fun cq29_ => ?_)
          refine lv_iconst (v := 1) hx hb dX10_hasTitle_69 (by decide) ?_
          refine lv_goto (tgt := 74) hx hb dX10_hasTitle_70 (by decide) ?_
          exact ret_z hC hr hlk hK hH (by first | exact Or.inl rfl | exact Or.inr rfl | assumption) (⟨Or.inl (⟨by unfold titF; omega, rfl⟩), rfl, rfl⟩) (Nat.le_of_ble_eq_true rfl) (Nat.le_of_ble_eq_true rfl) dX10_hasTitle_74
