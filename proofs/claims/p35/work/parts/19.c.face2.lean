theorem rOK9 {n maxL : Nat} (h : n ≤ 12) (hm : maxL ≤ 20) : rOK (rmL 17 0 0) (4 + n) maxL 0 0 0 0 := ⟨⟨by show 4 + n + 1 ≤ 17; omega, by show 8 + (maxL + 11) + 40 * (4 + n) ≤ 40 * 17; omega⟩, Nat.le_refl _, Nat.le_refl _⟩
set_option maxHeartbeats 4000000 in
set_option maxRecDepth 100000 in
theorem c_X3_fewest {l : Launch} {D : va_G} {kA : Nat → ClassId} {M : mM} {T : mT} {sz : Nat} {cu b : Nat} (ht_cu : T cu = some 9) (ht_b : T b = some 2) : mCi l yX3_fewest cX3_fewest 3 (some .int) 17 0 0 D kA M T sz [.ref cu, .ref b] (fun r u => (True) ∧ u.2 = T ∧ (∀ q, FrK T q → u.1 q = M q)) := by
  unfold mCi
  refine start_W (by decide) (Nat.le_of_ble_eq_true rfl) ?_
  intro p e s m below meth c ls hC hr hlk hnm hK hH hsz hl
  have hx := hC.1
  have hb := hC.2.1
  have hl : lv_has ls 3 [(0, .ref cu), (1, .ref b)] := hl
  have hF : ∀ q, FrK T q → M q = M q := fun q _  => rfl
  refine lv_aload_n hx hb dX3_fewest_0 rfl (lv_at hl 0 rfl) ?_
  refine tgr hC hK hH flX3_11 ht_cu rfl rfl dX3_fewest_1 (fun qq1_ t_qq1_ => ?_)
  refine lv_aload_n hx hb dX3_fewest_4 rfl (lv_at hl 1 rfl) ?_
  refine tg hC hK hH flX3_18 ht_b rfl rfl dX3_fewest_5 (fun xq2_ l_xq2_ g_xq2_ => ?_)
  have l_xq2_ : (0 : Int) ≤ xq2_.toInt := l_xq2_
  have g_xq2_ : xq2_.toInt ≤ 12 := g_xq2_
  refine tqld hC hK hH t_qq1_ rfl rfl (iIn (by omega) (by omega)) dX3_fewest_8 (fun qq3_ t_qq3_ => ?_)
  refine lv_aload_n hx hb dX3_fewest_9 rfl (lv_at hl 1 rfl) ?_
  refine tgr hC hK hH flX3_24 ht_b rfl rfl dX3_fewest_10 (fun qq4_ t_qq4_ => ?_)
  refine goV hK hH (runV (As := [.ref qq4_]) (rest := []) hC hK hH (c_X2_copy t_qq3_ t_qq4_) mlX3_28 (rcvT hK hH t_qq3_ rfl rfl) ⟨⟨Nat.le_of_ble_eq_true rfl, Nat.le_of_ble_eq_true rfl⟩, Nat.le_of_ble_eq_true rfl, Nat.le_of_ble_eq_true rfl⟩ rfl hl.1 rfl (Nat.le_of_ble_eq_true rfl) dX3_fewest_13) (fun Mq5_ Tq6_ Hq_ lcq_ hP hz hH => ?_)
  try dsimp only at hP
  obtain ⟨(-), eT, hfr⟩ := hP
  have eT := eT.symm; subst eT
  have hF : ∀ q, FrK T q → Mq5_ q = M q := fun q hq  => (hfr q hq ).trans (hF q hq )
  refine lv_aload_n hx hb dX3_fewest_16 rfl (lv_at hl 1 rfl) ?_
  refine lv_aload_n hx hb dX3_fewest_17 rfl (lv_at hl 0 rfl) ?_
  refine tgr hC hK hH flX3_11 ht_cu rfl rfl dX3_fewest_18 (fun qq8_ t_qq8_ => ?_)
  refine lv_aload_n hx hb dX3_fewest_21 rfl (lv_at hl 1 rfl) ?_
  refine tg hC hK hH flX3_18 ht_b rfl rfl dX3_fewest_22 (fun xq9_ l_xq9_ g_xq9_ => ?_)
  have l_xq9_ : (0 : Int) ≤ xq9_.toInt := l_xq9_
  have g_xq9_ : xq9_.toInt ≤ 12 := g_xq9_
  refine goI hK hH (runS (As := [.ref b, .ref qq8_, .int xq9_]) (rest := []) hC hK hH (c_X3_fewestFrom (Int.toNat (12 - xq9_.toInt)) ht_b t_qq8_ (by omega) (by omega)) mlX3_32 (rOK9 (by omega) (by decide)) rfl hl.1 rfl (Nat.le_of_ble_eq_true rfl) dX3_fewest_25) (fun rq12_ Mq10_ Tq11_ Hq_ lcq_ hP hz hH => ?_)
  try dsimp only at hP
  obtain ⟨-, eT, hfr⟩ := hP
  have eT := eT.symm; subst eT
  have hF : ∀ q, FrK T q → Mq10_ q = M q := fun q hq  => (hfr q hq ).trans (hF q hq )
  refine lv_istore_n (lv' := [(2, .int rq12_), (0, .ref cu), (1, .ref b)]) hx hb dX3_fewest_28 rfl hl (by decide) rfl (fun ls hl => ?_)
  refine lv_iload_n hx hb dX3_fewest_29 rfl (lv_at hl 0 rfl) ?_
  refine lv_bipush (v := 99) hx hb dX3_fewest_30 (by decide) ?_
  refine jic_ge (tgt := 39) hx hb dX3_fewest_32 (by decide) (fun cq13_ => ?_) (fun cq13_ => ?_)
  · skip
    have cq13_ : 99 ≤ rq12_.toInt := cq13_
    refine lv_iconst (v := -1) hx hb dX3_fewest_39 (by decide) ?_
    exact ret_i hC hr hlk hK hH (⟨trivial, rfl, hF⟩) (Nat.le_of_ble_eq_true rfl) (Nat.le_of_ble_eq_true rfl) dX3_fewest_40
  · skip
    have cq13_ : rq12_.toInt < 99 := cq13_
    refine lv_iload_n hx hb dX3_fewest_35 rfl (lv_at hl 0 rfl) ?_
    refine lv_goto (tgt := 40) hx hb dX3_fewest_36 (by decide) ?_
    exact ret_i hC hr hlk hK hH (⟨trivial, rfl, hF⟩) (Nat.le_of_ble_eq_true rfl) (Nat.le_of_ble_eq_true rfl) dX3_fewest_40
set_option maxHeartbeats 4000000 in
set_option maxRecDepth 100000 in
theorem c_X9_step {l : Launch} {D : va_G} {kA : Nat → ClassId} {M : mM} {T : mT} {sz : Nat} {ro im rd cu : Nat} {w cs bs tp : Nat} {td gd bc py rf lt tl fp : Int32} {g : Nat → Option Nat}{rc : Nat} {b k wh : Int32} (hc_ro : M ro = some (.inr (7, [.ref w, .ref im, .ref rd, .ref rc, .ref cu]))) (hn_ro : T ro = none) (hc_w : M w = some (.inr (6, [.int td, .int gd, .int bc, .int py, .int rf, .int lt, .int tl, .int fp, .ref cs, .ref bs, .ref tp]))) (hn_w : T w = none) (hc_bs : M bs = some (.inl (kA 5, 4, .inr (.inr (.inr (.inr g)))))) (ht_cs : T cs = some 3) (ht_bs : T bs = some 6) (ht_tp : T tp = some 7) (htd : 0 ≤ td.toInt ∧ td.toInt ≤ 999) (hbc : 0 ≤ bc.toInt ∧ bc.toInt ≤ 4) (htl : 0 ≤ tl.toInt ∧ tl.toInt ≤ 600) (hg : ∀ j, j < 4 → ∃ q, g j = some q ∧ T q = some 2) : mCi l yX9_step cX9_step 5 (some .int) 2 0 0 D kA M T sz [.ref ro, .int b, .int k, .int wh] (fun r u => (True) ∧ u.2 = T ∧ u.1 = M) := by
  unfold mCi
  refine start_W (by decide) (Nat.le_of_ble_eq_true rfl) ?_
  intro p e s m below meth c ls hC hr hlk hnm hK hH hsz hl
  have hx := hC.1
  have hb := hC.2.1
  have hl : lv_has ls 5 [(0, .ref ro), (1, .int b), (2, .int k), (3, .int wh)] := hl
  have n_ro_w : ro ≠ w := neM hc_ro hc_w (by simp)
  have n_ro_bs : ro ≠ bs := neM hc_ro hc_bs (by simp)
  have n_w_ro : w ≠ ro := neM hc_w hc_ro (by simp)
  have n_w_bs : w ≠ bs := neM hc_w hc_bs (by simp)
  have n_bs_ro : bs ≠ ro := neM hc_bs hc_ro (by simp)
  have n_bs_w : bs ≠ w := neM hc_bs hc_w (by simp)
  refine lv_aload_n hx hb dX9_step_0 rfl (lv_at hl 0 rfl) ?_
  refine xg hC hK hH flX9_12 hc_ro rfl dX9_step_1 ?_
  refine lv_iload_n hx hb dX9_step_4 rfl (lv_at hl 1 rfl) ?_
  refine goI hK hH (runV (As := [.int b]) (rest := []) hC hK hH (c_X8_hasBill hc_w hn_w hc_bs ht_cs ht_bs ht_tp (by omega) (by omega) (by omega) hg) mlX9_163 (rcvM hK hH hc_w rfl) ⟨⟨Nat.le_of_ble_eq_true rfl, Nat.le_of_ble_eq_true rfl⟩, Nat.le_of_ble_eq_true rfl, Nat.le_of_ble_eq_true rfl⟩ rfl hl.1 rfl (Nat.le_of_ble_eq_true rfl) dX9_step_5) (fun rq3_ Mq1_ Tq2_ Hq_ lcq_ hP hz hH => ?_)
  try dsimp only at hP
  obtain ⟨(⟨cq4_, er_rq3_⟩ | er_rq3_), eT, eM⟩ := hP
  · skip
    have eT := eT.symm; subst eT
    have er_rq3_ := er_rq3_.symm; subst er_rq3_
    have eM := eM.symm; subst eM
    have cq4_ : 0 ≤ b.toInt ∧ b.toInt ≤ 3 := cq4_
    refine jif_eq (tgt := 27) hx hb dX9_step_8 (by decide) (fun cq5_ => absurd cq5_ (by decide)) (fun cq5_ => ?_)
    refine lv_aload_n hx hb dX9_step_11 rfl (lv_at hl 0 rfl) ?_
    refine xg hC hK hH flX9_12 hc_ro rfl dX9_step_12 ?_
    refine xg hC hK hH flX9_166 hc_w rfl dX9_step_15 ?_
    refine lv_iload_n hx hb dX9_step_18 rfl (lv_at hl 1 rfl) ?_
    refine xqld (ck := 5) hC hK hH rfl hc_bs (iIn (by omega) (by omega)) dX9_step_19 ?_
    obtain ⟨qq6_, e_qq6_, t_qq6_⟩ := hg (Int32.toNatClampNeg b) (by have := iCl (x := b) (by omega); omega)
    refine lv_qr e_qq6_ ?_
    refine lv_iload_n hx hb dX9_step_20 rfl (lv_at hl 2 rfl) ?_
    refine goI hK hH (runV (As := [.int k]) (rest := []) hC hK hH (c_X1_hasStep t_qq6_) mlX9_243 (rcvT hK hH t_qq6_ rfl rfl) ⟨⟨Nat.le_of_ble_eq_true rfl, Nat.le_of_ble_eq_true rfl⟩, Nat.le_of_ble_eq_true rfl, Nat.le_of_ble_eq_true rfl⟩ rfl hl.1 rfl (Nat.le_of_ble_eq_true rfl) dX9_step_21) (fun rq9_ Mq7_ Tq8_ Hq_ lcq_ hP hz hH => ?_)
    try dsimp only at hP
    obtain ⟨(⟨cq10_, er_rq9_⟩ | er_rq9_), eT, eM⟩ := hP
    · skip
      have eT := eT.symm; subst eT
      have er_rq9_ := er_rq9_.symm; subst er_rq9_
      have eM := eM.symm; subst eM
      have cq10_ : 0 ≤ k.toInt ∧ k.toInt ≤ 11 := cq10_
      refine jif_ne (tgt := 30) hx hb dX9_step_24 (by decide) (fun cq11_ => ?_) (fun cq11_ => absurd cq11_ (by decide))
      refine lv_aload_n hx hb dX9_step_30 rfl (lv_at hl 0 rfl) ?_
      refine xg hC hK hH flX9_12 hc_ro rfl dX9_step_31 ?_
      refine xg hC hK hH flX9_166 hc_w rfl dX9_step_34 ?_
      refine lv_iload_n hx hb dX9_step_37 rfl (lv_at hl 1 rfl) ?_
      refine xqld (ck := 5) hC hK hH rfl hc_bs (iIn (by omega) (by omega)) dX9_step_38 ?_
      refine lv_qr e_qq6_ ?_
      refine tgr hC hK hH flX9_246 t_qq6_ rfl rfl dX9_step_39 (fun qq12_ t_qq12_ => ?_)
      refine lv_iload_n hx hb dX9_step_42 rfl (lv_at hl 2 rfl) ?_
      refine tqld hC hK hH t_qq12_ rfl rfl (iIn (by omega) (by omega)) dX9_step_43 (fun qq13_ t_qq13_ => ?_)
      refine lv_astore (lv' := [(4, .ref qq13_), (0, .ref ro), (1, .int b), (2, .int k), (3, .int wh)]) hx hb dX9_step_44 hl (by decide) rfl (fun ls hl => ?_)
      refine lv_iload_n hx hb dX9_step_46 rfl (lv_at hl 4 rfl) ?_
      rcases (show wh.toInt < 0 ∨ 9 < wh.toInt ∨ wh.toInt = 0 ∨ wh.toInt = 1 ∨ wh.toInt = 2 ∨ wh.toInt = 3 ∨ wh.toInt = 4 ∨ wh.toInt = 5 ∨ wh.toInt = 6 ∨ wh.toInt = 7 ∨ wh.toInt = 8 ∨ wh.toInt = 9 by omega) with cq14_ | cq14_ | cq14_ | cq14_ | cq14_ | cq14_ | cq14_ | cq14_ | cq14_ | cq14_ | cq14_ | cq14_
      · skip
        refine lv_tableOut (tgt := 166) hx hb dX9_step_47 (Or.inl cq14_) (by decide) ?_
        refine lv_bipush (v := -2) hx hb dX9_step_166 (by decide) ?_
        exact ret_i hC hr hlk hK hH (⟨trivial, rfl, rfl⟩) (Nat.le_of_ble_eq_true rfl) (Nat.le_of_ble_eq_true rfl) dX9_step_168
      · skip
        refine lv_tableOut (tgt := 166) hx hb dX9_step_47 (Or.inr cq14_) (by decide) ?_
        refine lv_bipush (v := -2) hx hb dX9_step_166 (by decide) ?_
        exact ret_i hC hr hlk hK hH (⟨trivial, rfl, rfl⟩) (Nat.le_of_ble_eq_true rfl) (Nat.le_of_ble_eq_true rfl) dX9_step_168
      · skip
        refine lv_tableIn (off := 53) (tgt := 100) hx hb dX9_step_47 (by omega) (by omega) (by rw [cq14_]; rfl) (by decide) ?_
        refine lv_aload hx hb dX9_step_100 (lv_at hl 0 rfl) ?_
        refine tg hC hK hH flX9_250 t_qq13_ rfl rfl dX9_step_102 (fun xq15_ l_xq15_ g_xq15_ => ?_)
        exact ret_i hC hr hlk hK hH (⟨trivial, rfl, rfl⟩) (Nat.le_of_ble_eq_true rfl) (Nat.le_of_ble_eq_true rfl) dX9_step_105
      · skip
        refine lv_tableIn (off := 59) (tgt := 106) hx hb dX9_step_47 (by omega) (by omega) (by rw [cq14_]; rfl) (by decide) ?_
        refine lv_aload hx hb dX9_step_106 (lv_at hl 0 rfl) ?_
        refine tg hC hK hH flX9_255 t_qq13_ rfl rfl dX9_step_108 (fun xq16_ l_xq16_ g_xq16_ => ?_)
        exact ret_i hC hr hlk hK hH (⟨trivial, rfl, rfl⟩) (Nat.le_of_ble_eq_true rfl) (Nat.le_of_ble_eq_true rfl) dX9_step_111
      · skip
        refine lv_tableIn (off := 65) (tgt := 112) hx hb dX9_step_47 (by omega) (by omega) (by rw [cq14_]; rfl) (by decide) ?_
        refine lv_aload hx hb dX9_step_112 (lv_at hl 0 rfl) ?_
        refine tg hC hK hH flX9_258 t_qq13_ rfl rfl dX9_step_114 (fun xq17_ l_xq17_ g_xq17_ => ?_)
        exact ret_i hC hr hlk hK hH (⟨trivial, rfl, rfl⟩) (Nat.le_of_ble_eq_true rfl) (Nat.le_of_ble_eq_true rfl) dX9_step_117
      · skip
        refine lv_tableIn (off := 71) (tgt := 118) hx hb dX9_step_47 (by omega) (by omega) (by rw [cq14_]; rfl) (by decide) ?_
        refine lv_aload hx hb dX9_step_118 (lv_at hl 0 rfl) ?_
        refine tg hC hK hH flX9_261 t_qq13_ rfl rfl dX9_step_120 (fun xq18_ l_xq18_ g_xq18_ => ?_)
        have l_xq18_ : (0 : Int) ≤ xq18_.toInt := l_xq18_
        have g_xq18_ : xq18_.toInt ≤ 7 := g_xq18_
        exact ret_i hC hr hlk hK hH (⟨trivial, rfl, rfl⟩) (Nat.le_of_ble_eq_true rfl) (Nat.le_of_ble_eq_true rfl) dX9_step_123
      · skip
        refine lv_tableIn (off := 77) (tgt := 124) hx hb dX9_step_47 (by omega) (by omega) (by rw [cq14_]; rfl) (by decide) ?_
        refine lv_aload hx hb dX9_step_124 (lv_at hl 0 rfl) ?_
        refine tg hC hK hH flX9_264 t_qq13_ rfl rfl dX9_step_126 (fun xq19_ l_xq19_ g_xq19_ => ?_)
        exact ret_i hC hr hlk hK hH (⟨trivial, rfl, rfl⟩) (Nat.le_of_ble_eq_true rfl) (Nat.le_of_ble_eq_true rfl) dX9_step_129
      · skip
        refine lv_tableIn (off := 83) (tgt := 130) hx hb dX9_step_47 (by omega) (by omega) (by rw [cq14_]; rfl) (by decide) ?_
        refine lv_aload hx hb dX9_step_130 (lv_at hl 0 rfl) ?_
        refine tg hC hK hH flX9_267 t_qq13_ rfl rfl dX9_step_132 (fun xq20_ l_xq20_ g_xq20_ => ?_)
        have l_xq20_ : (0 : Int) ≤ xq20_.toInt := l_xq20_
        have g_xq20_ : xq20_.toInt ≤ 1 := g_xq20_
        refine goI hK hH (runS (As := [.int xq20_]) (rest := []) hC hK hH (c_X9_bit) mlX9_190 ⟨⟨Nat.le_of_ble_eq_true rfl, Nat.le_of_ble_eq_true rfl⟩, Nat.le_of_ble_eq_true rfl, Nat.le_of_ble_eq_true rfl⟩ rfl hl.1 rfl (Nat.le_of_ble_eq_true rfl) dX9_step_135) (fun rq23_ Mq21_ Tq22_ Hq_ lcq_ hP hz hH => ?_)
        try dsimp only at hP
        obtain ⟨(er_rq23_ | er_rq23_), eT, eM⟩ := hP
        · skip
          have eT := eT.symm; subst eT
          have er_rq23_ := er_rq23_.symm; subst er_rq23_
          have eM := eM.symm; subst eM
          exact ret_i hC hr hlk hK hH (⟨trivial, rfl, rfl⟩) (Nat.le_of_ble_eq_true rfl) (Nat.le_of_ble_eq_true rfl) dX9_step_138
        · skip
          have eT := eT.symm; subst eT
          have er_rq23_ := er_rq23_.symm; subst er_rq23_
          have eM := eM.symm; subst eM
          exact ret_i hC hr hlk hK hH (⟨trivial, rfl, rfl⟩) (Nat.le_of_ble_eq_true rfl) (Nat.le_of_ble_eq_true rfl) dX9_step_138
      · skip
        refine lv_tableIn (off := 92) (tgt := 139) hx hb dX9_step_47 (by omega) (by omega) (by rw [cq14_]; rfl) (by decide) ?_
        refine lv_aload hx hb dX9_step_139 (lv_at hl 0 rfl) ?_
        refine tg hC hK hH flX9_270 t_qq13_ rfl rfl dX9_step_141 (fun xq24_ l_xq24_ g_xq24_ => ?_)
        have l_xq24_ : (0 : Int) ≤ xq24_.toInt := l_xq24_
        have g_xq24_ : xq24_.toInt ≤ 1 := g_xq24_
        refine goI hK hH (runS (As := [.int xq24_]) (rest := []) hC hK hH (c_X9_bit) mlX9_190 ⟨⟨Nat.le_of_ble_eq_true rfl, Nat.le_of_ble_eq_true rfl⟩, Nat.le_of_ble_eq_true rfl, Nat.le_of_ble_eq_true rfl⟩ rfl hl.1 rfl (Nat.le_of_ble_eq_true rfl) dX9_step_144) (fun rq27_ Mq25_ Tq26_ Hq_ lcq_ hP hz hH => ?_)
        try dsimp only at hP
        obtain ⟨(er_rq27_ | er_rq27_), eT, eM⟩ := hP
        · skip
          have eT := eT.symm; subst eT
          have er_rq27_ := er_rq27_.symm; subst er_rq27_
          have eM := eM.symm; subst eM
          exact ret_i hC hr hlk hK hH (⟨trivial, rfl, rfl⟩) (Nat.le_of_ble_eq_true rfl) (Nat.le_of_ble_eq_true rfl) dX9_step_147
        · skip
          have eT := eT.symm; subst eT
          have er_rq27_ := er_rq27_.symm; subst er_rq27_
          have eM := eM.symm; subst eM
          exact ret_i hC hr hlk hK hH (⟨trivial, rfl, rfl⟩) (Nat.le_of_ble_eq_true rfl) (Nat.le_of_ble_eq_true rfl) dX9_step_147
      · skip
        refine lv_tableIn (off := 101) (tgt := 148) hx hb dX9_step_47 (by omega) (by omega) (by rw [cq14_]; rfl) (by decide) ?_
        refine lv_aload hx hb dX9_step_148 (lv_at hl 0 rfl) ?_
        refine tg hC hK hH flX9_273 t_qq13_ rfl rfl dX9_step_150 (fun xq28_ l_xq28_ g_xq28_ => ?_)
        exact ret_i hC hr hlk hK hH (⟨trivial, rfl, rfl⟩) (Nat.le_of_ble_eq_true rfl) (Nat.le_of_ble_eq_true rfl) dX9_step_153
      · skip
        refine lv_tableIn (off := 107) (tgt := 154) hx hb dX9_step_47 (by omega) (by omega) (by rw [cq14_]; rfl) (by decide) ?_
        refine lv_aload hx hb dX9_step_154 (lv_at hl 0 rfl) ?_
        refine tg hC hK hH flX9_276 t_qq13_ rfl rfl dX9_step_156 (fun xq29_ l_xq29_ g_xq29_ => ?_)
        exact ret_i hC hr hlk hK hH (⟨trivial, rfl, rfl⟩) (Nat.le_of_ble_eq_true rfl) (Nat.le_of_ble_eq_true rfl) dX9_step_159
      · skip
        refine lv_tableIn (off := 113) (tgt := 160) hx hb dX9_step_47 (by omega) (by omega) (by rw [cq14_]; rfl) (by decide) ?_
        refine lv_aload hx hb dX9_step_160 (lv_at hl 0 rfl) ?_
        refine tg hC hK hH flX9_277 t_qq13_ rfl rfl dX9_step_162 (fun xq30_ l_xq30_ g_xq30_ => ?_)
        exact ret_i hC hr hlk hK hH (⟨trivial, rfl, rfl⟩) (Nat.le_of_ble_eq_true rfl) (Nat.le_of_ble_eq_true rfl) dX9_step_165
    · skip
      have eT := eT.symm; subst eT
      have er_rq9_ := er_rq9_.symm; subst er_rq9_
      have eM := eM.symm; subst eM
      refine jif_ne (tgt := 30) hx hb dX9_step_24 (by decide) (fun cq31_ => absurd cq31_ (by decide)) (fun cq31_ => ?_)
      refine lv_bipush (v := -2) hx hb dX9_step_27 (by decide) ?_
      exact ret_i hC hr hlk hK hH (⟨trivial, rfl, rfl⟩) (Nat.le_of_ble_eq_true rfl) (Nat.le_of_ble_eq_true rfl) dX9_step_29
  · skip
    have eT := eT.symm; subst eT
    have er_rq3_ := er_rq3_.symm; subst er_rq3_
    have eM := eM.symm; subst eM
    refine jif_eq (tgt := 27) hx hb dX9_step_8 (by decide) (fun cq32_ => ?_) (fun cq32_ => absurd cq32_ (by decide))
    refine lv_bipush (v := -2) hx hb dX9_step_27 (by decide) ?_
    exact ret_i hC hr hlk hK hH (⟨trivial, rfl, rfl⟩) (Nat.le_of_ble_eq_true rfl) (Nat.le_of_ble_eq_true rfl) dX9_step_29
set_option maxHeartbeats 4000000 in
set_option maxRecDepth 100000 in
theorem c_X9_party {l : Launch} {D : va_G} {kA : Nat → ClassId} {M : mM} {T : mT} {sz : Nat} {ro im rd cu : Nat} {w cs bs tp : Nat} {td gd bc py rf lt tl fp : Int32} {g : Nat → Option Nat}{rc : Nat} {b pt wh : Int32} (hc_ro : M ro = some (.inr (7, [.ref w, .ref im, .ref rd, .ref rc, .ref cu]))) (hn_ro : T ro = none) (hc_w : M w = some (.inr (6, [.int td, .int gd, .int bc, .int py, .int rf, .int lt, .int tl, .int fp, .ref cs, .ref bs, .ref tp]))) (hn_w : T w = none) (hc_bs : M bs = some (.inl (kA 5, 4, .inr (.inr (.inr (.inr g)))))) (ht_cs : T cs = some 3) (ht_bs : T bs = some 6) (ht_tp : T tp = some 7) (htd : 0 ≤ td.toInt ∧ td.toInt ≤ 999) (hbc : 0 ≤ bc.toInt ∧ bc.toInt ≤ 4) (htl : 0 ≤ tl.toInt ∧ tl.toInt ≤ 600) (hg : ∀ j, j < 4 → ∃ q, g j = some q ∧ T q = some 2) : mCi l yX9_party cX9_party 5 (some .int) 4 0 0 D kA M T sz [.ref ro, .int b, .int pt, .int wh] (fun r u => (True) ∧ u.2 = T ∧ u.1 = M) := by
  unfold mCi
  refine start_W (by decide) (Nat.le_of_ble_eq_true rfl) ?_
  intro p e s m below meth c ls hC hr hlk hnm hK hH hsz hl
  have hx := hC.1
  have hb := hC.2.1
  have hl : lv_has ls 5 [(0, .ref ro), (1, .int b), (2, .int pt), (3, .int wh)] := hl
  have n_ro_w : ro ≠ w := neM hc_ro hc_w (by simp)
  have n_ro_bs : ro ≠ bs := neM hc_ro hc_bs (by simp)
  have n_w_ro : w ≠ ro := neM hc_w hc_ro (by simp)
  have n_w_bs : w ≠ bs := neM hc_w hc_bs (by simp)
  have n_bs_ro : bs ≠ ro := neM hc_bs hc_ro (by simp)
  have n_bs_w : bs ≠ w := neM hc_bs hc_w (by simp)
  refine lv_aload_n hx hb dX9_party_0 rfl (lv_at hl 0 rfl) ?_
  refine xg hC hK hH flX9_12 hc_ro rfl dX9_party_1 ?_
  refine lv_iload_n hx hb dX9_party_4 rfl (lv_at hl 1 rfl) ?_
  refine lv_iload_n hx hb dX9_party_5 rfl (lv_at hl 2 rfl) ?_
  refine goI hK hH (runV (As := [.int b, .int pt]) (rest := []) hC hK hH (c_X8_hasParty hc_w hn_w hc_bs ht_cs ht_bs ht_tp (by omega) (by omega) (by omega) hg) mlX9_278 (rcvM hK hH hc_w rfl) ⟨⟨Nat.le_of_ble_eq_true rfl, Nat.le_of_ble_eq_true rfl⟩, Nat.le_of_ble_eq_true rfl, Nat.le_of_ble_eq_true rfl⟩ rfl hl.1 rfl (Nat.le_of_ble_eq_true rfl) dX9_party_6) (fun rq3_ Mq1_ Tq2_ Hq_ lcq_ hP hz hH => ?_)
  try dsimp only at hP
  obtain ⟨(⟨cq4_, er_rq3_⟩ | er_rq3_), eT, eM⟩ := hP
  · skip
    have eT := eT.symm; subst eT
    have er_rq3_ := er_rq3_.symm; subst er_rq3_
    have eM := eM.symm; subst eM
    have cq4_ : 0 ≤ b.toInt ∧ b.toInt ≤ 3 ∧ 0 ≤ pt.toInt ∧ pt.toInt ≤ 13 := cq4_
    refine jif_ne (tgt := 15) hx hb dX9_party_9 (by decide) (fun cq5_ => ?_) (fun cq5_ => absurd cq5_ (by decide))
    refine lv_aload_n hx hb dX9_party_15 rfl (lv_at hl 0 rfl) ?_
    refine xg hC hK hH flX9_12 hc_ro rfl dX9_party_16 ?_
    refine xg hC hK hH flX9_166 hc_w rfl dX9_party_19 ?_
    refine lv_iload_n hx hb dX9_party_22 rfl (lv_at hl 1 rfl) ?_
    refine xqld (ck := 5) hC hK hH rfl hc_bs (iIn (by omega) (by omega)) dX9_party_23 ?_
    obtain ⟨qq6_, e_qq6_, t_qq6_⟩ := hg (Int32.toNatClampNeg b) (by have := iCl (x := b) (by omega); omega)
    refine lv_qr e_qq6_ ?_
    refine lv_astore (lv' := [(4, .ref qq6_), (0, .ref ro), (1, .int b), (2, .int pt), (3, .int wh)]) hx hb dX9_party_24 hl (by decide) rfl (fun ls hl => ?_)
    refine lv_iload_n hx hb dX9_party_26 rfl (lv_at hl 4 rfl) ?_
    rcases (show wh.toInt < 0 ∨ 5 < wh.toInt ∨ wh.toInt = 0 ∨ wh.toInt = 1 ∨ wh.toInt = 2 ∨ wh.toInt = 3 ∨ wh.toInt = 4 ∨ wh.toInt = 5 by omega) with cq7_ | cq7_ | cq7_ | cq7_ | cq7_ | cq7_ | cq7_ | cq7_
    · skip
      refine lv_tableOut (tgt := 130) hx hb dX9_party_27 (Or.inl cq7_) (by decide) ?_
      refine lv_bipush (v := -2) hx hb dX9_party_130 (by decide) ?_
      exact ret_i hC hr hlk hK hH (⟨trivial, rfl, rfl⟩) (Nat.le_of_ble_eq_true rfl) (Nat.le_of_ble_eq_true rfl) dX9_party_132
    · skip
      refine lv_tableOut (tgt := 130) hx hb dX9_party_27 (Or.inr cq7_) (by decide) ?_
      refine lv_bipush (v := -2) hx hb dX9_party_130 (by decide) ?_
      exact ret_i hC hr hlk hK hH (⟨trivial, rfl, rfl⟩) (Nat.le_of_ble_eq_true rfl) (Nat.le_of_ble_eq_true rfl) dX9_party_132
    · skip
      refine lv_tableIn (off := 37) (tgt := 64) hx hb dX9_party_27 (by omega) (by omega) (by rw [cq7_]; rfl) (by decide) ?_
      refine lv_aload hx hb dX9_party_64 (lv_at hl 0 rfl) ?_
      refine lv_iload_n hx hb dX9_party_66 rfl (lv_at hl 3 rfl) ?_
      refine goI hK hH (runV (As := [.int pt]) (rest := []) hC hK hH (c_X1_who t_qq6_) mlX9_282 (rcvT hK hH t_qq6_ rfl rfl) ⟨⟨Nat.le_of_ble_eq_true rfl, Nat.le_of_ble_eq_true rfl⟩, Nat.le_of_ble_eq_true rfl, Nat.le_of_ble_eq_true rfl⟩ rfl hl.1 rfl (Nat.le_of_ble_eq_true rfl) dX9_party_67) (fun rq10_ Mq8_ Tq9_ Hq_ lcq_ hP hz hH => ?_)
      try dsimp only at hP
      obtain ⟨(-), eT, eM⟩ := hP
      have eT := eT.symm; subst eT
      have eM := eM.symm; subst eM
      exact ret_i hC hr hlk hK hH (⟨trivial, rfl, rfl⟩) (Nat.le_of_ble_eq_true rfl) (Nat.le_of_ble_eq_true rfl) dX9_party_70
    · skip
      refine lv_tableIn (off := 44) (tgt := 71) hx hb dX9_party_27 (by omega) (by omega) (by rw [cq7_]; rfl) (by decide) ?_
      refine lv_aload hx hb dX9_party_71 (lv_at hl 0 rfl) ?_
      refine lv_iload_n hx hb dX9_party_73 rfl (lv_at hl 3 rfl) ?_
      refine goI hK hH (runV (As := [.int pt]) (rest := []) hC hK hH (c_X1_signed t_qq6_) mlX9_285 (rcvT hK hH t_qq6_ rfl rfl) ⟨⟨Nat.le_of_ble_eq_true rfl, Nat.le_of_ble_eq_true rfl⟩, Nat.le_of_ble_eq_true rfl, Nat.le_of_ble_eq_true rfl⟩ rfl hl.1 rfl (Nat.le_of_ble_eq_true rfl) dX9_party_74) (fun rq13_ Mq11_ Tq12_ Hq_ lcq_ hP hz hH => ?_)
      try dsimp only at hP
      obtain ⟨(⟨l_rq13_, g_rq13_⟩), eT, eM⟩ := hP
      have eT := eT.symm; subst eT
      have eM := eM.symm; subst eM
      refine goI hK hH (runS (As := [.int rq13_]) (rest := []) hC hK hH (c_X9_bit) mlX9_190 ⟨⟨Nat.le_of_ble_eq_true rfl, Nat.le_of_ble_eq_true rfl⟩, Nat.le_of_ble_eq_true rfl, Nat.le_of_ble_eq_true rfl⟩ rfl hl.1 rfl (Nat.le_of_ble_eq_true rfl) dX9_party_77) (fun rq16_ Mq14_ Tq15_ Hq_ lcq_ hP hz hH => ?_)
      try dsimp only at hP
      obtain ⟨(er_rq16_ | er_rq16_), eT, eM⟩ := hP
      · skip
        have eT := eT.symm; subst eT
        have er_rq16_ := er_rq16_.symm; subst er_rq16_
        have eM := eM.symm; subst eM
        exact ret_i hC hr hlk hK hH (⟨trivial, rfl, rfl⟩) (Nat.le_of_ble_eq_true rfl) (Nat.le_of_ble_eq_true rfl) dX9_party_80
      · skip
        have eT := eT.symm; subst eT
        have er_rq16_ := er_rq16_.symm; subst er_rq16_
        have eM := eM.symm; subst eM
        exact ret_i hC hr hlk hK hH (⟨trivial, rfl, rfl⟩) (Nat.le_of_ble_eq_true rfl) (Nat.le_of_ble_eq_true rfl) dX9_party_80
    · skip
      refine lv_tableIn (off := 54) (tgt := 81) hx hb dX9_party_27 (by omega) (by omega) (by rw [cq7_]; rfl) (by decide) ?_
      refine lv_aload hx hb dX9_party_81 (lv_at hl 0 rfl) ?_
      refine tgr hC hK hH flX9_288 t_qq6_ rfl rfl dX9_party_83 (fun qq17_ t_qq17_ => ?_)
      refine lv_iload_n hx hb dX9_party_86 rfl (lv_at hl 3 rfl) ?_
      refine tild hC hK hH t_qq17_ rfl (iIn (by omega) (by omega)) dX9_party_87 (fun xq18_ l_xq18_ g_xq18_ => ?_)
      exact ret_i hC hr hlk hK hH (⟨trivial, rfl, rfl⟩) (Nat.le_of_ble_eq_true rfl) (Nat.le_of_ble_eq_true rfl) dX9_party_88
    · skip
      refine lv_tableIn (off := 62) (tgt := 89) hx hb dX9_party_27 (by omega) (by omega) (by rw [cq7_]; rfl) (by decide) ?_
      refine lv_aload hx hb dX9_party_89 (lv_at hl 0 rfl) ?_
      refine tgr hC hK hH flX9_291 t_qq6_ rfl rfl dX9_party_91 (fun qq19_ t_qq19_ => ?_)
      refine lv_iload_n hx hb dX9_party_94 rfl (lv_at hl 3 rfl) ?_
      refine tild hC hK hH t_qq19_ rfl (iIn (by omega) (by omega)) dX9_party_95 (fun xq20_ l_xq20_ g_xq20_ => ?_)
      refine jif_eq (tgt := 103) hx hb dX9_party_96 (by decide) (fun cq21_ => ?_) (fun cq21_ => ?_)
      · skip
        have cq21_ : xq20_.toInt = 0 := cq21_
        refine lv_iconst (v := 0) hx hb dX9_party_103 (by decide) ?_
        refine goI hK hH (runS (As := [.int 0]) (rest := []) hC hK hH (c_X9_bit) mlX9_190 ⟨⟨Nat.le_of_ble_eq_true rfl, Nat.le_of_ble_eq_true rfl⟩, Nat.le_of_ble_eq_true rfl, Nat.le_of_ble_eq_true rfl⟩ rfl hl.1 rfl (Nat.le_of_ble_eq_true rfl) dX9_party_104) (fun rq24_ Mq22_ Tq23_ Hq_ lcq_ hP hz hH => ?_)
        try dsimp only at hP
        obtain ⟨(er_rq24_ | er_rq24_), eT, eM⟩ := hP
        · skip
          have eT := eT.symm; subst eT
          have er_rq24_ := er_rq24_.symm; subst er_rq24_
          have eM := eM.symm; subst eM
          exact ret_i hC hr hlk hK hH (⟨trivial, rfl, rfl⟩) (Nat.le_of_ble_eq_true rfl) (Nat.le_of_ble_eq_true rfl) dX9_party_107
        · skip
          have eT := eT.symm; subst eT
          have er_rq24_ := er_rq24_.symm; subst er_rq24_
          have eM := eM.symm; subst eM
          exact ret_i hC hr hlk hK hH (⟨trivial, rfl, rfl⟩) (Nat.le_of_ble_eq_true rfl) (Nat.le_of_ble_eq_true rfl) dX9_party_107
      · skip
        have cq21_ : xq20_.toInt ≠ 0 := cq21_
        refine lv_iconst (v := 1) hx hb dX9_party_99 (by decide) ?_
        refine lv_goto (tgt := 104) hx hb dX9_party_100 (by decide) ?_
        refine goI hK hH (runS (As := [.int 1]) (rest := []) hC hK hH (c_X9_bit) mlX9_190 ⟨⟨Nat.le_of_ble_eq_true rfl, Nat.le_of_ble_eq_true rfl⟩, Nat.le_of_ble_eq_true rfl, Nat.le_of_ble_eq_true rfl⟩ rfl hl.1 rfl (Nat.le_of_ble_eq_true rfl) dX9_party_104) (fun rq27_ Mq25_ Tq26_ Hq_ lcq_ hP hz hH => ?_)
        try dsimp only at hP
        obtain ⟨(er_rq27_ | er_rq27_), eT, eM⟩ := hP
        · skip
          have eT := eT.symm; subst eT
          have er_rq27_ := er_rq27_.symm; subst er_rq27_
          have eM := eM.symm; subst eM
          exact ret_i hC hr hlk hK hH (⟨trivial, rfl, rfl⟩) (Nat.le_of_ble_eq_true rfl) (Nat.le_of_ble_eq_true rfl) dX9_party_107
        · skip
          have eT := eT.symm; subst eT
          have er_rq27_ := er_rq27_.symm; subst er_rq27_
          have eM := eM.symm; subst eM
          exact ret_i hC hr hlk hK hH (⟨trivial, rfl, rfl⟩) (Nat.le_of_ble_eq_true rfl) (Nat.le_of_ble_eq_true rfl) dX9_party_107
    · skip
      refine lv_tableIn (off := 81) (tgt := 108) hx hb dX9_party_27 (by omega) (by omega) (by rw [cq7_]; rfl) (by decide) ?_
      refine lv_aload hx hb dX9_party_108 (lv_at hl 0 rfl) ?_
      refine tgr hC hK hH flX9_294 t_qq6_ rfl rfl dX9_party_110 (fun qq28_ t_qq28_ => ?_)
      refine lv_iload_n hx hb dX9_party_113 rfl (lv_at hl 3 rfl) ?_
      refine tild hC hK hH t_qq28_ rfl (iIn (by omega) (by omega)) dX9_party_114 (fun xq29_ l_xq29_ g_xq29_ => ?_)
      exact ret_i hC hr hlk hK hH (⟨trivial, rfl, rfl⟩) (Nat.le_of_ble_eq_true rfl) (Nat.le_of_ble_eq_true rfl) dX9_party_115
    · skip
      refine lv_tableIn (off := 89) (tgt := 116) hx hb dX9_party_27 (by omega) (by omega) (by rw [cq7_]; rfl) (by decide) ?_
      refine lv_aload hx hb dX9_party_116 (lv_at hl 0 rfl) ?_
      refine lv_iload_n hx hb dX9_party_118 rfl (lv_at hl 3 rfl) ?_
      refine lv_aload_n hx hb dX9_party_119 rfl (lv_at hl 1 rfl) ?_
      refine xg hC hK hH flX9_12 hc_ro rfl dX9_party_120 ?_
      refine xg hC hK hH flX9_134 hc_w rfl dX9_party_123 ?_
      refine goI hK hH (runV (As := [.int pt, .int td]) (rest := []) hC hK hH (c_X1_whyNot t_qq6_ (by omega)) mlX9_297 (rcvT hK hH t_qq6_ rfl rfl) ⟨⟨Nat.le_of_ble_eq_true rfl, Nat.le_of_ble_eq_true rfl⟩, Nat.le_of_ble_eq_true rfl, Nat.le_of_ble_eq_true rfl⟩ rfl hl.1 rfl (Nat.le_of_ble_eq_true rfl) dX9_party_126) (fun rq32_ Mq30_ Tq31_ Hq_ lcq_ hP hz hH => ?_)
      try dsimp only at hP
      obtain ⟨(-), eT, eM⟩ := hP
      have eT := eT.symm; subst eT
      have eM := eM.symm; subst eM
      exact ret_i hC hr hlk hK hH (⟨trivial, rfl, rfl⟩) (Nat.le_of_ble_eq_true rfl) (Nat.le_of_ble_eq_true rfl) dX9_party_129
  · skip
    have eT := eT.symm; subst eT
    have er_rq3_ := er_rq3_.symm; subst er_rq3_
    have eM := eM.symm; subst eM
    refine jif_ne (tgt := 15) hx hb dX9_party_9 (by decide) (fun cq33_ => absurd cq33_ (by decide)) (fun cq33_ => ?_)
    refine lv_bipush (v := -2) hx hb dX9_party_12 (by decide) ?_
    exact ret_i hC hr hlk hK hH (⟨trivial, rfl, rfl⟩) (Nat.le_of_ble_eq_true rfl) (Nat.le_of_ble_eq_true rfl) dX9_party_14
set_option maxHeartbeats 4000000 in
set_option maxRecDepth 100000 in
theorem c_X9_why {l : Launch} {D : va_G} {kA : Nat → ClassId} {M : mM} {T : mT} {sz : Nat} {ro im rd cu : Nat} {w cs bs tp : Nat} {td gd bc py rf lt tl fp : Int32} {g : Nat → Option Nat}{rc : Nat} {b pt lv wh : Int32} (hc_ro : M ro = some (.inr (7, [.ref w, .ref im, .ref rd, .ref rc, .ref cu]))) (hn_ro : T ro = none) (hc_w : M w = some (.inr (6, [.int td, .int gd, .int bc, .int py, .int rf, .int lt, .int tl, .int fp, .ref cs, .ref bs, .ref tp]))) (hn_w : T w = none) (hc_bs : M bs = some (.inl (kA 5, 4, .inr (.inr (.inr (.inr g)))))) (ht_cs : T cs = some 3) (ht_bs : T bs = some 6) (ht_tp : T tp = some 7) (htd : 0 ≤ td.toInt ∧ td.toInt ≤ 999) (hbc : 0 ≤ bc.toInt ∧ bc.toInt ≤ 4) (htl : 0 ≤ tl.toInt ∧ tl.toInt ≤ 600) (hg : ∀ j, j < 4 → ∃ q, g j = some q ∧ T q = some 2) : mCi l yX9_why cX9_why 7 (some .int) 6 0 0 D kA M T sz [.ref ro, .int b, .int pt, .int lv, .int wh] (fun r u => (True) ∧ u.2 = T ∧ u.1 = M) := by
  unfold mCi
  refine start_W (by decide) (Nat.le_of_ble_eq_true rfl) ?_
  intro p e s m below meth c ls hC hr hlk hnm hK hH hsz hl
  have hx := hC.1
  have hb := hC.2.1
  have hl : lv_has ls 7 [(0, .ref ro), (1, .int b), (2, .int pt), (3, .int lv), (4, .int wh)] := hl
  have n_ro_w : ro ≠ w := neM hc_ro hc_w (by simp)
  have n_ro_bs : ro ≠ bs := neM hc_ro hc_bs (by simp)
  have n_w_ro : w ≠ ro := neM hc_w hc_ro (by simp)
  have n_w_bs : w ≠ bs := neM hc_w hc_bs (by simp)
  have n_bs_ro : bs ≠ ro := neM hc_bs hc_ro (by simp)
  have n_bs_w : bs ≠ w := neM hc_bs hc_w (by simp)
  refine lv_aload_n hx hb dX9_why_0 rfl (lv_at hl 0 rfl) ?_
  refine xg hC hK hH flX9_12 hc_ro rfl dX9_why_1 ?_
  refine lv_iload_n hx hb dX9_why_4 rfl (lv_at hl 1 rfl) ?_
  refine lv_iload_n hx hb dX9_why_5 rfl (lv_at hl 2 rfl) ?_
  refine goI hK hH (runV (As := [.int b, .int pt]) (rest := []) hC hK hH (c_X8_hasParty hc_w hn_w hc_bs ht_cs ht_bs ht_tp (by omega) (by omega) (by omega) hg) mlX9_278 (rcvM hK hH hc_w rfl) ⟨⟨Nat.le_of_ble_eq_true rfl, Nat.le_of_ble_eq_true rfl⟩, Nat.le_of_ble_eq_true rfl, Nat.le_of_ble_eq_true rfl⟩ rfl hl.1 rfl (Nat.le_of_ble_eq_true rfl) dX9_why_6) (fun rq3_ Mq1_ Tq2_ Hq_ lcq_ hP hz hH => ?_)
  try dsimp only at hP
  obtain ⟨(⟨cq4_, er_rq3_⟩ | er_rq3_), eT, eM⟩ := hP
  · skip
    have eT := eT.symm; subst eT
    have er_rq3_ := er_rq3_.symm; subst er_rq3_
    have eM := eM.symm; subst eM
    have cq4_ : 0 ≤ b.toInt ∧ b.toInt ≤ 3 ∧ 0 ≤ pt.toInt ∧ pt.toInt ≤ 13 := cq4_
    refine jif_eq (tgt := 32) hx hb dX9_why_9 (by decide) (fun cq5_ => absurd cq5_ (by decide)) (fun cq5_ => ?_)
    refine lv_iload_n hx hb dX9_why_12 rfl (lv_at hl 3 rfl) ?_
    refine jif_lt (tgt := 32) hx hb dX9_why_13 (by decide) (fun cq6_ => ?_) (fun cq6_ => ?_)
    · skip
      have cq6_ : lv.toInt < 0 := cq6_
      refine lv_bipush (v := -2) hx hb dX9_why_32 (by decide) ?_
      exact ret_i hC hr hlk hK hH (⟨trivial, rfl, rfl⟩) (Nat.le_of_ble_eq_true rfl) (Nat.le_of_ble_eq_true rfl) dX9_why_34
    · skip
      have cq6_ : 0 ≤ lv.toInt := cq6_
      refine lv_iload_n hx hb dX9_why_16 rfl (lv_at hl 3 rfl) ?_
      refine lv_iconst (v := 3) hx hb dX9_why_17 (by decide) ?_
      refine jic_ge (tgt := 32) hx hb dX9_why_18 (by decide) (fun cq7_ => ?_) (fun cq7_ => ?_)
      · skip
        have cq7_ : 3 ≤ lv.toInt := cq7_
        refine lv_bipush (v := -2) hx hb dX9_why_32 (by decide) ?_
        exact ret_i hC hr hlk hK hH (⟨trivial, rfl, rfl⟩) (Nat.le_of_ble_eq_true rfl) (Nat.le_of_ble_eq_true rfl) dX9_why_34
      · skip
        have cq7_ : lv.toInt < 3 := cq7_
        refine lv_iload hx hb dX9_why_21 (lv_at hl 4 rfl) ?_
        refine jif_lt (tgt := 32) hx hb dX9_why_23 (by decide) (fun cq8_ => ?_) (fun cq8_ => ?_)
        · skip
          have cq8_ : wh.toInt < 0 := cq8_
          refine lv_bipush (v := -2) hx hb dX9_why_32 (by decide) ?_
          exact ret_i hC hr hlk hK hH (⟨trivial, rfl, rfl⟩) (Nat.le_of_ble_eq_true rfl) (Nat.le_of_ble_eq_true rfl) dX9_why_34
        · skip
          have cq8_ : 0 ≤ wh.toInt := cq8_
          refine lv_iload hx hb dX9_why_26 (lv_at hl 4 rfl) ?_
          refine lv_iconst (v := 1) hx hb dX9_why_28 (by decide) ?_
          refine jic_le (tgt := 35) hx hb dX9_why_29 (by decide) (fun cq9_ => ?_) (fun cq9_ => ?_)
          · skip
            have cq9_ : wh.toInt ≤ 1 := cq9_
            refine lv_aload_n hx hb dX9_why_35 rfl (lv_at hl 0 rfl) ?_
            refine xg hC hK hH flX9_12 hc_ro rfl dX9_why_36 ?_
            refine xg hC hK hH flX9_166 hc_w rfl dX9_why_39 ?_
            refine lv_iload_n hx hb dX9_why_42 rfl (lv_at hl 1 rfl) ?_
            refine xqld (ck := 5) hC hK hH rfl hc_bs (iIn (by omega) (by omega)) dX9_why_43 ?_
            obtain ⟨qq10_, e_qq10_, t_qq10_⟩ := hg (Int32.toNatClampNeg b) (by have := iCl (x := b) (by omega); omega)
            refine lv_qr e_qq10_ ?_
            refine lv_astore (lv' := [(5, .ref qq10_), (0, .ref ro), (1, .int b), (2, .int pt), (3, .int lv), (4, .int wh)]) hx hb dX9_why_44 hl (by decide) rfl (fun ls hl => ?_)
            refine lv_aload hx hb dX9_why_46 (lv_at hl 0 rfl) ?_
            refine lv_iload_n hx hb dX9_why_48 rfl (lv_at hl 3 rfl) ?_
            refine lv_aload_n hx hb dX9_why_49 rfl (lv_at hl 1 rfl) ?_
            refine xg hC hK hH flX9_12 hc_ro rfl dX9_why_50 ?_
            refine xg hC hK hH flX9_134 hc_w rfl dX9_why_53 ?_
            refine goI hK hH (runV (As := [.int pt, .int td]) (rest := []) hC hK hH (c_X1_whyNot t_qq10_ (by omega)) mlX9_297 (rcvT hK hH t_qq10_ rfl rfl) ⟨⟨Nat.le_of_ble_eq_true rfl, Nat.le_of_ble_eq_true rfl⟩, Nat.le_of_ble_eq_true rfl, Nat.le_of_ble_eq_true rfl⟩ rfl hl.1 rfl (Nat.le_of_ble_eq_true rfl) dX9_why_56) (fun rq13_ Mq11_ Tq12_ Hq_ lcq_ hP hz hH => ?_)
            try dsimp only at hP
            obtain ⟨(-), eT, eM⟩ := hP
            have eT := eT.symm; subst eT
            have eM := eM.symm; subst eM
            refine lv_istore (lv' := [(6, .int rq13_), (5, .ref qq10_), (0, .ref ro), (1, .int b), (2, .int pt), (3, .int lv), (4, .int wh)]) hx hb dX9_why_59 hl (by decide) rfl (fun ls hl => ?_)
            refine lv_iload_n hx hb dX9_why_61 rfl (lv_at hl 5 rfl) ?_
            refine jif_le (tgt := 89) hx hb dX9_why_62 (by decide) (fun cq14_ => ?_) (fun cq14_ => ?_)
            · skip
              have cq14_ : lv.toInt ≤ 0 := cq14_
              refine lv_iload_n hx hb dX9_why_89 rfl (lv_at hl 5 rfl) ?_
              refine lv_iconst (v := 1) hx hb dX9_why_90 (by decide) ?_
              refine jic_le (tgt := 115) hx hb dX9_why_91 (by decide) (fun cq15_ => ?_) (fun cq15_ => absurd cq15_ (by have := iRg lv; have : (1 : Int32).toInt = 1 := rfl; omega))
              have cq15_ : lv.toInt ≤ 1 := cq15_
              refine lv_iload hx hb dX9_why_115 (lv_at hl 6 rfl) ?_
              refine jif_eq (tgt := 125) hx hb dX9_why_117 (by decide) (fun cq16_ => ?_) (fun cq16_ => ?_)
              · skip
                have cq16_ : wh.toInt = 0 := cq16_
                refine lv_iload hx hb dX9_why_125 (lv_at hl 0 rfl) ?_
                refine lv_goto (tgt := 138) hx hb dX9_why_127 (by decide) ?_
                exact ret_i hC hr hlk hK hH (⟨trivial, rfl, rfl⟩) (Nat.le_of_ble_eq_true rfl) (Nat.le_of_ble_eq_true rfl) dX9_why_138
              · skip
                have cq16_ : wh.toInt ≠ 0 := cq16_
                refine lv_iload hx hb dX9_why_120 (lv_at hl 0 rfl) ?_
                refine jif_ne (tgt := 130) hx hb dX9_why_122 (by decide) (fun cq17_ => ?_) (fun cq17_ => ?_)
                · skip
                  have cq17_ : rq13_.toInt ≠ 0 := cq17_
                  refine lv_aload hx hb dX9_why_130 (lv_at hl 1 rfl) ?_
                  refine lv_iload_n hx hb dX9_why_132 rfl (lv_at hl 4 rfl) ?_
                  refine lv_iload hx hb dX9_why_133 (lv_at hl 0 rfl) ?_
                  refine goI hK hH (runV (As := [.int pt, .int rq13_]) (rest := []) hC hK hH (c_X1_placeOf t_qq10_ (by omega)) mlX9_307 (rcvT hK hH t_qq10_ rfl rfl) ⟨⟨Nat.le_of_ble_eq_true rfl, Nat.le_of_ble_eq_true rfl⟩, Nat.le_of_ble_eq_true rfl, Nat.le_of_ble_eq_true rfl⟩ rfl hl.1 rfl (Nat.le_of_ble_eq_true rfl) dX9_why_135) (fun rq20_ Mq18_ Tq19_ Hq_ lcq_ hP hz hH => ?_)
                  try dsimp only at hP
                  obtain ⟨(-), eT, eM⟩ := hP
                  have eT := eT.symm; subst eT
                  have eM := eM.symm; subst eM
                  exact ret_i hC hr hlk hK hH (⟨trivial, rfl, rfl⟩) (Nat.le_of_ble_eq_true rfl) (Nat.le_of_ble_eq_true rfl) dX9_why_138
                · skip
                  have cq17_ : rq13_.toInt = 0 := cq17_
                  refine lv_iload hx hb dX9_why_125 (lv_at hl 0 rfl) ?_
                  refine lv_goto (tgt := 138) hx hb dX9_why_127 (by decide) ?_
                  exact ret_i hC hr hlk hK hH (⟨trivial, rfl, rfl⟩) (Nat.le_of_ble_eq_true rfl) (Nat.le_of_ble_eq_true rfl) dX9_why_138
            · skip
              have cq14_ : 0 < lv.toInt := cq14_
              refine lv_aload hx hb dX9_why_65 (lv_at hl 1 rfl) ?_
              refine lv_iload_n hx hb dX9_why_67 rfl (lv_at hl 4 rfl) ?_
              refine lv_iload hx hb dX9_why_68 (lv_at hl 0 rfl) ?_
              refine lv_aload_n hx hb dX9_why_70 rfl (lv_at hl 2 rfl) ?_
              refine xg hC hK hH flX9_12 hc_ro rfl dX9_why_71 ?_
              refine xg hC hK hH flX9_134 hc_w rfl dX9_why_74 ?_
              refine lv_aload_n hx hb dX9_why_77 rfl (lv_at hl 2 rfl) ?_
              refine xg hC hK hH flX9_12 hc_ro rfl dX9_why_78 ?_
              refine xg hC hK hH flX9_137 hc_w rfl dX9_why_81 ?_
              refine goI hK hH (runV (As := [.int pt, .int rq13_, .int td, .int gd]) (rest := []) hC hK hH (c_X1_comesOf t_qq10_ (by omega)) mlX9_300 (rcvT hK hH t_qq10_ rfl rfl) ⟨⟨Nat.le_of_ble_eq_true rfl, Nat.le_of_ble_eq_true rfl⟩, Nat.le_of_ble_eq_true rfl, Nat.le_of_ble_eq_true rfl⟩ rfl hl.1 rfl (Nat.le_of_ble_eq_true rfl) dX9_why_84) (fun rq23_ Mq21_ Tq22_ Hq_ lcq_ hP hz hH => ?_)
              try dsimp only at hP
              obtain ⟨(-), eT, eM⟩ := hP
              have eT := eT.symm; subst eT
              have eM := eM.symm; subst eM
              refine lv_istore (lv' := [(6, .int rq23_), (5, .ref qq10_), (0, .ref ro), (1, .int b), (2, .int pt), (3, .int lv), (4, .int wh)]) hx hb dX9_why_87 hl (by decide) rfl (fun ls hl => ?_)
              refine lv_iload_n hx hb dX9_why_89 rfl (lv_at hl 5 rfl) ?_
              refine lv_iconst (v := 1) hx hb dX9_why_90 (by decide) ?_
              refine jic_le (tgt := 115) hx hb dX9_why_91 (by decide) (fun cq24_ => ?_) (fun cq24_ => ?_)
              · skip
                have cq24_ : lv.toInt ≤ 1 := cq24_
                refine lv_iload hx hb dX9_why_115 (lv_at hl 6 rfl) ?_
                refine jif_eq (tgt := 125) hx hb dX9_why_117 (by decide) (fun cq25_ => ?_) (fun cq25_ => ?_)
                · skip
                  have cq25_ : wh.toInt = 0 := cq25_
                  refine lv_iload hx hb dX9_why_125 (lv_at hl 0 rfl) ?_
                  refine lv_goto (tgt := 138) hx hb dX9_why_127 (by decide) ?_
                  exact ret_i hC hr hlk hK hH (⟨trivial, rfl, rfl⟩) (Nat.le_of_ble_eq_true rfl) (Nat.le_of_ble_eq_true rfl) dX9_why_138
                · skip
                  have cq25_ : wh.toInt ≠ 0 := cq25_
                  refine lv_iload hx hb dX9_why_120 (lv_at hl 0 rfl) ?_
                  refine jif_ne (tgt := 130) hx hb dX9_why_122 (by decide) (fun cq26_ => ?_) (fun cq26_ => ?_)
                  · skip
                    have cq26_ : rq23_.toInt ≠ 0 := cq26_
                    refine lv_aload hx hb dX9_why_130 (lv_at hl 1 rfl) ?_
                    refine lv_iload_n hx hb dX9_why_132 rfl (lv_at hl 4 rfl) ?_
                    refine lv_iload hx hb dX9_why_133 (lv_at hl 0 rfl) ?_
                    refine goI hK hH (runV (As := [.int pt, .int rq23_]) (rest := []) hC hK hH (c_X1_placeOf t_qq10_ (by omega)) mlX9_307 (rcvT hK hH t_qq10_ rfl rfl) ⟨⟨Nat.le_of_ble_eq_true rfl, Nat.le_of_ble_eq_true rfl⟩, Nat.le_of_ble_eq_true rfl, Nat.le_of_ble_eq_true rfl⟩ rfl hl.1 rfl (Nat.le_of_ble_eq_true rfl) dX9_why_135) (fun rq29_ Mq27_ Tq28_ Hq_ lcq_ hP hz hH => ?_)
                    try dsimp only at hP
                    obtain ⟨(-), eT, eM⟩ := hP
                    have eT := eT.symm; subst eT
                    have eM := eM.symm; subst eM
                    exact ret_i hC hr hlk hK hH (⟨trivial, rfl, rfl⟩) (Nat.le_of_ble_eq_true rfl) (Nat.le_of_ble_eq_true rfl) dX9_why_138
                  · skip
                    have cq26_ : rq23_.toInt = 0 := cq26_
                    refine lv_iload hx hb dX9_why_125 (lv_at hl 0 rfl) ?_
                    refine lv_goto (tgt := 138) hx hb dX9_why_127 (by decide) ?_
                    exact ret_i hC hr hlk hK hH (⟨trivial, rfl, rfl⟩) (Nat.le_of_ble_eq_true rfl) (Nat.le_of_ble_eq_true rfl) dX9_why_138
              · skip
                have cq24_ : 1 < lv.toInt := cq24_
                refine lv_iload hx hb dX9_why_94 (lv_at hl 0 rfl) ?_
                refine lv_bipush (v := 11) hx hb dX9_why_96 (by decide) ?_
                refine jic_ne (tgt := 112) hx hb dX9_why_98 (by decide) (fun cq30_ => ?_) (fun cq30_ => ?_)
                · skip
                  have cq30_ : rq23_.toInt ≠ 11 := cq30_
                  refine lv_iconst (v := 0) hx hb dX9_why_112 (by decide) ?_
                  refine lv_istore (lv' := [(6, .int 0), (5, .ref qq10_), (0, .ref ro), (1, .int b), (2, .int pt), (3, .int lv), (4, .int wh)]) hx hb dX9_why_113 hl (by decide) rfl (fun ls hl => ?_)
                  refine lv_iload hx hb dX9_why_115 (lv_at hl 6 rfl) ?_
                  refine jif_eq (tgt := 125) hx hb dX9_why_117 (by decide) (fun cq31_ => ?_) (fun cq31_ => ?_)
                  · skip
                    have cq31_ : wh.toInt = 0 := cq31_
                    refine lv_iload hx hb dX9_why_125 (lv_at hl 0 rfl) ?_
                    refine lv_goto (tgt := 138) hx hb dX9_why_127 (by decide) ?_
                    exact ret_i hC hr hlk hK hH (⟨trivial, rfl, rfl⟩) (Nat.le_of_ble_eq_true rfl) (Nat.le_of_ble_eq_true rfl) dX9_why_138
                  · skip
                    have cq31_ : wh.toInt ≠ 0 := cq31_
                    refine lv_iload hx hb dX9_why_120 (lv_at hl 0 rfl) ?_
                    refine jif_ne (tgt := 130) hx hb dX9_why_122 (by decide) (fun cq32_ => absurd cq32_ (by decide)) (fun cq32_ => ?_)
                    refine lv_iload hx hb dX9_why_125 (lv_at hl 0 rfl) ?_
                    refine lv_goto (tgt := 138) hx hb dX9_why_127 (by decide) ?_
                    exact ret_i hC hr hlk hK hH (⟨trivial, rfl, rfl⟩) (Nat.le_of_ble_eq_true rfl) (Nat.le_of_ble_eq_true rfl) dX9_why_138
                · skip
                  have cq30_ : rq23_.toInt = 11 := cq30_
                  refine lv_aload hx hb dX9_why_101 (lv_at hl 1 rfl) ?_
                  refine tgr hC hK hH flX9_209 t_qq10_ rfl rfl dX9_why_103 (fun qq33_ t_qq33_ => ?_)
                  refine tg hC hK hH flX9_304 t_qq33_ rfl rfl dX9_why_106 (fun xq34_ l_xq34_ g_xq34_ => ?_)
                  refine lv_goto (tgt := 113) hx hb dX9_why_109 (by decide) ?_
                  refine lv_istore (lv' := [(6, .int xq34_), (5, .ref qq10_), (0, .ref ro), (1, .int b), (2, .int pt), (3, .int lv), (4, .int wh)]) hx hb dX9_why_113 hl (by decide) rfl (fun ls hl => ?_)
                  refine lv_iload hx hb dX9_why_115 (lv_at hl 6 rfl) ?_
                  refine jif_eq (tgt := 125) hx hb dX9_why_117 (by decide) (fun cq35_ => ?_) (fun cq35_ => ?_)
                  · skip
                    have cq35_ : wh.toInt = 0 := cq35_
                    refine lv_iload hx hb dX9_why_125 (lv_at hl 0 rfl) ?_
                    refine lv_goto (tgt := 138) hx hb dX9_why_127 (by decide) ?_
                    exact ret_i hC hr hlk hK hH (⟨trivial, rfl, rfl⟩) (Nat.le_of_ble_eq_true rfl) (Nat.le_of_ble_eq_true rfl) dX9_why_138
                  · skip
                    have cq35_ : wh.toInt ≠ 0 := cq35_
                    refine lv_iload hx hb dX9_why_120 (lv_at hl 0 rfl) ?_
                    refine jif_ne (tgt := 130) hx hb dX9_why_122 (by decide) (fun cq36_ => ?_) (fun cq36_ => ?_)
                    · skip
                      have cq36_ : xq34_.toInt ≠ 0 := cq36_
                      refine lv_aload hx hb dX9_why_130 (lv_at hl 1 rfl) ?_
                      refine lv_iload_n hx hb dX9_why_132 rfl (lv_at hl 4 rfl) ?_
                      refine lv_iload hx hb dX9_why_133 (lv_at hl 0 rfl) ?_
                      refine goI hK hH (runV (As := [.int pt, .int xq34_]) (rest := []) hC hK hH (c_X1_placeOf t_qq10_ (by omega)) mlX9_307 (rcvT hK hH t_qq10_ rfl rfl) ⟨⟨Nat.le_of_ble_eq_true rfl, Nat.le_of_ble_eq_true rfl⟩, Nat.le_of_ble_eq_true rfl, Nat.le_of_ble_eq_true rfl⟩ rfl hl.1 rfl (Nat.le_of_ble_eq_true rfl) dX9_why_135) (fun rq39_ Mq37_ Tq38_ Hq_ lcq_ hP hz hH => ?_)
                      try dsimp only at hP
                      obtain ⟨(-), eT, eM⟩ := hP
                      have eT := eT.symm; subst eT
                      have eM := eM.symm; subst eM
                      exact ret_i hC hr hlk hK hH (⟨trivial, rfl, rfl⟩) (Nat.le_of_ble_eq_true rfl) (Nat.le_of_ble_eq_true rfl) dX9_why_138
                    · skip
                      have cq36_ : xq34_.toInt = 0 := cq36_
                      refine lv_iload hx hb dX9_why_125 (lv_at hl 0 rfl) ?_
                      refine lv_goto (tgt := 138) hx hb dX9_why_127 (by decide) ?_
                      exact ret_i hC hr hlk hK hH (⟨trivial, rfl, rfl⟩) (Nat.le_of_ble_eq_true rfl) (Nat.le_of_ble_eq_true rfl) dX9_why_138
          · skip
            have cq9_ : 1 < wh.toInt := cq9_
            refine lv_bipush (v := -2) hx hb dX9_why_32 (by decide) ?_
            exact ret_i hC hr hlk hK hH (⟨trivial, rfl, rfl⟩) (Nat.le_of_ble_eq_true rfl) (Nat.le_of_ble_eq_true rfl) dX9_why_34
  · skip
    have eT := eT.symm; subst eT
    have er_rq3_ := er_rq3_.symm; subst er_rq3_
    have eM := eM.symm; subst eM
    refine jif_eq (tgt := 32) hx hb dX9_why_9 (by decide) (fun cq40_ => ?_) (fun cq40_ => absurd cq40_ (by decide))
    refine lv_bipush (v := -2) hx hb dX9_why_32 (by decide) ?_
    exact ret_i hC hr hlk hK hH (⟨trivial, rfl, rfl⟩) (Nat.le_of_ble_eq_true rfl) (Nat.le_of_ble_eq_true rfl) dX9_why_34
set_option maxHeartbeats 4000000 in
set_option maxRecDepth 100000 in
theorem c_X9_liable {l : Launch} {D : va_G} {kA : Nat → ClassId} {M : mM} {T : mT} {sz : Nat} {ro im rd cu : Nat} {w cs bs tp : Nat} {td gd bc py rf lt tl fp : Int32} {g : Nat → Option Nat}{rc : Nat} {b : Int32} (hc_ro : M ro = some (.inr (7, [.ref w, .ref im, .ref rd, .ref rc, .ref cu]))) (hn_ro : T ro = none) (hc_w : M w = some (.inr (6, [.int td, .int gd, .int bc, .int py, .int rf, .int lt, .int tl, .int fp, .ref cs, .ref bs, .ref tp]))) (hn_w : T w = none) (hc_bs : M bs = some (.inl (kA 5, 4, .inr (.inr (.inr (.inr g)))))) (ht_cs : T cs = some 3) (ht_bs : T bs = some 6) (ht_tp : T tp = some 7) (htd : 0 ≤ td.toInt ∧ td.toInt ≤ 999) (hbc : 0 ≤ bc.toInt ∧ bc.toInt ≤ 4) (htl : 0 ≤ tl.toInt ∧ tl.toInt ≤ 600) (hg : ∀ j, j < 4 → ∃ q, g j = some q ∧ T q = some 2) : mCi l yX9_liable cX9_liable 5 (some .int) 4 0 0 D kA M T sz [.ref ro, .int b] (fun r u => (True) ∧ u.2 = T ∧ u.1 = M) := by
  unfold mCi
  refine start_W (by decide) (Nat.le_of_ble_eq_true rfl) ?_
  intro p e s m below meth c ls hC hr hlk hnm hK hH hsz hl
  have hx := hC.1
  have hb := hC.2.1
  have hl : lv_has ls 5 [(0, .ref ro), (1, .int b)] := hl
  have n_ro_w : ro ≠ w := neM hc_ro hc_w (by simp)
  have n_ro_bs : ro ≠ bs := neM hc_ro hc_bs (by simp)
  have n_w_ro : w ≠ ro := neM hc_w hc_ro (by simp)
  have n_w_bs : w ≠ bs := neM hc_w hc_bs (by simp)
  have n_bs_ro : bs ≠ ro := neM hc_bs hc_ro (by simp)
  have n_bs_w : bs ≠ w := neM hc_bs hc_w (by simp)
  refine lv_aload_n hx hb dX9_liable_0 rfl (lv_at hl 0 rfl) ?_
  refine xg hC hK hH flX9_12 hc_ro rfl dX9_liable_1 ?_
  refine lv_iload_n hx hb dX9_liable_4 rfl (lv_at hl 1 rfl) ?_
  refine goI hK hH (runV (As := [.int b]) (rest := []) hC hK hH (c_X8_hasBill hc_w hn_w hc_bs ht_cs ht_bs ht_tp (by omega) (by omega) (by omega) hg) mlX9_163 (rcvM hK hH hc_w rfl) ⟨⟨Nat.le_of_ble_eq_true rfl, Nat.le_of_ble_eq_true rfl⟩, Nat.le_of_ble_eq_true rfl, Nat.le_of_ble_eq_true rfl⟩ rfl hl.1 rfl (Nat.le_of_ble_eq_true rfl) dX9_liable_5) (fun rq3_ Mq1_ Tq2_ Hq_ lcq_ hP hz hH => ?_)
  try dsimp only at hP
  obtain ⟨(⟨cq4_, er_rq3_⟩ | er_rq3_), eT, eM⟩ := hP
  · skip
    have eT := eT.symm; subst eT
    have er_rq3_ := er_rq3_.symm; subst er_rq3_
    have eM := eM.symm; subst eM
    have cq4_ : 0 ≤ b.toInt ∧ b.toInt ≤ 3 := cq4_
    refine jif_ne (tgt := 14) hx hb dX9_liable_8 (by decide) (fun cq5_ => ?_) (fun cq5_ => absurd cq5_ (by decide))
    refine lv_aload_n hx hb dX9_liable_14 rfl (lv_at hl 0 rfl) ?_
    refine xg hC hK hH flX9_12 hc_ro rfl dX9_liable_15 ?_
    refine xg hC hK hH flX9_166 hc_w rfl dX9_liable_18 ?_
    refine lv_iload_n hx hb dX9_liable_21 rfl (lv_at hl 1 rfl) ?_
    refine xqld (ck := 5) hC hK hH rfl hc_bs (iIn (by omega) (by omega)) dX9_liable_22 ?_
    obtain ⟨qq6_, e_qq6_, t_qq6_⟩ := hg (Int32.toNatClampNeg b) (by have := iCl (x := b) (by omega); omega)
    refine lv_qr e_qq6_ ?_
    refine lv_astore_n (lv' := [(2, .ref qq6_), (0, .ref ro), (1, .int b)]) hx hb dX9_liable_23 rfl hl (by decide) rfl (fun ls hl => ?_)
    refine lv_iconst (v := 0) hx hb dX9_liable_24 (by decide) ?_
    refine lv_istore_n (lv' := [(3, .int 0), (2, .ref qq6_), (0, .ref ro), (1, .int b)]) hx hb dX9_liable_25 rfl hl (by decide) rfl (fun ls hl => ?_)
    refine lv_iconst (v := 0) hx hb dX9_liable_26 (by decide) ?_
    refine lv_istore (lv' := [(4, .int 0), (3, .int 0), (2, .ref qq6_), (0, .ref ro), (1, .int b)]) hx hb dX9_liable_27 hl (by decide) rfl (fun ls hl => ?_)
    have loop : ∀ (n : Nat) (iq7_ : Int32) (yq8_ : Int32) (Hq_ : Heap) (lcq_ : List Loc) (ls : Array Slot), iq7_.toInt + (n : Int) = 14 → (0 : Int) ≤ iq7_.toInt → iq7_.toInt ≤ 14 → M ro = some (.inr (7, [.ref w, .ref im, .ref rd, .ref rc, .ref cu])) → M w = some (.inr (6, [.int td, .int gd, .int bc, .int py, .int rf, .int lt, .int tl, .int fp, .ref cs, .ref bs, .ref tp])) → M bs = some (.inl (kA 5, 4, .inr (.inr (.inr (.inr g))))) → mS D kA M T (mA M T sz) s.heap Hq_ lcq_ → lv_has ls 5 [(4, .int iq7_), (3, .int yq8_), (2, .ref qq6_), (0, .ref ro), (1, .int b)] → W p l e (rmL 4 0 0) s m ([.ref ro, .int b] : List Value).toArray below meth c Hq_ lcq_ 0 0 (MQ below (va_Qi (fun r u => (True) ∧ u.2 = T ∧ u.1 = M) (mB D kA M T sz) (mA M T sz)) ([.ref ro, .int b] : List Value).toArray s 0 0 (mA M T sz)) (F0 m 29 ls []) := by
      intro n
      induction n with
      | zero =>
        intro iq7_ yq8_ Hq_ lcq_ ls hi_iq7_ h0_iq7_ h9_iq7_ hc_ro hc_w hc_bs hH hl
        have hi2_iq7_ : iq7_.toInt = 14 := by omega
        refine lv_iload hx hb dX9_liable_29 (lv_at hl 0 rfl) ?_
        refine lv_aload_n hx hb dX9_liable_31 rfl (lv_at hl 2 rfl) ?_
        refine goI hK hH (runV (As := []) (rest := [.int iq7_]) hC hK hH (c_X1_parties t_qq6_) mlX9_310 (rcvT hK hH t_qq6_ rfl rfl) ⟨⟨Nat.le_of_ble_eq_true rfl, Nat.le_of_ble_eq_true rfl⟩, Nat.le_of_ble_eq_true rfl, Nat.le_of_ble_eq_true rfl⟩ rfl hl.1 rfl (Nat.le_of_ble_eq_true rfl) dX9_liable_32) (fun rq11_ Mq9_ Tq10_ Hq_ lcq_ hP hz hH => ?_)
        try dsimp only at hP
        obtain ⟨(⟨l_rq11_, g_rq11_⟩), eT, eM⟩ := hP
        have eT := eT.symm; subst eT
        have eM := eM.symm; subst eM
        refine jic_ge (tgt := 67) hx hb dX9_liable_35 (by decide) (fun cq12_ => ?_) (fun cq12_ => absurd cq12_ (by have := iRg iq7_; have := iRg rq11_; omega))
        have cq12_ : rq11_.toInt ≤ iq7_.toInt := cq12_
        refine lv_iload_n hx hb dX9_liable_67 rfl (lv_at hl 1 rfl) ?_
        exact ret_i hC hr hlk hK hH (⟨trivial, rfl, rfl⟩) (Nat.le_of_ble_eq_true rfl) (Nat.le_of_ble_eq_true rfl) dX9_liable_68
      | succ n ih =>
        intro iq7_ yq8_ Hq_ lcq_ ls hi_iq7_ h0_iq7_ h9_iq7_ hc_ro hc_w hc_bs hH hl
        have hi2_iq7_ : iq7_.toInt ≤ 13 := by omega
        refine lv_iload hx hb dX9_liable_29 (lv_at hl 0 rfl) ?_
        refine lv_aload_n hx hb dX9_liable_31 rfl (lv_at hl 2 rfl) ?_
        refine goI hK hH (runV (As := []) (rest := [.int iq7_]) hC hK hH (c_X1_parties t_qq6_) mlX9_310 (rcvT hK hH t_qq6_ rfl rfl) ⟨⟨Nat.le_of_ble_eq_true rfl, Nat.le_of_ble_eq_true rfl⟩, Nat.le_of_ble_eq_true rfl, Nat.le_of_ble_eq_true rfl⟩ rfl hl.1 rfl (Nat.le_of_ble_eq_true rfl) dX9_liable_32) (fun rq15_ Mq13_ Tq14_ Hq_ lcq_ hP hz hH => ?_)
        try dsimp only at hP
        obtain ⟨(⟨l_rq15_, g_rq15_⟩), eT, eM⟩ := hP
        have eT := eT.symm; subst eT
        have eM := eM.symm; subst eM
        refine jic_ge (tgt := 67) hx hb dX9_liable_35 (by decide) (fun cq16_ => ?_) (fun cq16_ => ?_)
        · skip
          have cq16_ : rq15_.toInt ≤ iq7_.toInt := cq16_
          refine lv_iload_n hx hb dX9_liable_67 rfl (lv_at hl 1 rfl) ?_
          exact ret_i hC hr hlk hK hH (⟨trivial, rfl, rfl⟩) (Nat.le_of_ble_eq_true rfl) (Nat.le_of_ble_eq_true rfl) dX9_liable_68
        · skip
          have cq16_ : iq7_.toInt < rq15_.toInt := cq16_
          refine lv_aload_n hx hb dX9_liable_38 rfl (lv_at hl 2 rfl) ?_
          refine lv_iload hx hb dX9_liable_39 (lv_at hl 0 rfl) ?_
          refine lv_aload_n hx hb dX9_liable_41 rfl (lv_at hl 3 rfl) ?_
          refine xg hC hK hH flX9_12 hc_ro rfl dX9_liable_42 ?_
          refine xg hC hK hH flX9_134 hc_w rfl dX9_liable_45 ?_
          refine goI hK hH (runV (As := [.int iq7_, .int td]) (rest := []) hC hK hH (c_X1_whyNot t_qq6_ (by omega)) mlX9_297 (rcvT hK hH t_qq6_ rfl rfl) ⟨⟨Nat.le_of_ble_eq_true rfl, Nat.le_of_ble_eq_true rfl⟩, Nat.le_of_ble_eq_true rfl, Nat.le_of_ble_eq_true rfl⟩ rfl hl.1 rfl (Nat.le_of_ble_eq_true rfl) dX9_liable_48) (fun rq19_ Mq17_ Tq18_ Hq_ lcq_ hP hz hH => ?_)
          try dsimp only at hP
          obtain ⟨(-), eT, eM⟩ := hP
          have eT := eT.symm; subst eT
          have eM := eM.symm; subst eM
          refine jif_ne (tgt := 61) hx hb dX9_liable_51 (by decide) (fun cq20_ => ?_) (fun cq20_ => ?_)
          · skip
            have cq20_ : rq19_.toInt ≠ 0 := cq20_
            obtain ⟨zq21_, e_zq21_⟩ : ∃ y : Int32, y = iq7_ + 1 := ⟨_, rfl⟩
            refine lv_iinc (v := zq21_) (lv' := [(4, .int zq21_), (3, .int yq8_), (2, .ref qq6_), (0, .ref ro), (1, .int b)]) hx hb dX9_liable_61 hl (k := 0) rfl (by rw [e_zq21_]; rfl) (by decide) rfl (fun ls hl => ?_)
            have h_zq21_ : zq21_.toInt = iq7_.toInt + 1 := by rw [e_zq21_, iAdd (by have : (1 : Int32).toInt = 1 := rfl; omega) (by have : (1 : Int32).toInt = 1 := rfl; omega)]; rfl
            refine lv_goto (tgt := 29) hx hb dX9_liable_64 (by decide) ?_
            exact ih zq21_ yq8_ _ _ ls (by omega) (by omega) (by omega) hc_ro hc_w hc_bs hH (lv_sub hl [0, 1, 2, 3, 4] rfl)
          · skip
            have cq20_ : rq19_.toInt = 0 := cq20_
            refine lv_iload_n hx hb dX9_liable_54 rfl (lv_at hl 1 rfl) ?_
            refine lv_iconst (v := 1) hx hb dX9_liable_55 (by decide) ?_
            refine lv_iload hx hb dX9_liable_56 (lv_at hl 0 rfl) ?_
            refine lv_ishl hx hb dX9_liable_58 ?_
            refine lv_topi (fun zq22_ e_zq22_ => ?_)
            refine lv_ior hx hb dX9_liable_59 ?_
            refine lv_topi (fun zq23_ e_zq23_ => ?_)
            refine lv_istore_n (lv' := [(3, .int zq23_), (4, .int iq7_), (2, .ref qq6_), (0, .ref ro), (1, .int b)]) hx hb dX9_liable_60 rfl hl (by decide) rfl (fun ls hl => ?_)
            obtain ⟨zq24_, e_zq24_⟩ : ∃ y : Int32, y = iq7_ + 1 := ⟨_, rfl⟩
            refine lv_iinc (v := zq24_) (lv' := [(4, .int zq24_), (3, .int zq23_), (2, .ref qq6_), (0, .ref ro), (1, .int b)]) hx hb dX9_liable_61 hl (k := 1) rfl (by rw [e_zq24_]; rfl) (by decide) rfl (fun ls hl => ?_)
            have h_zq24_ : zq24_.toInt = iq7_.toInt + 1 := by rw [e_zq24_, iAdd (by have : (1 : Int32).toInt = 1 := rfl; omega) (by have : (1 : Int32).toInt = 1 := rfl; omega)]; rfl
            refine lv_goto (tgt := 29) hx hb dX9_liable_64 (by decide) ?_
            exact ih zq24_ zq23_ _ _ ls (by omega) (by omega) (by omega) hc_ro hc_w hc_bs hH (lv_sub hl [0, 1, 2, 3, 4] rfl)
    exact loop (Int.toNat (14 - 0)) 0 0 _ _ ls (by have : (0 : Int32).toInt = 0 := rfl; omega) (by have : (0 : Int32).toInt = 0 := rfl; omega) (by have : (0 : Int32).toInt = 0 := rfl; omega) hc_ro hc_w hc_bs hH hl
  · skip
    have eT := eT.symm; subst eT
    have er_rq3_ := er_rq3_.symm; subst er_rq3_
    have eM := eM.symm; subst eM
    refine jif_ne (tgt := 14) hx hb dX9_liable_8 (by decide) (fun cq25_ => absurd cq25_ (by decide)) (fun cq25_ => ?_)
    refine lv_bipush (v := -2) hx hb dX9_liable_11 (by decide) ?_
    exact ret_i hC hr hlk hK hH (⟨trivial, rfl, rfl⟩) (Nat.le_of_ble_eq_true rfl) (Nat.le_of_ble_eq_true rfl) dX9_liable_13
set_option maxHeartbeats 4000000 in
set_option maxRecDepth 100000 in
theorem c_X9_reach {l : Launch} {D : va_G} {kA : Nat → ClassId} {M : mM} {T : mT} {sz : Nat} {ro im rd cu : Nat} {w cs bs tp : Nat} {td gd bc py rf lt tl fp : Int32} {g : Nat → Option Nat}{rc : Nat} {b : Int32} (hc_ro : M ro = some (.inr (7, [.ref w, .ref im, .ref rd, .ref rc, .ref cu]))) (hn_ro : T ro = none) (hc_w : M w = some (.inr (6, [.int td, .int gd, .int bc, .int py, .int rf, .int lt, .int tl, .int fp, .ref cs, .ref bs, .ref tp]))) (hn_w : T w = none) (hc_bs : M bs = some (.inl (kA 5, 4, .inr (.inr (.inr (.inr g)))))) (ht_cs : T cs = some 3) (ht_bs : T bs = some 6) (ht_tp : T tp = some 7) (htd : 0 ≤ td.toInt ∧ td.toInt ≤ 999) (hbc : 0 ≤ bc.toInt ∧ bc.toInt ≤ 4) (htl : 0 ≤ tl.toInt ∧ tl.toInt ≤ 600) (hg : ∀ j, j < 4 → ∃ q, g j = some q ∧ T q = some 2) : mCi l yX9_reach cX9_reach 5 (some .int) 5 0 0 D kA M T sz [.ref ro, .int b] (fun r u => (True) ∧ u.2 = T ∧ u.1 = M) := by
  unfold mCi
  refine start_W (by decide) (Nat.le_of_ble_eq_true rfl) ?_
  intro p e s m below meth c ls hC hr hlk hnm hK hH hsz hl
  have hx := hC.1
  have hb := hC.2.1
  have hl : lv_has ls 5 [(0, .ref ro), (1, .int b)] := hl
  have n_ro_w : ro ≠ w := neM hc_ro hc_w (by simp)
  have n_ro_bs : ro ≠ bs := neM hc_ro hc_bs (by simp)
  have n_w_ro : w ≠ ro := neM hc_w hc_ro (by simp)
  have n_w_bs : w ≠ bs := neM hc_w hc_bs (by simp)
  have n_bs_ro : bs ≠ ro := neM hc_bs hc_ro (by simp)
  have n_bs_w : bs ≠ w := neM hc_bs hc_w (by simp)
  refine lv_aload_n hx hb dX9_reach_0 rfl (lv_at hl 0 rfl) ?_
  refine xg hC hK hH flX9_12 hc_ro rfl dX9_reach_1 ?_
  refine lv_iload_n hx hb dX9_reach_4 rfl (lv_at hl 1 rfl) ?_
  refine goI hK hH (runV (As := [.int b]) (rest := []) hC hK hH (c_X8_hasBill hc_w hn_w hc_bs ht_cs ht_bs ht_tp (by omega) (by omega) (by omega) hg) mlX9_163 (rcvM hK hH hc_w rfl) ⟨⟨Nat.le_of_ble_eq_true rfl, Nat.le_of_ble_eq_true rfl⟩, Nat.le_of_ble_eq_true rfl, Nat.le_of_ble_eq_true rfl⟩ rfl hl.1 rfl (Nat.le_of_ble_eq_true rfl) dX9_reach_5) (fun rq3_ Mq1_ Tq2_ Hq_ lcq_ hP hz hH => ?_)
  try dsimp only at hP
  obtain ⟨(⟨cq4_, er_rq3_⟩ | er_rq3_), eT, eM⟩ := hP
  · skip
    have eT := eT.symm; subst eT
    have er_rq3_ := er_rq3_.symm; subst er_rq3_
    have eM := eM.symm; subst eM
    have cq4_ : 0 ≤ b.toInt ∧ b.toInt ≤ 3 := cq4_
    refine jif_ne (tgt := 14) hx hb dX9_reach_8 (by decide) (fun cq5_ => ?_) (fun cq5_ => absurd cq5_ (by decide))
    refine lv_aload_n hx hb dX9_reach_14 rfl (lv_at hl 0 rfl) ?_
    refine xg hC hK hH flX9_12 hc_ro rfl dX9_reach_15 ?_
    refine xg hC hK hH flX9_166 hc_w rfl dX9_reach_18 ?_
    refine lv_iload_n hx hb dX9_reach_21 rfl (lv_at hl 1 rfl) ?_
    refine xqld (ck := 5) hC hK hH rfl hc_bs (iIn (by omega) (by omega)) dX9_reach_22 ?_
    obtain ⟨qq6_, e_qq6_, t_qq6_⟩ := hg (Int32.toNatClampNeg b) (by have := iCl (x := b) (by omega); omega)
    refine lv_qr e_qq6_ ?_
    refine lv_astore_n (lv' := [(2, .ref qq6_), (0, .ref ro), (1, .int b)]) hx hb dX9_reach_23 rfl hl (by decide) rfl (fun ls hl => ?_)
    refine lv_iconst (v := 0) hx hb dX9_reach_24 (by decide) ?_
    refine lv_istore_n (lv' := [(3, .int 0), (2, .ref qq6_), (0, .ref ro), (1, .int b)]) hx hb dX9_reach_25 rfl hl (by decide) rfl (fun ls hl => ?_)
    refine lv_iconst (v := 1) hx hb dX9_reach_26 (by decide) ?_
    refine lv_istore (lv' := [(4, .int 1), (3, .int 0), (2, .ref qq6_), (0, .ref ro), (1, .int b)]) hx hb dX9_reach_27 hl (by decide) rfl (fun ls hl => ?_)
    have loop : ∀ (n : Nat) (iq7_ : Int32) (yq8_ : Int32) (Hq_ : Heap) (lcq_ : List Loc) (ls : Array Slot), iq7_.toInt + (n : Int) = 14 → (1 : Int) ≤ iq7_.toInt → iq7_.toInt ≤ 14 → M ro = some (.inr (7, [.ref w, .ref im, .ref rd, .ref rc, .ref cu])) → M w = some (.inr (6, [.int td, .int gd, .int bc, .int py, .int rf, .int lt, .int tl, .int fp, .ref cs, .ref bs, .ref tp])) → M bs = some (.inl (kA 5, 4, .inr (.inr (.inr (.inr g))))) → mS D kA M T (mA M T sz) s.heap Hq_ lcq_ → lv_has ls 5 [(4, .int iq7_), (3, .int yq8_), (2, .ref qq6_), (0, .ref ro), (1, .int b)] → W p l e (rmL 5 0 0) s m ([.ref ro, .int b] : List Value).toArray below meth c Hq_ lcq_ 0 0 (MQ below (va_Qi (fun r u => (True) ∧ u.2 = T ∧ u.1 = M) (mB D kA M T sz) (mA M T sz)) ([.ref ro, .int b] : List Value).toArray s 0 0 (mA M T sz)) (F0 m 29 ls []) := by
      intro n
      induction n with
      | zero =>
        intro iq7_ yq8_ Hq_ lcq_ ls hi_iq7_ h0_iq7_ h9_iq7_ hc_ro hc_w hc_bs hH hl
        have hi2_iq7_ : iq7_.toInt = 14 := by omega
        refine lv_iload hx hb dX9_reach_29 (lv_at hl 0 rfl) ?_
        refine lv_aload_n hx hb dX9_reach_31 rfl (lv_at hl 2 rfl) ?_
        refine goI hK hH (runV (As := []) (rest := [.int iq7_]) hC hK hH (c_X1_parties t_qq6_) mlX9_310 (rcvT hK hH t_qq6_ rfl rfl) ⟨⟨Nat.le_of_ble_eq_true rfl, Nat.le_of_ble_eq_true rfl⟩, Nat.le_of_ble_eq_true rfl, Nat.le_of_ble_eq_true rfl⟩ rfl hl.1 rfl (Nat.le_of_ble_eq_true rfl) dX9_reach_32) (fun rq11_ Mq9_ Tq10_ Hq_ lcq_ hP hz hH => ?_)
        try dsimp only at hP
        obtain ⟨(⟨l_rq11_, g_rq11_⟩), eT, eM⟩ := hP
        have eT := eT.symm; subst eT
        have eM := eM.symm; subst eM
        refine jic_ge (tgt := 74) hx hb dX9_reach_35 (by decide) (fun cq12_ => ?_) (fun cq12_ => absurd cq12_ (by have := iRg iq7_; have := iRg rq11_; omega))
        have cq12_ : rq11_.toInt ≤ iq7_.toInt := cq12_
        refine lv_iload_n hx hb dX9_reach_74 rfl (lv_at hl 1 rfl) ?_
        exact ret_i hC hr hlk hK hH (⟨trivial, rfl, rfl⟩) (Nat.le_of_ble_eq_true rfl) (Nat.le_of_ble_eq_true rfl) dX9_reach_75
      | succ n ih =>
        intro iq7_ yq8_ Hq_ lcq_ ls hi_iq7_ h0_iq7_ h9_iq7_ hc_ro hc_w hc_bs hH hl
        have hi2_iq7_ : iq7_.toInt ≤ 13 := by omega
        refine lv_iload hx hb dX9_reach_29 (lv_at hl 0 rfl) ?_
        refine lv_aload_n hx hb dX9_reach_31 rfl (lv_at hl 2 rfl) ?_
        refine goI hK hH (runV (As := []) (rest := [.int iq7_]) hC hK hH (c_X1_parties t_qq6_) mlX9_310 (rcvT hK hH t_qq6_ rfl rfl) ⟨⟨Nat.le_of_ble_eq_true rfl, Nat.le_of_ble_eq_true rfl⟩, Nat.le_of_ble_eq_true rfl, Nat.le_of_ble_eq_true rfl⟩ rfl hl.1 rfl (Nat.le_of_ble_eq_true rfl) dX9_reach_32) (fun rq15_ Mq13_ Tq14_ Hq_ lcq_ hP hz hH => ?_)
        try dsimp only at hP
        obtain ⟨(⟨l_rq15_, g_rq15_⟩), eT, eM⟩ := hP
        have eT := eT.symm; subst eT
        have eM := eM.symm; subst eM
        refine jic_ge (tgt := 74) hx hb dX9_reach_35 (by decide) (fun cq16_ => ?_) (fun cq16_ => ?_)
        · skip
          have cq16_ : rq15_.toInt ≤ iq7_.toInt := cq16_
          refine lv_iload_n hx hb dX9_reach_74 rfl (lv_at hl 1 rfl) ?_
          exact ret_i hC hr hlk hK hH (⟨trivial, rfl, rfl⟩) (Nat.le_of_ble_eq_true rfl) (Nat.le_of_ble_eq_true rfl) dX9_reach_75
        · skip
          have cq16_ : iq7_.toInt < rq15_.toInt := cq16_
          refine lv_aload_n hx hb dX9_reach_38 rfl (lv_at hl 2 rfl) ?_
          refine lv_iload hx hb dX9_reach_39 (lv_at hl 0 rfl) ?_
          refine lv_aload_n hx hb dX9_reach_41 rfl (lv_at hl 3 rfl) ?_
          refine xg hC hK hH flX9_12 hc_ro rfl dX9_reach_42 ?_
          refine xg hC hK hH flX9_134 hc_w rfl dX9_reach_45 ?_
          refine lv_aload_n hx hb dX9_reach_48 rfl (lv_at hl 3 rfl) ?_
          refine xg hC hK hH flX9_12 hc_ro rfl dX9_reach_49 ?_
          refine xg hC hK hH flX9_137 hc_w rfl dX9_reach_52 ?_
          refine goI hK hH (runV (As := [.int iq7_, .int td, .int gd]) (rest := []) hC hK hH (c_X1_inReach t_qq6_ (by omega)) mlX9_313 (rcvT hK hH t_qq6_ rfl rfl) ⟨⟨Nat.le_of_ble_eq_true rfl, Nat.le_of_ble_eq_true rfl⟩, Nat.le_of_ble_eq_true rfl, Nat.le_of_ble_eq_true rfl⟩ rfl hl.1 rfl (Nat.le_of_ble_eq_true rfl) dX9_reach_55) (fun rq19_ Mq17_ Tq18_ Hq_ lcq_ hP hz hH => ?_)
          try dsimp only at hP
          obtain ⟨(er_rq19_ | er_rq19_), eT, eM⟩ := hP
          · skip
            have eT := eT.symm; subst eT
            have er_rq19_ := er_rq19_.symm; subst er_rq19_
            have eM := eM.symm; subst eM
            refine jif_eq (tgt := 68) hx hb dX9_reach_58 (by decide) (fun cq20_ => absurd cq20_ (by decide)) (fun cq20_ => ?_)
            refine lv_iload_n hx hb dX9_reach_61 rfl (lv_at hl 1 rfl) ?_
            refine lv_iconst (v := 1) hx hb dX9_reach_62 (by decide) ?_
            refine lv_iload hx hb dX9_reach_63 (lv_at hl 0 rfl) ?_
            refine lv_ishl hx hb dX9_reach_65 ?_
            refine lv_topi (fun zq21_ e_zq21_ => ?_)
            refine lv_ior hx hb dX9_reach_66 ?_
            refine lv_topi (fun zq22_ e_zq22_ => ?_)
            refine lv_istore_n (lv' := [(3, .int zq22_), (4, .int iq7_), (2, .ref qq6_), (0, .ref ro), (1, .int b)]) hx hb dX9_reach_67 rfl hl (by decide) rfl (fun ls hl => ?_)
            obtain ⟨zq23_, e_zq23_⟩ : ∃ y : Int32, y = iq7_ + 1 := ⟨_, rfl⟩
            refine lv_iinc (v := zq23_) (lv' := [(4, .int zq23_), (3, .int zq22_), (2, .ref qq6_), (0, .ref ro), (1, .int b)]) hx hb dX9_reach_68 hl (k := 1) rfl (by rw [e_zq23_]; rfl) (by decide) rfl (fun ls hl => ?_)
            have h_zq23_ : zq23_.toInt = iq7_.toInt + 1 := by rw [e_zq23_, iAdd (by have : (1 : Int32).toInt = 1 := rfl; omega) (by have : (1 : Int32).toInt = 1 := rfl; omega)]; rfl
            refine lv_goto (tgt := 29) hx hb dX9_reach_71 (by decide) ?_
            exact ih zq23_ zq22_ _ _ ls (by omega) (by omega) (by omega) hc_ro hc_w hc_bs hH (lv_sub hl [0, 1, 2, 3, 4] rfl)
          · skip
            have eT := eT.symm; subst eT
            have er_rq19_ := er_rq19_.symm; subst er_rq19_
            have eM := eM.symm; subst eM
            refine jif_eq (tgt := 68) hx hb dX9_reach_58 (by decide) (fun cq24_ => ?_) (fun cq24_ => absurd cq24_ (by decide))
            obtain ⟨zq25_, e_zq25_⟩ : ∃ y : Int32, y = iq7_ + 1 := ⟨_, rfl⟩
            refine lv_iinc (v := zq25_) (lv' := [(4, .int zq25_), (3, .int yq8_), (2, .ref qq6_), (0, .ref ro), (1, .int b)]) hx hb dX9_reach_68 hl (k := 0) rfl (by rw [e_zq25_]; rfl) (by decide) rfl (fun ls hl => ?_)
            have h_zq25_ : zq25_.toInt = iq7_.toInt + 1 := by rw [e_zq25_, iAdd (by have : (1 : Int32).toInt = 1 := rfl; omega) (by have : (1 : Int32).toInt = 1 := rfl; omega)]; rfl
            refine lv_goto (tgt := 29) hx hb dX9_reach_71 (by decide) ?_
            exact ih zq25_ yq8_ _ _ ls (by omega) (by omega) (by omega) hc_ro hc_w hc_bs hH (lv_sub hl [0, 1, 2, 3, 4] rfl)
    exact loop (Int.toNat (14 - 1)) 1 0 _ _ ls (by have : (1 : Int32).toInt = 1 := rfl; omega) (by have : (1 : Int32).toInt = 1 := rfl; omega) (by have : (1 : Int32).toInt = 1 := rfl; omega) hc_ro hc_w hc_bs hH hl
  · skip
    have eT := eT.symm; subst eT
    have er_rq3_ := er_rq3_.symm; subst er_rq3_
    have eM := eM.symm; subst eM
    refine jif_ne (tgt := 14) hx hb dX9_reach_8 (by decide) (fun cq26_ => absurd cq26_ (by decide)) (fun cq26_ => ?_)
    refine lv_bipush (v := -2) hx hb dX9_reach_11 (by decide) ?_
    exact ret_i hC hr hlk hK hH (⟨trivial, rfl, rfl⟩) (Nat.le_of_ble_eq_true rfl) (Nat.le_of_ble_eq_true rfl) dX9_reach_13
set_option maxHeartbeats 4000000 in
set_option maxRecDepth 100000 in
theorem c_X9_owes {l : Launch} {D : va_G} {kA : Nat → ClassId} {M : mM} {T : mT} {sz : Nat} {ro im rd cu : Nat} {w cs bs tp : Nat} {td gd bc py rf lt tl fp : Int32} {g : Nat → Option Nat}{rc : Nat} {ps : Int32} (hc_ro : M ro = some (.inr (7, [.ref w, .ref im, .ref rd, .ref rc, .ref cu]))) (hn_ro : T ro = none) (hc_w : M w = some (.inr (6, [.int td, .int gd, .int bc, .int py, .int rf, .int lt, .int tl, .int fp, .ref cs, .ref bs, .ref tp]))) (hn_w : T w = none) (hc_bs : M bs = some (.inl (kA 5, 4, .inr (.inr (.inr (.inr g)))))) (ht_cs : T cs = some 3) (ht_bs : T bs = some 6) (ht_tp : T tp = some 7) (htd : 0 ≤ td.toInt ∧ td.toInt ≤ 999) (hbc : 0 ≤ bc.toInt ∧ bc.toInt ≤ 4) (htl : 0 ≤ tl.toInt ∧ tl.toInt ≤ 600) (hg : ∀ j, j < 4 → ∃ q, g j = some q ∧ T q = some 2) : mCi l yX9_owes cX9_owes 4 (some .int) 5 0 0 D kA M T sz [.ref ro, .int ps] (fun r u => (True) ∧ u.2 = T ∧ u.1 = M) := by
  unfold mCi
  refine start_W (by decide) (Nat.le_of_ble_eq_true rfl) ?_
  intro p e s m below meth c ls hC hr hlk hnm hK hH hsz hl
  have hx := hC.1
  have hb := hC.2.1
  have hl : lv_has ls 4 [(0, .ref ro), (1, .int ps)] := hl
  have n_ro_w : ro ≠ w := neM hc_ro hc_w (by simp)
  have n_ro_bs : ro ≠ bs := neM hc_ro hc_bs (by simp)
  have n_w_ro : w ≠ ro := neM hc_w hc_ro (by simp)
  have n_w_bs : w ≠ bs := neM hc_w hc_bs (by simp)
  have n_bs_ro : bs ≠ ro := neM hc_bs hc_ro (by simp)
  have n_bs_w : bs ≠ w := neM hc_bs hc_w (by simp)
  refine lv_iload_n hx hb dX9_owes_0 rfl (lv_at hl 1 rfl) ?_
  refine goI hK hH (runS (As := [.int ps]) (rest := []) hC hK hH (c_X9_isPerson) mlX9_155 ⟨⟨Nat.le_of_ble_eq_true rfl, Nat.le_of_ble_eq_true rfl⟩, Nat.le_of_ble_eq_true rfl, Nat.le_of_ble_eq_true rfl⟩ rfl hl.1 rfl (Nat.le_of_ble_eq_true rfl) dX9_owes_1) (fun rq3_ Mq1_ Tq2_ Hq_ lcq_ hP hz hH => ?_)
  try dsimp only at hP
  obtain ⟨(⟨cq4_, er_rq3_⟩ | ⟨cq5_, er_rq3_⟩), eT, eM⟩ := hP
  · skip
    have eT := eT.symm; subst eT
    have er_rq3_ := er_rq3_.symm; subst er_rq3_
    have eM := eM.symm; subst eM
    have cq4_ : 0 ≤ ps.toInt ∧ ps.toInt ≤ 7 := cq4_
    refine jif_ne (tgt := 9) hx hb dX9_owes_4 (by decide) (fun cq6_ => ?_) (fun cq6_ => absurd cq6_ (by decide))
    refine lv_iconst (v := 0) hx hb dX9_owes_9 (by decide) ?_
    refine lv_istore_n (lv' := [(2, .int 0), (0, .ref ro), (1, .int ps)]) hx hb dX9_owes_10 rfl hl (by decide) rfl (fun ls hl => ?_)
    refine lv_iconst (v := 0) hx hb dX9_owes_11 (by decide) ?_
    refine lv_istore_n (lv' := [(3, .int 0), (2, .int 0), (0, .ref ro), (1, .int ps)]) hx hb dX9_owes_12 rfl hl (by decide) rfl (fun ls hl => ?_)
    have loop : ∀ (n : Nat) (iq7_ : Int32) (yq8_ : Int32) (Hq_ : Heap) (lcq_ : List Loc) (ls : Array Slot), iq7_.toInt + (n : Int) = 4 → (0 : Int) ≤ iq7_.toInt → iq7_.toInt ≤ 4 → M ro = some (.inr (7, [.ref w, .ref im, .ref rd, .ref rc, .ref cu])) → M w = some (.inr (6, [.int td, .int gd, .int bc, .int py, .int rf, .int lt, .int tl, .int fp, .ref cs, .ref bs, .ref tp])) → M bs = some (.inl (kA 5, 4, .inr (.inr (.inr (.inr g))))) → mS D kA M T (mA M T sz) s.heap Hq_ lcq_ → lv_has ls 4 [(3, .int iq7_), (2, .int yq8_), (0, .ref ro), (1, .int ps)] → W p l e (rmL 5 0 0) s m ([.ref ro, .int ps] : List Value).toArray below meth c Hq_ lcq_ 0 0 (MQ below (va_Qi (fun r u => (True) ∧ u.2 = T ∧ u.1 = M) (mB D kA M T sz) (mA M T sz)) ([.ref ro, .int ps] : List Value).toArray s 0 0 (mA M T sz)) (F0 m 13 ls []) := by
      intro n
      induction n with
      | zero =>
        intro iq7_ yq8_ Hq_ lcq_ ls hi_iq7_ h0_iq7_ h9_iq7_ hc_ro hc_w hc_bs hH hl
        have hi2_iq7_ : iq7_.toInt = 4 := by omega
        refine lv_iload_n hx hb dX9_owes_13 rfl (lv_at hl 0 rfl) ?_
        refine lv_aload_n hx hb dX9_owes_14 rfl (lv_at hl 2 rfl) ?_
        refine xg hC hK hH flX9_12 hc_ro rfl dX9_owes_15 ?_
        refine xg hC hK hH flX9_97 hc_w rfl dX9_owes_18 ?_
        refine jic_ge (tgt := 68) hx hb dX9_owes_21 (by decide) (fun cq9_ => ?_) (fun cq9_ => absurd cq9_ (by have := iRg iq7_; have := iRg bc; omega))
        have cq9_ : bc.toInt ≤ iq7_.toInt := cq9_
        refine lv_iload_n hx hb dX9_owes_68 rfl (lv_at hl 1 rfl) ?_
        exact ret_i hC hr hlk hK hH (⟨trivial, rfl, rfl⟩) (Nat.le_of_ble_eq_true rfl) (Nat.le_of_ble_eq_true rfl) dX9_owes_69
      | succ n ih =>
        intro iq7_ yq8_ Hq_ lcq_ ls hi_iq7_ h0_iq7_ h9_iq7_ hc_ro hc_w hc_bs hH hl
        have hi2_iq7_ : iq7_.toInt ≤ 3 := by omega
        refine lv_iload_n hx hb dX9_owes_13 rfl (lv_at hl 0 rfl) ?_
        refine lv_aload_n hx hb dX9_owes_14 rfl (lv_at hl 2 rfl) ?_
        refine xg hC hK hH flX9_12 hc_ro rfl dX9_owes_15 ?_
        refine xg hC hK hH flX9_97 hc_w rfl dX9_owes_18 ?_
        refine jic_ge (tgt := 68) hx hb dX9_owes_21 (by decide) (fun cq10_ => ?_) (fun cq10_ => ?_)
        · skip
          have cq10_ : bc.toInt ≤ iq7_.toInt := cq10_
          refine lv_iload_n hx hb dX9_owes_68 rfl (lv_at hl 1 rfl) ?_
          exact ret_i hC hr hlk hK hH (⟨trivial, rfl, rfl⟩) (Nat.le_of_ble_eq_true rfl) (Nat.le_of_ble_eq_true rfl) dX9_owes_69
        · skip
          have cq10_ : iq7_.toInt < bc.toInt := cq10_
          refine lv_aload_n hx hb dX9_owes_24 rfl (lv_at hl 2 rfl) ?_
          refine xg hC hK hH flX9_12 hc_ro rfl dX9_owes_25 ?_
          refine xg hC hK hH flX9_166 hc_w rfl dX9_owes_28 ?_
          refine lv_iload_n hx hb dX9_owes_31 rfl (lv_at hl 0 rfl) ?_
          refine xqld (ck := 5) hC hK hH rfl hc_bs (iIn (by omega) (by omega)) dX9_owes_32 ?_
          obtain ⟨qq11_, e_qq11_, t_qq11_⟩ := hg (Int32.toNatClampNeg iq7_) (by have := iCl (x := iq7_) (by omega); omega)
          refine lv_qr e_qq11_ ?_
          refine lv_iload_n hx hb dX9_owes_33 rfl (lv_at hl 3 rfl) ?_
          refine lv_aload_n hx hb dX9_owes_34 rfl (lv_at hl 2 rfl) ?_
          refine xg hC hK hH flX9_12 hc_ro rfl dX9_owes_35 ?_
          refine xg hC hK hH flX9_134 hc_w rfl dX9_owes_38 ?_
          refine goI hK hH (runV (As := [.int ps, .int td]) (rest := []) hC hK hH (c_X1_binds t_qq11_) mlX9_330 (rcvT hK hH t_qq11_ rfl rfl) ⟨⟨Nat.le_of_ble_eq_true rfl, Nat.le_of_ble_eq_true rfl⟩, Nat.le_of_ble_eq_true rfl, Nat.le_of_ble_eq_true rfl⟩ rfl hl.1 rfl (Nat.le_of_ble_eq_true rfl) dX9_owes_41) (fun rq14_ Mq12_ Tq13_ Hq_ lcq_ hP hz hH => ?_)
          try dsimp only at hP
          obtain ⟨(er_rq14_ | er_rq14_), eT, eM⟩ := hP
          · skip
            have eT := eT.symm; subst eT
            have er_rq14_ := er_rq14_.symm; subst er_rq14_
            have eM := eM.symm; subst eM
            refine jif_eq (tgt := 62) hx hb dX9_owes_44 (by decide) (fun cq15_ => absurd cq15_ (by decide)) (fun cq15_ => ?_)
            refine lv_iload_n hx hb dX9_owes_47 rfl (lv_at hl 1 rfl) ?_
            refine lv_aload_n hx hb dX9_owes_48 rfl (lv_at hl 2 rfl) ?_
            refine xg hC hK hH flX9_12 hc_ro rfl dX9_owes_49 ?_
            refine xg hC hK hH flX9_166 hc_w rfl dX9_owes_52 ?_
            refine lv_iload_n hx hb dX9_owes_55 rfl (lv_at hl 0 rfl) ?_
            refine xqld (ck := 5) hC hK hH rfl hc_bs (iIn (by omega) (by omega)) dX9_owes_56 ?_
            refine lv_qr e_qq11_ ?_
            refine tg hC hK hH flX9_181 t_qq11_ rfl rfl dX9_owes_57 (fun xq16_ l_xq16_ g_xq16_ => ?_)
            refine lv_iadd hx hb dX9_owes_60 ?_
            refine lv_topi (fun zq17_ e_zq17_ => ?_)
            refine lv_istore_n (lv' := [(2, .int zq17_), (3, .int iq7_), (0, .ref ro), (1, .int ps)]) hx hb dX9_owes_61 rfl hl (by decide) rfl (fun ls hl => ?_)
            obtain ⟨zq18_, e_zq18_⟩ : ∃ y : Int32, y = iq7_ + 1 := ⟨_, rfl⟩
            refine lv_iinc (v := zq18_) (lv' := [(3, .int zq18_), (2, .int zq17_), (0, .ref ro), (1, .int ps)]) hx hb dX9_owes_62 hl (k := 1) rfl (by rw [e_zq18_]; rfl) (by decide) rfl (fun ls hl => ?_)
            have h_zq18_ : zq18_.toInt = iq7_.toInt + 1 := by rw [e_zq18_, iAdd (by have : (1 : Int32).toInt = 1 := rfl; omega) (by have : (1 : Int32).toInt = 1 := rfl; omega)]; rfl
            refine lv_goto (tgt := 13) hx hb dX9_owes_65 (by decide) ?_
            exact ih zq18_ zq17_ _ _ ls (by omega) (by omega) (by omega) hc_ro hc_w hc_bs hH (lv_sub hl [0, 1, 2, 3] rfl)
          · skip
            have eT := eT.symm; subst eT
            have er_rq14_ := er_rq14_.symm; subst er_rq14_
            have eM := eM.symm; subst eM
            refine jif_eq (tgt := 62) hx hb dX9_owes_44 (by decide) (fun cq19_ => ?_) (fun cq19_ => absurd cq19_ (by decide))
            obtain ⟨zq20_, e_zq20_⟩ : ∃ y : Int32, y = iq7_ + 1 := ⟨_, rfl⟩
            refine lv_iinc (v := zq20_) (lv' := [(3, .int zq20_), (2, .int yq8_), (0, .ref ro), (1, .int ps)]) hx hb dX9_owes_62 hl (k := 0) rfl (by rw [e_zq20_]; rfl) (by decide) rfl (fun ls hl => ?_)
            have h_zq20_ : zq20_.toInt = iq7_.toInt + 1 := by rw [e_zq20_, iAdd (by have : (1 : Int32).toInt = 1 := rfl; omega) (by have : (1 : Int32).toInt = 1 := rfl; omega)]; rfl
            refine lv_goto (tgt := 13) hx hb dX9_owes_65 (by decide) ?_
            exact ih zq20_ yq8_ _ _ ls (by omega) (by omega) (by omega) hc_ro hc_w hc_bs hH (lv_sub hl [0, 1, 2, 3] rfl)
    exact loop (Int.toNat (4 - 0)) 0 0 _ _ ls (by have : (0 : Int32).toInt = 0 := rfl; omega) (by have : (0 : Int32).toInt = 0 := rfl; omega) (by have : (0 : Int32).toInt = 0 := rfl; omega) hc_ro hc_w hc_bs hH hl
  · skip
    have eT := eT.symm; subst eT
    have er_rq3_ := er_rq3_.symm; subst er_rq3_
    have eM := eM.symm; subst eM
    have cq5_ : ¬ (0 ≤ ps.toInt ∧ ps.toInt ≤ 7) := cq5_
    refine jif_ne (tgt := 9) hx hb dX9_owes_4 (by decide) (fun cq21_ => absurd cq21_ (by decide)) (fun cq21_ => ?_)
    refine lv_iconst (v := -1) hx hb dX9_owes_7 (by decide) ?_
    exact ret_i hC hr hlk hK hH (⟨trivial, rfl, rfl⟩) (Nat.le_of_ble_eq_true rfl) (Nat.le_of_ble_eq_true rfl) dX9_owes_8
set_option maxHeartbeats 4000000 in
set_option maxRecDepth 100000 in
theorem c_X9_worth {l : Launch} {D : va_G} {kA : Nat → ClassId} {M : mM} {T : mT} {sz : Nat} {ro im rd cu : Nat} {w cs bs tp : Nat} {td gd bc py rf lt tl fp : Int32} {g : Nat → Option Nat}{rc : Nat} {ps : Int32} (hc_ro : M ro = some (.inr (7, [.ref w, .ref im, .ref rd, .ref rc, .ref cu]))) (hn_ro : T ro = none) (hc_w : M w = some (.inr (6, [.int td, .int gd, .int bc, .int py, .int rf, .int lt, .int tl, .int fp, .ref cs, .ref bs, .ref tp]))) (hn_w : T w = none) (hc_bs : M bs = some (.inl (kA 5, 4, .inr (.inr (.inr (.inr g)))))) (ht_cs : T cs = some 3) (ht_bs : T bs = some 6) (ht_tp : T tp = some 7) (htd : 0 ≤ td.toInt ∧ td.toInt ≤ 999) (hbc : 0 ≤ bc.toInt ∧ bc.toInt ≤ 4) (htl : 0 ≤ tl.toInt ∧ tl.toInt ≤ 600) (hg : ∀ j, j < 4 → ∃ q, g j = some q ∧ T q = some 2) : mCi l yX9_worth cX9_worth 5 (some .int) 5 0 0 D kA M T sz [.ref ro, .int ps] (fun r u => (True) ∧ u.2 = T ∧ u.1 = M) := by
  unfold mCi
  refine start_W (by decide) (Nat.le_of_ble_eq_true rfl) ?_
  intro p e s m below meth c ls hC hr hlk hnm hK hH hsz hl
  have hx := hC.1
  have hb := hC.2.1
  have hl : lv_has ls 5 [(0, .ref ro), (1, .int ps)] := hl
  have n_ro_w : ro ≠ w := neM hc_ro hc_w (by simp)
  have n_ro_bs : ro ≠ bs := neM hc_ro hc_bs (by simp)
  have n_w_ro : w ≠ ro := neM hc_w hc_ro (by simp)
  have n_w_bs : w ≠ bs := neM hc_w hc_bs (by simp)
  have n_bs_ro : bs ≠ ro := neM hc_bs hc_ro (by simp)
  have n_bs_w : bs ≠ w := neM hc_bs hc_w (by simp)
  refine lv_iload_n hx hb dX9_worth_0 rfl (lv_at hl 1 rfl) ?_
  refine goI hK hH (runS (As := [.int ps]) (rest := []) hC hK hH (c_X9_isPerson) mlX9_155 ⟨⟨Nat.le_of_ble_eq_true rfl, Nat.le_of_ble_eq_true rfl⟩, Nat.le_of_ble_eq_true rfl, Nat.le_of_ble_eq_true rfl⟩ rfl hl.1 rfl (Nat.le_of_ble_eq_true rfl) dX9_worth_1) (fun rq3_ Mq1_ Tq2_ Hq_ lcq_ hP hz hH => ?_)
  try dsimp only at hP
  obtain ⟨(⟨cq4_, er_rq3_⟩ | ⟨cq5_, er_rq3_⟩), eT, eM⟩ := hP
  · skip
    have eT := eT.symm; subst eT
    have er_rq3_ := er_rq3_.symm; subst er_rq3_
    have eM := eM.symm; subst eM
    have cq4_ : 0 ≤ ps.toInt ∧ ps.toInt ≤ 7 := cq4_
    refine jif_ne (tgt := 9) hx hb dX9_worth_4 (by decide) (fun cq6_ => ?_) (fun cq6_ => absurd cq6_ (by decide))
    refine lv_iconst (v := 0) hx hb dX9_worth_9 (by decide) ?_
    refine lv_istore_n (lv' := [(2, .int 0), (0, .ref ro), (1, .int ps)]) hx hb dX9_worth_10 rfl hl (by decide) rfl (fun ls hl => ?_)
    refine lv_iconst (v := 0) hx hb dX9_worth_11 (by decide) ?_
    refine lv_istore_n (lv' := [(3, .int 0), (2, .int 0), (0, .ref ro), (1, .int ps)]) hx hb dX9_worth_12 rfl hl (by decide) rfl (fun ls hl => ?_)
    have loop : ∀ (n : Nat) (iq7_ : Int32) (yq8_ : Int32) (Hq_ : Heap) (lcq_ : List Loc) (ls : Array Slot), iq7_.toInt + (n : Int) = 4 → (0 : Int) ≤ iq7_.toInt → iq7_.toInt ≤ 4 → M ro = some (.inr (7, [.ref w, .ref im, .ref rd, .ref rc, .ref cu])) → M w = some (.inr (6, [.int td, .int gd, .int bc, .int py, .int rf, .int lt, .int tl, .int fp, .ref cs, .ref bs, .ref tp])) → M bs = some (.inl (kA 5, 4, .inr (.inr (.inr (.inr g))))) → mS D kA M T (mA M T sz) s.heap Hq_ lcq_ → lv_has ls 5 [(3, .int iq7_), (2, .int yq8_), (0, .ref ro), (1, .int ps)] → W p l e (rmL 5 0 0) s m ([.ref ro, .int ps] : List Value).toArray below meth c Hq_ lcq_ 0 0 (MQ below (va_Qi (fun r u => (True) ∧ u.2 = T ∧ u.1 = M) (mB D kA M T sz) (mA M T sz)) ([.ref ro, .int ps] : List Value).toArray s 0 0 (mA M T sz)) (F0 m 13 ls []) := by
      intro n
      induction n with
      | zero =>
        intro iq7_ yq8_ Hq_ lcq_ ls hi_iq7_ h0_iq7_ h9_iq7_ hc_ro hc_w hc_bs hH hl
        have hi2_iq7_ : iq7_.toInt = 4 := by omega
        refine lv_iload_n hx hb dX9_worth_13 rfl (lv_at hl 0 rfl) ?_
        refine lv_aload_n hx hb dX9_worth_14 rfl (lv_at hl 2 rfl) ?_
        refine xg hC hK hH flX9_12 hc_ro rfl dX9_worth_15 ?_
        refine xg hC hK hH flX9_97 hc_w rfl dX9_worth_18 ?_
        refine jic_ge (tgt := 81) hx hb dX9_worth_21 (by decide) (fun cq9_ => ?_) (fun cq9_ => absurd cq9_ (by have := iRg iq7_; have := iRg bc; omega))
        have cq9_ : bc.toInt ≤ iq7_.toInt := cq9_
        refine lv_iload_n hx hb dX9_worth_81 rfl (lv_at hl 1 rfl) ?_
        exact ret_i hC hr hlk hK hH (⟨trivial, rfl, rfl⟩) (Nat.le_of_ble_eq_true rfl) (Nat.le_of_ble_eq_true rfl) dX9_worth_82
      | succ n ih =>
        intro iq7_ yq8_ Hq_ lcq_ ls hi_iq7_ h0_iq7_ h9_iq7_ hc_ro hc_w hc_bs hH hl
        have hi2_iq7_ : iq7_.toInt ≤ 3 := by omega
        refine lv_iload_n hx hb dX9_worth_13 rfl (lv_at hl 0 rfl) ?_
        refine lv_aload_n hx hb dX9_worth_14 rfl (lv_at hl 2 rfl) ?_
        refine xg hC hK hH flX9_12 hc_ro rfl dX9_worth_15 ?_
        refine xg hC hK hH flX9_97 hc_w rfl dX9_worth_18 ?_
        refine jic_ge (tgt := 81) hx hb dX9_worth_21 (by decide) (fun cq10_ => ?_) (fun cq10_ => ?_)
        · skip
          have cq10_ : bc.toInt ≤ iq7_.toInt := cq10_
          refine lv_iload_n hx hb dX9_worth_81 rfl (lv_at hl 1 rfl) ?_
          exact ret_i hC hr hlk hK hH (⟨trivial, rfl, rfl⟩) (Nat.le_of_ble_eq_true rfl) (Nat.le_of_ble_eq_true rfl) dX9_worth_82
        · skip
          have cq10_ : iq7_.toInt < bc.toInt := cq10_
          refine lv_aload_n hx hb dX9_worth_24 rfl (lv_at hl 2 rfl) ?_
          refine xg hC hK hH flX9_12 hc_ro rfl dX9_worth_25 ?_
          refine xg hC hK hH flX9_166 hc_w rfl dX9_worth_28 ?_
          refine lv_iload_n hx hb dX9_worth_31 rfl (lv_at hl 0 rfl) ?_
          refine xqld (ck := 5) hC hK hH rfl hc_bs (iIn (by omega) (by omega)) dX9_worth_32 ?_
          obtain ⟨qq11_, e_qq11_, t_qq11_⟩ := hg (Int32.toNatClampNeg iq7_) (by have := iCl (x := iq7_) (by omega); omega)
          refine lv_qr e_qq11_ ?_
          refine lv_astore (lv' := [(4, .ref qq11_), (3, .int iq7_), (2, .int yq8_), (0, .ref ro), (1, .int ps)]) hx hb dX9_worth_33 hl (by decide) rfl (fun ls hl => ?_)
          refine lv_aload hx hb dX9_worth_35 (lv_at hl 0 rfl) ?_
          refine tg hC hK hH flX9_197 t_qq11_ rfl rfl dX9_worth_37 (fun xq12_ l_xq12_ g_xq12_ => ?_)
          have l_xq12_ : (0 : Int) ≤ xq12_.toInt := l_xq12_
          have g_xq12_ : xq12_.toInt ≤ 7 := g_xq12_
          refine lv_iload_n hx hb dX9_worth_40 rfl (lv_at hl 4 rfl) ?_
          refine jic_ne (tgt := 75) hx hb dX9_worth_41 (by decide) (fun cq13_ => ?_) (fun cq13_ => ?_)
          · skip
            have cq13_ : xq12_.toInt ≠ ps.toInt := cq13_
            obtain ⟨zq14_, e_zq14_⟩ : ∃ y : Int32, y = iq7_ + 1 := ⟨_, rfl⟩
            refine lv_iinc (v := zq14_) (lv' := [(3, .int zq14_), (4, .ref qq11_), (2, .int yq8_), (0, .ref ro), (1, .int ps)]) hx hb dX9_worth_75 hl (k := 1) rfl (by rw [e_zq14_]; rfl) (by decide) rfl (fun ls hl => ?_)
            have h_zq14_ : zq14_.toInt = iq7_.toInt + 1 := by rw [e_zq14_, iAdd (by have : (1 : Int32).toInt = 1 := rfl; omega) (by have : (1 : Int32).toInt = 1 := rfl; omega)]; rfl
            refine lv_goto (tgt := 13) hx hb dX9_worth_78 (by decide) ?_
            exact ih zq14_ yq8_ _ _ ls (by omega) (by omega) (by omega) hc_ro hc_w hc_bs hH (lv_sub hl [0, 2, 3, 4] rfl)
          · skip
            have cq13_ : xq12_.toInt = ps.toInt := cq13_
            refine lv_aload hx hb dX9_worth_44 (lv_at hl 0 rfl) ?_
            refine lv_aload_n hx hb dX9_worth_46 rfl (lv_at hl 3 rfl) ?_
            refine xg hC hK hH flX9_12 hc_ro rfl dX9_worth_47 ?_
            refine xg hC hK hH flX9_159 hc_w rfl dX9_worth_50 ?_
            refine lv_aload_n hx hb dX9_worth_53 rfl (lv_at hl 3 rfl) ?_
            refine xg hC hK hH flX9_12 hc_ro rfl dX9_worth_54 ?_
            refine xg hC hK hH flX9_134 hc_w rfl dX9_worth_57 ?_
            refine goI hK hH (runV (As := [.ref cs, .int td]) (rest := []) hC hK hH (c_X1_greatestPayer t_qq11_ ht_cs) mlX9_333 (rcvT hK hH t_qq11_ rfl rfl) ⟨⟨Nat.le_of_ble_eq_true rfl, Nat.le_of_ble_eq_true rfl⟩, Nat.le_of_ble_eq_true rfl, Nat.le_of_ble_eq_true rfl⟩ rfl hl.1 rfl (Nat.le_of_ble_eq_true rfl) dX9_worth_60) (fun rq17_ Mq15_ Tq16_ Hq_ lcq_ hP hz hH => ?_)
            try dsimp only at hP
            obtain ⟨(⟨l_rq17_, g_rq17_⟩), eT, eM⟩ := hP
            have eT := eT.symm; subst eT
            have eM := eM.symm; subst eM
            refine lv_iconst (v := -1) hx hb dX9_worth_63 (by decide) ?_
            refine jic_eq (tgt := 75) hx hb dX9_worth_64 (by decide) (fun cq18_ => ?_) (fun cq18_ => ?_)
            · skip
              have cq18_ : rq17_.toInt = (-1) := cq18_
              obtain ⟨zq19_, e_zq19_⟩ : ∃ y : Int32, y = iq7_ + 1 := ⟨_, rfl⟩
              refine lv_iinc (v := zq19_) (lv' := [(3, .int zq19_), (4, .ref qq11_), (2, .int yq8_), (0, .ref ro), (1, .int ps)]) hx hb dX9_worth_75 hl (k := 1) rfl (by rw [e_zq19_]; rfl) (by decide) rfl (fun ls hl => ?_)
              have h_zq19_ : zq19_.toInt = iq7_.toInt + 1 := by rw [e_zq19_, iAdd (by have : (1 : Int32).toInt = 1 := rfl; omega) (by have : (1 : Int32).toInt = 1 := rfl; omega)]; rfl
              refine lv_goto (tgt := 13) hx hb dX9_worth_78 (by decide) ?_
              exact ih zq19_ yq8_ _ _ ls (by omega) (by omega) (by omega) hc_ro hc_w hc_bs hH (lv_sub hl [0, 2, 3, 4] rfl)
            · skip
              have cq18_ : rq17_.toInt ≠ (-1) := cq18_
              refine lv_iload_n hx hb dX9_worth_67 rfl (lv_at hl 2 rfl) ?_
              refine lv_aload hx hb dX9_worth_68 (lv_at hl 0 rfl) ?_
              refine tg hC hK hH flX9_181 t_qq11_ rfl rfl dX9_worth_70 (fun xq20_ l_xq20_ g_xq20_ => ?_)
              refine lv_iadd hx hb dX9_worth_73 ?_
              refine lv_topi (fun zq21_ e_zq21_ => ?_)
              refine lv_istore_n (lv' := [(2, .int zq21_), (4, .ref qq11_), (3, .int iq7_), (0, .ref ro), (1, .int ps)]) hx hb dX9_worth_74 rfl hl (by decide) rfl (fun ls hl => ?_)
              obtain ⟨zq22_, e_zq22_⟩ : ∃ y : Int32, y = iq7_ + 1 := ⟨_, rfl⟩
              refine lv_iinc (v := zq22_) (lv' := [(3, .int zq22_), (2, .int zq21_), (4, .ref qq11_), (0, .ref ro), (1, .int ps)]) hx hb dX9_worth_75 hl (k := 2) rfl (by rw [e_zq22_]; rfl) (by decide) rfl (fun ls hl => ?_)
              have h_zq22_ : zq22_.toInt = iq7_.toInt + 1 := by rw [e_zq22_, iAdd (by have : (1 : Int32).toInt = 1 := rfl; omega) (by have : (1 : Int32).toInt = 1 := rfl; omega)]; rfl
              refine lv_goto (tgt := 13) hx hb dX9_worth_78 (by decide) ?_
              exact ih zq22_ zq21_ _ _ ls (by omega) (by omega) (by omega) hc_ro hc_w hc_bs hH (lv_sub hl [0, 1, 3, 4] rfl)
    exact loop (Int.toNat (4 - 0)) 0 0 _ _ ls (by have : (0 : Int32).toInt = 0 := rfl; omega) (by have : (0 : Int32).toInt = 0 := rfl; omega) (by have : (0 : Int32).toInt = 0 := rfl; omega) hc_ro hc_w hc_bs hH hl
  · skip
    have eT := eT.symm; subst eT
    have er_rq3_ := er_rq3_.symm; subst er_rq3_
    have eM := eM.symm; subst eM
    have cq5_ : ¬ (0 ≤ ps.toInt ∧ ps.toInt ≤ 7) := cq5_
    refine jif_ne (tgt := 9) hx hb dX9_worth_4 (by decide) (fun cq23_ => absurd cq23_ (by decide)) (fun cq23_ => ?_)
    refine lv_iconst (v := -1) hx hb dX9_worth_7 (by decide) ?_
    exact ret_i hC hr hlk hK hH (⟨trivial, rfl, rfl⟩) (Nat.le_of_ble_eq_true rfl) (Nat.le_of_ble_eq_true rfl) dX9_worth_8
set_option maxHeartbeats 4000000 in
set_option maxRecDepth 100000 in
theorem c_X9_until {l : Launch} {D : va_G} {kA : Nat → ClassId} {M : mM} {T : mT} {sz : Nat} {ro im rd cu : Nat} {w cs bs tp : Nat} {td gd bc py rf lt tl fp : Int32} {g : Nat → Option Nat}{rc : Nat} {b pt : Int32} (hc_ro : M ro = some (.inr (7, [.ref w, .ref im, .ref rd, .ref rc, .ref cu]))) (hn_ro : T ro = none) (hc_w : M w = some (.inr (6, [.int td, .int gd, .int bc, .int py, .int rf, .int lt, .int tl, .int fp, .ref cs, .ref bs, .ref tp]))) (hn_w : T w = none) (hc_bs : M bs = some (.inl (kA 5, 4, .inr (.inr (.inr (.inr g)))))) (ht_cs : T cs = some 3) (ht_bs : T bs = some 6) (ht_tp : T tp = some 7) (htd : 0 ≤ td.toInt ∧ td.toInt ≤ 999) (hbc : 0 ≤ bc.toInt ∧ bc.toInt ≤ 4) (htl : 0 ≤ tl.toInt ∧ tl.toInt ≤ 600) (hg : ∀ j, j < 4 → ∃ q, g j = some q ∧ T q = some 2) : mCi l yX9_until cX9_until 3 (some .int) 4 0 0 D kA M T sz [.ref ro, .int b, .int pt] (fun r u => (True) ∧ u.2 = T ∧ u.1 = M) := by
  unfold mCi
  refine start_W (by decide) (Nat.le_of_ble_eq_true rfl) ?_
  intro p e s m below meth c ls hC hr hlk hnm hK hH hsz hl
  have hx := hC.1
  have hb := hC.2.1
  have hl : lv_has ls 3 [(0, .ref ro), (1, .int b), (2, .int pt)] := hl
  have n_ro_w : ro ≠ w := neM hc_ro hc_w (by simp)
  have n_ro_bs : ro ≠ bs := neM hc_ro hc_bs (by simp)
  have n_w_ro : w ≠ ro := neM hc_w hc_ro (by simp)
  have n_w_bs : w ≠ bs := neM hc_w hc_bs (by simp)
  have n_bs_ro : bs ≠ ro := neM hc_bs hc_ro (by simp)
  have n_bs_w : bs ≠ w := neM hc_bs hc_w (by simp)
  refine lv_aload_n hx hb dX9_until_0 rfl (lv_at hl 0 rfl) ?_
  refine xg hC hK hH flX9_12 hc_ro rfl dX9_until_1 ?_
  refine lv_iload_n hx hb dX9_until_4 rfl (lv_at hl 1 rfl) ?_
  refine lv_iload_n hx hb dX9_until_5 rfl (lv_at hl 2 rfl) ?_
  refine goI hK hH (runV (As := [.int b, .int pt]) (rest := []) hC hK hH (c_X8_hasParty hc_w hn_w hc_bs ht_cs ht_bs ht_tp (by omega) (by omega) (by omega) hg) mlX9_278 (rcvM hK hH hc_w rfl) ⟨⟨Nat.le_of_ble_eq_true rfl, Nat.le_of_ble_eq_true rfl⟩, Nat.le_of_ble_eq_true rfl, Nat.le_of_ble_eq_true rfl⟩ rfl hl.1 rfl (Nat.le_of_ble_eq_true rfl) dX9_until_6) (fun rq3_ Mq1_ Tq2_ Hq_ lcq_ hP hz hH => ?_)
  try dsimp only at hP
  obtain ⟨(⟨cq4_, er_rq3_⟩ | er_rq3_), eT, eM⟩ := hP
  · skip
    have eT := eT.symm; subst eT
    have er_rq3_ := er_rq3_.symm; subst er_rq3_
    have eM := eM.symm; subst eM
    have cq4_ : 0 ≤ b.toInt ∧ b.toInt ≤ 3 ∧ 0 ≤ pt.toInt ∧ pt.toInt ≤ 13 := cq4_
    refine jif_eq (tgt := 35) hx hb dX9_until_9 (by decide) (fun cq5_ => absurd cq5_ (by decide)) (fun cq5_ => ?_)
    refine lv_aload_n hx hb dX9_until_12 rfl (lv_at hl 0 rfl) ?_
    refine xg hC hK hH flX9_12 hc_ro rfl dX9_until_13 ?_
    refine xg hC hK hH flX9_166 hc_w rfl dX9_until_16 ?_
    refine lv_iload_n hx hb dX9_until_19 rfl (lv_at hl 1 rfl) ?_
    refine xqld (ck := 5) hC hK hH rfl hc_bs (iIn (by omega) (by omega)) dX9_until_20 ?_
    obtain ⟨qq6_, e_qq6_, t_qq6_⟩ := hg (Int32.toNatClampNeg b) (by have := iCl (x := b) (by omega); omega)
    refine lv_qr e_qq6_ ?_
    refine lv_iload_n hx hb dX9_until_21 rfl (lv_at hl 2 rfl) ?_
    refine lv_aload_n hx hb dX9_until_22 rfl (lv_at hl 0 rfl) ?_
    refine xg hC hK hH flX9_12 hc_ro rfl dX9_until_23 ?_
    refine xg hC hK hH flX9_137 hc_w rfl dX9_until_26 ?_
    refine goI hK hH (runV (As := [.int pt, .int gd]) (rest := []) hC hK hH (c_X1_lastDayToTell t_qq6_ (by omega)) mlX9_337 (rcvT hK hH t_qq6_ rfl rfl) ⟨⟨Nat.le_of_ble_eq_true rfl, Nat.le_of_ble_eq_true rfl⟩, Nat.le_of_ble_eq_true rfl, Nat.le_of_ble_eq_true rfl⟩ rfl hl.1 rfl (Nat.le_of_ble_eq_true rfl) dX9_until_29) (fun rq9_ Mq7_ Tq8_ Hq_ lcq_ hP hz hH => ?_)
    try dsimp only at hP
    obtain ⟨(-), eT, eM⟩ := hP
    have eT := eT.symm; subst eT
    have eM := eM.symm; subst eM
    refine lv_goto (tgt := 36) hx hb dX9_until_32 (by decide) ?_
    exact ret_i hC hr hlk hK hH (⟨trivial, rfl, rfl⟩) (Nat.le_of_ble_eq_true rfl) (Nat.le_of_ble_eq_true rfl) dX9_until_36
  · skip
    have eT := eT.symm; subst eT
    have er_rq3_ := er_rq3_.symm; subst er_rq3_
    have eM := eM.symm; subst eM
    refine jif_eq (tgt := 35) hx hb dX9_until_9 (by decide) (fun cq10_ => ?_) (fun cq10_ => absurd cq10_ (by decide))
    refine lv_iconst (v := -1) hx hb dX9_until_35 (by decide) ?_
    exact ret_i hC hr hlk hK hH (⟨trivial, rfl, rfl⟩) (Nat.le_of_ble_eq_true rfl) (Nat.le_of_ble_eq_true rfl) dX9_until_36
set_option maxHeartbeats 4000000 in
set_option maxRecDepth 100000 in
theorem c_X9_sorts {l : Launch} {D : va_G} {kA : Nat → ClassId} {M : mM} {T : mT} {sz : Nat} {ro im rd cu : Nat} {w cs bs tp : Nat} {td gd bc py rf lt tl fp : Int32} {g : Nat → Option Nat}{rc : Nat} {b so : Int32} (hc_ro : M ro = some (.inr (7, [.ref w, .ref im, .ref rd, .ref rc, .ref cu]))) (hn_ro : T ro = none) (hc_w : M w = some (.inr (6, [.int td, .int gd, .int bc, .int py, .int rf, .int lt, .int tl, .int fp, .ref cs, .ref bs, .ref tp]))) (hn_w : T w = none) (hc_bs : M bs = some (.inl (kA 5, 4, .inr (.inr (.inr (.inr g)))))) (ht_cs : T cs = some 3) (ht_bs : T bs = some 6) (ht_tp : T tp = some 7) (htd : 0 ≤ td.toInt ∧ td.toInt ≤ 999) (hbc : 0 ≤ bc.toInt ∧ bc.toInt ≤ 4) (htl : 0 ≤ tl.toInt ∧ tl.toInt ≤ 600) (hg : ∀ j, j < 4 → ∃ q, g j = some q ∧ T q = some 2) : mCi l yX9_sorts cX9_sorts 7 (some .int) 1 0 0 D kA M T sz [.ref ro, .int b, .int so] (fun r u => (True) ∧ u.2 = T ∧ u.1 = M) := by
  unfold mCi
  refine start_W (by decide) (Nat.le_of_ble_eq_true rfl) ?_
  intro p e s m below meth c ls hC hr hlk hnm hK hH hsz hl
  have hx := hC.1
  have hb := hC.2.1
  have hl : lv_has ls 7 [(0, .ref ro), (1, .int b), (2, .int so)] := hl
  have n_ro_w : ro ≠ w := neM hc_ro hc_w (by simp)
  have n_ro_bs : ro ≠ bs := neM hc_ro hc_bs (by simp)
  have n_w_ro : w ≠ ro := neM hc_w hc_ro (by simp)
  have n_w_bs : w ≠ bs := neM hc_w hc_bs (by simp)
  have n_bs_ro : bs ≠ ro := neM hc_bs hc_ro (by simp)
  have n_bs_w : bs ≠ w := neM hc_bs hc_w (by simp)
  refine lv_aload_n hx hb dX9_sorts_0 rfl (lv_at hl 0 rfl) ?_
  refine xg hC hK hH flX9_12 hc_ro rfl dX9_sorts_1 ?_
  refine lv_iload_n hx hb dX9_sorts_4 rfl (lv_at hl 1 rfl) ?_
  refine goI hK hH (runV (As := [.int b]) (rest := []) hC hK hH (c_X8_hasBill hc_w hn_w hc_bs ht_cs ht_bs ht_tp (by omega) (by omega) (by omega) hg) mlX9_163 (rcvM hK hH hc_w rfl) ⟨⟨Nat.le_of_ble_eq_true rfl, Nat.le_of_ble_eq_true rfl⟩, Nat.le_of_ble_eq_true rfl, Nat.le_of_ble_eq_true rfl⟩ rfl hl.1 rfl (Nat.le_of_ble_eq_true rfl) dX9_sorts_5) (fun rq3_ Mq1_ Tq2_ Hq_ lcq_ hP hz hH => ?_)
  try dsimp only at hP
  obtain ⟨(⟨cq4_, er_rq3_⟩ | er_rq3_), eT, eM⟩ := hP
  · skip
    have eT := eT.symm; subst eT
    have er_rq3_ := er_rq3_.symm; subst er_rq3_
    have eM := eM.symm; subst eM
    have cq4_ : 0 ≤ b.toInt ∧ b.toInt ≤ 3 := cq4_
    refine jif_eq (tgt := 20) hx hb dX9_sorts_8 (by decide) (fun cq5_ => absurd cq5_ (by decide)) (fun cq5_ => ?_)
    refine lv_iload_n hx hb dX9_sorts_11 rfl (lv_at hl 2 rfl) ?_
    refine jif_lt (tgt := 20) hx hb dX9_sorts_12 (by decide) (fun cq6_ => ?_) (fun cq6_ => ?_)
    · skip
      have cq6_ : so.toInt < 0 := cq6_
      refine lv_bipush (v := -2) hx hb dX9_sorts_20 (by decide) ?_
      exact ret_i hC hr hlk hK hH (⟨trivial, rfl, rfl⟩) (Nat.le_of_ble_eq_true rfl) (Nat.le_of_ble_eq_true rfl) dX9_sorts_22
    · skip
      have cq6_ : 0 ≤ so.toInt := cq6_
      refine lv_iload_n hx hb dX9_sorts_15 rfl (lv_at hl 2 rfl) ?_
      refine lv_iconst (v := 5) hx hb dX9_sorts_16 (by decide) ?_
      refine jic_le (tgt := 23) hx hb dX9_sorts_17 (by decide) (fun cq7_ => ?_) (fun cq7_ => ?_)
      · skip
        have cq7_ : so.toInt ≤ 5 := cq7_
        refine lv_aload_n hx hb dX9_sorts_23 rfl (lv_at hl 0 rfl) ?_
        refine xg hC hK hH flX9_12 hc_ro rfl dX9_sorts_24 ?_
        refine xg hC hK hH flX9_166 hc_w rfl dX9_sorts_27 ?_
        refine lv_iload_n hx hb dX9_sorts_30 rfl (lv_at hl 1 rfl) ?_
        refine xqld (ck := 5) hC hK hH rfl hc_bs (iIn (by omega) (by omega)) dX9_sorts_31 ?_
        obtain ⟨qq8_, e_qq8_, t_qq8_⟩ := hg (Int32.toNatClampNeg b) (by have := iCl (x := b) (by omega); omega)
        refine lv_qr e_qq8_ ?_
        refine lv_astore_n (lv' := [(3, .ref qq8_), (0, .ref ro), (1, .int b), (2, .int so)]) hx hb dX9_sorts_32 rfl hl (by decide) rfl (fun ls hl => ?_)
        refine lv_iconst (v := 0) hx hb dX9_sorts_33 (by decide) ?_
        refine lv_istore (lv' := [(4, .int 0), (3, .ref qq8_), (0, .ref ro), (1, .int b), (2, .int so)]) hx hb dX9_sorts_34 hl (by decide) rfl (fun ls hl => ?_)
        refine lv_iconst (v := 0) hx hb dX9_sorts_36 (by decide) ?_
        refine lv_istore (lv' := [(5, .int 0), (4, .int 0), (3, .ref qq8_), (0, .ref ro), (1, .int b), (2, .int so)]) hx hb dX9_sorts_37 hl (by decide) rfl (fun ls hl => ?_)
        have loop : ∀ (n : Nat) (iq9_ : Int32) (yq10_ : Int32) (Hq_ : Heap) (lcq_ : List Loc) (ls : Array Slot), iq9_.toInt + (n : Int) = 12 → (0 : Int) ≤ iq9_.toInt → iq9_.toInt ≤ 12 → M ro = some (.inr (7, [.ref w, .ref im, .ref rd, .ref rc, .ref cu])) → M w = some (.inr (6, [.int td, .int gd, .int bc, .int py, .int rf, .int lt, .int tl, .int fp, .ref cs, .ref bs, .ref tp])) → M bs = some (.inl (kA 5, 4, .inr (.inr (.inr (.inr g))))) → mS D kA M T (mA M T sz) s.heap Hq_ lcq_ → lv_has ls 7 [(5, .int iq9_), (4, .int yq10_), (3, .ref qq8_), (0, .ref ro), (1, .int b), (2, .int so)] → W p l e (rmL 1 0 0) s m ([.ref ro, .int b, .int so] : List Value).toArray below meth c Hq_ lcq_ 0 0 (MQ below (va_Qi (fun r u => (True) ∧ u.2 = T ∧ u.1 = M) (mB D kA M T sz) (mA M T sz)) ([.ref ro, .int b, .int so] : List Value).toArray s 0 0 (mA M T sz)) (F0 m 39 ls []) := by
          intro n
          induction n with
          | zero =>
            intro iq9_ yq10_ Hq_ lcq_ ls hi_iq9_ h0_iq9_ h9_iq9_ hc_ro hc_w hc_bs hH hl
            have hi2_iq9_ : iq9_.toInt = 12 := by omega
            refine lv_iload hx hb dX9_sorts_39 (lv_at hl 0 rfl) ?_
            refine lv_aload_n hx hb dX9_sorts_41 rfl (lv_at hl 2 rfl) ?_
            refine tg hC hK hH flX9_200 t_qq8_ rfl rfl dX9_sorts_42 (fun xq11_ l_xq11_ g_xq11_ => ?_)
            have l_xq11_ : (0 : Int) ≤ xq11_.toInt := l_xq11_
            have g_xq11_ : xq11_.toInt ≤ 12 := g_xq11_
            refine jic_ge (tgt := 91) hx hb dX9_sorts_45 (by decide) (fun cq12_ => ?_) (fun cq12_ => absurd cq12_ (by have := iRg iq9_; have := iRg xq11_; omega))
            have cq12_ : xq11_.toInt ≤ iq9_.toInt := cq12_
            refine lv_iload hx hb dX9_sorts_91 (lv_at hl 1 rfl) ?_
            exact ret_i hC hr hlk hK hH (⟨trivial, rfl, rfl⟩) (Nat.le_of_ble_eq_true rfl) (Nat.le_of_ble_eq_true rfl) dX9_sorts_93
          | succ n ih =>
            intro iq9_ yq10_ Hq_ lcq_ ls hi_iq9_ h0_iq9_ h9_iq9_ hc_ro hc_w hc_bs hH hl
            have hi2_iq9_ : iq9_.toInt ≤ 11 := by omega
            refine lv_iload hx hb dX9_sorts_39 (lv_at hl 0 rfl) ?_
            refine lv_aload_n hx hb dX9_sorts_41 rfl (lv_at hl 2 rfl) ?_
            refine tg hC hK hH flX9_200 t_qq8_ rfl rfl dX9_sorts_42 (fun xq13_ l_xq13_ g_xq13_ => ?_)
            have l_xq13_ : (0 : Int) ≤ xq13_.toInt := l_xq13_
            have g_xq13_ : xq13_.toInt ≤ 12 := g_xq13_
            refine jic_ge (tgt := 91) hx hb dX9_sorts_45 (by decide) (fun cq14_ => ?_) (fun cq14_ => ?_)
            · skip
              have cq14_ : xq13_.toInt ≤ iq9_.toInt := cq14_
              refine lv_iload hx hb dX9_sorts_91 (lv_at hl 1 rfl) ?_
              exact ret_i hC hr hlk hK hH (⟨trivial, rfl, rfl⟩) (Nat.le_of_ble_eq_true rfl) (Nat.le_of_ble_eq_true rfl) dX9_sorts_93
            · skip
              have cq14_ : iq9_.toInt < xq13_.toInt := cq14_
              refine lv_aload_n hx hb dX9_sorts_48 rfl (lv_at hl 2 rfl) ?_
              refine tgr hC hK hH flX9_246 t_qq8_ rfl rfl dX9_sorts_49 (fun qq15_ t_qq15_ => ?_)
              refine lv_iload hx hb dX9_sorts_52 (lv_at hl 0 rfl) ?_
              refine tqld hC hK hH t_qq15_ rfl rfl (iIn (by omega) (by omega)) dX9_sorts_54 (fun qq16_ t_qq16_ => ?_)
              refine lv_astore (lv' := [(6, .ref qq16_), (5, .int iq9_), (4, .int yq10_), (3, .ref qq8_), (0, .ref ro), (1, .int b), (2, .int so)]) hx hb dX9_sorts_55 hl (by decide) rfl (fun ls hl => ?_)
              refine lv_iload_n hx hb dX9_sorts_57 rfl (lv_at hl 6 rfl) ?_
              refine lv_iconst (v := 5) hx hb dX9_sorts_58 (by decide) ?_
              refine jic_ne (tgt := 73) hx hb dX9_sorts_59 (by decide) (fun cq17_ => ?_) (fun cq17_ => ?_)
              · skip
                have cq17_ : so.toInt ≠ 5 := cq17_
                refine lv_aload hx hb dX9_sorts_73 (lv_at hl 0 rfl) ?_
                refine tg hC hK hH flX9_250 t_qq16_ rfl rfl dX9_sorts_75 (fun xq18_ l_xq18_ g_xq18_ => ?_)
                refine lv_iload_n hx hb dX9_sorts_78 rfl (lv_at hl 6 rfl) ?_
                refine jic_ne (tgt := 85) hx hb dX9_sorts_79 (by decide) (fun cq19_ => ?_) (fun cq19_ => ?_)
                · skip
                  have cq19_ : xq18_.toInt ≠ so.toInt := cq19_
                  obtain ⟨zq20_, e_zq20_⟩ : ∃ y : Int32, y = iq9_ + 1 := ⟨_, rfl⟩
                  refine lv_iinc (v := zq20_) (lv' := [(5, .int zq20_), (6, .ref qq16_), (4, .int yq10_), (3, .ref qq8_), (0, .ref ro), (1, .int b), (2, .int so)]) hx hb dX9_sorts_85 hl (k := 1) rfl (by rw [e_zq20_]; rfl) (by decide) rfl (fun ls hl => ?_)
                  have h_zq20_ : zq20_.toInt = iq9_.toInt + 1 := by rw [e_zq20_, iAdd (by have : (1 : Int32).toInt = 1 := rfl; omega) (by have : (1 : Int32).toInt = 1 := rfl; omega)]; rfl
                  refine lv_goto (tgt := 39) hx hb dX9_sorts_88 (by decide) ?_
                  exact ih zq20_ yq10_ _ _ ls (by omega) (by omega) (by omega) hc_ro hc_w hc_bs hH (lv_sub hl [0, 2, 3, 4, 5, 6] rfl)
                · skip
                  have cq19_ : xq18_.toInt = so.toInt := cq19_
                  obtain ⟨zq21_, e_zq21_⟩ : ∃ y : Int32, y = yq10_ + 1 := ⟨_, rfl⟩
                  refine lv_iinc (v := zq21_) (lv' := [(4, .int zq21_), (6, .ref qq16_), (5, .int iq9_), (3, .ref qq8_), (0, .ref ro), (1, .int b), (2, .int so)]) hx hb dX9_sorts_82 hl (k := 2) rfl (by rw [e_zq21_]; rfl) (by decide) rfl (fun ls hl => ?_)
                  obtain ⟨zq22_, e_zq22_⟩ : ∃ y : Int32, y = iq9_ + 1 := ⟨_, rfl⟩
                  refine lv_iinc (v := zq22_) (lv' := [(5, .int zq22_), (4, .int zq21_), (6, .ref qq16_), (3, .ref qq8_), (0, .ref ro), (1, .int b), (2, .int so)]) hx hb dX9_sorts_85 hl (k := 2) rfl (by rw [e_zq22_]; rfl) (by decide) rfl (fun ls hl => ?_)
                  have h_zq22_ : zq22_.toInt = iq9_.toInt + 1 := by rw [e_zq22_, iAdd (by have : (1 : Int32).toInt = 1 := rfl; omega) (by have : (1 : Int32).toInt = 1 := rfl; omega)]; rfl
                  refine lv_goto (tgt := 39) hx hb dX9_sorts_88 (by decide) ?_
                  exact ih zq22_ zq21_ _ _ ls (by omega) (by omega) (by omega) hc_ro hc_w hc_bs hH (lv_sub hl [0, 1, 3, 4, 5, 6] rfl)
              · skip
                have cq17_ : so.toInt = 5 := cq17_
                refine lv_aload hx hb dX9_sorts_62 (lv_at hl 0 rfl) ?_
                refine goI hK hH (runV (As := []) (rest := []) hC hK hH (c_X6_forged t_qq16_) mlX9_340 (rcvT hK hH t_qq16_ rfl rfl) ⟨⟨Nat.le_of_ble_eq_true rfl, Nat.le_of_ble_eq_true rfl⟩, Nat.le_of_ble_eq_true rfl, Nat.le_of_ble_eq_true rfl⟩ rfl hl.1 rfl (Nat.le_of_ble_eq_true rfl) dX9_sorts_64) (fun rq25_ Mq23_ Tq24_ Hq_ lcq_ hP hz hH => ?_)
                try dsimp only at hP
                obtain ⟨(er_rq25_ | er_rq25_), eT, eM⟩ := hP
                · skip
                  have eT := eT.symm; subst eT
                  have er_rq25_ := er_rq25_.symm; subst er_rq25_
                  have eM := eM.symm; subst eM
                  refine jif_eq (tgt := 85) hx hb dX9_sorts_67 (by decide) (fun cq26_ => absurd cq26_ (by decide)) (fun cq26_ => ?_)
                  refine lv_goto (tgt := 82) hx hb dX9_sorts_70 (by decide) ?_
                  obtain ⟨zq27_, e_zq27_⟩ : ∃ y : Int32, y = yq10_ + 1 := ⟨_, rfl⟩
                  refine lv_iinc (v := zq27_) (lv' := [(4, .int zq27_), (6, .ref qq16_), (5, .int iq9_), (3, .ref qq8_), (0, .ref ro), (1, .int b), (2, .int so)]) hx hb dX9_sorts_82 hl (k := 2) rfl (by rw [e_zq27_]; rfl) (by decide) rfl (fun ls hl => ?_)
                  obtain ⟨zq28_, e_zq28_⟩ : ∃ y : Int32, y = iq9_ + 1 := ⟨_, rfl⟩
                  refine lv_iinc (v := zq28_) (lv' := [(5, .int zq28_), (4, .int zq27_), (6, .ref qq16_), (3, .ref qq8_), (0, .ref ro), (1, .int b), (2, .int so)]) hx hb dX9_sorts_85 hl (k := 2) rfl (by rw [e_zq28_]; rfl) (by decide) rfl (fun ls hl => ?_)
                  have h_zq28_ : zq28_.toInt = iq9_.toInt + 1 := by rw [e_zq28_, iAdd (by have : (1 : Int32).toInt = 1 := rfl; omega) (by have : (1 : Int32).toInt = 1 := rfl; omega)]; rfl
                  refine lv_goto (tgt := 39) hx hb dX9_sorts_88 (by decide) ?_
                  exact ih zq28_ zq27_ _ _ ls (by omega) (by omega) (by omega) hc_ro hc_w hc_bs hH (lv_sub hl [0, 1, 3, 4, 5, 6] rfl)
                · skip
                  have eT := eT.symm; subst eT
                  have er_rq25_ := er_rq25_.symm; subst er_rq25_
                  have eM := eM.symm; subst eM
                  refine jif_eq (tgt := 85) hx hb dX9_sorts_67 (by decide) (fun cq29_ => ?_) (fun cq29_ => absurd cq29_ (by decide))
                  obtain ⟨zq30_, e_zq30_⟩ : ∃ y : Int32, y = iq9_ + 1 := ⟨_, rfl⟩
                  refine lv_iinc (v := zq30_) (lv' := [(5, .int zq30_), (6, .ref qq16_), (4, .int yq10_), (3, .ref qq8_), (0, .ref ro), (1, .int b), (2, .int so)]) hx hb dX9_sorts_85 hl (k := 1) rfl (by rw [e_zq30_]; rfl) (by decide) rfl (fun ls hl => ?_)
                  have h_zq30_ : zq30_.toInt = iq9_.toInt + 1 := by rw [e_zq30_, iAdd (by have : (1 : Int32).toInt = 1 := rfl; omega) (by have : (1 : Int32).toInt = 1 := rfl; omega)]; rfl
                  refine lv_goto (tgt := 39) hx hb dX9_sorts_88 (by decide) ?_
                  exact ih zq30_ yq10_ _ _ ls (by omega) (by omega) (by omega) hc_ro hc_w hc_bs hH (lv_sub hl [0, 2, 3, 4, 5, 6] rfl)
        exact loop (Int.toNat (12 - 0)) 0 0 _ _ ls (by have : (0 : Int32).toInt = 0 := rfl; omega) (by have : (0 : Int32).toInt = 0 := rfl; omega) (by have : (0 : Int32).toInt = 0 := rfl; omega) hc_ro hc_w hc_bs hH hl
      · skip
        have cq7_ : 5 < so.toInt := cq7_
        refine lv_bipush (v := -2) hx hb dX9_sorts_20 (by decide) ?_
        exact ret_i hC hr hlk hK hH (⟨trivial, rfl, rfl⟩) (Nat.le_of_ble_eq_true rfl) (Nat.le_of_ble_eq_true rfl) dX9_sorts_22
  · skip
    have eT := eT.symm; subst eT
    have er_rq3_ := er_rq3_.symm; subst er_rq3_
    have eM := eM.symm; subst eM
    refine jif_eq (tgt := 20) hx hb dX9_sorts_8 (by decide) (fun cq31_ => ?_) (fun cq31_ => absurd cq31_ (by decide))
    refine lv_bipush (v := -2) hx hb dX9_sorts_20 (by decide) ?_
    exact ret_i hC hr hlk hK hH (⟨trivial, rfl, rfl⟩) (Nat.le_of_ble_eq_true rfl) (Nat.le_of_ble_eq_true rfl) dX9_sorts_22
set_option maxHeartbeats 4000000 in
set_option maxRecDepth 100000 in
theorem c_X9_run {l : Launch} {D : va_G} {kA : Nat → ClassId} {M : mM} {T : mT} {sz : Nat} {ro im rd cu : Nat} {w cs bs tp : Nat} {td gd bc py rf lt tl fp : Int32} {g : Nat → Option Nat}{rc rb rs rp : Nat} {pm : Int32} {b k : Int32} (hc_ro : M ro = some (.inr (7, [.ref w, .ref im, .ref rd, .ref rc, .ref cu]))) (hn_ro : T ro = none) (hc_w : M w = some (.inr (6, [.int td, .int gd, .int bc, .int py, .int rf, .int lt, .int tl, .int fp, .ref cs, .ref bs, .ref tp]))) (hn_w : T w = none) (hc_bs : M bs = some (.inl (kA 5, 4, .inr (.inr (.inr (.inr g)))))) (hc_rc : M rc = some (.inr (4, [.ref rb, .ref rs, .ref rp, .int pm]))) (hn_rc : T rc = none) (ht_cs : T cs = some 3) (ht_bs : T bs = some 6) (ht_tp : T tp = some 7) (ht_rb : T rb = some 2) (ht_rs : T rs = some 3) (ht_rp : T rp = some 5) (htd : 0 ≤ td.toInt ∧ td.toInt ≤ 999) (hbc : 0 ≤ bc.toInt ∧ bc.toInt ≤ 4) (htl : 0 ≤ tl.toInt ∧ tl.toInt ≤ 600) (hpm : 0 ≤ pm.toInt ∧ pm.toInt ≤ 14) (hg : ∀ j, j < 4 → ∃ q, g j = some q ∧ T q = some 2) : mCi l yX9_run cX9_run 3 (some .int) 6 0 0 D kA M T sz [.ref ro, .int b, .int k] (fun r u => ∃ pm2 : Int32, ((0 : Int) ≤ pm2.toInt ∧ pm2.toInt ≤ 14) ∧ (u.1 rc = some (.inr (4, [.ref rb, .ref rs, .ref rp, .int pm2]))) ∧ u.2 = T ∧ (∀ q, FrA T q → q ≠ rc → u.1 q = M q)) := by
  unfold mCi
  refine start_W (by decide) (Nat.le_of_ble_eq_true rfl) ?_
  intro p e s m below meth c ls hC hr hlk hnm hK hH hsz hl
  have hx := hC.1
  have hb := hC.2.1
  have hl : lv_has ls 3 [(0, .ref ro), (1, .int b), (2, .int k)] := hl
  have hF : ∀ q, FrA T q → q ≠ rc → M q = M q := fun q _ _ => rfl
  have n_ro_w : ro ≠ w := neM hc_ro hc_w (by simp)
  have n_ro_bs : ro ≠ bs := neM hc_ro hc_bs (by simp)
  have n_ro_rc : ro ≠ rc := neM hc_ro hc_rc (by simp)
  have n_w_ro : w ≠ ro := neM hc_w hc_ro (by simp)
  have n_w_bs : w ≠ bs := neM hc_w hc_bs (by simp)
  have n_w_rc : w ≠ rc := neM hc_w hc_rc (by simp)
  have n_bs_ro : bs ≠ ro := neM hc_bs hc_ro (by simp)
  have n_bs_w : bs ≠ w := neM hc_bs hc_w (by simp)
  have n_bs_rc : bs ≠ rc := neM hc_bs hc_rc (by simp)
  have n_rc_ro : rc ≠ ro := neM hc_rc hc_ro (by simp)
  have n_rc_w : rc ≠ w := neM hc_rc hc_w (by simp)
  have n_rc_bs : rc ≠ bs := neM hc_rc hc_bs (by simp)
  refine lv_aload_n hx hb dX9_run_0 rfl (lv_at hl 0 rfl) ?_
  refine xg hC hK hH flX9_12 hc_ro rfl dX9_run_1 ?_
  refine lv_iload_n hx hb dX9_run_4 rfl (lv_at hl 1 rfl) ?_
  refine goI hK hH (runV (As := [.int b]) (rest := []) hC hK hH (c_X8_hasBill hc_w hn_w hc_bs ht_cs ht_bs ht_tp (by omega) (by omega) (by omega) hg) mlX9_163 (rcvM hK hH hc_w rfl) ⟨⟨Nat.le_of_ble_eq_true rfl, Nat.le_of_ble_eq_true rfl⟩, Nat.le_of_ble_eq_true rfl, Nat.le_of_ble_eq_true rfl⟩ rfl hl.1 rfl (Nat.le_of_ble_eq_true rfl) dX9_run_5) (fun rq3_ Mq1_ Tq2_ Hq_ lcq_ hP hz hH => ?_)
  try dsimp only at hP
  obtain ⟨(⟨cq4_, er_rq3_⟩ | er_rq3_), eT, eM⟩ := hP
  · skip
    have eT := eT.symm; subst eT
    have er_rq3_ := er_rq3_.symm; subst er_rq3_
    have eM := eM.symm; subst eM
    have cq4_ : 0 ≤ b.toInt ∧ b.toInt ≤ 3 := cq4_
    refine jif_ne (tgt := 14) hx hb dX9_run_8 (by decide) (fun cq5_ => ?_) (fun cq5_ => absurd cq5_ (by decide))
    refine lv_aload_n hx hb dX9_run_14 rfl (lv_at hl 0 rfl) ?_
    refine xg hC hK hH flX9_30 hc_ro rfl dX9_run_15 ?_
    refine lv_aload_n hx hb dX9_run_18 rfl (lv_at hl 0 rfl) ?_
    refine xg hC hK hH flX9_12 hc_ro rfl dX9_run_19 ?_
    refine xg hC hK hH flX9_166 hc_w rfl dX9_run_22 ?_
    refine lv_iload_n hx hb dX9_run_25 rfl (lv_at hl 1 rfl) ?_
    refine xqld (ck := 5) hC hK hH rfl hc_bs (iIn (by omega) (by omega)) dX9_run_26 ?_
    obtain ⟨qq6_, e_qq6_, t_qq6_⟩ := hg (Int32.toNatClampNeg b) (by have := iCl (x := b) (by omega); omega)
    refine lv_qr e_qq6_ ?_
    refine lv_aload_n hx hb dX9_run_27 rfl (lv_at hl 0 rfl) ?_
    refine xg hC hK hH flX9_12 hc_ro rfl dX9_run_28 ?_
    refine xg hC hK hH flX9_159 hc_w rfl dX9_run_31 ?_
    refine lv_aload_n hx hb dX9_run_34 rfl (lv_at hl 0 rfl) ?_
    refine xg hC hK hH flX9_12 hc_ro rfl dX9_run_35 ?_
    refine xg hC hK hH flX9_134 hc_w rfl dX9_run_38 ?_
    refine goV hK hH (runV (As := [.ref qq6_, .ref cs, .int td]) (rest := []) hC hK hH (c_X5_play hc_rc hn_rc ht_rb ht_rs ht_rp t_qq6_ ht_cs) mlX9_317 (rcvM hK hH hc_rc rfl) ⟨⟨Nat.le_of_ble_eq_true rfl, Nat.le_of_ble_eq_true rfl⟩, Nat.le_of_ble_eq_true rfl, Nat.le_of_ble_eq_true rfl⟩ rfl hl.1 rfl (Nat.le_of_ble_eq_true rfl) dX9_run_41) (fun Mq7_ Tq8_ Hq_ lcq_ hP hz hH => ?_)
    try dsimp only at hP
    obtain ⟨xq10_, ⟨l_xq10_, g_xq10_⟩, (hx_rc), eT, hfr⟩ := hP
    have eT := eT.symm; subst eT
    have hc_ro : Mq7_ ro = some (.inr (7, [.ref w, .ref im, .ref rd, .ref rc, .ref cu])) := (hfr ro (Or.inl hn_ro) n_ro_rc).trans hc_ro
    have hc_w : Mq7_ w = some (.inr (6, [.int td, .int gd, .int bc, .int py, .int rf, .int lt, .int tl, .int fp, .ref cs, .ref bs, .ref tp])) := (hfr w (Or.inl hn_w) n_w_rc).trans hc_w
    have hc_bs : Mq7_ bs = some (.inl (kA 5, 4, .inr (.inr (.inr (.inr g))))) := (hfr bs (Or.inr ht_bs) n_bs_rc).trans hc_bs
    have hc_rc : Mq7_ rc = some (.inr (4, [.ref rb, .ref rs, .ref rp, .int xq10_])) := hx_rc
    have hF : ∀ q, FrA T q → q ≠ rc → Mq7_ q = M q := fun q hq h0 => (hfr q hq  h0).trans (hF q hq h0)
    refine lv_iload_n hx hb dX9_run_44 rfl (lv_at hl 2 rfl) ?_
    refine lv_iconst (v := -1) hx hb dX9_run_45 (by decide) ?_
    refine jic_ne (tgt := 57) hx hb dX9_run_46 (by decide) (fun cq11_ => ?_) (fun cq11_ => ?_)
    · skip
      have cq11_ : k.toInt ≠ (-1) := cq11_
      refine lv_iload_n hx hb dX9_run_57 rfl (lv_at hl 2 rfl) ?_
      refine jif_lt (tgt := 84) hx hb dX9_run_58 (by decide) (fun cq12_ => ?_) (fun cq12_ => ?_)
      · skip
        have cq12_ : k.toInt < 0 := cq12_
        refine lv_bipush (v := -2) hx hb dX9_run_84 (by decide) ?_
        exact ret_i hC hr hlk hK hH (⟨xq10_, ⟨by omega, by omega⟩, hc_rc, rfl, hF⟩) (Nat.le_of_ble_eq_true rfl) (Nat.le_of_ble_eq_true rfl) dX9_run_86
      · skip
        have cq12_ : 0 ≤ k.toInt := cq12_
        refine lv_iload_n hx hb dX9_run_61 rfl (lv_at hl 2 rfl) ?_
        refine lv_aload_n hx hb dX9_run_62 rfl (lv_at hl 0 rfl) ?_
        refine xg hC hK hH flX9_30 hc_ro rfl dX9_run_63 ?_
        refine xg hC hK hH flX9_321 hc_rc rfl dX9_run_66 ?_
        refine jic_ge (tgt := 84) hx hb dX9_run_69 (by decide) (fun cq13_ => ?_) (fun cq13_ => ?_)
        · skip
          have cq13_ : xq10_.toInt ≤ k.toInt := cq13_
          refine lv_bipush (v := -2) hx hb dX9_run_84 (by decide) ?_
          exact ret_i hC hr hlk hK hH (⟨xq10_, ⟨by omega, by omega⟩, hc_rc, rfl, hF⟩) (Nat.le_of_ble_eq_true rfl) (Nat.le_of_ble_eq_true rfl) dX9_run_86
        · skip
          have cq13_ : k.toInt < xq10_.toInt := cq13_
          refine lv_aload_n hx hb dX9_run_72 rfl (lv_at hl 0 rfl) ?_
          refine xg hC hK hH flX9_30 hc_ro rfl dX9_run_73 ?_
          refine xg hC hK hH flX9_322 hc_rc rfl dX9_run_76 ?_
          refine lv_iload_n hx hb dX9_run_79 rfl (lv_at hl 2 rfl) ?_
          refine tild hC hK hH ht_rp rfl (iIn (by omega) (by omega)) dX9_run_80 (fun xq14_ l_xq14_ g_xq14_ => ?_)
          refine lv_goto (tgt := 86) hx hb dX9_run_81 (by decide) ?_
          exact ret_i hC hr hlk hK hH (⟨xq10_, ⟨by omega, by omega⟩, hc_rc, rfl, hF⟩) (Nat.le_of_ble_eq_true rfl) (Nat.le_of_ble_eq_true rfl) dX9_run_86
    · skip
      have cq11_ : k.toInt = (-1) := cq11_
      refine lv_aload_n hx hb dX9_run_49 rfl (lv_at hl 0 rfl) ?_
      refine xg hC hK hH flX9_30 hc_ro rfl dX9_run_50 ?_
      refine xg hC hK hH flX9_321 hc_rc rfl dX9_run_53 ?_
      exact ret_i hC hr hlk hK hH (⟨xq10_, ⟨by omega, by omega⟩, hc_rc, rfl, hF⟩) (Nat.le_of_ble_eq_true rfl) (Nat.le_of_ble_eq_true rfl) dX9_run_56
  · skip
    have eT := eT.symm; subst eT
    have er_rq3_ := er_rq3_.symm; subst er_rq3_
    have eM := eM.symm; subst eM
    refine jif_ne (tgt := 14) hx hb dX9_run_8 (by decide) (fun cq15_ => absurd cq15_ (by decide)) (fun cq15_ => ?_)
    refine lv_bipush (v := -2) hx hb dX9_run_11 (by decide) ?_
    exact ret_i hC hr hlk hK hH (⟨pm, ⟨by omega, by omega⟩, hc_rc, rfl, hF⟩) (Nat.le_of_ble_eq_true rfl) (Nat.le_of_ble_eq_true rfl) dX9_run_13
set_option maxHeartbeats 4000000 in
set_option maxRecDepth 100000 in
theorem c_X9_gains {l : Launch} {D : va_G} {kA : Nat → ClassId} {M : mM} {T : mT} {sz : Nat} {ro im rd cu : Nat} {w cs bs tp : Nat} {td gd bc py rf lt tl fp : Int32} {g : Nat → Option Nat}{rc rb rs rp : Nat} {pm : Int32} {b ps : Int32} (hc_ro : M ro = some (.inr (7, [.ref w, .ref im, .ref rd, .ref rc, .ref cu]))) (hn_ro : T ro = none) (hc_w : M w = some (.inr (6, [.int td, .int gd, .int bc, .int py, .int rf, .int lt, .int tl, .int fp, .ref cs, .ref bs, .ref tp]))) (hn_w : T w = none) (hc_bs : M bs = some (.inl (kA 5, 4, .inr (.inr (.inr (.inr g)))))) (hc_rc : M rc = some (.inr (4, [.ref rb, .ref rs, .ref rp, .int pm]))) (hn_rc : T rc = none) (ht_cs : T cs = some 3) (ht_bs : T bs = some 6) (ht_tp : T tp = some 7) (ht_rb : T rb = some 2) (ht_rs : T rs = some 3) (ht_rp : T rp = some 5) (htd : 0 ≤ td.toInt ∧ td.toInt ≤ 999) (hbc : 0 ≤ bc.toInt ∧ bc.toInt ≤ 4) (htl : 0 ≤ tl.toInt ∧ tl.toInt ≤ 600) (hpm : 0 ≤ pm.toInt ∧ pm.toInt ≤ 14) (hg : ∀ j, j < 4 → ∃ q, g j = some q ∧ T q = some 2) : mCi l yX9_gains cX9_gains 3 (some .int) 6 0 0 D kA M T sz [.ref ro, .int b, .int ps] (fun r u => ∃ pm2 : Int32, ((0 : Int) ≤ pm2.toInt ∧ pm2.toInt ≤ 14) ∧ (u.1 rc = some (.inr (4, [.ref rb, .ref rs, .ref rp, .int pm2]))) ∧ u.2 = T ∧ (∀ q, FrA T q → q ≠ rc → u.1 q = M q)) := by
  unfold mCi
  refine start_W (by decide) (Nat.le_of_ble_eq_true rfl) ?_
  intro p e s m below meth c ls hC hr hlk hnm hK hH hsz hl
  have hx := hC.1
  have hb := hC.2.1
  have hl : lv_has ls 3 [(0, .ref ro), (1, .int b), (2, .int ps)] := hl
  have hF : ∀ q, FrA T q → q ≠ rc → M q = M q := fun q _ _ => rfl
  have n_ro_w : ro ≠ w := neM hc_ro hc_w (by simp)
  have n_ro_bs : ro ≠ bs := neM hc_ro hc_bs (by simp)
  have n_ro_rc : ro ≠ rc := neM hc_ro hc_rc (by simp)
  have n_w_ro : w ≠ ro := neM hc_w hc_ro (by simp)
  have n_w_bs : w ≠ bs := neM hc_w hc_bs (by simp)
  have n_w_rc : w ≠ rc := neM hc_w hc_rc (by simp)
  have n_bs_ro : bs ≠ ro := neM hc_bs hc_ro (by simp)
  have n_bs_w : bs ≠ w := neM hc_bs hc_w (by simp)
  have n_bs_rc : bs ≠ rc := neM hc_bs hc_rc (by simp)
  have n_rc_ro : rc ≠ ro := neM hc_rc hc_ro (by simp)
  have n_rc_w : rc ≠ w := neM hc_rc hc_w (by simp)
  have n_rc_bs : rc ≠ bs := neM hc_rc hc_bs (by simp)
  refine lv_aload_n hx hb dX9_gains_0 rfl (lv_at hl 0 rfl) ?_
  refine xg hC hK hH flX9_12 hc_ro rfl dX9_gains_1 ?_
  refine lv_iload_n hx hb dX9_gains_4 rfl (lv_at hl 1 rfl) ?_
  refine goI hK hH (runV (As := [.int b]) (rest := []) hC hK hH (c_X8_hasBill hc_w hn_w hc_bs ht_cs ht_bs ht_tp (by omega) (by omega) (by omega) hg) mlX9_163 (rcvM hK hH hc_w rfl) ⟨⟨Nat.le_of_ble_eq_true rfl, Nat.le_of_ble_eq_true rfl⟩, Nat.le_of_ble_eq_true rfl, Nat.le_of_ble_eq_true rfl⟩ rfl hl.1 rfl (Nat.le_of_ble_eq_true rfl) dX9_gains_5) (fun rq3_ Mq1_ Tq2_ Hq_ lcq_ hP hz hH => ?_)
  try dsimp only at hP
  obtain ⟨(⟨cq4_, er_rq3_⟩ | er_rq3_), eT, eM⟩ := hP
  · skip
    have eT := eT.symm; subst eT
    have er_rq3_ := er_rq3_.symm; subst er_rq3_
    have eM := eM.symm; subst eM
    have cq4_ : 0 ≤ b.toInt ∧ b.toInt ≤ 3 := cq4_
    refine jif_eq (tgt := 18) hx hb dX9_gains_8 (by decide) (fun cq5_ => absurd cq5_ (by decide)) (fun cq5_ => ?_)
    refine lv_iload_n hx hb dX9_gains_11 rfl (lv_at hl 2 rfl) ?_
    refine goI hK hH (runS (As := [.int ps]) (rest := []) hC hK hH (c_X9_isPerson) mlX9_155 ⟨⟨Nat.le_of_ble_eq_true rfl, Nat.le_of_ble_eq_true rfl⟩, Nat.le_of_ble_eq_true rfl, Nat.le_of_ble_eq_true rfl⟩ rfl hl.1 rfl (Nat.le_of_ble_eq_true rfl) dX9_gains_12) (fun rq8_ Mq6_ Tq7_ Hq_ lcq_ hP hz hH => ?_)
    try dsimp only at hP
    obtain ⟨(⟨cq9_, er_rq8_⟩ | ⟨cq10_, er_rq8_⟩), eT, eM⟩ := hP
    · skip
      have eT := eT.symm; subst eT
      have er_rq8_ := er_rq8_.symm; subst er_rq8_
      have eM := eM.symm; subst eM
      have cq9_ : 0 ≤ ps.toInt ∧ ps.toInt ≤ 7 := cq9_
      refine jif_ne (tgt := 20) hx hb dX9_gains_15 (by decide) (fun cq11_ => ?_) (fun cq11_ => absurd cq11_ (by decide))
      refine lv_aload_n hx hb dX9_gains_20 rfl (lv_at hl 0 rfl) ?_
      refine xg hC hK hH flX9_30 hc_ro rfl dX9_gains_21 ?_
      refine lv_aload_n hx hb dX9_gains_24 rfl (lv_at hl 0 rfl) ?_
      refine xg hC hK hH flX9_12 hc_ro rfl dX9_gains_25 ?_
      refine xg hC hK hH flX9_166 hc_w rfl dX9_gains_28 ?_
      refine lv_iload_n hx hb dX9_gains_31 rfl (lv_at hl 1 rfl) ?_
      refine xqld (ck := 5) hC hK hH rfl hc_bs (iIn (by omega) (by omega)) dX9_gains_32 ?_
      obtain ⟨qq12_, e_qq12_, t_qq12_⟩ := hg (Int32.toNatClampNeg b) (by have := iCl (x := b) (by omega); omega)
      refine lv_qr e_qq12_ ?_
      refine lv_aload_n hx hb dX9_gains_33 rfl (lv_at hl 0 rfl) ?_
      refine xg hC hK hH flX9_12 hc_ro rfl dX9_gains_34 ?_
      refine xg hC hK hH flX9_159 hc_w rfl dX9_gains_37 ?_
      refine lv_aload_n hx hb dX9_gains_40 rfl (lv_at hl 0 rfl) ?_
      refine xg hC hK hH flX9_12 hc_ro rfl dX9_gains_41 ?_
      refine xg hC hK hH flX9_134 hc_w rfl dX9_gains_44 ?_
      refine goV hK hH (runV (As := [.ref qq12_, .ref cs, .int td]) (rest := []) hC hK hH (c_X5_play hc_rc hn_rc ht_rb ht_rs ht_rp t_qq12_ ht_cs) mlX9_317 (rcvM hK hH hc_rc rfl) ⟨⟨Nat.le_of_ble_eq_true rfl, Nat.le_of_ble_eq_true rfl⟩, Nat.le_of_ble_eq_true rfl, Nat.le_of_ble_eq_true rfl⟩ rfl hl.1 rfl (Nat.le_of_ble_eq_true rfl) dX9_gains_47) (fun Mq13_ Tq14_ Hq_ lcq_ hP hz hH => ?_)
      try dsimp only at hP
      obtain ⟨xq16_, ⟨l_xq16_, g_xq16_⟩, (hx_rc), eT, hfr⟩ := hP
      have eT := eT.symm; subst eT
      have hc_ro : Mq13_ ro = some (.inr (7, [.ref w, .ref im, .ref rd, .ref rc, .ref cu])) := (hfr ro (Or.inl hn_ro) n_ro_rc).trans hc_ro
      have hc_w : Mq13_ w = some (.inr (6, [.int td, .int gd, .int bc, .int py, .int rf, .int lt, .int tl, .int fp, .ref cs, .ref bs, .ref tp])) := (hfr w (Or.inl hn_w) n_w_rc).trans hc_w
      have hc_bs : Mq13_ bs = some (.inl (kA 5, 4, .inr (.inr (.inr (.inr g))))) := (hfr bs (Or.inr ht_bs) n_bs_rc).trans hc_bs
      have hc_rc : Mq13_ rc = some (.inr (4, [.ref rb, .ref rs, .ref rp, .int xq16_])) := hx_rc
      have hF : ∀ q, FrA T q → q ≠ rc → Mq13_ q = M q := fun q hq h0 => (hfr q hq  h0).trans (hF q hq h0)
      refine lv_aload_n hx hb dX9_gains_50 rfl (lv_at hl 0 rfl) ?_
      refine xg hC hK hH flX9_30 hc_ro rfl dX9_gains_51 ?_
      refine xg hC hK hH flX9_325 hc_rc rfl dX9_gains_54 ?_
      refine lv_iload_n hx hb dX9_gains_57 rfl (lv_at hl 2 rfl) ?_
      refine tild hC hK hH ht_rs rfl (iIn (by omega) (by omega)) dX9_gains_58 (fun xq17_ l_xq17_ g_xq17_ => ?_)
      refine lv_aload_n hx hb dX9_gains_59 rfl (lv_at hl 0 rfl) ?_
      refine xg hC hK hH flX9_12 hc_ro rfl dX9_gains_60 ?_
      refine xg hC hK hH flX9_159 hc_w rfl dX9_gains_63 ?_
      refine lv_iload_n hx hb dX9_gains_66 rfl (lv_at hl 2 rfl) ?_
      refine tild hC hK hH ht_cs rfl (iIn (by omega) (by omega)) dX9_gains_67 (fun xq18_ l_xq18_ g_xq18_ => ?_)
      refine lv_isub hx hb dX9_gains_68 ?_
      refine lv_topi (fun zq19_ e_zq19_ => ?_)
      exact ret_i hC hr hlk hK hH (⟨xq16_, ⟨by omega, by omega⟩, hc_rc, rfl, hF⟩) (Nat.le_of_ble_eq_true rfl) (Nat.le_of_ble_eq_true rfl) dX9_gains_69
    · skip
      have eT := eT.symm; subst eT
      have er_rq8_ := er_rq8_.symm; subst er_rq8_
      have eM := eM.symm; subst eM
      have cq10_ : ¬ (0 ≤ ps.toInt ∧ ps.toInt ≤ 7) := cq10_
      refine jif_ne (tgt := 20) hx hb dX9_gains_15 (by decide) (fun cq20_ => absurd cq20_ (by decide)) (fun cq20_ => ?_)
      refine lv_iconst (v := 0) hx hb dX9_gains_18 (by decide) ?_
      exact ret_i hC hr hlk hK hH (⟨pm, ⟨by omega, by omega⟩, hc_rc, rfl, hF⟩) (Nat.le_of_ble_eq_true rfl) (Nat.le_of_ble_eq_true rfl) dX9_gains_19
  · skip
    have eT := eT.symm; subst eT
    have er_rq3_ := er_rq3_.symm; subst er_rq3_
    have eM := eM.symm; subst eM
    refine jif_eq (tgt := 18) hx hb dX9_gains_8 (by decide) (fun cq21_ => ?_) (fun cq21_ => absurd cq21_ (by decide))
    refine lv_iconst (v := 0) hx hb dX9_gains_18 (by decide) ?_
    exact ret_i hC hr hlk hK hH (⟨pm, ⟨by omega, by omega⟩, hc_rc, rfl, hF⟩) (Nat.le_of_ble_eq_true rfl) (Nat.le_of_ble_eq_true rfl) dX9_gains_19
set_option maxHeartbeats 4000000 in
set_option maxRecDepth 100000 in
theorem c_X9_ends {l : Launch} {D : va_G} {kA : Nat → ClassId} {M : mM} {T : mT} {sz : Nat} {ro im rd cu : Nat} {w cs bs tp : Nat} {td gd bc py rf lt tl fp : Int32} {g : Nat → Option Nat}{rc rb rs rp : Nat} {pm : Int32} {b : Int32} (hc_ro : M ro = some (.inr (7, [.ref w, .ref im, .ref rd, .ref rc, .ref cu]))) (hn_ro : T ro = none) (hc_w : M w = some (.inr (6, [.int td, .int gd, .int bc, .int py, .int rf, .int lt, .int tl, .int fp, .ref cs, .ref bs, .ref tp]))) (hn_w : T w = none) (hc_bs : M bs = some (.inl (kA 5, 4, .inr (.inr (.inr (.inr g)))))) (hc_rc : M rc = some (.inr (4, [.ref rb, .ref rs, .ref rp, .int pm]))) (hn_rc : T rc = none) (ht_cs : T cs = some 3) (ht_bs : T bs = some 6) (ht_tp : T tp = some 7) (ht_rb : T rb = some 2) (ht_rs : T rs = some 3) (ht_rp : T rp = some 5) (htd : 0 ≤ td.toInt ∧ td.toInt ≤ 999) (hbc : 0 ≤ bc.toInt ∧ bc.toInt ≤ 4) (htl : 0 ≤ tl.toInt ∧ tl.toInt ≤ 600) (hpm : 0 ≤ pm.toInt ∧ pm.toInt ≤ 14) (hg : ∀ j, j < 4 → ∃ q, g j = some q ∧ T q = some 2) : mCi l yX9_ends cX9_ends 2 (some .int) 6 0 0 D kA M T sz [.ref ro, .int b] (fun r u => ∃ pm2 : Int32, ((0 : Int) ≤ pm2.toInt ∧ pm2.toInt ≤ 14) ∧ (u.1 rc = some (.inr (4, [.ref rb, .ref rs, .ref rp, .int pm2]))) ∧ u.2 = T ∧ (∀ q, FrA T q → q ≠ rc → u.1 q = M q)) := by
  unfold mCi
  refine start_W (by decide) (Nat.le_of_ble_eq_true rfl) ?_
  intro p e s m below meth c ls hC hr hlk hnm hK hH hsz hl
  have hx := hC.1
  have hb := hC.2.1
  have hl : lv_has ls 2 [(0, .ref ro), (1, .int b)] := hl
  have hF : ∀ q, FrA T q → q ≠ rc → M q = M q := fun q _ _ => rfl
  have n_ro_w : ro ≠ w := neM hc_ro hc_w (by simp)
  have n_ro_bs : ro ≠ bs := neM hc_ro hc_bs (by simp)
  have n_ro_rc : ro ≠ rc := neM hc_ro hc_rc (by simp)
  have n_w_ro : w ≠ ro := neM hc_w hc_ro (by simp)
  have n_w_bs : w ≠ bs := neM hc_w hc_bs (by simp)
  have n_w_rc : w ≠ rc := neM hc_w hc_rc (by simp)
  have n_bs_ro : bs ≠ ro := neM hc_bs hc_ro (by simp)
  have n_bs_w : bs ≠ w := neM hc_bs hc_w (by simp)
  have n_bs_rc : bs ≠ rc := neM hc_bs hc_rc (by simp)
  have n_rc_ro : rc ≠ ro := neM hc_rc hc_ro (by simp)
  have n_rc_w : rc ≠ w := neM hc_rc hc_w (by simp)
  have n_rc_bs : rc ≠ bs := neM hc_rc hc_bs (by simp)
  refine lv_aload_n hx hb dX9_ends_0 rfl (lv_at hl 0 rfl) ?_
  refine xg hC hK hH flX9_12 hc_ro rfl dX9_ends_1 ?_
  refine lv_iload_n hx hb dX9_ends_4 rfl (lv_at hl 1 rfl) ?_
  refine goI hK hH (runV (As := [.int b]) (rest := []) hC hK hH (c_X8_hasBill hc_w hn_w hc_bs ht_cs ht_bs ht_tp (by omega) (by omega) (by omega) hg) mlX9_163 (rcvM hK hH hc_w rfl) ⟨⟨Nat.le_of_ble_eq_true rfl, Nat.le_of_ble_eq_true rfl⟩, Nat.le_of_ble_eq_true rfl, Nat.le_of_ble_eq_true rfl⟩ rfl hl.1 rfl (Nat.le_of_ble_eq_true rfl) dX9_ends_5) (fun rq3_ Mq1_ Tq2_ Hq_ lcq_ hP hz hH => ?_)
  try dsimp only at hP
  obtain ⟨(⟨cq4_, er_rq3_⟩ | er_rq3_), eT, eM⟩ := hP
  · skip
    have eT := eT.symm; subst eT
    have er_rq3_ := er_rq3_.symm; subst er_rq3_
    have eM := eM.symm; subst eM
    have cq4_ : 0 ≤ b.toInt ∧ b.toInt ≤ 3 := cq4_
    refine jif_ne (tgt := 13) hx hb dX9_ends_8 (by decide) (fun cq5_ => ?_) (fun cq5_ => absurd cq5_ (by decide))
    refine lv_aload_n hx hb dX9_ends_13 rfl (lv_at hl 0 rfl) ?_
    refine xg hC hK hH flX9_30 hc_ro rfl dX9_ends_14 ?_
    refine lv_aload_n hx hb dX9_ends_17 rfl (lv_at hl 0 rfl) ?_
    refine xg hC hK hH flX9_12 hc_ro rfl dX9_ends_18 ?_
    refine xg hC hK hH flX9_166 hc_w rfl dX9_ends_21 ?_
    refine lv_iload_n hx hb dX9_ends_24 rfl (lv_at hl 1 rfl) ?_
    refine xqld (ck := 5) hC hK hH rfl hc_bs (iIn (by omega) (by omega)) dX9_ends_25 ?_
    obtain ⟨qq6_, e_qq6_, t_qq6_⟩ := hg (Int32.toNatClampNeg b) (by have := iCl (x := b) (by omega); omega)
    refine lv_qr e_qq6_ ?_
    refine lv_aload_n hx hb dX9_ends_26 rfl (lv_at hl 0 rfl) ?_
    refine xg hC hK hH flX9_12 hc_ro rfl dX9_ends_27 ?_
    refine xg hC hK hH flX9_159 hc_w rfl dX9_ends_30 ?_
    refine lv_aload_n hx hb dX9_ends_33 rfl (lv_at hl 0 rfl) ?_
    refine xg hC hK hH flX9_12 hc_ro rfl dX9_ends_34 ?_
    refine xg hC hK hH flX9_134 hc_w rfl dX9_ends_37 ?_
    refine goV hK hH (runV (As := [.ref qq6_, .ref cs, .int td]) (rest := []) hC hK hH (c_X5_play hc_rc hn_rc ht_rb ht_rs ht_rp t_qq6_ ht_cs) mlX9_317 (rcvM hK hH hc_rc rfl) ⟨⟨Nat.le_of_ble_eq_true rfl, Nat.le_of_ble_eq_true rfl⟩, Nat.le_of_ble_eq_true rfl, Nat.le_of_ble_eq_true rfl⟩ rfl hl.1 rfl (Nat.le_of_ble_eq_true rfl) dX9_ends_40) (fun Mq7_ Tq8_ Hq_ lcq_ hP hz hH => ?_)
    try dsimp only at hP
    obtain ⟨xq10_, ⟨l_xq10_, g_xq10_⟩, (hx_rc), eT, hfr⟩ := hP
    have eT := eT.symm; subst eT
    have hc_ro : Mq7_ ro = some (.inr (7, [.ref w, .ref im, .ref rd, .ref rc, .ref cu])) := (hfr ro (Or.inl hn_ro) n_ro_rc).trans hc_ro
    have hc_w : Mq7_ w = some (.inr (6, [.int td, .int gd, .int bc, .int py, .int rf, .int lt, .int tl, .int fp, .ref cs, .ref bs, .ref tp])) := (hfr w (Or.inl hn_w) n_w_rc).trans hc_w
    have hc_bs : Mq7_ bs = some (.inl (kA 5, 4, .inr (.inr (.inr (.inr g))))) := (hfr bs (Or.inr ht_bs) n_bs_rc).trans hc_bs
    have hc_rc : Mq7_ rc = some (.inr (4, [.ref rb, .ref rs, .ref rp, .int xq10_])) := hx_rc
    have hF : ∀ q, FrA T q → q ≠ rc → Mq7_ q = M q := fun q hq h0 => (hfr q hq  h0).trans (hF q hq h0)
    refine lv_aload_n hx hb dX9_ends_43 rfl (lv_at hl 0 rfl) ?_
    refine xg hC hK hH flX9_30 hc_ro rfl dX9_ends_44 ?_
    refine xg hC hK hH flX9_326 hc_rc rfl dX9_ends_47 ?_
    refine tg hC hK hH flX9_197 ht_rb rfl rfl dX9_ends_50 (fun xq11_ l_xq11_ g_xq11_ => ?_)
    have l_xq11_ : (0 : Int) ≤ xq11_.toInt := l_xq11_
    have g_xq11_ : xq11_.toInt ≤ 7 := g_xq11_
    exact ret_i hC hr hlk hK hH (⟨xq10_, ⟨by omega, by omega⟩, hc_rc, rfl, hF⟩) (Nat.le_of_ble_eq_true rfl) (Nat.le_of_ble_eq_true rfl) dX9_ends_53
  · skip
    have eT := eT.symm; subst eT
    have er_rq3_ := er_rq3_.symm; subst er_rq3_
    have eM := eM.symm; subst eM
    refine jif_ne (tgt := 13) hx hb dX9_ends_8 (by decide) (fun cq12_ => absurd cq12_ (by decide)) (fun cq12_ => ?_)
    refine lv_iconst (v := -1) hx hb dX9_ends_11 (by decide) ?_
    exact ret_i hC hr hlk hK hH (⟨pm, ⟨by omega, by omega⟩, hc_rc, rfl, hF⟩) (Nat.le_of_ble_eq_true rfl) (Nat.le_of_ble_eq_true rfl) dX9_ends_12
set_option maxHeartbeats 4000000 in
set_option maxRecDepth 100000 in
theorem c_X9_bill {l : Launch} {D : va_G} {kA : Nat → ClassId} {M : mM} {T : mT} {sz : Nat} {ro im rd cu : Nat} {w cs bs tp : Nat} {td gd bc py rf lt tl fp : Int32} {g : Nat → Option Nat}{rc : Nat} {b wh : Int32} (hc_ro : M ro = some (.inr (7, [.ref w, .ref im, .ref rd, .ref rc, .ref cu]))) (hn_ro : T ro = none) (hc_w : M w = some (.inr (6, [.int td, .int gd, .int bc, .int py, .int rf, .int lt, .int tl, .int fp, .ref cs, .ref bs, .ref tp]))) (hn_w : T w = none) (hc_bs : M bs = some (.inl (kA 5, 4, .inr (.inr (.inr (.inr g)))))) (ht_cs : T cs = some 3) (ht_bs : T bs = some 6) (ht_tp : T tp = some 7) (ht_cu : T cu = some 9) (htd : 0 ≤ td.toInt ∧ td.toInt ≤ 999) (hbc : 0 ≤ bc.toInt ∧ bc.toInt ≤ 4) (htl : 0 ≤ tl.toInt ∧ tl.toInt ≤ 600) (hg : ∀ j, j < 4 → ∃ q, g j = some q ∧ T q = some 2) : mCi l yX9_bill cX9_bill 4 (some .int) 18 0 0 D kA M T sz [.ref ro, .int b, .int wh] (fun r u => (True) ∧ u.2 = T ∧ (∀ q, FrK T q → u.1 q = M q)) := by
  unfold mCi
  refine start_W (by decide) (Nat.le_of_ble_eq_true rfl) ?_
  intro p e s m below meth c ls hC hr hlk hnm hK hH hsz hl
  have hx := hC.1
  have hb := hC.2.1
  have hl : lv_has ls 4 [(0, .ref ro), (1, .int b), (2, .int wh)] := hl
  have hF : ∀ q, FrK T q → M q = M q := fun q _  => rfl
  have n_ro_w : ro ≠ w := neM hc_ro hc_w (by simp)
  have n_ro_bs : ro ≠ bs := neM hc_ro hc_bs (by simp)
  have n_w_ro : w ≠ ro := neM hc_w hc_ro (by simp)
  have n_w_bs : w ≠ bs := neM hc_w hc_bs (by simp)
  have n_bs_ro : bs ≠ ro := neM hc_bs hc_ro (by simp)
  have n_bs_w : bs ≠ w := neM hc_bs hc_w (by simp)
  refine lv_aload_n hx hb dX9_bill_0 rfl (lv_at hl 0 rfl) ?_
  refine xg hC hK hH flX9_12 hc_ro rfl dX9_bill_1 ?_
  refine lv_iload_n hx hb dX9_bill_4 rfl (lv_at hl 1 rfl) ?_
  refine goI hK hH (runV (As := [.int b]) (rest := []) hC hK hH (c_X8_hasBill hc_w hn_w hc_bs ht_cs ht_bs ht_tp (by omega) (by omega) (by omega) hg) mlX9_163 (rcvM hK hH hc_w rfl) ⟨⟨Nat.le_of_ble_eq_true rfl, Nat.le_of_ble_eq_true rfl⟩, Nat.le_of_ble_eq_true rfl, Nat.le_of_ble_eq_true rfl⟩ rfl hl.1 rfl (Nat.le_of_ble_eq_true rfl) dX9_bill_5) (fun rq3_ Mq1_ Tq2_ Hq_ lcq_ hP hz hH => ?_)
  try dsimp only at hP
  obtain ⟨(⟨cq4_, er_rq3_⟩ | er_rq3_), eT, eM⟩ := hP
  · skip
    have eT := eT.symm; subst eT
    have er_rq3_ := er_rq3_.symm; subst er_rq3_
    have eM := eM.symm; subst eM
    have cq4_ : 0 ≤ b.toInt ∧ b.toInt ≤ 3 := cq4_
    refine jif_ne (tgt := 14) hx hb dX9_bill_8 (by decide) (fun cq5_ => ?_) (fun cq5_ => absurd cq5_ (by decide))
    refine lv_aload_n hx hb dX9_bill_14 rfl (lv_at hl 0 rfl) ?_
    refine xg hC hK hH flX9_12 hc_ro rfl dX9_bill_15 ?_
    refine xg hC hK hH flX9_166 hc_w rfl dX9_bill_18 ?_
    refine lv_iload_n hx hb dX9_bill_21 rfl (lv_at hl 1 rfl) ?_
    refine xqld (ck := 5) hC hK hH rfl hc_bs (iIn (by omega) (by omega)) dX9_bill_22 ?_
    obtain ⟨qq6_, e_qq6_, t_qq6_⟩ := hg (Int32.toNatClampNeg b) (by have := iCl (x := b) (by omega); omega)
    refine lv_qr e_qq6_ ?_
    refine lv_astore_n (lv' := [(3, .ref qq6_), (0, .ref ro), (1, .int b), (2, .int wh)]) hx hb dX9_bill_23 rfl hl (by decide) rfl (fun ls hl => ?_)
    refine lv_iload_n hx hb dX9_bill_24 rfl (lv_at hl 3 rfl) ?_
    rcases (show wh.toInt < 0 ∨ 19 < wh.toInt ∨ wh.toInt = 0 ∨ wh.toInt = 1 ∨ wh.toInt = 2 ∨ wh.toInt = 3 ∨ wh.toInt = 4 ∨ wh.toInt = 5 ∨ wh.toInt = 6 ∨ wh.toInt = 7 ∨ wh.toInt = 8 ∨ wh.toInt = 9 ∨ wh.toInt = 10 ∨ wh.toInt = 11 ∨ wh.toInt = 12 ∨ wh.toInt = 13 ∨ wh.toInt = 14 ∨ wh.toInt = 15 ∨ wh.toInt = 16 ∨ wh.toInt = 17 ∨ wh.toInt = 18 ∨ wh.toInt = 19 by omega) with cq7_ | cq7_ | cq7_ | cq7_ | cq7_ | cq7_ | cq7_ | cq7_ | cq7_ | cq7_ | cq7_ | cq7_ | cq7_ | cq7_ | cq7_ | cq7_ | cq7_ | cq7_ | cq7_ | cq7_ | cq7_ | cq7_
    · skip
      refine lv_tableOut (tgt := 257) hx hb dX9_bill_25 (Or.inl cq7_) (by decide) ?_
      refine lv_bipush (v := -2) hx hb dX9_bill_257 (by decide) ?_
      exact ret_i hC hr hlk hK hH (⟨trivial, rfl, hF⟩) (Nat.le_of_ble_eq_true rfl) (Nat.le_of_ble_eq_true rfl) dX9_bill_259
    · skip
      refine lv_tableOut (tgt := 257) hx hb dX9_bill_25 (Or.inr cq7_) (by decide) ?_
      refine lv_bipush (v := -2) hx hb dX9_bill_257 (by decide) ?_
      exact ret_i hC hr hlk hK hH (⟨trivial, rfl, hF⟩) (Nat.le_of_ble_eq_true rfl) (Nat.le_of_ble_eq_true rfl) dX9_bill_259
    · skip
      refine lv_tableIn (off := 95) (tgt := 120) hx hb dX9_bill_25 (by omega) (by omega) (by rw [cq7_]; rfl) (by decide) ?_
      refine lv_aload_n hx hb dX9_bill_120 rfl (lv_at hl 0 rfl) ?_
      refine tg hC hK hH flX9_170 t_qq6_ rfl rfl dX9_bill_121 (fun xq8_ l_xq8_ g_xq8_ => ?_)
      exact ret_i hC hr hlk hK hH (⟨trivial, rfl, hF⟩) (Nat.le_of_ble_eq_true rfl) (Nat.le_of_ble_eq_true rfl) dX9_bill_124
    · skip
      refine lv_tableIn (off := 100) (tgt := 125) hx hb dX9_bill_25 (by omega) (by omega) (by rw [cq7_]; rfl) (by decide) ?_
      refine lv_aload_n hx hb dX9_bill_125 rfl (lv_at hl 0 rfl) ?_
      refine tg hC hK hH flX9_175 t_qq6_ rfl rfl dX9_bill_126 (fun xq9_ l_xq9_ g_xq9_ => ?_)
      exact ret_i hC hr hlk hK hH (⟨trivial, rfl, hF⟩) (Nat.le_of_ble_eq_true rfl) (Nat.le_of_ble_eq_true rfl) dX9_bill_129
    · skip
      refine lv_tableIn (off := 105) (tgt := 130) hx hb dX9_bill_25 (by omega) (by omega) (by rw [cq7_]; rfl) (by decide) ?_
      refine lv_aload_n hx hb dX9_bill_130 rfl (lv_at hl 0 rfl) ?_
      refine tg hC hK hH flX9_178 t_qq6_ rfl rfl dX9_bill_131 (fun xq10_ l_xq10_ g_xq10_ => ?_)
      exact ret_i hC hr hlk hK hH (⟨trivial, rfl, hF⟩) (Nat.le_of_ble_eq_true rfl) (Nat.le_of_ble_eq_true rfl) dX9_bill_134
    · skip
      refine lv_tableIn (off := 110) (tgt := 135) hx hb dX9_bill_25 (by omega) (by omega) (by rw [cq7_]; rfl) (by decide) ?_
      refine lv_aload_n hx hb dX9_bill_135 rfl (lv_at hl 0 rfl) ?_
      refine tg hC hK hH flX9_181 t_qq6_ rfl rfl dX9_bill_136 (fun xq11_ l_xq11_ g_xq11_ => ?_)
      exact ret_i hC hr hlk hK hH (⟨trivial, rfl, hF⟩) (Nat.le_of_ble_eq_true rfl) (Nat.le_of_ble_eq_true rfl) dX9_bill_139
    · skip
      refine lv_tableIn (off := 115) (tgt := 140) hx hb dX9_bill_25 (by omega) (by omega) (by rw [cq7_]; rfl) (by decide) ?_
      refine lv_aload_n hx hb dX9_bill_140 rfl (lv_at hl 0 rfl) ?_
      refine tg hC hK hH flX9_184 t_qq6_ rfl rfl dX9_bill_141 (fun xq12_ l_xq12_ g_xq12_ => ?_)
      exact ret_i hC hr hlk hK hH (⟨trivial, rfl, hF⟩) (Nat.le_of_ble_eq_true rfl) (Nat.le_of_ble_eq_true rfl) dX9_bill_144
    · skip
      refine lv_tableIn (off := 120) (tgt := 145) hx hb dX9_bill_25 (by omega) (by omega) (by rw [cq7_]; rfl) (by decide) ?_
      refine lv_aload_n hx hb dX9_bill_145 rfl (lv_at hl 0 rfl) ?_
      refine tg hC hK hH flX9_187 t_qq6_ rfl rfl dX9_bill_146 (fun xq13_ l_xq13_ g_xq13_ => ?_)
      have l_xq13_ : (0 : Int) ≤ xq13_.toInt := l_xq13_
      have g_xq13_ : xq13_.toInt ≤ 1 := g_xq13_
      refine goI hK hH (runS (As := [.int xq13_]) (rest := []) hC hK hH (c_X9_bit) mlX9_190 ⟨⟨Nat.le_of_ble_eq_true rfl, Nat.le_of_ble_eq_true rfl⟩, Nat.le_of_ble_eq_true rfl, Nat.le_of_ble_eq_true rfl⟩ rfl hl.1 rfl (Nat.le_of_ble_eq_true rfl) dX9_bill_149) (fun rq16_ Mq14_ Tq15_ Hq_ lcq_ hP hz hH => ?_)
      try dsimp only at hP
      obtain ⟨(er_rq16_ | er_rq16_), eT, eM⟩ := hP
      · skip
        have eT := eT.symm; subst eT
        have er_rq16_ := er_rq16_.symm; subst er_rq16_
        have eM := eM.symm; subst eM
        exact ret_i hC hr hlk hK hH (⟨trivial, rfl, hF⟩) (Nat.le_of_ble_eq_true rfl) (Nat.le_of_ble_eq_true rfl) dX9_bill_152
      · skip
        have eT := eT.symm; subst eT
        have er_rq16_ := er_rq16_.symm; subst er_rq16_
        have eM := eM.symm; subst eM
        exact ret_i hC hr hlk hK hH (⟨trivial, rfl, hF⟩) (Nat.le_of_ble_eq_true rfl) (Nat.le_of_ble_eq_true rfl) dX9_bill_152
    · skip
      refine lv_tableIn (off := 128) (tgt := 153) hx hb dX9_bill_25 (by omega) (by omega) (by rw [cq7_]; rfl) (by decide) ?_
      refine lv_aload_n hx hb dX9_bill_153 rfl (lv_at hl 0 rfl) ?_
      refine tg hC hK hH flX9_194 t_qq6_ rfl rfl dX9_bill_154 (fun xq17_ l_xq17_ g_xq17_ => ?_)
      have l_xq17_ : (0 : Int) ≤ xq17_.toInt := l_xq17_
      have g_xq17_ : xq17_.toInt ≤ 1 := g_xq17_
      refine goI hK hH (runS (As := [.int xq17_]) (rest := []) hC hK hH (c_X9_bit) mlX9_190 ⟨⟨Nat.le_of_ble_eq_true rfl, Nat.le_of_ble_eq_true rfl⟩, Nat.le_of_ble_eq_true rfl, Nat.le_of_ble_eq_true rfl⟩ rfl hl.1 rfl (Nat.le_of_ble_eq_true rfl) dX9_bill_157) (fun rq20_ Mq18_ Tq19_ Hq_ lcq_ hP hz hH => ?_)
      try dsimp only at hP
      obtain ⟨(er_rq20_ | er_rq20_), eT, eM⟩ := hP
      · skip
        have eT := eT.symm; subst eT
        have er_rq20_ := er_rq20_.symm; subst er_rq20_
        have eM := eM.symm; subst eM
        exact ret_i hC hr hlk hK hH (⟨trivial, rfl, hF⟩) (Nat.le_of_ble_eq_true rfl) (Nat.le_of_ble_eq_true rfl) dX9_bill_160
      · skip
        have eT := eT.symm; subst eT
        have er_rq20_ := er_rq20_.symm; subst er_rq20_
        have eM := eM.symm; subst eM
        exact ret_i hC hr hlk hK hH (⟨trivial, rfl, hF⟩) (Nat.le_of_ble_eq_true rfl) (Nat.le_of_ble_eq_true rfl) dX9_bill_160
    · skip
      refine lv_tableIn (off := 136) (tgt := 161) hx hb dX9_bill_25 (by omega) (by omega) (by rw [cq7_]; rfl) (by decide) ?_
      refine lv_aload_n hx hb dX9_bill_161 rfl (lv_at hl 0 rfl) ?_
      refine tg hC hK hH flX9_197 t_qq6_ rfl rfl dX9_bill_162 (fun xq21_ l_xq21_ g_xq21_ => ?_)
      have l_xq21_ : (0 : Int) ≤ xq21_.toInt := l_xq21_
      have g_xq21_ : xq21_.toInt ≤ 7 := g_xq21_
      exact ret_i hC hr hlk hK hH (⟨trivial, rfl, hF⟩) (Nat.le_of_ble_eq_true rfl) (Nat.le_of_ble_eq_true rfl) dX9_bill_165
    · skip
      refine lv_tableIn (off := 141) (tgt := 166) hx hb dX9_bill_25 (by omega) (by omega) (by rw [cq7_]; rfl) (by decide) ?_
      refine lv_aload_n hx hb dX9_bill_166 rfl (lv_at hl 0 rfl) ?_
      refine tg hC hK hH flX9_200 t_qq6_ rfl rfl dX9_bill_167 (fun xq22_ l_xq22_ g_xq22_ => ?_)
      have l_xq22_ : (0 : Int) ≤ xq22_.toInt := l_xq22_
      have g_xq22_ : xq22_.toInt ≤ 12 := g_xq22_
      exact ret_i hC hr hlk hK hH (⟨trivial, rfl, hF⟩) (Nat.le_of_ble_eq_true rfl) (Nat.le_of_ble_eq_true rfl) dX9_bill_170
    · skip
      refine lv_tableIn (off := 146) (tgt := 171) hx hb dX9_bill_25 (by omega) (by omega) (by rw [cq7_]; rfl) (by decide) ?_
      refine lv_aload_n hx hb dX9_bill_171 rfl (lv_at hl 0 rfl) ?_
      refine tg hC hK hH flX9_203 t_qq6_ rfl rfl dX9_bill_172 (fun xq23_ l_xq23_ g_xq23_ => ?_)
      exact ret_i hC hr hlk hK hH (⟨trivial, rfl, hF⟩) (Nat.le_of_ble_eq_true rfl) (Nat.le_of_ble_eq_true rfl) dX9_bill_175
    · skip
      refine lv_tableIn (off := 151) (tgt := 176) hx hb dX9_bill_25 (by omega) (by omega) (by rw [cq7_]; rfl) (by decide) ?_
      refine lv_aload_n hx hb dX9_bill_176 rfl (lv_at hl 0 rfl) ?_
      refine tg hC hK hH flX9_206 t_qq6_ rfl rfl dX9_bill_177 (fun xq24_ l_xq24_ g_xq24_ => ?_)
      have l_xq24_ : (0 : Int) ≤ xq24_.toInt := l_xq24_
      have g_xq24_ : xq24_.toInt ≤ 1 := g_xq24_
      refine goI hK hH (runS (As := [.int xq24_]) (rest := []) hC hK hH (c_X9_bit) mlX9_190 ⟨⟨Nat.le_of_ble_eq_true rfl, Nat.le_of_ble_eq_true rfl⟩, Nat.le_of_ble_eq_true rfl, Nat.le_of_ble_eq_true rfl⟩ rfl hl.1 rfl (Nat.le_of_ble_eq_true rfl) dX9_bill_180) (fun rq27_ Mq25_ Tq26_ Hq_ lcq_ hP hz hH => ?_)
      try dsimp only at hP
      obtain ⟨(er_rq27_ | er_rq27_), eT, eM⟩ := hP
      · skip
        have eT := eT.symm; subst eT
        have er_rq27_ := er_rq27_.symm; subst er_rq27_
        have eM := eM.symm; subst eM
        exact ret_i hC hr hlk hK hH (⟨trivial, rfl, hF⟩) (Nat.le_of_ble_eq_true rfl) (Nat.le_of_ble_eq_true rfl) dX9_bill_183
      · skip
        have eT := eT.symm; subst eT
        have er_rq27_ := er_rq27_.symm; subst er_rq27_
        have eM := eM.symm; subst eM
        exact ret_i hC hr hlk hK hH (⟨trivial, rfl, hF⟩) (Nat.le_of_ble_eq_true rfl) (Nat.le_of_ble_eq_true rfl) dX9_bill_183
    · skip
      refine lv_tableIn (off := 159) (tgt := 184) hx hb dX9_bill_25 (by omega) (by omega) (by rw [cq7_]; rfl) (by decide) ?_
      refine lv_aload_n hx hb dX9_bill_184 rfl (lv_at hl 0 rfl) ?_
      refine tgr hC hK hH flX9_209 t_qq6_ rfl rfl dX9_bill_185 (fun qq28_ t_qq28_ => ?_)
      refine tg hC hK hH flX9_213 t_qq28_ rfl rfl dX9_bill_188 (fun xq29_ l_xq29_ g_xq29_ => ?_)
      exact ret_i hC hr hlk hK hH (⟨trivial, rfl, hF⟩) (Nat.le_of_ble_eq_true rfl) (Nat.le_of_ble_eq_true rfl) dX9_bill_191
    · skip
      refine lv_tableIn (off := 167) (tgt := 192) hx hb dX9_bill_25 (by omega) (by omega) (by rw [cq7_]; rfl) (by decide) ?_
      refine lv_aload_n hx hb dX9_bill_192 rfl (lv_at hl 0 rfl) ?_
      refine tgr hC hK hH flX9_209 t_qq6_ rfl rfl dX9_bill_193 (fun qq30_ t_qq30_ => ?_)
      refine tg hC hK hH flX9_218 t_qq30_ rfl rfl dX9_bill_196 (fun xq31_ l_xq31_ g_xq31_ => ?_)
      exact ret_i hC hr hlk hK hH (⟨trivial, rfl, hF⟩) (Nat.le_of_ble_eq_true rfl) (Nat.le_of_ble_eq_true rfl) dX9_bill_199
    · skip
      refine lv_tableIn (off := 175) (tgt := 200) hx hb dX9_bill_25 (by omega) (by omega) (by rw [cq7_]; rfl) (by decide) ?_
      refine lv_aload_n hx hb dX9_bill_200 rfl (lv_at hl 0 rfl) ?_
      refine tgr hC hK hH flX9_209 t_qq6_ rfl rfl dX9_bill_201 (fun qq32_ t_qq32_ => ?_)
      refine tg hC hK hH flX9_221 t_qq32_ rfl rfl dX9_bill_204 (fun xq33_ l_xq33_ g_xq33_ => ?_)
      exact ret_i hC hr hlk hK hH (⟨trivial, rfl, hF⟩) (Nat.le_of_ble_eq_true rfl) (Nat.le_of_ble_eq_true rfl) dX9_bill_207
    · skip
      refine lv_tableIn (off := 183) (tgt := 208) hx hb dX9_bill_25 (by omega) (by omega) (by rw [cq7_]; rfl) (by decide) ?_
      refine lv_aload_n hx hb dX9_bill_208 rfl (lv_at hl 0 rfl) ?_
      refine tgr hC hK hH flX9_209 t_qq6_ rfl rfl dX9_bill_209 (fun qq34_ t_qq34_ => ?_)
      refine tg hC hK hH flX9_224 t_qq34_ rfl rfl dX9_bill_212 (fun xq35_ l_xq35_ g_xq35_ => ?_)
      exact ret_i hC hr hlk hK hH (⟨trivial, rfl, hF⟩) (Nat.le_of_ble_eq_true rfl) (Nat.le_of_ble_eq_true rfl) dX9_bill_215
    · skip
      refine lv_tableIn (off := 191) (tgt := 216) hx hb dX9_bill_25 (by omega) (by omega) (by rw [cq7_]; rfl) (by decide) ?_
      refine lv_aload_n hx hb dX9_bill_216 rfl (lv_at hl 0 rfl) ?_
      refine tgr hC hK hH flX9_209 t_qq6_ rfl rfl dX9_bill_217 (fun qq36_ t_qq36_ => ?_)
      refine tg hC hK hH flX9_227 t_qq36_ rfl rfl dX9_bill_220 (fun xq37_ l_xq37_ g_xq37_ => ?_)
      have l_xq37_ : (0 : Int) ≤ xq37_.toInt := l_xq37_
      have g_xq37_ : xq37_.toInt ≤ 1 := g_xq37_
      refine goI hK hH (runS (As := [.int xq37_]) (rest := []) hC hK hH (c_X9_bit) mlX9_190 ⟨⟨Nat.le_of_ble_eq_true rfl, Nat.le_of_ble_eq_true rfl⟩, Nat.le_of_ble_eq_true rfl, Nat.le_of_ble_eq_true rfl⟩ rfl hl.1 rfl (Nat.le_of_ble_eq_true rfl) dX9_bill_223) (fun rq40_ Mq38_ Tq39_ Hq_ lcq_ hP hz hH => ?_)
      try dsimp only at hP
      obtain ⟨(er_rq40_ | er_rq40_), eT, eM⟩ := hP
      · skip
        have eT := eT.symm; subst eT
        have er_rq40_ := er_rq40_.symm; subst er_rq40_
        have eM := eM.symm; subst eM
        exact ret_i hC hr hlk hK hH (⟨trivial, rfl, hF⟩) (Nat.le_of_ble_eq_true rfl) (Nat.le_of_ble_eq_true rfl) dX9_bill_226
      · skip
        have eT := eT.symm; subst eT
        have er_rq40_ := er_rq40_.symm; subst er_rq40_
        have eM := eM.symm; subst eM
        exact ret_i hC hr hlk hK hH (⟨trivial, rfl, hF⟩) (Nat.le_of_ble_eq_true rfl) (Nat.le_of_ble_eq_true rfl) dX9_bill_226
    · skip
      refine lv_tableIn (off := 202) (tgt := 227) hx hb dX9_bill_25 (by omega) (by omega) (by rw [cq7_]; rfl) (by decide) ?_
      refine lv_aload_n hx hb dX9_bill_227 rfl (lv_at hl 0 rfl) ?_
      refine tgr hC hK hH flX9_209 t_qq6_ rfl rfl dX9_bill_228 (fun qq41_ t_qq41_ => ?_)
      refine tg hC hK hH flX9_230 t_qq41_ rfl rfl dX9_bill_231 (fun xq42_ l_xq42_ g_xq42_ => ?_)
      exact ret_i hC hr hlk hK hH (⟨trivial, rfl, hF⟩) (Nat.le_of_ble_eq_true rfl) (Nat.le_of_ble_eq_true rfl) dX9_bill_234
    · skip
      refine lv_tableIn (off := 210) (tgt := 235) hx hb dX9_bill_25 (by omega) (by omega) (by rw [cq7_]; rfl) (by decide) ?_
      refine lv_aload_n hx hb dX9_bill_235 rfl (lv_at hl 0 rfl) ?_
      refine goI hK hH (runV (As := []) (rest := []) hC hK hH (c_X1_hasTitle t_qq6_) mlX9_233 (rcvT hK hH t_qq6_ rfl rfl) ⟨⟨Nat.le_of_ble_eq_true rfl, Nat.le_of_ble_eq_true rfl⟩, Nat.le_of_ble_eq_true rfl, Nat.le_of_ble_eq_true rfl⟩ rfl hl.1 rfl (Nat.le_of_ble_eq_true rfl) dX9_bill_236) (fun rq45_ Mq43_ Tq44_ Hq_ lcq_ hP hz hH => ?_)
      try dsimp only at hP
      obtain ⟨(er_rq45_ | er_rq45_), eT, eM⟩ := hP
      · skip
        have eT := eT.symm; subst eT
        have er_rq45_ := er_rq45_.symm; subst er_rq45_
        have eM := eM.symm; subst eM
        refine goI hK hH (runS (As := [.int 1]) (rest := []) hC hK hH (c_X9_bit) mlX9_190 ⟨⟨Nat.le_of_ble_eq_true rfl, Nat.le_of_ble_eq_true rfl⟩, Nat.le_of_ble_eq_true rfl, Nat.le_of_ble_eq_true rfl⟩ rfl hl.1 rfl (Nat.le_of_ble_eq_true rfl) dX9_bill_239) (fun rq48_ Mq46_ Tq47_ Hq_ lcq_ hP hz hH => ?_)
        try dsimp only at hP
        obtain ⟨(er_rq48_ | er_rq48_), eT, eM⟩ := hP
        · skip
          have eT := eT.symm; subst eT
          have er_rq48_ := er_rq48_.symm; subst er_rq48_
          have eM := eM.symm; subst eM
          exact ret_i hC hr hlk hK hH (⟨trivial, rfl, hF⟩) (Nat.le_of_ble_eq_true rfl) (Nat.le_of_ble_eq_true rfl) dX9_bill_242
        · skip
          have eT := eT.symm; subst eT
          have er_rq48_ := er_rq48_.symm; subst er_rq48_
          have eM := eM.symm; subst eM
          exact ret_i hC hr hlk hK hH (⟨trivial, rfl, hF⟩) (Nat.le_of_ble_eq_true rfl) (Nat.le_of_ble_eq_true rfl) dX9_bill_242
      · skip
        have eT := eT.symm; subst eT
        have er_rq45_ := er_rq45_.symm; subst er_rq45_
        have eM := eM.symm; subst eM
        refine goI hK hH (runS (As := [.int 0]) (rest := []) hC hK hH (c_X9_bit) mlX9_190 ⟨⟨Nat.le_of_ble_eq_true rfl, Nat.le_of_ble_eq_true rfl⟩, Nat.le_of_ble_eq_true rfl, Nat.le_of_ble_eq_true rfl⟩ rfl hl.1 rfl (Nat.le_of_ble_eq_true rfl) dX9_bill_239) (fun rq51_ Mq49_ Tq50_ Hq_ lcq_ hP hz hH => ?_)
        try dsimp only at hP
        obtain ⟨(er_rq51_ | er_rq51_), eT, eM⟩ := hP
        · skip
          have eT := eT.symm; subst eT
          have er_rq51_ := er_rq51_.symm; subst er_rq51_
          have eM := eM.symm; subst eM
          exact ret_i hC hr hlk hK hH (⟨trivial, rfl, hF⟩) (Nat.le_of_ble_eq_true rfl) (Nat.le_of_ble_eq_true rfl) dX9_bill_242
        · skip
          have eT := eT.symm; subst eT
          have er_rq51_ := er_rq51_.symm; subst er_rq51_
          have eM := eM.symm; subst eM
          exact ret_i hC hr hlk hK hH (⟨trivial, rfl, hF⟩) (Nat.le_of_ble_eq_true rfl) (Nat.le_of_ble_eq_true rfl) dX9_bill_242
    · skip
      refine lv_tableIn (off := 218) (tgt := 243) hx hb dX9_bill_25 (by omega) (by omega) (by rw [cq7_]; rfl) (by decide) ?_
      refine lv_aload_n hx hb dX9_bill_243 rfl (lv_at hl 0 rfl) ?_
      refine goI hK hH (runV (As := []) (rest := []) hC hK hH (c_X1_rank t_qq6_) mlX9_236 (rcvT hK hH t_qq6_ rfl rfl) ⟨⟨Nat.le_of_ble_eq_true rfl, Nat.le_of_ble_eq_true rfl⟩, Nat.le_of_ble_eq_true rfl, Nat.le_of_ble_eq_true rfl⟩ rfl hl.1 rfl (Nat.le_of_ble_eq_true rfl) dX9_bill_244) (fun rq54_ Mq52_ Tq53_ Hq_ lcq_ hP hz hH => ?_)
      try dsimp only at hP
      obtain ⟨(⟨l_rq54_, g_rq54_⟩), eT, eM⟩ := hP
      have eT := eT.symm; subst eT
      have eM := eM.symm; subst eM
      exact ret_i hC hr hlk hK hH (⟨trivial, rfl, hF⟩) (Nat.le_of_ble_eq_true rfl) (Nat.le_of_ble_eq_true rfl) dX9_bill_247
    · skip
      refine lv_tableIn (off := 223) (tgt := 248) hx hb dX9_bill_25 (by omega) (by omega) (by rw [cq7_]; rfl) (by decide) ?_
      refine lv_aload_n hx hb dX9_bill_248 rfl (lv_at hl 1 rfl) ?_
      refine xg hC hK hH flX9_37 hc_ro rfl dX9_bill_249 ?_
      refine lv_aload_n hx hb dX9_bill_252 rfl (lv_at hl 0 rfl) ?_
      refine goI hK hH (runV (As := [.ref qq6_]) (rest := []) hC hK hH (c_X3_fewest ht_cu t_qq6_) mlX9_239 (rcvT hK hH ht_cu rfl rfl) ⟨⟨Nat.le_of_ble_eq_true rfl, Nat.le_of_ble_eq_true rfl⟩, Nat.le_of_ble_eq_true rfl, Nat.le_of_ble_eq_true rfl⟩ rfl hl.1 rfl (Nat.le_of_ble_eq_true rfl) dX9_bill_253) (fun rq57_ Mq55_ Tq56_ Hq_ lcq_ hP hz hH => ?_)
      try dsimp only at hP
      obtain ⟨(-), eT, hfr⟩ := hP
      have eT := eT.symm; subst eT
      have hc_ro : Mq55_ ro = some (.inr (7, [.ref w, .ref im, .ref rd, .ref rc, .ref cu])) := (hfr ro (Or.inl hn_ro) ).trans hc_ro
      have hc_w : Mq55_ w = some (.inr (6, [.int td, .int gd, .int bc, .int py, .int rf, .int lt, .int tl, .int fp, .ref cs, .ref bs, .ref tp])) := (hfr w (Or.inl hn_w) ).trans hc_w
      have hc_bs : Mq55_ bs = some (.inl (kA 5, 4, .inr (.inr (.inr (.inr g))))) := (hfr bs (Or.inr (Or.inl ht_bs)) ).trans hc_bs
      have hF : ∀ q, FrK T q → Mq55_ q = M q := fun q hq  => (hfr q hq ).trans (hF q hq )
      exact ret_i hC hr hlk hK hH (⟨trivial, rfl, hF⟩) (Nat.le_of_ble_eq_true rfl) (Nat.le_of_ble_eq_true rfl) dX9_bill_256
  · skip
    have eT := eT.symm; subst eT
    have er_rq3_ := er_rq3_.symm; subst er_rq3_
    have eM := eM.symm; subst eM
    refine jif_ne (tgt := 14) hx hb dX9_bill_8 (by decide) (fun cq58_ => absurd cq58_ (by decide)) (fun cq58_ => ?_)
    refine lv_bipush (v := -2) hx hb dX9_bill_11 (by decide) ?_
    exact ret_i hC hr hlk hK hH (⟨trivial, rfl, hF⟩) (Nat.le_of_ble_eq_true rfl) (Nat.le_of_ble_eq_true rfl) dX9_bill_13
