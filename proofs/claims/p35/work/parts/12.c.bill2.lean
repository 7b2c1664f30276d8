theorem mxX2_42 : MXL RX2 42 := ⟨TB_t 700 (by decide +kernel) rfl, TB_t 701 (by decide +kernel) rfl, TB_t 12 (by decide +kernel) rfl, TB_t 702 (by decide +kernel) rfl⟩
theorem mmX1_197 : MML RX1 197 := ⟨TB_t 695 (by decide +kernel) rfl, TB_t 415 (by decide +kernel) rfl, TB_t 12 (by decide +kernel) rfl, TB_t 416 (by decide +kernel) rfl⟩
theorem cpX1_90 : CPL RX1 90 := ⟨TB_t 897 (by decide +kernel) rfl, TB_t 562 (by decide +kernel) rfl, TB_t 561 (by decide +kernel) rfl, TB_t 19 (by decide +kernel) rfl⟩
set_option maxHeartbeats 4000000 in
set_option maxRecDepth 100000 in
theorem c_X2_takeUp {l : Launch} {D : va_G} {kA : Nat → ClassId} {M : mM} {T : mT} {sz : Nat} {h : Nat} {ps : Int32} (ht_h : T h = some 1) (hps : 0 ≤ ps.toInt ∧ ps.toInt ≤ 7) : mCv l yX2_takeUp cX2_takeUp 2 1 0 0 D kA M T sz [.ref h, .int ps] (fun u => (True) ∧ u.2 = T ∧ (∀ q, FrK T q → u.1 q = M q)) := by
  unfold mCv
  refine start_W (by decide) (Nat.le_of_ble_eq_true rfl) ?_
  intro p e s m below meth c ls hC hr hlk hnm hK hH hsz hl
  have hx := hC.1
  have hb := hC.2.1
  have hl : lv_has ls 2 [(0, .ref h), (1, .int ps)] := hl
  have hF : ∀ q, FrK T q → M q = M q := fun q _  => rfl
  refine lv_aload_n hx hb dX2_takeUp_0 rfl (lv_at hl 0 rfl) ?_
  refine lv_iconst (v := 0) hx hb dX2_takeUp_1 (by decide) ?_
  refine tpu hC hK hH flX2_15 ht_h rfl rfl (iRg _).1 (iRg _).2 rfl rfl dX2_takeUp_2 (fun Hq_ lcq_ Mq1_ _ hfr hH => ?_)
  have hF : ∀ q, FrK T q → Mq1_ q = M q := fun q hq  => (hfr q (neF hq ht_h (by decide))).trans (hF q hq )
  refine lv_aload_n hx hb dX2_takeUp_5 rfl (lv_at hl 0 rfl) ?_
  refine lv_iload_n hx hb dX2_takeUp_6 rfl (lv_at hl 1 rfl) ?_
  refine tpu hC hK hH flX2_19 ht_h rfl rfl (iRg _).1 (iRg _).2 rfl rfl dX2_takeUp_7 (fun Hq_ lcq_ Mq2_ _ hfr hH => ?_)
  have hF : ∀ q, FrK T q → Mq2_ q = M q := fun q hq  => (hfr q (neF hq ht_h (by decide))).trans (hF q hq )
  refine lv_aload_n hx hb dX2_takeUp_10 rfl (lv_at hl 0 rfl) ?_
  refine lv_iconst (v := -1) hx hb dX2_takeUp_11 (by decide) ?_
  refine tpu hC hK hH flX2_22 ht_h rfl rfl (iRg _).1 (iRg _).2 rfl rfl dX2_takeUp_12 (fun Hq_ lcq_ Mq3_ _ hfr hH => ?_)
  have hF : ∀ q, FrK T q → Mq3_ q = M q := fun q hq  => (hfr q (neF hq ht_h (by decide))).trans (hF q hq )
  refine lv_aload_n hx hb dX2_takeUp_15 rfl (lv_at hl 0 rfl) ?_
  refine lv_iconst (v := 0) hx hb dX2_takeUp_16 (by decide) ?_
  refine tpu hC hK hH flX2_25 ht_h rfl rfl (iRg _).1 (iRg _).2 rfl rfl dX2_takeUp_17 (fun Hq_ lcq_ Mq4_ _ hfr hH => ?_)
  have hF : ∀ q, FrK T q → Mq4_ q = M q := fun q hq  => (hfr q (neF hq ht_h (by decide))).trans (hF q hq )
  refine lv_aload_n hx hb dX2_takeUp_20 rfl (lv_at hl 0 rfl) ?_
  refine lv_iconst (v := 0) hx hb dX2_takeUp_21 (by decide) ?_
  refine tpu hC hK hH flX2_28 ht_h rfl rfl (by decide) (by decide) rfl rfl dX2_takeUp_22 (fun Hq_ lcq_ Mq5_ _ hfr hH => ?_)
  have hF : ∀ q, FrK T q → Mq5_ q = M q := fun q hq  => (hfr q (neF hq ht_h (by decide))).trans (hF q hq )
  refine lv_aload_n hx hb dX2_takeUp_25 rfl (lv_at hl 0 rfl) ?_
  refine lv_iload_n hx hb dX2_takeUp_26 rfl (lv_at hl 1 rfl) ?_
  refine lv_iconst (v := 1) hx hb dX2_takeUp_27 (by decide) ?_
  refine lv_aload_n hx hb dX2_takeUp_28 rfl (lv_at hl 0 rfl) ?_
  refine tgr hC hK hH flX2_9 ht_h rfl rfl dX2_takeUp_29 (fun qq6_ t_qq6_ => ?_)
  refine lv_iload_n hx hb dX2_takeUp_32 rfl (lv_at hl 1 rfl) ?_
  refine tild hC hK hH t_qq6_ rfl (iIn (by omega) (by omega)) dX2_takeUp_33 (fun xq7_ l_xq7_ g_xq7_ => ?_)
  refine xmax hC hl.1 mxX2_42 (Nat.le_of_ble_eq_true rfl) (Nat.le_of_ble_eq_true rfl) (Nat.le_of_ble_eq_true rfl) (Nat.le_of_ble_eq_true rfl) dX2_takeUp_34 ?_
  refine lv_topi (fun zq8_ e_zq8_ => ?_)
  refine goV hK hH (runV (As := [.int ps, .int zq8_]) (rest := []) hC hK hH (c_X2_own ht_h (by omega)) mlX2_38 (rcvT hK hH ht_h rfl rfl) ⟨⟨Nat.le_of_ble_eq_true rfl, Nat.le_of_ble_eq_true rfl⟩, Nat.le_of_ble_eq_true rfl, Nat.le_of_ble_eq_true rfl⟩ rfl hl.1 rfl (Nat.le_of_ble_eq_true rfl) dX2_takeUp_37) (fun Mq9_ Tq10_ Hq_ lcq_ hP hz hH => ?_)
  try dsimp only at hP
  obtain ⟨(-), eT, hfr⟩ := hP
  have eT := eT.symm; subst eT
  have hF : ∀ q, FrK T q → Mq9_ q = M q := fun q hq  => (hfr q hq ).trans (hF q hq )
  exact ret_v hC hr hlk hK hH (⟨trivial, rfl, hF⟩) (Nat.le_of_ble_eq_true rfl) (Nat.le_of_ble_eq_true rfl) dX2_takeUp_40
set_option maxHeartbeats 4000000 in
set_option maxRecDepth 100000 in
theorem c_X1_settle {l : Launch} {D : va_G} {kA : Nat → ClassId} {M : mM} {T : mT} {sz : Nat} {h cs : Nat} {pt : Int32} (ht_h : T h = some 2) (ht_cs : T cs = some 3) (h_pt : 0 ≤ pt.toInt ∧ pt.toInt ≤ 13) : mCv l yX1_settle cX1_settle 4 3 0 0 D kA M T sz [.ref h, .int pt, .ref cs] (fun u => (True) ∧ u.2 = T ∧ (∀ q, FrA T q → u.1 q = M q)) := by
  unfold mCv
  refine start_W (by decide) (Nat.le_of_ble_eq_true rfl) ?_
  intro p e s m below meth c ls hC hr hlk hnm hK hH hsz hl
  have hx := hC.1
  have hb := hC.2.1
  have hl : lv_has ls 4 [(0, .ref h), (1, .int pt), (2, .ref cs)] := hl
  have hF : ∀ q, FrA T q → M q = M q := fun q _  => rfl
  refine lv_aload_n hx hb dX1_settle_0 rfl (lv_at hl 0 rfl) ?_
  refine lv_iload_n hx hb dX1_settle_1 rfl (lv_at hl 1 rfl) ?_
  refine goI hK hH (runV (As := [.int pt]) (rest := []) hC hK hH (c_X1_who ht_h) mlX1_117 (rcvT hK hH ht_h rfl rfl) ⟨⟨Nat.le_of_ble_eq_true rfl, Nat.le_of_ble_eq_true rfl⟩, Nat.le_of_ble_eq_true rfl, Nat.le_of_ble_eq_true rfl⟩ rfl hl.1 rfl (Nat.le_of_ble_eq_true rfl) dX1_settle_2) (fun rq3_ Mq1_ Tq2_ Hq_ lcq_ hP hz hH => ?_)
  try dsimp only at hP
  obtain ⟨(-), eT, eM⟩ := hP
  have eT := eT.symm; subst eT
  have eM := eM.symm; subst eM
  refine lv_istore_n (lv' := [(3, .int rq3_), (0, .ref h), (1, .int pt), (2, .ref cs)]) hx hb dX1_settle_5 rfl hl (by decide) rfl (fun ls hl => ?_)
  refine lv_iload_n hx hb dX1_settle_6 rfl (lv_at hl 0 rfl) ?_
  refine goI hK hH (runSN (As := [.int rq3_]) (rest := []) hC hK hH (c_X9_isPerson) mlX1_190 ⟨⟨Nat.le_of_ble_eq_true rfl, Nat.le_of_ble_eq_true rfl⟩, Nat.le_of_ble_eq_true rfl, Nat.le_of_ble_eq_true rfl⟩ rfl hl.1 rfl (Nat.le_of_ble_eq_true rfl) dX1_settle_7) (fun rq6_ Mq4_ Tq5_ Hq_ lcq_ hP hz hH => ?_)
  try dsimp only at hP
  obtain ⟨(⟨cq7_, er_rq6_⟩ | ⟨cq8_, er_rq6_⟩), eT, eM⟩ := hP
  · skip
    have eT := eT.symm; subst eT
    have er_rq6_ := er_rq6_.symm; subst er_rq6_
    have eM := eM.symm; subst eM
    have cq7_ : 0 ≤ rq3_.toInt ∧ rq3_.toInt ≤ 7 := cq7_
    refine jif_ne (tgt := 14) hx hb dX1_settle_10 (by decide) (fun cq9_ => ?_) (fun cq9_ => absurd cq9_ (by decide))
    refine lv_aload_n hx hb dX1_settle_14 rfl (lv_at hl 3 rfl) ?_
    refine lv_iload_n hx hb dX1_settle_15 rfl (lv_at hl 0 rfl) ?_
    refine lv_dup2_11 hx hb dX1_settle_16 rfl rfl ?_
    refine tild hC hK hH ht_cs rfl (iIn (by omega) (by omega)) dX1_settle_17 (fun xq10_ l_xq10_ g_xq10_ => ?_)
    refine lv_aload_n hx hb dX1_settle_18 rfl (lv_at hl 1 rfl) ?_
    refine tg hC hK hH flX1_81 ht_h rfl rfl dX1_settle_19 (fun xq11_ l_xq11_ g_xq11_ => ?_)
    refine lv_isub hx hb dX1_settle_22 ?_
    refine lv_topi (fun zq12_ e_zq12_ => ?_)
    refine tist (x := zq12_) hC hK hH ht_cs rfl (iIn (by omega) (by omega)) (iRg _).1 (iRg _).2 dX1_settle_23 (fun Hq_ lcq_ Mq13_ _ hfr hH => ?_)
    have hF : ∀ q, FrA T q → Mq13_ q = M q := fun q hq  => (hfr q (neA hq ht_cs (by decide))).trans (hF q hq )
    refine lv_aload_n hx hb dX1_settle_24 rfl (lv_at hl 3 rfl) ?_
    refine lv_aload_n hx hb dX1_settle_25 rfl (lv_at hl 1 rfl) ?_
    refine tg hC hK hH flX1_55 ht_h rfl rfl dX1_settle_26 (fun xq14_ l_xq14_ g_xq14_ => ?_)
    have l_xq14_ : (0 : Int) ≤ xq14_.toInt := l_xq14_
    have g_xq14_ : xq14_.toInt ≤ 7 := g_xq14_
    refine lv_sipush (v := 9999) hx hb dX1_settle_29 (by decide) ?_
    refine lv_aload_n hx hb dX1_settle_32 rfl (lv_at hl 3 rfl) ?_
    refine lv_aload_n hx hb dX1_settle_33 rfl (lv_at hl 1 rfl) ?_
    refine tg hC hK hH flX1_55 ht_h rfl rfl dX1_settle_34 (fun xq15_ l_xq15_ g_xq15_ => ?_)
    have l_xq15_ : (0 : Int) ≤ xq15_.toInt := l_xq15_
    have g_xq15_ : xq15_.toInt ≤ 7 := g_xq15_
    refine tild hC hK hH ht_cs rfl (iIn (by omega) (by omega)) dX1_settle_37 (fun xq16_ l_xq16_ g_xq16_ => ?_)
    refine lv_aload_n hx hb dX1_settle_38 rfl (lv_at hl 1 rfl) ?_
    refine tg hC hK hH flX1_81 ht_h rfl rfl dX1_settle_39 (fun xq17_ l_xq17_ g_xq17_ => ?_)
    refine lv_iadd hx hb dX1_settle_42 ?_
    refine lv_topi (fun zq18_ e_zq18_ => ?_)
    refine xmin hC hl.1 mmX1_197 (Nat.le_of_ble_eq_true rfl) (Nat.le_of_ble_eq_true rfl) (Nat.le_of_ble_eq_true rfl) (Nat.le_of_ble_eq_true rfl) dX1_settle_43 ?_
    refine lv_topi (fun zq19_ e_zq19_ => ?_)
    refine tist (x := zq19_) hC hK hH ht_cs rfl (iIn (by omega) (by omega)) (iRg _).1 (iRg _).2 dX1_settle_46 (fun Hq_ lcq_ Mq20_ _ hfr hH => ?_)
    have hF : ∀ q, FrA T q → Mq20_ q = M q := fun q hq  => (hfr q (neA hq ht_cs (by decide))).trans (hF q hq )
    refine lv_iload_n hx hb dX1_settle_47 rfl (lv_at hl 2 rfl) ?_
    refine jif_ne (tgt := 57) hx hb dX1_settle_48 (by decide) (fun cq21_ => ?_) (fun cq21_ => ?_)
    · skip
      have cq21_ : pt.toInt ≠ 0 := cq21_
      refine lv_aload_n hx hb dX1_settle_57 rfl (lv_at hl 1 rfl) ?_
      refine lv_iload_n hx hb dX1_settle_58 rfl (lv_at hl 0 rfl) ?_
      obtain ⟨Mq22_, fsq23_, hc_h, hfr, ho_h, hH⟩ := hH.unt ht_h rfl
      obtain ⟨xq24_, hl_xq24_, xq25_, hl_xq25_, xq26_, hl_xq26_, xq27_, hl_xq27_, xq28_, hl_xq28_, xq29_, hl_xq29_, xq30_, hl_xq30_, xq31_, hl_xq31_, xq32_, hl_xq32_, xq33_, hl_xq33_, xq34_, hl_xq34_, xq35_, hl_xq35_, qq36_, hl_qq36_, qq37_, hl_qq37_, qq38_, hl_qq38_, qq39_, hl_qq39_, qq40_, hl_qq40_, qq41_, hl_qq41_, qq42_, hl_qq42_, e_fsq23_⟩ := op2  ho_h
      subst e_fsq23_
      have l_xq24_ : (-2147483648 : Int) ≤ xq24_.toInt := hl_xq24_.1
      have g_xq24_ : xq24_.toInt ≤ 2147483647 := hl_xq24_.2
      have l_xq25_ : (-2147483648 : Int) ≤ xq25_.toInt := hl_xq25_.1
      have g_xq25_ : xq25_.toInt ≤ 2147483647 := hl_xq25_.2
      have l_xq26_ : (-2147483648 : Int) ≤ xq26_.toInt := hl_xq26_.1
      have g_xq26_ : xq26_.toInt ≤ 2147483647 := hl_xq26_.2
      have l_xq27_ : (-2147483648 : Int) ≤ xq27_.toInt := hl_xq27_.1
      have g_xq27_ : xq27_.toInt ≤ 2147483647 := hl_xq27_.2
      have l_xq28_ : (-2147483648 : Int) ≤ xq28_.toInt := hl_xq28_.1
      have g_xq28_ : xq28_.toInt ≤ 2147483647 := hl_xq28_.2
      have l_xq29_ : (0 : Int) ≤ xq29_.toInt := hl_xq29_.1
      have g_xq29_ : xq29_.toInt ≤ 7 := hl_xq29_.2
      have l_xq30_ : (-2147483648 : Int) ≤ xq30_.toInt := hl_xq30_.1
      have g_xq30_ : xq30_.toInt ≤ 2147483647 := hl_xq30_.2
      have l_xq31_ : (0 : Int) ≤ xq31_.toInt := hl_xq31_.1
      have g_xq31_ : xq31_.toInt ≤ 12 := hl_xq31_.2
      have l_xq32_ : (0 : Int) ≤ xq32_.toInt := hl_xq32_.1
      have g_xq32_ : xq32_.toInt ≤ 12 := hl_xq32_.2
      have l_xq33_ : (0 : Int) ≤ xq33_.toInt := hl_xq33_.1
      have g_xq33_ : xq33_.toInt ≤ 1 := hl_xq33_.2
      have l_xq34_ : (0 : Int) ≤ xq34_.toInt := hl_xq34_.1
      have g_xq34_ : xq34_.toInt ≤ 1 := hl_xq34_.2
      have l_xq35_ : (0 : Int) ≤ xq35_.toInt := hl_xq35_.1
      have g_xq35_ : xq35_.toInt ≤ 1 := hl_xq35_.2
      have t_qq36_ := hl_qq36_
      have t_qq37_ := hl_qq37_
      have t_qq38_ := hl_qq38_
      have t_qq39_ := hl_qq39_
      have t_qq40_ := hl_qq40_
      have t_qq41_ := hl_qq41_
      have t_qq42_ := hl_qq42_
      have hc_h : Mq22_ h = some (.inr (0, [.int xq24_, .int xq25_, .int xq26_, .int xq27_, .int xq28_, .int xq29_, .int xq30_, .int xq31_, .int xq32_, .int xq33_, .int xq34_, .int xq35_, .ref qq36_, .ref qq37_, .ref qq38_, .ref qq39_, .ref qq40_, .ref qq41_, .ref qq42_])) := hc_h
      have hF : ∀ q, FrA T q → Mq22_ q = M q := fun q hq  => (hfr q (neA hq ht_h (by decide))).trans (hF q hq )
      refine yp (v := .int rq3_) hC hK hH flX1_55 hc_h (hasT ht_h (conf_set rfl ho_h (show (_ : List fS)[5]? = some _ from rfl) (okI (by show (0 : Int) ≤ rq3_.toInt; omega) (by show rq3_.toInt ≤ (7 : Int); omega)))) rfl rfl (Nat.le_of_ble_eq_true rfl) dX1_settle_59 (fun Hq_ lcq_ Mq43_ hc_h hfr hH => ?_)
      have ho_h : conf kA T 2 (.inr (0, [.int xq24_, .int xq25_, .int xq26_, .int xq27_, .int xq28_, .int rq3_, .int xq30_, .int xq31_, .int xq32_, .int xq33_, .int xq34_, .int xq35_, .ref qq36_, .ref qq37_, .ref qq38_, .ref qq39_, .ref qq40_, .ref qq41_, .ref qq42_])) := conf_set rfl ho_h (show (_ : List fS)[5]? = some _ from rfl) (okI (by show (0 : Int) ≤ rq3_.toInt; omega) (by show rq3_.toInt ≤ (7 : Int); omega))
      have hc_h : Mq43_ h = some (.inr (0, [.int xq24_, .int xq25_, .int xq26_, .int xq27_, .int xq28_, .int rq3_, .int xq30_, .int xq31_, .int xq32_, .int xq33_, .int xq34_, .int xq35_, .ref qq36_, .ref qq37_, .ref qq38_, .ref qq39_, .ref qq40_, .ref qq41_, .ref qq42_])) := hc_h
      have hF : ∀ q, FrA T q → Mq43_ q = M q := fun q hq  => (hfr q (neA hq ht_h (by decide))).trans (hF q hq )
      refine lv_aload_n hx hb dX1_settle_62 rfl (lv_at hl 1 rfl) ?_
      refine xg hC hK hH flX1_20 hc_h rfl dX1_settle_63 ?_
      refine lv_iload_n hx hb dX1_settle_66 rfl (lv_at hl 0 rfl) ?_
      refine goV hK hH (runV (As := [.int rq3_]) (rest := []) hC hK hH (c_X2_takeUp t_qq37_ (by omega)) mlX1_200 (rcvT hK hH t_qq37_ rfl rfl) ⟨⟨Nat.le_of_ble_eq_true rfl, Nat.le_of_ble_eq_true rfl⟩, Nat.le_of_ble_eq_true rfl, Nat.le_of_ble_eq_true rfl⟩ rfl hl.1 rfl (Nat.le_of_ble_eq_true rfl) dX1_settle_67) (fun Mq44_ Tq45_ Hq_ lcq_ hP hz hH => ?_)
      try dsimp only at hP
      obtain ⟨(-), eT, hfr⟩ := hP
      have eT := eT.symm; subst eT
      have hc_h : Mq44_ h = some (.inr (0, [.int xq24_, .int xq25_, .int xq26_, .int xq27_, .int xq28_, .int rq3_, .int xq30_, .int xq31_, .int xq32_, .int xq33_, .int xq34_, .int xq35_, .ref qq36_, .ref qq37_, .ref qq38_, .ref qq39_, .ref qq40_, .ref qq41_, .ref qq42_])) := (hfr h (Or.inr (Or.inr ht_h)) ).trans hc_h
      have hF : ∀ q, FrA T q → Mq44_ q = M q := fun q hq  => (hfr q (FrA.k hq) ).trans (hF q hq )
      refine lv_aload_n hx hb dX1_settle_70 rfl (lv_at hl 1 rfl) ?_
      refine xg hC hK hH flX1_24 hc_h rfl dX1_settle_71 ?_
      refine lv_aload_n hx hb dX1_settle_74 rfl (lv_at hl 1 rfl) ?_
      refine xg hC hK hH flX1_20 hc_h rfl dX1_settle_75 ?_
      refine goV hK hH (runV (As := [.ref qq37_]) (rest := []) hC hK hH (c_X2_copy t_qq38_ t_qq37_) mlX1_77 (rcvT hK hH t_qq38_ rfl rfl) ⟨⟨Nat.le_of_ble_eq_true rfl, Nat.le_of_ble_eq_true rfl⟩, Nat.le_of_ble_eq_true rfl, Nat.le_of_ble_eq_true rfl⟩ rfl hl.1 rfl (Nat.le_of_ble_eq_true rfl) dX1_settle_78) (fun Mq47_ Tq48_ Hq_ lcq_ hP hz hH => ?_)
      try dsimp only at hP
      obtain ⟨(-), eT, hfr⟩ := hP
      have eT := eT.symm; subst eT
      have hc_h : Mq47_ h = some (.inr (0, [.int xq24_, .int xq25_, .int xq26_, .int xq27_, .int xq28_, .int rq3_, .int xq30_, .int xq31_, .int xq32_, .int xq33_, .int xq34_, .int xq35_, .ref qq36_, .ref qq37_, .ref qq38_, .ref qq39_, .ref qq40_, .ref qq41_, .ref qq42_])) := (hfr h (Or.inr (Or.inr ht_h)) ).trans hc_h
      have hF : ∀ q, FrA T q → Mq47_ q = M q := fun q hq  => (hfr q (FrA.k hq) ).trans (hF q hq )
      refine lv_aload_n hx hb dX1_settle_81 rfl (lv_at hl 1 rfl) ?_
      refine lv_aload_n hx hb dX1_settle_82 rfl (lv_at hl 1 rfl) ?_
      refine xg hC hK hH flX1_61 hc_h rfl dX1_settle_83 ?_
      refine yp (v := .int xq31_) hC hK hH flX1_64 hc_h (hasT ht_h (conf_set rfl ho_h (show (_ : List fS)[8]? = some _ from rfl) (okI (by show (0 : Int) ≤ xq31_.toInt; omega) (by show xq31_.toInt ≤ (12 : Int); omega)))) rfl rfl (Nat.le_of_ble_eq_true rfl) dX1_settle_86 (fun Hq_ lcq_ Mq50_ hc_h hfr hH => ?_)
      have ho_h : conf kA T 2 (.inr (0, [.int xq24_, .int xq25_, .int xq26_, .int xq27_, .int xq28_, .int rq3_, .int xq30_, .int xq31_, .int xq31_, .int xq33_, .int xq34_, .int xq35_, .ref qq36_, .ref qq37_, .ref qq38_, .ref qq39_, .ref qq40_, .ref qq41_, .ref qq42_])) := conf_set rfl ho_h (show (_ : List fS)[8]? = some _ from rfl) (okI (by show (0 : Int) ≤ xq31_.toInt; omega) (by show xq31_.toInt ≤ (12 : Int); omega))
      have hc_h : Mq50_ h = some (.inr (0, [.int xq24_, .int xq25_, .int xq26_, .int xq27_, .int xq28_, .int rq3_, .int xq30_, .int xq31_, .int xq31_, .int xq33_, .int xq34_, .int xq35_, .ref qq36_, .ref qq37_, .ref qq38_, .ref qq39_, .ref qq40_, .ref qq41_, .ref qq42_])) := hc_h
      have hF : ∀ q, FrA T q → Mq50_ q = M q := fun q hq  => (hfr q (neA hq ht_h (by decide))).trans (hF q hq )
      refine lv_aload_n hx hb dX1_settle_89 rfl (lv_at hl 1 rfl) ?_
      refine lv_iload_n hx hb dX1_settle_90 rfl (lv_at hl 2 rfl) ?_
      refine lv_bipush (v := 16) hx hb dX1_settle_91 (by decide) ?_
      refine goV hK hH (runV (As := [.int pt, .int 16]) (rest := []) hC hK hH (c_X1_free ht_h (by omega)) mlX1_204 (rcvM hK hH hc_h rfl) ⟨⟨Nat.le_of_ble_eq_true rfl, Nat.le_of_ble_eq_true rfl⟩, Nat.le_of_ble_eq_true rfl, Nat.le_of_ble_eq_true rfl⟩ rfl hl.1 rfl (Nat.le_of_ble_eq_true rfl) dX1_settle_93) (fun Mq51_ Tq52_ Hq_ lcq_ hP hz hH => ?_)
      try dsimp only at hP
      obtain ⟨(-), eT, hfr⟩ := hP
      have eT := eT.symm; subst eT
      have hc_h : Mq51_ h = some (.inr (0, [.int xq24_, .int xq25_, .int xq26_, .int xq27_, .int xq28_, .int rq3_, .int xq30_, .int xq31_, .int xq31_, .int xq33_, .int xq34_, .int xq35_, .ref qq36_, .ref qq37_, .ref qq38_, .ref qq39_, .ref qq40_, .ref qq41_, .ref qq42_])) := (hfr h (Or.inr (Or.inr ht_h)) ).trans hc_h
      have hF : ∀ q, FrA T q → Mq51_ q = M q := fun q hq  => (hfr q (FrA.k hq) ).trans (hF q hq )
      subst e_zq18_
      subst e_zq12_
      exact ret_v hC hr hlk hK hH (⟨trivial, rfl, hF⟩) (Nat.le_of_ble_eq_true rfl) (Nat.le_of_ble_eq_true rfl) dX1_settle_96
    · skip
      have cq21_ : pt.toInt = 0 := cq21_
      refine lv_aload_n hx hb dX1_settle_51 rfl (lv_at hl 1 rfl) ?_
      refine lv_iconst (v := 1) hx hb dX1_settle_52 (by decide) ?_
      obtain ⟨Mq54_, fsq55_, hc_h, hfr, ho_h, hH⟩ := hH.unt ht_h rfl
      obtain ⟨xq56_, hl_xq56_, xq57_, hl_xq57_, xq58_, hl_xq58_, xq59_, hl_xq59_, xq60_, hl_xq60_, xq61_, hl_xq61_, xq62_, hl_xq62_, xq63_, hl_xq63_, xq64_, hl_xq64_, xq65_, hl_xq65_, xq66_, hl_xq66_, xq67_, hl_xq67_, qq68_, hl_qq68_, qq69_, hl_qq69_, qq70_, hl_qq70_, qq71_, hl_qq71_, qq72_, hl_qq72_, qq73_, hl_qq73_, qq74_, hl_qq74_, e_fsq55_⟩ := op2  ho_h
      subst e_fsq55_
      have l_xq56_ : (-2147483648 : Int) ≤ xq56_.toInt := hl_xq56_.1
      have g_xq56_ : xq56_.toInt ≤ 2147483647 := hl_xq56_.2
      have l_xq57_ : (-2147483648 : Int) ≤ xq57_.toInt := hl_xq57_.1
      have g_xq57_ : xq57_.toInt ≤ 2147483647 := hl_xq57_.2
      have l_xq58_ : (-2147483648 : Int) ≤ xq58_.toInt := hl_xq58_.1
      have g_xq58_ : xq58_.toInt ≤ 2147483647 := hl_xq58_.2
      have l_xq59_ : (-2147483648 : Int) ≤ xq59_.toInt := hl_xq59_.1
      have g_xq59_ : xq59_.toInt ≤ 2147483647 := hl_xq59_.2
      have l_xq60_ : (-2147483648 : Int) ≤ xq60_.toInt := hl_xq60_.1
      have g_xq60_ : xq60_.toInt ≤ 2147483647 := hl_xq60_.2
      have l_xq61_ : (0 : Int) ≤ xq61_.toInt := hl_xq61_.1
      have g_xq61_ : xq61_.toInt ≤ 7 := hl_xq61_.2
      have l_xq62_ : (-2147483648 : Int) ≤ xq62_.toInt := hl_xq62_.1
      have g_xq62_ : xq62_.toInt ≤ 2147483647 := hl_xq62_.2
      have l_xq63_ : (0 : Int) ≤ xq63_.toInt := hl_xq63_.1
      have g_xq63_ : xq63_.toInt ≤ 12 := hl_xq63_.2
      have l_xq64_ : (0 : Int) ≤ xq64_.toInt := hl_xq64_.1
      have g_xq64_ : xq64_.toInt ≤ 12 := hl_xq64_.2
      have l_xq65_ : (0 : Int) ≤ xq65_.toInt := hl_xq65_.1
      have g_xq65_ : xq65_.toInt ≤ 1 := hl_xq65_.2
      have l_xq66_ : (0 : Int) ≤ xq66_.toInt := hl_xq66_.1
      have g_xq66_ : xq66_.toInt ≤ 1 := hl_xq66_.2
      have l_xq67_ : (0 : Int) ≤ xq67_.toInt := hl_xq67_.1
      have g_xq67_ : xq67_.toInt ≤ 1 := hl_xq67_.2
      have t_qq68_ := hl_qq68_
      have t_qq69_ := hl_qq69_
      have t_qq70_ := hl_qq70_
      have t_qq71_ := hl_qq71_
      have t_qq72_ := hl_qq72_
      have t_qq73_ := hl_qq73_
      have t_qq74_ := hl_qq74_
      have hc_h : Mq54_ h = some (.inr (0, [.int xq56_, .int xq57_, .int xq58_, .int xq59_, .int xq60_, .int xq61_, .int xq62_, .int xq63_, .int xq64_, .int xq65_, .int xq66_, .int xq67_, .ref qq68_, .ref qq69_, .ref qq70_, .ref qq71_, .ref qq72_, .ref qq73_, .ref qq74_])) := hc_h
      have hF : ∀ q, FrA T q → Mq54_ q = M q := fun q hq  => (hfr q (neA hq ht_h (by decide))).trans (hF q hq )
      refine yp (v := .int 1) hC hK hH flX1_70 hc_h (hasT ht_h (conf_set rfl ho_h (show (_ : List fS)[11]? = some _ from rfl) (okI (by decide) (by decide)))) rfl rfl (Nat.le_of_ble_eq_true rfl) dX1_settle_53 (fun Hq_ lcq_ Mq75_ hc_h hfr hH => ?_)
      have ho_h : conf kA T 2 (.inr (0, [.int xq56_, .int xq57_, .int xq58_, .int xq59_, .int xq60_, .int xq61_, .int xq62_, .int xq63_, .int xq64_, .int xq65_, .int xq66_, .int 1, .ref qq68_, .ref qq69_, .ref qq70_, .ref qq71_, .ref qq72_, .ref qq73_, .ref qq74_])) := conf_set rfl ho_h (show (_ : List fS)[11]? = some _ from rfl) (okI (by decide) (by decide))
      have hc_h : Mq75_ h = some (.inr (0, [.int xq56_, .int xq57_, .int xq58_, .int xq59_, .int xq60_, .int xq61_, .int xq62_, .int xq63_, .int xq64_, .int xq65_, .int xq66_, .int 1, .ref qq68_, .ref qq69_, .ref qq70_, .ref qq71_, .ref qq72_, .ref qq73_, .ref qq74_])) := hc_h
      have hF : ∀ q, FrA T q → Mq75_ q = M q := fun q hq  => (hfr q (neA hq ht_h (by decide))).trans (hF q hq )
      subst e_zq18_
      subst e_zq12_
      exact ret_v hC hr hlk hK hH (⟨trivial, rfl, hF⟩) (Nat.le_of_ble_eq_true rfl) (Nat.le_of_ble_eq_true rfl) dX1_settle_56
  · skip
    have eT := eT.symm; subst eT
    have er_rq6_ := er_rq6_.symm; subst er_rq6_
    have eM := eM.symm; subst eM
    have cq8_ : ¬ (0 ≤ rq3_.toInt ∧ rq3_.toInt ≤ 7) := cq8_
    refine jif_ne (tgt := 14) hx hb dX1_settle_10 (by decide) (fun cq76_ => absurd cq76_ (by decide)) (fun cq76_ => ?_)
    exact ret_v hC hr hlk hK hH (⟨trivial, rfl, hF⟩) (Nat.le_of_ble_eq_true rfl) (Nat.le_of_ble_eq_true rfl) dX1_settle_13
set_option maxHeartbeats 4000000 in
set_option maxRecDepth 100000 in
theorem c_X1_begin {l : Launch} {D : va_G} {kA : Nat → ClassId} {M : mM} {T : mT} {sz : Nat} {h : Nat} {by_ on to ob : Int32} (ht_h : T h = some 2) (hto : 0 ≤ to.toInt ∧ to.toInt ≤ 7) (hob : ob = 0 ∨ ob = 1) : mCv l yX1_begin cX1_begin 6 2 0 0 D kA M T sz [.ref h, .int by_, .int on, .int to, .int ob] (fun u => (True) ∧ u.2 = T ∧ (∀ q, FrA T q → u.1 q = M q)) := by
  unfold mCv
  refine start_W (by decide) (Nat.le_of_ble_eq_true rfl) ?_
  intro p e s m below meth c ls hC hr hlk hnm hK hH hsz hl
  have hx := hC.1
  have hb := hC.2.1
  have hl : lv_has ls 6 [(0, .ref h), (1, .int by_), (2, .int on), (3, .int to), (4, .int ob)] := hl
  have hF : ∀ q, FrA T q → M q = M q := fun q _  => rfl
  refine lv_aload_n hx hb dX1_begin_0 rfl (lv_at hl 0 rfl) ?_
  refine lv_iload_n hx hb dX1_begin_1 rfl (lv_at hl 1 rfl) ?_
  obtain ⟨Mq1_, fsq2_, hc_h, hfr, ho_h, hH⟩ := hH.unt ht_h rfl
  obtain ⟨xq3_, hl_xq3_, xq4_, hl_xq4_, xq5_, hl_xq5_, xq6_, hl_xq6_, xq7_, hl_xq7_, xq8_, hl_xq8_, xq9_, hl_xq9_, xq10_, hl_xq10_, xq11_, hl_xq11_, xq12_, hl_xq12_, xq13_, hl_xq13_, xq14_, hl_xq14_, qq15_, hl_qq15_, qq16_, hl_qq16_, qq17_, hl_qq17_, qq18_, hl_qq18_, qq19_, hl_qq19_, qq20_, hl_qq20_, qq21_, hl_qq21_, e_fsq2_⟩ := op2  ho_h
  subst e_fsq2_
  have l_xq3_ : (-2147483648 : Int) ≤ xq3_.toInt := hl_xq3_.1
  have g_xq3_ : xq3_.toInt ≤ 2147483647 := hl_xq3_.2
  have l_xq4_ : (-2147483648 : Int) ≤ xq4_.toInt := hl_xq4_.1
  have g_xq4_ : xq4_.toInt ≤ 2147483647 := hl_xq4_.2
  have l_xq5_ : (-2147483648 : Int) ≤ xq5_.toInt := hl_xq5_.1
  have g_xq5_ : xq5_.toInt ≤ 2147483647 := hl_xq5_.2
  have l_xq6_ : (-2147483648 : Int) ≤ xq6_.toInt := hl_xq6_.1
  have g_xq6_ : xq6_.toInt ≤ 2147483647 := hl_xq6_.2
  have l_xq7_ : (-2147483648 : Int) ≤ xq7_.toInt := hl_xq7_.1
  have g_xq7_ : xq7_.toInt ≤ 2147483647 := hl_xq7_.2
  have l_xq8_ : (0 : Int) ≤ xq8_.toInt := hl_xq8_.1
  have g_xq8_ : xq8_.toInt ≤ 7 := hl_xq8_.2
  have l_xq9_ : (-2147483648 : Int) ≤ xq9_.toInt := hl_xq9_.1
  have g_xq9_ : xq9_.toInt ≤ 2147483647 := hl_xq9_.2
  have l_xq10_ : (0 : Int) ≤ xq10_.toInt := hl_xq10_.1
  have g_xq10_ : xq10_.toInt ≤ 12 := hl_xq10_.2
  have l_xq11_ : (0 : Int) ≤ xq11_.toInt := hl_xq11_.1
  have g_xq11_ : xq11_.toInt ≤ 12 := hl_xq11_.2
  have l_xq12_ : (0 : Int) ≤ xq12_.toInt := hl_xq12_.1
  have g_xq12_ : xq12_.toInt ≤ 1 := hl_xq12_.2
  have l_xq13_ : (0 : Int) ≤ xq13_.toInt := hl_xq13_.1
  have g_xq13_ : xq13_.toInt ≤ 1 := hl_xq13_.2
  have l_xq14_ : (0 : Int) ≤ xq14_.toInt := hl_xq14_.1
  have g_xq14_ : xq14_.toInt ≤ 1 := hl_xq14_.2
  have t_qq15_ := hl_qq15_
  have t_qq16_ := hl_qq16_
  have t_qq17_ := hl_qq17_
  have t_qq18_ := hl_qq18_
  have t_qq19_ := hl_qq19_
  have t_qq20_ := hl_qq20_
  have t_qq21_ := hl_qq21_
  have hc_h : Mq1_ h = some (.inr (0, [.int xq3_, .int xq4_, .int xq5_, .int xq6_, .int xq7_, .int xq8_, .int xq9_, .int xq10_, .int xq11_, .int xq12_, .int xq13_, .int xq14_, .ref qq15_, .ref qq16_, .ref qq17_, .ref qq18_, .ref qq19_, .ref qq20_, .ref qq21_])) := hc_h
  have hF : ∀ q, FrA T q → Mq1_ q = M q := fun q hq  => (hfr q (neA hq ht_h (by decide))).trans (hF q hq )
  refine yp (v := .int by_) hC hK hH flX1_41 hc_h (hasT ht_h (conf_set rfl ho_h (show (_ : List fS)[0]? = some _ from rfl) (okI (iRg _).1 (iRg _).2))) rfl rfl (Nat.le_of_ble_eq_true rfl) dX1_begin_2 (fun Hq_ lcq_ Mq22_ hc_h hfr hH => ?_)
  have ho_h : conf kA T 2 (.inr (0, [.int by_, .int xq4_, .int xq5_, .int xq6_, .int xq7_, .int xq8_, .int xq9_, .int xq10_, .int xq11_, .int xq12_, .int xq13_, .int xq14_, .ref qq15_, .ref qq16_, .ref qq17_, .ref qq18_, .ref qq19_, .ref qq20_, .ref qq21_])) := conf_set rfl ho_h (show (_ : List fS)[0]? = some _ from rfl) (okI (iRg _).1 (iRg _).2)
  have hc_h : Mq22_ h = some (.inr (0, [.int by_, .int xq4_, .int xq5_, .int xq6_, .int xq7_, .int xq8_, .int xq9_, .int xq10_, .int xq11_, .int xq12_, .int xq13_, .int xq14_, .ref qq15_, .ref qq16_, .ref qq17_, .ref qq18_, .ref qq19_, .ref qq20_, .ref qq21_])) := hc_h
  have hF : ∀ q, FrA T q → Mq22_ q = M q := fun q hq  => (hfr q (neA hq ht_h (by decide))).trans (hF q hq )
  refine lv_aload_n hx hb dX1_begin_5 rfl (lv_at hl 0 rfl) ?_
  refine lv_iload_n hx hb dX1_begin_6 rfl (lv_at hl 2 rfl) ?_
  refine yp (v := .int on) hC hK hH flX1_45 hc_h (hasT ht_h (conf_set rfl ho_h (show (_ : List fS)[1]? = some _ from rfl) (okI (iRg _).1 (iRg _).2))) rfl rfl (Nat.le_of_ble_eq_true rfl) dX1_begin_7 (fun Hq_ lcq_ Mq23_ hc_h hfr hH => ?_)
  have ho_h : conf kA T 2 (.inr (0, [.int by_, .int on, .int xq5_, .int xq6_, .int xq7_, .int xq8_, .int xq9_, .int xq10_, .int xq11_, .int xq12_, .int xq13_, .int xq14_, .ref qq15_, .ref qq16_, .ref qq17_, .ref qq18_, .ref qq19_, .ref qq20_, .ref qq21_])) := conf_set rfl ho_h (show (_ : List fS)[1]? = some _ from rfl) (okI (iRg _).1 (iRg _).2)
  have hc_h : Mq23_ h = some (.inr (0, [.int by_, .int on, .int xq5_, .int xq6_, .int xq7_, .int xq8_, .int xq9_, .int xq10_, .int xq11_, .int xq12_, .int xq13_, .int xq14_, .ref qq15_, .ref qq16_, .ref qq17_, .ref qq18_, .ref qq19_, .ref qq20_, .ref qq21_])) := hc_h
  have hF : ∀ q, FrA T q → Mq23_ q = M q := fun q hq  => (hfr q (neA hq ht_h (by decide))).trans (hF q hq )
  refine lv_aload_n hx hb dX1_begin_10 rfl (lv_at hl 0 rfl) ?_
  refine lv_iload_n hx hb dX1_begin_11 rfl (lv_at hl 3 rfl) ?_
  refine yp (v := .int to) hC hK hH flX1_48 hc_h (hasT ht_h (conf_set rfl ho_h (show (_ : List fS)[2]? = some _ from rfl) (okI (iRg _).1 (iRg _).2))) rfl rfl (Nat.le_of_ble_eq_true rfl) dX1_begin_12 (fun Hq_ lcq_ Mq24_ hc_h hfr hH => ?_)
  have ho_h : conf kA T 2 (.inr (0, [.int by_, .int on, .int to, .int xq6_, .int xq7_, .int xq8_, .int xq9_, .int xq10_, .int xq11_, .int xq12_, .int xq13_, .int xq14_, .ref qq15_, .ref qq16_, .ref qq17_, .ref qq18_, .ref qq19_, .ref qq20_, .ref qq21_])) := conf_set rfl ho_h (show (_ : List fS)[2]? = some _ from rfl) (okI (iRg _).1 (iRg _).2)
  have hc_h : Mq24_ h = some (.inr (0, [.int by_, .int on, .int to, .int xq6_, .int xq7_, .int xq8_, .int xq9_, .int xq10_, .int xq11_, .int xq12_, .int xq13_, .int xq14_, .ref qq15_, .ref qq16_, .ref qq17_, .ref qq18_, .ref qq19_, .ref qq20_, .ref qq21_])) := hc_h
  have hF : ∀ q, FrA T q → Mq24_ q = M q := fun q hq  => (hfr q (neA hq ht_h (by decide))).trans (hF q hq )
  refine lv_aload_n hx hb dX1_begin_15 rfl (lv_at hl 0 rfl) ?_
  refine lv_iload hx hb dX1_begin_16 (lv_at hl 4 rfl) ?_
  refine yp (v := .int ob) hC hK hH flX1_51 hc_h (hasT ht_h (conf_set rfl ho_h (show (_ : List fS)[9]? = some _ from rfl) (okI (zl hob) (zh hob)))) (nz hob) (fz hob) (Nat.le_of_ble_eq_true rfl) dX1_begin_18 (fun Hq_ lcq_ Mq25_ hc_h hfr hH => ?_)
  have ho_h : conf kA T 2 (.inr (0, [.int by_, .int on, .int to, .int xq6_, .int xq7_, .int xq8_, .int xq9_, .int xq10_, .int xq11_, .int ob, .int xq13_, .int xq14_, .ref qq15_, .ref qq16_, .ref qq17_, .ref qq18_, .ref qq19_, .ref qq20_, .ref qq21_])) := conf_set rfl ho_h (show (_ : List fS)[9]? = some _ from rfl) (okI (zl hob) (zh hob))
  have hc_h : Mq25_ h = some (.inr (0, [.int by_, .int on, .int to, .int xq6_, .int xq7_, .int xq8_, .int xq9_, .int xq10_, .int xq11_, .int ob, .int xq13_, .int xq14_, .ref qq15_, .ref qq16_, .ref qq17_, .ref qq18_, .ref qq19_, .ref qq20_, .ref qq21_])) := hc_h
  have hF : ∀ q, FrA T q → Mq25_ q = M q := fun q hq  => (hfr q (neA hq ht_h (by decide))).trans (hF q hq )
  refine lv_aload_n hx hb dX1_begin_21 rfl (lv_at hl 0 rfl) ?_
  refine lv_iload_n hx hb dX1_begin_22 rfl (lv_at hl 3 rfl) ?_
  refine yp (v := .int to) hC hK hH flX1_55 hc_h (hasT ht_h (conf_set rfl ho_h (show (_ : List fS)[5]? = some _ from rfl) (okI (by show (0 : Int) ≤ to.toInt; omega) (by show to.toInt ≤ (7 : Int); omega)))) rfl rfl (Nat.le_of_ble_eq_true rfl) dX1_begin_23 (fun Hq_ lcq_ Mq26_ hc_h hfr hH => ?_)
  have ho_h : conf kA T 2 (.inr (0, [.int by_, .int on, .int to, .int xq6_, .int xq7_, .int to, .int xq9_, .int xq10_, .int xq11_, .int ob, .int xq13_, .int xq14_, .ref qq15_, .ref qq16_, .ref qq17_, .ref qq18_, .ref qq19_, .ref qq20_, .ref qq21_])) := conf_set rfl ho_h (show (_ : List fS)[5]? = some _ from rfl) (okI (by show (0 : Int) ≤ to.toInt; omega) (by show to.toInt ≤ (7 : Int); omega))
  have hc_h : Mq26_ h = some (.inr (0, [.int by_, .int on, .int to, .int xq6_, .int xq7_, .int to, .int xq9_, .int xq10_, .int xq11_, .int ob, .int xq13_, .int xq14_, .ref qq15_, .ref qq16_, .ref qq17_, .ref qq18_, .ref qq19_, .ref qq20_, .ref qq21_])) := hc_h
  have hF : ∀ q, FrA T q → Mq26_ q = M q := fun q hq  => (hfr q (neA hq ht_h (by decide))).trans (hF q hq )
  refine lv_aload_n hx hb dX1_begin_26 rfl (lv_at hl 0 rfl) ?_
  refine lv_iconst (v := -1) hx hb dX1_begin_27 (by decide) ?_
  refine yp (v := .int (-1)) hC hK hH flX1_58 hc_h (hasT ht_h (conf_set rfl ho_h (show (_ : List fS)[6]? = some _ from rfl) (okI (iRg _).1 (iRg _).2))) rfl rfl (Nat.le_of_ble_eq_true rfl) dX1_begin_28 (fun Hq_ lcq_ Mq27_ hc_h hfr hH => ?_)
  have ho_h : conf kA T 2 (.inr (0, [.int by_, .int on, .int to, .int xq6_, .int xq7_, .int to, .int (-1), .int xq10_, .int xq11_, .int ob, .int xq13_, .int xq14_, .ref qq15_, .ref qq16_, .ref qq17_, .ref qq18_, .ref qq19_, .ref qq20_, .ref qq21_])) := conf_set rfl ho_h (show (_ : List fS)[6]? = some _ from rfl) (okI (iRg _).1 (iRg _).2)
  have hc_h : Mq27_ h = some (.inr (0, [.int by_, .int on, .int to, .int xq6_, .int xq7_, .int to, .int (-1), .int xq10_, .int xq11_, .int ob, .int xq13_, .int xq14_, .ref qq15_, .ref qq16_, .ref qq17_, .ref qq18_, .ref qq19_, .ref qq20_, .ref qq21_])) := hc_h
  have hF : ∀ q, FrA T q → Mq27_ q = M q := fun q hq  => (hfr q (neA hq ht_h (by decide))).trans (hF q hq )
  refine lv_aload_n hx hb dX1_begin_31 rfl (lv_at hl 0 rfl) ?_
  refine lv_iconst (v := 0) hx hb dX1_begin_32 (by decide) ?_
  refine yp (v := .int 0) hC hK hH flX1_61 hc_h (hasT ht_h (conf_set rfl ho_h (show (_ : List fS)[7]? = some _ from rfl) (okI (by decide) (by decide)))) rfl rfl (Nat.le_of_ble_eq_true rfl) dX1_begin_33 (fun Hq_ lcq_ Mq28_ hc_h hfr hH => ?_)
  have ho_h : conf kA T 2 (.inr (0, [.int by_, .int on, .int to, .int xq6_, .int xq7_, .int to, .int (-1), .int 0, .int xq11_, .int ob, .int xq13_, .int xq14_, .ref qq15_, .ref qq16_, .ref qq17_, .ref qq18_, .ref qq19_, .ref qq20_, .ref qq21_])) := conf_set rfl ho_h (show (_ : List fS)[7]? = some _ from rfl) (okI (by decide) (by decide))
  have hc_h : Mq28_ h = some (.inr (0, [.int by_, .int on, .int to, .int xq6_, .int xq7_, .int to, .int (-1), .int 0, .int xq11_, .int ob, .int xq13_, .int xq14_, .ref qq15_, .ref qq16_, .ref qq17_, .ref qq18_, .ref qq19_, .ref qq20_, .ref qq21_])) := hc_h
  have hF : ∀ q, FrA T q → Mq28_ q = M q := fun q hq  => (hfr q (neA hq ht_h (by decide))).trans (hF q hq )
  refine lv_aload_n hx hb dX1_begin_36 rfl (lv_at hl 0 rfl) ?_
  refine lv_iconst (v := 0) hx hb dX1_begin_37 (by decide) ?_
  refine yp (v := .int 0) hC hK hH flX1_64 hc_h (hasT ht_h (conf_set rfl ho_h (show (_ : List fS)[8]? = some _ from rfl) (okI (by decide) (by decide)))) rfl rfl (Nat.le_of_ble_eq_true rfl) dX1_begin_38 (fun Hq_ lcq_ Mq29_ hc_h hfr hH => ?_)
  have ho_h : conf kA T 2 (.inr (0, [.int by_, .int on, .int to, .int xq6_, .int xq7_, .int to, .int (-1), .int 0, .int 0, .int ob, .int xq13_, .int xq14_, .ref qq15_, .ref qq16_, .ref qq17_, .ref qq18_, .ref qq19_, .ref qq20_, .ref qq21_])) := conf_set rfl ho_h (show (_ : List fS)[8]? = some _ from rfl) (okI (by decide) (by decide))
  have hc_h : Mq29_ h = some (.inr (0, [.int by_, .int on, .int to, .int xq6_, .int xq7_, .int to, .int (-1), .int 0, .int 0, .int ob, .int xq13_, .int xq14_, .ref qq15_, .ref qq16_, .ref qq17_, .ref qq18_, .ref qq19_, .ref qq20_, .ref qq21_])) := hc_h
  have hF : ∀ q, FrA T q → Mq29_ q = M q := fun q hq  => (hfr q (neA hq ht_h (by decide))).trans (hF q hq )
  refine lv_aload_n hx hb dX1_begin_41 rfl (lv_at hl 0 rfl) ?_
  refine lv_iconst (v := 0) hx hb dX1_begin_42 (by decide) ?_
  refine yp (v := .int 0) hC hK hH flX1_67 hc_h (hasT ht_h (conf_set rfl ho_h (show (_ : List fS)[10]? = some _ from rfl) (okI (by decide) (by decide)))) rfl rfl (Nat.le_of_ble_eq_true rfl) dX1_begin_43 (fun Hq_ lcq_ Mq30_ hc_h hfr hH => ?_)
  have ho_h : conf kA T 2 (.inr (0, [.int by_, .int on, .int to, .int xq6_, .int xq7_, .int to, .int (-1), .int 0, .int 0, .int ob, .int 0, .int xq14_, .ref qq15_, .ref qq16_, .ref qq17_, .ref qq18_, .ref qq19_, .ref qq20_, .ref qq21_])) := conf_set rfl ho_h (show (_ : List fS)[10]? = some _ from rfl) (okI (by decide) (by decide))
  have hc_h : Mq30_ h = some (.inr (0, [.int by_, .int on, .int to, .int xq6_, .int xq7_, .int to, .int (-1), .int 0, .int 0, .int ob, .int 0, .int xq14_, .ref qq15_, .ref qq16_, .ref qq17_, .ref qq18_, .ref qq19_, .ref qq20_, .ref qq21_])) := hc_h
  have hF : ∀ q, FrA T q → Mq30_ q = M q := fun q hq  => (hfr q (neA hq ht_h (by decide))).trans (hF q hq )
  refine lv_aload_n hx hb dX1_begin_46 rfl (lv_at hl 0 rfl) ?_
  refine lv_iconst (v := 0) hx hb dX1_begin_47 (by decide) ?_
  refine yp (v := .int 0) hC hK hH flX1_70 hc_h (hasT ht_h (conf_set rfl ho_h (show (_ : List fS)[11]? = some _ from rfl) (okI (by decide) (by decide)))) rfl rfl (Nat.le_of_ble_eq_true rfl) dX1_begin_48 (fun Hq_ lcq_ Mq31_ hc_h hfr hH => ?_)
  have ho_h : conf kA T 2 (.inr (0, [.int by_, .int on, .int to, .int xq6_, .int xq7_, .int to, .int (-1), .int 0, .int 0, .int ob, .int 0, .int 0, .ref qq15_, .ref qq16_, .ref qq17_, .ref qq18_, .ref qq19_, .ref qq20_, .ref qq21_])) := conf_set rfl ho_h (show (_ : List fS)[11]? = some _ from rfl) (okI (by decide) (by decide))
  have hc_h : Mq31_ h = some (.inr (0, [.int by_, .int on, .int to, .int xq6_, .int xq7_, .int to, .int (-1), .int 0, .int 0, .int ob, .int 0, .int 0, .ref qq15_, .ref qq16_, .ref qq17_, .ref qq18_, .ref qq19_, .ref qq20_, .ref qq21_])) := hc_h
  have hF : ∀ q, FrA T q → Mq31_ q = M q := fun q hq  => (hfr q (neA hq ht_h (by decide))).trans (hF q hq )
  refine lv_aload_n hx hb dX1_begin_51 rfl (lv_at hl 0 rfl) ?_
  refine xg hC hK hH flX1_20 hc_h rfl dX1_begin_52 ?_
  refine lv_iload_n hx hb dX1_begin_55 rfl (lv_at hl 3 rfl) ?_
  refine lv_iload hx hb dX1_begin_56 (lv_at hl 4 rfl) ?_
  refine goV hK hH (runV (As := [.int to, .int ob]) (rest := []) hC hK hH (c_X2_begin t_qq16_ (by omega)) mlX1_73 (rcvT hK hH t_qq16_ rfl rfl) ⟨⟨Nat.le_of_ble_eq_true rfl, Nat.le_of_ble_eq_true rfl⟩, Nat.le_of_ble_eq_true rfl, Nat.le_of_ble_eq_true rfl⟩ rfl hl.1 rfl (Nat.le_of_ble_eq_true rfl) dX1_begin_58) (fun Mq32_ Tq33_ Hq_ lcq_ hP hz hH => ?_)
  try dsimp only at hP
  obtain ⟨(-), eT, hfr⟩ := hP
  have eT := eT.symm; subst eT
  have hc_h : Mq32_ h = some (.inr (0, [.int by_, .int on, .int to, .int xq6_, .int xq7_, .int to, .int (-1), .int 0, .int 0, .int ob, .int 0, .int 0, .ref qq15_, .ref qq16_, .ref qq17_, .ref qq18_, .ref qq19_, .ref qq20_, .ref qq21_])) := (hfr h (Or.inr (Or.inr ht_h)) ).trans hc_h
  have hF : ∀ q, FrA T q → Mq32_ q = M q := fun q hq  => (hfr q (FrA.k hq) ).trans (hF q hq )
  refine lv_aload_n hx hb dX1_begin_61 rfl (lv_at hl 0 rfl) ?_
  refine xg hC hK hH flX1_24 hc_h rfl dX1_begin_62 ?_
  refine lv_aload_n hx hb dX1_begin_65 rfl (lv_at hl 0 rfl) ?_
  refine xg hC hK hH flX1_20 hc_h rfl dX1_begin_66 ?_
  refine goV hK hH (runV (As := [.ref qq16_]) (rest := []) hC hK hH (c_X2_copy t_qq17_ t_qq16_) mlX1_77 (rcvT hK hH t_qq17_ rfl rfl) ⟨⟨Nat.le_of_ble_eq_true rfl, Nat.le_of_ble_eq_true rfl⟩, Nat.le_of_ble_eq_true rfl, Nat.le_of_ble_eq_true rfl⟩ rfl hl.1 rfl (Nat.le_of_ble_eq_true rfl) dX1_begin_69) (fun Mq35_ Tq36_ Hq_ lcq_ hP hz hH => ?_)
  try dsimp only at hP
  obtain ⟨(-), eT, hfr⟩ := hP
  have eT := eT.symm; subst eT
  have hc_h : Mq35_ h = some (.inr (0, [.int by_, .int on, .int to, .int xq6_, .int xq7_, .int to, .int (-1), .int 0, .int 0, .int ob, .int 0, .int 0, .ref qq15_, .ref qq16_, .ref qq17_, .ref qq18_, .ref qq19_, .ref qq20_, .ref qq21_])) := (hfr h (Or.inr (Or.inr ht_h)) ).trans hc_h
  have hF : ∀ q, FrA T q → Mq35_ q = M q := fun q hq  => (hfr q (FrA.k hq) ).trans (hF q hq )
  refine lv_iconst (v := 0) hx hb dX1_begin_72 (by decide) ?_
  refine lv_istore (lv' := [(5, .int 0), (0, .ref h), (1, .int by_), (2, .int on), (3, .int to), (4, .int ob)]) hx hb dX1_begin_73 hl (by decide) rfl (fun ls hl => ?_)
  have loop : ∀ (n : Nat) (iq38_ : Int32) (Hq_ : Heap) (lcq_ : List Loc) (Mq39_ : mM) (ls : Array Slot), iq38_.toInt + (n : Int) = 14 → (0 : Int) ≤ iq38_.toInt → iq38_.toInt ≤ 14 → Mq39_ h = some (.inr (0, [.int by_, .int on, .int to, .int xq6_, .int xq7_, .int to, .int (-1), .int 0, .int 0, .int ob, .int 0, .int 0, .ref qq15_, .ref qq16_, .ref qq17_, .ref qq18_, .ref qq19_, .ref qq20_, .ref qq21_])) → (∀ q, FrA T q → Mq39_ q = M q) → mS D kA Mq39_ T (mA M T sz) s.heap Hq_ lcq_ → lv_has ls 6 [(5, .int iq38_), (0, .ref h), (1, .int by_), (2, .int on), (3, .int to), (4, .int ob)] → W p l e (rmL 2 0 0) s m ([.ref h, .int by_, .int on, .int to, .int ob] : List Value).toArray below meth c Hq_ lcq_ 0 0 (MQ below (va_Qv (fun u => (True) ∧ u.2 = T ∧ (∀ q, FrA T q → u.1 q = M q)) (mB D kA M T sz) (mA M T sz)) ([.ref h, .int by_, .int on, .int to, .int ob] : List Value).toArray s 0 0 (mA M T sz)) (F0 m 75 ls []) := by
    intro n
    induction n with
    | zero =>
      intro iq38_ Hq_ lcq_ Mq39_ ls hi_iq38_ h0_iq38_ h9_iq38_ hc_h hF hH hl
      have hi2_iq38_ : iq38_.toInt = 14 := by omega
      refine lv_iload hx hb dX1_begin_75 (lv_at hl 0 rfl) ?_
      refine lv_bipush (v := 14) hx hb dX1_begin_77 (by decide) ?_
      refine jic_ge (tgt := 120) hx hb dX1_begin_79 (by decide) (fun cq40_ => ?_) (fun cq40_ => absurd cq40_ (by have := iRg iq38_; have : (14 : Int32).toInt = 14 := rfl; omega))
      have cq40_ : 14 ≤ iq38_.toInt := cq40_
      exact ret_v hC hr hlk hK hH (⟨trivial, rfl, hF⟩) (Nat.le_of_ble_eq_true rfl) (Nat.le_of_ble_eq_true rfl) dX1_begin_120
    | succ n ih =>
      intro iq38_ Hq_ lcq_ Mq39_ ls hi_iq38_ h0_iq38_ h9_iq38_ hc_h hF hH hl
      have hi2_iq38_ : iq38_.toInt ≤ 13 := by omega
      refine lv_iload hx hb dX1_begin_75 (lv_at hl 0 rfl) ?_
      refine lv_bipush (v := 14) hx hb dX1_begin_77 (by decide) ?_
      refine jic_ge (tgt := 120) hx hb dX1_begin_79 (by decide) (fun cq41_ => absurd cq41_ (by have := iRg iq38_; have : (14 : Int32).toInt = 14 := rfl; omega)) (fun cq41_ => ?_)
      have cq41_ : iq38_.toInt < 14 := cq41_
      refine lv_aload_n hx hb dX1_begin_82 rfl (lv_at hl 1 rfl) ?_
      refine xg hC hK hH flX1_27 hc_h rfl dX1_begin_83 ?_
      refine lv_iload hx hb dX1_begin_86 (lv_at hl 0 rfl) ?_
      refine lv_iconst (v := -1) hx hb dX1_begin_88 (by decide) ?_
      refine tist (x := -1) hC hK hH t_qq18_ rfl (iIn (by omega) (by omega)) (iRg _).1 (iRg _).2 dX1_begin_89 (fun Hq_ lcq_ Mq42_ _ hfr hH => ?_)
      have hc_h : Mq42_ h = some (.inr (0, [.int by_, .int on, .int to, .int xq6_, .int xq7_, .int to, .int (-1), .int 0, .int 0, .int ob, .int 0, .int 0, .ref qq15_, .ref qq16_, .ref qq17_, .ref qq18_, .ref qq19_, .ref qq20_, .ref qq21_])) := (hfr h (neF (Or.inr (Or.inr ht_h)) t_qq18_ (by decide))).trans hc_h
      have hF : ∀ q, FrA T q → Mq42_ q = M q := fun q hq  => (hfr q (neA hq t_qq18_ (by decide))).trans (hF q hq )
      refine lv_aload_n hx hb dX1_begin_90 rfl (lv_at hl 1 rfl) ?_
      refine xg hC hK hH flX1_31 hc_h rfl dX1_begin_91 ?_
      refine lv_iload hx hb dX1_begin_94 (lv_at hl 0 rfl) ?_
      refine lv_iconst (v := 0) hx hb dX1_begin_96 (by decide) ?_
      refine tist (x := 0) hC hK hH t_qq19_ rfl (iIn (by omega) (by omega)) (iRg _).1 (iRg _).2 dX1_begin_97 (fun Hq_ lcq_ Mq43_ _ hfr hH => ?_)
      have hc_h : Mq43_ h = some (.inr (0, [.int by_, .int on, .int to, .int xq6_, .int xq7_, .int to, .int (-1), .int 0, .int 0, .int ob, .int 0, .int 0, .ref qq15_, .ref qq16_, .ref qq17_, .ref qq18_, .ref qq19_, .ref qq20_, .ref qq21_])) := (hfr h (neF (Or.inr (Or.inr ht_h)) t_qq19_ (by decide))).trans hc_h
      have hF : ∀ q, FrA T q → Mq43_ q = M q := fun q hq  => (hfr q (neA hq t_qq19_ (by decide))).trans (hF q hq )
      refine lv_aload_n hx hb dX1_begin_98 rfl (lv_at hl 1 rfl) ?_
      refine xg hC hK hH flX1_34 hc_h rfl dX1_begin_99 ?_
      refine lv_iload hx hb dX1_begin_102 (lv_at hl 0 rfl) ?_
      refine lv_iconst (v := -1) hx hb dX1_begin_104 (by decide) ?_
      refine tist (x := -1) hC hK hH t_qq20_ rfl (iIn (by omega) (by omega)) (iRg _).1 (iRg _).2 dX1_begin_105 (fun Hq_ lcq_ Mq44_ _ hfr hH => ?_)
      have hc_h : Mq44_ h = some (.inr (0, [.int by_, .int on, .int to, .int xq6_, .int xq7_, .int to, .int (-1), .int 0, .int 0, .int ob, .int 0, .int 0, .ref qq15_, .ref qq16_, .ref qq17_, .ref qq18_, .ref qq19_, .ref qq20_, .ref qq21_])) := (hfr h (neF (Or.inr (Or.inr ht_h)) t_qq20_ (by decide))).trans hc_h
      have hF : ∀ q, FrA T q → Mq44_ q = M q := fun q hq  => (hfr q (neA hq t_qq20_ (by decide))).trans (hF q hq )
      refine lv_aload_n hx hb dX1_begin_106 rfl (lv_at hl 1 rfl) ?_
      refine xg hC hK hH flX1_37 hc_h rfl dX1_begin_107 ?_
      refine lv_iload hx hb dX1_begin_110 (lv_at hl 0 rfl) ?_
      refine lv_iconst (v := 0) hx hb dX1_begin_112 (by decide) ?_
      refine tist (x := 0) hC hK hH t_qq21_ rfl (iIn (by omega) (by omega)) (iRg _).1 (iRg _).2 dX1_begin_113 (fun Hq_ lcq_ Mq45_ _ hfr hH => ?_)
      have hc_h : Mq45_ h = some (.inr (0, [.int by_, .int on, .int to, .int xq6_, .int xq7_, .int to, .int (-1), .int 0, .int 0, .int ob, .int 0, .int 0, .ref qq15_, .ref qq16_, .ref qq17_, .ref qq18_, .ref qq19_, .ref qq20_, .ref qq21_])) := (hfr h (neF (Or.inr (Or.inr ht_h)) t_qq21_ (by decide))).trans hc_h
      have hF : ∀ q, FrA T q → Mq45_ q = M q := fun q hq  => (hfr q (neA hq t_qq21_ (by decide))).trans (hF q hq )
      obtain ⟨zq46_, e_zq46_⟩ : ∃ y : Int32, y = iq38_ + 1 := ⟨_, rfl⟩
      refine lv_iinc (v := zq46_) (lv' := [(5, .int zq46_), (0, .ref h), (1, .int by_), (2, .int on), (3, .int to), (4, .int ob)]) hx hb dX1_begin_114 hl (k := 0) rfl (by rw [e_zq46_]; rfl) (by decide) rfl (fun ls hl => ?_)
      have h_zq46_ : zq46_.toInt = iq38_.toInt + 1 := by rw [e_zq46_, iAdd (by have : (1 : Int32).toInt = 1 := rfl; omega) (by have : (1 : Int32).toInt = 1 := rfl; omega)]; rfl
      refine lv_goto (tgt := 75) hx hb dX1_begin_117 (by decide) ?_
      exact ih zq46_ _ _ _ ls (by omega) (by omega) (by omega) hc_h hF hH (lv_sub hl [0, 1, 2, 3, 4, 5] rfl)
  exact loop (Int.toNat (14 - 0)) 0 _ _ _ ls (by have : (0 : Int32).toInt = 0 := rfl; omega) (by have : (0 : Int32).toInt = 0 := rfl; omega) (by have : (0 : Int32).toInt = 0 := rfl; omega) hc_h hF hH hl
set_option maxHeartbeats 4000000 in
set_option maxRecDepth 100000 in
theorem c_X1_copy {l : Launch} {D : va_G} {kA : Nat → ClassId} {M : mM} {T : mT} {sz : Nat} {h o : Nat} (ht_h : T h = some 2) (ht_o : T o = some 2) : mCv l yX1_copy cX1_copy 3 2 0 0 D kA M T sz [.ref h, .ref o] (fun u => (True) ∧ u.2 = T ∧ (∀ q, FrA T q → u.1 q = M q)) := by
  unfold mCv
  refine start_W (by decide) (Nat.le_of_ble_eq_true rfl) ?_
  intro p e s m below meth c ls hC hr hlk hnm hK hH hsz hl
  have hx := hC.1
  have hb := hC.2.1
  have hl : lv_has ls 3 [(0, .ref h), (1, .ref o)] := hl
  have hF : ∀ q, FrA T q → M q = M q := fun q _  => rfl
  refine lv_aload_n hx hb dX1_copy_0 rfl (lv_at hl 0 rfl) ?_
  refine lv_aload_n hx hb dX1_copy_1 rfl (lv_at hl 1 rfl) ?_
  refine tg hC hK hH flX1_41 ht_o rfl rfl dX1_copy_2 (fun xq1_ l_xq1_ g_xq1_ => ?_)
  obtain ⟨Mq2_, fsq3_, hc_h, hfr, ho_h, hH⟩ := hH.unt ht_h rfl
  obtain ⟨xq4_, hl_xq4_, xq5_, hl_xq5_, xq6_, hl_xq6_, xq7_, hl_xq7_, xq8_, hl_xq8_, xq9_, hl_xq9_, xq10_, hl_xq10_, xq11_, hl_xq11_, xq12_, hl_xq12_, xq13_, hl_xq13_, xq14_, hl_xq14_, xq15_, hl_xq15_, qq16_, hl_qq16_, qq17_, hl_qq17_, qq18_, hl_qq18_, qq19_, hl_qq19_, qq20_, hl_qq20_, qq21_, hl_qq21_, qq22_, hl_qq22_, e_fsq3_⟩ := op2  ho_h
  subst e_fsq3_
  have l_xq4_ : (-2147483648 : Int) ≤ xq4_.toInt := hl_xq4_.1
  have g_xq4_ : xq4_.toInt ≤ 2147483647 := hl_xq4_.2
  have l_xq5_ : (-2147483648 : Int) ≤ xq5_.toInt := hl_xq5_.1
  have g_xq5_ : xq5_.toInt ≤ 2147483647 := hl_xq5_.2
  have l_xq6_ : (-2147483648 : Int) ≤ xq6_.toInt := hl_xq6_.1
  have g_xq6_ : xq6_.toInt ≤ 2147483647 := hl_xq6_.2
  have l_xq7_ : (-2147483648 : Int) ≤ xq7_.toInt := hl_xq7_.1
  have g_xq7_ : xq7_.toInt ≤ 2147483647 := hl_xq7_.2
  have l_xq8_ : (-2147483648 : Int) ≤ xq8_.toInt := hl_xq8_.1
  have g_xq8_ : xq8_.toInt ≤ 2147483647 := hl_xq8_.2
  have l_xq9_ : (0 : Int) ≤ xq9_.toInt := hl_xq9_.1
  have g_xq9_ : xq9_.toInt ≤ 7 := hl_xq9_.2
  have l_xq10_ : (-2147483648 : Int) ≤ xq10_.toInt := hl_xq10_.1
  have g_xq10_ : xq10_.toInt ≤ 2147483647 := hl_xq10_.2
  have l_xq11_ : (0 : Int) ≤ xq11_.toInt := hl_xq11_.1
  have g_xq11_ : xq11_.toInt ≤ 12 := hl_xq11_.2
  have l_xq12_ : (0 : Int) ≤ xq12_.toInt := hl_xq12_.1
  have g_xq12_ : xq12_.toInt ≤ 12 := hl_xq12_.2
  have l_xq13_ : (0 : Int) ≤ xq13_.toInt := hl_xq13_.1
  have g_xq13_ : xq13_.toInt ≤ 1 := hl_xq13_.2
  have l_xq14_ : (0 : Int) ≤ xq14_.toInt := hl_xq14_.1
  have g_xq14_ : xq14_.toInt ≤ 1 := hl_xq14_.2
  have l_xq15_ : (0 : Int) ≤ xq15_.toInt := hl_xq15_.1
  have g_xq15_ : xq15_.toInt ≤ 1 := hl_xq15_.2
  have t_qq16_ := hl_qq16_
  have t_qq17_ := hl_qq17_
  have t_qq18_ := hl_qq18_
  have t_qq19_ := hl_qq19_
  have t_qq20_ := hl_qq20_
  have t_qq21_ := hl_qq21_
  have t_qq22_ := hl_qq22_
  have hc_h : Mq2_ h = some (.inr (0, [.int xq4_, .int xq5_, .int xq6_, .int xq7_, .int xq8_, .int xq9_, .int xq10_, .int xq11_, .int xq12_, .int xq13_, .int xq14_, .int xq15_, .ref qq16_, .ref qq17_, .ref qq18_, .ref qq19_, .ref qq20_, .ref qq21_, .ref qq22_])) := hc_h
  have hF : ∀ q, FrA T q → Mq2_ q = M q := fun q hq  => (hfr q (neA hq ht_h (by decide))).trans (hF q hq )
  refine yp (v := .int xq1_) hC hK hH flX1_41 hc_h (hasT ht_h (conf_set rfl ho_h (show (_ : List fS)[0]? = some _ from rfl) (okI (iRg _).1 (iRg _).2))) rfl rfl (Nat.le_of_ble_eq_true rfl) dX1_copy_5 (fun Hq_ lcq_ Mq23_ hc_h hfr hH => ?_)
  have ho_h : conf kA T 2 (.inr (0, [.int xq1_, .int xq5_, .int xq6_, .int xq7_, .int xq8_, .int xq9_, .int xq10_, .int xq11_, .int xq12_, .int xq13_, .int xq14_, .int xq15_, .ref qq16_, .ref qq17_, .ref qq18_, .ref qq19_, .ref qq20_, .ref qq21_, .ref qq22_])) := conf_set rfl ho_h (show (_ : List fS)[0]? = some _ from rfl) (okI (iRg _).1 (iRg _).2)
  have hc_h : Mq23_ h = some (.inr (0, [.int xq1_, .int xq5_, .int xq6_, .int xq7_, .int xq8_, .int xq9_, .int xq10_, .int xq11_, .int xq12_, .int xq13_, .int xq14_, .int xq15_, .ref qq16_, .ref qq17_, .ref qq18_, .ref qq19_, .ref qq20_, .ref qq21_, .ref qq22_])) := hc_h
  have hF : ∀ q, FrA T q → Mq23_ q = M q := fun q hq  => (hfr q (neA hq ht_h (by decide))).trans (hF q hq )
  refine lv_aload_n hx hb dX1_copy_8 rfl (lv_at hl 0 rfl) ?_
  refine lv_aload_n hx hb dX1_copy_9 rfl (lv_at hl 1 rfl) ?_
  refine tg hC hK hH flX1_45 ht_o rfl rfl dX1_copy_10 (fun xq24_ l_xq24_ g_xq24_ => ?_)
  refine yp (v := .int xq24_) hC hK hH flX1_45 hc_h (hasT ht_h (conf_set rfl ho_h (show (_ : List fS)[1]? = some _ from rfl) (okI (iRg _).1 (iRg _).2))) rfl rfl (Nat.le_of_ble_eq_true rfl) dX1_copy_13 (fun Hq_ lcq_ Mq25_ hc_h hfr hH => ?_)
  have ho_h : conf kA T 2 (.inr (0, [.int xq1_, .int xq24_, .int xq6_, .int xq7_, .int xq8_, .int xq9_, .int xq10_, .int xq11_, .int xq12_, .int xq13_, .int xq14_, .int xq15_, .ref qq16_, .ref qq17_, .ref qq18_, .ref qq19_, .ref qq20_, .ref qq21_, .ref qq22_])) := conf_set rfl ho_h (show (_ : List fS)[1]? = some _ from rfl) (okI (iRg _).1 (iRg _).2)
  have hc_h : Mq25_ h = some (.inr (0, [.int xq1_, .int xq24_, .int xq6_, .int xq7_, .int xq8_, .int xq9_, .int xq10_, .int xq11_, .int xq12_, .int xq13_, .int xq14_, .int xq15_, .ref qq16_, .ref qq17_, .ref qq18_, .ref qq19_, .ref qq20_, .ref qq21_, .ref qq22_])) := hc_h
  have hF : ∀ q, FrA T q → Mq25_ q = M q := fun q hq  => (hfr q (neA hq ht_h (by decide))).trans (hF q hq )
  refine lv_aload_n hx hb dX1_copy_16 rfl (lv_at hl 0 rfl) ?_
  refine lv_aload_n hx hb dX1_copy_17 rfl (lv_at hl 1 rfl) ?_
  refine tg hC hK hH flX1_48 ht_o rfl rfl dX1_copy_18 (fun xq26_ l_xq26_ g_xq26_ => ?_)
  refine yp (v := .int xq26_) hC hK hH flX1_48 hc_h (hasT ht_h (conf_set rfl ho_h (show (_ : List fS)[2]? = some _ from rfl) (okI (iRg _).1 (iRg _).2))) rfl rfl (Nat.le_of_ble_eq_true rfl) dX1_copy_21 (fun Hq_ lcq_ Mq27_ hc_h hfr hH => ?_)
  have ho_h : conf kA T 2 (.inr (0, [.int xq1_, .int xq24_, .int xq26_, .int xq7_, .int xq8_, .int xq9_, .int xq10_, .int xq11_, .int xq12_, .int xq13_, .int xq14_, .int xq15_, .ref qq16_, .ref qq17_, .ref qq18_, .ref qq19_, .ref qq20_, .ref qq21_, .ref qq22_])) := conf_set rfl ho_h (show (_ : List fS)[2]? = some _ from rfl) (okI (iRg _).1 (iRg _).2)
  have hc_h : Mq27_ h = some (.inr (0, [.int xq1_, .int xq24_, .int xq26_, .int xq7_, .int xq8_, .int xq9_, .int xq10_, .int xq11_, .int xq12_, .int xq13_, .int xq14_, .int xq15_, .ref qq16_, .ref qq17_, .ref qq18_, .ref qq19_, .ref qq20_, .ref qq21_, .ref qq22_])) := hc_h
  have hF : ∀ q, FrA T q → Mq27_ q = M q := fun q hq  => (hfr q (neA hq ht_h (by decide))).trans (hF q hq )
  refine lv_aload_n hx hb dX1_copy_24 rfl (lv_at hl 0 rfl) ?_
  refine lv_aload_n hx hb dX1_copy_25 rfl (lv_at hl 1 rfl) ?_
  refine tg hC hK hH flX1_81 ht_o rfl rfl dX1_copy_26 (fun xq28_ l_xq28_ g_xq28_ => ?_)
  refine yp (v := .int xq28_) hC hK hH flX1_81 hc_h (hasT ht_h (conf_set rfl ho_h (show (_ : List fS)[3]? = some _ from rfl) (okI (iRg _).1 (iRg _).2))) rfl rfl (Nat.le_of_ble_eq_true rfl) dX1_copy_29 (fun Hq_ lcq_ Mq29_ hc_h hfr hH => ?_)
  have ho_h : conf kA T 2 (.inr (0, [.int xq1_, .int xq24_, .int xq26_, .int xq28_, .int xq8_, .int xq9_, .int xq10_, .int xq11_, .int xq12_, .int xq13_, .int xq14_, .int xq15_, .ref qq16_, .ref qq17_, .ref qq18_, .ref qq19_, .ref qq20_, .ref qq21_, .ref qq22_])) := conf_set rfl ho_h (show (_ : List fS)[3]? = some _ from rfl) (okI (iRg _).1 (iRg _).2)
  have hc_h : Mq29_ h = some (.inr (0, [.int xq1_, .int xq24_, .int xq26_, .int xq28_, .int xq8_, .int xq9_, .int xq10_, .int xq11_, .int xq12_, .int xq13_, .int xq14_, .int xq15_, .ref qq16_, .ref qq17_, .ref qq18_, .ref qq19_, .ref qq20_, .ref qq21_, .ref qq22_])) := hc_h
  have hF : ∀ q, FrA T q → Mq29_ q = M q := fun q hq  => (hfr q (neA hq ht_h (by decide))).trans (hF q hq )
  refine lv_aload_n hx hb dX1_copy_32 rfl (lv_at hl 0 rfl) ?_
  refine lv_aload_n hx hb dX1_copy_33 rfl (lv_at hl 1 rfl) ?_
  refine tg hC hK hH flX1_84 ht_o rfl rfl dX1_copy_34 (fun xq30_ l_xq30_ g_xq30_ => ?_)
  refine yp (v := .int xq30_) hC hK hH flX1_84 hc_h (hasT ht_h (conf_set rfl ho_h (show (_ : List fS)[4]? = some _ from rfl) (okI (iRg _).1 (iRg _).2))) rfl rfl (Nat.le_of_ble_eq_true rfl) dX1_copy_37 (fun Hq_ lcq_ Mq31_ hc_h hfr hH => ?_)
  have ho_h : conf kA T 2 (.inr (0, [.int xq1_, .int xq24_, .int xq26_, .int xq28_, .int xq30_, .int xq9_, .int xq10_, .int xq11_, .int xq12_, .int xq13_, .int xq14_, .int xq15_, .ref qq16_, .ref qq17_, .ref qq18_, .ref qq19_, .ref qq20_, .ref qq21_, .ref qq22_])) := conf_set rfl ho_h (show (_ : List fS)[4]? = some _ from rfl) (okI (iRg _).1 (iRg _).2)
  have hc_h : Mq31_ h = some (.inr (0, [.int xq1_, .int xq24_, .int xq26_, .int xq28_, .int xq30_, .int xq9_, .int xq10_, .int xq11_, .int xq12_, .int xq13_, .int xq14_, .int xq15_, .ref qq16_, .ref qq17_, .ref qq18_, .ref qq19_, .ref qq20_, .ref qq21_, .ref qq22_])) := hc_h
  have hF : ∀ q, FrA T q → Mq31_ q = M q := fun q hq  => (hfr q (neA hq ht_h (by decide))).trans (hF q hq )
  refine lv_aload_n hx hb dX1_copy_40 rfl (lv_at hl 0 rfl) ?_
  refine lv_aload_n hx hb dX1_copy_41 rfl (lv_at hl 1 rfl) ?_
  refine tg hC hK hH flX1_55 ht_o rfl rfl dX1_copy_42 (fun xq32_ l_xq32_ g_xq32_ => ?_)
  have l_xq32_ : (0 : Int) ≤ xq32_.toInt := l_xq32_
  have g_xq32_ : xq32_.toInt ≤ 7 := g_xq32_
  refine yp (v := .int xq32_) hC hK hH flX1_55 hc_h (hasT ht_h (conf_set rfl ho_h (show (_ : List fS)[5]? = some _ from rfl) (okI (by show (0 : Int) ≤ xq32_.toInt; omega) (by show xq32_.toInt ≤ (7 : Int); omega)))) rfl rfl (Nat.le_of_ble_eq_true rfl) dX1_copy_45 (fun Hq_ lcq_ Mq33_ hc_h hfr hH => ?_)
  have ho_h : conf kA T 2 (.inr (0, [.int xq1_, .int xq24_, .int xq26_, .int xq28_, .int xq30_, .int xq32_, .int xq10_, .int xq11_, .int xq12_, .int xq13_, .int xq14_, .int xq15_, .ref qq16_, .ref qq17_, .ref qq18_, .ref qq19_, .ref qq20_, .ref qq21_, .ref qq22_])) := conf_set rfl ho_h (show (_ : List fS)[5]? = some _ from rfl) (okI (by show (0 : Int) ≤ xq32_.toInt; omega) (by show xq32_.toInt ≤ (7 : Int); omega))
  have hc_h : Mq33_ h = some (.inr (0, [.int xq1_, .int xq24_, .int xq26_, .int xq28_, .int xq30_, .int xq32_, .int xq10_, .int xq11_, .int xq12_, .int xq13_, .int xq14_, .int xq15_, .ref qq16_, .ref qq17_, .ref qq18_, .ref qq19_, .ref qq20_, .ref qq21_, .ref qq22_])) := hc_h
  have hF : ∀ q, FrA T q → Mq33_ q = M q := fun q hq  => (hfr q (neA hq ht_h (by decide))).trans (hF q hq )
  refine lv_aload_n hx hb dX1_copy_48 rfl (lv_at hl 0 rfl) ?_
  refine lv_aload_n hx hb dX1_copy_49 rfl (lv_at hl 1 rfl) ?_
  refine tg hC hK hH flX1_58 ht_o rfl rfl dX1_copy_50 (fun xq34_ l_xq34_ g_xq34_ => ?_)
  refine yp (v := .int xq34_) hC hK hH flX1_58 hc_h (hasT ht_h (conf_set rfl ho_h (show (_ : List fS)[6]? = some _ from rfl) (okI (iRg _).1 (iRg _).2))) rfl rfl (Nat.le_of_ble_eq_true rfl) dX1_copy_53 (fun Hq_ lcq_ Mq35_ hc_h hfr hH => ?_)
  have ho_h : conf kA T 2 (.inr (0, [.int xq1_, .int xq24_, .int xq26_, .int xq28_, .int xq30_, .int xq32_, .int xq34_, .int xq11_, .int xq12_, .int xq13_, .int xq14_, .int xq15_, .ref qq16_, .ref qq17_, .ref qq18_, .ref qq19_, .ref qq20_, .ref qq21_, .ref qq22_])) := conf_set rfl ho_h (show (_ : List fS)[6]? = some _ from rfl) (okI (iRg _).1 (iRg _).2)
  have hc_h : Mq35_ h = some (.inr (0, [.int xq1_, .int xq24_, .int xq26_, .int xq28_, .int xq30_, .int xq32_, .int xq34_, .int xq11_, .int xq12_, .int xq13_, .int xq14_, .int xq15_, .ref qq16_, .ref qq17_, .ref qq18_, .ref qq19_, .ref qq20_, .ref qq21_, .ref qq22_])) := hc_h
  have hF : ∀ q, FrA T q → Mq35_ q = M q := fun q hq  => (hfr q (neA hq ht_h (by decide))).trans (hF q hq )
  refine lv_aload_n hx hb dX1_copy_56 rfl (lv_at hl 0 rfl) ?_
  refine lv_aload_n hx hb dX1_copy_57 rfl (lv_at hl 1 rfl) ?_
  refine tg hC hK hH flX1_61 ht_o rfl rfl dX1_copy_58 (fun xq36_ l_xq36_ g_xq36_ => ?_)
  have l_xq36_ : (0 : Int) ≤ xq36_.toInt := l_xq36_
  have g_xq36_ : xq36_.toInt ≤ 12 := g_xq36_
  refine yp (v := .int xq36_) hC hK hH flX1_61 hc_h (hasT ht_h (conf_set rfl ho_h (show (_ : List fS)[7]? = some _ from rfl) (okI (by show (0 : Int) ≤ xq36_.toInt; omega) (by show xq36_.toInt ≤ (12 : Int); omega)))) rfl rfl (Nat.le_of_ble_eq_true rfl) dX1_copy_61 (fun Hq_ lcq_ Mq37_ hc_h hfr hH => ?_)
  have ho_h : conf kA T 2 (.inr (0, [.int xq1_, .int xq24_, .int xq26_, .int xq28_, .int xq30_, .int xq32_, .int xq34_, .int xq36_, .int xq12_, .int xq13_, .int xq14_, .int xq15_, .ref qq16_, .ref qq17_, .ref qq18_, .ref qq19_, .ref qq20_, .ref qq21_, .ref qq22_])) := conf_set rfl ho_h (show (_ : List fS)[7]? = some _ from rfl) (okI (by show (0 : Int) ≤ xq36_.toInt; omega) (by show xq36_.toInt ≤ (12 : Int); omega))
  have hc_h : Mq37_ h = some (.inr (0, [.int xq1_, .int xq24_, .int xq26_, .int xq28_, .int xq30_, .int xq32_, .int xq34_, .int xq36_, .int xq12_, .int xq13_, .int xq14_, .int xq15_, .ref qq16_, .ref qq17_, .ref qq18_, .ref qq19_, .ref qq20_, .ref qq21_, .ref qq22_])) := hc_h
  have hF : ∀ q, FrA T q → Mq37_ q = M q := fun q hq  => (hfr q (neA hq ht_h (by decide))).trans (hF q hq )
  refine lv_aload_n hx hb dX1_copy_64 rfl (lv_at hl 0 rfl) ?_
  refine lv_aload_n hx hb dX1_copy_65 rfl (lv_at hl 1 rfl) ?_
  refine tg hC hK hH flX1_64 ht_o rfl rfl dX1_copy_66 (fun xq38_ l_xq38_ g_xq38_ => ?_)
  have l_xq38_ : (0 : Int) ≤ xq38_.toInt := l_xq38_
  have g_xq38_ : xq38_.toInt ≤ 12 := g_xq38_
  refine yp (v := .int xq38_) hC hK hH flX1_64 hc_h (hasT ht_h (conf_set rfl ho_h (show (_ : List fS)[8]? = some _ from rfl) (okI (by show (0 : Int) ≤ xq38_.toInt; omega) (by show xq38_.toInt ≤ (12 : Int); omega)))) rfl rfl (Nat.le_of_ble_eq_true rfl) dX1_copy_69 (fun Hq_ lcq_ Mq39_ hc_h hfr hH => ?_)
  have ho_h : conf kA T 2 (.inr (0, [.int xq1_, .int xq24_, .int xq26_, .int xq28_, .int xq30_, .int xq32_, .int xq34_, .int xq36_, .int xq38_, .int xq13_, .int xq14_, .int xq15_, .ref qq16_, .ref qq17_, .ref qq18_, .ref qq19_, .ref qq20_, .ref qq21_, .ref qq22_])) := conf_set rfl ho_h (show (_ : List fS)[8]? = some _ from rfl) (okI (by show (0 : Int) ≤ xq38_.toInt; omega) (by show xq38_.toInt ≤ (12 : Int); omega))
  have hc_h : Mq39_ h = some (.inr (0, [.int xq1_, .int xq24_, .int xq26_, .int xq28_, .int xq30_, .int xq32_, .int xq34_, .int xq36_, .int xq38_, .int xq13_, .int xq14_, .int xq15_, .ref qq16_, .ref qq17_, .ref qq18_, .ref qq19_, .ref qq20_, .ref qq21_, .ref qq22_])) := hc_h
  have hF : ∀ q, FrA T q → Mq39_ q = M q := fun q hq  => (hfr q (neA hq ht_h (by decide))).trans (hF q hq )
  refine lv_aload_n hx hb dX1_copy_72 rfl (lv_at hl 0 rfl) ?_
  refine lv_aload_n hx hb dX1_copy_73 rfl (lv_at hl 1 rfl) ?_
  refine tg hC hK hH flX1_51 ht_o rfl rfl dX1_copy_74 (fun xq40_ l_xq40_ g_xq40_ => ?_)
  have l_xq40_ : (0 : Int) ≤ xq40_.toInt := l_xq40_
  have g_xq40_ : xq40_.toInt ≤ 1 := g_xq40_
  refine yp (v := .int xq40_) hC hK hH flX1_51 hc_h (hasT ht_h (conf_set rfl ho_h (show (_ : List fS)[9]? = some _ from rfl) (okI (by show (0 : Int) ≤ xq40_.toInt; omega) (by show xq40_.toInt ≤ (1 : Int); omega)))) (nz (z01 l_xq40_ g_xq40_)) (fz (z01 l_xq40_ g_xq40_)) (Nat.le_of_ble_eq_true rfl) dX1_copy_77 (fun Hq_ lcq_ Mq41_ hc_h hfr hH => ?_)
  have ho_h : conf kA T 2 (.inr (0, [.int xq1_, .int xq24_, .int xq26_, .int xq28_, .int xq30_, .int xq32_, .int xq34_, .int xq36_, .int xq38_, .int xq40_, .int xq14_, .int xq15_, .ref qq16_, .ref qq17_, .ref qq18_, .ref qq19_, .ref qq20_, .ref qq21_, .ref qq22_])) := conf_set rfl ho_h (show (_ : List fS)[9]? = some _ from rfl) (okI (by show (0 : Int) ≤ xq40_.toInt; omega) (by show xq40_.toInt ≤ (1 : Int); omega))
  have hc_h : Mq41_ h = some (.inr (0, [.int xq1_, .int xq24_, .int xq26_, .int xq28_, .int xq30_, .int xq32_, .int xq34_, .int xq36_, .int xq38_, .int xq40_, .int xq14_, .int xq15_, .ref qq16_, .ref qq17_, .ref qq18_, .ref qq19_, .ref qq20_, .ref qq21_, .ref qq22_])) := hc_h
  have hF : ∀ q, FrA T q → Mq41_ q = M q := fun q hq  => (hfr q (neA hq ht_h (by decide))).trans (hF q hq )
  refine lv_aload_n hx hb dX1_copy_80 rfl (lv_at hl 0 rfl) ?_
  refine lv_aload_n hx hb dX1_copy_81 rfl (lv_at hl 1 rfl) ?_
  refine tg hC hK hH flX1_67 ht_o rfl rfl dX1_copy_82 (fun xq42_ l_xq42_ g_xq42_ => ?_)
  have l_xq42_ : (0 : Int) ≤ xq42_.toInt := l_xq42_
  have g_xq42_ : xq42_.toInt ≤ 1 := g_xq42_
  refine yp (v := .int xq42_) hC hK hH flX1_67 hc_h (hasT ht_h (conf_set rfl ho_h (show (_ : List fS)[10]? = some _ from rfl) (okI (by show (0 : Int) ≤ xq42_.toInt; omega) (by show xq42_.toInt ≤ (1 : Int); omega)))) (nz (z01 l_xq42_ g_xq42_)) (fz (z01 l_xq42_ g_xq42_)) (Nat.le_of_ble_eq_true rfl) dX1_copy_85 (fun Hq_ lcq_ Mq43_ hc_h hfr hH => ?_)
  have ho_h : conf kA T 2 (.inr (0, [.int xq1_, .int xq24_, .int xq26_, .int xq28_, .int xq30_, .int xq32_, .int xq34_, .int xq36_, .int xq38_, .int xq40_, .int xq42_, .int xq15_, .ref qq16_, .ref qq17_, .ref qq18_, .ref qq19_, .ref qq20_, .ref qq21_, .ref qq22_])) := conf_set rfl ho_h (show (_ : List fS)[10]? = some _ from rfl) (okI (by show (0 : Int) ≤ xq42_.toInt; omega) (by show xq42_.toInt ≤ (1 : Int); omega))
  have hc_h : Mq43_ h = some (.inr (0, [.int xq1_, .int xq24_, .int xq26_, .int xq28_, .int xq30_, .int xq32_, .int xq34_, .int xq36_, .int xq38_, .int xq40_, .int xq42_, .int xq15_, .ref qq16_, .ref qq17_, .ref qq18_, .ref qq19_, .ref qq20_, .ref qq21_, .ref qq22_])) := hc_h
  have hF : ∀ q, FrA T q → Mq43_ q = M q := fun q hq  => (hfr q (neA hq ht_h (by decide))).trans (hF q hq )
  refine lv_aload_n hx hb dX1_copy_88 rfl (lv_at hl 0 rfl) ?_
  refine lv_aload_n hx hb dX1_copy_89 rfl (lv_at hl 1 rfl) ?_
  refine tg hC hK hH flX1_70 ht_o rfl rfl dX1_copy_90 (fun xq44_ l_xq44_ g_xq44_ => ?_)
  have l_xq44_ : (0 : Int) ≤ xq44_.toInt := l_xq44_
  have g_xq44_ : xq44_.toInt ≤ 1 := g_xq44_
  refine yp (v := .int xq44_) hC hK hH flX1_70 hc_h (hasT ht_h (conf_set rfl ho_h (show (_ : List fS)[11]? = some _ from rfl) (okI (by show (0 : Int) ≤ xq44_.toInt; omega) (by show xq44_.toInt ≤ (1 : Int); omega)))) (nz (z01 l_xq44_ g_xq44_)) (fz (z01 l_xq44_ g_xq44_)) (Nat.le_of_ble_eq_true rfl) dX1_copy_93 (fun Hq_ lcq_ Mq45_ hc_h hfr hH => ?_)
  have ho_h : conf kA T 2 (.inr (0, [.int xq1_, .int xq24_, .int xq26_, .int xq28_, .int xq30_, .int xq32_, .int xq34_, .int xq36_, .int xq38_, .int xq40_, .int xq42_, .int xq44_, .ref qq16_, .ref qq17_, .ref qq18_, .ref qq19_, .ref qq20_, .ref qq21_, .ref qq22_])) := conf_set rfl ho_h (show (_ : List fS)[11]? = some _ from rfl) (okI (by show (0 : Int) ≤ xq44_.toInt; omega) (by show xq44_.toInt ≤ (1 : Int); omega))
  have hc_h : Mq45_ h = some (.inr (0, [.int xq1_, .int xq24_, .int xq26_, .int xq28_, .int xq30_, .int xq32_, .int xq34_, .int xq36_, .int xq38_, .int xq40_, .int xq42_, .int xq44_, .ref qq16_, .ref qq17_, .ref qq18_, .ref qq19_, .ref qq20_, .ref qq21_, .ref qq22_])) := hc_h
  have hF : ∀ q, FrA T q → Mq45_ q = M q := fun q hq  => (hfr q (neA hq ht_h (by decide))).trans (hF q hq )
  refine lv_iconst (v := 0) hx hb dX1_copy_96 (by decide) ?_
  refine lv_istore_n (lv' := [(2, .int 0), (0, .ref h), (1, .ref o)]) hx hb dX1_copy_97 rfl hl (by decide) rfl (fun ls hl => ?_)
  have loop : ∀ (n : Nat) (iq46_ : Int32) (Hq_ : Heap) (lcq_ : List Loc) (Mq47_ : mM) (ls : Array Slot), iq46_.toInt + (n : Int) = 12 → (0 : Int) ≤ iq46_.toInt → iq46_.toInt ≤ 12 → Mq47_ h = some (.inr (0, [.int xq1_, .int xq24_, .int xq26_, .int xq28_, .int xq30_, .int xq32_, .int xq34_, .int xq36_, .int xq38_, .int xq40_, .int xq42_, .int xq44_, .ref qq16_, .ref qq17_, .ref qq18_, .ref qq19_, .ref qq20_, .ref qq21_, .ref qq22_])) → (∀ q, FrA T q → Mq47_ q = M q) → mS D kA Mq47_ T (mA M T sz) s.heap Hq_ lcq_ → lv_has ls 3 [(2, .int iq46_), (0, .ref h), (1, .ref o)] → W p l e (rmL 2 0 0) s m ([.ref h, .ref o] : List Value).toArray below meth c Hq_ lcq_ 0 0 (MQ below (va_Qv (fun u => (True) ∧ u.2 = T ∧ (∀ q, FrA T q → u.1 q = M q)) (mB D kA M T sz) (mA M T sz)) ([.ref h, .ref o] : List Value).toArray s 0 0 (mA M T sz)) (F0 m 98 ls []) := by
    intro n
    induction n with
    | zero =>
      intro iq46_ Hq_ lcq_ Mq47_ ls hi_iq46_ h0_iq46_ h9_iq46_ hc_h hF hH hl
      have hi2_iq46_ : iq46_.toInt = 12 := by omega
      refine lv_iload_n hx hb dX1_copy_98 rfl (lv_at hl 0 rfl) ?_
      refine lv_bipush (v := 12) hx hb dX1_copy_99 (by decide) ?_
      refine jic_ge (tgt := 133) hx hb dX1_copy_101 (by decide) (fun cq48_ => ?_) (fun cq48_ => absurd cq48_ (by have := iRg iq46_; have : (12 : Int32).toInt = 12 := rfl; omega))
      have cq48_ : 12 ≤ iq46_.toInt := cq48_
      refine lv_aload_n hx hb dX1_copy_133 rfl (lv_at hl 1 rfl) ?_
      refine xg hC hK hH flX1_20 hc_h rfl dX1_copy_134 ?_
      refine lv_aload_n hx hb dX1_copy_137 rfl (lv_at hl 2 rfl) ?_
      refine tgr hC hK hH flX1_20 ht_o rfl rfl dX1_copy_138 (fun qq49_ t_qq49_ => ?_)
      refine goV hK hH (runV (As := [.ref qq49_]) (rest := []) hC hK hH (c_X2_copy t_qq17_ t_qq49_) mlX1_77 (rcvT hK hH t_qq17_ rfl rfl) ⟨⟨Nat.le_of_ble_eq_true rfl, Nat.le_of_ble_eq_true rfl⟩, Nat.le_of_ble_eq_true rfl, Nat.le_of_ble_eq_true rfl⟩ rfl hl.1 rfl (Nat.le_of_ble_eq_true rfl) dX1_copy_141) (fun Mq50_ Tq51_ Hq_ lcq_ hP hz hH => ?_)
      try dsimp only at hP
      obtain ⟨(-), eT, hfr⟩ := hP
      have eT := eT.symm; subst eT
      have hc_h : Mq50_ h = some (.inr (0, [.int xq1_, .int xq24_, .int xq26_, .int xq28_, .int xq30_, .int xq32_, .int xq34_, .int xq36_, .int xq38_, .int xq40_, .int xq42_, .int xq44_, .ref qq16_, .ref qq17_, .ref qq18_, .ref qq19_, .ref qq20_, .ref qq21_, .ref qq22_])) := (hfr h (Or.inr (Or.inr ht_h)) ).trans hc_h
      have hF : ∀ q, FrA T q → Mq50_ q = M q := fun q hq  => (hfr q (FrA.k hq) ).trans (hF q hq )
      refine lv_aload_n hx hb dX1_copy_144 rfl (lv_at hl 1 rfl) ?_
      refine xg hC hK hH flX1_24 hc_h rfl dX1_copy_145 ?_
      refine lv_aload_n hx hb dX1_copy_148 rfl (lv_at hl 2 rfl) ?_
      refine tgr hC hK hH flX1_24 ht_o rfl rfl dX1_copy_149 (fun qq53_ t_qq53_ => ?_)
      refine goV hK hH (runV (As := [.ref qq53_]) (rest := []) hC hK hH (c_X2_copy t_qq18_ t_qq53_) mlX1_77 (rcvT hK hH t_qq18_ rfl rfl) ⟨⟨Nat.le_of_ble_eq_true rfl, Nat.le_of_ble_eq_true rfl⟩, Nat.le_of_ble_eq_true rfl, Nat.le_of_ble_eq_true rfl⟩ rfl hl.1 rfl (Nat.le_of_ble_eq_true rfl) dX1_copy_152) (fun Mq54_ Tq55_ Hq_ lcq_ hP hz hH => ?_)
      try dsimp only at hP
      obtain ⟨(-), eT, hfr⟩ := hP
      have eT := eT.symm; subst eT
      have hc_h : Mq54_ h = some (.inr (0, [.int xq1_, .int xq24_, .int xq26_, .int xq28_, .int xq30_, .int xq32_, .int xq34_, .int xq36_, .int xq38_, .int xq40_, .int xq42_, .int xq44_, .ref qq16_, .ref qq17_, .ref qq18_, .ref qq19_, .ref qq20_, .ref qq21_, .ref qq22_])) := (hfr h (Or.inr (Or.inr ht_h)) ).trans hc_h
      have hF : ∀ q, FrA T q → Mq54_ q = M q := fun q hq  => (hfr q (FrA.k hq) ).trans (hF q hq )
      refine lv_aload_n hx hb dX1_copy_155 rfl (lv_at hl 2 rfl) ?_
      refine tgr hC hK hH flX1_27 ht_o rfl rfl dX1_copy_156 (fun qq57_ t_qq57_ => ?_)
      refine lv_iconst (v := 0) hx hb dX1_copy_159 (by decide) ?_
      refine lv_aload_n hx hb dX1_copy_160 rfl (lv_at hl 1 rfl) ?_
      refine xg hC hK hH flX1_27 hc_h rfl dX1_copy_161 ?_
      refine lv_iconst (v := 0) hx hb dX1_copy_164 (by decide) ?_
      refine lv_bipush (v := 14) hx hb dX1_copy_165 (by decide) ?_
      refine tcpy hC hK hH hl.1 cpX1_90 t_qq57_ t_qq19_ rfl rfl rfl (fun _ _ _ => rfl) (by decide) (by decide) (by decide) (Nat.le_of_ble_eq_true rfl) (Nat.le_of_ble_eq_true rfl) (Nat.le_of_ble_eq_true rfl) (Nat.le_of_ble_eq_true rfl) dX1_copy_167 (fun Hq_ lcq_ Mq58_ _ hfr hH => ?_)
      have hc_h : Mq58_ h = some (.inr (0, [.int xq1_, .int xq24_, .int xq26_, .int xq28_, .int xq30_, .int xq32_, .int xq34_, .int xq36_, .int xq38_, .int xq40_, .int xq42_, .int xq44_, .ref qq16_, .ref qq17_, .ref qq18_, .ref qq19_, .ref qq20_, .ref qq21_, .ref qq22_])) := (hfr h (neF (Or.inr (Or.inr ht_h)) t_qq19_ (by decide))).trans hc_h
      have hF : ∀ q, FrA T q → Mq58_ q = M q := fun q hq  => (hfr q (neA hq t_qq19_ (by decide))).trans (hF q hq )
      refine lv_aload_n hx hb dX1_copy_170 rfl (lv_at hl 2 rfl) ?_
      refine tgr hC hK hH flX1_31 ht_o rfl rfl dX1_copy_171 (fun qq59_ t_qq59_ => ?_)
      refine lv_iconst (v := 0) hx hb dX1_copy_174 (by decide) ?_
      refine lv_aload_n hx hb dX1_copy_175 rfl (lv_at hl 1 rfl) ?_
      refine xg hC hK hH flX1_31 hc_h rfl dX1_copy_176 ?_
      refine lv_iconst (v := 0) hx hb dX1_copy_179 (by decide) ?_
      refine lv_bipush (v := 14) hx hb dX1_copy_180 (by decide) ?_
      refine tcpy hC hK hH hl.1 cpX1_90 t_qq59_ t_qq20_ rfl rfl rfl (fun _ _ _ => rfl) (by decide) (by decide) (by decide) (Nat.le_of_ble_eq_true rfl) (Nat.le_of_ble_eq_true rfl) (Nat.le_of_ble_eq_true rfl) (Nat.le_of_ble_eq_true rfl) dX1_copy_182 (fun Hq_ lcq_ Mq60_ _ hfr hH => ?_)
      have hc_h : Mq60_ h = some (.inr (0, [.int xq1_, .int xq24_, .int xq26_, .int xq28_, .int xq30_, .int xq32_, .int xq34_, .int xq36_, .int xq38_, .int xq40_, .int xq42_, .int xq44_, .ref qq16_, .ref qq17_, .ref qq18_, .ref qq19_, .ref qq20_, .ref qq21_, .ref qq22_])) := (hfr h (neF (Or.inr (Or.inr ht_h)) t_qq20_ (by decide))).trans hc_h
      have hF : ∀ q, FrA T q → Mq60_ q = M q := fun q hq  => (hfr q (neA hq t_qq20_ (by decide))).trans (hF q hq )
      refine lv_aload_n hx hb dX1_copy_185 rfl (lv_at hl 2 rfl) ?_
      refine tgr hC hK hH flX1_34 ht_o rfl rfl dX1_copy_186 (fun qq61_ t_qq61_ => ?_)
      refine lv_iconst (v := 0) hx hb dX1_copy_189 (by decide) ?_
      refine lv_aload_n hx hb dX1_copy_190 rfl (lv_at hl 1 rfl) ?_
      refine xg hC hK hH flX1_34 hc_h rfl dX1_copy_191 ?_
      refine lv_iconst (v := 0) hx hb dX1_copy_194 (by decide) ?_
      refine lv_bipush (v := 14) hx hb dX1_copy_195 (by decide) ?_
      refine tcpy hC hK hH hl.1 cpX1_90 t_qq61_ t_qq21_ rfl rfl rfl (fun _ _ _ => rfl) (by decide) (by decide) (by decide) (Nat.le_of_ble_eq_true rfl) (Nat.le_of_ble_eq_true rfl) (Nat.le_of_ble_eq_true rfl) (Nat.le_of_ble_eq_true rfl) dX1_copy_197 (fun Hq_ lcq_ Mq62_ _ hfr hH => ?_)
      have hc_h : Mq62_ h = some (.inr (0, [.int xq1_, .int xq24_, .int xq26_, .int xq28_, .int xq30_, .int xq32_, .int xq34_, .int xq36_, .int xq38_, .int xq40_, .int xq42_, .int xq44_, .ref qq16_, .ref qq17_, .ref qq18_, .ref qq19_, .ref qq20_, .ref qq21_, .ref qq22_])) := (hfr h (neF (Or.inr (Or.inr ht_h)) t_qq21_ (by decide))).trans hc_h
      have hF : ∀ q, FrA T q → Mq62_ q = M q := fun q hq  => (hfr q (neA hq t_qq21_ (by decide))).trans (hF q hq )
      refine lv_aload_n hx hb dX1_copy_200 rfl (lv_at hl 2 rfl) ?_
      refine tgr hC hK hH flX1_37 ht_o rfl rfl dX1_copy_201 (fun qq63_ t_qq63_ => ?_)
      refine lv_iconst (v := 0) hx hb dX1_copy_204 (by decide) ?_
      refine lv_aload_n hx hb dX1_copy_205 rfl (lv_at hl 1 rfl) ?_
      refine xg hC hK hH flX1_37 hc_h rfl dX1_copy_206 ?_
      refine lv_iconst (v := 0) hx hb dX1_copy_209 (by decide) ?_
      refine lv_bipush (v := 14) hx hb dX1_copy_210 (by decide) ?_
      refine tcpy hC hK hH hl.1 cpX1_90 t_qq63_ t_qq22_ rfl rfl rfl (fun _ _ _ => rfl) (by decide) (by decide) (by decide) (Nat.le_of_ble_eq_true rfl) (Nat.le_of_ble_eq_true rfl) (Nat.le_of_ble_eq_true rfl) (Nat.le_of_ble_eq_true rfl) dX1_copy_212 (fun Hq_ lcq_ Mq64_ _ hfr hH => ?_)
      have hc_h : Mq64_ h = some (.inr (0, [.int xq1_, .int xq24_, .int xq26_, .int xq28_, .int xq30_, .int xq32_, .int xq34_, .int xq36_, .int xq38_, .int xq40_, .int xq42_, .int xq44_, .ref qq16_, .ref qq17_, .ref qq18_, .ref qq19_, .ref qq20_, .ref qq21_, .ref qq22_])) := (hfr h (neF (Or.inr (Or.inr ht_h)) t_qq22_ (by decide))).trans hc_h
      have hF : ∀ q, FrA T q → Mq64_ q = M q := fun q hq  => (hfr q (neA hq t_qq22_ (by decide))).trans (hF q hq )
      exact ret_v hC hr hlk hK hH (⟨trivial, rfl, hF⟩) (Nat.le_of_ble_eq_true rfl) (Nat.le_of_ble_eq_true rfl) dX1_copy_215
    | succ n ih =>
      intro iq46_ Hq_ lcq_ Mq47_ ls hi_iq46_ h0_iq46_ h9_iq46_ hc_h hF hH hl
      have hi2_iq46_ : iq46_.toInt ≤ 11 := by omega
      refine lv_iload_n hx hb dX1_copy_98 rfl (lv_at hl 0 rfl) ?_
      refine lv_bipush (v := 12) hx hb dX1_copy_99 (by decide) ?_
      refine jic_ge (tgt := 133) hx hb dX1_copy_101 (by decide) (fun cq65_ => absurd cq65_ (by have := iRg iq46_; have : (12 : Int32).toInt = 12 := rfl; omega)) (fun cq65_ => ?_)
      have cq65_ : iq46_.toInt < 12 := cq65_
      refine lv_iload_n hx hb dX1_copy_104 rfl (lv_at hl 0 rfl) ?_
      refine lv_aload_n hx hb dX1_copy_105 rfl (lv_at hl 2 rfl) ?_
      refine tg hC hK hH flX1_61 ht_o rfl rfl dX1_copy_106 (fun xq66_ l_xq66_ g_xq66_ => ?_)
      have l_xq66_ : (0 : Int) ≤ xq66_.toInt := l_xq66_
      have g_xq66_ : xq66_.toInt ≤ 12 := g_xq66_
      refine jic_ge (tgt := 133) hx hb dX1_copy_109 (by decide) (fun cq67_ => ?_) (fun cq67_ => ?_)
      · skip
        have cq67_ : xq66_.toInt ≤ iq46_.toInt := cq67_
        refine lv_aload_n hx hb dX1_copy_133 rfl (lv_at hl 1 rfl) ?_
        refine xg hC hK hH flX1_20 hc_h rfl dX1_copy_134 ?_
        refine lv_aload_n hx hb dX1_copy_137 rfl (lv_at hl 2 rfl) ?_
        refine tgr hC hK hH flX1_20 ht_o rfl rfl dX1_copy_138 (fun qq68_ t_qq68_ => ?_)
        refine goV hK hH (runV (As := [.ref qq68_]) (rest := []) hC hK hH (c_X2_copy t_qq17_ t_qq68_) mlX1_77 (rcvT hK hH t_qq17_ rfl rfl) ⟨⟨Nat.le_of_ble_eq_true rfl, Nat.le_of_ble_eq_true rfl⟩, Nat.le_of_ble_eq_true rfl, Nat.le_of_ble_eq_true rfl⟩ rfl hl.1 rfl (Nat.le_of_ble_eq_true rfl) dX1_copy_141) (fun Mq69_ Tq70_ Hq_ lcq_ hP hz hH => ?_)
        try dsimp only at hP
        obtain ⟨(-), eT, hfr⟩ := hP
        have eT := eT.symm; subst eT
        have hc_h : Mq69_ h = some (.inr (0, [.int xq1_, .int xq24_, .int xq26_, .int xq28_, .int xq30_, .int xq32_, .int xq34_, .int xq36_, .int xq38_, .int xq40_, .int xq42_, .int xq44_, .ref qq16_, .ref qq17_, .ref qq18_, .ref qq19_, .ref qq20_, .ref qq21_, .ref qq22_])) := (hfr h (Or.inr (Or.inr ht_h)) ).trans hc_h
        have hF : ∀ q, FrA T q → Mq69_ q = M q := fun q hq  => (hfr q (FrA.k hq) ).trans (hF q hq )
        refine lv_aload_n hx hb dX1_copy_144 rfl (lv_at hl 1 rfl) ?_
        refine xg hC hK hH flX1_24 hc_h rfl dX1_copy_145 ?_
        refine lv_aload_n hx hb dX1_copy_148 rfl (lv_at hl 2 rfl) ?_
        refine tgr hC hK hH flX1_24 ht_o rfl rfl dX1_copy_149 (fun qq72_ t_qq72_ => ?_)
        refine goV hK hH (runV (As := [.ref qq72_]) (rest := []) hC hK hH (c_X2_copy t_qq18_ t_qq72_) mlX1_77 (rcvT hK hH t_qq18_ rfl rfl) ⟨⟨Nat.le_of_ble_eq_true rfl, Nat.le_of_ble_eq_true rfl⟩, Nat.le_of_ble_eq_true rfl, Nat.le_of_ble_eq_true rfl⟩ rfl hl.1 rfl (Nat.le_of_ble_eq_true rfl) dX1_copy_152) (fun Mq73_ Tq74_ Hq_ lcq_ hP hz hH => ?_)
        try dsimp only at hP
        obtain ⟨(-), eT, hfr⟩ := hP
        have eT := eT.symm; subst eT
        have hc_h : Mq73_ h = some (.inr (0, [.int xq1_, .int xq24_, .int xq26_, .int xq28_, .int xq30_, .int xq32_, .int xq34_, .int xq36_, .int xq38_, .int xq40_, .int xq42_, .int xq44_, .ref qq16_, .ref qq17_, .ref qq18_, .ref qq19_, .ref qq20_, .ref qq21_, .ref qq22_])) := (hfr h (Or.inr (Or.inr ht_h)) ).trans hc_h
        have hF : ∀ q, FrA T q → Mq73_ q = M q := fun q hq  => (hfr q (FrA.k hq) ).trans (hF q hq )
        refine lv_aload_n hx hb dX1_copy_155 rfl (lv_at hl 2 rfl) ?_
        refine tgr hC hK hH flX1_27 ht_o rfl rfl dX1_copy_156 (fun qq76_ t_qq76_ => ?_)
        refine lv_iconst (v := 0) hx hb dX1_copy_159 (by decide) ?_
        refine lv_aload_n hx hb dX1_copy_160 rfl (lv_at hl 1 rfl) ?_
        refine xg hC hK hH flX1_27 hc_h rfl dX1_copy_161 ?_
        refine lv_iconst (v := 0) hx hb dX1_copy_164 (by decide) ?_
        refine lv_bipush (v := 14) hx hb dX1_copy_165 (by decide) ?_
        refine tcpy hC hK hH hl.1 cpX1_90 t_qq76_ t_qq19_ rfl rfl rfl (fun _ _ _ => rfl) (by decide) (by decide) (by decide) (Nat.le_of_ble_eq_true rfl) (Nat.le_of_ble_eq_true rfl) (Nat.le_of_ble_eq_true rfl) (Nat.le_of_ble_eq_true rfl) dX1_copy_167 (fun Hq_ lcq_ Mq77_ _ hfr hH => ?_)
        have hc_h : Mq77_ h = some (.inr (0, [.int xq1_, .int xq24_, .int xq26_, .int xq28_, .int xq30_, .int xq32_, .int xq34_, .int xq36_, .int xq38_, .int xq40_, .int xq42_, .int xq44_, .ref qq16_, .ref qq17_, .ref qq18_, .ref qq19_, .ref qq20_, .ref qq21_, .ref qq22_])) := (hfr h (neF (Or.inr (Or.inr ht_h)) t_qq19_ (by decide))).trans hc_h
        have hF : ∀ q, FrA T q → Mq77_ q = M q := fun q hq  => (hfr q (neA hq t_qq19_ (by decide))).trans (hF q hq )
        refine lv_aload_n hx hb dX1_copy_170 rfl (lv_at hl 2 rfl) ?_
        refine tgr hC hK hH flX1_31 ht_o rfl rfl dX1_copy_171 (fun qq78_ t_qq78_ => ?_)
        refine lv_iconst (v := 0) hx hb dX1_copy_174 (by decide) ?_
        refine lv_aload_n hx hb dX1_copy_175 rfl (lv_at hl 1 rfl) ?_
        refine xg hC hK hH flX1_31 hc_h rfl dX1_copy_176 ?_
        refine lv_iconst (v := 0) hx hb dX1_copy_179 (by decide) ?_
        refine lv_bipush (v := 14) hx hb dX1_copy_180 (by decide) ?_
        refine tcpy hC hK hH hl.1 cpX1_90 t_qq78_ t_qq20_ rfl rfl rfl (fun _ _ _ => rfl) (by decide) (by decide) (by decide) (Nat.le_of_ble_eq_true rfl) (Nat.le_of_ble_eq_true rfl) (Nat.le_of_ble_eq_true rfl) (Nat.le_of_ble_eq_true rfl) dX1_copy_182 (fun Hq_ lcq_ Mq79_ _ hfr hH => ?_)
        have hc_h : Mq79_ h = some (.inr (0, [.int xq1_, .int xq24_, .int xq26_, .int xq28_, .int xq30_, .int xq32_, .int xq34_, .int xq36_, .int xq38_, .int xq40_, .int xq42_, .int xq44_, .ref qq16_, .ref qq17_, .ref qq18_, .ref qq19_, .ref qq20_, .ref qq21_, .ref qq22_])) := (hfr h (neF (Or.inr (Or.inr ht_h)) t_qq20_ (by decide))).trans hc_h
        have hF : ∀ q, FrA T q → Mq79_ q = M q := fun q hq  => (hfr q (neA hq t_qq20_ (by decide))).trans (hF q hq )
        refine lv_aload_n hx hb dX1_copy_185 rfl (lv_at hl 2 rfl) ?_
        refine tgr hC hK hH flX1_34 ht_o rfl rfl dX1_copy_186 (fun qq80_ t_qq80_ => ?_)
        refine lv_iconst (v := 0) hx hb dX1_copy_189 (by decide) ?_
        refine lv_aload_n hx hb dX1_copy_190 rfl (lv_at hl 1 rfl) ?_
        refine xg hC hK hH flX1_34 hc_h rfl dX1_copy_191 ?_
        refine lv_iconst (v := 0) hx hb dX1_copy_194 (by decide) ?_
        refine lv_bipush (v := 14) hx hb dX1_copy_195 (by decide) ?_
        refine tcpy hC hK hH hl.1 cpX1_90 t_qq80_ t_qq21_ rfl rfl rfl (fun _ _ _ => rfl) (by decide) (by decide) (by decide) (Nat.le_of_ble_eq_true rfl) (Nat.le_of_ble_eq_true rfl) (Nat.le_of_ble_eq_true rfl) (Nat.le_of_ble_eq_true rfl) dX1_copy_197 (fun Hq_ lcq_ Mq81_ _ hfr hH => ?_)
        have hc_h : Mq81_ h = some (.inr (0, [.int xq1_, .int xq24_, .int xq26_, .int xq28_, .int xq30_, .int xq32_, .int xq34_, .int xq36_, .int xq38_, .int xq40_, .int xq42_, .int xq44_, .ref qq16_, .ref qq17_, .ref qq18_, .ref qq19_, .ref qq20_, .ref qq21_, .ref qq22_])) := (hfr h (neF (Or.inr (Or.inr ht_h)) t_qq21_ (by decide))).trans hc_h
        have hF : ∀ q, FrA T q → Mq81_ q = M q := fun q hq  => (hfr q (neA hq t_qq21_ (by decide))).trans (hF q hq )
        refine lv_aload_n hx hb dX1_copy_200 rfl (lv_at hl 2 rfl) ?_
        refine tgr hC hK hH flX1_37 ht_o rfl rfl dX1_copy_201 (fun qq82_ t_qq82_ => ?_)
        refine lv_iconst (v := 0) hx hb dX1_copy_204 (by decide) ?_
        refine lv_aload_n hx hb dX1_copy_205 rfl (lv_at hl 1 rfl) ?_
        refine xg hC hK hH flX1_37 hc_h rfl dX1_copy_206 ?_
        refine lv_iconst (v := 0) hx hb dX1_copy_209 (by decide) ?_
        refine lv_bipush (v := 14) hx hb dX1_copy_210 (by decide) ?_
        refine tcpy hC hK hH hl.1 cpX1_90 t_qq82_ t_qq22_ rfl rfl rfl (fun _ _ _ => rfl) (by decide) (by decide) (by decide) (Nat.le_of_ble_eq_true rfl) (Nat.le_of_ble_eq_true rfl) (Nat.le_of_ble_eq_true rfl) (Nat.le_of_ble_eq_true rfl) dX1_copy_212 (fun Hq_ lcq_ Mq83_ _ hfr hH => ?_)
        have hc_h : Mq83_ h = some (.inr (0, [.int xq1_, .int xq24_, .int xq26_, .int xq28_, .int xq30_, .int xq32_, .int xq34_, .int xq36_, .int xq38_, .int xq40_, .int xq42_, .int xq44_, .ref qq16_, .ref qq17_, .ref qq18_, .ref qq19_, .ref qq20_, .ref qq21_, .ref qq22_])) := (hfr h (neF (Or.inr (Or.inr ht_h)) t_qq22_ (by decide))).trans hc_h
        have hF : ∀ q, FrA T q → Mq83_ q = M q := fun q hq  => (hfr q (neA hq t_qq22_ (by decide))).trans (hF q hq )
        exact ret_v hC hr hlk hK hH (⟨trivial, rfl, hF⟩) (Nat.le_of_ble_eq_true rfl) (Nat.le_of_ble_eq_true rfl) dX1_copy_215
      · skip
        have cq67_ : iq46_.toInt < xq66_.toInt := cq67_
        refine lv_aload_n hx hb dX1_copy_112 rfl (lv_at hl 1 rfl) ?_
        refine xg hC hK hH flX1_11 hc_h rfl dX1_copy_113 ?_
        refine lv_iload_n hx hb dX1_copy_116 rfl (lv_at hl 0 rfl) ?_
        refine tqld hC hK hH t_qq16_ rfl rfl (iIn (by omega) (by omega)) dX1_copy_117 (fun qq84_ t_qq84_ => ?_)
        refine lv_aload_n hx hb dX1_copy_118 rfl (lv_at hl 2 rfl) ?_
        refine tgr hC hK hH flX1_11 ht_o rfl rfl dX1_copy_119 (fun qq85_ t_qq85_ => ?_)
        refine lv_iload_n hx hb dX1_copy_122 rfl (lv_at hl 0 rfl) ?_
        refine tqld hC hK hH t_qq85_ rfl rfl (iIn (by omega) (by omega)) dX1_copy_123 (fun qq86_ t_qq86_ => ?_)
        refine goV hK hH (runV (As := [.ref qq86_]) (rest := []) hC hK hH (c_X6_copy t_qq84_ t_qq86_) mlX1_87 (rcvT hK hH t_qq84_ rfl rfl) ⟨⟨Nat.le_of_ble_eq_true rfl, Nat.le_of_ble_eq_true rfl⟩, Nat.le_of_ble_eq_true rfl, Nat.le_of_ble_eq_true rfl⟩ rfl hl.1 rfl (Nat.le_of_ble_eq_true rfl) dX1_copy_124) (fun Mq87_ Tq88_ Hq_ lcq_ hP hz hH => ?_)
        try dsimp only at hP
        obtain ⟨(-), eT, hfr⟩ := hP
        have eT := eT.symm; subst eT
        have hc_h : Mq87_ h = some (.inr (0, [.int xq1_, .int xq24_, .int xq26_, .int xq28_, .int xq30_, .int xq32_, .int xq34_, .int xq36_, .int xq38_, .int xq40_, .int xq42_, .int xq44_, .ref qq16_, .ref qq17_, .ref qq18_, .ref qq19_, .ref qq20_, .ref qq21_, .ref qq22_])) := (hfr h (Or.inr (Or.inr ht_h)) ).trans hc_h
        have hF : ∀ q, FrA T q → Mq87_ q = M q := fun q hq  => (hfr q (FrA.k hq) ).trans (hF q hq )
        obtain ⟨zq90_, e_zq90_⟩ : ∃ y : Int32, y = iq46_ + 1 := ⟨_, rfl⟩
        refine lv_iinc (v := zq90_) (lv' := [(2, .int zq90_), (0, .ref h), (1, .ref o)]) hx hb dX1_copy_127 hl (k := 0) rfl (by rw [e_zq90_]; rfl) (by decide) rfl (fun ls hl => ?_)
        have h_zq90_ : zq90_.toInt = iq46_.toInt + 1 := by rw [e_zq90_, iAdd (by have : (1 : Int32).toInt = 1 := rfl; omega) (by have : (1 : Int32).toInt = 1 := rfl; omega)]; rfl
        refine lv_goto (tgt := 98) hx hb dX1_copy_130 (by decide) ?_
        exact ih zq90_ _ _ _ ls (by omega) (by omega) (by omega) hc_h hF hH (lv_sub hl [0, 1, 2] rfl)
  exact loop (Int.toNat (12 - 0)) 0 _ _ _ ls (by have : (0 : Int32).toInt = 0 := rfl; omega) (by have : (0 : Int32).toInt = 0 := rfl; omega) (by have : (0 : Int32).toInt = 0 := rfl; omega) hc_h hF hH hl
set_option maxHeartbeats 4000000 in
set_option maxRecDepth 100000 in
theorem c_X1_whyNoStep {l : Launch} {D : va_G} {kA : Nat → ClassId} {M : mM} {T : mT} {sz : Nat} {h st ch sr no fo fb df : Nat} {dr de pe su du ha di sc ss op ac dn : Int32} {to : Int32} (hc_h : M h = some (.inr (0, [.int dr, .int de, .int pe, .int su, .int du, .int ha, .int di, .int sc, .int ss, .int op, .int ac, .int dn, .ref st, .ref ch, .ref sr, .ref no, .ref fo, .ref fb, .ref df]))) (ho_h : conf kA T 2 (.inr (0, [.int dr, .int de, .int pe, .int su, .int du, .int ha, .int di, .int sc, .int ss, .int op, .int ac, .int dn, .ref st, .ref ch, .ref sr, .ref no, .ref fo, .ref fb, .ref df]))) (ht_h : T h = some 2) (h1 : 0 ≤ sc.toInt ∧ sc.toInt ≤ 12) (h2 : 0 ≤ dn.toInt ∧ dn.toInt ≤ 1) : mCi l yX1_whyNoStep cX1_whyNoStep 2 (some .int) 0 0 0 D kA M T sz [.ref h, .int to] (fun r u => ((sc.toInt ≤ 11 ∧ r = 0) ∨ (r = 30) ∨ (r = 31)) ∧ u.2 = T ∧ u.1 = M) := by
  unfold mCi
  refine start_W (by decide) (Nat.le_of_ble_eq_true rfl) ?_
  intro p e s m below meth c ls hC hr hlk hnm hK hH hsz hl
  have hx := hC.1
  have hb := hC.2.1
  have hl : lv_has ls 2 [(0, .ref h), (1, .int to)] := hl
  refine lv_iload_n hx hb dX1_whyNoStep_0 rfl (lv_at hl 1 rfl) ?_
  refine lv_aload_n hx hb dX1_whyNoStep_1 rfl (lv_at hl 0 rfl) ?_
  refine xg hC hK hH flX1_55 hc_h rfl dX1_whyNoStep_2 ?_
  refine jic_eq (tgt := 17) hx hb dX1_whyNoStep_5 (by decide) (fun cq1_ => ?_) (fun cq1_ => ?_)
  · skip
    have cq1_ : to.toInt = ha.toInt := cq1_
    refine lv_bipush (v := 30) hx hb dX1_whyNoStep_17 (by decide) ?_
    exact ret_i hC hr hlk hK hH (⟨Or.inr (Or.inl (rfl)), rfl, rfl⟩) (Nat.le_of_ble_eq_true rfl) (Nat.le_of_ble_eq_true rfl) dX1_whyNoStep_19
  · skip
    have cq1_ : to.toInt ≠ ha.toInt := cq1_
    refine lv_aload_n hx hb dX1_whyNoStep_8 rfl (lv_at hl 0 rfl) ?_
    refine xg hC hK hH flX1_61 hc_h rfl dX1_whyNoStep_9 ?_
    refine lv_bipush (v := 12) hx hb dX1_whyNoStep_12 (by decide) ?_
    refine jic_lt (tgt := 20) hx hb dX1_whyNoStep_14 (by decide) (fun cq2_ => ?_) (fun cq2_ => ?_)
    · skip
      have cq2_ : sc.toInt < 12 := cq2_
      refine lv_aload_n hx hb dX1_whyNoStep_20 rfl (lv_at hl 0 rfl) ?_
      refine xg hC hK hH flX1_70 hc_h rfl dX1_whyNoStep_21 ?_
      refine jif_eq (tgt := 32) hx hb dX1_whyNoStep_24 (by decide) (fun cq3_ => ?_) (fun cq3_ => ?_)
      · skip
        have cq3_ : dn.toInt = 0 := cq3_
        refine lv_iconst (v := 0) hx hb dX1_whyNoStep_32 (by decide) ?_
        exact ret_i hC hr hlk hK hH (⟨Or.inl (⟨by omega, rfl⟩), rfl, rfl⟩) (Nat.le_of_ble_eq_true rfl) (Nat.le_of_ble_eq_true rfl) dX1_whyNoStep_33
      · skip
        have cq3_ : dn.toInt ≠ 0 := cq3_
        refine lv_bipush (v := 31) hx hb dX1_whyNoStep_27 (by decide) ?_
        refine lv_goto (tgt := 33) hx hb dX1_whyNoStep_29 (by decide) ?_
        exact ret_i hC hr hlk hK hH (⟨Or.inr (Or.inr (rfl)), rfl, rfl⟩) (Nat.le_of_ble_eq_true rfl) (Nat.le_of_ble_eq_true rfl) dX1_whyNoStep_33
    · skip
      have cq2_ : 12 ≤ sc.toInt := cq2_
      refine lv_bipush (v := 30) hx hb dX1_whyNoStep_17 (by decide) ?_
      exact ret_i hC hr hlk hK hH (⟨Or.inr (Or.inl (rfl)), rfl, rfl⟩) (Nat.le_of_ble_eq_true rfl) (Nat.le_of_ble_eq_true rfl) dX1_whyNoStep_19
set_option maxHeartbeats 4000000 in
set_option maxRecDepth 100000 in
theorem c_X1_newStep {l : Launch} {D : va_G} {kA : Nat → ClassId} {M : mM} {T : mT} {sz : Nat} {h st ch sr no fo fb df : Nat} {dr de pe su du ha di sc ss op ac dn : Int32} {so nm to td : Int32} (hc_h : M h = some (.inr (0, [.int dr, .int de, .int pe, .int su, .int du, .int ha, .int di, .int sc, .int ss, .int op, .int ac, .int dn, .ref st, .ref ch, .ref sr, .ref no, .ref fo, .ref fb, .ref df]))) (ho_h : conf kA T 2 (.inr (0, [.int dr, .int de, .int pe, .int su, .int du, .int ha, .int di, .int sc, .int ss, .int op, .int ac, .int dn, .ref st, .ref ch, .ref sr, .ref no, .ref fo, .ref fb, .ref df]))) (ht_h : T h = some 2) (ht_st : T st = some 4) (h1 : 0 ≤ sc.toInt ∧ sc.toInt ≤ 11) (h2 : 0 ≤ to.toInt ∧ to.toInt ≤ 7) : mCr l yX1_newStep cX1_newStep 6 (some (.object "BillRegistry$Step")) 0 0 0 D kA M T sz [.ref h, .int so, .int nm, .int to, .int td] (fun u => (T u.2 = some 0) ∧ u.1.2 = T ∧ (∀ q, FrK T q → u.1.1 q = M q)) := by
  unfold mCr
  refine start_W (by decide) (Nat.le_of_ble_eq_true rfl) ?_
  intro p e s m below meth c ls hC hr hlk hnm hK hH hsz hl
  have hx := hC.1
  have hb := hC.2.1
  have hl : lv_has ls 6 [(0, .ref h), (1, .int so), (2, .int nm), (3, .int to), (4, .int td)] := hl
  have hF : ∀ q, FrK T q → M q = M q := fun q _  => rfl
  refine lv_aload_n hx hb dX1_newStep_0 rfl (lv_at hl 0 rfl) ?_
  refine xg hC hK hH flX1_11 hc_h rfl dX1_newStep_1 ?_
  refine lv_aload_n hx hb dX1_newStep_4 rfl (lv_at hl 0 rfl) ?_
  refine xg hC hK hH flX1_61 hc_h rfl dX1_newStep_5 ?_
  refine tqld hC hK hH ht_st rfl rfl (iIn (by omega) (by omega)) dX1_newStep_8 (fun qq1_ t_qq1_ => ?_)
  refine lv_astore (lv' := [(5, .ref qq1_), (0, .ref h), (1, .int so), (2, .int nm), (3, .int to), (4, .int td)]) hx hb dX1_newStep_9 hl (by decide) rfl (fun ls hl => ?_)
  refine lv_aload hx hb dX1_newStep_11 (lv_at hl 0 rfl) ?_
  refine lv_iload_n hx hb dX1_newStep_13 rfl (lv_at hl 2 rfl) ?_
  refine tpu hC hK hH flX1_123 t_qq1_ rfl rfl (iRg _).1 (iRg _).2 rfl rfl dX1_newStep_14 (fun Hq_ lcq_ Mq2_ _ hfr hH => ?_)
  have hc_h : Mq2_ h = some (.inr (0, [.int dr, .int de, .int pe, .int su, .int du, .int ha, .int di, .int sc, .int ss, .int op, .int ac, .int dn, .ref st, .ref ch, .ref sr, .ref no, .ref fo, .ref fb, .ref df])) := (hfr h (neF (Or.inr (Or.inr ht_h)) t_qq1_ (by decide))).trans hc_h
  have hF : ∀ q, FrK T q → Mq2_ q = M q := fun q hq  => (hfr q (neF hq t_qq1_ (by decide))).trans (hF q hq )
  refine lv_aload hx hb dX1_newStep_17 (lv_at hl 0 rfl) ?_
  refine lv_iload_n hx hb dX1_newStep_19 rfl (lv_at hl 2 rfl) ?_
  refine lv_iconst (v := 4) hx hb dX1_newStep_20 (by decide) ?_
  refine jic_ne (tgt := 28) hx hb dX1_newStep_21 (by decide) (fun cq3_ => ?_) (fun cq3_ => ?_)
  · skip
    have cq3_ : so.toInt ≠ 4 := cq3_
    refine lv_aload_n hx hb dX1_newStep_28 rfl (lv_at hl 1 rfl) ?_
    refine xg hC hK hH flX1_55 hc_h rfl dX1_newStep_29 ?_
    refine tpu hC hK hH flX1_126 t_qq1_ rfl rfl (iRg _).1 (iRg _).2 rfl rfl dX1_newStep_32 (fun Hq_ lcq_ Mq4_ _ hfr hH => ?_)
    have hc_h : Mq4_ h = some (.inr (0, [.int dr, .int de, .int pe, .int su, .int du, .int ha, .int di, .int sc, .int ss, .int op, .int ac, .int dn, .ref st, .ref ch, .ref sr, .ref no, .ref fo, .ref fb, .ref df])) := (hfr h (neF (Or.inr (Or.inr ht_h)) t_qq1_ (by decide))).trans hc_h
    have hF : ∀ q, FrK T q → Mq4_ q = M q := fun q hq  => (hfr q (neF hq t_qq1_ (by decide))).trans (hF q hq )
    refine lv_aload hx hb dX1_newStep_35 (lv_at hl 0 rfl) ?_
    refine lv_iload_n hx hb dX1_newStep_37 rfl (lv_at hl 3 rfl) ?_
    refine tpu hC hK hH flX1_100 t_qq1_ rfl rfl (iRg _).1 (iRg _).2 rfl rfl dX1_newStep_38 (fun Hq_ lcq_ Mq5_ _ hfr hH => ?_)
    have hc_h : Mq5_ h = some (.inr (0, [.int dr, .int de, .int pe, .int su, .int du, .int ha, .int di, .int sc, .int ss, .int op, .int ac, .int dn, .ref st, .ref ch, .ref sr, .ref no, .ref fo, .ref fb, .ref df])) := (hfr h (neF (Or.inr (Or.inr ht_h)) t_qq1_ (by decide))).trans hc_h
    have hF : ∀ q, FrK T q → Mq5_ q = M q := fun q hq  => (hfr q (neF hq t_qq1_ (by decide))).trans (hF q hq )
    refine lv_aload hx hb dX1_newStep_41 (lv_at hl 0 rfl) ?_
    refine lv_iload_n hx hb dX1_newStep_43 rfl (lv_at hl 4 rfl) ?_
    refine tpu hC hK hH flX1_129 t_qq1_ rfl rfl (by show (0 : Int) ≤ to.toInt; omega) (by show to.toInt ≤ (7 : Int); omega) rfl rfl dX1_newStep_44 (fun Hq_ lcq_ Mq6_ _ hfr hH => ?_)
    have hc_h : Mq6_ h = some (.inr (0, [.int dr, .int de, .int pe, .int su, .int du, .int ha, .int di, .int sc, .int ss, .int op, .int ac, .int dn, .ref st, .ref ch, .ref sr, .ref no, .ref fo, .ref fb, .ref df])) := (hfr h (neF (Or.inr (Or.inr ht_h)) t_qq1_ (by decide))).trans hc_h
    have hF : ∀ q, FrK T q → Mq6_ q = M q := fun q hq  => (hfr q (neF hq t_qq1_ (by decide))).trans (hF q hq )
    refine lv_aload hx hb dX1_newStep_47 (lv_at hl 0 rfl) ?_
    refine lv_iconst (v := 0) hx hb dX1_newStep_49 (by decide) ?_
    refine tpu hC hK hH flX1_132 t_qq1_ rfl rfl (iRg _).1 (iRg _).2 rfl rfl dX1_newStep_50 (fun Hq_ lcq_ Mq7_ _ hfr hH => ?_)
    have hc_h : Mq7_ h = some (.inr (0, [.int dr, .int de, .int pe, .int su, .int du, .int ha, .int di, .int sc, .int ss, .int op, .int ac, .int dn, .ref st, .ref ch, .ref sr, .ref no, .ref fo, .ref fb, .ref df])) := (hfr h (neF (Or.inr (Or.inr ht_h)) t_qq1_ (by decide))).trans hc_h
    have hF : ∀ q, FrK T q → Mq7_ q = M q := fun q hq  => (hfr q (neF hq t_qq1_ (by decide))).trans (hF q hq )
    refine lv_aload hx hb dX1_newStep_53 (lv_at hl 0 rfl) ?_
    refine lv_iconst (v := 0) hx hb dX1_newStep_55 (by decide) ?_
    refine tpu hC hK hH flX1_135 t_qq1_ rfl rfl (by decide) (by decide) rfl rfl dX1_newStep_56 (fun Hq_ lcq_ Mq8_ _ hfr hH => ?_)
    have hc_h : Mq8_ h = some (.inr (0, [.int dr, .int de, .int pe, .int su, .int du, .int ha, .int di, .int sc, .int ss, .int op, .int ac, .int dn, .ref st, .ref ch, .ref sr, .ref no, .ref fo, .ref fb, .ref df])) := (hfr h (neF (Or.inr (Or.inr ht_h)) t_qq1_ (by decide))).trans hc_h
    have hF : ∀ q, FrK T q → Mq8_ q = M q := fun q hq  => (hfr q (neF hq t_qq1_ (by decide))).trans (hF q hq )
    refine lv_aload hx hb dX1_newStep_59 (lv_at hl 0 rfl) ?_
    refine lv_iconst (v := 0) hx hb dX1_newStep_61 (by decide) ?_
    refine tpu hC hK hH flX1_138 t_qq1_ rfl rfl (by decide) (by decide) rfl rfl dX1_newStep_62 (fun Hq_ lcq_ Mq9_ _ hfr hH => ?_)
    have hc_h : Mq9_ h = some (.inr (0, [.int dr, .int de, .int pe, .int su, .int du, .int ha, .int di, .int sc, .int ss, .int op, .int ac, .int dn, .ref st, .ref ch, .ref sr, .ref no, .ref fo, .ref fb, .ref df])) := (hfr h (neF (Or.inr (Or.inr ht_h)) t_qq1_ (by decide))).trans hc_h
    have hF : ∀ q, FrK T q → Mq9_ q = M q := fun q hq  => (hfr q (neF hq t_qq1_ (by decide))).trans (hF q hq )
    refine lv_aload hx hb dX1_newStep_65 (lv_at hl 0 rfl) ?_
    refine lv_iload hx hb dX1_newStep_67 (lv_at hl 5 rfl) ?_
    refine tpu hC hK hH flX1_141 t_qq1_ rfl rfl (iRg _).1 (iRg _).2 rfl rfl dX1_newStep_69 (fun Hq_ lcq_ Mq10_ _ hfr hH => ?_)
    have hc_h : Mq10_ h = some (.inr (0, [.int dr, .int de, .int pe, .int su, .int du, .int ha, .int di, .int sc, .int ss, .int op, .int ac, .int dn, .ref st, .ref ch, .ref sr, .ref no, .ref fo, .ref fb, .ref df])) := (hfr h (neF (Or.inr (Or.inr ht_h)) t_qq1_ (by decide))).trans hc_h
    have hF : ∀ q, FrK T q → Mq10_ q = M q := fun q hq  => (hfr q (neF hq t_qq1_ (by decide))).trans (hF q hq )
    refine lv_aload hx hb dX1_newStep_72 (lv_at hl 0 rfl) ?_
    exact ret_r hC hr hlk hK hH (⟨t_qq1_, rfl, hF⟩) (Nat.le_of_ble_eq_true rfl) (Nat.le_of_ble_eq_true rfl) dX1_newStep_74
  · skip
    have cq3_ : so.toInt = 4 := cq3_
    refine lv_iconst (v := -1) hx hb dX1_newStep_24 (by decide) ?_
    refine lv_goto (tgt := 32) hx hb dX1_newStep_25 (by decide) ?_
    refine tpu hC hK hH flX1_126 t_qq1_ rfl rfl (iRg _).1 (iRg _).2 rfl rfl dX1_newStep_32 (fun Hq_ lcq_ Mq11_ _ hfr hH => ?_)
    have hc_h : Mq11_ h = some (.inr (0, [.int dr, .int de, .int pe, .int su, .int du, .int ha, .int di, .int sc, .int ss, .int op, .int ac, .int dn, .ref st, .ref ch, .ref sr, .ref no, .ref fo, .ref fb, .ref df])) := (hfr h (neF (Or.inr (Or.inr ht_h)) t_qq1_ (by decide))).trans hc_h
    have hF : ∀ q, FrK T q → Mq11_ q = M q := fun q hq  => (hfr q (neF hq t_qq1_ (by decide))).trans (hF q hq )
    refine lv_aload hx hb dX1_newStep_35 (lv_at hl 0 rfl) ?_
    refine lv_iload_n hx hb dX1_newStep_37 rfl (lv_at hl 3 rfl) ?_
    refine tpu hC hK hH flX1_100 t_qq1_ rfl rfl (iRg _).1 (iRg _).2 rfl rfl dX1_newStep_38 (fun Hq_ lcq_ Mq12_ _ hfr hH => ?_)
    have hc_h : Mq12_ h = some (.inr (0, [.int dr, .int de, .int pe, .int su, .int du, .int ha, .int di, .int sc, .int ss, .int op, .int ac, .int dn, .ref st, .ref ch, .ref sr, .ref no, .ref fo, .ref fb, .ref df])) := (hfr h (neF (Or.inr (Or.inr ht_h)) t_qq1_ (by decide))).trans hc_h
    have hF : ∀ q, FrK T q → Mq12_ q = M q := fun q hq  => (hfr q (neF hq t_qq1_ (by decide))).trans (hF q hq )
    refine lv_aload hx hb dX1_newStep_41 (lv_at hl 0 rfl) ?_
    refine lv_iload_n hx hb dX1_newStep_43 rfl (lv_at hl 4 rfl) ?_
    refine tpu hC hK hH flX1_129 t_qq1_ rfl rfl (by show (0 : Int) ≤ to.toInt; omega) (by show to.toInt ≤ (7 : Int); omega) rfl rfl dX1_newStep_44 (fun Hq_ lcq_ Mq13_ _ hfr hH => ?_)
    have hc_h : Mq13_ h = some (.inr (0, [.int dr, .int de, .int pe, .int su, .int du, .int ha, .int di, .int sc, .int ss, .int op, .int ac, .int dn, .ref st, .ref ch, .ref sr, .ref no, .ref fo, .ref fb, .ref df])) := (hfr h (neF (Or.inr (Or.inr ht_h)) t_qq1_ (by decide))).trans hc_h
    have hF : ∀ q, FrK T q → Mq13_ q = M q := fun q hq  => (hfr q (neF hq t_qq1_ (by decide))).trans (hF q hq )
    refine lv_aload hx hb dX1_newStep_47 (lv_at hl 0 rfl) ?_
    refine lv_iconst (v := 0) hx hb dX1_newStep_49 (by decide) ?_
    refine tpu hC hK hH flX1_132 t_qq1_ rfl rfl (iRg _).1 (iRg _).2 rfl rfl dX1_newStep_50 (fun Hq_ lcq_ Mq14_ _ hfr hH => ?_)
    have hc_h : Mq14_ h = some (.inr (0, [.int dr, .int de, .int pe, .int su, .int du, .int ha, .int di, .int sc, .int ss, .int op, .int ac, .int dn, .ref st, .ref ch, .ref sr, .ref no, .ref fo, .ref fb, .ref df])) := (hfr h (neF (Or.inr (Or.inr ht_h)) t_qq1_ (by decide))).trans hc_h
    have hF : ∀ q, FrK T q → Mq14_ q = M q := fun q hq  => (hfr q (neF hq t_qq1_ (by decide))).trans (hF q hq )
    refine lv_aload hx hb dX1_newStep_53 (lv_at hl 0 rfl) ?_
    refine lv_iconst (v := 0) hx hb dX1_newStep_55 (by decide) ?_
    refine tpu hC hK hH flX1_135 t_qq1_ rfl rfl (by decide) (by decide) rfl rfl dX1_newStep_56 (fun Hq_ lcq_ Mq15_ _ hfr hH => ?_)
    have hc_h : Mq15_ h = some (.inr (0, [.int dr, .int de, .int pe, .int su, .int du, .int ha, .int di, .int sc, .int ss, .int op, .int ac, .int dn, .ref st, .ref ch, .ref sr, .ref no, .ref fo, .ref fb, .ref df])) := (hfr h (neF (Or.inr (Or.inr ht_h)) t_qq1_ (by decide))).trans hc_h
    have hF : ∀ q, FrK T q → Mq15_ q = M q := fun q hq  => (hfr q (neF hq t_qq1_ (by decide))).trans (hF q hq )
    refine lv_aload hx hb dX1_newStep_59 (lv_at hl 0 rfl) ?_
    refine lv_iconst (v := 0) hx hb dX1_newStep_61 (by decide) ?_
    refine tpu hC hK hH flX1_138 t_qq1_ rfl rfl (by decide) (by decide) rfl rfl dX1_newStep_62 (fun Hq_ lcq_ Mq16_ _ hfr hH => ?_)
    have hc_h : Mq16_ h = some (.inr (0, [.int dr, .int de, .int pe, .int su, .int du, .int ha, .int di, .int sc, .int ss, .int op, .int ac, .int dn, .ref st, .ref ch, .ref sr, .ref no, .ref fo, .ref fb, .ref df])) := (hfr h (neF (Or.inr (Or.inr ht_h)) t_qq1_ (by decide))).trans hc_h
    have hF : ∀ q, FrK T q → Mq16_ q = M q := fun q hq  => (hfr q (neF hq t_qq1_ (by decide))).trans (hF q hq )
    refine lv_aload hx hb dX1_newStep_65 (lv_at hl 0 rfl) ?_
    refine lv_iload hx hb dX1_newStep_67 (lv_at hl 5 rfl) ?_
    refine tpu hC hK hH flX1_141 t_qq1_ rfl rfl (iRg _).1 (iRg _).2 rfl rfl dX1_newStep_69 (fun Hq_ lcq_ Mq17_ _ hfr hH => ?_)
    have hc_h : Mq17_ h = some (.inr (0, [.int dr, .int de, .int pe, .int su, .int du, .int ha, .int di, .int sc, .int ss, .int op, .int ac, .int dn, .ref st, .ref ch, .ref sr, .ref no, .ref fo, .ref fb, .ref df])) := (hfr h (neF (Or.inr (Or.inr ht_h)) t_qq1_ (by decide))).trans hc_h
    have hF : ∀ q, FrK T q → Mq17_ q = M q := fun q hq  => (hfr q (neF hq t_qq1_ (by decide))).trans (hF q hq )
    refine lv_aload hx hb dX1_newStep_72 (lv_at hl 0 rfl) ?_
    exact ret_r hC hr hlk hK hH (⟨t_qq1_, rfl, hF⟩) (Nat.le_of_ble_eq_true rfl) (Nat.le_of_ble_eq_true rfl) dX1_newStep_74
set_option maxHeartbeats 4000000 in
set_option maxRecDepth 100000 in
theorem c_X1_addStep {l : Launch} {D : va_G} {kA : Nat → ClassId} {M : mM} {T : mT} {sz : Nat} {h st ch sr no fo fb df : Nat} {dr de pe su du ha di sc ss op ac dn : Int32} {s_ : Nat} (hc_h : M h = some (.inr (0, [.int dr, .int de, .int pe, .int su, .int du, .int ha, .int di, .int sc, .int ss, .int op, .int ac, .int dn, .ref st, .ref ch, .ref sr, .ref no, .ref fo, .ref fb, .ref df]))) (ho_h : conf kA T 2 (.inr (0, [.int dr, .int de, .int pe, .int su, .int du, .int ha, .int di, .int sc, .int ss, .int op, .int ac, .int dn, .ref st, .ref ch, .ref sr, .ref no, .ref fo, .ref fb, .ref df]))) (ht_h : T h = some 2) (ht_s_ : T s_ = some 0) (ht_ch : T ch = some 1) (h1 : 0 ≤ sc.toInt ∧ sc.toInt ≤ 11) : mCv l yX1_addStep cX1_addStep 2 3 0 0 D kA M T sz [.ref h, .ref s_] (fun u => ∃ ha2 : Int32, ((0 : Int) ≤ ha2.toInt ∧ ha2.toInt ≤ 7) ∧ ∃ sc2 : Int32, ((0 : Int) ≤ sc2.toInt ∧ sc2.toInt ≤ 12) ∧ (u.1 h = some (.inr (0, [.int dr, .int de, .int pe, .int su, .int du, .int ha2, .int di, .int sc2, .int ss, .int op, .int ac, .int dn, .ref st, .ref ch, .ref sr, .ref no, .ref fo, .ref fb, .ref df])) ∧ conf kA T 2 (.inr (0, [.int dr, .int de, .int pe, .int su, .int du, .int ha2, .int di, .int sc2, .int ss, .int op, .int ac, .int dn, .ref st, .ref ch, .ref sr, .ref no, .ref fo, .ref fb, .ref df]))) ∧ u.2 = T ∧ (∀ q, FrK T q → q ≠ h → u.1 q = M q)) := by
  unfold mCv
  refine start_W (by decide) (Nat.le_of_ble_eq_true rfl) ?_
  intro p e s m below meth c ls hC hr hlk hnm hK hH hsz hl
  have hx := hC.1
  have hb := hC.2.1
  have hl : lv_has ls 2 [(0, .ref h), (1, .ref s_)] := hl
  have hF : ∀ q, FrK T q → q ≠ h → M q = M q := fun q _ _ => rfl
  refine lv_aload_n hx hb dX1_addStep_0 rfl (lv_at hl 1 rfl) ?_
  refine lv_aload_n hx hb dX1_addStep_1 rfl (lv_at hl 1 rfl) ?_
  refine tg hC hK hH flX1_132 ht_s_ rfl rfl dX1_addStep_2 (fun xq1_ l_xq1_ g_xq1_ => ?_)
  refine jif_le (tgt := 38) hx hb dX1_addStep_5 (by decide) (fun cq2_ => ?_) (fun cq2_ => ?_)
  · skip
    have cq2_ : xq1_.toInt ≤ 0 := cq2_
    refine lv_iconst (v := 0) hx hb dX1_addStep_38 (by decide) ?_
    refine tpu hC hK hH flX1_144 ht_s_ rfl rfl (by decide) (by decide) rfl rfl dX1_addStep_39 (fun Hq_ lcq_ Mq3_ _ hfr hH => ?_)
    have hc_h : Mq3_ h = some (.inr (0, [.int dr, .int de, .int pe, .int su, .int du, .int ha, .int di, .int sc, .int ss, .int op, .int ac, .int dn, .ref st, .ref ch, .ref sr, .ref no, .ref fo, .ref fb, .ref df])) := (hfr h (neF (Or.inr (Or.inr ht_h)) ht_s_ (by decide))).trans hc_h
    have hF : ∀ q, FrK T q → q ≠ h → Mq3_ q = M q := fun q hq h0 => (hfr q (neF hq ht_s_ (by decide))).trans (hF q hq h0)
    refine lv_aload_n hx hb dX1_addStep_42 rfl (lv_at hl 0 rfl) ?_
    refine xg hC hK hH flX1_20 hc_h rfl dX1_addStep_43 ?_
    refine lv_aload_n hx hb dX1_addStep_46 rfl (lv_at hl 1 rfl) ?_
    refine lv_aload_n hx hb dX1_addStep_47 rfl (lv_at hl 0 rfl) ?_
    refine xg hC hK hH flX1_61 hc_h rfl dX1_addStep_48 ?_
    refine lv_iconst (v := 0) hx hb dX1_addStep_51 (by decide) ?_
    refine goV hK hH (runV (As := [.ref s_, .int sc, .int 0]) (rest := []) hC hK hH (c_X2_follow ht_ch ht_s_) mlX1_147 (rcvT hK hH ht_ch rfl rfl) ⟨⟨Nat.le_of_ble_eq_true rfl, Nat.le_of_ble_eq_true rfl⟩, Nat.le_of_ble_eq_true rfl, Nat.le_of_ble_eq_true rfl⟩ rfl hl.1 rfl (Nat.le_of_ble_eq_true rfl) dX1_addStep_52) (fun Mq4_ Tq5_ Hq_ lcq_ hP hz hH => ?_)
    try dsimp only at hP
    obtain ⟨(-), eT, hfr⟩ := hP
    have eT := eT.symm; subst eT
    have hc_h : Mq4_ h = some (.inr (0, [.int dr, .int de, .int pe, .int su, .int du, .int ha, .int di, .int sc, .int ss, .int op, .int ac, .int dn, .ref st, .ref ch, .ref sr, .ref no, .ref fo, .ref fb, .ref df])) := (hfr h (Or.inr (Or.inr ht_h)) ).trans hc_h
    have hF : ∀ q, FrK T q → q ≠ h → Mq4_ q = M q := fun q hq h0 => (hfr q hq ).trans (hF q hq h0)
    refine lv_aload_n hx hb dX1_addStep_55 rfl (lv_at hl 1 rfl) ?_
    refine lv_aload_n hx hb dX1_addStep_56 rfl (lv_at hl 0 rfl) ?_
    refine xg hC hK hH flX1_20 hc_h rfl dX1_addStep_57 ?_
    refine tg hC hK hH flX1_151 ht_ch rfl rfl dX1_addStep_60 (fun xq7_ l_xq7_ g_xq7_ => ?_)
    refine tpu hC hK hH flX1_154 ht_s_ rfl rfl (iRg _).1 (iRg _).2 rfl rfl dX1_addStep_63 (fun Hq_ lcq_ Mq8_ _ hfr hH => ?_)
    have hc_h : Mq8_ h = some (.inr (0, [.int dr, .int de, .int pe, .int su, .int du, .int ha, .int di, .int sc, .int ss, .int op, .int ac, .int dn, .ref st, .ref ch, .ref sr, .ref no, .ref fo, .ref fb, .ref df])) := (hfr h (neF (Or.inr (Or.inr ht_h)) ht_s_ (by decide))).trans hc_h
    have hF : ∀ q, FrK T q → q ≠ h → Mq8_ q = M q := fun q hq h0 => (hfr q (neF hq ht_s_ (by decide))).trans (hF q hq h0)
    refine lv_aload_n hx hb dX1_addStep_66 rfl (lv_at hl 1 rfl) ?_
    refine lv_aload_n hx hb dX1_addStep_67 rfl (lv_at hl 0 rfl) ?_
    refine xg hC hK hH flX1_20 hc_h rfl dX1_addStep_68 ?_
    refine tg hC hK hH flX1_155 ht_ch rfl rfl dX1_addStep_71 (fun xq9_ l_xq9_ g_xq9_ => ?_)
    refine tpu hC hK hH flX1_158 ht_s_ rfl rfl (iRg _).1 (iRg _).2 rfl rfl dX1_addStep_74 (fun Hq_ lcq_ Mq10_ _ hfr hH => ?_)
    have hc_h : Mq10_ h = some (.inr (0, [.int dr, .int de, .int pe, .int su, .int du, .int ha, .int di, .int sc, .int ss, .int op, .int ac, .int dn, .ref st, .ref ch, .ref sr, .ref no, .ref fo, .ref fb, .ref df])) := (hfr h (neF (Or.inr (Or.inr ht_h)) ht_s_ (by decide))).trans hc_h
    have hF : ∀ q, FrK T q → q ≠ h → Mq10_ q = M q := fun q hq h0 => (hfr q (neF hq ht_s_ (by decide))).trans (hF q hq h0)
    refine lv_aload_n hx hb dX1_addStep_77 rfl (lv_at hl 0 rfl) ?_
    refine lv_aload_n hx hb dX1_addStep_78 rfl (lv_at hl 1 rfl) ?_
    refine tg hC hK hH flX1_129 ht_s_ rfl rfl dX1_addStep_79 (fun xq11_ l_xq11_ g_xq11_ => ?_)
    have l_xq11_ : (0 : Int) ≤ xq11_.toInt := l_xq11_
    have g_xq11_ : xq11_.toInt ≤ 7 := g_xq11_
    refine yp (v := .int xq11_) hC hK hH flX1_55 hc_h (hasT ht_h (conf_set rfl ho_h (show (_ : List fS)[5]? = some _ from rfl) (okI (by show (0 : Int) ≤ xq11_.toInt; omega) (by show xq11_.toInt ≤ (7 : Int); omega)))) rfl rfl (Nat.le_of_ble_eq_true rfl) dX1_addStep_82 (fun Hq_ lcq_ Mq12_ hc_h hfr hH => ?_)
    have ho_h : conf kA T 2 (.inr (0, [.int dr, .int de, .int pe, .int su, .int du, .int xq11_, .int di, .int sc, .int ss, .int op, .int ac, .int dn, .ref st, .ref ch, .ref sr, .ref no, .ref fo, .ref fb, .ref df])) := conf_set rfl ho_h (show (_ : List fS)[5]? = some _ from rfl) (okI (by show (0 : Int) ≤ xq11_.toInt; omega) (by show xq11_.toInt ≤ (7 : Int); omega))
    have hc_h : Mq12_ h = some (.inr (0, [.int dr, .int de, .int pe, .int su, .int du, .int xq11_, .int di, .int sc, .int ss, .int op, .int ac, .int dn, .ref st, .ref ch, .ref sr, .ref no, .ref fo, .ref fb, .ref df])) := hc_h
    have hF : ∀ q, FrK T q → q ≠ h → Mq12_ q = M q := fun q hq h0 => (hfr q h0).trans (hF q hq h0)
    refine lv_aload_n hx hb dX1_addStep_85 rfl (lv_at hl 0 rfl) ?_
    refine lv_dup hx hb dX1_addStep_86 rfl ?_
    refine xg hC hK hH flX1_61 hc_h rfl dX1_addStep_87 ?_
    refine lv_iconst (v := 1) hx hb dX1_addStep_90 (by decide) ?_
    refine lv_iadd hx hb dX1_addStep_91 ?_
    refine lv_topi (fun zq13_ e_zq13_ => ?_)
    have h_zq13_ : zq13_.toInt = sc.toInt + 1 := by rw [e_zq13_, iAdd (by have := iRg sc; have : (1 : Int32).toInt = 1 := rfl; omega) (by have := iRg sc; have : (1 : Int32).toInt = 1 := rfl; omega)]; rfl
    refine yp (v := .int zq13_) hC hK hH flX1_61 hc_h (hasT ht_h (conf_set rfl ho_h (show (_ : List fS)[7]? = some _ from rfl) (okI (by show (0 : Int) ≤ zq13_.toInt; omega) (by show zq13_.toInt ≤ (12 : Int); omega)))) rfl rfl (Nat.le_of_ble_eq_true rfl) dX1_addStep_92 (fun Hq_ lcq_ Mq14_ hc_h hfr hH => ?_)
    have ho_h : conf kA T 2 (.inr (0, [.int dr, .int de, .int pe, .int su, .int du, .int xq11_, .int di, .int zq13_, .int ss, .int op, .int ac, .int dn, .ref st, .ref ch, .ref sr, .ref no, .ref fo, .ref fb, .ref df])) := conf_set rfl ho_h (show (_ : List fS)[7]? = some _ from rfl) (okI (by show (0 : Int) ≤ zq13_.toInt; omega) (by show zq13_.toInt ≤ (12 : Int); omega))
    have hc_h : Mq14_ h = some (.inr (0, [.int dr, .int de, .int pe, .int su, .int du, .int xq11_, .int di, .int zq13_, .int ss, .int op, .int ac, .int dn, .ref st, .ref ch, .ref sr, .ref no, .ref fo, .ref fb, .ref df])) := hc_h
    have hF : ∀ q, FrK T q → q ≠ h → Mq14_ q = M q := fun q hq h0 => (hfr q h0).trans (hF q hq h0)
    exact ret_v hC hr hlk hK hH (⟨xq11_, ⟨by omega, by omega⟩, zq13_, ⟨by omega, by omega⟩, ⟨hc_h, ho_h⟩, rfl, hF⟩) (Nat.le_of_ble_eq_true rfl) (Nat.le_of_ble_eq_true rfl) dX1_addStep_95
  · skip
    have cq2_ : 0 < xq1_.toInt := cq2_
    refine lv_aload_n hx hb dX1_addStep_8 rfl (lv_at hl 1 rfl) ?_
    refine tg hC hK hH flX1_135 ht_s_ rfl rfl dX1_addStep_9 (fun xq15_ l_xq15_ g_xq15_ => ?_)
    have l_xq15_ : (0 : Int) ≤ xq15_.toInt := l_xq15_
    have g_xq15_ : xq15_.toInt ≤ 1 := g_xq15_
    refine jif_ne (tgt := 38) hx hb dX1_addStep_12 (by decide) (fun cq16_ => ?_) (fun cq16_ => ?_)
    · skip
      have cq16_ : xq15_.toInt ≠ 0 := cq16_
      refine lv_iconst (v := 0) hx hb dX1_addStep_38 (by decide) ?_
      refine tpu hC hK hH flX1_144 ht_s_ rfl rfl (by decide) (by decide) rfl rfl dX1_addStep_39 (fun Hq_ lcq_ Mq17_ _ hfr hH => ?_)
      have hc_h : Mq17_ h = some (.inr (0, [.int dr, .int de, .int pe, .int su, .int du, .int ha, .int di, .int sc, .int ss, .int op, .int ac, .int dn, .ref st, .ref ch, .ref sr, .ref no, .ref fo, .ref fb, .ref df])) := (hfr h (neF (Or.inr (Or.inr ht_h)) ht_s_ (by decide))).trans hc_h
      have hF : ∀ q, FrK T q → q ≠ h → Mq17_ q = M q := fun q hq h0 => (hfr q (neF hq ht_s_ (by decide))).trans (hF q hq h0)
      refine lv_aload_n hx hb dX1_addStep_42 rfl (lv_at hl 0 rfl) ?_
      refine xg hC hK hH flX1_20 hc_h rfl dX1_addStep_43 ?_
      refine lv_aload_n hx hb dX1_addStep_46 rfl (lv_at hl 1 rfl) ?_
      refine lv_aload_n hx hb dX1_addStep_47 rfl (lv_at hl 0 rfl) ?_
      refine xg hC hK hH flX1_61 hc_h rfl dX1_addStep_48 ?_
      refine lv_iconst (v := 0) hx hb dX1_addStep_51 (by decide) ?_
      refine goV hK hH (runV (As := [.ref s_, .int sc, .int 0]) (rest := []) hC hK hH (c_X2_follow ht_ch ht_s_) mlX1_147 (rcvT hK hH ht_ch rfl rfl) ⟨⟨Nat.le_of_ble_eq_true rfl, Nat.le_of_ble_eq_true rfl⟩, Nat.le_of_ble_eq_true rfl, Nat.le_of_ble_eq_true rfl⟩ rfl hl.1 rfl (Nat.le_of_ble_eq_true rfl) dX1_addStep_52) (fun Mq18_ Tq19_ Hq_ lcq_ hP hz hH => ?_)
      try dsimp only at hP
      obtain ⟨(-), eT, hfr⟩ := hP
      have eT := eT.symm; subst eT
      have hc_h : Mq18_ h = some (.inr (0, [.int dr, .int de, .int pe, .int su, .int du, .int ha, .int di, .int sc, .int ss, .int op, .int ac, .int dn, .ref st, .ref ch, .ref sr, .ref no, .ref fo, .ref fb, .ref df])) := (hfr h (Or.inr (Or.inr ht_h)) ).trans hc_h
      have hF : ∀ q, FrK T q → q ≠ h → Mq18_ q = M q := fun q hq h0 => (hfr q hq ).trans (hF q hq h0)
      refine lv_aload_n hx hb dX1_addStep_55 rfl (lv_at hl 1 rfl) ?_
      refine lv_aload_n hx hb dX1_addStep_56 rfl (lv_at hl 0 rfl) ?_
      refine xg hC hK hH flX1_20 hc_h rfl dX1_addStep_57 ?_
      refine tg hC hK hH flX1_151 ht_ch rfl rfl dX1_addStep_60 (fun xq21_ l_xq21_ g_xq21_ => ?_)
      refine tpu hC hK hH flX1_154 ht_s_ rfl rfl (iRg _).1 (iRg _).2 rfl rfl dX1_addStep_63 (fun Hq_ lcq_ Mq22_ _ hfr hH => ?_)
      have hc_h : Mq22_ h = some (.inr (0, [.int dr, .int de, .int pe, .int su, .int du, .int ha, .int di, .int sc, .int ss, .int op, .int ac, .int dn, .ref st, .ref ch, .ref sr, .ref no, .ref fo, .ref fb, .ref df])) := (hfr h (neF (Or.inr (Or.inr ht_h)) ht_s_ (by decide))).trans hc_h
      have hF : ∀ q, FrK T q → q ≠ h → Mq22_ q = M q := fun q hq h0 => (hfr q (neF hq ht_s_ (by decide))).trans (hF q hq h0)
      refine lv_aload_n hx hb dX1_addStep_66 rfl (lv_at hl 1 rfl) ?_
      refine lv_aload_n hx hb dX1_addStep_67 rfl (lv_at hl 0 rfl) ?_
      refine xg hC hK hH flX1_20 hc_h rfl dX1_addStep_68 ?_
      refine tg hC hK hH flX1_155 ht_ch rfl rfl dX1_addStep_71 (fun xq23_ l_xq23_ g_xq23_ => ?_)
      refine tpu hC hK hH flX1_158 ht_s_ rfl rfl (iRg _).1 (iRg _).2 rfl rfl dX1_addStep_74 (fun Hq_ lcq_ Mq24_ _ hfr hH => ?_)
      have hc_h : Mq24_ h = some (.inr (0, [.int dr, .int de, .int pe, .int su, .int du, .int ha, .int di, .int sc, .int ss, .int op, .int ac, .int dn, .ref st, .ref ch, .ref sr, .ref no, .ref fo, .ref fb, .ref df])) := (hfr h (neF (Or.inr (Or.inr ht_h)) ht_s_ (by decide))).trans hc_h
      have hF : ∀ q, FrK T q → q ≠ h → Mq24_ q = M q := fun q hq h0 => (hfr q (neF hq ht_s_ (by decide))).trans (hF q hq h0)
      refine lv_aload_n hx hb dX1_addStep_77 rfl (lv_at hl 0 rfl) ?_
      refine lv_aload_n hx hb dX1_addStep_78 rfl (lv_at hl 1 rfl) ?_
      refine tg hC hK hH flX1_129 ht_s_ rfl rfl dX1_addStep_79 (fun xq25_ l_xq25_ g_xq25_ => ?_)
      have l_xq25_ : (0 : Int) ≤ xq25_.toInt := l_xq25_
      have g_xq25_ : xq25_.toInt ≤ 7 := g_xq25_
      refine yp (v := .int xq25_) hC hK hH flX1_55 hc_h (hasT ht_h (conf_set rfl ho_h (show (_ : List fS)[5]? = some _ from rfl) (okI (by show (0 : Int) ≤ xq25_.toInt; omega) (by show xq25_.toInt ≤ (7 : Int); omega)))) rfl rfl (Nat.le_of_ble_eq_true rfl) dX1_addStep_82 (fun Hq_ lcq_ Mq26_ hc_h hfr hH => ?_)
      have ho_h : conf kA T 2 (.inr (0, [.int dr, .int de, .int pe, .int su, .int du, .int xq25_, .int di, .int sc, .int ss, .int op, .int ac, .int dn, .ref st, .ref ch, .ref sr, .ref no, .ref fo, .ref fb, .ref df])) := conf_set rfl ho_h (show (_ : List fS)[5]? = some _ from rfl) (okI (by show (0 : Int) ≤ xq25_.toInt; omega) (by show xq25_.toInt ≤ (7 : Int); omega))
      have hc_h : Mq26_ h = some (.inr (0, [.int dr, .int de, .int pe, .int su, .int du, .int xq25_, .int di, .int sc, .int ss, .int op, .int ac, .int dn, .ref st, .ref ch, .ref sr, .ref no, .ref fo, .ref fb, .ref df])) := hc_h
      have hF : ∀ q, FrK T q → q ≠ h → Mq26_ q = M q := fun q hq h0 => (hfr q h0).trans (hF q hq h0)
      refine lv_aload_n hx hb dX1_addStep_85 rfl (lv_at hl 0 rfl) ?_
      refine lv_dup hx hb dX1_addStep_86 rfl ?_
      refine xg hC hK hH flX1_61 hc_h rfl dX1_addStep_87 ?_
      refine lv_iconst (v := 1) hx hb dX1_addStep_90 (by decide) ?_
      refine lv_iadd hx hb dX1_addStep_91 ?_
      refine lv_topi (fun zq27_ e_zq27_ => ?_)
      have h_zq27_ : zq27_.toInt = sc.toInt + 1 := by rw [e_zq27_, iAdd (by have := iRg sc; have : (1 : Int32).toInt = 1 := rfl; omega) (by have := iRg sc; have : (1 : Int32).toInt = 1 := rfl; omega)]; rfl
      refine yp (v := .int zq27_) hC hK hH flX1_61 hc_h (hasT ht_h (conf_set rfl ho_h (show (_ : List fS)[7]? = some _ from rfl) (okI (by show (0 : Int) ≤ zq27_.toInt; omega) (by show zq27_.toInt ≤ (12 : Int); omega)))) rfl rfl (Nat.le_of_ble_eq_true rfl) dX1_addStep_92 (fun Hq_ lcq_ Mq28_ hc_h hfr hH => ?_)
      have ho_h : conf kA T 2 (.inr (0, [.int dr, .int de, .int pe, .int su, .int du, .int xq25_, .int di, .int zq27_, .int ss, .int op, .int ac, .int dn, .ref st, .ref ch, .ref sr, .ref no, .ref fo, .ref fb, .ref df])) := conf_set rfl ho_h (show (_ : List fS)[7]? = some _ from rfl) (okI (by show (0 : Int) ≤ zq27_.toInt; omega) (by show zq27_.toInt ≤ (12 : Int); omega))
      have hc_h : Mq28_ h = some (.inr (0, [.int dr, .int de, .int pe, .int su, .int du, .int xq25_, .int di, .int zq27_, .int ss, .int op, .int ac, .int dn, .ref st, .ref ch, .ref sr, .ref no, .ref fo, .ref fb, .ref df])) := hc_h
      have hF : ∀ q, FrK T q → q ≠ h → Mq28_ q = M q := fun q hq h0 => (hfr q h0).trans (hF q hq h0)
      exact ret_v hC hr hlk hK hH (⟨xq25_, ⟨by omega, by omega⟩, zq27_, ⟨by omega, by omega⟩, ⟨hc_h, ho_h⟩, rfl, hF⟩) (Nat.le_of_ble_eq_true rfl) (Nat.le_of_ble_eq_true rfl) dX1_addStep_95
    · skip
      have cq16_ : xq15_.toInt = 0 := cq16_
      refine lv_aload_n hx hb dX1_addStep_15 rfl (lv_at hl 1 rfl) ?_
      refine tg hC hK hH flX1_141 ht_s_ rfl rfl dX1_addStep_16 (fun xq29_ l_xq29_ g_xq29_ => ?_)
      refine lv_aload_n hx hb dX1_addStep_19 rfl (lv_at hl 0 rfl) ?_
      refine xg hC hK hH flX1_84 hc_h rfl dX1_addStep_20 ?_
      refine jic_gt (tgt := 38) hx hb dX1_addStep_23 (by decide) (fun cq30_ => ?_) (fun cq30_ => ?_)
      · skip
        have cq30_ : du.toInt < xq29_.toInt := cq30_
        refine lv_iconst (v := 0) hx hb dX1_addStep_38 (by decide) ?_
        refine tpu hC hK hH flX1_144 ht_s_ rfl rfl (by decide) (by decide) rfl rfl dX1_addStep_39 (fun Hq_ lcq_ Mq31_ _ hfr hH => ?_)
        have hc_h : Mq31_ h = some (.inr (0, [.int dr, .int de, .int pe, .int su, .int du, .int ha, .int di, .int sc, .int ss, .int op, .int ac, .int dn, .ref st, .ref ch, .ref sr, .ref no, .ref fo, .ref fb, .ref df])) := (hfr h (neF (Or.inr (Or.inr ht_h)) ht_s_ (by decide))).trans hc_h
        have hF : ∀ q, FrK T q → q ≠ h → Mq31_ q = M q := fun q hq h0 => (hfr q (neF hq ht_s_ (by decide))).trans (hF q hq h0)
        refine lv_aload_n hx hb dX1_addStep_42 rfl (lv_at hl 0 rfl) ?_
        refine xg hC hK hH flX1_20 hc_h rfl dX1_addStep_43 ?_
        refine lv_aload_n hx hb dX1_addStep_46 rfl (lv_at hl 1 rfl) ?_
        refine lv_aload_n hx hb dX1_addStep_47 rfl (lv_at hl 0 rfl) ?_
        refine xg hC hK hH flX1_61 hc_h rfl dX1_addStep_48 ?_
        refine lv_iconst (v := 0) hx hb dX1_addStep_51 (by decide) ?_
        refine goV hK hH (runV (As := [.ref s_, .int sc, .int 0]) (rest := []) hC hK hH (c_X2_follow ht_ch ht_s_) mlX1_147 (rcvT hK hH ht_ch rfl rfl) ⟨⟨Nat.le_of_ble_eq_true rfl, Nat.le_of_ble_eq_true rfl⟩, Nat.le_of_ble_eq_true rfl, Nat.le_of_ble_eq_true rfl⟩ rfl hl.1 rfl (Nat.le_of_ble_eq_true rfl) dX1_addStep_52) (fun Mq32_ Tq33_ Hq_ lcq_ hP hz hH => ?_)
        try dsimp only at hP
        obtain ⟨(-), eT, hfr⟩ := hP
        have eT := eT.symm; subst eT
        have hc_h : Mq32_ h = some (.inr (0, [.int dr, .int de, .int pe, .int su, .int du, .int ha, .int di, .int sc, .int ss, .int op, .int ac, .int dn, .ref st, .ref ch, .ref sr, .ref no, .ref fo, .ref fb, .ref df])) := (hfr h (Or.inr (Or.inr ht_h)) ).trans hc_h
        have hF : ∀ q, FrK T q → q ≠ h → Mq32_ q = M q := fun q hq h0 => (hfr q hq ).trans (hF q hq h0)
        refine lv_aload_n hx hb dX1_addStep_55 rfl (lv_at hl 1 rfl) ?_
        refine lv_aload_n hx hb dX1_addStep_56 rfl (lv_at hl 0 rfl) ?_
        refine xg hC hK hH flX1_20 hc_h rfl dX1_addStep_57 ?_
        refine tg hC hK hH flX1_151 ht_ch rfl rfl dX1_addStep_60 (fun xq35_ l_xq35_ g_xq35_ => ?_)
        refine tpu hC hK hH flX1_154 ht_s_ rfl rfl (iRg _).1 (iRg _).2 rfl rfl dX1_addStep_63 (fun Hq_ lcq_ Mq36_ _ hfr hH => ?_)
        have hc_h : Mq36_ h = some (.inr (0, [.int dr, .int de, .int pe, .int su, .int du, .int ha, .int di, .int sc, .int ss, .int op, .int ac, .int dn, .ref st, .ref ch, .ref sr, .ref no, .ref fo, .ref fb, .ref df])) := (hfr h (neF (Or.inr (Or.inr ht_h)) ht_s_ (by decide))).trans hc_h
        have hF : ∀ q, FrK T q → q ≠ h → Mq36_ q = M q := fun q hq h0 => (hfr q (neF hq ht_s_ (by decide))).trans (hF q hq h0)
        refine lv_aload_n hx hb dX1_addStep_66 rfl (lv_at hl 1 rfl) ?_
        refine lv_aload_n hx hb dX1_addStep_67 rfl (lv_at hl 0 rfl) ?_
        refine xg hC hK hH flX1_20 hc_h rfl dX1_addStep_68 ?_
        refine tg hC hK hH flX1_155 ht_ch rfl rfl dX1_addStep_71 (fun xq37_ l_xq37_ g_xq37_ => ?_)
        refine tpu hC hK hH flX1_158 ht_s_ rfl rfl (iRg _).1 (iRg _).2 rfl rfl dX1_addStep_74 (fun Hq_ lcq_ Mq38_ _ hfr hH => ?_)
        have hc_h : Mq38_ h = some (.inr (0, [.int dr, .int de, .int pe, .int su, .int du, .int ha, .int di, .int sc, .int ss, .int op, .int ac, .int dn, .ref st, .ref ch, .ref sr, .ref no, .ref fo, .ref fb, .ref df])) := (hfr h (neF (Or.inr (Or.inr ht_h)) ht_s_ (by decide))).trans hc_h
        have hF : ∀ q, FrK T q → q ≠ h → Mq38_ q = M q := fun q hq h0 => (hfr q (neF hq ht_s_ (by decide))).trans (hF q hq h0)
        refine lv_aload_n hx hb dX1_addStep_77 rfl (lv_at hl 0 rfl) ?_
        refine lv_aload_n hx hb dX1_addStep_78 rfl (lv_at hl 1 rfl) ?_
        refine tg hC hK hH flX1_129 ht_s_ rfl rfl dX1_addStep_79 (fun xq39_ l_xq39_ g_xq39_ => ?_)
        have l_xq39_ : (0 : Int) ≤ xq39_.toInt := l_xq39_
        have g_xq39_ : xq39_.toInt ≤ 7 := g_xq39_
        refine yp (v := .int xq39_) hC hK hH flX1_55 hc_h (hasT ht_h (conf_set rfl ho_h (show (_ : List fS)[5]? = some _ from rfl) (okI (by show (0 : Int) ≤ xq39_.toInt; omega) (by show xq39_.toInt ≤ (7 : Int); omega)))) rfl rfl (Nat.le_of_ble_eq_true rfl) dX1_addStep_82 (fun Hq_ lcq_ Mq40_ hc_h hfr hH => ?_)
        have ho_h : conf kA T 2 (.inr (0, [.int dr, .int de, .int pe, .int su, .int du, .int xq39_, .int di, .int sc, .int ss, .int op, .int ac, .int dn, .ref st, .ref ch, .ref sr, .ref no, .ref fo, .ref fb, .ref df])) := conf_set rfl ho_h (show (_ : List fS)[5]? = some _ from rfl) (okI (by show (0 : Int) ≤ xq39_.toInt; omega) (by show xq39_.toInt ≤ (7 : Int); omega))
        have hc_h : Mq40_ h = some (.inr (0, [.int dr, .int de, .int pe, .int su, .int du, .int xq39_, .int di, .int sc, .int ss, .int op, .int ac, .int dn, .ref st, .ref ch, .ref sr, .ref no, .ref fo, .ref fb, .ref df])) := hc_h
        have hF : ∀ q, FrK T q → q ≠ h → Mq40_ q = M q := fun q hq h0 => (hfr q h0).trans (hF q hq h0)
        refine lv_aload_n hx hb dX1_addStep_85 rfl (lv_at hl 0 rfl) ?_
        refine lv_dup hx hb dX1_addStep_86 rfl ?_
        refine xg hC hK hH flX1_61 hc_h rfl dX1_addStep_87 ?_
        refine lv_iconst (v := 1) hx hb dX1_addStep_90 (by decide) ?_
        refine lv_iadd hx hb dX1_addStep_91 ?_
        refine lv_topi (fun zq41_ e_zq41_ => ?_)
        have h_zq41_ : zq41_.toInt = sc.toInt + 1 := by rw [e_zq41_, iAdd (by have := iRg sc; have : (1 : Int32).toInt = 1 := rfl; omega) (by have := iRg sc; have : (1 : Int32).toInt = 1 := rfl; omega)]; rfl
        refine yp (v := .int zq41_) hC hK hH flX1_61 hc_h (hasT ht_h (conf_set rfl ho_h (show (_ : List fS)[7]? = some _ from rfl) (okI (by show (0 : Int) ≤ zq41_.toInt; omega) (by show zq41_.toInt ≤ (12 : Int); omega)))) rfl rfl (Nat.le_of_ble_eq_true rfl) dX1_addStep_92 (fun Hq_ lcq_ Mq42_ hc_h hfr hH => ?_)
        have ho_h : conf kA T 2 (.inr (0, [.int dr, .int de, .int pe, .int su, .int du, .int xq39_, .int di, .int zq41_, .int ss, .int op, .int ac, .int dn, .ref st, .ref ch, .ref sr, .ref no, .ref fo, .ref fb, .ref df])) := conf_set rfl ho_h (show (_ : List fS)[7]? = some _ from rfl) (okI (by show (0 : Int) ≤ zq41_.toInt; omega) (by show zq41_.toInt ≤ (12 : Int); omega))
        have hc_h : Mq42_ h = some (.inr (0, [.int dr, .int de, .int pe, .int su, .int du, .int xq39_, .int di, .int zq41_, .int ss, .int op, .int ac, .int dn, .ref st, .ref ch, .ref sr, .ref no, .ref fo, .ref fb, .ref df])) := hc_h
        have hF : ∀ q, FrK T q → q ≠ h → Mq42_ q = M q := fun q hq h0 => (hfr q h0).trans (hF q hq h0)
        exact ret_v hC hr hlk hK hH (⟨xq39_, ⟨by omega, by omega⟩, zq41_, ⟨by omega, by omega⟩, ⟨hc_h, ho_h⟩, rfl, hF⟩) (Nat.le_of_ble_eq_true rfl) (Nat.le_of_ble_eq_true rfl) dX1_addStep_95
      · skip
        have cq30_ : xq29_.toInt ≤ du.toInt := cq30_
        refine lv_aload_n hx hb dX1_addStep_26 rfl (lv_at hl 0 rfl) ?_
        refine xg hC hK hH flX1_58 hc_h rfl dX1_addStep_27 ?_
        refine lv_iconst (v := -1) hx hb dX1_addStep_30 (by decide) ?_
        refine jic_ne (tgt := 38) hx hb dX1_addStep_31 (by decide) (fun cq43_ => ?_) (fun cq43_ => ?_)
        · skip
          have cq43_ : di.toInt ≠ (-1) := cq43_
          refine lv_iconst (v := 0) hx hb dX1_addStep_38 (by decide) ?_
          refine tpu hC hK hH flX1_144 ht_s_ rfl rfl (by decide) (by decide) rfl rfl dX1_addStep_39 (fun Hq_ lcq_ Mq44_ _ hfr hH => ?_)
          have hc_h : Mq44_ h = some (.inr (0, [.int dr, .int de, .int pe, .int su, .int du, .int ha, .int di, .int sc, .int ss, .int op, .int ac, .int dn, .ref st, .ref ch, .ref sr, .ref no, .ref fo, .ref fb, .ref df])) := (hfr h (neF (Or.inr (Or.inr ht_h)) ht_s_ (by decide))).trans hc_h
          have hF : ∀ q, FrK T q → q ≠ h → Mq44_ q = M q := fun q hq h0 => (hfr q (neF hq ht_s_ (by decide))).trans (hF q hq h0)
          refine lv_aload_n hx hb dX1_addStep_42 rfl (lv_at hl 0 rfl) ?_
          refine xg hC hK hH flX1_20 hc_h rfl dX1_addStep_43 ?_
          refine lv_aload_n hx hb dX1_addStep_46 rfl (lv_at hl 1 rfl) ?_
          refine lv_aload_n hx hb dX1_addStep_47 rfl (lv_at hl 0 rfl) ?_
          refine xg hC hK hH flX1_61 hc_h rfl dX1_addStep_48 ?_
          refine lv_iconst (v := 0) hx hb dX1_addStep_51 (by decide) ?_
          refine goV hK hH (runV (As := [.ref s_, .int sc, .int 0]) (rest := []) hC hK hH (c_X2_follow ht_ch ht_s_) mlX1_147 (rcvT hK hH ht_ch rfl rfl) ⟨⟨Nat.le_of_ble_eq_true rfl, Nat.le_of_ble_eq_true rfl⟩, Nat.le_of_ble_eq_true rfl, Nat.le_of_ble_eq_true rfl⟩ rfl hl.1 rfl (Nat.le_of_ble_eq_true rfl) dX1_addStep_52) (fun Mq45_ Tq46_ Hq_ lcq_ hP hz hH => ?_)
          try dsimp only at hP
          obtain ⟨(-), eT, hfr⟩ := hP
          have eT := eT.symm; subst eT
          have hc_h : Mq45_ h = some (.inr (0, [.int dr, .int de, .int pe, .int su, .int du, .int ha, .int di, .int sc, .int ss, .int op, .int ac, .int dn, .ref st, .ref ch, .ref sr, .ref no, .ref fo, .ref fb, .ref df])) := (hfr h (Or.inr (Or.inr ht_h)) ).trans hc_h
          have hF : ∀ q, FrK T q → q ≠ h → Mq45_ q = M q := fun q hq h0 => (hfr q hq ).trans (hF q hq h0)
          refine lv_aload_n hx hb dX1_addStep_55 rfl (lv_at hl 1 rfl) ?_
          refine lv_aload_n hx hb dX1_addStep_56 rfl (lv_at hl 0 rfl) ?_
          refine xg hC hK hH flX1_20 hc_h rfl dX1_addStep_57 ?_
          refine tg hC hK hH flX1_151 ht_ch rfl rfl dX1_addStep_60 (fun xq48_ l_xq48_ g_xq48_ => ?_)
          refine tpu hC hK hH flX1_154 ht_s_ rfl rfl (iRg _).1 (iRg _).2 rfl rfl dX1_addStep_63 (fun Hq_ lcq_ Mq49_ _ hfr hH => ?_)
          have hc_h : Mq49_ h = some (.inr (0, [.int dr, .int de, .int pe, .int su, .int du, .int ha, .int di, .int sc, .int ss, .int op, .int ac, .int dn, .ref st, .ref ch, .ref sr, .ref no, .ref fo, .ref fb, .ref df])) := (hfr h (neF (Or.inr (Or.inr ht_h)) ht_s_ (by decide))).trans hc_h
          have hF : ∀ q, FrK T q → q ≠ h → Mq49_ q = M q := fun q hq h0 => (hfr q (neF hq ht_s_ (by decide))).trans (hF q hq h0)
          refine lv_aload_n hx hb dX1_addStep_66 rfl (lv_at hl 1 rfl) ?_
          refine lv_aload_n hx hb dX1_addStep_67 rfl (lv_at hl 0 rfl) ?_
          refine xg hC hK hH flX1_20 hc_h rfl dX1_addStep_68 ?_
          refine tg hC hK hH flX1_155 ht_ch rfl rfl dX1_addStep_71 (fun xq50_ l_xq50_ g_xq50_ => ?_)
          refine tpu hC hK hH flX1_158 ht_s_ rfl rfl (iRg _).1 (iRg _).2 rfl rfl dX1_addStep_74 (fun Hq_ lcq_ Mq51_ _ hfr hH => ?_)
          have hc_h : Mq51_ h = some (.inr (0, [.int dr, .int de, .int pe, .int su, .int du, .int ha, .int di, .int sc, .int ss, .int op, .int ac, .int dn, .ref st, .ref ch, .ref sr, .ref no, .ref fo, .ref fb, .ref df])) := (hfr h (neF (Or.inr (Or.inr ht_h)) ht_s_ (by decide))).trans hc_h
          have hF : ∀ q, FrK T q → q ≠ h → Mq51_ q = M q := fun q hq h0 => (hfr q (neF hq ht_s_ (by decide))).trans (hF q hq h0)
          refine lv_aload_n hx hb dX1_addStep_77 rfl (lv_at hl 0 rfl) ?_
          refine lv_aload_n hx hb dX1_addStep_78 rfl (lv_at hl 1 rfl) ?_
          refine tg hC hK hH flX1_129 ht_s_ rfl rfl dX1_addStep_79 (fun xq52_ l_xq52_ g_xq52_ => ?_)
          have l_xq52_ : (0 : Int) ≤ xq52_.toInt := l_xq52_
          have g_xq52_ : xq52_.toInt ≤ 7 := g_xq52_
          refine yp (v := .int xq52_) hC hK hH flX1_55 hc_h (hasT ht_h (conf_set rfl ho_h (show (_ : List fS)[5]? = some _ from rfl) (okI (by show (0 : Int) ≤ xq52_.toInt; omega) (by show xq52_.toInt ≤ (7 : Int); omega)))) rfl rfl (Nat.le_of_ble_eq_true rfl) dX1_addStep_82 (fun Hq_ lcq_ Mq53_ hc_h hfr hH => ?_)
          have ho_h : conf kA T 2 (.inr (0, [.int dr, .int de, .int pe, .int su, .int du, .int xq52_, .int di, .int sc, .int ss, .int op, .int ac, .int dn, .ref st, .ref ch, .ref sr, .ref no, .ref fo, .ref fb, .ref df])) := conf_set rfl ho_h (show (_ : List fS)[5]? = some _ from rfl) (okI (by show (0 : Int) ≤ xq52_.toInt; omega) (by show xq52_.toInt ≤ (7 : Int); omega))
          have hc_h : Mq53_ h = some (.inr (0, [.int dr, .int de, .int pe, .int su, .int du, .int xq52_, .int di, .int sc, .int ss, .int op, .int ac, .int dn, .ref st, .ref ch, .ref sr, .ref no, .ref fo, .ref fb, .ref df])) := hc_h
          have hF : ∀ q, FrK T q → q ≠ h → Mq53_ q = M q := fun q hq h0 => (hfr q h0).trans (hF q hq h0)
          refine lv_aload_n hx hb dX1_addStep_85 rfl (lv_at hl 0 rfl) ?_
          refine lv_dup hx hb dX1_addStep_86 rfl ?_
          refine xg hC hK hH flX1_61 hc_h rfl dX1_addStep_87 ?_
          refine lv_iconst (v := 1) hx hb dX1_addStep_90 (by decide) ?_
          refine lv_iadd hx hb dX1_addStep_91 ?_
          refine lv_topi (fun zq54_ e_zq54_ => ?_)
          have h_zq54_ : zq54_.toInt = sc.toInt + 1 := by rw [e_zq54_, iAdd (by have := iRg sc; have : (1 : Int32).toInt = 1 := rfl; omega) (by have := iRg sc; have : (1 : Int32).toInt = 1 := rfl; omega)]; rfl
          refine yp (v := .int zq54_) hC hK hH flX1_61 hc_h (hasT ht_h (conf_set rfl ho_h (show (_ : List fS)[7]? = some _ from rfl) (okI (by show (0 : Int) ≤ zq54_.toInt; omega) (by show zq54_.toInt ≤ (12 : Int); omega)))) rfl rfl (Nat.le_of_ble_eq_true rfl) dX1_addStep_92 (fun Hq_ lcq_ Mq55_ hc_h hfr hH => ?_)
          have ho_h : conf kA T 2 (.inr (0, [.int dr, .int de, .int pe, .int su, .int du, .int xq52_, .int di, .int zq54_, .int ss, .int op, .int ac, .int dn, .ref st, .ref ch, .ref sr, .ref no, .ref fo, .ref fb, .ref df])) := conf_set rfl ho_h (show (_ : List fS)[7]? = some _ from rfl) (okI (by show (0 : Int) ≤ zq54_.toInt; omega) (by show zq54_.toInt ≤ (12 : Int); omega))
          have hc_h : Mq55_ h = some (.inr (0, [.int dr, .int de, .int pe, .int su, .int du, .int xq52_, .int di, .int zq54_, .int ss, .int op, .int ac, .int dn, .ref st, .ref ch, .ref sr, .ref no, .ref fo, .ref fb, .ref df])) := hc_h
          have hF : ∀ q, FrK T q → q ≠ h → Mq55_ q = M q := fun q hq h0 => (hfr q h0).trans (hF q hq h0)
          exact ret_v hC hr hlk hK hH (⟨xq52_, ⟨by omega, by omega⟩, zq54_, ⟨by omega, by omega⟩, ⟨hc_h, ho_h⟩, rfl, hF⟩) (Nat.le_of_ble_eq_true rfl) (Nat.le_of_ble_eq_true rfl) dX1_addStep_95
        · skip
          have cq43_ : di.toInt = (-1) := cq43_
          refine lv_iconst (v := 1) hx hb dX1_addStep_34 (by decide) ?_
          refine lv_goto (tgt := 39) hx hb dX1_addStep_35 (by decide) ?_
          refine tpu hC hK hH flX1_144 ht_s_ rfl rfl (by decide) (by decide) rfl rfl dX1_addStep_39 (fun Hq_ lcq_ Mq56_ _ hfr hH => ?_)
          have hc_h : Mq56_ h = some (.inr (0, [.int dr, .int de, .int pe, .int su, .int du, .int ha, .int di, .int sc, .int ss, .int op, .int ac, .int dn, .ref st, .ref ch, .ref sr, .ref no, .ref fo, .ref fb, .ref df])) := (hfr h (neF (Or.inr (Or.inr ht_h)) ht_s_ (by decide))).trans hc_h
          have hF : ∀ q, FrK T q → q ≠ h → Mq56_ q = M q := fun q hq h0 => (hfr q (neF hq ht_s_ (by decide))).trans (hF q hq h0)
          refine lv_aload_n hx hb dX1_addStep_42 rfl (lv_at hl 0 rfl) ?_
          refine xg hC hK hH flX1_20 hc_h rfl dX1_addStep_43 ?_
          refine lv_aload_n hx hb dX1_addStep_46 rfl (lv_at hl 1 rfl) ?_
          refine lv_aload_n hx hb dX1_addStep_47 rfl (lv_at hl 0 rfl) ?_
          refine xg hC hK hH flX1_61 hc_h rfl dX1_addStep_48 ?_
          refine lv_iconst (v := 0) hx hb dX1_addStep_51 (by decide) ?_
          refine goV hK hH (runV (As := [.ref s_, .int sc, .int 0]) (rest := []) hC hK hH (c_X2_follow ht_ch ht_s_) mlX1_147 (rcvT hK hH ht_ch rfl rfl) ⟨⟨Nat.le_of_ble_eq_true rfl, Nat.le_of_ble_eq_true rfl⟩, Nat.le_of_ble_eq_true rfl, Nat.le_of_ble_eq_true rfl⟩ rfl hl.1 rfl (Nat.le_of_ble_eq_true rfl) dX1_addStep_52) (fun Mq57_ Tq58_ Hq_ lcq_ hP hz hH => ?_)
          try dsimp only at hP
          obtain ⟨(-), eT, hfr⟩ := hP
          have eT := eT.symm; subst eT
          have hc_h : Mq57_ h = some (.inr (0, [.int dr, .int de, .int pe, .int su, .int du, .int ha, .int di, .int sc, .int ss, .int op, .int ac, .int dn, .ref st, .ref ch, .ref sr, .ref no, .ref fo, .ref fb, .ref df])) := (hfr h (Or.inr (Or.inr ht_h)) ).trans hc_h
          have hF : ∀ q, FrK T q → q ≠ h → Mq57_ q = M q := fun q hq h0 => (hfr q hq ).trans (hF q hq h0)
          refine lv_aload_n hx hb dX1_addStep_55 rfl (lv_at hl 1 rfl) ?_
          refine lv_aload_n hx hb dX1_addStep_56 rfl (lv_at hl 0 rfl) ?_
          refine xg hC hK hH flX1_20 hc_h rfl dX1_addStep_57 ?_
          refine tg hC hK hH flX1_151 ht_ch rfl rfl dX1_addStep_60 (fun xq60_ l_xq60_ g_xq60_ => ?_)
          refine tpu hC hK hH flX1_154 ht_s_ rfl rfl (iRg _).1 (iRg _).2 rfl rfl dX1_addStep_63 (fun Hq_ lcq_ Mq61_ _ hfr hH => ?_)
          have hc_h : Mq61_ h = some (.inr (0, [.int dr, .int de, .int pe, .int su, .int du, .int ha, .int di, .int sc, .int ss, .int op, .int ac, .int dn, .ref st, .ref ch, .ref sr, .ref no, .ref fo, .ref fb, .ref df])) := (hfr h (neF (Or.inr (Or.inr ht_h)) ht_s_ (by decide))).trans hc_h
          have hF : ∀ q, FrK T q → q ≠ h → Mq61_ q = M q := fun q hq h0 => (hfr q (neF hq ht_s_ (by decide))).trans (hF q hq h0)
          refine lv_aload_n hx hb dX1_addStep_66 rfl (lv_at hl 1 rfl) ?_
          refine lv_aload_n hx hb dX1_addStep_67 rfl (lv_at hl 0 rfl) ?_
          refine xg hC hK hH flX1_20 hc_h rfl dX1_addStep_68 ?_
          refine tg hC hK hH flX1_155 ht_ch rfl rfl dX1_addStep_71 (fun xq62_ l_xq62_ g_xq62_ => ?_)
          refine tpu hC hK hH flX1_158 ht_s_ rfl rfl (iRg _).1 (iRg _).2 rfl rfl dX1_addStep_74 (fun Hq_ lcq_ Mq63_ _ hfr hH => ?_)
          have hc_h : Mq63_ h = some (.inr (0, [.int dr, .int de, .int pe, .int su, .int du, .int ha, .int di, .int sc, .int ss, .int op, .int ac, .int dn, .ref st, .ref ch, .ref sr, .ref no, .ref fo, .ref fb, .ref df])) := (hfr h (neF (Or.inr (Or.inr ht_h)) ht_s_ (by decide))).trans hc_h
          have hF : ∀ q, FrK T q → q ≠ h → Mq63_ q = M q := fun q hq h0 => (hfr q (neF hq ht_s_ (by decide))).trans (hF q hq h0)
          refine lv_aload_n hx hb dX1_addStep_77 rfl (lv_at hl 0 rfl) ?_
          refine lv_aload_n hx hb dX1_addStep_78 rfl (lv_at hl 1 rfl) ?_
          refine tg hC hK hH flX1_129 ht_s_ rfl rfl dX1_addStep_79 (fun xq64_ l_xq64_ g_xq64_ => ?_)
          have l_xq64_ : (0 : Int) ≤ xq64_.toInt := l_xq64_
          have g_xq64_ : xq64_.toInt ≤ 7 := g_xq64_
          refine yp (v := .int xq64_) hC hK hH flX1_55 hc_h (hasT ht_h (conf_set rfl ho_h (show (_ : List fS)[5]? = some _ from rfl) (okI (by show (0 : Int) ≤ xq64_.toInt; omega) (by show xq64_.toInt ≤ (7 : Int); omega)))) rfl rfl (Nat.le_of_ble_eq_true rfl) dX1_addStep_82 (fun Hq_ lcq_ Mq65_ hc_h hfr hH => ?_)
          have ho_h : conf kA T 2 (.inr (0, [.int dr, .int de, .int pe, .int su, .int du, .int xq64_, .int di, .int sc, .int ss, .int op, .int ac, .int dn, .ref st, .ref ch, .ref sr, .ref no, .ref fo, .ref fb, .ref df])) := conf_set rfl ho_h (show (_ : List fS)[5]? = some _ from rfl) (okI (by show (0 : Int) ≤ xq64_.toInt; omega) (by show xq64_.toInt ≤ (7 : Int); omega))
          have hc_h : Mq65_ h = some (.inr (0, [.int dr, .int de, .int pe, .int su, .int du, .int xq64_, .int di, .int sc, .int ss, .int op, .int ac, .int dn, .ref st, .ref ch, .ref sr, .ref no, .ref fo, .ref fb, .ref df])) := hc_h
          have hF : ∀ q, FrK T q → q ≠ h → Mq65_ q = M q := fun q hq h0 => (hfr q h0).trans (hF q hq h0)
          refine lv_aload_n hx hb dX1_addStep_85 rfl (lv_at hl 0 rfl) ?_
          refine lv_dup hx hb dX1_addStep_86 rfl ?_
          refine xg hC hK hH flX1_61 hc_h rfl dX1_addStep_87 ?_
          refine lv_iconst (v := 1) hx hb dX1_addStep_90 (by decide) ?_
          refine lv_iadd hx hb dX1_addStep_91 ?_
          refine lv_topi (fun zq66_ e_zq66_ => ?_)
          have h_zq66_ : zq66_.toInt = sc.toInt + 1 := by rw [e_zq66_, iAdd (by have := iRg sc; have : (1 : Int32).toInt = 1 := rfl; omega) (by have := iRg sc; have : (1 : Int32).toInt = 1 := rfl; omega)]; rfl
          refine yp (v := .int zq66_) hC hK hH flX1_61 hc_h (hasT ht_h (conf_set rfl ho_h (show (_ : List fS)[7]? = some _ from rfl) (okI (by show (0 : Int) ≤ zq66_.toInt; omega) (by show zq66_.toInt ≤ (12 : Int); omega)))) rfl rfl (Nat.le_of_ble_eq_true rfl) dX1_addStep_92 (fun Hq_ lcq_ Mq67_ hc_h hfr hH => ?_)
          have ho_h : conf kA T 2 (.inr (0, [.int dr, .int de, .int pe, .int su, .int du, .int xq64_, .int di, .int zq66_, .int ss, .int op, .int ac, .int dn, .ref st, .ref ch, .ref sr, .ref no, .ref fo, .ref fb, .ref df])) := conf_set rfl ho_h (show (_ : List fS)[7]? = some _ from rfl) (okI (by show (0 : Int) ≤ zq66_.toInt; omega) (by show zq66_.toInt ≤ (12 : Int); omega))
          have hc_h : Mq67_ h = some (.inr (0, [.int dr, .int de, .int pe, .int su, .int du, .int xq64_, .int di, .int zq66_, .int ss, .int op, .int ac, .int dn, .ref st, .ref ch, .ref sr, .ref no, .ref fo, .ref fb, .ref df])) := hc_h
          have hF : ∀ q, FrK T q → q ≠ h → Mq67_ q = M q := fun q hq h0 => (hfr q h0).trans (hF q hq h0)
          exact ret_v hC hr hlk hK hH (⟨xq64_, ⟨by omega, by omega⟩, zq66_, ⟨by omega, by omega⟩, ⟨hc_h, ho_h⟩, rfl, hF⟩) (Nat.le_of_ble_eq_true rfl) (Nat.le_of_ble_eq_true rfl) dX1_addStep_95
