set_option maxHeartbeats 4000000 in
set_option maxRecDepth 100000 in
theorem c_X10_billsThat {l : Launch} {D : va_G} {kA : Nat → ClassId} {M : mM} {T : mT} {sz : Nat} {h al mt ii pa li : Nat} {ta fpm sm nx tk pl ln wr : Int32} {va : Int64} {f : Nat → Int32} {wh : Int32} (hc_h : M h = some (.inr (8, [.ref al, .ref mt, .ref ii, .int ta, .int fpm, .ref pa, .int sm, .int nx, .int tk, .int pl, .int ln, .long va, .int wr, .ref li]))) (hn_h : T h = none) (hc_al : M al = some (.inl (kA 0, 7506, .inl f))) (hn_al : T al = none) (ht_mt : T mt = some 11) (ht_pa : T pa = some 13) (ht_li : T li = some 14) (hR_f : Rng f) : mCi l yX10_billsThat cX10_billsThat 4 (some .int) 1 0 0 D kA M T sz [.ref h, .int wh] (fun r u => (True) ∧ u.2 = T ∧ u.1 = M) := by
  unfold mCi
  refine start_W (by decide) (Nat.le_of_ble_eq_true rfl) ?_
  intro p e s m below meth c ls hC hr hlk hnm hK hH hsz hl
  have hx := hC.1
  have hb := hC.2.1
  have hl : lv_has ls 4 [(0, .ref h), (1, .int wh)] := hl
  have n_h_al : h ≠ al := neM hc_h hc_al (by simp)
  have n_al_h : al ≠ h := neM hc_al hc_h (by simp)
  have hK_f : Ke f f := Ke.rf
  refine lv_iconst (v := 0) hx hb dX10_billsThat_0 (by decide) ?_
  refine lv_istore_n (lv' := [(2, .int 0), (0, .ref h), (1, .int wh)]) hx hb dX10_billsThat_1 rfl hl (by decide) rfl (fun ls hl => ?_)
  refine lv_iconst (v := 0) hx hb dX10_billsThat_2 (by decide) ?_
  refine lv_istore_n (lv' := [(3, .int 0), (2, .int 0), (0, .ref h), (1, .int wh)]) hx hb dX10_billsThat_3 rfl hl (by decide) rfl (fun ls hl => ?_)
  have loop : ∀ (n : Nat) (yq1_ : Int32) (yq2_ : Int32) (Hq_ : Heap) (lcq_ : List Loc) (ls : Array Slot), 5 - yq2_.toInt ≤ (n : Int) → (0 : Int) ≤ yq2_.toInt → yq2_.toInt ≤ 4 → M h = some (.inr (8, [.ref al, .ref mt, .ref ii, .int ta, .int fpm, .ref pa, .int sm, .int nx, .int tk, .int pl, .int ln, .long va, .int wr, .ref li])) → M al = some (.inl (kA 0, 7506, .inl f)) → mS D kA M T (mA M T sz) s.heap Hq_ lcq_ → lv_has ls 4 [(3, .int yq2_), (2, .int yq1_), (0, .ref h), (1, .int wh)] → W p l e (rmL 1 0 0) s m ([.ref h, .int wh] : List Value).toArray below meth c Hq_ lcq_ 0 0 (MQ below (va_Qi (fun r u => (True) ∧ u.2 = T ∧ u.1 = M) (mB D kA M T sz) (mA M T sz)) ([.ref h, .int wh] : List Value).toArray s 0 0 (mA M T sz)) (F0 m 4 ls []) := by
    intro n
    induction n with
    | zero =>
      intro yq1_ yq2_ Hq_ lcq_ ls hme l_yq2_ g_yq2_ hc_h hc_al hH hl
      exfalso; omega
    | succ n ih =>
      intro yq1_ yq2_ Hq_ lcq_ ls hme l_yq2_ g_yq2_ hc_h hc_al hH hl
      refine lv_iload_n hx hb dX10_billsThat_4 rfl (lv_at hl 0 rfl) ?_
      refine lv_aload_n hx hb dX10_billsThat_5 rfl (lv_at hl 2 rfl) ?_
      refine xg hC hK hH flX10_7 hc_h rfl dX10_billsThat_6 ?_
      refine lv_iconst (v := 1) hx hb dX10_billsThat_9 (by decide) ?_
      refine xild hC hK hH hc_al (iIn (by decide) (by decide)) dX10_billsThat_10 ?_
      refine lv_topi (fun xq3_ e_xq3_ => ?_)
      have kt_xq3_ : xq3_.toInt = (f 1).toInt := by rw [e_xq3_]; rfl
      have l_xq3_ : 0 ≤ xq3_.toInt := by rw [kt_xq3_]; exact hR_f.r1.1
      have g_xq3_ : xq3_.toInt ≤ 4 := by rw [kt_xq3_]; exact hR_f.r1.2
      refine jic_ge (tgt := 66) hx hb dX10_billsThat_11 (by decide) (fun cq4_ => ?_) (fun cq4_ => ?_)
      · skip
        have cq4_ : xq3_.toInt ≤ yq2_.toInt := cq4_
        refine lv_iload_n hx hb dX10_billsThat_66 rfl (lv_at hl 1 rfl) ?_
        exact ret_i hC hr hlk hK hH (⟨trivial, rfl, rfl⟩) (Nat.le_of_ble_eq_true rfl) (Nat.le_of_ble_eq_true rfl) dX10_billsThat_67
      · skip
        have cq4_ : yq2_.toInt < xq3_.toInt := cq4_
        refine lv_iload_n hx hb dX10_billsThat_14 rfl (lv_at hl 1 rfl) ?_
        refine lv_iload_n hx hb dX10_billsThat_15 rfl (lv_at hl 3 rfl) ?_
        refine lv_iconst (v := 5) hx hb dX10_billsThat_16 (by decide) ?_
        refine jic_ne (tgt := 45) hx hb dX10_billsThat_17 (by decide) (fun cq5_ => ?_) (fun cq5_ => ?_)
        · skip
          have cq5_ : wh.toInt ≠ 5 := cq5_
          refine lv_aload_n hx hb dX10_billsThat_45 rfl (lv_at hl 2 rfl) ?_
          refine xg hC hK hH flX10_7 hc_h rfl dX10_billsThat_46 ?_
          refine lv_iconst (v := 0) hx hb dX10_billsThat_49 (by decide) ?_
          refine lv_iload_n hx hb dX10_billsThat_50 rfl (lv_at hl 0 rfl) ?_
          obtain ⟨nq6_, hn_nq6_⟩ : ∃ n : Nat, yq2_.toInt = (n : Int) := ⟨(yq2_.toInt).toNat, by omega⟩
          refine goI hK hH (runS (As := [.int 0, .int yq2_]) (rest := [.ref al, .int yq1_]) hC hK hH (c_X10_at (by decide) (by omega)) mlX10_109 ⟨⟨Nat.le_of_ble_eq_true rfl, Nat.le_of_ble_eq_true rfl⟩, Nat.le_of_ble_eq_true rfl, Nat.le_of_ble_eq_true rfl⟩ rfl hl.1 rfl (Nat.le_of_ble_eq_true rfl) dX10_billsThat_51) (fun rq9_ Mq7_ Tq8_ Hq_ lcq_ hP hz hH => ?_)
          try dsimp only at hP
          obtain ⟨(⟨cq10_, ⟨l_rq9_, g_rq9_⟩⟩), eT, eM⟩ := hP
          have eT := eT.symm; subst eT
          have eM := eM.symm; subst eM
          have cq10_ : rq9_.toInt = (0 : Int) + 20 + 280 * yq2_.toInt := cq10_
          obtain ⟨nq11_, hn_nq11_⟩ : ∃ n : Nat, n = 1140 * 0 + 20 + 280 * nq6_ := ⟨_, rfl⟩
          have hx_rq9_ : rq9_.toInt = (nq11_ : Int) := by have : (0 : Int32).toInt = 0 := rfl; omega
          refine lv_bipush (v := 10) hx hb dX10_billsThat_54 (by decide) ?_
          refine lv_iadd hx hb dX10_billsThat_56 ?_
          refine lv_topi (fun zq12_ e_zq12_ => ?_)
          have h_zq12_ : zq12_.toInt = rq9_.toInt + 10 := by rw [e_zq12_, iAdd (by have := iRg rq9_; have : (10 : Int32).toInt = 10 := rfl; omega) (by have := iRg rq9_; have : (10 : Int32).toInt = 10 := rfl; omega)]; rfl
          refine xild hC hK hH hc_al (iIn (by omega) (by omega)) dX10_billsThat_57 ?_
          refine lv_topi (fun xq13_ e_xq13_ => ?_)
          have k_xq13_ : xq13_ = f (nq11_ + 10) := by rw [e_xq13_, clE (n := nq11_ + 10) (by omega)]
          have kt_xq13_ : xq13_.toInt = (f (nq11_ + 10)).toInt := by rw [k_xq13_]
          refine lv_iadd hx hb dX10_billsThat_58 ?_
          refine lv_topi (fun zq14_ e_zq14_ => ?_)
          refine lv_istore_n (lv' := [(2, .int zq14_), (3, .int yq2_), (0, .ref h), (1, .int wh)]) hx hb dX10_billsThat_59 rfl hl (by decide) rfl (fun ls hl => ?_)
          obtain ⟨zq15_, e_zq15_⟩ : ∃ y : Int32, y = yq2_ + 1 := ⟨_, rfl⟩
          refine lv_iinc (v := zq15_) (lv' := [(3, .int zq15_), (2, .int zq14_), (0, .ref h), (1, .int wh)]) hx hb dX10_billsThat_60 hl (k := 1) rfl (by rw [e_zq15_]; rfl) (by decide) rfl (fun ls hl => ?_)
          have h_zq15_ : zq15_.toInt = yq2_.toInt + 1 := by rw [e_zq15_, iAdd (by have : (1 : Int32).toInt = 1 := rfl; omega) (by have : (1 : Int32).toInt = 1 := rfl; omega)]; rfl
          refine lv_goto (tgt := 4) hx hb dX10_billsThat_63 (by decide) ?_
          exact ih zq14_ zq15_ _ _ ls (by have := iRg zq14_; have := iRg zq15_; omega) (by have := iRg zq14_; have := iRg zq15_; omega) (by have := iRg zq14_; have := iRg zq15_; omega) hc_h hc_al hH (lv_sub hl [0, 1, 2, 3] rfl)
        · skip
          have cq5_ : wh.toInt = 5 := cq5_
          refine lv_aload_n hx hb dX10_billsThat_20 rfl (lv_at hl 2 rfl) ?_
          refine xg hC hK hH flX10_7 hc_h rfl dX10_billsThat_21 ?_
          refine lv_iconst (v := 0) hx hb dX10_billsThat_24 (by decide) ?_
          refine lv_iload_n hx hb dX10_billsThat_25 rfl (lv_at hl 0 rfl) ?_
          obtain ⟨nq16_, hn_nq16_⟩ : ∃ n : Nat, yq2_.toInt = (n : Int) := ⟨(yq2_.toInt).toNat, by omega⟩
          refine goI hK hH (runS (As := [.int 0, .int yq2_]) (rest := [.ref al, .int yq1_]) hC hK hH (c_X10_at (by decide) (by omega)) mlX10_109 ⟨⟨Nat.le_of_ble_eq_true rfl, Nat.le_of_ble_eq_true rfl⟩, Nat.le_of_ble_eq_true rfl, Nat.le_of_ble_eq_true rfl⟩ rfl hl.1 rfl (Nat.le_of_ble_eq_true rfl) dX10_billsThat_26) (fun rq19_ Mq17_ Tq18_ Hq_ lcq_ hP hz hH => ?_)
          try dsimp only at hP
          obtain ⟨(⟨cq20_, ⟨l_rq19_, g_rq19_⟩⟩), eT, eM⟩ := hP
          have eT := eT.symm; subst eT
          have eM := eM.symm; subst eM
          have cq20_ : rq19_.toInt = (0 : Int) + 20 + 280 * yq2_.toInt := cq20_
          obtain ⟨nq21_, hn_nq21_⟩ : ∃ n : Nat, n = 1140 * 0 + 20 + 280 * nq16_ := ⟨_, rfl⟩
          have hx_rq19_ : rq19_.toInt = (nq21_ : Int) := by have : (0 : Int32).toInt = 0 := rfl; omega
          refine lv_bipush (v := 9) hx hb dX10_billsThat_29 (by decide) ?_
          refine lv_iadd hx hb dX10_billsThat_31 ?_
          refine lv_topi (fun zq22_ e_zq22_ => ?_)
          have h_zq22_ : zq22_.toInt = rq19_.toInt + 9 := by rw [e_zq22_, iAdd (by have := iRg rq19_; have : (9 : Int32).toInt = 9 := rfl; omega) (by have := iRg rq19_; have : (9 : Int32).toInt = 9 := rfl; omega)]; rfl
          refine xild hC hK hH hc_al (iIn (by omega) (by omega)) dX10_billsThat_32 ?_
          refine lv_topi (fun xq23_ e_xq23_ => ?_)
          have k_xq23_ : xq23_ = f (nq21_ + 9) := by rw [e_xq23_, clE (n := nq21_ + 9) (by omega)]
          have kt_xq23_ : xq23_.toInt = (f (nq21_ + 9)).toInt := by rw [k_xq23_]
          refine lv_iconst (v := -1) hx hb dX10_billsThat_33 (by decide) ?_
          refine jic_eq (tgt := 41) hx hb dX10_billsThat_34 (by decide) (fun cq24_ => ?_) (fun cq24_ => ?_)
          · skip
            have cq24_ : xq23_.toInt = (-1) := cq24_
            refine lv_iconst (v := 0) hx hb dX10_billsThat_41 (by decide) ?_
            refine lv_goto (tgt := 58) hx hb dX10_billsThat_42 (by decide) ?_
            refine lv_iadd hx hb dX10_billsThat_58 ?_
            refine lv_topi (fun zq25_ e_zq25_ => ?_)
            have h_zq25_ : zq25_.toInt = yq1_.toInt + 0 := by rw [e_zq25_, iAdd (by have := iRg yq1_; have : (0 : Int32).toInt = 0 := rfl; omega) (by have := iRg yq1_; have : (0 : Int32).toInt = 0 := rfl; omega)]; rfl
            refine lv_istore_n (lv' := [(2, .int zq25_), (3, .int yq2_), (0, .ref h), (1, .int wh)]) hx hb dX10_billsThat_59 rfl hl (by decide) rfl (fun ls hl => ?_)
            obtain ⟨zq26_, e_zq26_⟩ : ∃ y : Int32, y = yq2_ + 1 := ⟨_, rfl⟩
            refine lv_iinc (v := zq26_) (lv' := [(3, .int zq26_), (2, .int zq25_), (0, .ref h), (1, .int wh)]) hx hb dX10_billsThat_60 hl (k := 1) rfl (by rw [e_zq26_]; rfl) (by decide) rfl (fun ls hl => ?_)
            have h_zq26_ : zq26_.toInt = yq2_.toInt + 1 := by rw [e_zq26_, iAdd (by have : (1 : Int32).toInt = 1 := rfl; omega) (by have : (1 : Int32).toInt = 1 := rfl; omega)]; rfl
            refine lv_goto (tgt := 4) hx hb dX10_billsThat_63 (by decide) ?_
            exact ih zq25_ zq26_ _ _ ls (by have := iRg zq25_; have := iRg zq26_; omega) (by have := iRg zq25_; have := iRg zq26_; omega) (by have := iRg zq25_; have := iRg zq26_; omega) hc_h hc_al hH (lv_sub hl [0, 1, 2, 3] rfl)
          · skip
            have cq24_ : xq23_.toInt ≠ (-1) := cq24_
            refine lv_iconst (v := 1) hx hb dX10_billsThat_37 (by decide) ?_
            refine lv_goto (tgt := 58) hx hb dX10_billsThat_38 (by decide) ?_
            refine lv_iadd hx hb dX10_billsThat_58 ?_
            refine lv_topi (fun zq27_ e_zq27_ => ?_)
            refine lv_istore_n (lv' := [(2, .int zq27_), (3, .int yq2_), (0, .ref h), (1, .int wh)]) hx hb dX10_billsThat_59 rfl hl (by decide) rfl (fun ls hl => ?_)
            obtain ⟨zq28_, e_zq28_⟩ : ∃ y : Int32, y = yq2_ + 1 := ⟨_, rfl⟩
            refine lv_iinc (v := zq28_) (lv' := [(3, .int zq28_), (2, .int zq27_), (0, .ref h), (1, .int wh)]) hx hb dX10_billsThat_60 hl (k := 1) rfl (by rw [e_zq28_]; rfl) (by decide) rfl (fun ls hl => ?_)
            have h_zq28_ : zq28_.toInt = yq2_.toInt + 1 := by rw [e_zq28_, iAdd (by have : (1 : Int32).toInt = 1 := rfl; omega) (by have : (1 : Int32).toInt = 1 := rfl; omega)]; rfl
            refine lv_goto (tgt := 4) hx hb dX10_billsThat_63 (by decide) ?_
            exact ih zq27_ zq28_ _ _ ls (by have := iRg zq27_; have := iRg zq28_; omega) (by have := iRg zq27_; have := iRg zq28_; omega) (by have := iRg zq27_; have := iRg zq28_; omega) hc_h hc_al hH (lv_sub hl [0, 1, 2, 3] rfl)
  exact loop (Int.toNat (5 - 0)) 0 0 _ _ ls (by have : (0 : Int32).toInt = 0 := rfl; have : (0 : Int32).toInt = 0 := rfl; omega) (by have : (0 : Int32).toInt = 0 := rfl; have : (0 : Int32).toInt = 0 := rfl; omega) (by have : (0 : Int32).toInt = 0 := rfl; have : (0 : Int32).toInt = 0 := rfl; omega) hc_h hc_al hH hl
set_option maxHeartbeats 4000000 in
set_option maxRecDepth 100000 in
theorem c_X10_count {l : Launch} {D : va_G} {kA : Nat → ClassId} {M : mM} {T : mT} {sz : Nat} {h al mt ii pa li : Nat} {ta fpm sm nx tk pl ln wr : Int32} {va : Int64} {f : Nat → Int32} {wh : Int32} (hc_h : M h = some (.inr (8, [.ref al, .ref mt, .ref ii, .int ta, .int fpm, .ref pa, .int sm, .int nx, .int tk, .int pl, .int ln, .long va, .int wr, .ref li]))) (hn_h : T h = none) (hc_al : M al = some (.inl (kA 0, 7506, .inl f))) (hn_al : T al = none) (ht_mt : T mt = some 11) (ht_pa : T pa = some 13) (ht_li : T li = some 14) (hR_f : Rng f) : mCi l yX10_count cX10_count 4 (some .int) 2 0 0 D kA M T sz [.ref h, .int wh] (fun r u => (True) ∧ u.2 = T ∧ u.1 = M) := by
  unfold mCi
  refine start_W (by decide) (Nat.le_of_ble_eq_true rfl) ?_
  intro p e s m below meth c ls hC hr hlk hnm hK hH hsz hl
  have hx := hC.1
  have hb := hC.2.1
  have hl : lv_has ls 4 [(0, .ref h), (1, .int wh)] := hl
  have n_h_al : h ≠ al := neM hc_h hc_al (by simp)
  have n_al_h : al ≠ h := neM hc_al hc_h (by simp)
  have hK_f : Ke f f := Ke.rf
  refine lv_iload_n hx hb dX10_count_0 rfl (lv_at hl 1 rfl) ?_
  refine lv_bipush (v := 10) hx hb dX10_count_1 (by decide) ?_
  refine lv_bipush (v := 17) hx hb dX10_count_3 (by decide) ?_
  refine goI hK hH (runS (As := [.int wh, .int 10, .int 17]) (rest := []) hC hK hH (c_X10_isIn) mlX10_33 ⟨⟨Nat.le_of_ble_eq_true rfl, Nat.le_of_ble_eq_true rfl⟩, Nat.le_of_ble_eq_true rfl, Nat.le_of_ble_eq_true rfl⟩ rfl hl.1 rfl (Nat.le_of_ble_eq_true rfl) dX10_count_5) (fun rq3_ Mq1_ Tq2_ Hq_ lcq_ hP hz hH => ?_)
  try dsimp only at hP
  obtain ⟨(⟨cq4_, er_rq3_⟩ | ⟨cq5_, er_rq3_⟩), eT, eM⟩ := hP
  · skip
    have eT := eT.symm; subst eT
    have er_rq3_ := er_rq3_.symm; subst er_rq3_
    have eM := eM.symm; subst eM
    have cq4_ : (10 : Int) ≤ wh.toInt ∧ wh.toInt ≤ (17 : Int) := cq4_
    refine jif_eq (tgt := 24) hx hb dX10_count_8 (by decide) (fun cq6_ => absurd cq6_ (by decide)) (fun cq6_ => ?_)
    refine lv_aload_n hx hb dX10_count_11 rfl (lv_at hl 0 rfl) ?_
    refine xg hC hK hH flX10_7 hc_h rfl dX10_count_12 ?_
    refine lv_bipush (v := 6) hx hb dX10_count_15 (by decide) ?_
    refine lv_iload_n hx hb dX10_count_17 rfl (lv_at hl 1 rfl) ?_
    refine lv_iadd hx hb dX10_count_18 ?_
    refine lv_topi (fun zq7_ e_zq7_ => ?_)
    have h_zq7_ : zq7_.toInt = 6 + wh.toInt := by rw [e_zq7_, iAdd (by have : (6 : Int32).toInt = 6 := rfl; have := iRg wh; omega) (by have : (6 : Int32).toInt = 6 := rfl; have := iRg wh; omega)]; rfl
    refine lv_bipush (v := 10) hx hb dX10_count_19 (by decide) ?_
    refine lv_isub hx hb dX10_count_21 ?_
    refine lv_topi (fun zq8_ e_zq8_ => ?_)
    have h_zq8_ : zq8_.toInt = zq7_.toInt - 10 := by rw [e_zq8_, iSub (by have := iRg zq7_; have : (10 : Int32).toInt = 10 := rfl; omega) (by have := iRg zq7_; have : (10 : Int32).toInt = 10 := rfl; omega)]; rfl
    refine xild hC hK hH hc_al (iIn (by omega) (by omega)) dX10_count_22 ?_
    refine lv_topi (fun xq9_ e_xq9_ => ?_)
    exact ret_i hC hr hlk hK hH (⟨trivial, rfl, rfl⟩) (Nat.le_of_ble_eq_true rfl) (Nat.le_of_ble_eq_true rfl) dX10_count_23
  · skip
    have eT := eT.symm; subst eT
    have er_rq3_ := er_rq3_.symm; subst er_rq3_
    have eM := eM.symm; subst eM
    have cq5_ : ¬ ((10 : Int) ≤ wh.toInt ∧ wh.toInt ≤ (17 : Int)) := cq5_
    refine jif_eq (tgt := 24) hx hb dX10_count_8 (by decide) (fun cq10_ => ?_) (fun cq10_ => absurd cq10_ (by decide))
    refine lv_iload_n hx hb dX10_count_24 rfl (lv_at hl 1 rfl) ?_
    rcases (show wh.toInt < 0 ∨ 8 < wh.toInt ∨ wh.toInt = 0 ∨ wh.toInt = 1 ∨ wh.toInt = 2 ∨ wh.toInt = 3 ∨ wh.toInt = 4 ∨ wh.toInt = 5 ∨ wh.toInt = 6 ∨ wh.toInt = 7 ∨ wh.toInt = 8 by omega) with cq11_ | cq11_ | cq11_ | cq11_ | cq11_ | cq11_ | cq11_ | cq11_ | cq11_ | cq11_ | cq11_
    · skip
      refine lv_tableOut (tgt := 159) hx hb dX10_count_25 (Or.inl cq11_) (by decide) ?_
      refine lv_iconst (v := -1) hx hb dX10_count_159 (by decide) ?_
      exact ret_i hC hr hlk hK hH (⟨trivial, rfl, rfl⟩) (Nat.le_of_ble_eq_true rfl) (Nat.le_of_ble_eq_true rfl) dX10_count_160
    · skip
      refine lv_tableOut (tgt := 159) hx hb dX10_count_25 (Or.inr cq11_) (by decide) ?_
      refine lv_iconst (v := -1) hx hb dX10_count_159 (by decide) ?_
      exact ret_i hC hr hlk hK hH (⟨trivial, rfl, rfl⟩) (Nat.le_of_ble_eq_true rfl) (Nat.le_of_ble_eq_true rfl) dX10_count_160
    · skip
      refine lv_tableIn (off := 51) (tgt := 76) hx hb dX10_count_25 (by omega) (by omega) (by rw [cq11_]; rfl) (by decide) ?_
      refine lv_aload_n hx hb dX10_count_76 rfl (lv_at hl 0 rfl) ?_
      refine xg hC hK hH flX10_7 hc_h rfl dX10_count_77 ?_
      refine lv_iconst (v := 0) hx hb dX10_count_80 (by decide) ?_
      refine xild hC hK hH hc_al (iIn (by decide) (by decide)) dX10_count_81 ?_
      refine lv_topi (fun xq12_ e_xq12_ => ?_)
      have kt_xq12_ : xq12_.toInt = (f 0).toInt := by rw [e_xq12_]; rfl
      exact ret_i hC hr hlk hK hH (⟨trivial, rfl, rfl⟩) (Nat.le_of_ble_eq_true rfl) (Nat.le_of_ble_eq_true rfl) dX10_count_82
    · skip
      refine lv_tableIn (off := 58) (tgt := 83) hx hb dX10_count_25 (by omega) (by omega) (by rw [cq11_]; rfl) (by decide) ?_
      refine lv_aload_n hx hb dX10_count_83 rfl (lv_at hl 0 rfl) ?_
      refine xg hC hK hH flX10_7 hc_h rfl dX10_count_84 ?_
      refine lv_iconst (v := 1) hx hb dX10_count_87 (by decide) ?_
      refine xild hC hK hH hc_al (iIn (by decide) (by decide)) dX10_count_88 ?_
      refine lv_topi (fun xq13_ e_xq13_ => ?_)
      have kt_xq13_ : xq13_.toInt = (f 1).toInt := by rw [e_xq13_]; rfl
      have l_xq13_ : 0 ≤ xq13_.toInt := by rw [kt_xq13_]; exact hR_f.r1.1
      have g_xq13_ : xq13_.toInt ≤ 4 := by rw [kt_xq13_]; exact hR_f.r1.2
      exact ret_i hC hr hlk hK hH (⟨trivial, rfl, rfl⟩) (Nat.le_of_ble_eq_true rfl) (Nat.le_of_ble_eq_true rfl) dX10_count_89
    · skip
      refine lv_tableIn (off := 65) (tgt := 90) hx hb dX10_count_25 (by omega) (by omega) (by rw [cq11_]; rfl) (by decide) ?_
      refine lv_aload_n hx hb dX10_count_90 rfl (lv_at hl 0 rfl) ?_
      refine xg hC hK hH flX10_7 hc_h rfl dX10_count_91 ?_
      refine lv_iconst (v := 2) hx hb dX10_count_94 (by decide) ?_
      refine xild hC hK hH hc_al (iIn (by decide) (by decide)) dX10_count_95 ?_
      refine lv_topi (fun xq14_ e_xq14_ => ?_)
      have kt_xq14_ : xq14_.toInt = (f 2).toInt := by rw [e_xq14_]; rfl
      exact ret_i hC hr hlk hK hH (⟨trivial, rfl, rfl⟩) (Nat.le_of_ble_eq_true rfl) (Nat.le_of_ble_eq_true rfl) dX10_count_96
    · skip
      refine lv_tableIn (off := 72) (tgt := 97) hx hb dX10_count_25 (by omega) (by omega) (by rw [cq11_]; rfl) (by decide) ?_
      refine lv_iconst (v := 0) hx hb dX10_count_97 (by decide) ?_
      refine lv_istore_n (lv' := [(2, .int 0), (0, .ref h), (1, .int wh)]) hx hb dX10_count_98 rfl hl (by decide) rfl (fun ls hl => ?_)
      refine lv_iconst (v := 0) hx hb dX10_count_99 (by decide) ?_
      refine lv_istore_n (lv' := [(3, .int 0), (2, .int 0), (0, .ref h), (1, .int wh)]) hx hb dX10_count_100 rfl hl (by decide) rfl (fun ls hl => ?_)
      have loop : ∀ (n : Nat) (yq15_ : Int32) (yq16_ : Int32) (Hq_ : Heap) (lcq_ : List Loc) (ls : Array Slot), 9 - yq16_.toInt ≤ (n : Int) → (0 : Int) ≤ yq16_.toInt → yq16_.toInt ≤ 8 → M h = some (.inr (8, [.ref al, .ref mt, .ref ii, .int ta, .int fpm, .ref pa, .int sm, .int nx, .int tk, .int pl, .int ln, .long va, .int wr, .ref li])) → M al = some (.inl (kA 0, 7506, .inl f)) → mS D kA M T (mA M T sz) s.heap Hq_ lcq_ → lv_has ls 4 [(3, .int yq16_), (2, .int yq15_), (0, .ref h), (1, .int wh)] → W p l e (rmL 2 0 0) s m ([.ref h, .int wh] : List Value).toArray below meth c Hq_ lcq_ 0 0 (MQ below (va_Qi (fun r u => (True) ∧ u.2 = T ∧ u.1 = M) (mB D kA M T sz) (mA M T sz)) ([.ref h, .int wh] : List Value).toArray s 0 0 (mA M T sz)) (F0 m 101 ls []) := by
        intro n
        induction n with
        | zero =>
          intro yq15_ yq16_ Hq_ lcq_ ls hme l_yq16_ g_yq16_ hc_h hc_al hH hl
          exfalso; omega
        | succ n ih =>
          intro yq15_ yq16_ Hq_ lcq_ ls hme l_yq16_ g_yq16_ hc_h hc_al hH hl
          refine lv_iload_n hx hb dX10_count_101 rfl (lv_at hl 0 rfl) ?_
          refine lv_bipush (v := 8) hx hb dX10_count_102 (by decide) ?_
          refine jic_ge (tgt := 125) hx hb dX10_count_104 (by decide) (fun cq17_ => ?_) (fun cq17_ => ?_)
          · skip
            have cq17_ : 8 ≤ yq16_.toInt := cq17_
            refine lv_iload_n hx hb dX10_count_125 rfl (lv_at hl 1 rfl) ?_
            exact ret_i hC hr hlk hK hH (⟨trivial, rfl, rfl⟩) (Nat.le_of_ble_eq_true rfl) (Nat.le_of_ble_eq_true rfl) dX10_count_126
          · skip
            have cq17_ : yq16_.toInt < 8 := cq17_
            refine lv_iload_n hx hb dX10_count_107 rfl (lv_at hl 1 rfl) ?_
            refine lv_aload_n hx hb dX10_count_108 rfl (lv_at hl 2 rfl) ?_
            refine xg hC hK hH flX10_7 hc_h rfl dX10_count_109 ?_
            refine lv_bipush (v := 6) hx hb dX10_count_112 (by decide) ?_
            refine lv_iload_n hx hb dX10_count_114 rfl (lv_at hl 0 rfl) ?_
            refine lv_iadd hx hb dX10_count_115 ?_
            refine lv_topi (fun zq18_ e_zq18_ => ?_)
            have h_zq18_ : zq18_.toInt = 6 + yq16_.toInt := by rw [e_zq18_, iAdd (by have : (6 : Int32).toInt = 6 := rfl; have := iRg yq16_; omega) (by have : (6 : Int32).toInt = 6 := rfl; have := iRg yq16_; omega)]; rfl
            refine xild hC hK hH hc_al (iIn (by omega) (by omega)) dX10_count_116 ?_
            refine lv_topi (fun xq19_ e_xq19_ => ?_)
            refine lv_iadd hx hb dX10_count_117 ?_
            refine lv_topi (fun zq20_ e_zq20_ => ?_)
            refine lv_istore_n (lv' := [(2, .int zq20_), (3, .int yq16_), (0, .ref h), (1, .int wh)]) hx hb dX10_count_118 rfl hl (by decide) rfl (fun ls hl => ?_)
            obtain ⟨zq21_, e_zq21_⟩ : ∃ y : Int32, y = yq16_ + 1 := ⟨_, rfl⟩
            refine lv_iinc (v := zq21_) (lv' := [(3, .int zq21_), (2, .int zq20_), (0, .ref h), (1, .int wh)]) hx hb dX10_count_119 hl (k := 1) rfl (by rw [e_zq21_]; rfl) (by decide) rfl (fun ls hl => ?_)
            have h_zq21_ : zq21_.toInt = yq16_.toInt + 1 := by rw [e_zq21_, iAdd (by have : (1 : Int32).toInt = 1 := rfl; omega) (by have : (1 : Int32).toInt = 1 := rfl; omega)]; rfl
            refine lv_goto (tgt := 101) hx hb dX10_count_122 (by decide) ?_
            exact ih zq20_ zq21_ _ _ ls (by have := iRg zq20_; have := iRg zq21_; omega) (by have := iRg zq20_; have := iRg zq21_; omega) (by have := iRg zq20_; have := iRg zq21_; omega) hc_h hc_al hH (lv_sub hl [0, 1, 2, 3] rfl)
      exact loop (Int.toNat (9 - 0)) 0 0 _ _ ls (by have : (0 : Int32).toInt = 0 := rfl; have : (0 : Int32).toInt = 0 := rfl; omega) (by have : (0 : Int32).toInt = 0 := rfl; have : (0 : Int32).toInt = 0 := rfl; omega) (by have : (0 : Int32).toInt = 0 := rfl; have : (0 : Int32).toInt = 0 := rfl; omega) hc_h hc_al hH hl
    · skip
      refine lv_tableIn (off := 102) (tgt := 127) hx hb dX10_count_25 (by omega) (by omega) (by rw [cq11_]; rfl) (by decide) ?_
      refine lv_aload_n hx hb dX10_count_127 rfl (lv_at hl 0 rfl) ?_
      refine xg hC hK hH flX10_7 hc_h rfl dX10_count_128 ?_
      refine lv_iconst (v := 3) hx hb dX10_count_131 (by decide) ?_
      refine xild hC hK hH hc_al (iIn (by decide) (by decide)) dX10_count_132 ?_
      refine lv_topi (fun xq22_ e_xq22_ => ?_)
      have kt_xq22_ : xq22_.toInt = (f 3).toInt := by rw [e_xq22_]; rfl
      exact ret_i hC hr hlk hK hH (⟨trivial, rfl, rfl⟩) (Nat.le_of_ble_eq_true rfl) (Nat.le_of_ble_eq_true rfl) dX10_count_133
    · skip
      refine lv_tableIn (off := 109) (tgt := 134) hx hb dX10_count_25 (by omega) (by omega) (by rw [cq11_]; rfl) (by decide) ?_
      refine lv_aload_n hx hb dX10_count_134 rfl (lv_at hl 0 rfl) ?_
      refine lv_iconst (v := 5) hx hb dX10_count_135 (by decide) ?_
      refine goI hK hH (runV (As := [.int 5]) (rest := []) hC hK hH (c_X10_billsThat hc_h hn_h hc_al hn_al ht_mt ht_pa ht_li (by exact hR_f)) mlX10_177 (rcvM hK hH hc_h rfl) ⟨⟨Nat.le_of_ble_eq_true rfl, Nat.le_of_ble_eq_true rfl⟩, Nat.le_of_ble_eq_true rfl, Nat.le_of_ble_eq_true rfl⟩ rfl hl.1 rfl (Nat.le_of_ble_eq_true rfl) dX10_count_136) (fun rq25_ Mq23_ Tq24_ Hq_ lcq_ hP hz hH => ?_)
      try dsimp only at hP
      obtain ⟨(-), eT, eM⟩ := hP
      have eT := eT.symm; subst eT
      have eM := eM.symm; subst eM
      exact ret_i hC hr hlk hK hH (⟨trivial, rfl, rfl⟩) (Nat.le_of_ble_eq_true rfl) (Nat.le_of_ble_eq_true rfl) dX10_count_139
    · skip
      refine lv_tableIn (off := 115) (tgt := 140) hx hb dX10_count_25 (by omega) (by omega) (by rw [cq11_]; rfl) (by decide) ?_
      refine lv_aload_n hx hb dX10_count_140 rfl (lv_at hl 0 rfl) ?_
      refine lv_bipush (v := 6) hx hb dX10_count_141 (by decide) ?_
      refine goI hK hH (runV (As := [.int 6]) (rest := []) hC hK hH (c_X10_billsThat hc_h hn_h hc_al hn_al ht_mt ht_pa ht_li (by exact hR_f)) mlX10_177 (rcvM hK hH hc_h rfl) ⟨⟨Nat.le_of_ble_eq_true rfl, Nat.le_of_ble_eq_true rfl⟩, Nat.le_of_ble_eq_true rfl, Nat.le_of_ble_eq_true rfl⟩ rfl hl.1 rfl (Nat.le_of_ble_eq_true rfl) dX10_count_143) (fun rq28_ Mq26_ Tq27_ Hq_ lcq_ hP hz hH => ?_)
      try dsimp only at hP
      obtain ⟨(-), eT, eM⟩ := hP
      have eT := eT.symm; subst eT
      have eM := eM.symm; subst eM
      exact ret_i hC hr hlk hK hH (⟨trivial, rfl, rfl⟩) (Nat.le_of_ble_eq_true rfl) (Nat.le_of_ble_eq_true rfl) dX10_count_146
    · skip
      refine lv_tableIn (off := 122) (tgt := 147) hx hb dX10_count_25 (by omega) (by omega) (by rw [cq11_]; rfl) (by decide) ?_
      refine lv_aload_n hx hb dX10_count_147 rfl (lv_at hl 0 rfl) ?_
      refine xg hC hK hH flX10_7 hc_h rfl dX10_count_148 ?_
      refine lv_iconst (v := 4) hx hb dX10_count_151 (by decide) ?_
      refine xild hC hK hH hc_al (iIn (by decide) (by decide)) dX10_count_152 ?_
      refine lv_topi (fun xq29_ e_xq29_ => ?_)
      have kt_xq29_ : xq29_.toInt = (f 4).toInt := by rw [e_xq29_]; rfl
      exact ret_i hC hr hlk hK hH (⟨trivial, rfl, rfl⟩) (Nat.le_of_ble_eq_true rfl) (Nat.le_of_ble_eq_true rfl) dX10_count_153
    · skip
      refine lv_tableIn (off := 129) (tgt := 154) hx hb dX10_count_25 (by omega) (by omega) (by rw [cq11_]; rfl) (by decide) ?_
      refine lv_aload_n hx hb dX10_count_154 rfl (lv_at hl 0 rfl) ?_
      refine xg hC hK hH flX10_180 hc_h rfl dX10_count_155 ?_
      exact ret_i hC hr hlk hK hH (⟨trivial, rfl, rfl⟩) (Nat.le_of_ble_eq_true rfl) (Nat.le_of_ble_eq_true rfl) dX10_count_158
set_option maxHeartbeats 4000000 in
set_option maxRecDepth 100000 in
theorem c_X10_refused {l : Launch} {D : va_G} {kA : Nat → ClassId} {M : mM} {T : mT} {sz : Nat} {h al mt ii pa li : Nat} {ta fpm sm nx tk pl ln wr : Int32} {va : Int64} {f : Nat → Int32} (hc_h : M h = some (.inr (8, [.ref al, .ref mt, .ref ii, .int ta, .int fpm, .ref pa, .int sm, .int nx, .int tk, .int pl, .int ln, .long va, .int wr, .ref li]))) (hn_h : T h = none) (hc_al : M al = some (.inl (kA 0, 7506, .inl f))) (hn_al : T al = none) (ht_mt : T mt = some 11) (ht_pa : T pa = some 13) (ht_li : T li = some 14) (hR_f : Rng f) : mCi l yX10_refused cX10_refused 1 (some .int) 0 0 0 D kA M T sz [.ref h] (fun r u => (True) ∧ u.2 = T ∧ u.1 = M) := by
  unfold mCi
  refine start_W (by decide) (Nat.le_of_ble_eq_true rfl) ?_
  intro p e s m below meth c ls hC hr hlk hnm hK hH hsz hl
  have hx := hC.1
  have hb := hC.2.1
  have hl : lv_has ls 1 [(0, .ref h)] := hl
  have n_h_al : h ≠ al := neM hc_h hc_al (by simp)
  have n_al_h : al ≠ h := neM hc_al hc_h (by simp)
  have hK_f : Ke f f := Ke.rf
  refine lv_aload_n hx hb dX10_refused_0 rfl (lv_at hl 0 rfl) ?_
  refine xg hC hK hH flX10_7 hc_h rfl dX10_refused_1 ?_
  refine lv_iconst (v := 5) hx hb dX10_refused_4 (by decide) ?_
  refine xild hC hK hH hc_al (iIn (by decide) (by decide)) dX10_refused_5 ?_
  refine lv_topi (fun xq1_ e_xq1_ => ?_)
  have kt_xq1_ : xq1_.toInt = (f 5).toInt := by rw [e_xq1_]; rfl
  exact ret_i hC hr hlk hK hH (⟨trivial, rfl, rfl⟩) (Nat.le_of_ble_eq_true rfl) (Nat.le_of_ble_eq_true rfl) dX10_refused_6
set_option maxHeartbeats 4000000 in
set_option maxRecDepth 100000 in
theorem c_X10_bill {l : Launch} {D : va_G} {kA : Nat → ClassId} {M : mM} {T : mT} {sz : Nat} {h al mt ii pa li : Nat} {ta fpm sm nx tk pl ln wr : Int32} {va : Int64} {f : Nat → Int32} {bi wh : Int32} (hc_h : M h = some (.inr (8, [.ref al, .ref mt, .ref ii, .int ta, .int fpm, .ref pa, .int sm, .int nx, .int tk, .int pl, .int ln, .long va, .int wr, .ref li]))) (hn_h : T h = none) (hc_al : M al = some (.inl (kA 0, 7506, .inl f))) (hn_al : T al = none) (ht_mt : T mt = some 11) (ht_pa : T pa = some 13) (ht_li : T li = some 14) (hR_f : Rng f) : mCi l yX10_bill cX10_bill 4 (some .int) 7 0 0 D kA M T sz [.ref h, .int bi, .int wh] (fun r u => ∃ g : Nat → Int32, (Rng g ∧ Ke f g) ∧ (u.1 al = some (.inl (kA 0, 7506, .inl g))) ∧ u.2 = T ∧ (∀ q, FrK T q → q ≠ al → u.1 q = M q)) := by
  unfold mCi
  refine start_W (by decide) (Nat.le_of_ble_eq_true rfl) ?_
  intro p e s m below meth c ls hC hr hlk hnm hK hH hsz hl
  have hx := hC.1
  have hb := hC.2.1
  have hl : lv_has ls 4 [(0, .ref h), (1, .int bi), (2, .int wh)] := hl
  have hF : ∀ q, FrK T q → q ≠ al → M q = M q := fun q _ _ => rfl
  have n_h_al : h ≠ al := neM hc_h hc_al (by simp)
  have n_al_h : al ≠ h := neM hc_al hc_h (by simp)
  have hK_f : Ke f f := Ke.rf
  refine lv_aload_n hx hb dX10_bill_0 rfl (lv_at hl 0 rfl) ?_
  refine lv_iload_n hx hb dX10_bill_1 rfl (lv_at hl 1 rfl) ?_
  refine goI hK hH (runV (As := [.int bi]) (rest := []) hC hK hH (c_X10_isBill hc_h hn_h hc_al hn_al ht_mt ht_pa ht_li (by exact hR_f)) mlX10_116 (rcvM hK hH hc_h rfl) ⟨⟨Nat.le_of_ble_eq_true rfl, Nat.le_of_ble_eq_true rfl⟩, Nat.le_of_ble_eq_true rfl, Nat.le_of_ble_eq_true rfl⟩ rfl hl.1 rfl (Nat.le_of_ble_eq_true rfl) dX10_bill_2) (fun rq3_ Mq1_ Tq2_ Hq_ lcq_ hP hz hH => ?_)
  try dsimp only at hP
  obtain ⟨(⟨cq4_, er_rq3_⟩ | er_rq3_), eT, eM⟩ := hP
  · skip
    have eT := eT.symm; subst eT
    have er_rq3_ := er_rq3_.symm; subst er_rq3_
    have eM := eM.symm; subst eM
    have cq4_ : 0 ≤ bi.toInt ∧ bi.toInt ≤ 3 := cq4_
    refine jif_eq (tgt := 18) hx hb dX10_bill_5 (by decide) (fun cq5_ => absurd cq5_ (by decide)) (fun cq5_ => ?_)
    refine lv_iload_n hx hb dX10_bill_8 rfl (lv_at hl 2 rfl) ?_
    refine lv_iconst (v := 0) hx hb dX10_bill_9 (by decide) ?_
    refine lv_bipush (v := 19) hx hb dX10_bill_10 (by decide) ?_
    refine goI hK hH (runS (As := [.int wh, .int 0, .int 19]) (rest := []) hC hK hH (c_X10_isIn) mlX10_33 ⟨⟨Nat.le_of_ble_eq_true rfl, Nat.le_of_ble_eq_true rfl⟩, Nat.le_of_ble_eq_true rfl, Nat.le_of_ble_eq_true rfl⟩ rfl hl.1 rfl (Nat.le_of_ble_eq_true rfl) dX10_bill_12) (fun rq8_ Mq6_ Tq7_ Hq_ lcq_ hP hz hH => ?_)
    try dsimp only at hP
    obtain ⟨(⟨cq9_, er_rq8_⟩ | ⟨cq10_, er_rq8_⟩), eT, eM⟩ := hP
    · skip
      have eT := eT.symm; subst eT
      have er_rq8_ := er_rq8_.symm; subst er_rq8_
      have eM := eM.symm; subst eM
      have cq9_ : (0 : Int) ≤ wh.toInt ∧ wh.toInt ≤ (19 : Int) := cq9_
      refine jif_ne (tgt := 21) hx hb dX10_bill_15 (by decide) (fun cq11_ => ?_) (fun cq11_ => absurd cq11_ (by decide))
      refine lv_iconst (v := 0) hx hb dX10_bill_21 (by decide) ?_
      refine lv_iload_n hx hb dX10_bill_22 rfl (lv_at hl 1 rfl) ?_
      obtain ⟨nq12_, hn_nq12_⟩ : ∃ n : Nat, bi.toInt = (n : Int) := ⟨(bi.toInt).toNat, by omega⟩
      refine goI hK hH (runS (As := [.int 0, .int bi]) (rest := []) hC hK hH (c_X10_at (by decide) (by omega)) mlX10_109 ⟨⟨Nat.le_of_ble_eq_true rfl, Nat.le_of_ble_eq_true rfl⟩, Nat.le_of_ble_eq_true rfl, Nat.le_of_ble_eq_true rfl⟩ rfl hl.1 rfl (Nat.le_of_ble_eq_true rfl) dX10_bill_23) (fun rq15_ Mq13_ Tq14_ Hq_ lcq_ hP hz hH => ?_)
      try dsimp only at hP
      obtain ⟨(⟨cq16_, ⟨l_rq15_, g_rq15_⟩⟩), eT, eM⟩ := hP
      have eT := eT.symm; subst eT
      have eM := eM.symm; subst eM
      have cq16_ : rq15_.toInt = (0 : Int) + 20 + 280 * bi.toInt := cq16_
      obtain ⟨nq17_, hn_nq17_⟩ : ∃ n : Nat, n = 1140 * 0 + 20 + 280 * nq12_ := ⟨_, rfl⟩
      have hx_rq15_ : rq15_.toInt = (nq17_ : Int) := by have : (0 : Int32).toInt = 0 := rfl; omega
      refine lv_istore_n (lv' := [(3, .int rq15_), (0, .ref h), (1, .int bi), (2, .int wh)]) hx hb dX10_bill_26 rfl hl (by decide) rfl (fun ls hl => ?_)
      refine lv_iload_n hx hb dX10_bill_27 rfl (lv_at hl 3 rfl) ?_
      refine lv_bipush (v := 17) hx hb dX10_bill_28 (by decide) ?_
      refine jic_ne (tgt := 47) hx hb dX10_bill_30 (by decide) (fun cq18_ => ?_) (fun cq18_ => ?_)
      · skip
        have cq18_ : wh.toInt ≠ 17 := cq18_
        refine lv_iload_n hx hb dX10_bill_47 rfl (lv_at hl 3 rfl) ?_
        refine lv_bipush (v := 18) hx hb dX10_bill_48 (by decide) ?_
        refine jic_ne (tgt := 61) hx hb dX10_bill_50 (by decide) (fun cq19_ => ?_) (fun cq19_ => ?_)
        · skip
          have cq19_ : wh.toInt ≠ 18 := cq19_
          refine lv_iload_n hx hb dX10_bill_61 rfl (lv_at hl 3 rfl) ?_
          refine lv_bipush (v := 19) hx hb dX10_bill_62 (by decide) ?_
          refine jic_ne (tgt := 75) hx hb dX10_bill_64 (by decide) (fun cq20_ => ?_) (fun cq20_ => ?_)
          · skip
            have cq20_ : wh.toInt ≠ 19 := cq20_
            refine lv_aload_n hx hb dX10_bill_75 rfl (lv_at hl 1 rfl) ?_
            refine xg hC hK hH flX10_7 hc_h rfl dX10_bill_76 ?_
            refine lv_iload_n hx hb dX10_bill_79 rfl (lv_at hl 0 rfl) ?_
            refine lv_iload_n hx hb dX10_bill_80 rfl (lv_at hl 3 rfl) ?_
            refine lv_iadd hx hb dX10_bill_81 ?_
            refine lv_topi (fun zq21_ e_zq21_ => ?_)
            have h_zq21_ : zq21_.toInt = rq15_.toInt + wh.toInt := by rw [e_zq21_, iAdd (by have := iRg rq15_; have := iRg wh; omega) (by have := iRg rq15_; have := iRg wh; omega)]
            refine xild hC hK hH hc_al (iIn (by omega) (by omega)) dX10_bill_82 ?_
            refine lv_topi (fun xq22_ e_xq22_ => ?_)
            exact ret_i hC hr hlk hK hH (⟨f, ⟨hR_f, hK_f⟩, hc_al, rfl, hF⟩) (Nat.le_of_ble_eq_true rfl) (Nat.le_of_ble_eq_true rfl) dX10_bill_83
          · skip
            have cq20_ : wh.toInt = 19 := cq20_
            refine lv_aload_n hx hb dX10_bill_67 rfl (lv_at hl 1 rfl) ?_
            refine lv_iload_n hx hb dX10_bill_68 rfl (lv_at hl 2 rfl) ?_
            refine goI hK hH (runV (As := [.int bi]) (rest := []) hC hK hH (c_X10_cure hc_h hn_h hc_al hn_al ht_mt ht_pa ht_li (by exact hR_f) (by omega)) mlX10_183 (rcvM hK hH hc_h rfl) ⟨⟨Nat.le_of_ble_eq_true rfl, Nat.le_of_ble_eq_true rfl⟩, Nat.le_of_ble_eq_true rfl, Nat.le_of_ble_eq_true rfl⟩ rfl hl.1 rfl (Nat.le_of_ble_eq_true rfl) dX10_bill_69) (fun rq25_ Mq23_ Tq24_ Hq_ lcq_ hP hz hH => ?_)
            try dsimp only at hP
            obtain ⟨gq26_, h_gq26_, (hx_al), eT, hfr⟩ := hP
            have eT := eT.symm; subst eT
            have hc_h : Mq23_ h = some (.inr (8, [.ref al, .ref mt, .ref ii, .int ta, .int fpm, .ref pa, .int sm, .int nx, .int tk, .int pl, .int ln, .long va, .int wr, .ref li])) := (hfr h (Or.inl hn_h) n_h_al).trans hc_h
            have hc_al : Mq23_ al = some (.inl (kA 0, 7506, .inl gq26_)) := hx_al
            have hF : ∀ q, FrK T q → q ≠ al → Mq23_ q = M q := fun q hq h0 => (hfr q hq  h0).trans (hF q hq h0)
            have hR_gq26_ : Rng gq26_ := h_gq26_.1
            have hK_gq26_ : Ke f gq26_ := hK_f.tr h_gq26_.2
            refine lv_goto (tgt := 83) hx hb dX10_bill_72 (by decide) ?_
            exact ret_i hC hr hlk hK hH (⟨gq26_, ⟨hR_gq26_, hK_gq26_⟩, hc_al, rfl, hF⟩) (Nat.le_of_ble_eq_true rfl) (Nat.le_of_ble_eq_true rfl) dX10_bill_83
        · skip
          have cq19_ : wh.toInt = 18 := cq19_
          refine lv_aload_n hx hb dX10_bill_53 rfl (lv_at hl 1 rfl) ?_
          refine lv_iload_n hx hb dX10_bill_54 rfl (lv_at hl 0 rfl) ?_
          refine goI hK hH (runV (As := [.int rq15_]) (rest := []) hC hK hH (c_X10_rank (xn := nq17_) (t := 0) (b := nq12_) hc_h hn_h hc_al hn_al ht_mt ht_pa ht_li (by exact hR_f) (by decide) (by omega) (by have : (0 : Int32).toInt = 0 := rfl; omega) (by omega)) mlX10_77 (rcvM hK hH hc_h rfl) ⟨⟨Nat.le_of_ble_eq_true rfl, Nat.le_of_ble_eq_true rfl⟩, Nat.le_of_ble_eq_true rfl, Nat.le_of_ble_eq_true rfl⟩ rfl hl.1 rfl (Nat.le_of_ble_eq_true rfl) dX10_bill_55) (fun rq29_ Mq27_ Tq28_ Hq_ lcq_ hP hz hH => ?_)
          try dsimp only at hP
          obtain ⟨(⟨cq30_, ⟨l_rq29_, g_rq29_⟩⟩), eT, eM⟩ := hP
          have eT := eT.symm; subst eT
          have eM := eM.symm; subst eM
          have cq30_ : rq29_.toInt = (rankF f nq17_ : Int) := cq30_
          refine lv_goto (tgt := 83) hx hb dX10_bill_58 (by decide) ?_
          exact ret_i hC hr hlk hK hH (⟨f, ⟨hR_f, hK_f⟩, hc_al, rfl, hF⟩) (Nat.le_of_ble_eq_true rfl) (Nat.le_of_ble_eq_true rfl) dX10_bill_83
      · skip
        have cq18_ : wh.toInt = 17 := cq18_
        refine lv_aload_n hx hb dX10_bill_33 rfl (lv_at hl 1 rfl) ?_
        refine lv_iload_n hx hb dX10_bill_34 rfl (lv_at hl 0 rfl) ?_
        refine goI hK hH (runV (As := [.int rq15_]) (rest := []) hC hK hH (c_X10_hasTitle (xn := nq17_) (t := 0) (b := nq12_) hc_h hn_h hc_al hn_al ht_mt ht_pa ht_li (by exact hR_f) (by decide) (by omega) (by have : (0 : Int32).toInt = 0 := rfl; omega) (by omega)) mlX10_70 (rcvM hK hH hc_h rfl) ⟨⟨Nat.le_of_ble_eq_true rfl, Nat.le_of_ble_eq_true rfl⟩, Nat.le_of_ble_eq_true rfl, Nat.le_of_ble_eq_true rfl⟩ rfl hl.1 rfl (Nat.le_of_ble_eq_true rfl) dX10_bill_35) (fun rq33_ Mq31_ Tq32_ Hq_ lcq_ hP hz hH => ?_)
        try dsimp only at hP
        obtain ⟨(⟨cq34_, er_rq33_⟩ | ⟨cq35_, er_rq33_⟩), eT, eM⟩ := hP
        · skip
          have eT := eT.symm; subst eT
          have er_rq33_ := er_rq33_.symm; subst er_rq33_
          have eM := eM.symm; subst eM
          have cq34_ : titF f nq17_ := cq34_
          refine jif_eq (tgt := 45) hx hb dX10_bill_38 (by decide) (fun cq36_ => absurd cq36_ (by decide)) (fun cq36_ => ?_)
          refine lv_iconst (v := 1) hx hb dX10_bill_41 (by decide) ?_
          refine lv_goto (tgt := 46) hx hb dX10_bill_42 (by decide) ?_
          exact ret_i hC hr hlk hK hH (⟨f, ⟨hR_f, hK_f⟩, hc_al, rfl, hF⟩) (Nat.le_of_ble_eq_true rfl) (Nat.le_of_ble_eq_true rfl) dX10_bill_46
        · skip
          have eT := eT.symm; subst eT
          have er_rq33_ := er_rq33_.symm; subst er_rq33_
          have eM := eM.symm; subst eM
          have cq35_ : ¬ titF f nq17_ := cq35_
          refine jif_eq (tgt := 45) hx hb dX10_bill_38 (by decide) (fun cq37_ => ?_) (fun cq37_ => absurd cq37_ (by decide))
          refine lv_iconst (v := 0) hx hb dX10_bill_45 (by decide) ?_
          exact ret_i hC hr hlk hK hH (⟨f, ⟨hR_f, hK_f⟩, hc_al, rfl, hF⟩) (Nat.le_of_ble_eq_true rfl) (Nat.le_of_ble_eq_true rfl) dX10_bill_46
    · skip
      have eT := eT.symm; subst eT
      have er_rq8_ := er_rq8_.symm; subst er_rq8_
      have eM := eM.symm; subst eM
      have cq10_ : ¬ ((0 : Int) ≤ wh.toInt ∧ wh.toInt ≤ (19 : Int)) := cq10_
      refine jif_ne (tgt := 21) hx hb dX10_bill_15 (by decide) (fun cq38_ => absurd cq38_ (by decide)) (fun cq38_ => ?_)
      refine lv_bipush (v := -2) hx hb dX10_bill_18 (by decide) ?_
      exact ret_i hC hr hlk hK hH (⟨f, ⟨hR_f, hK_f⟩, hc_al, rfl, hF⟩) (Nat.le_of_ble_eq_true rfl) (Nat.le_of_ble_eq_true rfl) dX10_bill_20
  · skip
    have eT := eT.symm; subst eT
    have er_rq3_ := er_rq3_.symm; subst er_rq3_
    have eM := eM.symm; subst eM
    refine jif_eq (tgt := 18) hx hb dX10_bill_5 (by decide) (fun cq39_ => ?_) (fun cq39_ => absurd cq39_ (by decide))
    refine lv_bipush (v := -2) hx hb dX10_bill_18 (by decide) ?_
    exact ret_i hC hr hlk hK hH (⟨f, ⟨hR_f, hK_f⟩, hc_al, rfl, hF⟩) (Nat.le_of_ble_eq_true rfl) (Nat.le_of_ble_eq_true rfl) dX10_bill_20
set_option maxHeartbeats 4000000 in
set_option maxRecDepth 100000 in
theorem c_X10_isStep {l : Launch} {D : va_G} {kA : Nat → ClassId} {M : mM} {T : mT} {sz : Nat} {h al mt ii pa li : Nat} {ta fpm sm nx tk pl ln wr : Int32} {va : Int64} {f : Nat → Int32} {bi k_ : Int32} (hc_h : M h = some (.inr (8, [.ref al, .ref mt, .ref ii, .int ta, .int fpm, .ref pa, .int sm, .int nx, .int tk, .int pl, .int ln, .long va, .int wr, .ref li]))) (hn_h : T h = none) (hc_al : M al = some (.inl (kA 0, 7506, .inl f))) (hn_al : T al = none) (ht_mt : T mt = some 11) (ht_pa : T pa = some 13) (ht_li : T li = some 14) (hR_f : Rng f) : mCi l yX10_isStep cX10_isStep 3 (some .boolean) 2 0 0 D kA M T sz [.ref h, .int bi, .int k_] (fun r u => (((0 ≤ bi.toInt ∧ bi.toInt ≤ 3 ∧ 0 ≤ k_.toInt ∧ k_.toInt ≤ 11) ∧ r = 1) ∨ (r = 0)) ∧ u.2 = T ∧ u.1 = M) := by
  unfold mCi
  refine start_W (by decide) (Nat.le_of_ble_eq_true rfl) ?_
  intro p e s m below meth c ls hC hr hlk hnm hK hH hsz hl
  have hx := hC.1
  have hb := hC.2.1
  have hl : lv_has ls 3 [(0, .ref h), (1, .int bi), (2, .int k_)] := hl
  have n_h_al : h ≠ al := neM hc_h hc_al (by simp)
  have n_al_h : al ≠ h := neM hc_al hc_h (by simp)
  have hK_f : Ke f f := Ke.rf
  refine lv_aload_n hx hb dX10_isStep_0 rfl (lv_at hl 0 rfl) ?_
  refine lv_iload_n hx hb dX10_isStep_1 rfl (lv_at hl 1 rfl) ?_
  refine goI hK hH (runV (As := [.int bi]) (rest := []) hC hK hH (c_X10_isBill hc_h hn_h hc_al hn_al ht_mt ht_pa ht_li (by exact hR_f)) mlX10_116 (rcvM hK hH hc_h rfl) ⟨⟨Nat.le_of_ble_eq_true rfl, Nat.le_of_ble_eq_true rfl⟩, Nat.le_of_ble_eq_true rfl, Nat.le_of_ble_eq_true rfl⟩ rfl hl.1 rfl (Nat.le_of_ble_eq_true rfl) dX10_isStep_2) (fun rq3_ Mq1_ Tq2_ Hq_ lcq_ hP hz hH => ?_)
  try dsimp only at hP
  obtain ⟨(⟨cq4_, er_rq3_⟩ | er_rq3_), eT, eM⟩ := hP
  · skip
    have eT := eT.symm; subst eT
    have er_rq3_ := er_rq3_.symm; subst er_rq3_
    have eM := eM.symm; subst eM
    have cq4_ : 0 ≤ bi.toInt ∧ bi.toInt ≤ 3 := cq4_
    refine jif_eq (tgt := 35) hx hb dX10_isStep_5 (by decide) (fun cq5_ => absurd cq5_ (by decide)) (fun cq5_ => ?_)
    refine lv_iload_n hx hb dX10_isStep_8 rfl (lv_at hl 2 rfl) ?_
    refine lv_iconst (v := 0) hx hb dX10_isStep_9 (by decide) ?_
    refine lv_aload_n hx hb dX10_isStep_10 rfl (lv_at hl 0 rfl) ?_
    refine xg hC hK hH flX10_7 hc_h rfl dX10_isStep_11 ?_
    refine lv_iconst (v := 0) hx hb dX10_isStep_14 (by decide) ?_
    refine lv_iload_n hx hb dX10_isStep_15 rfl (lv_at hl 1 rfl) ?_
    obtain ⟨nq6_, hn_nq6_⟩ : ∃ n : Nat, bi.toInt = (n : Int) := ⟨(bi.toInt).toNat, by omega⟩
    refine goI hK hH (runS (As := [.int 0, .int bi]) (rest := [.ref al, .int 0, .int k_]) hC hK hH (c_X10_at (by decide) (by omega)) mlX10_109 ⟨⟨Nat.le_of_ble_eq_true rfl, Nat.le_of_ble_eq_true rfl⟩, Nat.le_of_ble_eq_true rfl, Nat.le_of_ble_eq_true rfl⟩ rfl hl.1 rfl (Nat.le_of_ble_eq_true rfl) dX10_isStep_16) (fun rq9_ Mq7_ Tq8_ Hq_ lcq_ hP hz hH => ?_)
    try dsimp only at hP
    obtain ⟨(⟨cq10_, ⟨l_rq9_, g_rq9_⟩⟩), eT, eM⟩ := hP
    have eT := eT.symm; subst eT
    have eM := eM.symm; subst eM
    have cq10_ : rq9_.toInt = (0 : Int) + 20 + 280 * bi.toInt := cq10_
    obtain ⟨nq11_, hn_nq11_⟩ : ∃ n : Nat, n = 1140 * 0 + 20 + 280 * nq6_ := ⟨_, rfl⟩
    have hx_rq9_ : rq9_.toInt = (nq11_ : Int) := by have : (0 : Int32).toInt = 0 := rfl; omega
    refine lv_bipush (v := 8) hx hb dX10_isStep_19 (by decide) ?_
    refine lv_iadd hx hb dX10_isStep_21 ?_
    refine lv_topi (fun zq12_ e_zq12_ => ?_)
    have h_zq12_ : zq12_.toInt = rq9_.toInt + 8 := by rw [e_zq12_, iAdd (by have := iRg rq9_; have : (8 : Int32).toInt = 8 := rfl; omega) (by have := iRg rq9_; have : (8 : Int32).toInt = 8 := rfl; omega)]; rfl
    refine xild hC hK hH hc_al (iIn (by omega) (by omega)) dX10_isStep_22 ?_
    refine lv_topi (fun xq13_ e_xq13_ => ?_)
    have k_xq13_ : xq13_ = f (nq11_ + 8) := by rw [e_xq13_, clE (n := nq11_ + 8) (by omega)]
    have kt_xq13_ : xq13_.toInt = (f (nq11_ + 8)).toInt := by rw [k_xq13_]
    have rr_xq13_ : (0 : Int) ≤ (f (nq11_ + 8)).toInt ∧ (f (nq11_ + 8)).toInt ≤ 12 := hR_f.rO 8 (t := 0) (b := nq6_) (xn := nq11_) (by omega) (by omega) (by omega) (by decide) rfl
    have l_xq13_ : (0 : Int) ≤ xq13_.toInt := by rw [kt_xq13_, show nq11_ + 8 = nq11_ + 8 from by omega]; exact rr_xq13_.1
    have g_xq13_ : xq13_.toInt ≤ 12 := by rw [kt_xq13_, show nq11_ + 8 = nq11_ + 8 from by omega]; exact rr_xq13_.2
    refine lv_iconst (v := 1) hx hb dX10_isStep_23 (by decide) ?_
    refine lv_isub hx hb dX10_isStep_24 ?_
    refine lv_topi (fun zq14_ e_zq14_ => ?_)
    have h_zq14_ : zq14_.toInt = xq13_.toInt - 1 := by rw [e_zq14_, iSub (by have := iRg xq13_; have : (1 : Int32).toInt = 1 := rfl; omega) (by have := iRg xq13_; have : (1 : Int32).toInt = 1 := rfl; omega)]; rfl
    refine goI hK hH (runS (As := [.int k_, .int 0, .int zq14_]) (rest := []) hC hK hH (c_X10_isIn) mlX10_33 ⟨⟨Nat.le_of_ble_eq_true rfl, Nat.le_of_ble_eq_true rfl⟩, Nat.le_of_ble_eq_true rfl, Nat.le_of_ble_eq_true rfl⟩ rfl hl.1 rfl (Nat.le_of_ble_eq_true rfl) dX10_isStep_25) (fun rq17_ Mq15_ Tq16_ Hq_ lcq_ hP hz hH => ?_)
    try dsimp only at hP
    obtain ⟨(⟨cq18_, er_rq17_⟩ | ⟨cq19_, er_rq17_⟩), eT, eM⟩ := hP
    · skip
      have eT := eT.symm; subst eT
      have er_rq17_ := er_rq17_.symm; subst er_rq17_
      have eM := eM.symm; subst eM
      have cq18_ : (0 : Int) ≤ k_.toInt ∧ k_.toInt ≤ zq14_.toInt := cq18_
      refine jif_eq (tgt := 35) hx hb dX10_isStep_28 (by decide) (fun cq20_ => absurd cq20_ (by decide)) (fun cq20_ => ?_)
      refine lv_iconst (v := 1) hx hb dX10_isStep_31 (by decide) ?_
      refine lv_goto (tgt := 36) hx hb dX10_isStep_32 (by decide) ?_
      exact ret_z hC hr hlk hK hH (by first | exact Or.inl rfl | exact Or.inr rfl | assumption) (⟨Or.inl (⟨by omega, rfl⟩), rfl, rfl⟩) (Nat.le_of_ble_eq_true rfl) (Nat.le_of_ble_eq_true rfl) dX10_isStep_36
    · skip
      have eT := eT.symm; subst eT
      have er_rq17_ := er_rq17_.symm; subst er_rq17_
      have eM := eM.symm; subst eM
      have cq19_ : ¬ ((0 : Int) ≤ k_.toInt ∧ k_.toInt ≤ zq14_.toInt) := cq19_
      refine jif_eq (tgt := 35) hx hb dX10_isStep_28 (by decide) (fun cq21_ => ?_) (fun cq21_ => absurd cq21_ (by decide))
      refine lv_iconst (v := 0) hx hb dX10_isStep_35 (by decide) ?_
      exact ret_z hC hr hlk hK hH (by first | exact Or.inl rfl | exact Or.inr rfl | assumption) (⟨Or.inr (rfl), rfl, rfl⟩) (Nat.le_of_ble_eq_true rfl) (Nat.le_of_ble_eq_true rfl) dX10_isStep_36
  · skip
    have eT := eT.symm; subst eT
    have er_rq3_ := er_rq3_.symm; subst er_rq3_
    have eM := eM.symm; subst eM
    refine jif_eq (tgt := 35) hx hb dX10_isStep_5 (by decide) (fun cq22_ => ?_) (fun cq22_ => absurd cq22_ (by decide))
    refine lv_iconst (v := 0) hx hb dX10_isStep_35 (by decide) ?_
    exact ret_z hC hr hlk hK hH (by first | exact Or.inl rfl | exact Or.inr rfl | assumption) (⟨Or.inr (rfl), rfl, rfl⟩) (Nat.le_of_ble_eq_true rfl) (Nat.le_of_ble_eq_true rfl) dX10_isStep_36
set_option maxHeartbeats 4000000 in
set_option maxRecDepth 100000 in
theorem c_X10_step {l : Launch} {D : va_G} {kA : Nat → ClassId} {M : mM} {T : mT} {sz : Nat} {h al mt ii pa li : Nat} {ta fpm sm nx tk pl ln wr : Int32} {va : Int64} {f : Nat → Int32} {bi k_ wh : Int32} (hc_h : M h = some (.inr (8, [.ref al, .ref mt, .ref ii, .int ta, .int fpm, .ref pa, .int sm, .int nx, .int tk, .int pl, .int ln, .long va, .int wr, .ref li]))) (hn_h : T h = none) (hc_al : M al = some (.inl (kA 0, 7506, .inl f))) (hn_al : T al = none) (ht_mt : T mt = some 11) (ht_pa : T pa = some 13) (ht_li : T li = some 14) (hR_f : Rng f) : mCi l yX10_step cX10_step 4 (some .int) 3 0 0 D kA M T sz [.ref h, .int bi, .int k_, .int wh] (fun r u => (True) ∧ u.2 = T ∧ u.1 = M) := by
  unfold mCi
  refine start_W (by decide) (Nat.le_of_ble_eq_true rfl) ?_
  intro p e s m below meth c ls hC hr hlk hnm hK hH hsz hl
  have hx := hC.1
  have hb := hC.2.1
  have hl : lv_has ls 4 [(0, .ref h), (1, .int bi), (2, .int k_), (3, .int wh)] := hl
  have n_h_al : h ≠ al := neM hc_h hc_al (by simp)
  have n_al_h : al ≠ h := neM hc_al hc_h (by simp)
  have hK_f : Ke f f := Ke.rf
  refine lv_aload_n hx hb dX10_step_0 rfl (lv_at hl 0 rfl) ?_
  refine lv_iload_n hx hb dX10_step_1 rfl (lv_at hl 1 rfl) ?_
  refine lv_iload_n hx hb dX10_step_2 rfl (lv_at hl 2 rfl) ?_
  refine goI hK hH (runV (As := [.int bi, .int k_]) (rest := []) hC hK hH (c_X10_isStep hc_h hn_h hc_al hn_al ht_mt ht_pa ht_li (by exact hR_f)) mlX10_186 (rcvM hK hH hc_h rfl) ⟨⟨Nat.le_of_ble_eq_true rfl, Nat.le_of_ble_eq_true rfl⟩, Nat.le_of_ble_eq_true rfl, Nat.le_of_ble_eq_true rfl⟩ rfl hl.1 rfl (Nat.le_of_ble_eq_true rfl) dX10_step_3) (fun rq3_ Mq1_ Tq2_ Hq_ lcq_ hP hz hH => ?_)
  try dsimp only at hP
  obtain ⟨(⟨cq4_, er_rq3_⟩ | er_rq3_), eT, eM⟩ := hP
  · skip
    have eT := eT.symm; subst eT
    have er_rq3_ := er_rq3_.symm; subst er_rq3_
    have eM := eM.symm; subst eM
    have cq4_ : 0 ≤ bi.toInt ∧ bi.toInt ≤ 3 ∧ 0 ≤ k_.toInt ∧ k_.toInt ≤ 11 := cq4_
    refine jif_eq (tgt := 38) hx hb dX10_step_6 (by decide) (fun cq5_ => absurd cq5_ (by decide)) (fun cq5_ => ?_)
    refine lv_iload_n hx hb dX10_step_9 rfl (lv_at hl 3 rfl) ?_
    refine lv_iconst (v := 0) hx hb dX10_step_10 (by decide) ?_
    refine lv_bipush (v := 9) hx hb dX10_step_11 (by decide) ?_
    refine goI hK hH (runS (As := [.int wh, .int 0, .int 9]) (rest := []) hC hK hH (c_X10_isIn) mlX10_33 ⟨⟨Nat.le_of_ble_eq_true rfl, Nat.le_of_ble_eq_true rfl⟩, Nat.le_of_ble_eq_true rfl, Nat.le_of_ble_eq_true rfl⟩ rfl hl.1 rfl (Nat.le_of_ble_eq_true rfl) dX10_step_13) (fun rq8_ Mq6_ Tq7_ Hq_ lcq_ hP hz hH => ?_)
    try dsimp only at hP
    obtain ⟨(⟨cq9_, er_rq8_⟩ | ⟨cq10_, er_rq8_⟩), eT, eM⟩ := hP
    · skip
      have eT := eT.symm; subst eT
      have er_rq8_ := er_rq8_.symm; subst er_rq8_
      have eM := eM.symm; subst eM
      have cq9_ : (0 : Int) ≤ wh.toInt ∧ wh.toInt ≤ (9 : Int) := cq9_
      refine jif_eq (tgt := 38) hx hb dX10_step_16 (by decide) (fun cq11_ => absurd cq11_ (by decide)) (fun cq11_ => ?_)
      refine lv_aload_n hx hb dX10_step_19 rfl (lv_at hl 0 rfl) ?_
      refine xg hC hK hH flX10_7 hc_h rfl dX10_step_20 ?_
      refine lv_iconst (v := 0) hx hb dX10_step_23 (by decide) ?_
      refine lv_iload_n hx hb dX10_step_24 rfl (lv_at hl 1 rfl) ?_
      obtain ⟨nq12_, hn_nq12_⟩ : ∃ n : Nat, bi.toInt = (n : Int) := ⟨(bi.toInt).toNat, by omega⟩
      refine goI hK hH (runS (As := [.int 0, .int bi]) (rest := [.ref al]) hC hK hH (c_X10_at (by decide) (by omega)) mlX10_109 ⟨⟨Nat.le_of_ble_eq_true rfl, Nat.le_of_ble_eq_true rfl⟩, Nat.le_of_ble_eq_true rfl, Nat.le_of_ble_eq_true rfl⟩ rfl hl.1 rfl (Nat.le_of_ble_eq_true rfl) dX10_step_25) (fun rq15_ Mq13_ Tq14_ Hq_ lcq_ hP hz hH => ?_)
      try dsimp only at hP
      obtain ⟨(⟨cq16_, ⟨l_rq15_, g_rq15_⟩⟩), eT, eM⟩ := hP
      have eT := eT.symm; subst eT
      have eM := eM.symm; subst eM
      have cq16_ : rq15_.toInt = (0 : Int) + 20 + 280 * bi.toInt := cq16_
      obtain ⟨nq17_, hn_nq17_⟩ : ∃ n : Nat, n = 1140 * 0 + 20 + 280 * nq12_ := ⟨_, rfl⟩
      have hx_rq15_ : rq15_.toInt = (nq17_ : Int) := by have : (0 : Int32).toInt = 0 := rfl; omega
      refine lv_iload_n hx hb dX10_step_28 rfl (lv_at hl 2 rfl) ?_
      obtain ⟨nq18_, hn_nq18_⟩ : ∃ n : Nat, k_.toInt = (n : Int) := ⟨(k_.toInt).toNat, by omega⟩
      refine goI hK hH (runS (As := [.int rq15_, .int k_]) (rest := [.ref al]) hC hK hH (c_X10_stepAt (by omega) (by omega)) mlX10_37 ⟨⟨Nat.le_of_ble_eq_true rfl, Nat.le_of_ble_eq_true rfl⟩, Nat.le_of_ble_eq_true rfl, Nat.le_of_ble_eq_true rfl⟩ rfl hl.1 rfl (Nat.le_of_ble_eq_true rfl) dX10_step_29) (fun rq21_ Mq19_ Tq20_ Hq_ lcq_ hP hz hH => ?_)
      try dsimp only at hP
      obtain ⟨(⟨cq22_, ⟨l_rq21_, g_rq21_⟩⟩), eT, eM⟩ := hP
      have eT := eT.symm; subst eT
      have eM := eM.symm; subst eM
      have cq22_ : rq21_.toInt = rq15_.toInt + 40 + 12 * k_.toInt := cq22_
      have hx_rq21_ : rq21_.toInt = ((nq17_ + 40 + 12 * nq18_ : Nat) : Int) := by omega
      refine lv_iload_n hx hb dX10_step_32 rfl (lv_at hl 3 rfl) ?_
      refine lv_iadd hx hb dX10_step_33 ?_
      refine lv_topi (fun zq23_ e_zq23_ => ?_)
      have h_zq23_ : zq23_.toInt = rq21_.toInt + wh.toInt := by rw [e_zq23_, iAdd (by have := iRg rq21_; have := iRg wh; omega) (by have := iRg rq21_; have := iRg wh; omega)]
      refine xild hC hK hH hc_al (iIn (by omega) (by omega)) dX10_step_34 ?_
      refine lv_topi (fun xq24_ e_xq24_ => ?_)
      refine lv_goto (tgt := 40) hx hb dX10_step_35 (by decide) ?_
      exact ret_i hC hr hlk hK hH (⟨trivial, rfl, rfl⟩) (Nat.le_of_ble_eq_true rfl) (Nat.le_of_ble_eq_true rfl) dX10_step_40
    · skip
      have eT := eT.symm; subst eT
      have er_rq8_ := er_rq8_.symm; subst er_rq8_
      have eM := eM.symm; subst eM
      have cq10_ : ¬ ((0 : Int) ≤ wh.toInt ∧ wh.toInt ≤ (9 : Int)) := cq10_
      refine jif_eq (tgt := 38) hx hb dX10_step_16 (by decide) (fun cq25_ => ?_) (fun cq25_ => absurd cq25_ (by decide))
      refine lv_bipush (v := -2) hx hb dX10_step_38 (by decide) ?_
      exact ret_i hC hr hlk hK hH (⟨trivial, rfl, rfl⟩) (Nat.le_of_ble_eq_true rfl) (Nat.le_of_ble_eq_true rfl) dX10_step_40
  · skip
    have eT := eT.symm; subst eT
    have er_rq3_ := er_rq3_.symm; subst er_rq3_
    have eM := eM.symm; subst eM
    refine jif_eq (tgt := 38) hx hb dX10_step_6 (by decide) (fun cq26_ => ?_) (fun cq26_ => absurd cq26_ (by decide))
    refine lv_bipush (v := -2) hx hb dX10_step_38 (by decide) ?_
    exact ret_i hC hr hlk hK hH (⟨trivial, rfl, rfl⟩) (Nat.le_of_ble_eq_true rfl) (Nat.le_of_ble_eq_true rfl) dX10_step_40
set_option maxHeartbeats 4000000 in
set_option maxRecDepth 100000 in
theorem c_X10_party {l : Launch} {D : va_G} {kA : Nat → ClassId} {M : mM} {T : mT} {sz : Nat} {h al mt ii pa li : Nat} {ta fpm sm nx tk pl ln wr : Int32} {va : Int64} {f : Nat → Int32} {bi pt wh : Int32} (hc_h : M h = some (.inr (8, [.ref al, .ref mt, .ref ii, .int ta, .int fpm, .ref pa, .int sm, .int nx, .int tk, .int pl, .int ln, .long va, .int wr, .ref li]))) (hn_h : T h = none) (hc_al : M al = some (.inl (kA 0, 7506, .inl f))) (hn_al : T al = none) (ht_mt : T mt = some 11) (ht_pa : T pa = some 13) (ht_li : T li = some 14) (hR_f : Rng f) : mCi l yX10_party cX10_party 6 (some .int) 5 0 0 D kA M T sz [.ref h, .int bi, .int pt, .int wh] (fun r u => (True) ∧ u.2 = T ∧ u.1 = M) := by
  unfold mCi
  refine start_W (by decide) (Nat.le_of_ble_eq_true rfl) ?_
  intro p e s m below meth c ls hC hr hlk hnm hK hH hsz hl
  have hx := hC.1
  have hb := hC.2.1
  have hl : lv_has ls 6 [(0, .ref h), (1, .int bi), (2, .int pt), (3, .int wh)] := hl
  have n_h_al : h ≠ al := neM hc_h hc_al (by simp)
  have n_al_h : al ≠ h := neM hc_al hc_h (by simp)
  have hK_f : Ke f f := Ke.rf
  refine lv_aload_n hx hb dX10_party_0 rfl (lv_at hl 0 rfl) ?_
  refine lv_iload_n hx hb dX10_party_1 rfl (lv_at hl 1 rfl) ?_
  refine goI hK hH (runV (As := [.int bi]) (rest := []) hC hK hH (c_X10_isBill hc_h hn_h hc_al hn_al ht_mt ht_pa ht_li (by exact hR_f)) mlX10_116 (rcvM hK hH hc_h rfl) ⟨⟨Nat.le_of_ble_eq_true rfl, Nat.le_of_ble_eq_true rfl⟩, Nat.le_of_ble_eq_true rfl, Nat.le_of_ble_eq_true rfl⟩ rfl hl.1 rfl (Nat.le_of_ble_eq_true rfl) dX10_party_2) (fun rq3_ Mq1_ Tq2_ Hq_ lcq_ hP hz hH => ?_)
  try dsimp only at hP
  obtain ⟨(⟨cq4_, er_rq3_⟩ | er_rq3_), eT, eM⟩ := hP
  · skip
    have eT := eT.symm; subst eT
    have er_rq3_ := er_rq3_.symm; subst er_rq3_
    have eM := eM.symm; subst eM
    have cq4_ : 0 ≤ bi.toInt ∧ bi.toInt ≤ 3 := cq4_
    refine jif_eq (tgt := 21) hx hb dX10_party_5 (by decide) (fun cq5_ => absurd cq5_ (by decide)) (fun cq5_ => ?_)
    refine lv_aload_n hx hb dX10_party_8 rfl (lv_at hl 0 rfl) ?_
    refine lv_iconst (v := 0) hx hb dX10_party_9 (by decide) ?_
    refine lv_iload_n hx hb dX10_party_10 rfl (lv_at hl 1 rfl) ?_
    obtain ⟨nq6_, hn_nq6_⟩ : ∃ n : Nat, bi.toInt = (n : Int) := ⟨(bi.toInt).toNat, by omega⟩
    refine goI hK hH (runS (As := [.int 0, .int bi]) (rest := [.ref h]) hC hK hH (c_X10_at (by decide) (by omega)) mlX10_109 ⟨⟨Nat.le_of_ble_eq_true rfl, Nat.le_of_ble_eq_true rfl⟩, Nat.le_of_ble_eq_true rfl, Nat.le_of_ble_eq_true rfl⟩ rfl hl.1 rfl (Nat.le_of_ble_eq_true rfl) dX10_party_11) (fun rq9_ Mq7_ Tq8_ Hq_ lcq_ hP hz hH => ?_)
    try dsimp only at hP
    obtain ⟨(⟨cq10_, ⟨l_rq9_, g_rq9_⟩⟩), eT, eM⟩ := hP
    have eT := eT.symm; subst eT
    have eM := eM.symm; subst eM
    have cq10_ : rq9_.toInt = (0 : Int) + 20 + 280 * bi.toInt := cq10_
    obtain ⟨nq11_, hn_nq11_⟩ : ∃ n : Nat, n = 1140 * 0 + 20 + 280 * nq6_ := ⟨_, rfl⟩
    have hx_rq9_ : rq9_.toInt = (nq11_ : Int) := by have : (0 : Int32).toInt = 0 := rfl; omega
    refine lv_iload_n hx hb dX10_party_14 rfl (lv_at hl 2 rfl) ?_
    refine goI hK hH (runV (As := [.int rq9_, .int pt]) (rest := []) hC hK hH (c_X10_isParty (xn := nq11_) (t := 0) (b := nq6_) hc_h hn_h hc_al hn_al ht_mt ht_pa ht_li (by exact hR_f) (by decide) (by omega) (by have : (0 : Int32).toInt = 0 := rfl; omega) (by omega)) mlX10_140 (rcvM hK hH hc_h rfl) ⟨⟨Nat.le_of_ble_eq_true rfl, Nat.le_of_ble_eq_true rfl⟩, Nat.le_of_ble_eq_true rfl, Nat.le_of_ble_eq_true rfl⟩ rfl hl.1 rfl (Nat.le_of_ble_eq_true rfl) dX10_party_15) (fun rq14_ Mq12_ Tq13_ Hq_ lcq_ hP hz hH => ?_)
    try dsimp only at hP
    obtain ⟨(⟨cq15_, er_rq14_⟩ | er_rq14_), eT, eM⟩ := hP
    · skip
      have eT := eT.symm; subst eT
      have er_rq14_ := er_rq14_.symm; subst er_rq14_
      have eM := eM.symm; subst eM
      have cq15_ : 0 ≤ pt.toInt ∧ pt.toInt ≤ 1 + (f (nq11_ + 8)).toInt ∧ pt.toInt ≤ 13 := cq15_
      refine jif_ne (tgt := 24) hx hb dX10_party_18 (by decide) (fun cq16_ => ?_) (fun cq16_ => absurd cq16_ (by decide))
      refine lv_iconst (v := 0) hx hb dX10_party_24 (by decide) ?_
      refine lv_iload_n hx hb dX10_party_25 rfl (lv_at hl 1 rfl) ?_
      refine goI hK hH (runS (As := [.int 0, .int bi]) (rest := []) hC hK hH (c_X10_at (by decide) (by omega)) mlX10_109 ⟨⟨Nat.le_of_ble_eq_true rfl, Nat.le_of_ble_eq_true rfl⟩, Nat.le_of_ble_eq_true rfl, Nat.le_of_ble_eq_true rfl⟩ rfl hl.1 rfl (Nat.le_of_ble_eq_true rfl) dX10_party_26) (fun rq19_ Mq17_ Tq18_ Hq_ lcq_ hP hz hH => ?_)
      try dsimp only at hP
      obtain ⟨(⟨cq20_, ⟨l_rq19_, g_rq19_⟩⟩), eT, eM⟩ := hP
      have eT := eT.symm; subst eT
      have eM := eM.symm; subst eM
      have cq20_ : rq19_.toInt = (0 : Int) + 20 + 280 * bi.toInt := cq20_
      obtain ⟨nq21_, hn_nq21_⟩ : ∃ n : Nat, n = 1140 * 0 + 20 + 280 * nq6_ := ⟨_, rfl⟩
      have hx_rq19_ : rq19_.toInt = (nq21_ : Int) := by have : (0 : Int32).toInt = 0 := rfl; omega
      refine lv_istore (lv' := [(4, .int rq19_), (0, .ref h), (1, .int bi), (2, .int pt), (3, .int wh)]) hx hb dX10_party_29 hl (by decide) rfl (fun ls hl => ?_)
      refine lv_iload hx hb dX10_party_31 (lv_at hl 0 rfl) ?_
      refine lv_iload_n hx hb dX10_party_33 rfl (lv_at hl 3 rfl) ?_
      obtain ⟨nq22_, hn_nq22_⟩ : ∃ n : Nat, pt.toInt = (n : Int) := ⟨(pt.toInt).toNat, by omega⟩
      refine goI hK hH (runS (As := [.int rq19_, .int pt]) (rest := []) hC hK hH (c_X10_partyAt (by omega) (by omega)) mlX10_56 ⟨⟨Nat.le_of_ble_eq_true rfl, Nat.le_of_ble_eq_true rfl⟩, Nat.le_of_ble_eq_true rfl, Nat.le_of_ble_eq_true rfl⟩ rfl hl.1 rfl (Nat.le_of_ble_eq_true rfl) dX10_party_34) (fun rq25_ Mq23_ Tq24_ Hq_ lcq_ hP hz hH => ?_)
      try dsimp only at hP
      obtain ⟨(⟨cq26_, ⟨l_rq25_, g_rq25_⟩⟩), eT, eM⟩ := hP
      have eT := eT.symm; subst eT
      have eM := eM.symm; subst eM
      have cq26_ : rq25_.toInt = rq19_.toInt + 184 + 6 * pt.toInt := cq26_
      have hx_rq25_ : rq25_.toInt = ((nq21_ + 184 + 6 * nq22_ : Nat) : Int) := by omega
      refine lv_istore (lv' := [(5, .int rq25_), (4, .int rq19_), (0, .ref h), (1, .int bi), (2, .int pt), (3, .int wh)]) hx hb dX10_party_37 hl (by decide) rfl (fun ls hl => ?_)
      refine lv_iload_n hx hb dX10_party_39 rfl (lv_at hl 5 rfl) ?_
      rcases (show wh.toInt < 0 ∨ 5 < wh.toInt ∨ wh.toInt = 0 ∨ wh.toInt = 1 ∨ wh.toInt = 2 ∨ wh.toInt = 3 ∨ wh.toInt = 4 ∨ wh.toInt = 5 by omega) with cq27_ | cq27_ | cq27_ | cq27_ | cq27_ | cq27_ | cq27_ | cq27_
      · skip
        refine lv_tableOut (tgt := 151) hx hb dX10_party_40 (Or.inl cq27_) (by decide) ?_
        refine lv_bipush (v := -2) hx hb dX10_party_151 (by decide) ?_
        exact ret_i hC hr hlk hK hH (⟨trivial, rfl, rfl⟩) (Nat.le_of_ble_eq_true rfl) (Nat.le_of_ble_eq_true rfl) dX10_party_153
      · skip
        refine lv_tableOut (tgt := 151) hx hb dX10_party_40 (Or.inr cq27_) (by decide) ?_
        refine lv_bipush (v := -2) hx hb dX10_party_151 (by decide) ?_
        exact ret_i hC hr hlk hK hH (⟨trivial, rfl, rfl⟩) (Nat.le_of_ble_eq_true rfl) (Nat.le_of_ble_eq_true rfl) dX10_party_153
      · skip
        refine lv_tableIn (off := 40) (tgt := 80) hx hb dX10_party_40 (by omega) (by omega) (by rw [cq27_]; rfl) (by decide) ?_
        refine lv_aload_n hx hb dX10_party_80 rfl (lv_at hl 2 rfl) ?_
        refine lv_iload hx hb dX10_party_81 (lv_at hl 1 rfl) ?_
        refine lv_iload_n hx hb dX10_party_83 rfl (lv_at hl 4 rfl) ?_
        refine goI hK hH (runV (As := [.int rq19_, .int pt]) (rest := []) hC hK hH (c_X10_who (xn := nq21_) (t := 0) (b := nq6_) (ptn := nq22_) hc_h hn_h hc_al hn_al ht_mt ht_pa ht_li (by exact hR_f) (by decide) (by omega) (by have : (0 : Int32).toInt = 0 := rfl; omega) (by omega) (by omega) (by omega)) mlX10_41 (rcvM hK hH hc_h rfl) ⟨⟨Nat.le_of_ble_eq_true rfl, Nat.le_of_ble_eq_true rfl⟩, Nat.le_of_ble_eq_true rfl, Nat.le_of_ble_eq_true rfl⟩ rfl hl.1 rfl (Nat.le_of_ble_eq_true rfl) dX10_party_84) (fun rq30_ Mq28_ Tq29_ Hq_ lcq_ hP hz hH => ?_)
        try dsimp only at hP
        obtain ⟨(⟨cq31_, ⟨l_rq30_, g_rq30_⟩⟩), eT, eM⟩ := hP
        have eT := eT.symm; subst eT
        have eM := eM.symm; subst eM
        have cq31_ : rq30_.toInt = whoI f nq21_ nq22_ := cq31_
        exact ret_i hC hr hlk hK hH (⟨trivial, rfl, rfl⟩) (Nat.le_of_ble_eq_true rfl) (Nat.le_of_ble_eq_true rfl) dX10_party_87
      · skip
        refine lv_tableIn (off := 48) (tgt := 88) hx hb dX10_party_40 (by omega) (by omega) (by rw [cq27_]; rfl) (by decide) ?_
        refine lv_aload_n hx hb dX10_party_88 rfl (lv_at hl 2 rfl) ?_
        refine lv_iload hx hb dX10_party_89 (lv_at hl 1 rfl) ?_
        refine lv_iload_n hx hb dX10_party_91 rfl (lv_at hl 4 rfl) ?_
        refine goI hK hH (runV (As := [.int rq19_, .int pt]) (rest := []) hC hK hH (c_X10_hasSigned (xn := nq21_) (t := 0) (b := nq6_) (ptn := nq22_) hc_h hn_h hc_al hn_al ht_mt ht_pa ht_li (by exact hR_f) (by decide) (by omega) (by have : (0 : Int32).toInt = 0 := rfl; omega) (by omega) (by omega) (by omega)) mlX10_66 (rcvM hK hH hc_h rfl) ⟨⟨Nat.le_of_ble_eq_true rfl, Nat.le_of_ble_eq_true rfl⟩, Nat.le_of_ble_eq_true rfl, Nat.le_of_ble_eq_true rfl⟩ rfl hl.1 rfl (Nat.le_of_ble_eq_true rfl) dX10_party_92) (fun rq34_ Mq32_ Tq33_ Hq_ lcq_ hP hz hH => ?_)
        try dsimp only at hP
        obtain ⟨(⟨cq35_, er_rq34_⟩ | ⟨cq36_, er_rq34_⟩), eT, eM⟩ := hP
        · skip
          have eT := eT.symm; subst eT
          have er_rq34_ := er_rq34_.symm; subst er_rq34_
          have eM := eM.symm; subst eM
          have cq35_ : sgnF f nq21_ nq22_ := cq35_
          refine jif_eq (tgt := 102) hx hb dX10_party_95 (by decide) (fun cq37_ => absurd cq37_ (by decide)) (fun cq37_ => ?_)
          refine lv_iconst (v := 1) hx hb dX10_party_98 (by decide) ?_
          refine lv_goto (tgt := 103) hx hb dX10_party_99 (by decide) ?_
          exact ret_i hC hr hlk hK hH (⟨trivial, rfl, rfl⟩) (Nat.le_of_ble_eq_true rfl) (Nat.le_of_ble_eq_true rfl) dX10_party_103
        · skip
          have eT := eT.symm; subst eT
          have er_rq34_ := er_rq34_.symm; subst er_rq34_
          have eM := eM.symm; subst eM
          have cq36_ : ¬ sgnF f nq21_ nq22_ := cq36_
          refine jif_eq (tgt := 102) hx hb dX10_party_95 (by decide) (fun cq38_ => ?_) (fun cq38_ => absurd cq38_ (by decide))
          refine lv_iconst (v := 0) hx hb dX10_party_102 (by decide) ?_
          exact ret_i hC hr hlk hK hH (⟨trivial, rfl, rfl⟩) (Nat.le_of_ble_eq_true rfl) (Nat.le_of_ble_eq_true rfl) dX10_party_103
      · skip
        refine lv_tableIn (off := 64) (tgt := 104) hx hb dX10_party_40 (by omega) (by omega) (by rw [cq27_]; rfl) (by decide) ?_
        refine lv_aload_n hx hb dX10_party_104 rfl (lv_at hl 2 rfl) ?_
        refine xg hC hK hH flX10_7 hc_h rfl dX10_party_105 ?_
        refine lv_iload hx hb dX10_party_108 (lv_at hl 0 rfl) ?_
        refine lv_iconst (v := 0) hx hb dX10_party_110 (by decide) ?_
        refine lv_iadd hx hb dX10_party_111 ?_
        refine lv_topi (fun zq39_ e_zq39_ => ?_)
        have h_zq39_ : zq39_.toInt = rq25_.toInt + 0 := by rw [e_zq39_, iAdd (by have := iRg rq25_; have : (0 : Int32).toInt = 0 := rfl; omega) (by have := iRg rq25_; have : (0 : Int32).toInt = 0 := rfl; omega)]; rfl
        refine xild hC hK hH hc_al (iIn (by omega) (by omega)) dX10_party_112 ?_
        refine lv_topi (fun xq40_ e_xq40_ => ?_)
        have k_xq40_ : xq40_ = f (nq21_ + 184 + 6 * nq22_) := by rw [e_xq40_, clE (n := nq21_ + 184 + 6 * nq22_) (by omega)]
        have kt_xq40_ : xq40_.toInt = (f (nq21_ + 184 + 6 * nq22_)).toInt := by rw [k_xq40_]
        exact ret_i hC hr hlk hK hH (⟨trivial, rfl, rfl⟩) (Nat.le_of_ble_eq_true rfl) (Nat.le_of_ble_eq_true rfl) dX10_party_113
      · skip
        refine lv_tableIn (off := 74) (tgt := 114) hx hb dX10_party_40 (by omega) (by omega) (by rw [cq27_]; rfl) (by decide) ?_
        refine lv_aload_n hx hb dX10_party_114 rfl (lv_at hl 2 rfl) ?_
        refine xg hC hK hH flX10_7 hc_h rfl dX10_party_115 ?_
        refine lv_iload hx hb dX10_party_118 (lv_at hl 0 rfl) ?_
        refine lv_iconst (v := 1) hx hb dX10_party_120 (by decide) ?_
        refine lv_iadd hx hb dX10_party_121 ?_
        refine lv_topi (fun zq41_ e_zq41_ => ?_)
        have h_zq41_ : zq41_.toInt = rq25_.toInt + 1 := by rw [e_zq41_, iAdd (by have := iRg rq25_; have : (1 : Int32).toInt = 1 := rfl; omega) (by have := iRg rq25_; have : (1 : Int32).toInt = 1 := rfl; omega)]; rfl
        refine xild hC hK hH hc_al (iIn (by omega) (by omega)) dX10_party_122 ?_
        refine lv_topi (fun xq42_ e_xq42_ => ?_)
        have k_xq42_ : xq42_ = f (nq21_ + 184 + 6 * nq22_ + 1) := by rw [e_xq42_, clE (n := nq21_ + 184 + 6 * nq22_ + 1) (by omega)]
        have kt_xq42_ : xq42_.toInt = (f (nq21_ + 184 + 6 * nq22_ + 1)).toInt := by rw [k_xq42_]
        refine jif_le (tgt := 130) hx hb dX10_party_123 (by decide) (fun cq43_ => ?_) (fun cq43_ => ?_)
        · skip
          have cq43_ : xq42_.toInt ≤ 0 := cq43_
          refine lv_iconst (v := 0) hx hb dX10_party_130 (by decide) ?_
          exact ret_i hC hr hlk hK hH (⟨trivial, rfl, rfl⟩) (Nat.le_of_ble_eq_true rfl) (Nat.le_of_ble_eq_true rfl) dX10_party_131
        · skip
          have cq43_ : 0 < xq42_.toInt := cq43_
          refine lv_iconst (v := 1) hx hb dX10_party_126 (by decide) ?_
          refine lv_goto (tgt := 131) hx hb dX10_party_127 (by decide) ?_
          exact ret_i hC hr hlk hK hH (⟨trivial, rfl, rfl⟩) (Nat.le_of_ble_eq_true rfl) (Nat.le_of_ble_eq_true rfl) dX10_party_131
      · skip
        refine lv_tableIn (off := 92) (tgt := 132) hx hb dX10_party_40 (by omega) (by omega) (by rw [cq27_]; rfl) (by decide) ?_
        refine lv_aload_n hx hb dX10_party_132 rfl (lv_at hl 2 rfl) ?_
        refine xg hC hK hH flX10_7 hc_h rfl dX10_party_133 ?_
        refine lv_iload hx hb dX10_party_136 (lv_at hl 0 rfl) ?_
        refine lv_iconst (v := 3) hx hb dX10_party_138 (by decide) ?_
        refine lv_iadd hx hb dX10_party_139 ?_
        refine lv_topi (fun zq44_ e_zq44_ => ?_)
        have h_zq44_ : zq44_.toInt = rq25_.toInt + 3 := by rw [e_zq44_, iAdd (by have := iRg rq25_; have : (3 : Int32).toInt = 3 := rfl; omega) (by have := iRg rq25_; have : (3 : Int32).toInt = 3 := rfl; omega)]; rfl
        refine xild hC hK hH hc_al (iIn (by omega) (by omega)) dX10_party_140 ?_
        refine lv_topi (fun xq45_ e_xq45_ => ?_)
        have k_xq45_ : xq45_ = f (nq21_ + 184 + 6 * nq22_ + 3) := by rw [e_xq45_, clE (n := nq21_ + 184 + 6 * nq22_ + 3) (by omega)]
        have kt_xq45_ : xq45_.toInt = (f (nq21_ + 184 + 6 * nq22_ + 3)).toInt := by rw [k_xq45_]
        exact ret_i hC hr hlk hK hH (⟨trivial, rfl, rfl⟩) (Nat.le_of_ble_eq_true rfl) (Nat.le_of_ble_eq_true rfl) dX10_party_141
      · skip
        refine lv_tableIn (off := 102) (tgt := 142) hx hb dX10_party_40 (by omega) (by omega) (by rw [cq27_]; rfl) (by decide) ?_
        refine lv_aload_n hx hb dX10_party_142 rfl (lv_at hl 2 rfl) ?_
        refine lv_iconst (v := 0) hx hb dX10_party_143 (by decide) ?_
        refine lv_iload hx hb dX10_party_144 (lv_at hl 1 rfl) ?_
        refine lv_iload_n hx hb dX10_party_146 rfl (lv_at hl 4 rfl) ?_
        refine goI hK hH (runV (As := [.int 0, .int rq19_, .int pt]) (rest := []) hC hK hH (c_X10_reason (xn := nq21_) (t := 0) (b := nq6_) (ptn := nq22_) hc_h hn_h hc_al hn_al ht_mt ht_pa ht_li (by exact hR_f) (by decide) (by omega) (by have : (0 : Int32).toInt = 0 := rfl; omega) (by omega) (by decide) (by omega) (by omega)) mlX10_81 (rcvM hK hH hc_h rfl) ⟨⟨Nat.le_of_ble_eq_true rfl, Nat.le_of_ble_eq_true rfl⟩, Nat.le_of_ble_eq_true rfl, Nat.le_of_ble_eq_true rfl⟩ rfl hl.1 rfl (Nat.le_of_ble_eq_true rfl) dX10_party_147) (fun rq48_ Mq46_ Tq47_ Hq_ lcq_ hP hz hH => ?_)
        try dsimp only at hP
        obtain ⟨(⟨cq49_, er_rq48_⟩ | ⟨cq50_, ⟨l_rq48_, g_rq48_⟩⟩), eT, eM⟩ := hP
        · skip
          have eT := eT.symm; subst eT
          have er_rq48_ := er_rq48_.symm; subst er_rq48_
          have eM := eM.symm; subst eM
          have cq49_ : Lia f 0 nq21_ nq22_ := cq49_
          exact ret_i hC hr hlk hK hH (⟨trivial, rfl, rfl⟩) (Nat.le_of_ble_eq_true rfl) (Nat.le_of_ble_eq_true rfl) dX10_party_150
        · skip
          have eT := eT.symm; subst eT
          have eM := eM.symm; subst eM
          have cq50_ : ¬ Lia f 0 nq21_ nq22_ := cq50_
          exact ret_i hC hr hlk hK hH (⟨trivial, rfl, rfl⟩) (Nat.le_of_ble_eq_true rfl) (Nat.le_of_ble_eq_true rfl) dX10_party_150
    · skip
      have eT := eT.symm; subst eT
      have er_rq14_ := er_rq14_.symm; subst er_rq14_
      have eM := eM.symm; subst eM
      refine jif_ne (tgt := 24) hx hb dX10_party_18 (by decide) (fun cq51_ => absurd cq51_ (by decide)) (fun cq51_ => ?_)
      refine lv_bipush (v := -2) hx hb dX10_party_21 (by decide) ?_
      exact ret_i hC hr hlk hK hH (⟨trivial, rfl, rfl⟩) (Nat.le_of_ble_eq_true rfl) (Nat.le_of_ble_eq_true rfl) dX10_party_23
  · skip
    have eT := eT.symm; subst eT
    have er_rq3_ := er_rq3_.symm; subst er_rq3_
    have eM := eM.symm; subst eM
    refine jif_eq (tgt := 21) hx hb dX10_party_5 (by decide) (fun cq52_ => ?_) (fun cq52_ => absurd cq52_ (by decide))
    refine lv_bipush (v := -2) hx hb dX10_party_21 (by decide) ?_
    exact ret_i hC hr hlk hK hH (⟨trivial, rfl, rfl⟩) (Nat.le_of_ble_eq_true rfl) (Nat.le_of_ble_eq_true rfl) dX10_party_23
set_option maxHeartbeats 4000000 in
set_option maxRecDepth 100000 in
theorem c_X10_why {l : Launch} {D : va_G} {kA : Nat → ClassId} {M : mM} {T : mT} {sz : Nat} {h al mt ii pa li : Nat} {ta fpm sm nx tk pl ln wr : Int32} {va : Int64} {f : Nat → Int32} {bi pt lv wh : Int32} (hc_h : M h = some (.inr (8, [.ref al, .ref mt, .ref ii, .int ta, .int fpm, .ref pa, .int sm, .int nx, .int tk, .int pl, .int ln, .long va, .int wr, .ref li]))) (hn_h : T h = none) (hc_al : M al = some (.inl (kA 0, 7506, .inl f))) (hn_al : T al = none) (ht_mt : T mt = some 11) (ht_pa : T pa = some 13) (ht_li : T li = some 14) (hR_f : Rng f) : mCi l yX10_why cX10_why 8 (some .int) 6 0 0 D kA M T sz [.ref h, .int bi, .int pt, .int lv, .int wh] (fun r u => (True) ∧ u.2 = T ∧ u.1 = M) := by
  unfold mCi
  refine start_W (by decide) (Nat.le_of_ble_eq_true rfl) ?_
  intro p e s m below meth c ls hC hr hlk hnm hK hH hsz hl
  have hx := hC.1
  have hb := hC.2.1
  have hl : lv_has ls 8 [(0, .ref h), (1, .int bi), (2, .int pt), (3, .int lv), (4, .int wh)] := hl
  have n_h_al : h ≠ al := neM hc_h hc_al (by simp)
  have n_al_h : al ≠ h := neM hc_al hc_h (by simp)
  have hK_f : Ke f f := Ke.rf
  refine lv_aload_n hx hb dX10_why_0 rfl (lv_at hl 0 rfl) ?_
  refine lv_iload_n hx hb dX10_why_1 rfl (lv_at hl 1 rfl) ?_
  refine goI hK hH (runV (As := [.int bi]) (rest := []) hC hK hH (c_X10_isBill hc_h hn_h hc_al hn_al ht_mt ht_pa ht_li (by exact hR_f)) mlX10_116 (rcvM hK hH hc_h rfl) ⟨⟨Nat.le_of_ble_eq_true rfl, Nat.le_of_ble_eq_true rfl⟩, Nat.le_of_ble_eq_true rfl, Nat.le_of_ble_eq_true rfl⟩ rfl hl.1 rfl (Nat.le_of_ble_eq_true rfl) dX10_why_2) (fun rq3_ Mq1_ Tq2_ Hq_ lcq_ hP hz hH => ?_)
  try dsimp only at hP
  obtain ⟨(⟨cq4_, er_rq3_⟩ | er_rq3_), eT, eM⟩ := hP
  · skip
    have eT := eT.symm; subst eT
    have er_rq3_ := er_rq3_.symm; subst er_rq3_
    have eM := eM.symm; subst eM
    have cq4_ : 0 ≤ bi.toInt ∧ bi.toInt ≤ 3 := cq4_
    refine jif_eq (tgt := 40) hx hb dX10_why_5 (by decide) (fun cq5_ => absurd cq5_ (by decide)) (fun cq5_ => ?_)
    refine lv_aload_n hx hb dX10_why_8 rfl (lv_at hl 0 rfl) ?_
    refine lv_iconst (v := 0) hx hb dX10_why_9 (by decide) ?_
    refine lv_iload_n hx hb dX10_why_10 rfl (lv_at hl 1 rfl) ?_
    obtain ⟨nq6_, hn_nq6_⟩ : ∃ n : Nat, bi.toInt = (n : Int) := ⟨(bi.toInt).toNat, by omega⟩
    refine goI hK hH (runS (As := [.int 0, .int bi]) (rest := [.ref h]) hC hK hH (c_X10_at (by decide) (by omega)) mlX10_109 ⟨⟨Nat.le_of_ble_eq_true rfl, Nat.le_of_ble_eq_true rfl⟩, Nat.le_of_ble_eq_true rfl, Nat.le_of_ble_eq_true rfl⟩ rfl hl.1 rfl (Nat.le_of_ble_eq_true rfl) dX10_why_11) (fun rq9_ Mq7_ Tq8_ Hq_ lcq_ hP hz hH => ?_)
    try dsimp only at hP
    obtain ⟨(⟨cq10_, ⟨l_rq9_, g_rq9_⟩⟩), eT, eM⟩ := hP
    have eT := eT.symm; subst eT
    have eM := eM.symm; subst eM
    have cq10_ : rq9_.toInt = (0 : Int) + 20 + 280 * bi.toInt := cq10_
    obtain ⟨nq11_, hn_nq11_⟩ : ∃ n : Nat, n = 1140 * 0 + 20 + 280 * nq6_ := ⟨_, rfl⟩
    have hx_rq9_ : rq9_.toInt = (nq11_ : Int) := by have : (0 : Int32).toInt = 0 := rfl; omega
    refine lv_iload_n hx hb dX10_why_14 rfl (lv_at hl 2 rfl) ?_
    refine goI hK hH (runV (As := [.int rq9_, .int pt]) (rest := []) hC hK hH (c_X10_isParty (xn := nq11_) (t := 0) (b := nq6_) hc_h hn_h hc_al hn_al ht_mt ht_pa ht_li (by exact hR_f) (by decide) (by omega) (by have : (0 : Int32).toInt = 0 := rfl; omega) (by omega)) mlX10_140 (rcvM hK hH hc_h rfl) ⟨⟨Nat.le_of_ble_eq_true rfl, Nat.le_of_ble_eq_true rfl⟩, Nat.le_of_ble_eq_true rfl, Nat.le_of_ble_eq_true rfl⟩ rfl hl.1 rfl (Nat.le_of_ble_eq_true rfl) dX10_why_15) (fun rq14_ Mq12_ Tq13_ Hq_ lcq_ hP hz hH => ?_)
    try dsimp only at hP
    obtain ⟨(⟨cq15_, er_rq14_⟩ | er_rq14_), eT, eM⟩ := hP
    · skip
      have eT := eT.symm; subst eT
      have er_rq14_ := er_rq14_.symm; subst er_rq14_
      have eM := eM.symm; subst eM
      have cq15_ : 0 ≤ pt.toInt ∧ pt.toInt ≤ 1 + (f (nq11_ + 8)).toInt ∧ pt.toInt ≤ 13 := cq15_
      refine jif_eq (tgt := 40) hx hb dX10_why_18 (by decide) (fun cq16_ => absurd cq16_ (by decide)) (fun cq16_ => ?_)
      refine lv_iload_n hx hb dX10_why_21 rfl (lv_at hl 3 rfl) ?_
      refine lv_iconst (v := 0) hx hb dX10_why_22 (by decide) ?_
      refine lv_iconst (v := 2) hx hb dX10_why_23 (by decide) ?_
      refine goI hK hH (runS (As := [.int lv, .int 0, .int 2]) (rest := []) hC hK hH (c_X10_isIn) mlX10_33 ⟨⟨Nat.le_of_ble_eq_true rfl, Nat.le_of_ble_eq_true rfl⟩, Nat.le_of_ble_eq_true rfl, Nat.le_of_ble_eq_true rfl⟩ rfl hl.1 rfl (Nat.le_of_ble_eq_true rfl) dX10_why_24) (fun rq19_ Mq17_ Tq18_ Hq_ lcq_ hP hz hH => ?_)
      try dsimp only at hP
      obtain ⟨(⟨cq20_, er_rq19_⟩ | ⟨cq21_, er_rq19_⟩), eT, eM⟩ := hP
      · skip
        have eT := eT.symm; subst eT
        have er_rq19_ := er_rq19_.symm; subst er_rq19_
        have eM := eM.symm; subst eM
        have cq20_ : (0 : Int) ≤ lv.toInt ∧ lv.toInt ≤ (2 : Int) := cq20_
        refine jif_eq (tgt := 40) hx hb dX10_why_27 (by decide) (fun cq22_ => absurd cq22_ (by decide)) (fun cq22_ => ?_)
        refine lv_iload hx hb dX10_why_30 (lv_at hl 4 rfl) ?_
        refine lv_iconst (v := 0) hx hb dX10_why_32 (by decide) ?_
        refine lv_iconst (v := 1) hx hb dX10_why_33 (by decide) ?_
        refine goI hK hH (runS (As := [.int wh, .int 0, .int 1]) (rest := []) hC hK hH (c_X10_isIn) mlX10_33 ⟨⟨Nat.le_of_ble_eq_true rfl, Nat.le_of_ble_eq_true rfl⟩, Nat.le_of_ble_eq_true rfl, Nat.le_of_ble_eq_true rfl⟩ rfl hl.1 rfl (Nat.le_of_ble_eq_true rfl) dX10_why_34) (fun rq25_ Mq23_ Tq24_ Hq_ lcq_ hP hz hH => ?_)
        try dsimp only at hP
        obtain ⟨(⟨cq26_, er_rq25_⟩ | ⟨cq27_, er_rq25_⟩), eT, eM⟩ := hP
        · skip
          have eT := eT.symm; subst eT
          have er_rq25_ := er_rq25_.symm; subst er_rq25_
          have eM := eM.symm; subst eM
          have cq26_ : (0 : Int) ≤ wh.toInt ∧ wh.toInt ≤ (1 : Int) := cq26_
          refine jif_ne (tgt := 43) hx hb dX10_why_37 (by decide) (fun cq28_ => ?_) (fun cq28_ => absurd cq28_ (by decide))
          refine lv_iconst (v := 0) hx hb dX10_why_43 (by decide) ?_
          refine lv_iload_n hx hb dX10_why_44 rfl (lv_at hl 1 rfl) ?_
          refine goI hK hH (runS (As := [.int 0, .int bi]) (rest := []) hC hK hH (c_X10_at (by decide) (by omega)) mlX10_109 ⟨⟨Nat.le_of_ble_eq_true rfl, Nat.le_of_ble_eq_true rfl⟩, Nat.le_of_ble_eq_true rfl, Nat.le_of_ble_eq_true rfl⟩ rfl hl.1 rfl (Nat.le_of_ble_eq_true rfl) dX10_why_45) (fun rq31_ Mq29_ Tq30_ Hq_ lcq_ hP hz hH => ?_)
          try dsimp only at hP
          obtain ⟨(⟨cq32_, ⟨l_rq31_, g_rq31_⟩⟩), eT, eM⟩ := hP
          have eT := eT.symm; subst eT
          have eM := eM.symm; subst eM
          have cq32_ : rq31_.toInt = (0 : Int) + 20 + 280 * bi.toInt := cq32_
          obtain ⟨nq33_, hn_nq33_⟩ : ∃ n : Nat, n = 1140 * 0 + 20 + 280 * nq6_ := ⟨_, rfl⟩
          have hx_rq31_ : rq31_.toInt = (nq33_ : Int) := by have : (0 : Int32).toInt = 0 := rfl; omega
          refine lv_istore (lv' := [(5, .int rq31_), (0, .ref h), (1, .int bi), (2, .int pt), (3, .int lv), (4, .int wh)]) hx hb dX10_why_48 hl (by decide) rfl (fun ls hl => ?_)
          refine lv_aload_n hx hb dX10_why_50 rfl (lv_at hl 1 rfl) ?_
          refine lv_iconst (v := 0) hx hb dX10_why_51 (by decide) ?_
          refine lv_iload hx hb dX10_why_52 (lv_at hl 0 rfl) ?_
          refine lv_iload_n hx hb dX10_why_54 rfl (lv_at hl 3 rfl) ?_
          obtain ⟨nq34_, hn_nq34_⟩ : ∃ n : Nat, pt.toInt = (n : Int) := ⟨(pt.toInt).toNat, by omega⟩
          refine goI hK hH (runV (As := [.int 0, .int rq31_, .int pt]) (rest := []) hC hK hH (c_X10_reason (xn := nq33_) (t := 0) (b := nq6_) (ptn := nq34_) hc_h hn_h hc_al hn_al ht_mt ht_pa ht_li (by exact hR_f) (by decide) (by omega) (by have : (0 : Int32).toInt = 0 := rfl; omega) (by omega) (by decide) (by omega) (by omega)) mlX10_81 (rcvM hK hH hc_h rfl) ⟨⟨Nat.le_of_ble_eq_true rfl, Nat.le_of_ble_eq_true rfl⟩, Nat.le_of_ble_eq_true rfl, Nat.le_of_ble_eq_true rfl⟩ rfl hl.1 rfl (Nat.le_of_ble_eq_true rfl) dX10_why_55) (fun rq37_ Mq35_ Tq36_ Hq_ lcq_ hP hz hH => ?_)
          try dsimp only at hP
          obtain ⟨(⟨cq38_, er_rq37_⟩ | ⟨cq39_, ⟨l_rq37_, g_rq37_⟩⟩), eT, eM⟩ := hP
          · skip
            have eT := eT.symm; subst eT
            have er_rq37_ := er_rq37_.symm; subst er_rq37_
            have eM := eM.symm; subst eM
            have cq38_ : Lia f 0 nq33_ nq34_ := cq38_
            refine lv_istore (lv' := [(6, .int 0), (5, .int rq31_), (0, .ref h), (1, .int bi), (2, .int pt), (3, .int lv), (4, .int wh)]) hx hb dX10_why_58 hl (by decide) rfl (fun ls hl => ?_)
            refine lv_iload hx hb dX10_why_60 (lv_at hl 0 rfl) ?_
            refine jif_ne (tgt := 67) hx hb dX10_why_62 (by decide) (fun cq40_ => absurd cq40_ (by decide)) (fun cq40_ => ?_)
            refine lv_iconst (v := 0) hx hb dX10_why_65 (by decide) ?_
            exact ret_i hC hr hlk hK hH (⟨trivial, rfl, rfl⟩) (Nat.le_of_ble_eq_true rfl) (Nat.le_of_ble_eq_true rfl) dX10_why_66
          · skip
            have eT := eT.symm; subst eT
            have eM := eM.symm; subst eM
            have cq39_ : ¬ Lia f 0 nq33_ nq34_ := cq39_
            refine lv_istore (lv' := [(6, .int rq37_), (5, .int rq31_), (0, .ref h), (1, .int bi), (2, .int pt), (3, .int lv), (4, .int wh)]) hx hb dX10_why_58 hl (by decide) rfl (fun ls hl => ?_)
            refine lv_iload hx hb dX10_why_60 (lv_at hl 0 rfl) ?_
            refine jif_ne (tgt := 67) hx hb dX10_why_62 (by decide) (fun cq41_ => ?_) (fun cq41_ => absurd cq41_ (by have := iRg rq37_; have : (0 : Int32).toInt = 0 := rfl; omega))
            have cq41_ : rq37_.toInt ≠ 0 := cq41_
            refine lv_iload_n hx hb dX10_why_67 rfl (lv_at hl 5 rfl) ?_
            refine jif_ne (tgt := 83) hx hb dX10_why_68 (by decide) (fun cq42_ => ?_) (fun cq42_ => ?_)
            · skip
              have cq42_ : lv.toInt ≠ 0 := cq42_
              refine lv_aload_n hx hb dX10_why_83 rfl (lv_at hl 2 rfl) ?_
              refine lv_iload hx hb dX10_why_84 (lv_at hl 1 rfl) ?_
              refine lv_iload_n hx hb dX10_why_86 rfl (lv_at hl 4 rfl) ?_
              refine lv_iload hx hb dX10_why_87 (lv_at hl 0 rfl) ?_
              refine goI hK hH (runV (As := [.int rq31_, .int pt, .int rq37_]) (rest := []) hC hK hH (c_X10_cause (xn := nq33_) (t := 0) (b := nq6_) (ptn := nq34_) hc_h hn_h hc_al hn_al ht_mt ht_pa ht_li (by exact hR_f) (by decide) (by omega) (by have : (0 : Int32).toInt = 0 := rfl; omega) (by omega) (by omega) (by omega) (by decide)) mlX10_192 (rcvM hK hH hc_h rfl) ⟨⟨Nat.le_of_ble_eq_true rfl, Nat.le_of_ble_eq_true rfl⟩, Nat.le_of_ble_eq_true rfl, Nat.le_of_ble_eq_true rfl⟩ rfl hl.1 rfl (Nat.le_of_ble_eq_true rfl) dX10_why_89) (fun rq45_ Mq43_ Tq44_ Hq_ lcq_ hP hz hH => ?_)
              try dsimp only at hP
              obtain ⟨(-), eT, eM⟩ := hP
              have eT := eT.symm; subst eT
              have eM := eM.symm; subst eM
              refine lv_istore (lv' := [(7, .int rq45_), (6, .int rq37_), (5, .int rq31_), (0, .ref h), (1, .int bi), (2, .int pt), (3, .int lv), (4, .int wh)]) hx hb dX10_why_92 hl (by decide) rfl (fun ls hl => ?_)
              refine lv_iload hx hb dX10_why_94 (lv_at hl 0 rfl) ?_
              refine jif_ne (tgt := 101) hx hb dX10_why_96 (by decide) (fun cq46_ => ?_) (fun cq46_ => ?_)
              · skip
                have cq46_ : rq45_.toInt ≠ 0 := cq46_
                refine lv_iload_n hx hb dX10_why_101 rfl (lv_at hl 6 rfl) ?_
                refine lv_iconst (v := 2) hx hb dX10_why_102 (by decide) ?_
                refine jic_ne (tgt := 146) hx hb dX10_why_103 (by decide) (fun cq47_ => ?_) (fun cq47_ => ?_)
                · skip
                  have cq47_ : lv.toInt ≠ 2 := cq47_
                  refine lv_iload hx hb dX10_why_146 (lv_at hl 7 rfl) ?_
                  refine jif_ne (tgt := 154) hx hb dX10_why_148 (by decide) (fun cq48_ => ?_) (fun cq48_ => ?_)
                  · skip
                    have cq48_ : wh.toInt ≠ 0 := cq48_
                    refine lv_iload hx hb dX10_why_154 (lv_at hl 0 rfl) ?_
                    refine lv_bipush (v := 11) hx hb dX10_why_156 (by decide) ?_
                    refine jic_ne (tgt := 174) hx hb dX10_why_158 (by decide) (fun cq49_ => ?_) (fun cq49_ => ?_)
                    · skip
                      have cq49_ : rq45_.toInt ≠ 11 := cq49_
                      refine lv_iload hx hb dX10_why_174 (lv_at hl 0 rfl) ?_
                      refine lv_bipush (v := 12) hx hb dX10_why_176 (by decide) ?_
                      refine jic_ne (tgt := 187) hx hb dX10_why_178 (by decide) (fun cq50_ => ?_) (fun cq50_ => ?_)
                      · skip
                        have cq50_ : rq45_.toInt ≠ 12 := cq50_
                        refine lv_iload hx hb dX10_why_187 (lv_at hl 0 rfl) ?_
                        refine lv_bipush (v := 15) hx hb dX10_why_189 (by decide) ?_
                        refine jic_eq (tgt := 201) hx hb dX10_why_191 (by decide) (fun cq51_ => ?_) (fun cq51_ => ?_)
                        · skip
                          have cq51_ : rq45_.toInt = 15 := cq51_
                          refine lv_aload_n hx hb dX10_why_201 rfl (lv_at hl 3 rfl) ?_
                          refine xg hC hK hH flX10_7 hc_h rfl dX10_why_202 ?_
                          refine lv_iload hx hb dX10_why_205 (lv_at hl 2 rfl) ?_
                          refine lv_iload_n hx hb dX10_why_207 rfl (lv_at hl 5 rfl) ?_
                          refine goI hK hH (runS (As := [.int rq31_, .int pt]) (rest := [.ref al]) hC hK hH (c_X10_partyAt (by omega) (by omega)) mlX10_56 ⟨⟨Nat.le_of_ble_eq_true rfl, Nat.le_of_ble_eq_true rfl⟩, Nat.le_of_ble_eq_true rfl, Nat.le_of_ble_eq_true rfl⟩ rfl hl.1 rfl (Nat.le_of_ble_eq_true rfl) dX10_why_208) (fun rq54_ Mq52_ Tq53_ Hq_ lcq_ hP hz hH => ?_)
                          try dsimp only at hP
                          obtain ⟨(⟨cq55_, ⟨l_rq54_, g_rq54_⟩⟩), eT, eM⟩ := hP
                          have eT := eT.symm; subst eT
                          have eM := eM.symm; subst eM
                          have cq55_ : rq54_.toInt = rq31_.toInt + 184 + 6 * pt.toInt := cq55_
                          have hx_rq54_ : rq54_.toInt = ((nq33_ + 184 + 6 * nq34_ : Nat) : Int) := by omega
                          refine lv_iconst (v := 2) hx hb dX10_why_211 (by decide) ?_
                          refine lv_iadd hx hb dX10_why_212 ?_
                          refine lv_topi (fun zq56_ e_zq56_ => ?_)
                          have h_zq56_ : zq56_.toInt = rq54_.toInt + 2 := by rw [e_zq56_, iAdd (by have := iRg rq54_; have : (2 : Int32).toInt = 2 := rfl; omega) (by have := iRg rq54_; have : (2 : Int32).toInt = 2 := rfl; omega)]; rfl
                          refine xild hC hK hH hc_al (iIn (by omega) (by omega)) dX10_why_213 ?_
                          refine lv_topi (fun xq57_ e_xq57_ => ?_)
                          have k_xq57_ : xq57_ = f (nq33_ + 184 + 6 * nq34_ + 2) := by rw [e_xq57_, clE (n := nq33_ + 184 + 6 * nq34_ + 2) (by omega)]
                          have kt_xq57_ : xq57_.toInt = (f (nq33_ + 184 + 6 * nq34_ + 2)).toInt := by rw [k_xq57_]
                          refine lv_goto (tgt := 218) hx hb dX10_why_214 (by decide) ?_
                          exact ret_i hC hr hlk hK hH (⟨trivial, rfl, rfl⟩) (Nat.le_of_ble_eq_true rfl) (Nat.le_of_ble_eq_true rfl) dX10_why_218
                        · skip
                          have cq51_ : rq45_.toInt ≠ 15 := cq51_
                          refine lv_iload hx hb dX10_why_194 (lv_at hl 0 rfl) ?_
                          refine lv_bipush (v := 16) hx hb dX10_why_196 (by decide) ?_
                          refine jic_ne (tgt := 217) hx hb dX10_why_198 (by decide) (fun cq58_ => ?_) (fun cq58_ => ?_)
                          · skip
                            have cq58_ : rq45_.toInt ≠ 16 := cq58_
                            refine lv_iconst (v := -1) hx hb dX10_why_217 (by decide) ?_
                            exact ret_i hC hr hlk hK hH (⟨trivial, rfl, rfl⟩) (Nat.le_of_ble_eq_true rfl) (Nat.le_of_ble_eq_true rfl) dX10_why_218
                          · skip
                            have cq58_ : rq45_.toInt = 16 := cq58_
                            refine lv_aload_n hx hb dX10_why_201 rfl (lv_at hl 3 rfl) ?_
                            refine xg hC hK hH flX10_7 hc_h rfl dX10_why_202 ?_
                            refine lv_iload hx hb dX10_why_205 (lv_at hl 2 rfl) ?_
                            refine lv_iload_n hx hb dX10_why_207 rfl (lv_at hl 5 rfl) ?_
                            refine goI hK hH (runS (As := [.int rq31_, .int pt]) (rest := [.ref al]) hC hK hH (c_X10_partyAt (by omega) (by omega)) mlX10_56 ⟨⟨Nat.le_of_ble_eq_true rfl, Nat.le_of_ble_eq_true rfl⟩, Nat.le_of_ble_eq_true rfl, Nat.le_of_ble_eq_true rfl⟩ rfl hl.1 rfl (Nat.le_of_ble_eq_true rfl) dX10_why_208) (fun rq61_ Mq59_ Tq60_ Hq_ lcq_ hP hz hH => ?_)
                            try dsimp only at hP
                            obtain ⟨(⟨cq62_, ⟨l_rq61_, g_rq61_⟩⟩), eT, eM⟩ := hP
                            have eT := eT.symm; subst eT
                            have eM := eM.symm; subst eM
                            have cq62_ : rq61_.toInt = rq31_.toInt + 184 + 6 * pt.toInt := cq62_
                            have hx_rq61_ : rq61_.toInt = ((nq33_ + 184 + 6 * nq34_ : Nat) : Int) := by omega
                            refine lv_iconst (v := 2) hx hb dX10_why_211 (by decide) ?_
                            refine lv_iadd hx hb dX10_why_212 ?_
                            refine lv_topi (fun zq63_ e_zq63_ => ?_)
                            have h_zq63_ : zq63_.toInt = rq61_.toInt + 2 := by rw [e_zq63_, iAdd (by have := iRg rq61_; have : (2 : Int32).toInt = 2 := rfl; omega) (by have := iRg rq61_; have : (2 : Int32).toInt = 2 := rfl; omega)]; rfl
                            refine xild hC hK hH hc_al (iIn (by omega) (by omega)) dX10_why_213 ?_
                            refine lv_topi (fun xq64_ e_xq64_ => ?_)
                            have k_xq64_ : xq64_ = f (nq33_ + 184 + 6 * nq34_ + 2) := by rw [e_xq64_, clE (n := nq33_ + 184 + 6 * nq34_ + 2) (by omega)]
                            have kt_xq64_ : xq64_.toInt = (f (nq33_ + 184 + 6 * nq34_ + 2)).toInt := by rw [k_xq64_]
                            refine lv_goto (tgt := 218) hx hb dX10_why_214 (by decide) ?_
                            exact ret_i hC hr hlk hK hH (⟨trivial, rfl, rfl⟩) (Nat.le_of_ble_eq_true rfl) (Nat.le_of_ble_eq_true rfl) dX10_why_218
                      · skip
                        have cq50_ : rq45_.toInt = 12 := cq50_
                        refine lv_iload_n hx hb dX10_why_181 rfl (lv_at hl 5 rfl) ?_
                        refine lv_iconst (v := 2) hx hb dX10_why_182 (by decide) ?_
                        refine lv_isub hx hb dX10_why_183 ?_
                        refine lv_topi (fun zq65_ e_zq65_ => ?_)
                        have h_zq65_ : zq65_.toInt = pt.toInt - 2 := by rw [e_zq65_, iSub (by have := iRg pt; have : (2 : Int32).toInt = 2 := rfl; omega) (by have := iRg pt; have : (2 : Int32).toInt = 2 := rfl; omega)]; rfl
                        refine lv_goto (tgt := 218) hx hb dX10_why_184 (by decide) ?_
                        exact ret_i hC hr hlk hK hH (⟨trivial, rfl, rfl⟩) (Nat.le_of_ble_eq_true rfl) (Nat.le_of_ble_eq_true rfl) dX10_why_218
                    · skip
                      have cq49_ : rq45_.toInt = 11 := cq49_
                      refine lv_aload_n hx hb dX10_why_161 rfl (lv_at hl 3 rfl) ?_
                      refine xg hC hK hH flX10_7 hc_h rfl dX10_why_162 ?_
                      refine lv_iload hx hb dX10_why_165 (lv_at hl 2 rfl) ?_
                      refine lv_bipush (v := 16) hx hb dX10_why_167 (by decide) ?_
                      refine lv_iadd hx hb dX10_why_169 ?_
                      refine lv_topi (fun zq66_ e_zq66_ => ?_)
                      have h_zq66_ : zq66_.toInt = rq31_.toInt + 16 := by rw [e_zq66_, iAdd (by have := iRg rq31_; have : (16 : Int32).toInt = 16 := rfl; omega) (by have := iRg rq31_; have : (16 : Int32).toInt = 16 := rfl; omega)]; rfl
                      refine xild hC hK hH hc_al (iIn (by omega) (by omega)) dX10_why_170 ?_
                      refine lv_topi (fun xq67_ e_xq67_ => ?_)
                      have k_xq67_ : xq67_ = f (nq33_ + 16) := by rw [e_xq67_, clE (n := nq33_ + 16) (by omega)]
                      have kt_xq67_ : xq67_.toInt = (f (nq33_ + 16)).toInt := by rw [k_xq67_]
                      refine lv_goto (tgt := 218) hx hb dX10_why_171 (by decide) ?_
                      exact ret_i hC hr hlk hK hH (⟨trivial, rfl, rfl⟩) (Nat.le_of_ble_eq_true rfl) (Nat.le_of_ble_eq_true rfl) dX10_why_218
                  · skip
                    have cq48_ : wh.toInt = 0 := cq48_
                    refine lv_iload hx hb dX10_why_151 (lv_at hl 0 rfl) ?_
                    exact ret_i hC hr hlk hK hH (⟨trivial, rfl, rfl⟩) (Nat.le_of_ble_eq_true rfl) (Nat.le_of_ble_eq_true rfl) dX10_why_153
                · skip
                  have cq47_ : lv.toInt = 2 := cq47_
                  refine lv_iload hx hb dX10_why_106 (lv_at hl 0 rfl) ?_
                  refine lv_bipush (v := 11) hx hb dX10_why_108 (by decide) ?_
                  refine jic_eq (tgt := 117) hx hb dX10_why_110 (by decide) (fun cq68_ => ?_) (fun cq68_ => ?_)
                  · skip
                    have cq68_ : rq45_.toInt = 11 := cq68_
                    refine lv_iload hx hb dX10_why_117 (lv_at hl 7 rfl) ?_
                    refine jif_ne (tgt := 135) hx hb dX10_why_119 (by decide) (fun cq69_ => ?_) (fun cq69_ => ?_)
                    · skip
                      have cq69_ : wh.toInt ≠ 0 := cq69_
                      refine lv_aload_n hx hb dX10_why_135 rfl (lv_at hl 3 rfl) ?_
                      refine xg hC hK hH flX10_7 hc_h rfl dX10_why_136 ?_
                      refine lv_iload hx hb dX10_why_139 (lv_at hl 2 rfl) ?_
                      refine lv_bipush (v := 16) hx hb dX10_why_141 (by decide) ?_
                      refine lv_iadd hx hb dX10_why_143 ?_
                      refine lv_topi (fun zq70_ e_zq70_ => ?_)
                      have h_zq70_ : zq70_.toInt = rq31_.toInt + 16 := by rw [e_zq70_, iAdd (by have := iRg rq31_; have : (16 : Int32).toInt = 16 := rfl; omega) (by have := iRg rq31_; have : (16 : Int32).toInt = 16 := rfl; omega)]; rfl
                      refine xild hC hK hH hc_al (iIn (by omega) (by omega)) dX10_why_144 ?_
                      refine lv_topi (fun xq71_ e_xq71_ => ?_)
                      have k_xq71_ : xq71_ = f (nq33_ + 16) := by rw [e_xq71_, clE (n := nq33_ + 16) (by omega)]
                      have kt_xq71_ : xq71_.toInt = (f (nq33_ + 16)).toInt := by rw [k_xq71_]
                      exact ret_i hC hr hlk hK hH (⟨trivial, rfl, rfl⟩) (Nat.le_of_ble_eq_true rfl) (Nat.le_of_ble_eq_true rfl) dX10_why_145
                    · skip
                      have cq69_ : wh.toInt = 0 := cq69_
                      refine lv_aload_n hx hb dX10_why_122 rfl (lv_at hl 3 rfl) ?_
                      refine xg hC hK hH flX10_7 hc_h rfl dX10_why_123 ?_
                      refine lv_iload hx hb dX10_why_126 (lv_at hl 2 rfl) ?_
                      refine lv_bipush (v := 17) hx hb dX10_why_128 (by decide) ?_
                      refine lv_iadd hx hb dX10_why_130 ?_
                      refine lv_topi (fun zq72_ e_zq72_ => ?_)
                      have h_zq72_ : zq72_.toInt = rq31_.toInt + 17 := by rw [e_zq72_, iAdd (by have := iRg rq31_; have : (17 : Int32).toInt = 17 := rfl; omega) (by have := iRg rq31_; have : (17 : Int32).toInt = 17 := rfl; omega)]; rfl
                      refine xild hC hK hH hc_al (iIn (by omega) (by omega)) dX10_why_131 ?_
                      refine lv_topi (fun xq73_ e_xq73_ => ?_)
                      have k_xq73_ : xq73_ = f (nq33_ + 17) := by rw [e_xq73_, clE (n := nq33_ + 17) (by omega)]
                      have kt_xq73_ : xq73_.toInt = (f (nq33_ + 17)).toInt := by rw [k_xq73_]
                      refine lv_goto (tgt := 145) hx hb dX10_why_132 (by decide) ?_
                      exact ret_i hC hr hlk hK hH (⟨trivial, rfl, rfl⟩) (Nat.le_of_ble_eq_true rfl) (Nat.le_of_ble_eq_true rfl) dX10_why_145
                  · skip
                    have cq68_ : rq45_.toInt ≠ 11 := cq68_
                    refine lv_iconst (v := 0) hx hb dX10_why_113 (by decide) ?_
                    refine lv_goto (tgt := 145) hx hb dX10_why_114 (by decide) ?_
                    exact ret_i hC hr hlk hK hH (⟨trivial, rfl, rfl⟩) (Nat.le_of_ble_eq_true rfl) (Nat.le_of_ble_eq_true rfl) dX10_why_145
              · skip
                have cq46_ : rq45_.toInt = 0 := cq46_
                refine lv_iconst (v := 0) hx hb dX10_why_99 (by decide) ?_
                exact ret_i hC hr hlk hK hH (⟨trivial, rfl, rfl⟩) (Nat.le_of_ble_eq_true rfl) (Nat.le_of_ble_eq_true rfl) dX10_why_100
            · skip
              have cq42_ : lv.toInt = 0 := cq42_
              refine lv_iload hx hb dX10_why_71 (lv_at hl 6 rfl) ?_
              refine jif_ne (tgt := 81) hx hb dX10_why_73 (by decide) (fun cq74_ => ?_) (fun cq74_ => ?_)
              · skip
                have cq74_ : wh.toInt ≠ 0 := cq74_
                refine lv_iconst (v := -1) hx hb dX10_why_81 (by decide) ?_
                exact ret_i hC hr hlk hK hH (⟨trivial, rfl, rfl⟩) (Nat.le_of_ble_eq_true rfl) (Nat.le_of_ble_eq_true rfl) dX10_why_82
              · skip
                have cq74_ : wh.toInt = 0 := cq74_
                refine lv_iload hx hb dX10_why_76 (lv_at hl 0 rfl) ?_
                refine lv_goto (tgt := 82) hx hb dX10_why_78 (by decide) ?_
                exact ret_i hC hr hlk hK hH (⟨trivial, rfl, rfl⟩) (Nat.le_of_ble_eq_true rfl) (Nat.le_of_ble_eq_true rfl) dX10_why_82
        · skip
          have eT := eT.symm; subst eT
          have er_rq25_ := er_rq25_.symm; subst er_rq25_
          have eM := eM.symm; subst eM
          have cq27_ : ¬ ((0 : Int) ≤ wh.toInt ∧ wh.toInt ≤ (1 : Int)) := cq27_
          refine jif_ne (tgt := 43) hx hb dX10_why_37 (by decide) (fun cq75_ => absurd cq75_ (by decide)) (fun cq75_ => ?_)
          refine lv_bipush (v := -2) hx hb dX10_why_40 (by decide) ?_
          exact ret_i hC hr hlk hK hH (⟨trivial, rfl, rfl⟩) (Nat.le_of_ble_eq_true rfl) (Nat.le_of_ble_eq_true rfl) dX10_why_42
      · skip
        have eT := eT.symm; subst eT
        have er_rq19_ := er_rq19_.symm; subst er_rq19_
        have eM := eM.symm; subst eM
        have cq21_ : ¬ ((0 : Int) ≤ lv.toInt ∧ lv.toInt ≤ (2 : Int)) := cq21_
        refine jif_eq (tgt := 40) hx hb dX10_why_27 (by decide) (fun cq76_ => ?_) (fun cq76_ => absurd cq76_ (by decide))
        refine lv_bipush (v := -2) hx hb dX10_why_40 (by decide) ?_
        exact ret_i hC hr hlk hK hH (⟨trivial, rfl, rfl⟩) (Nat.le_of_ble_eq_true rfl) (Nat.le_of_ble_eq_true rfl) dX10_why_42
    · skip
      have eT := eT.symm; subst eT
      have er_rq14_ := er_rq14_.symm; subst er_rq14_
      have eM := eM.symm; subst eM
      refine jif_eq (tgt := 40) hx hb dX10_why_18 (by decide) (fun cq77_ => ?_) (fun cq77_ => absurd cq77_ (by decide))
      refine lv_bipush (v := -2) hx hb dX10_why_40 (by decide) ?_
      exact ret_i hC hr hlk hK hH (⟨trivial, rfl, rfl⟩) (Nat.le_of_ble_eq_true rfl) (Nat.le_of_ble_eq_true rfl) dX10_why_42
  · skip
    have eT := eT.symm; subst eT
    have er_rq3_ := er_rq3_.symm; subst er_rq3_
    have eM := eM.symm; subst eM
    refine jif_eq (tgt := 40) hx hb dX10_why_5 (by decide) (fun cq78_ => ?_) (fun cq78_ => absurd cq78_ (by decide))
    refine lv_bipush (v := -2) hx hb dX10_why_40 (by decide) ?_
    exact ret_i hC hr hlk hK hH (⟨trivial, rfl, rfl⟩) (Nat.le_of_ble_eq_true rfl) (Nat.le_of_ble_eq_true rfl) dX10_why_42
set_option maxHeartbeats 4000000 in
set_option maxRecDepth 100000 in
theorem c_X10_liable {l : Launch} {D : va_G} {kA : Nat → ClassId} {M : mM} {T : mT} {sz : Nat} {h al mt ii pa li : Nat} {ta fpm sm nx tk pl ln wr : Int32} {va : Int64} {f : Nat → Int32} {bi : Int32} (hc_h : M h = some (.inr (8, [.ref al, .ref mt, .ref ii, .int ta, .int fpm, .ref pa, .int sm, .int nx, .int tk, .int pl, .int ln, .long va, .int wr, .ref li]))) (hn_h : T h = none) (hc_al : M al = some (.inl (kA 0, 7506, .inl f))) (hn_al : T al = none) (ht_mt : T mt = some 11) (ht_pa : T pa = some 13) (ht_li : T li = some 14) (hR_f : Rng f) : mCi l yX10_liable cX10_liable 2 (some .int) 6 0 0 D kA M T sz [.ref h, .int bi] (fun r u => (True) ∧ u.2 = T ∧ u.1 = M) := by
  unfold mCi
  refine start_W (by decide) (Nat.le_of_ble_eq_true rfl) ?_
  intro p e s m below meth c ls hC hr hlk hnm hK hH hsz hl
  have hx := hC.1
  have hb := hC.2.1
  have hl : lv_has ls 2 [(0, .ref h), (1, .int bi)] := hl
  have n_h_al : h ≠ al := neM hc_h hc_al (by simp)
  have n_al_h : al ≠ h := neM hc_al hc_h (by simp)
  have hK_f : Ke f f := Ke.rf
  refine lv_aload_n hx hb dX10_liable_0 rfl (lv_at hl 0 rfl) ?_
  refine lv_iload_n hx hb dX10_liable_1 rfl (lv_at hl 1 rfl) ?_
  refine goI hK hH (runV (As := [.int bi]) (rest := []) hC hK hH (c_X10_isBill hc_h hn_h hc_al hn_al ht_mt ht_pa ht_li (by exact hR_f)) mlX10_116 (rcvM hK hH hc_h rfl) ⟨⟨Nat.le_of_ble_eq_true rfl, Nat.le_of_ble_eq_true rfl⟩, Nat.le_of_ble_eq_true rfl, Nat.le_of_ble_eq_true rfl⟩ rfl hl.1 rfl (Nat.le_of_ble_eq_true rfl) dX10_liable_2) (fun rq3_ Mq1_ Tq2_ Hq_ lcq_ hP hz hH => ?_)
  try dsimp only at hP
  obtain ⟨(⟨cq4_, er_rq3_⟩ | er_rq3_), eT, eM⟩ := hP
  · skip
    have eT := eT.symm; subst eT
    have er_rq3_ := er_rq3_.symm; subst er_rq3_
    have eM := eM.symm; subst eM
    have cq4_ : 0 ≤ bi.toInt ∧ bi.toInt ≤ 3 := cq4_
    refine jif_eq (tgt := 21) hx hb dX10_liable_5 (by decide) (fun cq5_ => absurd cq5_ (by decide)) (fun cq5_ => ?_)
    refine lv_aload_n hx hb dX10_liable_8 rfl (lv_at hl 0 rfl) ?_
    refine lv_iconst (v := 0) hx hb dX10_liable_9 (by decide) ?_
    refine lv_iconst (v := 0) hx hb dX10_liable_10 (by decide) ?_
    refine lv_iload_n hx hb dX10_liable_11 rfl (lv_at hl 1 rfl) ?_
    obtain ⟨nq6_, hn_nq6_⟩ : ∃ n : Nat, bi.toInt = (n : Int) := ⟨(bi.toInt).toNat, by omega⟩
    refine goI hK hH (runS (As := [.int 0, .int bi]) (rest := [.int 0, .ref h]) hC hK hH (c_X10_at (by decide) (by omega)) mlX10_109 ⟨⟨Nat.le_of_ble_eq_true rfl, Nat.le_of_ble_eq_true rfl⟩, Nat.le_of_ble_eq_true rfl, Nat.le_of_ble_eq_true rfl⟩ rfl hl.1 rfl (Nat.le_of_ble_eq_true rfl) dX10_liable_12) (fun rq9_ Mq7_ Tq8_ Hq_ lcq_ hP hz hH => ?_)
    try dsimp only at hP
    obtain ⟨(⟨cq10_, ⟨l_rq9_, g_rq9_⟩⟩), eT, eM⟩ := hP
    have eT := eT.symm; subst eT
    have eM := eM.symm; subst eM
    have cq10_ : rq9_.toInt = (0 : Int) + 20 + 280 * bi.toInt := cq10_
    obtain ⟨nq11_, hn_nq11_⟩ : ∃ n : Nat, n = 1140 * 0 + 20 + 280 * nq6_ := ⟨_, rfl⟩
    have hx_rq9_ : rq9_.toInt = (nq11_ : Int) := by have : (0 : Int32).toInt = 0 := rfl; omega
    refine goI hK hH (runV (As := [.int 0, .int rq9_]) (rest := []) hC hK hH (c_X10_liableBits (xn := nq11_) (t := 0) (b := nq6_) hc_h hn_h hc_al hn_al ht_mt ht_pa ht_li (by exact hR_f) (by decide) (by omega) (by have : (0 : Int32).toInt = 0 := rfl; omega) (by omega) (by decide)) mlX10_195 (rcvM hK hH hc_h rfl) ⟨⟨Nat.le_of_ble_eq_true rfl, Nat.le_of_ble_eq_true rfl⟩, Nat.le_of_ble_eq_true rfl, Nat.le_of_ble_eq_true rfl⟩ rfl hl.1 rfl (Nat.le_of_ble_eq_true rfl) dX10_liable_15) (fun rq14_ Mq12_ Tq13_ Hq_ lcq_ hP hz hH => ?_)
    try dsimp only at hP
    obtain ⟨(-), eT, eM⟩ := hP
    have eT := eT.symm; subst eT
    have eM := eM.symm; subst eM
    refine lv_goto (tgt := 23) hx hb dX10_liable_18 (by decide) ?_
    exact ret_i hC hr hlk hK hH (⟨trivial, rfl, rfl⟩) (Nat.le_of_ble_eq_true rfl) (Nat.le_of_ble_eq_true rfl) dX10_liable_23
  · skip
    have eT := eT.symm; subst eT
    have er_rq3_ := er_rq3_.symm; subst er_rq3_
    have eM := eM.symm; subst eM
    refine jif_eq (tgt := 21) hx hb dX10_liable_5 (by decide) (fun cq15_ => ?_) (fun cq15_ => absurd cq15_ (by decide))
    refine lv_bipush (v := -2) hx hb dX10_liable_21 (by decide) ?_
    exact ret_i hC hr hlk hK hH (⟨trivial, rfl, rfl⟩) (Nat.le_of_ble_eq_true rfl) (Nat.le_of_ble_eq_true rfl) dX10_liable_23
set_option maxHeartbeats 4000000 in
set_option maxRecDepth 100000 in
theorem c_X10_reach {l : Launch} {D : va_G} {kA : Nat → ClassId} {M : mM} {T : mT} {sz : Nat} {h al mt ii pa li : Nat} {ta fpm sm nx tk pl ln wr : Int32} {va : Int64} {f : Nat → Int32} {bi : Int32} (hc_h : M h = some (.inr (8, [.ref al, .ref mt, .ref ii, .int ta, .int fpm, .ref pa, .int sm, .int nx, .int tk, .int pl, .int ln, .long va, .int wr, .ref li]))) (hn_h : T h = none) (hc_al : M al = some (.inl (kA 0, 7506, .inl f))) (hn_al : T al = none) (ht_mt : T mt = some 11) (ht_pa : T pa = some 13) (ht_li : T li = some 14) (hR_f : Rng f) : mCi l yX10_reach cX10_reach 2 (some .int) 5 0 0 D kA M T sz [.ref h, .int bi] (fun r u => (True) ∧ u.2 = T ∧ u.1 = M) := by
  unfold mCi
  refine start_W (by decide) (Nat.le_of_ble_eq_true rfl) ?_
  intro p e s m below meth c ls hC hr hlk hnm hK hH hsz hl
  have hx := hC.1
  have hb := hC.2.1
  have hl : lv_has ls 2 [(0, .ref h), (1, .int bi)] := hl
  have n_h_al : h ≠ al := neM hc_h hc_al (by simp)
  have n_al_h : al ≠ h := neM hc_al hc_h (by simp)
  have hK_f : Ke f f := Ke.rf
  refine lv_aload_n hx hb dX10_reach_0 rfl (lv_at hl 0 rfl) ?_
  refine lv_iload_n hx hb dX10_reach_1 rfl (lv_at hl 1 rfl) ?_
  refine goI hK hH (runV (As := [.int bi]) (rest := []) hC hK hH (c_X10_isBill hc_h hn_h hc_al hn_al ht_mt ht_pa ht_li (by exact hR_f)) mlX10_116 (rcvM hK hH hc_h rfl) ⟨⟨Nat.le_of_ble_eq_true rfl, Nat.le_of_ble_eq_true rfl⟩, Nat.le_of_ble_eq_true rfl, Nat.le_of_ble_eq_true rfl⟩ rfl hl.1 rfl (Nat.le_of_ble_eq_true rfl) dX10_reach_2) (fun rq3_ Mq1_ Tq2_ Hq_ lcq_ hP hz hH => ?_)
  try dsimp only at hP
  obtain ⟨(⟨cq4_, er_rq3_⟩ | er_rq3_), eT, eM⟩ := hP
  · skip
    have eT := eT.symm; subst eT
    have er_rq3_ := er_rq3_.symm; subst er_rq3_
    have eM := eM.symm; subst eM
    have cq4_ : 0 ≤ bi.toInt ∧ bi.toInt ≤ 3 := cq4_
    refine jif_eq (tgt := 21) hx hb dX10_reach_5 (by decide) (fun cq5_ => absurd cq5_ (by decide)) (fun cq5_ => ?_)
    refine lv_aload_n hx hb dX10_reach_8 rfl (lv_at hl 0 rfl) ?_
    refine lv_iconst (v := 0) hx hb dX10_reach_9 (by decide) ?_
    refine lv_iconst (v := 0) hx hb dX10_reach_10 (by decide) ?_
    refine lv_iload_n hx hb dX10_reach_11 rfl (lv_at hl 1 rfl) ?_
    obtain ⟨nq6_, hn_nq6_⟩ : ∃ n : Nat, bi.toInt = (n : Int) := ⟨(bi.toInt).toNat, by omega⟩
    refine goI hK hH (runS (As := [.int 0, .int bi]) (rest := [.int 0, .ref h]) hC hK hH (c_X10_at (by decide) (by omega)) mlX10_109 ⟨⟨Nat.le_of_ble_eq_true rfl, Nat.le_of_ble_eq_true rfl⟩, Nat.le_of_ble_eq_true rfl, Nat.le_of_ble_eq_true rfl⟩ rfl hl.1 rfl (Nat.le_of_ble_eq_true rfl) dX10_reach_12) (fun rq9_ Mq7_ Tq8_ Hq_ lcq_ hP hz hH => ?_)
    try dsimp only at hP
    obtain ⟨(⟨cq10_, ⟨l_rq9_, g_rq9_⟩⟩), eT, eM⟩ := hP
    have eT := eT.symm; subst eT
    have eM := eM.symm; subst eM
    have cq10_ : rq9_.toInt = (0 : Int) + 20 + 280 * bi.toInt := cq10_
    obtain ⟨nq11_, hn_nq11_⟩ : ∃ n : Nat, n = 1140 * 0 + 20 + 280 * nq6_ := ⟨_, rfl⟩
    have hx_rq9_ : rq9_.toInt = (nq11_ : Int) := by have : (0 : Int32).toInt = 0 := rfl; omega
    refine goI hK hH (runV (As := [.int 0, .int rq9_]) (rest := []) hC hK hH (c_X10_reachOf (xn := nq11_) (t := 0) (b := nq6_) hc_h hn_h hc_al hn_al ht_mt ht_pa ht_li (by exact hR_f) (by decide) (by omega) (by have : (0 : Int32).toInt = 0 := rfl; omega) (by omega) (by decide)) mlX10_189 (rcvM hK hH hc_h rfl) ⟨⟨Nat.le_of_ble_eq_true rfl, Nat.le_of_ble_eq_true rfl⟩, Nat.le_of_ble_eq_true rfl, Nat.le_of_ble_eq_true rfl⟩ rfl hl.1 rfl (Nat.le_of_ble_eq_true rfl) dX10_reach_15) (fun rq14_ Mq12_ Tq13_ Hq_ lcq_ hP hz hH => ?_)
    try dsimp only at hP
    obtain ⟨(-), eT, eM⟩ := hP
    have eT := eT.symm; subst eT
    have eM := eM.symm; subst eM
    refine lv_goto (tgt := 23) hx hb dX10_reach_18 (by decide) ?_
    exact ret_i hC hr hlk hK hH (⟨trivial, rfl, rfl⟩) (Nat.le_of_ble_eq_true rfl) (Nat.le_of_ble_eq_true rfl) dX10_reach_23
  · skip
    have eT := eT.symm; subst eT
    have er_rq3_ := er_rq3_.symm; subst er_rq3_
    have eM := eM.symm; subst eM
    refine jif_eq (tgt := 21) hx hb dX10_reach_5 (by decide) (fun cq15_ => ?_) (fun cq15_ => absurd cq15_ (by decide))
    refine lv_bipush (v := -2) hx hb dX10_reach_21 (by decide) ?_
    exact ret_i hC hr hlk hK hH (⟨trivial, rfl, rfl⟩) (Nat.le_of_ble_eq_true rfl) (Nat.le_of_ble_eq_true rfl) dX10_reach_23
set_option maxHeartbeats 4000000 in
set_option maxRecDepth 100000 in
theorem c_X10_run {l : Launch} {D : va_G} {kA : Nat → ClassId} {M : mM} {T : mT} {sz : Nat} {h al mt ii pa li : Nat} {ta fpm sm nx tk pl ln wr : Int32} {va : Int64} {f : Nat → Int32} {bi k_ : Int32} (hc_h : M h = some (.inr (8, [.ref al, .ref mt, .ref ii, .int ta, .int fpm, .ref pa, .int sm, .int nx, .int tk, .int pl, .int ln, .long va, .int wr, .ref li]))) (hn_h : T h = none) (hc_al : M al = some (.inl (kA 0, 7506, .inl f))) (hn_al : T al = none) (ht_mt : T mt = some 11) (ht_pa : T pa = some 13) (ht_li : T li = some 14) (hR_f : Rng f) : mCi l yX10_run cX10_run 4 (some .int) 8 0 0 D kA M T sz [.ref h, .int bi, .int k_] (fun r u => ∃ g : Nat → Int32, (Rng g ∧ Ke f g) ∧ (u.1 al = some (.inl (kA 0, 7506, .inl g))) ∧ u.2 = T ∧ (∀ q, FrK T q → q ≠ al → u.1 q = M q)) := by
  unfold mCi
  refine start_W (by decide) (Nat.le_of_ble_eq_true rfl) ?_
  intro p e s m below meth c ls hC hr hlk hnm hK hH hsz hl
  have hx := hC.1
  have hb := hC.2.1
  have hl : lv_has ls 4 [(0, .ref h), (1, .int bi), (2, .int k_)] := hl
  have hF : ∀ q, FrK T q → q ≠ al → M q = M q := fun q _ _ => rfl
  have n_h_al : h ≠ al := neM hc_h hc_al (by simp)
  have n_al_h : al ≠ h := neM hc_al hc_h (by simp)
  have hK_f : Ke f f := Ke.rf
  refine lv_aload_n hx hb dX10_run_0 rfl (lv_at hl 0 rfl) ?_
  refine lv_iload_n hx hb dX10_run_1 rfl (lv_at hl 1 rfl) ?_
  refine goI hK hH (runV (As := [.int bi]) (rest := []) hC hK hH (c_X10_isBill hc_h hn_h hc_al hn_al ht_mt ht_pa ht_li (by exact hR_f)) mlX10_116 (rcvM hK hH hc_h rfl) ⟨⟨Nat.le_of_ble_eq_true rfl, Nat.le_of_ble_eq_true rfl⟩, Nat.le_of_ble_eq_true rfl, Nat.le_of_ble_eq_true rfl⟩ rfl hl.1 rfl (Nat.le_of_ble_eq_true rfl) dX10_run_2) (fun rq3_ Mq1_ Tq2_ Hq_ lcq_ hP hz hH => ?_)
  try dsimp only at hP
  obtain ⟨(⟨cq4_, er_rq3_⟩ | er_rq3_), eT, eM⟩ := hP
  · skip
    have eT := eT.symm; subst eT
    have er_rq3_ := er_rq3_.symm; subst er_rq3_
    have eM := eM.symm; subst eM
    have cq4_ : 0 ≤ bi.toInt ∧ bi.toInt ≤ 3 := cq4_
    refine jif_ne (tgt := 11) hx hb dX10_run_5 (by decide) (fun cq5_ => ?_) (fun cq5_ => absurd cq5_ (by decide))
    refine lv_aload_n hx hb dX10_run_11 rfl (lv_at hl 0 rfl) ?_
    refine lv_iload_n hx hb dX10_run_12 rfl (lv_at hl 1 rfl) ?_
    refine goI hK hH (runV (As := [.int bi]) (rest := []) hC hK hH (c_X10_runs hc_h hn_h hc_al hn_al ht_mt ht_pa ht_li (by exact hR_f) (by omega)) mlX10_198 (rcvM hK hH hc_h rfl) ⟨⟨Nat.le_of_ble_eq_true rfl, Nat.le_of_ble_eq_true rfl⟩, Nat.le_of_ble_eq_true rfl, Nat.le_of_ble_eq_true rfl⟩ rfl hl.1 rfl (Nat.le_of_ble_eq_true rfl) dX10_run_13) (fun rq8_ Mq6_ Tq7_ Hq_ lcq_ hP hz hH => ?_)
    try dsimp only at hP
    obtain ⟨gq9_, h_gq9_, (⟨⟨l_rq8_, g_rq8_⟩, hx_al⟩), eT, hfr⟩ := hP
    have eT := eT.symm; subst eT
    have hc_h : Mq6_ h = some (.inr (8, [.ref al, .ref mt, .ref ii, .int ta, .int fpm, .ref pa, .int sm, .int nx, .int tk, .int pl, .int ln, .long va, .int wr, .ref li])) := (hfr h (Or.inl hn_h) n_h_al).trans hc_h
    have hc_al : Mq6_ al = some (.inl (kA 0, 7506, .inl gq9_)) := hx_al
    have hF : ∀ q, FrK T q → q ≠ al → Mq6_ q = M q := fun q hq h0 => (hfr q hq  h0).trans (hF q hq h0)
    have hR_gq9_ : Rng gq9_ := h_gq9_.1
    have hK_gq9_ : Ke f gq9_ := hK_f.tr h_gq9_.2
    refine lv_istore_n (lv' := [(3, .int rq8_), (0, .ref h), (1, .int bi), (2, .int k_)]) hx hb dX10_run_16 rfl hl (by decide) rfl (fun ls hl => ?_)
    refine lv_iload_n hx hb dX10_run_17 rfl (lv_at hl 3 rfl) ?_
    refine lv_iconst (v := -1) hx hb dX10_run_18 (by decide) ?_
    refine jic_ne (tgt := 26) hx hb dX10_run_19 (by decide) (fun cq10_ => ?_) (fun cq10_ => ?_)
    · skip
      have cq10_ : k_.toInt ≠ (-1) := cq10_
      refine lv_iload_n hx hb dX10_run_26 rfl (lv_at hl 3 rfl) ?_
      refine lv_iconst (v := 0) hx hb dX10_run_27 (by decide) ?_
      refine lv_iload_n hx hb dX10_run_28 rfl (lv_at hl 0 rfl) ?_
      refine lv_iconst (v := 1) hx hb dX10_run_29 (by decide) ?_
      refine lv_isub hx hb dX10_run_30 ?_
      refine lv_topi (fun zq11_ e_zq11_ => ?_)
      have h_zq11_ : zq11_.toInt = rq8_.toInt - 1 := by rw [e_zq11_, iSub (by have := iRg rq8_; have : (1 : Int32).toInt = 1 := rfl; omega) (by have := iRg rq8_; have : (1 : Int32).toInt = 1 := rfl; omega)]; rfl
      refine goI hK hH (runS (As := [.int k_, .int 0, .int zq11_]) (rest := []) hC hK hH (c_X10_isIn) mlX10_33 ⟨⟨Nat.le_of_ble_eq_true rfl, Nat.le_of_ble_eq_true rfl⟩, Nat.le_of_ble_eq_true rfl, Nat.le_of_ble_eq_true rfl⟩ rfl hl.1 rfl (Nat.le_of_ble_eq_true rfl) dX10_run_31) (fun rq14_ Mq12_ Tq13_ Hq_ lcq_ hP hz hH => ?_)
      try dsimp only at hP
      obtain ⟨(⟨cq15_, er_rq14_⟩ | ⟨cq16_, er_rq14_⟩), eT, eM⟩ := hP
      · skip
        have eT := eT.symm; subst eT
        have er_rq14_ := er_rq14_.symm; subst er_rq14_
        have eM := eM.symm; subst eM
        have cq15_ : (0 : Int) ≤ k_.toInt ∧ k_.toInt ≤ zq11_.toInt := cq15_
        refine jif_eq (tgt := 46) hx hb dX10_run_34 (by decide) (fun cq17_ => absurd cq17_ (by decide)) (fun cq17_ => ?_)
        refine lv_aload_n hx hb dX10_run_37 rfl (lv_at hl 1 rfl) ?_
        refine xg hC hK hH flX10_24 hc_h rfl dX10_run_38 ?_
        refine lv_iload_n hx hb dX10_run_41 rfl (lv_at hl 3 rfl) ?_
        refine tild hC hK hH ht_pa rfl (iIn (by omega) (by omega)) dX10_run_42 (fun xq18_ l_xq18_ g_xq18_ => ?_)
        refine lv_goto (tgt := 48) hx hb dX10_run_43 (by decide) ?_
        exact ret_i hC hr hlk hK hH (⟨gq9_, ⟨hR_gq9_, hK_gq9_⟩, hc_al, rfl, hF⟩) (Nat.le_of_ble_eq_true rfl) (Nat.le_of_ble_eq_true rfl) dX10_run_48
      · skip
        have eT := eT.symm; subst eT
        have er_rq14_ := er_rq14_.symm; subst er_rq14_
        have eM := eM.symm; subst eM
        have cq16_ : ¬ ((0 : Int) ≤ k_.toInt ∧ k_.toInt ≤ zq11_.toInt) := cq16_
        refine jif_eq (tgt := 46) hx hb dX10_run_34 (by decide) (fun cq19_ => ?_) (fun cq19_ => absurd cq19_ (by decide))
        refine lv_bipush (v := -2) hx hb dX10_run_46 (by decide) ?_
        exact ret_i hC hr hlk hK hH (⟨gq9_, ⟨hR_gq9_, hK_gq9_⟩, hc_al, rfl, hF⟩) (Nat.le_of_ble_eq_true rfl) (Nat.le_of_ble_eq_true rfl) dX10_run_48
    · skip
      have cq10_ : k_.toInt = (-1) := cq10_
      refine lv_iload_n hx hb dX10_run_22 rfl (lv_at hl 0 rfl) ?_
      refine lv_goto (tgt := 48) hx hb dX10_run_23 (by decide) ?_
      exact ret_i hC hr hlk hK hH (⟨gq9_, ⟨hR_gq9_, hK_gq9_⟩, hc_al, rfl, hF⟩) (Nat.le_of_ble_eq_true rfl) (Nat.le_of_ble_eq_true rfl) dX10_run_48
  · skip
    have eT := eT.symm; subst eT
    have er_rq3_ := er_rq3_.symm; subst er_rq3_
    have eM := eM.symm; subst eM
    refine jif_ne (tgt := 11) hx hb dX10_run_5 (by decide) (fun cq20_ => absurd cq20_ (by decide)) (fun cq20_ => ?_)
    refine lv_bipush (v := -2) hx hb dX10_run_8 (by decide) ?_
    exact ret_i hC hr hlk hK hH (⟨f, ⟨hR_f, hK_f⟩, hc_al, rfl, hF⟩) (Nat.le_of_ble_eq_true rfl) (Nat.le_of_ble_eq_true rfl) dX10_run_10
set_option maxHeartbeats 4000000 in
set_option maxRecDepth 100000 in
theorem c_X10_gains {l : Launch} {D : va_G} {kA : Nat → ClassId} {M : mM} {T : mT} {sz : Nat} {h al mt ii pa li : Nat} {ta fpm sm nx tk pl ln wr : Int32} {va : Int64} {f : Nat → Int32} {bi ps : Int32} (hc_h : M h = some (.inr (8, [.ref al, .ref mt, .ref ii, .int ta, .int fpm, .ref pa, .int sm, .int nx, .int tk, .int pl, .int ln, .long va, .int wr, .ref li]))) (hn_h : T h = none) (hc_al : M al = some (.inl (kA 0, 7506, .inl f))) (hn_al : T al = none) (ht_mt : T mt = some 11) (ht_pa : T pa = some 13) (ht_li : T li = some 14) (hR_f : Rng f) : mCi l yX10_gains cX10_gains 4 (some .int) 8 0 0 D kA M T sz [.ref h, .int bi, .int ps] (fun r u => ∃ g : Nat → Int32, (Rng g ∧ Ke f g) ∧ (u.1 al = some (.inl (kA 0, 7506, .inl g))) ∧ u.2 = T ∧ (∀ q, FrK T q → q ≠ al → u.1 q = M q)) := by
  unfold mCi
  refine start_W (by decide) (Nat.le_of_ble_eq_true rfl) ?_
  intro p e s m below meth c ls hC hr hlk hnm hK hH hsz hl
  have hx := hC.1
  have hb := hC.2.1
  have hl : lv_has ls 4 [(0, .ref h), (1, .int bi), (2, .int ps)] := hl
  have hF : ∀ q, FrK T q → q ≠ al → M q = M q := fun q _ _ => rfl
  have n_h_al : h ≠ al := neM hc_h hc_al (by simp)
  have n_al_h : al ≠ h := neM hc_al hc_h (by simp)
  have hK_f : Ke f f := Ke.rf
  refine lv_aload_n hx hb dX10_gains_0 rfl (lv_at hl 0 rfl) ?_
  refine lv_iload_n hx hb dX10_gains_1 rfl (lv_at hl 1 rfl) ?_
  refine goI hK hH (runV (As := [.int bi]) (rest := []) hC hK hH (c_X10_isBill hc_h hn_h hc_al hn_al ht_mt ht_pa ht_li (by exact hR_f)) mlX10_116 (rcvM hK hH hc_h rfl) ⟨⟨Nat.le_of_ble_eq_true rfl, Nat.le_of_ble_eq_true rfl⟩, Nat.le_of_ble_eq_true rfl, Nat.le_of_ble_eq_true rfl⟩ rfl hl.1 rfl (Nat.le_of_ble_eq_true rfl) dX10_gains_2) (fun rq3_ Mq1_ Tq2_ Hq_ lcq_ hP hz hH => ?_)
  try dsimp only at hP
  obtain ⟨(⟨cq4_, er_rq3_⟩ | er_rq3_), eT, eM⟩ := hP
  · skip
    have eT := eT.symm; subst eT
    have er_rq3_ := er_rq3_.symm; subst er_rq3_
    have eM := eM.symm; subst eM
    have cq4_ : 0 ≤ bi.toInt ∧ bi.toInt ≤ 3 := cq4_
    refine jif_eq (tgt := 15) hx hb dX10_gains_5 (by decide) (fun cq5_ => absurd cq5_ (by decide)) (fun cq5_ => ?_)
    refine lv_iload_n hx hb dX10_gains_8 rfl (lv_at hl 2 rfl) ?_
    refine goI hK hH (runS (As := [.int ps]) (rest := []) hC hK hH (c_X10_isPerson) mlX10_100 ⟨⟨Nat.le_of_ble_eq_true rfl, Nat.le_of_ble_eq_true rfl⟩, Nat.le_of_ble_eq_true rfl, Nat.le_of_ble_eq_true rfl⟩ rfl hl.1 rfl (Nat.le_of_ble_eq_true rfl) dX10_gains_9) (fun rq8_ Mq6_ Tq7_ Hq_ lcq_ hP hz hH => ?_)
    try dsimp only at hP
    obtain ⟨(⟨cq9_, er_rq8_⟩ | ⟨cq10_, er_rq8_⟩), eT, eM⟩ := hP
    · skip
      have eT := eT.symm; subst eT
      have er_rq8_ := er_rq8_.symm; subst er_rq8_
      have eM := eM.symm; subst eM
      have cq9_ : 0 ≤ ps.toInt ∧ ps.toInt ≤ 7 := cq9_
      refine jif_ne (tgt := 17) hx hb dX10_gains_12 (by decide) (fun cq11_ => ?_) (fun cq11_ => absurd cq11_ (by decide))
      refine lv_aload_n hx hb dX10_gains_17 rfl (lv_at hl 0 rfl) ?_
      refine lv_iload_n hx hb dX10_gains_18 rfl (lv_at hl 1 rfl) ?_
      refine goI hK hH (runV (As := [.int bi]) (rest := []) hC hK hH (c_X10_runs hc_h hn_h hc_al hn_al ht_mt ht_pa ht_li (by exact hR_f) (by omega)) mlX10_198 (rcvM hK hH hc_h rfl) ⟨⟨Nat.le_of_ble_eq_true rfl, Nat.le_of_ble_eq_true rfl⟩, Nat.le_of_ble_eq_true rfl, Nat.le_of_ble_eq_true rfl⟩ rfl hl.1 rfl (Nat.le_of_ble_eq_true rfl) dX10_gains_19) (fun rq14_ Mq12_ Tq13_ Hq_ lcq_ hP hz hH => ?_)
      try dsimp only at hP
      obtain ⟨gq15_, h_gq15_, (⟨⟨l_rq14_, g_rq14_⟩, hx_al⟩), eT, hfr⟩ := hP
      have eT := eT.symm; subst eT
      have hc_h : Mq12_ h = some (.inr (8, [.ref al, .ref mt, .ref ii, .int ta, .int fpm, .ref pa, .int sm, .int nx, .int tk, .int pl, .int ln, .long va, .int wr, .ref li])) := (hfr h (Or.inl hn_h) n_h_al).trans hc_h
      have hc_al : Mq12_ al = some (.inl (kA 0, 7506, .inl gq15_)) := hx_al
      have hF : ∀ q, FrK T q → q ≠ al → Mq12_ q = M q := fun q hq h0 => (hfr q hq  h0).trans (hF q hq h0)
      have hR_gq15_ : Rng gq15_ := h_gq15_.1
      have hK_gq15_ : Ke f gq15_ := hK_f.tr h_gq15_.2
      refine lv_istore_n (lv' := [(3, .int rq14_), (0, .ref h), (1, .int bi), (2, .int ps)]) hx hb dX10_gains_22 rfl hl (by decide) rfl (fun ls hl => ?_)
      refine lv_aload_n hx hb dX10_gains_23 rfl (lv_at hl 1 rfl) ?_
      refine xg hC hK hH flX10_7 hc_h rfl dX10_gains_24 ?_
      refine lv_sipush (v := 1146) hx hb dX10_gains_27 (by decide) ?_
      refine lv_iload_n hx hb dX10_gains_30 rfl (lv_at hl 3 rfl) ?_
      refine lv_iadd hx hb dX10_gains_31 ?_
      refine lv_topi (fun zq16_ e_zq16_ => ?_)
      have h_zq16_ : zq16_.toInt = 1146 + ps.toInt := by rw [e_zq16_, iAdd (by have : (1146 : Int32).toInt = 1146 := rfl; have := iRg ps; omega) (by have : (1146 : Int32).toInt = 1146 := rfl; have := iRg ps; omega)]; rfl
      refine xild hC hK hH hc_al (iIn (by omega) (by omega)) dX10_gains_32 ?_
      refine lv_topi (fun xq17_ e_xq17_ => ?_)
      refine lv_aload_n hx hb dX10_gains_33 rfl (lv_at hl 1 rfl) ?_
      refine xg hC hK hH flX10_7 hc_h rfl dX10_gains_34 ?_
      refine lv_bipush (v := 6) hx hb dX10_gains_37 (by decide) ?_
      refine lv_iload_n hx hb dX10_gains_39 rfl (lv_at hl 3 rfl) ?_
      refine lv_iadd hx hb dX10_gains_40 ?_
      refine lv_topi (fun zq18_ e_zq18_ => ?_)
      have h_zq18_ : zq18_.toInt = 6 + ps.toInt := by rw [e_zq18_, iAdd (by have : (6 : Int32).toInt = 6 := rfl; have := iRg ps; omega) (by have : (6 : Int32).toInt = 6 := rfl; have := iRg ps; omega)]; rfl
      refine xild hC hK hH hc_al (iIn (by omega) (by omega)) dX10_gains_41 ?_
      refine lv_topi (fun xq19_ e_xq19_ => ?_)
      refine lv_isub hx hb dX10_gains_42 ?_
      refine lv_topi (fun zq20_ e_zq20_ => ?_)
      exact ret_i hC hr hlk hK hH (⟨gq15_, ⟨hR_gq15_, hK_gq15_⟩, hc_al, rfl, hF⟩) (Nat.le_of_ble_eq_true rfl) (Nat.le_of_ble_eq_true rfl) dX10_gains_43
    · skip
      have eT := eT.symm; subst eT
      have er_rq8_ := er_rq8_.symm; subst er_rq8_
      have eM := eM.symm; subst eM
      have cq10_ : ¬ (0 ≤ ps.toInt ∧ ps.toInt ≤ 7) := cq10_
      refine jif_ne (tgt := 17) hx hb dX10_gains_12 (by decide) (fun cq21_ => absurd cq21_ (by decide)) (fun cq21_ => ?_)
      refine lv_iconst (v := 0) hx hb dX10_gains_15 (by decide) ?_
      exact ret_i hC hr hlk hK hH (⟨f, ⟨hR_f, hK_f⟩, hc_al, rfl, hF⟩) (Nat.le_of_ble_eq_true rfl) (Nat.le_of_ble_eq_true rfl) dX10_gains_16
  · skip
    have eT := eT.symm; subst eT
    have er_rq3_ := er_rq3_.symm; subst er_rq3_
    have eM := eM.symm; subst eM
    refine jif_eq (tgt := 15) hx hb dX10_gains_5 (by decide) (fun cq22_ => ?_) (fun cq22_ => absurd cq22_ (by decide))
    refine lv_iconst (v := 0) hx hb dX10_gains_15 (by decide) ?_
    exact ret_i hC hr hlk hK hH (⟨f, ⟨hR_f, hK_f⟩, hc_al, rfl, hF⟩) (Nat.le_of_ble_eq_true rfl) (Nat.le_of_ble_eq_true rfl) dX10_gains_16
set_option maxHeartbeats 4000000 in
set_option maxRecDepth 100000 in
theorem c_X10_ends {l : Launch} {D : va_G} {kA : Nat → ClassId} {M : mM} {T : mT} {sz : Nat} {h al mt ii pa li : Nat} {ta fpm sm nx tk pl ln wr : Int32} {va : Int64} {f : Nat → Int32} {bi : Int32} (hc_h : M h = some (.inr (8, [.ref al, .ref mt, .ref ii, .int ta, .int fpm, .ref pa, .int sm, .int nx, .int tk, .int pl, .int ln, .long va, .int wr, .ref li]))) (hn_h : T h = none) (hc_al : M al = some (.inl (kA 0, 7506, .inl f))) (hn_al : T al = none) (ht_mt : T mt = some 11) (ht_pa : T pa = some 13) (ht_li : T li = some 14) (hR_f : Rng f) : mCi l yX10_ends cX10_ends 3 (some .int) 8 0 0 D kA M T sz [.ref h, .int bi] (fun r u => ∃ g : Nat → Int32, (Rng g ∧ Ke f g) ∧ (u.1 al = some (.inl (kA 0, 7506, .inl g))) ∧ u.2 = T ∧ (∀ q, FrK T q → q ≠ al → u.1 q = M q)) := by
  unfold mCi
  refine start_W (by decide) (Nat.le_of_ble_eq_true rfl) ?_
  intro p e s m below meth c ls hC hr hlk hnm hK hH hsz hl
  have hx := hC.1
  have hb := hC.2.1
  have hl : lv_has ls 3 [(0, .ref h), (1, .int bi)] := hl
  have hF : ∀ q, FrK T q → q ≠ al → M q = M q := fun q _ _ => rfl
  have n_h_al : h ≠ al := neM hc_h hc_al (by simp)
  have n_al_h : al ≠ h := neM hc_al hc_h (by simp)
  have hK_f : Ke f f := Ke.rf
  refine lv_aload_n hx hb dX10_ends_0 rfl (lv_at hl 0 rfl) ?_
  refine lv_iload_n hx hb dX10_ends_1 rfl (lv_at hl 1 rfl) ?_
  refine goI hK hH (runV (As := [.int bi]) (rest := []) hC hK hH (c_X10_isBill hc_h hn_h hc_al hn_al ht_mt ht_pa ht_li (by exact hR_f)) mlX10_116 (rcvM hK hH hc_h rfl) ⟨⟨Nat.le_of_ble_eq_true rfl, Nat.le_of_ble_eq_true rfl⟩, Nat.le_of_ble_eq_true rfl, Nat.le_of_ble_eq_true rfl⟩ rfl hl.1 rfl (Nat.le_of_ble_eq_true rfl) dX10_ends_2) (fun rq3_ Mq1_ Tq2_ Hq_ lcq_ hP hz hH => ?_)
  try dsimp only at hP
  obtain ⟨(⟨cq4_, er_rq3_⟩ | er_rq3_), eT, eM⟩ := hP
  · skip
    have eT := eT.symm; subst eT
    have er_rq3_ := er_rq3_.symm; subst er_rq3_
    have eM := eM.symm; subst eM
    have cq4_ : 0 ≤ bi.toInt ∧ bi.toInt ≤ 3 := cq4_
    refine jif_ne (tgt := 10) hx hb dX10_ends_5 (by decide) (fun cq5_ => ?_) (fun cq5_ => absurd cq5_ (by decide))
    refine lv_aload_n hx hb dX10_ends_10 rfl (lv_at hl 0 rfl) ?_
    refine lv_iload_n hx hb dX10_ends_11 rfl (lv_at hl 1 rfl) ?_
    refine goI hK hH (runV (As := [.int bi]) (rest := []) hC hK hH (c_X10_runs hc_h hn_h hc_al hn_al ht_mt ht_pa ht_li (by exact hR_f) (by omega)) mlX10_198 (rcvM hK hH hc_h rfl) ⟨⟨Nat.le_of_ble_eq_true rfl, Nat.le_of_ble_eq_true rfl⟩, Nat.le_of_ble_eq_true rfl, Nat.le_of_ble_eq_true rfl⟩ rfl hl.1 rfl (Nat.le_of_ble_eq_true rfl) dX10_ends_12) (fun rq8_ Mq6_ Tq7_ Hq_ lcq_ hP hz hH => ?_)
    try dsimp only at hP
    obtain ⟨gq9_, h_gq9_, (⟨⟨l_rq8_, g_rq8_⟩, hx_al⟩), eT, hfr⟩ := hP
    have eT := eT.symm; subst eT
    have hc_h : Mq6_ h = some (.inr (8, [.ref al, .ref mt, .ref ii, .int ta, .int fpm, .ref pa, .int sm, .int nx, .int tk, .int pl, .int ln, .long va, .int wr, .ref li])) := (hfr h (Or.inl hn_h) n_h_al).trans hc_h
    have hc_al : Mq6_ al = some (.inl (kA 0, 7506, .inl gq9_)) := hx_al
    have hF : ∀ q, FrK T q → q ≠ al → Mq6_ q = M q := fun q hq h0 => (hfr q hq  h0).trans (hF q hq h0)
    have hR_gq9_ : Rng gq9_ := h_gq9_.1
    have hK_gq9_ : Ke f gq9_ := hK_f.tr h_gq9_.2
    refine lv_istore_n (lv' := [(2, .int rq8_), (0, .ref h), (1, .int bi)]) hx hb dX10_ends_15 rfl hl (by decide) rfl (fun ls hl => ?_)
    refine lv_aload_n hx hb dX10_ends_16 rfl (lv_at hl 1 rfl) ?_
    refine xg hC hK hH flX10_7 hc_h rfl dX10_ends_17 ?_
    refine lv_sipush (v := 1140) hx hb dX10_ends_20 (by decide) ?_
    refine lv_iload_n hx hb dX10_ends_23 rfl (lv_at hl 2 rfl) ?_
    obtain ⟨nq10_, hn_nq10_⟩ : ∃ n : Nat, bi.toInt = (n : Int) := ⟨(bi.toInt).toNat, by omega⟩
    refine goI hK hH (runS (As := [.int 1140, .int bi]) (rest := [.ref al]) hC hK hH (c_X10_at (by decide) (by omega)) mlX10_109 ⟨⟨Nat.le_of_ble_eq_true rfl, Nat.le_of_ble_eq_true rfl⟩, Nat.le_of_ble_eq_true rfl, Nat.le_of_ble_eq_true rfl⟩ rfl hl.1 rfl (Nat.le_of_ble_eq_true rfl) dX10_ends_24) (fun rq13_ Mq11_ Tq12_ Hq_ lcq_ hP hz hH => ?_)
    try dsimp only at hP
    obtain ⟨(⟨cq14_, ⟨l_rq13_, g_rq13_⟩⟩), eT, eM⟩ := hP
    have eT := eT.symm; subst eT
    have eM := eM.symm; subst eM
    have cq14_ : rq13_.toInt = (1140 : Int) + 20 + 280 * bi.toInt := cq14_
    obtain ⟨nq15_, hn_nq15_⟩ : ∃ n : Nat, n = 1140 * 1 + 20 + 280 * nq10_ := ⟨_, rfl⟩
    have hx_rq13_ : rq13_.toInt = (nq15_ : Int) := by have : (1140 : Int32).toInt = 1140 := rfl; omega
    refine lv_bipush (v := 7) hx hb dX10_ends_27 (by decide) ?_
    refine lv_iadd hx hb dX10_ends_29 ?_
    refine lv_topi (fun zq16_ e_zq16_ => ?_)
    have h_zq16_ : zq16_.toInt = rq13_.toInt + 7 := by rw [e_zq16_, iAdd (by have := iRg rq13_; have : (7 : Int32).toInt = 7 := rfl; omega) (by have := iRg rq13_; have : (7 : Int32).toInt = 7 := rfl; omega)]; rfl
    refine xild hC hK hH hc_al (iIn (by omega) (by omega)) dX10_ends_30 ?_
    refine lv_topi (fun xq17_ e_xq17_ => ?_)
    have k_xq17_ : xq17_ = gq9_ (nq15_ + 7) := by rw [e_xq17_, clE (n := nq15_ + 7) (by omega)]
    have kt_xq17_ : xq17_.toInt = (gq9_ (nq15_ + 7)).toInt := by rw [k_xq17_]
    have rr_xq17_ : (0 : Int) ≤ (gq9_ (nq15_ + 7)).toInt ∧ (gq9_ (nq15_ + 7)).toInt ≤ 7 := hR_gq9_.rO 7 (t := 1) (b := nq10_) (xn := nq15_) (by omega) (by omega) (by omega) (by decide) rfl
    have l_xq17_ : (0 : Int) ≤ xq17_.toInt := by rw [kt_xq17_, show nq15_ + 7 = nq15_ + 7 from by omega]; exact rr_xq17_.1
    have g_xq17_ : xq17_.toInt ≤ 7 := by rw [kt_xq17_, show nq15_ + 7 = nq15_ + 7 from by omega]; exact rr_xq17_.2
    exact ret_i hC hr hlk hK hH (⟨gq9_, ⟨hR_gq9_, hK_gq9_⟩, hc_al, rfl, hF⟩) (Nat.le_of_ble_eq_true rfl) (Nat.le_of_ble_eq_true rfl) dX10_ends_31
  · skip
    have eT := eT.symm; subst eT
    have er_rq3_ := er_rq3_.symm; subst er_rq3_
    have eM := eM.symm; subst eM
    refine jif_ne (tgt := 10) hx hb dX10_ends_5 (by decide) (fun cq18_ => absurd cq18_ (by decide)) (fun cq18_ => ?_)
    refine lv_iconst (v := -1) hx hb dX10_ends_8 (by decide) ?_
    exact ret_i hC hr hlk hK hH (⟨f, ⟨hR_f, hK_f⟩, hc_al, rfl, hF⟩) (Nat.le_of_ble_eq_true rfl) (Nat.le_of_ble_eq_true rfl) dX10_ends_9
set_option maxHeartbeats 4000000 in
set_option maxRecDepth 100000 in
theorem c_X10_owes {l : Launch} {D : va_G} {kA : Nat → ClassId} {M : mM} {T : mT} {sz : Nat} {h al mt ii pa li : Nat} {ta fpm sm nx tk pl ln wr : Int32} {va : Int64} {f : Nat → Int32} {ps : Int32} (hc_h : M h = some (.inr (8, [.ref al, .ref mt, .ref ii, .int ta, .int fpm, .ref pa, .int sm, .int nx, .int tk, .int pl, .int ln, .long va, .int wr, .ref li]))) (hn_h : T h = none) (hc_al : M al = some (.inl (kA 0, 7506, .inl f))) (hn_al : T al = none) (ht_mt : T mt = some 11) (ht_pa : T pa = some 13) (ht_li : T li = some 14) (hR_f : Rng f) : mCi l yX10_owes cX10_owes 7 (some .int) 5 0 0 D kA M T sz [.ref h, .int ps] (fun r u => (True) ∧ u.2 = T ∧ u.1 = M) := by
  unfold mCi
  refine start_W (by decide) (Nat.le_of_ble_eq_true rfl) ?_
  intro p e s m below meth c ls hC hr hlk hnm hK hH hsz hl
  have hx := hC.1
  have hb := hC.2.1
  have hl : lv_has ls 7 [(0, .ref h), (1, .int ps)] := hl
  have n_h_al : h ≠ al := neM hc_h hc_al (by simp)
  have n_al_h : al ≠ h := neM hc_al hc_h (by simp)
  have hK_f : Ke f f := Ke.rf
  refine lv_iload_n hx hb dX10_owes_0 rfl (lv_at hl 1 rfl) ?_
  refine goI hK hH (runS (As := [.int ps]) (rest := []) hC hK hH (c_X10_isPerson) mlX10_100 ⟨⟨Nat.le_of_ble_eq_true rfl, Nat.le_of_ble_eq_true rfl⟩, Nat.le_of_ble_eq_true rfl, Nat.le_of_ble_eq_true rfl⟩ rfl hl.1 rfl (Nat.le_of_ble_eq_true rfl) dX10_owes_1) (fun rq3_ Mq1_ Tq2_ Hq_ lcq_ hP hz hH => ?_)
  try dsimp only at hP
  obtain ⟨(⟨cq4_, er_rq3_⟩ | ⟨cq5_, er_rq3_⟩), eT, eM⟩ := hP
  · skip
    have eT := eT.symm; subst eT
    have er_rq3_ := er_rq3_.symm; subst er_rq3_
    have eM := eM.symm; subst eM
    have cq4_ : 0 ≤ ps.toInt ∧ ps.toInt ≤ 7 := cq4_
    refine jif_ne (tgt := 9) hx hb dX10_owes_4 (by decide) (fun cq6_ => ?_) (fun cq6_ => absurd cq6_ (by decide))
    refine lv_iconst (v := 0) hx hb dX10_owes_9 (by decide) ?_
    refine lv_istore_n (lv' := [(2, .int 0), (0, .ref h), (1, .int ps)]) hx hb dX10_owes_10 rfl hl (by decide) rfl (fun ls hl => ?_)
    refine lv_iconst (v := 0) hx hb dX10_owes_11 (by decide) ?_
    refine lv_istore_n (lv' := [(3, .int 0), (2, .int 0), (0, .ref h), (1, .int ps)]) hx hb dX10_owes_12 rfl hl (by decide) rfl (fun ls hl => ?_)
    have loop : ∀ (n : Nat) (yq7_ : Int32) (yq8_ : Int32) (Hq_ : Heap) (lcq_ : List Loc) (ls : Array Slot), 5 - yq8_.toInt ≤ (n : Int) → (0 : Int) ≤ yq8_.toInt → yq8_.toInt ≤ 4 → M h = some (.inr (8, [.ref al, .ref mt, .ref ii, .int ta, .int fpm, .ref pa, .int sm, .int nx, .int tk, .int pl, .int ln, .long va, .int wr, .ref li])) → M al = some (.inl (kA 0, 7506, .inl f)) → mS D kA M T (mA M T sz) s.heap Hq_ lcq_ → lv_has ls 7 [(3, .int yq8_), (2, .int yq7_), (0, .ref h), (1, .int ps)] → W p l e (rmL 5 0 0) s m ([.ref h, .int ps] : List Value).toArray below meth c Hq_ lcq_ 0 0 (MQ below (va_Qi (fun r u => (True) ∧ u.2 = T ∧ u.1 = M) (mB D kA M T sz) (mA M T sz)) ([.ref h, .int ps] : List Value).toArray s 0 0 (mA M T sz)) (F0 m 13 ls []) := by
      intro n
      induction n with
      | zero =>
        intro yq7_ yq8_ Hq_ lcq_ ls hme l_yq8_ g_yq8_ hc_h hc_al hH hl
        exfalso; omega
      | succ n ihq21_ =>
        intro yq7_ yq8_ Hq_ lcq_ ls hme l_yq8_ g_yq8_ hc_h hc_al hH hl
        refine lv_iload_n hx hb dX10_owes_13 rfl (lv_at hl 0 rfl) ?_
        refine lv_aload_n hx hb dX10_owes_14 rfl (lv_at hl 2 rfl) ?_
        refine xg hC hK hH flX10_7 hc_h rfl dX10_owes_15 ?_
        refine lv_iconst (v := 1) hx hb dX10_owes_18 (by decide) ?_
        refine xild hC hK hH hc_al (iIn (by decide) (by decide)) dX10_owes_19 ?_
        refine lv_topi (fun xq9_ e_xq9_ => ?_)
        have kt_xq9_ : xq9_.toInt = (f 1).toInt := by rw [e_xq9_]; rfl
        have l_xq9_ : 0 ≤ xq9_.toInt := by rw [kt_xq9_]; exact hR_f.r1.1
        have g_xq9_ : xq9_.toInt ≤ 4 := by rw [kt_xq9_]; exact hR_f.r1.2
        refine jic_ge (tgt := 135) hx hb dX10_owes_20 (by decide) (fun cq10_ => ?_) (fun cq10_ => ?_)
        · skip
          have cq10_ : xq9_.toInt ≤ yq8_.toInt := cq10_
          refine lv_iload_n hx hb dX10_owes_135 rfl (lv_at hl 1 rfl) ?_
          exact ret_i hC hr hlk hK hH (⟨trivial, rfl, rfl⟩) (Nat.le_of_ble_eq_true rfl) (Nat.le_of_ble_eq_true rfl) dX10_owes_136
        · skip
          have cq10_ : yq8_.toInt < xq9_.toInt := cq10_
          refine lv_iconst (v := 0) hx hb dX10_owes_23 (by decide) ?_
          refine lv_iload_n hx hb dX10_owes_24 rfl (lv_at hl 0 rfl) ?_
          obtain ⟨nq11_, hn_nq11_⟩ : ∃ n : Nat, yq8_.toInt = (n : Int) := ⟨(yq8_.toInt).toNat, by omega⟩
          refine goI hK hH (runS (As := [.int 0, .int yq8_]) (rest := []) hC hK hH (c_X10_at (by decide) (by omega)) mlX10_109 ⟨⟨Nat.le_of_ble_eq_true rfl, Nat.le_of_ble_eq_true rfl⟩, Nat.le_of_ble_eq_true rfl, Nat.le_of_ble_eq_true rfl⟩ rfl hl.1 rfl (Nat.le_of_ble_eq_true rfl) dX10_owes_25) (fun rq14_ Mq12_ Tq13_ Hq_ lcq_ hP hz hH => ?_)
          try dsimp only at hP
          obtain ⟨(⟨cq15_, ⟨l_rq14_, g_rq14_⟩⟩), eT, eM⟩ := hP
          have eT := eT.symm; subst eT
          have eM := eM.symm; subst eM
          have cq15_ : rq14_.toInt = (0 : Int) + 20 + 280 * yq8_.toInt := cq15_
          obtain ⟨nq16_, hn_nq16_⟩ : ∃ n : Nat, n = 1140 * 0 + 20 + 280 * nq11_ := ⟨_, rfl⟩
          have hx_rq14_ : rq14_.toInt = (nq16_ : Int) := by have : (0 : Int32).toInt = 0 := rfl; omega
          refine lv_istore (lv' := [(4, .int rq14_), (3, .int yq8_), (2, .int yq7_), (0, .ref h), (1, .int ps)]) hx hb dX10_owes_28 hl (by decide) rfl (fun ls hl => ?_)
          refine lv_iconst (v := 0) hx hb dX10_owes_30 (by decide) ?_
          refine lv_istore (lv' := [(5, .int 0), (4, .int rq14_), (3, .int yq8_), (2, .int yq7_), (0, .ref h), (1, .int ps)]) hx hb dX10_owes_31 hl (by decide) rfl (fun ls hl => ?_)
          refine lv_iconst (v := 0) hx hb dX10_owes_33 (by decide) ?_
          refine lv_istore (lv' := [(6, .int 0), (5, .int 0), (4, .int rq14_), (3, .int yq8_), (2, .int yq7_), (0, .ref h), (1, .int ps)]) hx hb dX10_owes_34 hl (by decide) rfl (fun ls hl => ?_)
          have loop : ∀ (n : Nat) (yq17_ : Int32) (yq18_ : Int32) (Hq_ : Heap) (lcq_ : List Loc) (ls : Array Slot), 15 - yq18_.toInt ≤ (n : Int) → (0 : Int) ≤ yq17_.toInt → yq17_.toInt ≤ 1 → (0 : Int) ≤ yq18_.toInt → yq18_.toInt ≤ 14 → M h = some (.inr (8, [.ref al, .ref mt, .ref ii, .int ta, .int fpm, .ref pa, .int sm, .int nx, .int tk, .int pl, .int ln, .long va, .int wr, .ref li])) → M al = some (.inl (kA 0, 7506, .inl f)) → mS D kA M T (mA M T sz) s.heap Hq_ lcq_ → lv_has ls 7 [(6, .int yq18_), (5, .int yq17_), (4, .int rq14_), (3, .int yq8_), (2, .int yq7_), (0, .ref h), (1, .int ps)] → W p l e (rmL 5 0 0) s m ([.ref h, .int ps] : List Value).toArray below meth c Hq_ lcq_ 0 0 (MQ below (va_Qi (fun r u => (True) ∧ u.2 = T ∧ u.1 = M) (mB D kA M T sz) (mA M T sz)) ([.ref h, .int ps] : List Value).toArray s 0 0 (mA M T sz)) (F0 m 36 ls []) := by
            intro n
            induction n with
            | zero =>
              intro yq17_ yq18_ Hq_ lcq_ ls hme l_yq17_ g_yq17_ l_yq18_ g_yq18_ hc_h hc_al hH hl
              exfalso; omega
            | succ n ihq22_ =>
              intro yq17_ yq18_ Hq_ lcq_ ls hme l_yq17_ g_yq17_ l_yq18_ g_yq18_ hc_h hc_al hH hl
              refine lv_iload hx hb dX10_owes_36 (lv_at hl 0 rfl) ?_
              refine lv_iconst (v := 1) hx hb dX10_owes_38 (by decide) ?_
              refine lv_aload_n hx hb dX10_owes_39 rfl (lv_at hl 5 rfl) ?_
              refine xg hC hK hH flX10_7 hc_h rfl dX10_owes_40 ?_
              refine lv_iload hx hb dX10_owes_43 (lv_at hl 2 rfl) ?_
              refine lv_bipush (v := 8) hx hb dX10_owes_45 (by decide) ?_
              refine lv_iadd hx hb dX10_owes_47 ?_
              refine lv_topi (fun zq19_ e_zq19_ => ?_)
              have h_zq19_ : zq19_.toInt = rq14_.toInt + 8 := by rw [e_zq19_, iAdd (by have := iRg rq14_; have : (8 : Int32).toInt = 8 := rfl; omega) (by have := iRg rq14_; have : (8 : Int32).toInt = 8 := rfl; omega)]; rfl
              refine xild hC hK hH hc_al (iIn (by omega) (by omega)) dX10_owes_48 ?_
              refine lv_topi (fun xq20_ e_xq20_ => ?_)
              have k_xq20_ : xq20_ = f (nq16_ + 8) := by rw [e_xq20_, clE (n := nq16_ + 8) (by omega)]
              have kt_xq20_ : xq20_.toInt = (f (nq16_ + 8)).toInt := by rw [k_xq20_]
              have rr_xq20_ : (0 : Int) ≤ (f (nq16_ + 8)).toInt ∧ (f (nq16_ + 8)).toInt ≤ 12 := hR_f.rO 8 (t := 0) (b := nq11_) (xn := nq16_) (by omega) (by omega) (by omega) (by decide) rfl
              have l_xq20_ : (0 : Int) ≤ xq20_.toInt := by rw [kt_xq20_, show nq16_ + 8 = nq16_ + 8 from by omega]; exact rr_xq20_.1
              have g_xq20_ : xq20_.toInt ≤ 12 := by rw [kt_xq20_, show nq16_ + 8 = nq16_ + 8 from by omega]; exact rr_xq20_.2
              refine lv_iadd hx hb dX10_owes_49 ?_
              refine lv_topi (fun zq21_ e_zq21_ => ?_)
              have h_zq21_ : zq21_.toInt = 1 + xq20_.toInt := by rw [e_zq21_, iAdd (by have : (1 : Int32).toInt = 1 := rfl; have := iRg xq20_; omega) (by have : (1 : Int32).toInt = 1 := rfl; have := iRg xq20_; omega)]; rfl
              refine jic_gt (tgt := 95) hx hb dX10_owes_50 (by decide) (fun cq22_ => ?_) (fun cq22_ => ?_)
              · skip
                have cq22_ : zq21_.toInt < yq18_.toInt := cq22_
                refine lv_iload_n hx hb dX10_owes_95 rfl (lv_at hl 4 rfl) ?_
                refine lv_iload hx hb dX10_owes_96 (lv_at hl 1 rfl) ?_
                refine jif_eq (tgt := 126) hx hb dX10_owes_98 (by decide) (fun cq23_ => ?_) (fun cq23_ => ?_)
                · skip
                  have cq23_ : yq17_.toInt = 0 := cq23_
                  refine lv_iconst (v := 0) hx hb dX10_owes_126 (by decide) ?_
                  refine lv_iadd hx hb dX10_owes_127 ?_
                  refine lv_topi (fun zq24_ e_zq24_ => ?_)
                  have h_zq24_ : zq24_.toInt = yq7_.toInt + 0 := by rw [e_zq24_, iAdd (by have := iRg yq7_; have : (0 : Int32).toInt = 0 := rfl; omega) (by have := iRg yq7_; have : (0 : Int32).toInt = 0 := rfl; omega)]; rfl
                  refine lv_istore_n (lv' := [(2, .int zq24_), (6, .int yq18_), (5, .int yq17_), (4, .int rq14_), (3, .int yq8_), (0, .ref h), (1, .int ps)]) hx hb dX10_owes_128 rfl hl (by decide) rfl (fun ls hl => ?_)
                  obtain ⟨zq25_, e_zq25_⟩ : ∃ y : Int32, y = yq8_ + 1 := ⟨_, rfl⟩
                  refine lv_iinc (v := zq25_) (lv' := [(3, .int zq25_), (2, .int zq24_), (6, .int yq18_), (5, .int yq17_), (4, .int rq14_), (0, .ref h), (1, .int ps)]) hx hb dX10_owes_129 hl (k := 4) rfl (by rw [e_zq25_]; rfl) (by decide) rfl (fun ls hl => ?_)
                  have h_zq25_ : zq25_.toInt = yq8_.toInt + 1 := by rw [e_zq25_, iAdd (by have : (1 : Int32).toInt = 1 := rfl; omega) (by have : (1 : Int32).toInt = 1 := rfl; omega)]; rfl
                  refine lv_goto (tgt := 13) hx hb dX10_owes_132 (by decide) ?_
                  exact ihq21_ zq24_ zq25_ _ _ ls (by have := iRg zq24_; have := iRg zq25_; omega) (by have := iRg zq24_; have := iRg zq25_; omega) (by have := iRg zq24_; have := iRg zq25_; omega) hc_h hc_al hH (lv_sub hl [0, 1, 5, 6] rfl)
                · skip
                  have cq23_ : yq17_.toInt ≠ 0 := cq23_
                  refine lv_aload_n hx hb dX10_owes_101 rfl (lv_at hl 5 rfl) ?_
                  refine xg hC hK hH flX10_7 hc_h rfl dX10_owes_102 ?_
                  refine lv_iload hx hb dX10_owes_105 (lv_at hl 2 rfl) ?_
                  refine lv_bipush (v := 10) hx hb dX10_owes_107 (by decide) ?_
                  refine lv_iadd hx hb dX10_owes_109 ?_
                  refine lv_topi (fun zq26_ e_zq26_ => ?_)
                  have h_zq26_ : zq26_.toInt = rq14_.toInt + 10 := by rw [e_zq26_, iAdd (by have := iRg rq14_; have : (10 : Int32).toInt = 10 := rfl; omega) (by have := iRg rq14_; have : (10 : Int32).toInt = 10 := rfl; omega)]; rfl
                  refine xild hC hK hH hc_al (iIn (by omega) (by omega)) dX10_owes_110 ?_
                  refine lv_topi (fun xq27_ e_xq27_ => ?_)
                  have k_xq27_ : xq27_ = f (nq16_ + 10) := by rw [e_xq27_, clE (n := nq16_ + 10) (by omega)]
                  have kt_xq27_ : xq27_.toInt = (f (nq16_ + 10)).toInt := by rw [k_xq27_]
                  refine jif_ne (tgt := 126) hx hb dX10_owes_111 (by decide) (fun cq28_ => ?_) (fun cq28_ => ?_)
                  · skip
                    have cq28_ : xq27_.toInt ≠ 0 := cq28_
                    refine lv_iconst (v := 0) hx hb dX10_owes_126 (by decide) ?_
                    refine lv_iadd hx hb dX10_owes_127 ?_
                    refine lv_topi (fun zq29_ e_zq29_ => ?_)
                    have h_zq29_ : zq29_.toInt = yq7_.toInt + 0 := by rw [e_zq29_, iAdd (by have := iRg yq7_; have : (0 : Int32).toInt = 0 := rfl; omega) (by have := iRg yq7_; have : (0 : Int32).toInt = 0 := rfl; omega)]; rfl
                    refine lv_istore_n (lv' := [(2, .int zq29_), (6, .int yq18_), (5, .int yq17_), (4, .int rq14_), (3, .int yq8_), (0, .ref h), (1, .int ps)]) hx hb dX10_owes_128 rfl hl (by decide) rfl (fun ls hl => ?_)
                    obtain ⟨zq30_, e_zq30_⟩ : ∃ y : Int32, y = yq8_ + 1 := ⟨_, rfl⟩
                    refine lv_iinc (v := zq30_) (lv' := [(3, .int zq30_), (2, .int zq29_), (6, .int yq18_), (5, .int yq17_), (4, .int rq14_), (0, .ref h), (1, .int ps)]) hx hb dX10_owes_129 hl (k := 4) rfl (by rw [e_zq30_]; rfl) (by decide) rfl (fun ls hl => ?_)
                    have h_zq30_ : zq30_.toInt = yq8_.toInt + 1 := by rw [e_zq30_, iAdd (by have : (1 : Int32).toInt = 1 := rfl; omega) (by have : (1 : Int32).toInt = 1 := rfl; omega)]; rfl
                    refine lv_goto (tgt := 13) hx hb dX10_owes_132 (by decide) ?_
                    exact ihq21_ zq29_ zq30_ _ _ ls (by have := iRg zq29_; have := iRg zq30_; omega) (by have := iRg zq29_; have := iRg zq30_; omega) (by have := iRg zq29_; have := iRg zq30_; omega) hc_h hc_al hH (lv_sub hl [0, 1, 5, 6] rfl)
                  · skip
                    have cq28_ : xq27_.toInt = 0 := cq28_
                    refine lv_aload_n hx hb dX10_owes_114 rfl (lv_at hl 5 rfl) ?_
                    refine xg hC hK hH flX10_7 hc_h rfl dX10_owes_115 ?_
                    refine lv_iload hx hb dX10_owes_118 (lv_at hl 2 rfl) ?_
                    refine lv_iconst (v := 3) hx hb dX10_owes_120 (by decide) ?_
                    refine lv_iadd hx hb dX10_owes_121 ?_
                    refine lv_topi (fun zq31_ e_zq31_ => ?_)
                    have h_zq31_ : zq31_.toInt = rq14_.toInt + 3 := by rw [e_zq31_, iAdd (by have := iRg rq14_; have : (3 : Int32).toInt = 3 := rfl; omega) (by have := iRg rq14_; have : (3 : Int32).toInt = 3 := rfl; omega)]; rfl
                    refine xild hC hK hH hc_al (iIn (by omega) (by omega)) dX10_owes_122 ?_
                    refine lv_topi (fun xq32_ e_xq32_ => ?_)
                    have k_xq32_ : xq32_ = f (nq16_ + 3) := by rw [e_xq32_, clE (n := nq16_ + 3) (by omega)]
                    have kt_xq32_ : xq32_.toInt = (f (nq16_ + 3)).toInt := by rw [k_xq32_]
                    refine lv_goto (tgt := 127) hx hb dX10_owes_123 (by decide) ?_
                    refine lv_iadd hx hb dX10_owes_127 ?_
                    refine lv_topi (fun zq33_ e_zq33_ => ?_)
                    refine lv_istore_n (lv' := [(2, .int zq33_), (6, .int yq18_), (5, .int yq17_), (4, .int rq14_), (3, .int yq8_), (0, .ref h), (1, .int ps)]) hx hb dX10_owes_128 rfl hl (by decide) rfl (fun ls hl => ?_)
                    obtain ⟨zq34_, e_zq34_⟩ : ∃ y : Int32, y = yq8_ + 1 := ⟨_, rfl⟩
                    refine lv_iinc (v := zq34_) (lv' := [(3, .int zq34_), (2, .int zq33_), (6, .int yq18_), (5, .int yq17_), (4, .int rq14_), (0, .ref h), (1, .int ps)]) hx hb dX10_owes_129 hl (k := 4) rfl (by rw [e_zq34_]; rfl) (by decide) rfl (fun ls hl => ?_)
                    have h_zq34_ : zq34_.toInt = yq8_.toInt + 1 := by rw [e_zq34_, iAdd (by have : (1 : Int32).toInt = 1 := rfl; omega) (by have : (1 : Int32).toInt = 1 := rfl; omega)]; rfl
                    refine lv_goto (tgt := 13) hx hb dX10_owes_132 (by decide) ?_
                    exact ihq21_ zq33_ zq34_ _ _ ls (by have := iRg zq33_; have := iRg zq34_; omega) (by have := iRg zq33_; have := iRg zq34_; omega) (by have := iRg zq33_; have := iRg zq34_; omega) hc_h hc_al hH (lv_sub hl [0, 1, 5, 6] rfl)
              · skip
                have cq22_ : yq18_.toInt ≤ zq21_.toInt := cq22_
                refine lv_iload hx hb dX10_owes_53 (lv_at hl 1 rfl) ?_
                refine jif_ne (tgt := 82) hx hb dX10_owes_55 (by decide) (fun cq35_ => ?_) (fun cq35_ => ?_)
                · skip
                  have cq35_ : yq17_.toInt ≠ 0 := cq35_
                  refine lv_iconst (v := 1) hx hb dX10_owes_82 (by decide) ?_
                  refine lv_goto (tgt := 87) hx hb dX10_owes_83 (by decide) ?_
                  refine lv_istore (lv' := [(5, .int 1), (6, .int yq18_), (4, .int rq14_), (3, .int yq8_), (2, .int yq7_), (0, .ref h), (1, .int ps)]) hx hb dX10_owes_87 hl (by decide) rfl (fun ls hl => ?_)
                  obtain ⟨zq36_, e_zq36_⟩ : ∃ y : Int32, y = yq18_ + 1 := ⟨_, rfl⟩
                  refine lv_iinc (v := zq36_) (lv' := [(6, .int zq36_), (5, .int 1), (4, .int rq14_), (3, .int yq8_), (2, .int yq7_), (0, .ref h), (1, .int ps)]) hx hb dX10_owes_89 hl (k := 1) rfl (by rw [e_zq36_]; rfl) (by decide) rfl (fun ls hl => ?_)
                  have h_zq36_ : zq36_.toInt = yq18_.toInt + 1 := by rw [e_zq36_, iAdd (by have : (1 : Int32).toInt = 1 := rfl; omega) (by have : (1 : Int32).toInt = 1 := rfl; omega)]; rfl
                  refine lv_goto (tgt := 36) hx hb dX10_owes_92 (by decide) ?_
                  exact ihq22_ 1 zq36_ _ _ ls (by have : (1 : Int32).toInt = 1 := rfl; have := iRg zq36_; omega) (by have : (1 : Int32).toInt = 1 := rfl; have := iRg zq36_; omega) (by have : (1 : Int32).toInt = 1 := rfl; have := iRg zq36_; omega) (by have : (1 : Int32).toInt = 1 := rfl; have := iRg zq36_; omega) (by have : (1 : Int32).toInt = 1 := rfl; have := iRg zq36_; omega) hc_h hc_al hH (lv_sub hl [0, 1, 2, 3, 4, 5, 6] rfl)
                · skip
                  have cq35_ : yq17_.toInt = 0 := cq35_
                  refine lv_aload_n hx hb dX10_owes_58 rfl (lv_at hl 5 rfl) ?_
                  refine lv_iload hx hb dX10_owes_59 (lv_at hl 2 rfl) ?_
                  refine lv_iload hx hb dX10_owes_61 (lv_at hl 0 rfl) ?_
                  obtain ⟨nq37_, hn_nq37_⟩ : ∃ n : Nat, yq18_.toInt = (n : Int) := ⟨(yq18_.toInt).toNat, by omega⟩
                  refine goI hK hH (runV (As := [.int rq14_, .int yq18_]) (rest := []) hC hK hH (c_X10_who (xn := nq16_) (t := 0) (b := nq11_) (ptn := nq37_) hc_h hn_h hc_al hn_al ht_mt ht_pa ht_li (by exact hR_f) (by decide) (by omega) (by have : (0 : Int32).toInt = 0 := rfl; omega) (by omega) (by omega) (by omega)) mlX10_41 (rcvM hK hH hc_h rfl) ⟨⟨Nat.le_of_ble_eq_true rfl, Nat.le_of_ble_eq_true rfl⟩, Nat.le_of_ble_eq_true rfl, Nat.le_of_ble_eq_true rfl⟩ rfl hl.1 rfl (Nat.le_of_ble_eq_true rfl) dX10_owes_63) (fun rq40_ Mq38_ Tq39_ Hq_ lcq_ hP hz hH => ?_)
                  try dsimp only at hP
                  obtain ⟨(⟨cq41_, ⟨l_rq40_, g_rq40_⟩⟩), eT, eM⟩ := hP
                  have eT := eT.symm; subst eT
                  have eM := eM.symm; subst eM
                  have cq41_ : rq40_.toInt = whoI f nq16_ nq37_ := cq41_
                  refine lv_iload_n hx hb dX10_owes_66 rfl (lv_at hl 6 rfl) ?_
                  refine jic_ne (tgt := 86) hx hb dX10_owes_67 (by decide) (fun cq42_ => ?_) (fun cq42_ => ?_)
                  · skip
                    have cq42_ : rq40_.toInt ≠ ps.toInt := cq42_
                    refine lv_iconst (v := 0) hx hb dX10_owes_86 (by decide) ?_
                    refine lv_istore (lv' := [(5, .int 0), (6, .int yq18_), (4, .int rq14_), (3, .int yq8_), (2, .int yq7_), (0, .ref h), (1, .int ps)]) hx hb dX10_owes_87 hl (by decide) rfl (fun ls hl => ?_)
                    obtain ⟨zq43_, e_zq43_⟩ : ∃ y : Int32, y = yq18_ + 1 := ⟨_, rfl⟩
                    refine lv_iinc (v := zq43_) (lv' := [(6, .int zq43_), (5, .int 0), (4, .int rq14_), (3, .int yq8_), (2, .int yq7_), (0, .ref h), (1, .int ps)]) hx hb dX10_owes_89 hl (k := 1) rfl (by rw [e_zq43_]; rfl) (by decide) rfl (fun ls hl => ?_)
                    have h_zq43_ : zq43_.toInt = yq18_.toInt + 1 := by rw [e_zq43_, iAdd (by have : (1 : Int32).toInt = 1 := rfl; omega) (by have : (1 : Int32).toInt = 1 := rfl; omega)]; rfl
                    refine lv_goto (tgt := 36) hx hb dX10_owes_92 (by decide) ?_
                    exact ihq22_ 0 zq43_ _ _ ls (by have : (0 : Int32).toInt = 0 := rfl; have := iRg zq43_; omega) (by have : (0 : Int32).toInt = 0 := rfl; have := iRg zq43_; omega) (by have : (0 : Int32).toInt = 0 := rfl; have := iRg zq43_; omega) (by have : (0 : Int32).toInt = 0 := rfl; have := iRg zq43_; omega) (by have : (0 : Int32).toInt = 0 := rfl; have := iRg zq43_; omega) hc_h hc_al hH (lv_sub hl [0, 1, 2, 3, 4, 5, 6] rfl)
                  · skip
                    have cq42_ : rq40_.toInt = ps.toInt := cq42_
                    refine lv_aload_n hx hb dX10_owes_70 rfl (lv_at hl 5 rfl) ?_
                    refine lv_iconst (v := 0) hx hb dX10_owes_71 (by decide) ?_
                    refine lv_iload hx hb dX10_owes_72 (lv_at hl 2 rfl) ?_
                    refine lv_iload hx hb dX10_owes_74 (lv_at hl 0 rfl) ?_
                    refine goI hK hH (runV (As := [.int 0, .int rq14_, .int yq18_]) (rest := []) hC hK hH (c_X10_reason (xn := nq16_) (t := 0) (b := nq11_) (ptn := nq37_) hc_h hn_h hc_al hn_al ht_mt ht_pa ht_li (by exact hR_f) (by decide) (by omega) (by have : (0 : Int32).toInt = 0 := rfl; omega) (by omega) (by decide) (by omega) (by omega)) mlX10_81 (rcvM hK hH hc_h rfl) ⟨⟨Nat.le_of_ble_eq_true rfl, Nat.le_of_ble_eq_true rfl⟩, Nat.le_of_ble_eq_true rfl, Nat.le_of_ble_eq_true rfl⟩ rfl hl.1 rfl (Nat.le_of_ble_eq_true rfl) dX10_owes_76) (fun rq46_ Mq44_ Tq45_ Hq_ lcq_ hP hz hH => ?_)
                    try dsimp only at hP
                    obtain ⟨(⟨cq47_, er_rq46_⟩ | ⟨cq48_, ⟨l_rq46_, g_rq46_⟩⟩), eT, eM⟩ := hP
                    · skip
                      have eT := eT.symm; subst eT
                      have er_rq46_ := er_rq46_.symm; subst er_rq46_
                      have eM := eM.symm; subst eM
                      have cq47_ : Lia f 0 nq16_ nq37_ := cq47_
                      refine jif_ne (tgt := 86) hx hb dX10_owes_79 (by decide) (fun cq49_ => absurd cq49_ (by decide)) (fun cq49_ => ?_)
                      refine lv_iconst (v := 1) hx hb dX10_owes_82 (by decide) ?_
                      refine lv_goto (tgt := 87) hx hb dX10_owes_83 (by decide) ?_
                      refine lv_istore (lv' := [(5, .int 1), (6, .int yq18_), (4, .int rq14_), (3, .int yq8_), (2, .int yq7_), (0, .ref h), (1, .int ps)]) hx hb dX10_owes_87 hl (by decide) rfl (fun ls hl => ?_)
                      obtain ⟨zq50_, e_zq50_⟩ : ∃ y : Int32, y = yq18_ + 1 := ⟨_, rfl⟩
                      refine lv_iinc (v := zq50_) (lv' := [(6, .int zq50_), (5, .int 1), (4, .int rq14_), (3, .int yq8_), (2, .int yq7_), (0, .ref h), (1, .int ps)]) hx hb dX10_owes_89 hl (k := 1) rfl (by rw [e_zq50_]; rfl) (by decide) rfl (fun ls hl => ?_)
                      have h_zq50_ : zq50_.toInt = yq18_.toInt + 1 := by rw [e_zq50_, iAdd (by have : (1 : Int32).toInt = 1 := rfl; omega) (by have : (1 : Int32).toInt = 1 := rfl; omega)]; rfl
                      refine lv_goto (tgt := 36) hx hb dX10_owes_92 (by decide) ?_
                      exact ihq22_ 1 zq50_ _ _ ls (by have : (1 : Int32).toInt = 1 := rfl; have := iRg zq50_; omega) (by have : (1 : Int32).toInt = 1 := rfl; have := iRg zq50_; omega) (by have : (1 : Int32).toInt = 1 := rfl; have := iRg zq50_; omega) (by have : (1 : Int32).toInt = 1 := rfl; have := iRg zq50_; omega) (by have : (1 : Int32).toInt = 1 := rfl; have := iRg zq50_; omega) hc_h hc_al hH (lv_sub hl [0, 1, 2, 3, 4, 5, 6] rfl)
                    · skip
                      have eT := eT.symm; subst eT
                      have eM := eM.symm; subst eM
                      have cq48_ : ¬ Lia f 0 nq16_ nq37_ := cq48_
                      refine jif_ne (tgt := 86) hx hb dX10_owes_79 (by decide) (fun cq51_ => ?_) (fun cq51_ => absurd cq51_ (by have := iRg rq46_; have : (0 : Int32).toInt = 0 := rfl; omega))
                      have cq51_ : rq46_.toInt ≠ 0 := cq51_
                      refine lv_iconst (v := 0) hx hb dX10_owes_86 (by decide) ?_
                      refine lv_istore (lv' := [(5, .int 0), (6, .int yq18_), (4, .int rq14_), (3, .int yq8_), (2, .int yq7_), (0, .ref h), (1, .int ps)]) hx hb dX10_owes_87 hl (by decide) rfl (fun ls hl => ?_)
                      obtain ⟨zq52_, e_zq52_⟩ : ∃ y : Int32, y = yq18_ + 1 := ⟨_, rfl⟩
                      refine lv_iinc (v := zq52_) (lv' := [(6, .int zq52_), (5, .int 0), (4, .int rq14_), (3, .int yq8_), (2, .int yq7_), (0, .ref h), (1, .int ps)]) hx hb dX10_owes_89 hl (k := 1) rfl (by rw [e_zq52_]; rfl) (by decide) rfl (fun ls hl => ?_)
                      have h_zq52_ : zq52_.toInt = yq18_.toInt + 1 := by rw [e_zq52_, iAdd (by have : (1 : Int32).toInt = 1 := rfl; omega) (by have : (1 : Int32).toInt = 1 := rfl; omega)]; rfl
                      refine lv_goto (tgt := 36) hx hb dX10_owes_92 (by decide) ?_
                      exact ihq22_ 0 zq52_ _ _ ls (by have : (0 : Int32).toInt = 0 := rfl; have := iRg zq52_; omega) (by have : (0 : Int32).toInt = 0 := rfl; have := iRg zq52_; omega) (by have : (0 : Int32).toInt = 0 := rfl; have := iRg zq52_; omega) (by have : (0 : Int32).toInt = 0 := rfl; have := iRg zq52_; omega) (by have : (0 : Int32).toInt = 0 := rfl; have := iRg zq52_; omega) hc_h hc_al hH (lv_sub hl [0, 1, 2, 3, 4, 5, 6] rfl)
          exact loop (Int.toNat (15 - 0)) 0 0 _ _ ls (by have : (0 : Int32).toInt = 0 := rfl; have : (0 : Int32).toInt = 0 := rfl; omega) (by have : (0 : Int32).toInt = 0 := rfl; have : (0 : Int32).toInt = 0 := rfl; omega) (by have : (0 : Int32).toInt = 0 := rfl; have : (0 : Int32).toInt = 0 := rfl; omega) (by have : (0 : Int32).toInt = 0 := rfl; have : (0 : Int32).toInt = 0 := rfl; omega) (by have : (0 : Int32).toInt = 0 := rfl; have : (0 : Int32).toInt = 0 := rfl; omega) hc_h hc_al hH hl
    exact loop (Int.toNat (5 - 0)) 0 0 _ _ ls (by have : (0 : Int32).toInt = 0 := rfl; have : (0 : Int32).toInt = 0 := rfl; omega) (by have : (0 : Int32).toInt = 0 := rfl; have : (0 : Int32).toInt = 0 := rfl; omega) (by have : (0 : Int32).toInt = 0 := rfl; have : (0 : Int32).toInt = 0 := rfl; omega) hc_h hc_al hH hl
  · skip
    have eT := eT.symm; subst eT
    have er_rq3_ := er_rq3_.symm; subst er_rq3_
    have eM := eM.symm; subst eM
    have cq5_ : ¬ (0 ≤ ps.toInt ∧ ps.toInt ≤ 7) := cq5_
    refine jif_ne (tgt := 9) hx hb dX10_owes_4 (by decide) (fun cq53_ => absurd cq53_ (by decide)) (fun cq53_ => ?_)
    refine lv_iconst (v := -1) hx hb dX10_owes_7 (by decide) ?_
    exact ret_i hC hr hlk hK hH (⟨trivial, rfl, rfl⟩) (Nat.le_of_ble_eq_true rfl) (Nat.le_of_ble_eq_true rfl) dX10_owes_8
set_option maxHeartbeats 4000000 in
set_option maxRecDepth 100000 in
theorem c_X10_worth {l : Launch} {D : va_G} {kA : Nat → ClassId} {M : mM} {T : mT} {sz : Nat} {h al mt ii pa li : Nat} {ta fpm sm nx tk pl ln wr : Int32} {va : Int64} {f : Nat → Int32} {ps : Int32} (hc_h : M h = some (.inr (8, [.ref al, .ref mt, .ref ii, .int ta, .int fpm, .ref pa, .int sm, .int nx, .int tk, .int pl, .int ln, .long va, .int wr, .ref li]))) (hn_h : T h = none) (hc_al : M al = some (.inl (kA 0, 7506, .inl f))) (hn_al : T al = none) (ht_mt : T mt = some 11) (ht_pa : T pa = some 13) (ht_li : T li = some 14) (hR_f : Rng f) : mCi l yX10_worth cX10_worth 5 (some .int) 6 0 0 D kA M T sz [.ref h, .int ps] (fun r u => (True) ∧ u.2 = T ∧ u.1 = M) := by
  unfold mCi
  refine start_W (by decide) (Nat.le_of_ble_eq_true rfl) ?_
  intro p e s m below meth c ls hC hr hlk hnm hK hH hsz hl
  have hx := hC.1
  have hb := hC.2.1
  have hl : lv_has ls 5 [(0, .ref h), (1, .int ps)] := hl
  have n_h_al : h ≠ al := neM hc_h hc_al (by simp)
  have n_al_h : al ≠ h := neM hc_al hc_h (by simp)
  have hK_f : Ke f f := Ke.rf
  refine lv_iload_n hx hb dX10_worth_0 rfl (lv_at hl 1 rfl) ?_
  refine goI hK hH (runS (As := [.int ps]) (rest := []) hC hK hH (c_X10_isPerson) mlX10_100 ⟨⟨Nat.le_of_ble_eq_true rfl, Nat.le_of_ble_eq_true rfl⟩, Nat.le_of_ble_eq_true rfl, Nat.le_of_ble_eq_true rfl⟩ rfl hl.1 rfl (Nat.le_of_ble_eq_true rfl) dX10_worth_1) (fun rq3_ Mq1_ Tq2_ Hq_ lcq_ hP hz hH => ?_)
  try dsimp only at hP
  obtain ⟨(⟨cq4_, er_rq3_⟩ | ⟨cq5_, er_rq3_⟩), eT, eM⟩ := hP
  · skip
    have eT := eT.symm; subst eT
    have er_rq3_ := er_rq3_.symm; subst er_rq3_
    have eM := eM.symm; subst eM
    have cq4_ : 0 ≤ ps.toInt ∧ ps.toInt ≤ 7 := cq4_
    refine jif_ne (tgt := 9) hx hb dX10_worth_4 (by decide) (fun cq6_ => ?_) (fun cq6_ => absurd cq6_ (by decide))
    refine lv_iconst (v := 0) hx hb dX10_worth_9 (by decide) ?_
    refine lv_istore_n (lv' := [(2, .int 0), (0, .ref h), (1, .int ps)]) hx hb dX10_worth_10 rfl hl (by decide) rfl (fun ls hl => ?_)
    refine lv_iconst (v := 0) hx hb dX10_worth_11 (by decide) ?_
    refine lv_istore_n (lv' := [(3, .int 0), (2, .int 0), (0, .ref h), (1, .int ps)]) hx hb dX10_worth_12 rfl hl (by decide) rfl (fun ls hl => ?_)
    have loop : ∀ (n : Nat) (yq7_ : Int32) (yq8_ : Int32) (Hq_ : Heap) (lcq_ : List Loc) (ls : Array Slot), 5 - yq8_.toInt ≤ (n : Int) → (0 : Int) ≤ yq8_.toInt → yq8_.toInt ≤ 4 → M h = some (.inr (8, [.ref al, .ref mt, .ref ii, .int ta, .int fpm, .ref pa, .int sm, .int nx, .int tk, .int pl, .int ln, .long va, .int wr, .ref li])) → M al = some (.inl (kA 0, 7506, .inl f)) → mS D kA M T (mA M T sz) s.heap Hq_ lcq_ → lv_has ls 5 [(3, .int yq8_), (2, .int yq7_), (0, .ref h), (1, .int ps)] → W p l e (rmL 6 0 0) s m ([.ref h, .int ps] : List Value).toArray below meth c Hq_ lcq_ 0 0 (MQ below (va_Qi (fun r u => (True) ∧ u.2 = T ∧ u.1 = M) (mB D kA M T sz) (mA M T sz)) ([.ref h, .int ps] : List Value).toArray s 0 0 (mA M T sz)) (F0 m 13 ls []) := by
      intro n
      induction n with
      | zero =>
        intro yq7_ yq8_ Hq_ lcq_ ls hme l_yq8_ g_yq8_ hc_h hc_al hH hl
        exfalso; omega
      | succ n ih =>
        intro yq7_ yq8_ Hq_ lcq_ ls hme l_yq8_ g_yq8_ hc_h hc_al hH hl
        refine lv_iload_n hx hb dX10_worth_13 rfl (lv_at hl 0 rfl) ?_
        refine lv_aload_n hx hb dX10_worth_14 rfl (lv_at hl 2 rfl) ?_
        refine xg hC hK hH flX10_7 hc_h rfl dX10_worth_15 ?_
        refine lv_iconst (v := 1) hx hb dX10_worth_18 (by decide) ?_
        refine xild hC hK hH hc_al (iIn (by decide) (by decide)) dX10_worth_19 ?_
        refine lv_topi (fun xq9_ e_xq9_ => ?_)
        have kt_xq9_ : xq9_.toInt = (f 1).toInt := by rw [e_xq9_]; rfl
        have l_xq9_ : 0 ≤ xq9_.toInt := by rw [kt_xq9_]; exact hR_f.r1.1
        have g_xq9_ : xq9_.toInt ≤ 4 := by rw [kt_xq9_]; exact hR_f.r1.2
        refine jic_ge (tgt := 98) hx hb dX10_worth_20 (by decide) (fun cq10_ => ?_) (fun cq10_ => ?_)
        · skip
          have cq10_ : xq9_.toInt ≤ yq8_.toInt := cq10_
          refine lv_iload_n hx hb dX10_worth_98 rfl (lv_at hl 1 rfl) ?_
          exact ret_i hC hr hlk hK hH (⟨trivial, rfl, rfl⟩) (Nat.le_of_ble_eq_true rfl) (Nat.le_of_ble_eq_true rfl) dX10_worth_99
        · skip
          have cq10_ : yq8_.toInt < xq9_.toInt := cq10_
          refine lv_iconst (v := 0) hx hb dX10_worth_23 (by decide) ?_
          refine lv_iload_n hx hb dX10_worth_24 rfl (lv_at hl 0 rfl) ?_
          obtain ⟨nq11_, hn_nq11_⟩ : ∃ n : Nat, yq8_.toInt = (n : Int) := ⟨(yq8_.toInt).toNat, by omega⟩
          refine goI hK hH (runS (As := [.int 0, .int yq8_]) (rest := []) hC hK hH (c_X10_at (by decide) (by omega)) mlX10_109 ⟨⟨Nat.le_of_ble_eq_true rfl, Nat.le_of_ble_eq_true rfl⟩, Nat.le_of_ble_eq_true rfl, Nat.le_of_ble_eq_true rfl⟩ rfl hl.1 rfl (Nat.le_of_ble_eq_true rfl) dX10_worth_25) (fun rq14_ Mq12_ Tq13_ Hq_ lcq_ hP hz hH => ?_)
          try dsimp only at hP
          obtain ⟨(⟨cq15_, ⟨l_rq14_, g_rq14_⟩⟩), eT, eM⟩ := hP
          have eT := eT.symm; subst eT
          have eM := eM.symm; subst eM
          have cq15_ : rq14_.toInt = (0 : Int) + 20 + 280 * yq8_.toInt := cq15_
          obtain ⟨nq16_, hn_nq16_⟩ : ∃ n : Nat, n = 1140 * 0 + 20 + 280 * nq11_ := ⟨_, rfl⟩
          have hx_rq14_ : rq14_.toInt = (nq16_ : Int) := by have : (0 : Int32).toInt = 0 := rfl; omega
          refine lv_istore (lv' := [(4, .int rq14_), (3, .int yq8_), (2, .int yq7_), (0, .ref h), (1, .int ps)]) hx hb dX10_worth_28 hl (by decide) rfl (fun ls hl => ?_)
          refine lv_iload_n hx hb dX10_worth_30 rfl (lv_at hl 2 rfl) ?_
          refine lv_aload_n hx hb dX10_worth_31 rfl (lv_at hl 3 rfl) ?_
          refine xg hC hK hH flX10_7 hc_h rfl dX10_worth_32 ?_
          refine lv_iload hx hb dX10_worth_35 (lv_at hl 0 rfl) ?_
          refine lv_bipush (v := 10) hx hb dX10_worth_37 (by decide) ?_
          refine lv_iadd hx hb dX10_worth_39 ?_
          refine lv_topi (fun zq17_ e_zq17_ => ?_)
          have h_zq17_ : zq17_.toInt = rq14_.toInt + 10 := by rw [e_zq17_, iAdd (by have := iRg rq14_; have : (10 : Int32).toInt = 10 := rfl; omega) (by have := iRg rq14_; have : (10 : Int32).toInt = 10 := rfl; omega)]; rfl
          refine xild hC hK hH hc_al (iIn (by omega) (by omega)) dX10_worth_40 ?_
          refine lv_topi (fun xq18_ e_xq18_ => ?_)
          have k_xq18_ : xq18_ = f (nq16_ + 10) := by rw [e_xq18_, clE (n := nq16_ + 10) (by omega)]
          have kt_xq18_ : xq18_.toInt = (f (nq16_ + 10)).toInt := by rw [k_xq18_]
          refine jif_ne (tgt := 89) hx hb dX10_worth_41 (by decide) (fun cq19_ => ?_) (fun cq19_ => ?_)
          · skip
            have cq19_ : xq18_.toInt ≠ 0 := cq19_
            refine lv_iconst (v := 0) hx hb dX10_worth_89 (by decide) ?_
            refine lv_iadd hx hb dX10_worth_90 ?_
            refine lv_topi (fun zq20_ e_zq20_ => ?_)
            have h_zq20_ : zq20_.toInt = yq7_.toInt + 0 := by rw [e_zq20_, iAdd (by have := iRg yq7_; have : (0 : Int32).toInt = 0 := rfl; omega) (by have := iRg yq7_; have : (0 : Int32).toInt = 0 := rfl; omega)]; rfl
            refine lv_istore_n (lv' := [(2, .int zq20_), (4, .int rq14_), (3, .int yq8_), (0, .ref h), (1, .int ps)]) hx hb dX10_worth_91 rfl hl (by decide) rfl (fun ls hl => ?_)
            obtain ⟨zq21_, e_zq21_⟩ : ∃ y : Int32, y = yq8_ + 1 := ⟨_, rfl⟩
            refine lv_iinc (v := zq21_) (lv' := [(3, .int zq21_), (2, .int zq20_), (4, .int rq14_), (0, .ref h), (1, .int ps)]) hx hb dX10_worth_92 hl (k := 2) rfl (by rw [e_zq21_]; rfl) (by decide) rfl (fun ls hl => ?_)
            have h_zq21_ : zq21_.toInt = yq8_.toInt + 1 := by rw [e_zq21_, iAdd (by have : (1 : Int32).toInt = 1 := rfl; omega) (by have : (1 : Int32).toInt = 1 := rfl; omega)]; rfl
            refine lv_goto (tgt := 13) hx hb dX10_worth_95 (by decide) ?_
            exact ih zq20_ zq21_ _ _ ls (by have := iRg zq20_; have := iRg zq21_; omega) (by have := iRg zq20_; have := iRg zq21_; omega) (by have := iRg zq20_; have := iRg zq21_; omega) hc_h hc_al hH (lv_sub hl [0, 1, 3, 4] rfl)
          · skip
            have cq19_ : xq18_.toInt = 0 := cq19_
            refine lv_aload_n hx hb dX10_worth_44 rfl (lv_at hl 3 rfl) ?_
            refine xg hC hK hH flX10_7 hc_h rfl dX10_worth_45 ?_
            refine lv_iload hx hb dX10_worth_48 (lv_at hl 0 rfl) ?_
            refine lv_bipush (v := 7) hx hb dX10_worth_50 (by decide) ?_
            refine lv_iadd hx hb dX10_worth_52 ?_
            refine lv_topi (fun zq22_ e_zq22_ => ?_)
            have h_zq22_ : zq22_.toInt = rq14_.toInt + 7 := by rw [e_zq22_, iAdd (by have := iRg rq14_; have : (7 : Int32).toInt = 7 := rfl; omega) (by have := iRg rq14_; have : (7 : Int32).toInt = 7 := rfl; omega)]; rfl
            refine xild hC hK hH hc_al (iIn (by omega) (by omega)) dX10_worth_53 ?_
            refine lv_topi (fun xq23_ e_xq23_ => ?_)
            have k_xq23_ : xq23_ = f (nq16_ + 7) := by rw [e_xq23_, clE (n := nq16_ + 7) (by omega)]
            have kt_xq23_ : xq23_.toInt = (f (nq16_ + 7)).toInt := by rw [k_xq23_]
            have rr_xq23_ : (0 : Int) ≤ (f (nq16_ + 7)).toInt ∧ (f (nq16_ + 7)).toInt ≤ 7 := hR_f.rO 7 (t := 0) (b := nq11_) (xn := nq16_) (by omega) (by omega) (by omega) (by decide) rfl
            have l_xq23_ : (0 : Int) ≤ xq23_.toInt := by rw [kt_xq23_, show nq16_ + 7 = nq16_ + 7 from by omega]; exact rr_xq23_.1
            have g_xq23_ : xq23_.toInt ≤ 7 := by rw [kt_xq23_, show nq16_ + 7 = nq16_ + 7 from by omega]; exact rr_xq23_.2
            refine lv_iload_n hx hb dX10_worth_54 rfl (lv_at hl 4 rfl) ?_
            refine jic_ne (tgt := 89) hx hb dX10_worth_55 (by decide) (fun cq24_ => ?_) (fun cq24_ => ?_)
            · skip
              have cq24_ : xq23_.toInt ≠ ps.toInt := cq24_
              refine lv_iconst (v := 0) hx hb dX10_worth_89 (by decide) ?_
              refine lv_iadd hx hb dX10_worth_90 ?_
              refine lv_topi (fun zq25_ e_zq25_ => ?_)
              have h_zq25_ : zq25_.toInt = yq7_.toInt + 0 := by rw [e_zq25_, iAdd (by have := iRg yq7_; have : (0 : Int32).toInt = 0 := rfl; omega) (by have := iRg yq7_; have : (0 : Int32).toInt = 0 := rfl; omega)]; rfl
              refine lv_istore_n (lv' := [(2, .int zq25_), (4, .int rq14_), (3, .int yq8_), (0, .ref h), (1, .int ps)]) hx hb dX10_worth_91 rfl hl (by decide) rfl (fun ls hl => ?_)
              obtain ⟨zq26_, e_zq26_⟩ : ∃ y : Int32, y = yq8_ + 1 := ⟨_, rfl⟩
              refine lv_iinc (v := zq26_) (lv' := [(3, .int zq26_), (2, .int zq25_), (4, .int rq14_), (0, .ref h), (1, .int ps)]) hx hb dX10_worth_92 hl (k := 2) rfl (by rw [e_zq26_]; rfl) (by decide) rfl (fun ls hl => ?_)
              have h_zq26_ : zq26_.toInt = yq8_.toInt + 1 := by rw [e_zq26_, iAdd (by have : (1 : Int32).toInt = 1 := rfl; omega) (by have : (1 : Int32).toInt = 1 := rfl; omega)]; rfl
              refine lv_goto (tgt := 13) hx hb dX10_worth_95 (by decide) ?_
              exact ih zq25_ zq26_ _ _ ls (by have := iRg zq25_; have := iRg zq26_; omega) (by have := iRg zq25_; have := iRg zq26_; omega) (by have := iRg zq25_; have := iRg zq26_; omega) hc_h hc_al hH (lv_sub hl [0, 1, 3, 4] rfl)
            · skip
              have cq24_ : xq23_.toInt = ps.toInt := cq24_
              refine lv_aload_n hx hb dX10_worth_58 rfl (lv_at hl 3 rfl) ?_
              refine lv_iload hx hb dX10_worth_59 (lv_at hl 0 rfl) ?_
              refine goI hK hH (runV (As := [.int rq14_]) (rest := [.int yq7_]) hC hK hH (c_X10_hasTitle (xn := nq16_) (t := 0) (b := nq11_) hc_h hn_h hc_al hn_al ht_mt ht_pa ht_li (by exact hR_f) (by decide) (by omega) (by have : (0 : Int32).toInt = 0 := rfl; omega) (by omega)) mlX10_70 (rcvM hK hH hc_h rfl) ⟨⟨Nat.le_of_ble_eq_true rfl, Nat.le_of_ble_eq_true rfl⟩, Nat.le_of_ble_eq_true rfl, Nat.le_of_ble_eq_true rfl⟩ rfl hl.1 rfl (Nat.le_of_ble_eq_true rfl) dX10_worth_61) (fun rq29_ Mq27_ Tq28_ Hq_ lcq_ hP hz hH => ?_)
              try dsimp only at hP
              obtain ⟨(⟨cq30_, er_rq29_⟩ | ⟨cq31_, er_rq29_⟩), eT, eM⟩ := hP
              · skip
                have eT := eT.symm; subst eT
                have er_rq29_ := er_rq29_.symm; subst er_rq29_
                have eM := eM.symm; subst eM
                have cq30_ : titF f nq16_ := cq30_
                refine jif_eq (tgt := 89) hx hb dX10_worth_64 (by decide) (fun cq32_ => absurd cq32_ (by decide)) (fun cq32_ => ?_)
                refine lv_aload_n hx hb dX10_worth_67 rfl (lv_at hl 3 rfl) ?_
                refine lv_iconst (v := 0) hx hb dX10_worth_68 (by decide) ?_
                refine lv_iload hx hb dX10_worth_69 (lv_at hl 0 rfl) ?_
                refine goI hK hH (runV (As := [.int 0, .int rq14_]) (rest := [.int yq7_]) hC hK hH (c_X10_payer (xn := nq16_) (t := 0) (b := nq11_) hc_h hn_h hc_al hn_al ht_mt ht_pa ht_li (by exact hR_f) (by decide) (by omega) (by have : (0 : Int32).toInt = 0 := rfl; omega) (by omega) (by decide)) mlX10_168 (rcvM hK hH hc_h rfl) ⟨⟨Nat.le_of_ble_eq_true rfl, Nat.le_of_ble_eq_true rfl⟩, Nat.le_of_ble_eq_true rfl, Nat.le_of_ble_eq_true rfl⟩ rfl hl.1 rfl (Nat.le_of_ble_eq_true rfl) dX10_worth_71) (fun rq35_ Mq33_ Tq34_ Hq_ lcq_ hP hz hH => ?_)
                try dsimp only at hP
                obtain ⟨(er_rq35_ | ⟨cq36_, ⟨l_rq35_, g_rq35_⟩⟩), eT, eM⟩ := hP
                · skip
                  have eT := eT.symm; subst eT
                  have er_rq35_ := er_rq35_.symm; subst er_rq35_
                  have eM := eM.symm; subst eM
                  refine jif_lt (tgt := 89) hx hb dX10_worth_74 (by decide) (fun cq37_ => ?_) (fun cq37_ => absurd cq37_ (by decide))
                  refine lv_iconst (v := 0) hx hb dX10_worth_89 (by decide) ?_
                  refine lv_iadd hx hb dX10_worth_90 ?_
                  refine lv_topi (fun zq38_ e_zq38_ => ?_)
                  have h_zq38_ : zq38_.toInt = yq7_.toInt + 0 := by rw [e_zq38_, iAdd (by have := iRg yq7_; have : (0 : Int32).toInt = 0 := rfl; omega) (by have := iRg yq7_; have : (0 : Int32).toInt = 0 := rfl; omega)]; rfl
                  refine lv_istore_n (lv' := [(2, .int zq38_), (4, .int rq14_), (3, .int yq8_), (0, .ref h), (1, .int ps)]) hx hb dX10_worth_91 rfl hl (by decide) rfl (fun ls hl => ?_)
                  obtain ⟨zq39_, e_zq39_⟩ : ∃ y : Int32, y = yq8_ + 1 := ⟨_, rfl⟩
                  refine lv_iinc (v := zq39_) (lv' := [(3, .int zq39_), (2, .int zq38_), (4, .int rq14_), (0, .ref h), (1, .int ps)]) hx hb dX10_worth_92 hl (k := 2) rfl (by rw [e_zq39_]; rfl) (by decide) rfl (fun ls hl => ?_)
                  have h_zq39_ : zq39_.toInt = yq8_.toInt + 1 := by rw [e_zq39_, iAdd (by have : (1 : Int32).toInt = 1 := rfl; omega) (by have : (1 : Int32).toInt = 1 := rfl; omega)]; rfl
                  refine lv_goto (tgt := 13) hx hb dX10_worth_95 (by decide) ?_
                  exact ih zq38_ zq39_ _ _ ls (by have := iRg zq38_; have := iRg zq39_; omega) (by have := iRg zq38_; have := iRg zq39_; omega) (by have := iRg zq38_; have := iRg zq39_; omega) hc_h hc_al hH (lv_sub hl [0, 1, 3, 4] rfl)
                · skip
                  have eT := eT.symm; subst eT
                  have eM := eM.symm; subst eM
                  have cq36_ : 0 ≤ rq35_.toInt ∧ rq35_.toInt ≤ 1 + (f (nq16_ + 8)).toInt ∧ Lia f 0 nq16_ (rq35_.toInt).toNat ∧ CshF f 0 nq16_ (rq35_.toInt).toNat := cq36_
                  refine jif_lt (tgt := 89) hx hb dX10_worth_74 (by decide) (fun cq40_ => absurd cq40_ (by have := iRg rq35_; have : (0 : Int32).toInt = 0 := rfl; omega)) (fun cq40_ => ?_)
                  have cq40_ : 0 ≤ rq35_.toInt := cq40_
                  refine lv_aload_n hx hb dX10_worth_77 rfl (lv_at hl 3 rfl) ?_
                  refine xg hC hK hH flX10_7 hc_h rfl dX10_worth_78 ?_
                  refine lv_iload hx hb dX10_worth_81 (lv_at hl 0 rfl) ?_
                  refine lv_iconst (v := 3) hx hb dX10_worth_83 (by decide) ?_
                  refine lv_iadd hx hb dX10_worth_84 ?_
                  refine lv_topi (fun zq41_ e_zq41_ => ?_)
                  have h_zq41_ : zq41_.toInt = rq14_.toInt + 3 := by rw [e_zq41_, iAdd (by have := iRg rq14_; have : (3 : Int32).toInt = 3 := rfl; omega) (by have := iRg rq14_; have : (3 : Int32).toInt = 3 := rfl; omega)]; rfl
                  refine xild hC hK hH hc_al (iIn (by omega) (by omega)) dX10_worth_85 ?_
                  refine lv_topi (fun xq42_ e_xq42_ => ?_)
                  have k_xq42_ : xq42_ = f (nq16_ + 3) := by rw [e_xq42_, clE (n := nq16_ + 3) (by omega)]
                  have kt_xq42_ : xq42_.toInt = (f (nq16_ + 3)).toInt := by rw [k_xq42_]
                  refine lv_goto (tgt := 90) hx hb dX10_worth_86 (by decide) ?_
                  refine lv_iadd hx hb dX10_worth_90 ?_
                  refine lv_topi (fun zq43_ e_zq43_ => ?_)
                  refine lv_istore_n (lv' := [(2, .int zq43_), (4, .int rq14_), (3, .int yq8_), (0, .ref h), (1, .int ps)]) hx hb dX10_worth_91 rfl hl (by decide) rfl (fun ls hl => ?_)
                  obtain ⟨zq44_, e_zq44_⟩ : ∃ y : Int32, y = yq8_ + 1 := ⟨_, rfl⟩
                  refine lv_iinc (v := zq44_) (lv' := [(3, .int zq44_), (2, .int zq43_), (4, .int rq14_), (0, .ref h), (1, .int ps)]) hx hb dX10_worth_92 hl (k := 2) rfl (by rw [e_zq44_]; rfl) (by decide) rfl (fun ls hl => ?_)
                  have h_zq44_ : zq44_.toInt = yq8_.toInt + 1 := by rw [e_zq44_, iAdd (by have : (1 : Int32).toInt = 1 := rfl; omega) (by have : (1 : Int32).toInt = 1 := rfl; omega)]; rfl
                  refine lv_goto (tgt := 13) hx hb dX10_worth_95 (by decide) ?_
                  exact ih zq43_ zq44_ _ _ ls (by have := iRg zq43_; have := iRg zq44_; omega) (by have := iRg zq43_; have := iRg zq44_; omega) (by have := iRg zq43_; have := iRg zq44_; omega) hc_h hc_al hH (lv_sub hl [0, 1, 3, 4] rfl)
              · skip
                have eT := eT.symm; subst eT
                have er_rq29_ := er_rq29_.symm; subst er_rq29_
                have eM := eM.symm; subst eM
                have cq31_ : ¬ titF f nq16_ := cq31_
                refine jif_eq (tgt := 89) hx hb dX10_worth_64 (by decide) (fun cq45_ => ?_) (fun cq45_ => absurd cq45_ (by decide))
                refine lv_iconst (v := 0) hx hb dX10_worth_89 (by decide) ?_
                refine lv_iadd hx hb dX10_worth_90 ?_
                refine lv_topi (fun zq46_ e_zq46_ => ?_)
                have h_zq46_ : zq46_.toInt = yq7_.toInt + 0 := by rw [e_zq46_, iAdd (by have := iRg yq7_; have : (0 : Int32).toInt = 0 := rfl; omega) (by have := iRg yq7_; have : (0 : Int32).toInt = 0 := rfl; omega)]; rfl
                refine lv_istore_n (lv' := [(2, .int zq46_), (4, .int rq14_), (3, .int yq8_), (0, .ref h), (1, .int ps)]) hx hb dX10_worth_91 rfl hl (by decide) rfl (fun ls hl => ?_)
                obtain ⟨zq47_, e_zq47_⟩ : ∃ y : Int32, y = yq8_ + 1 := ⟨_, rfl⟩
                refine lv_iinc (v := zq47_) (lv' := [(3, .int zq47_), (2, .int zq46_), (4, .int rq14_), (0, .ref h), (1, .int ps)]) hx hb dX10_worth_92 hl (k := 2) rfl (by rw [e_zq47_]; rfl) (by decide) rfl (fun ls hl => ?_)
                have h_zq47_ : zq47_.toInt = yq8_.toInt + 1 := by rw [e_zq47_, iAdd (by have : (1 : Int32).toInt = 1 := rfl; omega) (by have : (1 : Int32).toInt = 1 := rfl; omega)]; rfl
                refine lv_goto (tgt := 13) hx hb dX10_worth_95 (by decide) ?_
                exact ih zq46_ zq47_ _ _ ls (by have := iRg zq46_; have := iRg zq47_; omega) (by have := iRg zq46_; have := iRg zq47_; omega) (by have := iRg zq46_; have := iRg zq47_; omega) hc_h hc_al hH (lv_sub hl [0, 1, 3, 4] rfl)
    exact loop (Int.toNat (5 - 0)) 0 0 _ _ ls (by have : (0 : Int32).toInt = 0 := rfl; have : (0 : Int32).toInt = 0 := rfl; omega) (by have : (0 : Int32).toInt = 0 := rfl; have : (0 : Int32).toInt = 0 := rfl; omega) (by have : (0 : Int32).toInt = 0 := rfl; have : (0 : Int32).toInt = 0 := rfl; omega) hc_h hc_al hH hl
  · skip
    have eT := eT.symm; subst eT
    have er_rq3_ := er_rq3_.symm; subst er_rq3_
    have eM := eM.symm; subst eM
    have cq5_ : ¬ (0 ≤ ps.toInt ∧ ps.toInt ≤ 7) := cq5_
    refine jif_ne (tgt := 9) hx hb dX10_worth_4 (by decide) (fun cq48_ => absurd cq48_ (by decide)) (fun cq48_ => ?_)
    refine lv_iconst (v := -1) hx hb dX10_worth_7 (by decide) ?_
    exact ret_i hC hr hlk hK hH (⟨trivial, rfl, rfl⟩) (Nat.le_of_ble_eq_true rfl) (Nat.le_of_ble_eq_true rfl) dX10_worth_8
set_option maxHeartbeats 4000000 in
set_option maxRecDepth 100000 in
theorem c_X10_until {l : Launch} {D : va_G} {kA : Nat → ClassId} {M : mM} {T : mT} {sz : Nat} {h al mt ii pa li : Nat} {ta fpm sm nx tk pl ln wr : Int32} {va : Int64} {f : Nat → Int32} {bi pt : Int32} (hc_h : M h = some (.inr (8, [.ref al, .ref mt, .ref ii, .int ta, .int fpm, .ref pa, .int sm, .int nx, .int tk, .int pl, .int ln, .long va, .int wr, .ref li]))) (hn_h : T h = none) (hc_al : M al = some (.inl (kA 0, 7506, .inl f))) (hn_al : T al = none) (ht_mt : T mt = some 11) (ht_pa : T pa = some 13) (ht_li : T li = some 14) (hR_f : Rng f) : mCi l yX10_until cX10_until 7 (some .int) 4 0 0 D kA M T sz [.ref h, .int bi, .int pt] (fun r u => (True) ∧ u.2 = T ∧ u.1 = M) := by
  unfold mCi
  refine start_W (by decide) (Nat.le_of_ble_eq_true rfl) ?_
  intro p e s m below meth c ls hC hr hlk hnm hK hH hsz hl
  have hx := hC.1
  have hb := hC.2.1
  have hl : lv_has ls 7 [(0, .ref h), (1, .int bi), (2, .int pt)] := hl
  have n_h_al : h ≠ al := neM hc_h hc_al (by simp)
  have n_al_h : al ≠ h := neM hc_al hc_h (by simp)
  have hK_f : Ke f f := Ke.rf
  refine lv_aload_n hx hb dX10_until_0 rfl (lv_at hl 0 rfl) ?_
  refine lv_iload_n hx hb dX10_until_1 rfl (lv_at hl 1 rfl) ?_
  refine lv_iload_n hx hb dX10_until_2 rfl (lv_at hl 2 rfl) ?_
  refine goI hK hH (runV (As := [.int bi, .int pt]) (rest := []) hC hK hH (c_X10_isSigned hc_h hn_h hc_al hn_al ht_mt ht_pa ht_li (by exact hR_f)) mlX10_143 (rcvM hK hH hc_h rfl) ⟨⟨Nat.le_of_ble_eq_true rfl, Nat.le_of_ble_eq_true rfl⟩, Nat.le_of_ble_eq_true rfl, Nat.le_of_ble_eq_true rfl⟩ rfl hl.1 rfl (Nat.le_of_ble_eq_true rfl) dX10_until_3) (fun rq3_ Mq1_ Tq2_ Hq_ lcq_ hP hz hH => ?_)
  try dsimp only at hP
  obtain ⟨(⟨cq4_, er_rq3_⟩ | er_rq3_), eT, eM⟩ := hP
  · skip
    have eT := eT.symm; subst eT
    have er_rq3_ := er_rq3_.symm; subst er_rq3_
    have eM := eM.symm; subst eM
    have cq4_ : 0 ≤ bi.toInt ∧ bi.toInt ≤ 3 ∧ 0 ≤ pt.toInt ∧ pt.toInt ≤ 13 := cq4_
    refine jif_eq (tgt := 13) hx hb dX10_until_6 (by decide) (fun cq5_ => absurd cq5_ (by decide)) (fun cq5_ => ?_)
    refine lv_iload_n hx hb dX10_until_9 rfl (lv_at hl 2 rfl) ?_
    refine jif_ne (tgt := 15) hx hb dX10_until_10 (by decide) (fun cq6_ => ?_) (fun cq6_ => ?_)
    · skip
      have cq6_ : pt.toInt ≠ 0 := cq6_
      refine lv_iconst (v := 0) hx hb dX10_until_15 (by decide) ?_
      refine lv_iload_n hx hb dX10_until_16 rfl (lv_at hl 1 rfl) ?_
      obtain ⟨nq7_, hn_nq7_⟩ : ∃ n : Nat, bi.toInt = (n : Int) := ⟨(bi.toInt).toNat, by omega⟩
      refine goI hK hH (runS (As := [.int 0, .int bi]) (rest := []) hC hK hH (c_X10_at (by decide) (by omega)) mlX10_109 ⟨⟨Nat.le_of_ble_eq_true rfl, Nat.le_of_ble_eq_true rfl⟩, Nat.le_of_ble_eq_true rfl, Nat.le_of_ble_eq_true rfl⟩ rfl hl.1 rfl (Nat.le_of_ble_eq_true rfl) dX10_until_17) (fun rq10_ Mq8_ Tq9_ Hq_ lcq_ hP hz hH => ?_)
      try dsimp only at hP
      obtain ⟨(⟨cq11_, ⟨l_rq10_, g_rq10_⟩⟩), eT, eM⟩ := hP
      have eT := eT.symm; subst eT
      have eM := eM.symm; subst eM
      have cq11_ : rq10_.toInt = (0 : Int) + 20 + 280 * bi.toInt := cq11_
      obtain ⟨nq12_, hn_nq12_⟩ : ∃ n : Nat, n = 1140 * 0 + 20 + 280 * nq7_ := ⟨_, rfl⟩
      have hx_rq10_ : rq10_.toInt = (nq12_ : Int) := by have : (0 : Int32).toInt = 0 := rfl; omega
      refine lv_istore_n (lv' := [(3, .int rq10_), (0, .ref h), (1, .int bi), (2, .int pt)]) hx hb dX10_until_20 rfl hl (by decide) rfl (fun ls hl => ?_)
      refine lv_aload_n hx hb dX10_until_21 rfl (lv_at hl 1 rfl) ?_
      refine xg hC hK hH flX10_7 hc_h rfl dX10_until_22 ?_
      refine lv_iload_n hx hb dX10_until_25 rfl (lv_at hl 0 rfl) ?_
      refine lv_bipush (v := 9) hx hb dX10_until_26 (by decide) ?_
      refine lv_iadd hx hb dX10_until_28 ?_
      refine lv_topi (fun zq13_ e_zq13_ => ?_)
      have h_zq13_ : zq13_.toInt = rq10_.toInt + 9 := by rw [e_zq13_, iAdd (by have := iRg rq10_; have : (9 : Int32).toInt = 9 := rfl; omega) (by have := iRg rq10_; have : (9 : Int32).toInt = 9 := rfl; omega)]; rfl
      refine xild hC hK hH hc_al (iIn (by omega) (by omega)) dX10_until_29 ?_
      refine lv_topi (fun xq14_ e_xq14_ => ?_)
      have k_xq14_ : xq14_ = f (nq12_ + 9) := by rw [e_xq14_, clE (n := nq12_ + 9) (by omega)]
      have kt_xq14_ : xq14_.toInt = (f (nq12_ + 9)).toInt := by rw [k_xq14_]
      refine lv_iconst (v := -1) hx hb dX10_until_30 (by decide) ?_
      refine jic_eq (tgt := 50) hx hb dX10_until_31 (by decide) (fun cq15_ => ?_) (fun cq15_ => ?_)
      · skip
        have cq15_ : xq14_.toInt = (-1) := cq15_
        refine lv_iconst (v := -1) hx hb dX10_until_50 (by decide) ?_
        exact ret_i hC hr hlk hK hH (⟨trivial, rfl, rfl⟩) (Nat.le_of_ble_eq_true rfl) (Nat.le_of_ble_eq_true rfl) dX10_until_51
      · skip
        have cq15_ : xq14_.toInt ≠ (-1) := cq15_
        refine lv_aload_n hx hb dX10_until_34 rfl (lv_at hl 1 rfl) ?_
        refine xg hC hK hH flX10_7 hc_h rfl dX10_until_35 ?_
        refine lv_iload_n hx hb dX10_until_38 rfl (lv_at hl 0 rfl) ?_
        refine lv_iload_n hx hb dX10_until_39 rfl (lv_at hl 3 rfl) ?_
        obtain ⟨nq16_, hn_nq16_⟩ : ∃ n : Nat, pt.toInt = (n : Int) := ⟨(pt.toInt).toNat, by omega⟩
        refine goI hK hH (runS (As := [.int rq10_, .int pt]) (rest := [.ref al]) hC hK hH (c_X10_partyAt (by omega) (by omega)) mlX10_56 ⟨⟨Nat.le_of_ble_eq_true rfl, Nat.le_of_ble_eq_true rfl⟩, Nat.le_of_ble_eq_true rfl, Nat.le_of_ble_eq_true rfl⟩ rfl hl.1 rfl (Nat.le_of_ble_eq_true rfl) dX10_until_40) (fun rq19_ Mq17_ Tq18_ Hq_ lcq_ hP hz hH => ?_)
        try dsimp only at hP
        obtain ⟨(⟨cq20_, ⟨l_rq19_, g_rq19_⟩⟩), eT, eM⟩ := hP
        have eT := eT.symm; subst eT
        have eM := eM.symm; subst eM
        have cq20_ : rq19_.toInt = rq10_.toInt + 184 + 6 * pt.toInt := cq20_
        have hx_rq19_ : rq19_.toInt = ((nq12_ + 184 + 6 * nq16_ : Nat) : Int) := by omega
        refine lv_iconst (v := 0) hx hb dX10_until_43 (by decide) ?_
        refine lv_iadd hx hb dX10_until_44 ?_
        refine lv_topi (fun zq21_ e_zq21_ => ?_)
        have h_zq21_ : zq21_.toInt = rq19_.toInt + 0 := by rw [e_zq21_, iAdd (by have := iRg rq19_; have : (0 : Int32).toInt = 0 := rfl; omega) (by have := iRg rq19_; have : (0 : Int32).toInt = 0 := rfl; omega)]; rfl
        refine xild hC hK hH hc_al (iIn (by omega) (by omega)) dX10_until_45 ?_
        refine lv_topi (fun xq22_ e_xq22_ => ?_)
        have k_xq22_ : xq22_ = f (nq12_ + 184 + 6 * nq16_) := by rw [e_xq22_, clE (n := nq12_ + 184 + 6 * nq16_) (by omega)]
        have kt_xq22_ : xq22_.toInt = (f (nq12_ + 184 + 6 * nq16_)).toInt := by rw [k_xq22_]
        refine lv_iconst (v := -1) hx hb dX10_until_46 (by decide) ?_
        refine jic_eq (tgt := 52) hx hb dX10_until_47 (by decide) (fun cq23_ => ?_) (fun cq23_ => ?_)
        · skip
          have cq23_ : xq22_.toInt = (-1) := cq23_
          refine lv_aload_n hx hb dX10_until_52 rfl (lv_at hl 1 rfl) ?_
          refine lv_iload_n hx hb dX10_until_53 rfl (lv_at hl 0 rfl) ?_
          refine goI hK hH (runV (As := [.int rq10_]) (rest := []) hC hK hH (c_X10_hasTitle (xn := nq12_) (t := 0) (b := nq7_) hc_h hn_h hc_al hn_al ht_mt ht_pa ht_li (by exact hR_f) (by decide) (by omega) (by have : (0 : Int32).toInt = 0 := rfl; omega) (by omega)) mlX10_70 (rcvM hK hH hc_h rfl) ⟨⟨Nat.le_of_ble_eq_true rfl, Nat.le_of_ble_eq_true rfl⟩, Nat.le_of_ble_eq_true rfl, Nat.le_of_ble_eq_true rfl⟩ rfl hl.1 rfl (Nat.le_of_ble_eq_true rfl) dX10_until_54) (fun rq26_ Mq24_ Tq25_ Hq_ lcq_ hP hz hH => ?_)
          try dsimp only at hP
          obtain ⟨(⟨cq27_, er_rq26_⟩ | ⟨cq28_, er_rq26_⟩), eT, eM⟩ := hP
          · skip
            have eT := eT.symm; subst eT
            have er_rq26_ := er_rq26_.symm; subst er_rq26_
            have eM := eM.symm; subst eM
            have cq27_ : titF f nq12_ := cq27_
            refine jif_eq (tgt := 88) hx hb dX10_until_57 (by decide) (fun cq29_ => absurd cq29_ (by decide)) (fun cq29_ => ?_)
            refine lv_iload_n hx hb dX10_until_60 rfl (lv_at hl 3 rfl) ?_
            refine lv_aload_n hx hb dX10_until_61 rfl (lv_at hl 1 rfl) ?_
            refine lv_iload_n hx hb dX10_until_62 rfl (lv_at hl 0 rfl) ?_
            refine goI hK hH (runV (As := [.int rq10_]) (rest := [.int pt]) hC hK hH (c_X10_rank (xn := nq12_) (t := 0) (b := nq7_) hc_h hn_h hc_al hn_al ht_mt ht_pa ht_li (by exact hR_f) (by decide) (by omega) (by have : (0 : Int32).toInt = 0 := rfl; omega) (by omega)) mlX10_77 (rcvM hK hH hc_h rfl) ⟨⟨Nat.le_of_ble_eq_true rfl, Nat.le_of_ble_eq_true rfl⟩, Nat.le_of_ble_eq_true rfl, Nat.le_of_ble_eq_true rfl⟩ rfl hl.1 rfl (Nat.le_of_ble_eq_true rfl) dX10_until_63) (fun rq32_ Mq30_ Tq31_ Hq_ lcq_ hP hz hH => ?_)
            try dsimp only at hP
            obtain ⟨(⟨cq33_, ⟨l_rq32_, g_rq32_⟩⟩), eT, eM⟩ := hP
            have eT := eT.symm; subst eT
            have eM := eM.symm; subst eM
            have cq33_ : rq32_.toInt = (rankF f nq12_ : Int) := cq33_
            refine jic_ge (tgt := 88) hx hb dX10_until_66 (by decide) (fun cq34_ => ?_) (fun cq34_ => ?_)
            · skip
              have cq34_ : rq32_.toInt ≤ pt.toInt := cq34_
              refine lv_iconst (v := -1) hx hb dX10_until_88 (by decide) ?_
              refine lv_istore (lv' := [(4, .int (-1)), (3, .int rq10_), (0, .ref h), (1, .int bi), (2, .int pt)]) hx hb dX10_until_89 hl (by decide) rfl (fun ls hl => ?_)
              refine lv_iload_n hx hb dX10_until_91 rfl (lv_at hl 4 rfl) ?_
              refine lv_iconst (v := 1) hx hb dX10_until_92 (by decide) ?_
              refine lv_iadd hx hb dX10_until_93 ?_
              refine lv_topi (fun zq35_ e_zq35_ => ?_)
              have h_zq35_ : zq35_.toInt = pt.toInt + 1 := by rw [e_zq35_, iAdd (by have := iRg pt; have : (1 : Int32).toInt = 1 := rfl; omega) (by have := iRg pt; have : (1 : Int32).toInt = 1 := rfl; omega)]; rfl
              refine lv_istore (lv' := [(5, .int zq35_), (4, .int (-1)), (3, .int rq10_), (0, .ref h), (1, .int bi), (2, .int pt)]) hx hb dX10_until_94 hl (by decide) rfl (fun ls hl => ?_)
              have loop : ∀ (n : Nat) (yq36_ : Int32) (yq37_ : Int32) (Hq_ : Heap) (lcq_ : List Loc) (ls : Array Slot), 15 - yq37_.toInt ≤ (n : Int) → (1 : Int) ≤ yq37_.toInt → yq37_.toInt ≤ 14 → M h = some (.inr (8, [.ref al, .ref mt, .ref ii, .int ta, .int fpm, .ref pa, .int sm, .int nx, .int tk, .int pl, .int ln, .long va, .int wr, .ref li])) → M al = some (.inl (kA 0, 7506, .inl f)) → mS D kA M T (mA M T sz) s.heap Hq_ lcq_ → lv_has ls 7 [(5, .int yq37_), (4, .int yq36_), (3, .int rq10_), (0, .ref h), (1, .int bi), (2, .int pt)] → W p l e (rmL 4 0 0) s m ([.ref h, .int bi, .int pt] : List Value).toArray below meth c Hq_ lcq_ 0 0 (MQ below (va_Qi (fun r u => (True) ∧ u.2 = T ∧ u.1 = M) (mB D kA M T sz) (mA M T sz)) ([.ref h, .int bi, .int pt] : List Value).toArray s 0 0 (mA M T sz)) (F0 m 96 ls []) := by
                intro n
                induction n with
                | zero =>
                  intro yq36_ yq37_ Hq_ lcq_ ls hme l_yq37_ g_yq37_ hc_h hc_al hH hl
                  exfalso; omega
                | succ n ih =>
                  intro yq36_ yq37_ Hq_ lcq_ ls hme l_yq37_ g_yq37_ hc_h hc_al hH hl
                  refine lv_iload hx hb dX10_until_96 (lv_at hl 0 rfl) ?_
                  refine lv_iconst (v := 1) hx hb dX10_until_98 (by decide) ?_
                  refine lv_aload_n hx hb dX10_until_99 rfl (lv_at hl 3 rfl) ?_
                  refine xg hC hK hH flX10_7 hc_h rfl dX10_until_100 ?_
                  refine lv_iload_n hx hb dX10_until_103 rfl (lv_at hl 2 rfl) ?_
                  refine lv_bipush (v := 8) hx hb dX10_until_104 (by decide) ?_
                  refine lv_iadd hx hb dX10_until_106 ?_
                  refine lv_topi (fun zq38_ e_zq38_ => ?_)
                  have h_zq38_ : zq38_.toInt = rq10_.toInt + 8 := by rw [e_zq38_, iAdd (by have := iRg rq10_; have : (8 : Int32).toInt = 8 := rfl; omega) (by have := iRg rq10_; have : (8 : Int32).toInt = 8 := rfl; omega)]; rfl
                  refine xild hC hK hH hc_al (iIn (by omega) (by omega)) dX10_until_107 ?_
                  refine lv_topi (fun xq39_ e_xq39_ => ?_)
                  have k_xq39_ : xq39_ = f (nq12_ + 8) := by rw [e_xq39_, clE (n := nq12_ + 8) (by omega)]
                  have kt_xq39_ : xq39_.toInt = (f (nq12_ + 8)).toInt := by rw [k_xq39_]
                  have rr_xq39_ : (0 : Int) ≤ (f (nq12_ + 8)).toInt ∧ (f (nq12_ + 8)).toInt ≤ 12 := hR_f.rO 8 (t := 0) (b := nq7_) (xn := nq12_) (by omega) (by omega) (by omega) (by decide) rfl
                  have l_xq39_ : (0 : Int) ≤ xq39_.toInt := by rw [kt_xq39_, show nq12_ + 8 = nq12_ + 8 from by omega]; exact rr_xq39_.1
                  have g_xq39_ : xq39_.toInt ≤ 12 := by rw [kt_xq39_, show nq12_ + 8 = nq12_ + 8 from by omega]; exact rr_xq39_.2
                  refine lv_iadd hx hb dX10_until_108 ?_
                  refine lv_topi (fun zq40_ e_zq40_ => ?_)
                  have h_zq40_ : zq40_.toInt = 1 + xq39_.toInt := by rw [e_zq40_, iAdd (by have : (1 : Int32).toInt = 1 := rfl; have := iRg xq39_; omega) (by have : (1 : Int32).toInt = 1 := rfl; have := iRg xq39_; omega)]; rfl
                  refine jic_gt (tgt := 169) hx hb dX10_until_109 (by decide) (fun cq41_ => ?_) (fun cq41_ => ?_)
                  · skip
                    have cq41_ : zq40_.toInt < yq37_.toInt := cq41_
                    refine lv_iload hx hb dX10_until_169 (lv_at hl 1 rfl) ?_
                    exact ret_i hC hr hlk hK hH (⟨trivial, rfl, rfl⟩) (Nat.le_of_ble_eq_true rfl) (Nat.le_of_ble_eq_true rfl) dX10_until_171
                  · skip
                    have cq41_ : yq37_.toInt ≤ zq40_.toInt := cq41_
                    refine lv_aload_n hx hb dX10_until_112 rfl (lv_at hl 3 rfl) ?_
                    refine xg hC hK hH flX10_7 hc_h rfl dX10_until_113 ?_
                    refine lv_iload_n hx hb dX10_until_116 rfl (lv_at hl 2 rfl) ?_
                    refine lv_iload hx hb dX10_until_117 (lv_at hl 0 rfl) ?_
                    obtain ⟨nq42_, hn_nq42_⟩ : ∃ n : Nat, yq37_.toInt = (n : Int) := ⟨(yq37_.toInt).toNat, by omega⟩
                    refine goI hK hH (runS (As := [.int rq10_, .int yq37_]) (rest := [.ref al]) hC hK hH (c_X10_partyAt (by omega) (by omega)) mlX10_56 ⟨⟨Nat.le_of_ble_eq_true rfl, Nat.le_of_ble_eq_true rfl⟩, Nat.le_of_ble_eq_true rfl, Nat.le_of_ble_eq_true rfl⟩ rfl hl.1 rfl (Nat.le_of_ble_eq_true rfl) dX10_until_119) (fun rq45_ Mq43_ Tq44_ Hq_ lcq_ hP hz hH => ?_)
                    try dsimp only at hP
                    obtain ⟨(⟨cq46_, ⟨l_rq45_, g_rq45_⟩⟩), eT, eM⟩ := hP
                    have eT := eT.symm; subst eT
                    have eM := eM.symm; subst eM
                    have cq46_ : rq45_.toInt = rq10_.toInt + 184 + 6 * yq37_.toInt := cq46_
                    have hx_rq45_ : rq45_.toInt = ((nq12_ + 184 + 6 * nq42_ : Nat) : Int) := by omega
                    refine lv_iconst (v := 0) hx hb dX10_until_122 (by decide) ?_
                    refine lv_iadd hx hb dX10_until_123 ?_
                    refine lv_topi (fun zq47_ e_zq47_ => ?_)
                    have h_zq47_ : zq47_.toInt = rq45_.toInt + 0 := by rw [e_zq47_, iAdd (by have := iRg rq45_; have : (0 : Int32).toInt = 0 := rfl; omega) (by have := iRg rq45_; have : (0 : Int32).toInt = 0 := rfl; omega)]; rfl
                    refine xild hC hK hH hc_al (iIn (by omega) (by omega)) dX10_until_124 ?_
                    refine lv_topi (fun xq48_ e_xq48_ => ?_)
                    have k_xq48_ : xq48_ = f (nq12_ + 184 + 6 * nq42_) := by rw [e_xq48_, clE (n := nq12_ + 184 + 6 * nq42_) (by omega)]
                    have kt_xq48_ : xq48_.toInt = (f (nq12_ + 184 + 6 * nq42_)).toInt := by rw [k_xq48_]
                    refine lv_istore (lv' := [(6, .int xq48_), (5, .int yq37_), (4, .int yq36_), (3, .int rq10_), (0, .ref h), (1, .int bi), (2, .int pt)]) hx hb dX10_until_125 hl (by decide) rfl (fun ls hl => ?_)
                    refine lv_iload hx hb dX10_until_127 (lv_at hl 0 rfl) ?_
                    refine lv_iconst (v := -1) hx hb dX10_until_129 (by decide) ?_
                    refine jic_eq (tgt := 159) hx hb dX10_until_130 (by decide) (fun cq49_ => ?_) (fun cq49_ => ?_)
                    · skip
                      have cq49_ : xq48_.toInt = (-1) := cq49_
                      refine lv_iload hx hb dX10_until_159 (lv_at hl 2 rfl) ?_
                      refine lv_istore (lv' := [(4, .int yq36_), (6, .int xq48_), (5, .int yq37_), (3, .int rq10_), (0, .ref h), (1, .int bi), (2, .int pt)]) hx hb dX10_until_161 hl (by decide) rfl (fun ls hl => ?_)
                      obtain ⟨zq50_, e_zq50_⟩ : ∃ y : Int32, y = yq37_ + 1 := ⟨_, rfl⟩
                      refine lv_iinc (v := zq50_) (lv' := [(5, .int zq50_), (4, .int yq36_), (6, .int xq48_), (3, .int rq10_), (0, .ref h), (1, .int bi), (2, .int pt)]) hx hb dX10_until_163 hl (k := 2) rfl (by rw [e_zq50_]; rfl) (by decide) rfl (fun ls hl => ?_)
                      have h_zq50_ : zq50_.toInt = yq37_.toInt + 1 := by rw [e_zq50_, iAdd (by have : (1 : Int32).toInt = 1 := rfl; omega) (by have : (1 : Int32).toInt = 1 := rfl; omega)]; rfl
                      refine lv_goto (tgt := 96) hx hb dX10_until_166 (by decide) ?_
                      exact ih yq36_ zq50_ _ _ ls (by have := iRg yq36_; have := iRg zq50_; omega) (by have := iRg yq36_; have := iRg zq50_; omega) (by have := iRg yq36_; have := iRg zq50_; omega) hc_h hc_al hH (lv_sub hl [0, 1, 3, 4, 5, 6] rfl)
                    · skip
                      have cq49_ : xq48_.toInt ≠ (-1) := cq49_
                      refine lv_iload hx hb dX10_until_133 (lv_at hl 0 rfl) ?_
                      refine lv_aload_n hx hb dX10_until_135 rfl (lv_at hl 4 rfl) ?_
                      refine xg hC hK hH flX10_7 hc_h rfl dX10_until_136 ?_
                      refine lv_iconst (v := 2) hx hb dX10_until_139 (by decide) ?_
                      refine xild hC hK hH hc_al (iIn (by decide) (by decide)) dX10_until_140 ?_
                      refine lv_topi (fun xq51_ e_xq51_ => ?_)
                      have kt_xq51_ : xq51_.toInt = (f 2).toInt := by rw [e_xq51_]; rfl
                      refine lv_iadd hx hb dX10_until_141 ?_
                      refine lv_topi (fun zq52_ e_zq52_ => ?_)
                      refine lv_iload hx hb dX10_until_142 (lv_at hl 2 rfl) ?_
                      refine jic_le (tgt := 159) hx hb dX10_until_144 (by decide) (fun cq53_ => ?_) (fun cq53_ => ?_)
                      · skip
                        have cq53_ : zq52_.toInt ≤ yq36_.toInt := cq53_
                        refine lv_iload hx hb dX10_until_159 (lv_at hl 2 rfl) ?_
                        refine lv_istore (lv' := [(4, .int yq36_), (6, .int xq48_), (5, .int yq37_), (3, .int rq10_), (0, .ref h), (1, .int bi), (2, .int pt)]) hx hb dX10_until_161 hl (by decide) rfl (fun ls hl => ?_)
                        obtain ⟨zq54_, e_zq54_⟩ : ∃ y : Int32, y = yq37_ + 1 := ⟨_, rfl⟩
                        refine lv_iinc (v := zq54_) (lv' := [(5, .int zq54_), (4, .int yq36_), (6, .int xq48_), (3, .int rq10_), (0, .ref h), (1, .int bi), (2, .int pt)]) hx hb dX10_until_163 hl (k := 2) rfl (by rw [e_zq54_]; rfl) (by decide) rfl (fun ls hl => ?_)
                        have h_zq54_ : zq54_.toInt = yq37_.toInt + 1 := by rw [e_zq54_, iAdd (by have : (1 : Int32).toInt = 1 := rfl; omega) (by have : (1 : Int32).toInt = 1 := rfl; omega)]; rfl
                        refine lv_goto (tgt := 96) hx hb dX10_until_166 (by decide) ?_
                        exact ih yq36_ zq54_ _ _ ls (by have := iRg yq36_; have := iRg zq54_; omega) (by have := iRg yq36_; have := iRg zq54_; omega) (by have := iRg yq36_; have := iRg zq54_; omega) hc_h hc_al hH (lv_sub hl [0, 1, 3, 4, 5, 6] rfl)
                      · skip
                        have cq53_ : yq36_.toInt < zq52_.toInt := cq53_
                        refine lv_iload hx hb dX10_until_147 (lv_at hl 0 rfl) ?_
                        refine lv_aload_n hx hb dX10_until_149 rfl (lv_at hl 4 rfl) ?_
                        refine xg hC hK hH flX10_7 hc_h rfl dX10_until_150 ?_
                        refine lv_iconst (v := 2) hx hb dX10_until_153 (by decide) ?_
                        refine xild hC hK hH hc_al (iIn (by decide) (by decide)) dX10_until_154 ?_
                        refine lv_topi (fun xq55_ e_xq55_ => ?_)
                        have kt_xq55_ : xq55_.toInt = (f 2).toInt := by rw [e_xq55_]; rfl
                        refine lv_iadd hx hb dX10_until_155 ?_
                        refine lv_topi (fun zq56_ e_zq56_ => ?_)
                        refine lv_goto (tgt := 161) hx hb dX10_until_156 (by decide) ?_
                        refine lv_istore (lv' := [(4, .int zq56_), (6, .int xq48_), (5, .int yq37_), (3, .int rq10_), (0, .ref h), (1, .int bi), (2, .int pt)]) hx hb dX10_until_161 hl (by decide) rfl (fun ls hl => ?_)
                        obtain ⟨zq57_, e_zq57_⟩ : ∃ y : Int32, y = yq37_ + 1 := ⟨_, rfl⟩
                        refine lv_iinc (v := zq57_) (lv' := [(5, .int zq57_), (4, .int zq56_), (6, .int xq48_), (3, .int rq10_), (0, .ref h), (1, .int bi), (2, .int pt)]) hx hb dX10_until_163 hl (k := 2) rfl (by rw [e_zq57_]; rfl) (by decide) rfl (fun ls hl => ?_)
                        have h_zq57_ : zq57_.toInt = yq37_.toInt + 1 := by rw [e_zq57_, iAdd (by have : (1 : Int32).toInt = 1 := rfl; omega) (by have : (1 : Int32).toInt = 1 := rfl; omega)]; rfl
                        refine lv_goto (tgt := 96) hx hb dX10_until_166 (by decide) ?_
                        exact ih zq56_ zq57_ _ _ ls (by have := iRg zq56_; have := iRg zq57_; omega) (by have := iRg zq56_; have := iRg zq57_; omega) (by have := iRg zq56_; have := iRg zq57_; omega) hc_h hc_al hH (lv_sub hl [0, 1, 3, 4, 5, 6] rfl)
              exact loop (Int.toNat (15 - zq35_.toInt)) (-1) zq35_ _ _ ls (by have : (-1 : Int32).toInt = -1 := rfl; have := iRg zq35_; omega) (by have : (-1 : Int32).toInt = -1 := rfl; have := iRg zq35_; omega) (by have : (-1 : Int32).toInt = -1 := rfl; have := iRg zq35_; omega) hc_h hc_al hH hl
            · skip
              have cq34_ : pt.toInt < rq32_.toInt := cq34_
              refine lv_aload_n hx hb dX10_until_69 rfl (lv_at hl 1 rfl) ?_
              refine xg hC hK hH flX10_7 hc_h rfl dX10_until_70 ?_
              refine lv_iload_n hx hb dX10_until_73 rfl (lv_at hl 0 rfl) ?_
              refine lv_bipush (v := 9) hx hb dX10_until_74 (by decide) ?_
              refine lv_iadd hx hb dX10_until_76 ?_
              refine lv_cst (v := zq13_) e_zq13_.symm ?_
              refine xild hC hK hH hc_al (iIn (by omega) (by omega)) dX10_until_77 ?_
              refine lv_topi (fun xq58_ e_xq58_ => ?_)
              have k_xq58_ : xq58_ = f (nq12_ + 9) := by rw [e_xq58_, clE (n := nq12_ + 9) (by omega)]
              have kt_xq58_ : xq58_.toInt = (f (nq12_ + 9)).toInt := by rw [k_xq58_]
              refine lv_aload_n hx hb dX10_until_78 rfl (lv_at hl 1 rfl) ?_
              refine xg hC hK hH flX10_7 hc_h rfl dX10_until_79 ?_
              refine lv_iconst (v := 2) hx hb dX10_until_82 (by decide) ?_
              refine xild hC hK hH hc_al (iIn (by decide) (by decide)) dX10_until_83 ?_
              refine lv_topi (fun xq59_ e_xq59_ => ?_)
              have kt_xq59_ : xq59_.toInt = (f 2).toInt := by rw [e_xq59_]; rfl
              refine lv_iadd hx hb dX10_until_84 ?_
              refine lv_topi (fun zq60_ e_zq60_ => ?_)
              refine lv_goto (tgt := 89) hx hb dX10_until_85 (by decide) ?_
              refine lv_istore (lv' := [(4, .int zq60_), (3, .int rq10_), (0, .ref h), (1, .int bi), (2, .int pt)]) hx hb dX10_until_89 hl (by decide) rfl (fun ls hl => ?_)
              refine lv_iload_n hx hb dX10_until_91 rfl (lv_at hl 4 rfl) ?_
              refine lv_iconst (v := 1) hx hb dX10_until_92 (by decide) ?_
              refine lv_iadd hx hb dX10_until_93 ?_
              refine lv_topi (fun zq61_ e_zq61_ => ?_)
              have h_zq61_ : zq61_.toInt = pt.toInt + 1 := by rw [e_zq61_, iAdd (by have := iRg pt; have : (1 : Int32).toInt = 1 := rfl; omega) (by have := iRg pt; have : (1 : Int32).toInt = 1 := rfl; omega)]; rfl
              refine lv_istore (lv' := [(5, .int zq61_), (4, .int zq60_), (3, .int rq10_), (0, .ref h), (1, .int bi), (2, .int pt)]) hx hb dX10_until_94 hl (by decide) rfl (fun ls hl => ?_)
              have loop : ∀ (n : Nat) (yq62_ : Int32) (yq63_ : Int32) (Hq_ : Heap) (lcq_ : List Loc) (ls : Array Slot), 15 - yq63_.toInt ≤ (n : Int) → (1 : Int) ≤ yq63_.toInt → yq63_.toInt ≤ 14 → M h = some (.inr (8, [.ref al, .ref mt, .ref ii, .int ta, .int fpm, .ref pa, .int sm, .int nx, .int tk, .int pl, .int ln, .long va, .int wr, .ref li])) → M al = some (.inl (kA 0, 7506, .inl f)) → mS D kA M T (mA M T sz) s.heap Hq_ lcq_ → lv_has ls 7 [(5, .int yq63_), (4, .int yq62_), (3, .int rq10_), (0, .ref h), (1, .int bi), (2, .int pt)] → W p l e (rmL 4 0 0) s m ([.ref h, .int bi, .int pt] : List Value).toArray below meth c Hq_ lcq_ 0 0 (MQ below (va_Qi (fun r u => (True) ∧ u.2 = T ∧ u.1 = M) (mB D kA M T sz) (mA M T sz)) ([.ref h, .int bi, .int pt] : List Value).toArray s 0 0 (mA M T sz)) (F0 m 96 ls []) := by
                intro n
                induction n with
                | zero =>
                  intro yq62_ yq63_ Hq_ lcq_ ls hme l_yq63_ g_yq63_ hc_h hc_al hH hl
                  exfalso; omega
                | succ n ih =>
                  intro yq62_ yq63_ Hq_ lcq_ ls hme l_yq63_ g_yq63_ hc_h hc_al hH hl
                  refine lv_iload hx hb dX10_until_96 (lv_at hl 0 rfl) ?_
                  refine lv_iconst (v := 1) hx hb dX10_until_98 (by decide) ?_
                  refine lv_aload_n hx hb dX10_until_99 rfl (lv_at hl 3 rfl) ?_
                  refine xg hC hK hH flX10_7 hc_h rfl dX10_until_100 ?_
                  refine lv_iload_n hx hb dX10_until_103 rfl (lv_at hl 2 rfl) ?_
                  refine lv_bipush (v := 8) hx hb dX10_until_104 (by decide) ?_
                  refine lv_iadd hx hb dX10_until_106 ?_
                  refine lv_topi (fun zq64_ e_zq64_ => ?_)
                  have h_zq64_ : zq64_.toInt = rq10_.toInt + 8 := by rw [e_zq64_, iAdd (by have := iRg rq10_; have : (8 : Int32).toInt = 8 := rfl; omega) (by have := iRg rq10_; have : (8 : Int32).toInt = 8 := rfl; omega)]; rfl
                  refine xild hC hK hH hc_al (iIn (by omega) (by omega)) dX10_until_107 ?_
                  refine lv_topi (fun xq65_ e_xq65_ => ?_)
                  have k_xq65_ : xq65_ = f (nq12_ + 8) := by rw [e_xq65_, clE (n := nq12_ + 8) (by omega)]
                  have kt_xq65_ : xq65_.toInt = (f (nq12_ + 8)).toInt := by rw [k_xq65_]
                  have rr_xq65_ : (0 : Int) ≤ (f (nq12_ + 8)).toInt ∧ (f (nq12_ + 8)).toInt ≤ 12 := hR_f.rO 8 (t := 0) (b := nq7_) (xn := nq12_) (by omega) (by omega) (by omega) (by decide) rfl
                  have l_xq65_ : (0 : Int) ≤ xq65_.toInt := by rw [kt_xq65_, show nq12_ + 8 = nq12_ + 8 from by omega]; exact rr_xq65_.1
                  have g_xq65_ : xq65_.toInt ≤ 12 := by rw [kt_xq65_, show nq12_ + 8 = nq12_ + 8 from by omega]; exact rr_xq65_.2
                  refine lv_iadd hx hb dX10_until_108 ?_
                  refine lv_topi (fun zq66_ e_zq66_ => ?_)
                  have h_zq66_ : zq66_.toInt = 1 + xq65_.toInt := by rw [e_zq66_, iAdd (by have : (1 : Int32).toInt = 1 := rfl; have := iRg xq65_; omega) (by have : (1 : Int32).toInt = 1 := rfl; have := iRg xq65_; omega)]; rfl
                  refine jic_gt (tgt := 169) hx hb dX10_until_109 (by decide) (fun cq67_ => ?_) (fun cq67_ => ?_)
                  · skip
                    have cq67_ : zq66_.toInt < yq63_.toInt := cq67_
                    refine lv_iload hx hb dX10_until_169 (lv_at hl 1 rfl) ?_
                    exact ret_i hC hr hlk hK hH (⟨trivial, rfl, rfl⟩) (Nat.le_of_ble_eq_true rfl) (Nat.le_of_ble_eq_true rfl) dX10_until_171
                  · skip
                    have cq67_ : yq63_.toInt ≤ zq66_.toInt := cq67_
                    refine lv_aload_n hx hb dX10_until_112 rfl (lv_at hl 3 rfl) ?_
                    refine xg hC hK hH flX10_7 hc_h rfl dX10_until_113 ?_
                    refine lv_iload_n hx hb dX10_until_116 rfl (lv_at hl 2 rfl) ?_
                    refine lv_iload hx hb dX10_until_117 (lv_at hl 0 rfl) ?_
                    obtain ⟨nq68_, hn_nq68_⟩ : ∃ n : Nat, yq63_.toInt = (n : Int) := ⟨(yq63_.toInt).toNat, by omega⟩
                    refine goI hK hH (runS (As := [.int rq10_, .int yq63_]) (rest := [.ref al]) hC hK hH (c_X10_partyAt (by omega) (by omega)) mlX10_56 ⟨⟨Nat.le_of_ble_eq_true rfl, Nat.le_of_ble_eq_true rfl⟩, Nat.le_of_ble_eq_true rfl, Nat.le_of_ble_eq_true rfl⟩ rfl hl.1 rfl (Nat.le_of_ble_eq_true rfl) dX10_until_119) (fun rq71_ Mq69_ Tq70_ Hq_ lcq_ hP hz hH => ?_)
                    try dsimp only at hP
                    obtain ⟨(⟨cq72_, ⟨l_rq71_, g_rq71_⟩⟩), eT, eM⟩ := hP
                    have eT := eT.symm; subst eT
                    have eM := eM.symm; subst eM
                    have cq72_ : rq71_.toInt = rq10_.toInt + 184 + 6 * yq63_.toInt := cq72_
                    have hx_rq71_ : rq71_.toInt = ((nq12_ + 184 + 6 * nq68_ : Nat) : Int) := by omega
                    refine lv_iconst (v := 0) hx hb dX10_until_122 (by decide) ?_
                    refine lv_iadd hx hb dX10_until_123 ?_
                    refine lv_topi (fun zq73_ e_zq73_ => ?_)
                    have h_zq73_ : zq73_.toInt = rq71_.toInt + 0 := by rw [e_zq73_, iAdd (by have := iRg rq71_; have : (0 : Int32).toInt = 0 := rfl; omega) (by have := iRg rq71_; have : (0 : Int32).toInt = 0 := rfl; omega)]; rfl
                    refine xild hC hK hH hc_al (iIn (by omega) (by omega)) dX10_until_124 ?_
                    refine lv_topi (fun xq74_ e_xq74_ => ?_)
                    have k_xq74_ : xq74_ = f (nq12_ + 184 + 6 * nq68_) := by rw [e_xq74_, clE (n := nq12_ + 184 + 6 * nq68_) (by omega)]
                    have kt_xq74_ : xq74_.toInt = (f (nq12_ + 184 + 6 * nq68_)).toInt := by rw [k_xq74_]
                    refine lv_istore (lv' := [(6, .int xq74_), (5, .int yq63_), (4, .int yq62_), (3, .int rq10_), (0, .ref h), (1, .int bi), (2, .int pt)]) hx hb dX10_until_125 hl (by decide) rfl (fun ls hl => ?_)
                    refine lv_iload hx hb dX10_until_127 (lv_at hl 0 rfl) ?_
                    refine lv_iconst (v := -1) hx hb dX10_until_129 (by decide) ?_
                    refine jic_eq (tgt := 159) hx hb dX10_until_130 (by decide) (fun cq75_ => ?_) (fun cq75_ => ?_)
                    · skip
                      have cq75_ : xq74_.toInt = (-1) := cq75_
                      refine lv_iload hx hb dX10_until_159 (lv_at hl 2 rfl) ?_
                      refine lv_istore (lv' := [(4, .int yq62_), (6, .int xq74_), (5, .int yq63_), (3, .int rq10_), (0, .ref h), (1, .int bi), (2, .int pt)]) hx hb dX10_until_161 hl (by decide) rfl (fun ls hl => ?_)
                      obtain ⟨zq76_, e_zq76_⟩ : ∃ y : Int32, y = yq63_ + 1 := ⟨_, rfl⟩
                      refine lv_iinc (v := zq76_) (lv' := [(5, .int zq76_), (4, .int yq62_), (6, .int xq74_), (3, .int rq10_), (0, .ref h), (1, .int bi), (2, .int pt)]) hx hb dX10_until_163 hl (k := 2) rfl (by rw [e_zq76_]; rfl) (by decide) rfl (fun ls hl => ?_)
                      have h_zq76_ : zq76_.toInt = yq63_.toInt + 1 := by rw [e_zq76_, iAdd (by have : (1 : Int32).toInt = 1 := rfl; omega) (by have : (1 : Int32).toInt = 1 := rfl; omega)]; rfl
                      refine lv_goto (tgt := 96) hx hb dX10_until_166 (by decide) ?_
                      exact ih yq62_ zq76_ _ _ ls (by have := iRg yq62_; have := iRg zq76_; omega) (by have := iRg yq62_; have := iRg zq76_; omega) (by have := iRg yq62_; have := iRg zq76_; omega) hc_h hc_al hH (lv_sub hl [0, 1, 3, 4, 5, 6] rfl)
                    · skip
                      have cq75_ : xq74_.toInt ≠ (-1) := cq75_
                      refine lv_iload hx hb dX10_until_133 (lv_at hl 0 rfl) ?_
                      refine lv_aload_n hx hb dX10_until_135 rfl (lv_at hl 4 rfl) ?_
                      refine xg hC hK hH flX10_7 hc_h rfl dX10_until_136 ?_
                      refine lv_iconst (v := 2) hx hb dX10_until_139 (by decide) ?_
                      refine xild hC hK hH hc_al (iIn (by decide) (by decide)) dX10_until_140 ?_
                      refine lv_topi (fun xq77_ e_xq77_ => ?_)
                      have kt_xq77_ : xq77_.toInt = (f 2).toInt := by rw [e_xq77_]; rfl
                      refine lv_iadd hx hb dX10_until_141 ?_
                      refine lv_topi (fun zq78_ e_zq78_ => ?_)
                      refine lv_iload hx hb dX10_until_142 (lv_at hl 2 rfl) ?_
                      refine jic_le (tgt := 159) hx hb dX10_until_144 (by decide) (fun cq79_ => ?_) (fun cq79_ => ?_)
                      · skip
                        have cq79_ : zq78_.toInt ≤ yq62_.toInt := cq79_
                        refine lv_iload hx hb dX10_until_159 (lv_at hl 2 rfl) ?_
                        refine lv_istore (lv' := [(4, .int yq62_), (6, .int xq74_), (5, .int yq63_), (3, .int rq10_), (0, .ref h), (1, .int bi), (2, .int pt)]) hx hb dX10_until_161 hl (by decide) rfl (fun ls hl => ?_)
                        obtain ⟨zq80_, e_zq80_⟩ : ∃ y : Int32, y = yq63_ + 1 := ⟨_, rfl⟩
                        refine lv_iinc (v := zq80_) (lv' := [(5, .int zq80_), (4, .int yq62_), (6, .int xq74_), (3, .int rq10_), (0, .ref h), (1, .int bi), (2, .int pt)]) hx hb dX10_until_163 hl (k := 2) rfl (by rw [e_zq80_]; rfl) (by decide) rfl (fun ls hl => ?_)
                        have h_zq80_ : zq80_.toInt = yq63_.toInt + 1 := by rw [e_zq80_, iAdd (by have : (1 : Int32).toInt = 1 := rfl; omega) (by have : (1 : Int32).toInt = 1 := rfl; omega)]; rfl
                        refine lv_goto (tgt := 96) hx hb dX10_until_166 (by decide) ?_
                        exact ih yq62_ zq80_ _ _ ls (by have := iRg yq62_; have := iRg zq80_; omega) (by have := iRg yq62_; have := iRg zq80_; omega) (by have := iRg yq62_; have := iRg zq80_; omega) hc_h hc_al hH (lv_sub hl [0, 1, 3, 4, 5, 6] rfl)
                      · skip
                        have cq79_ : yq62_.toInt < zq78_.toInt := cq79_
                        refine lv_iload hx hb dX10_until_147 (lv_at hl 0 rfl) ?_
                        refine lv_aload_n hx hb dX10_until_149 rfl (lv_at hl 4 rfl) ?_
                        refine xg hC hK hH flX10_7 hc_h rfl dX10_until_150 ?_
                        refine lv_iconst (v := 2) hx hb dX10_until_153 (by decide) ?_
                        refine xild hC hK hH hc_al (iIn (by decide) (by decide)) dX10_until_154 ?_
                        refine lv_topi (fun xq81_ e_xq81_ => ?_)
                        have kt_xq81_ : xq81_.toInt = (f 2).toInt := by rw [e_xq81_]; rfl
                        refine lv_iadd hx hb dX10_until_155 ?_
                        refine lv_topi (fun zq82_ e_zq82_ => ?_)
                        refine lv_goto (tgt := 161) hx hb dX10_until_156 (by decide) ?_
                        refine lv_istore (lv' := [(4, .int zq82_), (6, .int xq74_), (5, .int yq63_), (3, .int rq10_), (0, .ref h), (1, .int bi), (2, .int pt)]) hx hb dX10_until_161 hl (by decide) rfl (fun ls hl => ?_)
                        obtain ⟨zq83_, e_zq83_⟩ : ∃ y : Int32, y = yq63_ + 1 := ⟨_, rfl⟩
                        refine lv_iinc (v := zq83_) (lv' := [(5, .int zq83_), (4, .int zq82_), (6, .int xq74_), (3, .int rq10_), (0, .ref h), (1, .int bi), (2, .int pt)]) hx hb dX10_until_163 hl (k := 2) rfl (by rw [e_zq83_]; rfl) (by decide) rfl (fun ls hl => ?_)
                        have h_zq83_ : zq83_.toInt = yq63_.toInt + 1 := by rw [e_zq83_, iAdd (by have : (1 : Int32).toInt = 1 := rfl; omega) (by have : (1 : Int32).toInt = 1 := rfl; omega)]; rfl
                        refine lv_goto (tgt := 96) hx hb dX10_until_166 (by decide) ?_
                        exact ih zq82_ zq83_ _ _ ls (by have := iRg zq82_; have := iRg zq83_; omega) (by have := iRg zq82_; have := iRg zq83_; omega) (by have := iRg zq82_; have := iRg zq83_; omega) hc_h hc_al hH (lv_sub hl [0, 1, 3, 4, 5, 6] rfl)
              exact loop (Int.toNat (15 - zq61_.toInt)) zq60_ zq61_ _ _ ls (by have := iRg zq60_; have := iRg zq61_; omega) (by have := iRg zq60_; have := iRg zq61_; omega) (by have := iRg zq60_; have := iRg zq61_; omega) hc_h hc_al hH hl
          · skip
            have eT := eT.symm; subst eT
            have er_rq26_ := er_rq26_.symm; subst er_rq26_
            have eM := eM.symm; subst eM
            have cq28_ : ¬ titF f nq12_ := cq28_
            refine jif_eq (tgt := 88) hx hb dX10_until_57 (by decide) (fun cq84_ => ?_) (fun cq84_ => absurd cq84_ (by decide))
            refine lv_iconst (v := -1) hx hb dX10_until_88 (by decide) ?_
            refine lv_istore (lv' := [(4, .int (-1)), (3, .int rq10_), (0, .ref h), (1, .int bi), (2, .int pt)]) hx hb dX10_until_89 hl (by decide) rfl (fun ls hl => ?_)
            refine lv_iload_n hx hb dX10_until_91 rfl (lv_at hl 4 rfl) ?_
            refine lv_iconst (v := 1) hx hb dX10_until_92 (by decide) ?_
            refine lv_iadd hx hb dX10_until_93 ?_
            refine lv_topi (fun zq85_ e_zq85_ => ?_)
            have h_zq85_ : zq85_.toInt = pt.toInt + 1 := by rw [e_zq85_, iAdd (by have := iRg pt; have : (1 : Int32).toInt = 1 := rfl; omega) (by have := iRg pt; have : (1 : Int32).toInt = 1 := rfl; omega)]; rfl
            refine lv_istore (lv' := [(5, .int zq85_), (4, .int (-1)), (3, .int rq10_), (0, .ref h), (1, .int bi), (2, .int pt)]) hx hb dX10_until_94 hl (by decide) rfl (fun ls hl => ?_)
            have loop : ∀ (n : Nat) (yq86_ : Int32) (yq87_ : Int32) (Hq_ : Heap) (lcq_ : List Loc) (ls : Array Slot), 15 - yq87_.toInt ≤ (n : Int) → (1 : Int) ≤ yq87_.toInt → yq87_.toInt ≤ 14 → M h = some (.inr (8, [.ref al, .ref mt, .ref ii, .int ta, .int fpm, .ref pa, .int sm, .int nx, .int tk, .int pl, .int ln, .long va, .int wr, .ref li])) → M al = some (.inl (kA 0, 7506, .inl f)) → mS D kA M T (mA M T sz) s.heap Hq_ lcq_ → lv_has ls 7 [(5, .int yq87_), (4, .int yq86_), (3, .int rq10_), (0, .ref h), (1, .int bi), (2, .int pt)] → W p l e (rmL 4 0 0) s m ([.ref h, .int bi, .int pt] : List Value).toArray below meth c Hq_ lcq_ 0 0 (MQ below (va_Qi (fun r u => (True) ∧ u.2 = T ∧ u.1 = M) (mB D kA M T sz) (mA M T sz)) ([.ref h, .int bi, .int pt] : List Value).toArray s 0 0 (mA M T sz)) (F0 m 96 ls []) := by
              intro n
              induction n with
              | zero =>
                intro yq86_ yq87_ Hq_ lcq_ ls hme l_yq87_ g_yq87_ hc_h hc_al hH hl
                exfalso; omega
              | succ n ih =>
                intro yq86_ yq87_ Hq_ lcq_ ls hme l_yq87_ g_yq87_ hc_h hc_al hH hl
                refine lv_iload hx hb dX10_until_96 (lv_at hl 0 rfl) ?_
                refine lv_iconst (v := 1) hx hb dX10_until_98 (by decide) ?_
                refine lv_aload_n hx hb dX10_until_99 rfl (lv_at hl 3 rfl) ?_
                refine xg hC hK hH flX10_7 hc_h rfl dX10_until_100 ?_
                refine lv_iload_n hx hb dX10_until_103 rfl (lv_at hl 2 rfl) ?_
                refine lv_bipush (v := 8) hx hb dX10_until_104 (by decide) ?_
                refine lv_iadd hx hb dX10_until_106 ?_
                refine lv_topi (fun zq88_ e_zq88_ => ?_)
                have h_zq88_ : zq88_.toInt = rq10_.toInt + 8 := by rw [e_zq88_, iAdd (by have := iRg rq10_; have : (8 : Int32).toInt = 8 := rfl; omega) (by have := iRg rq10_; have : (8 : Int32).toInt = 8 := rfl; omega)]; rfl
                refine xild hC hK hH hc_al (iIn (by omega) (by omega)) dX10_until_107 ?_
                refine lv_topi (fun xq89_ e_xq89_ => ?_)
                have k_xq89_ : xq89_ = f (nq12_ + 8) := by rw [e_xq89_, clE (n := nq12_ + 8) (by omega)]
                have kt_xq89_ : xq89_.toInt = (f (nq12_ + 8)).toInt := by rw [k_xq89_]
                have rr_xq89_ : (0 : Int) ≤ (f (nq12_ + 8)).toInt ∧ (f (nq12_ + 8)).toInt ≤ 12 := hR_f.rO 8 (t := 0) (b := nq7_) (xn := nq12_) (by omega) (by omega) (by omega) (by decide) rfl
                have l_xq89_ : (0 : Int) ≤ xq89_.toInt := by rw [kt_xq89_, show nq12_ + 8 = nq12_ + 8 from by omega]; exact rr_xq89_.1
                have g_xq89_ : xq89_.toInt ≤ 12 := by rw [kt_xq89_, show nq12_ + 8 = nq12_ + 8 from by omega]; exact rr_xq89_.2
                refine lv_iadd hx hb dX10_until_108 ?_
                refine lv_topi (fun zq90_ e_zq90_ => ?_)
                have h_zq90_ : zq90_.toInt = 1 + xq89_.toInt := by rw [e_zq90_, iAdd (by have : (1 : Int32).toInt = 1 := rfl; have := iRg xq89_; omega) (by have : (1 : Int32).toInt = 1 := rfl; have := iRg xq89_; omega)]; rfl
                refine jic_gt (tgt := 169) hx hb dX10_until_109 (by decide) (fun cq91_ => ?_) (fun cq91_ => ?_)
                · skip
                  have cq91_ : zq90_.toInt < yq87_.toInt := cq91_
                  refine lv_iload hx hb dX10_until_169 (lv_at hl 1 rfl) ?_
                  exact ret_i hC hr hlk hK hH (⟨trivial, rfl, rfl⟩) (Nat.le_of_ble_eq_true rfl) (Nat.le_of_ble_eq_true rfl) dX10_until_171
                · skip
                  have cq91_ : yq87_.toInt ≤ zq90_.toInt := cq91_
                  refine lv_aload_n hx hb dX10_until_112 rfl (lv_at hl 3 rfl) ?_
                  refine xg hC hK hH flX10_7 hc_h rfl dX10_until_113 ?_
                  refine lv_iload_n hx hb dX10_until_116 rfl (lv_at hl 2 rfl) ?_
                  refine lv_iload hx hb dX10_until_117 (lv_at hl 0 rfl) ?_
                  obtain ⟨nq92_, hn_nq92_⟩ : ∃ n : Nat, yq87_.toInt = (n : Int) := ⟨(yq87_.toInt).toNat, by omega⟩
                  refine goI hK hH (runS (As := [.int rq10_, .int yq87_]) (rest := [.ref al]) hC hK hH (c_X10_partyAt (by omega) (by omega)) mlX10_56 ⟨⟨Nat.le_of_ble_eq_true rfl, Nat.le_of_ble_eq_true rfl⟩, Nat.le_of_ble_eq_true rfl, Nat.le_of_ble_eq_true rfl⟩ rfl hl.1 rfl (Nat.le_of_ble_eq_true rfl) dX10_until_119) (fun rq95_ Mq93_ Tq94_ Hq_ lcq_ hP hz hH => ?_)
                  try dsimp only at hP
                  obtain ⟨(⟨cq96_, ⟨l_rq95_, g_rq95_⟩⟩), eT, eM⟩ := hP
                  have eT := eT.symm; subst eT
                  have eM := eM.symm; subst eM
                  have cq96_ : rq95_.toInt = rq10_.toInt + 184 + 6 * yq87_.toInt := cq96_
                  have hx_rq95_ : rq95_.toInt = ((nq12_ + 184 + 6 * nq92_ : Nat) : Int) := by omega
                  refine lv_iconst (v := 0) hx hb dX10_until_122 (by decide) ?_
                  refine lv_iadd hx hb dX10_until_123 ?_
                  refine lv_topi (fun zq97_ e_zq97_ => ?_)
                  have h_zq97_ : zq97_.toInt = rq95_.toInt + 0 := by rw [e_zq97_, iAdd (by have := iRg rq95_; have : (0 : Int32).toInt = 0 := rfl; omega) (by have := iRg rq95_; have : (0 : Int32).toInt = 0 := rfl; omega)]; rfl
                  refine xild hC hK hH hc_al (iIn (by omega) (by omega)) dX10_until_124 ?_
                  refine lv_topi (fun xq98_ e_xq98_ => ?_)
                  have k_xq98_ : xq98_ = f (nq12_ + 184 + 6 * nq92_) := by rw [e_xq98_, clE (n := nq12_ + 184 + 6 * nq92_) (by omega)]
                  have kt_xq98_ : xq98_.toInt = (f (nq12_ + 184 + 6 * nq92_)).toInt := by rw [k_xq98_]
                  refine lv_istore (lv' := [(6, .int xq98_), (5, .int yq87_), (4, .int yq86_), (3, .int rq10_), (0, .ref h), (1, .int bi), (2, .int pt)]) hx hb dX10_until_125 hl (by decide) rfl (fun ls hl => ?_)
                  refine lv_iload hx hb dX10_until_127 (lv_at hl 0 rfl) ?_
                  refine lv_iconst (v := -1) hx hb dX10_until_129 (by decide) ?_
                  refine jic_eq (tgt := 159) hx hb dX10_until_130 (by decide) (fun cq99_ => ?_) (fun cq99_ => ?_)
                  · skip
                    have cq99_ : xq98_.toInt = (-1) := cq99_
                    refine lv_iload hx hb dX10_until_159 (lv_at hl 2 rfl) ?_
                    refine lv_istore (lv' := [(4, .int yq86_), (6, .int xq98_), (5, .int yq87_), (3, .int rq10_), (0, .ref h), (1, .int bi), (2, .int pt)]) hx hb dX10_until_161 hl (by decide) rfl (fun ls hl => ?_)
                    obtain ⟨zq100_, e_zq100_⟩ : ∃ y : Int32, y = yq87_ + 1 := ⟨_, rfl⟩
                    refine lv_iinc (v := zq100_) (lv' := [(5, .int zq100_), (4, .int yq86_), (6, .int xq98_), (3, .int rq10_), (0, .ref h), (1, .int bi), (2, .int pt)]) hx hb dX10_until_163 hl (k := 2) rfl (by rw [e_zq100_]; rfl) (by decide) rfl (fun ls hl => ?_)
                    have h_zq100_ : zq100_.toInt = yq87_.toInt + 1 := by rw [e_zq100_, iAdd (by have : (1 : Int32).toInt = 1 := rfl; omega) (by have : (1 : Int32).toInt = 1 := rfl; omega)]; rfl
                    refine lv_goto (tgt := 96) hx hb dX10_until_166 (by decide) ?_
                    exact ih yq86_ zq100_ _ _ ls (by have := iRg yq86_; have := iRg zq100_; omega) (by have := iRg yq86_; have := iRg zq100_; omega) (by have := iRg yq86_; have := iRg zq100_; omega) hc_h hc_al hH (lv_sub hl [0, 1, 3, 4, 5, 6] rfl)
                  · skip
                    have cq99_ : xq98_.toInt ≠ (-1) := cq99_
                    refine lv_iload hx hb dX10_until_133 (lv_at hl 0 rfl) ?_
                    refine lv_aload_n hx hb dX10_until_135 rfl (lv_at hl 4 rfl) ?_
                    refine xg hC hK hH flX10_7 hc_h rfl dX10_until_136 ?_
                    refine lv_iconst (v := 2) hx hb dX10_until_139 (by decide) ?_
                    refine xild hC hK hH hc_al (iIn (by decide) (by decide)) dX10_until_140 ?_
                    refine lv_topi (fun xq101_ e_xq101_ => ?_)
                    have kt_xq101_ : xq101_.toInt = (f 2).toInt := by rw [e_xq101_]; rfl
                    refine lv_iadd hx hb dX10_until_141 ?_
                    refine lv_topi (fun zq102_ e_zq102_ => ?_)
                    refine lv_iload hx hb dX10_until_142 (lv_at hl 2 rfl) ?_
                    refine jic_le (tgt := 159) hx hb dX10_until_144 (by decide) (fun cq103_ => ?_) (fun cq103_ => ?_)
                    · skip
                      have cq103_ : zq102_.toInt ≤ yq86_.toInt := cq103_
                      refine lv_iload hx hb dX10_until_159 (lv_at hl 2 rfl) ?_
                      refine lv_istore (lv' := [(4, .int yq86_), (6, .int xq98_), (5, .int yq87_), (3, .int rq10_), (0, .ref h), (1, .int bi), (2, .int pt)]) hx hb dX10_until_161 hl (by decide) rfl (fun ls hl => ?_)
                      obtain ⟨zq104_, e_zq104_⟩ : ∃ y : Int32, y = yq87_ + 1 := ⟨_, rfl⟩
                      refine lv_iinc (v := zq104_) (lv' := [(5, .int zq104_), (4, .int yq86_), (6, .int xq98_), (3, .int rq10_), (0, .ref h), (1, .int bi), (2, .int pt)]) hx hb dX10_until_163 hl (k := 2) rfl (by rw [e_zq104_]; rfl) (by decide) rfl (fun ls hl => ?_)
                      have h_zq104_ : zq104_.toInt = yq87_.toInt + 1 := by rw [e_zq104_, iAdd (by have : (1 : Int32).toInt = 1 := rfl; omega) (by have : (1 : Int32).toInt = 1 := rfl; omega)]; rfl
                      refine lv_goto (tgt := 96) hx hb dX10_until_166 (by decide) ?_
                      exact ih yq86_ zq104_ _ _ ls (by have := iRg yq86_; have := iRg zq104_; omega) (by have := iRg yq86_; have := iRg zq104_; omega) (by have := iRg yq86_; have := iRg zq104_; omega) hc_h hc_al hH (lv_sub hl [0, 1, 3, 4, 5, 6] rfl)
                    · skip
                      have cq103_ : yq86_.toInt < zq102_.toInt := cq103_
                      refine lv_iload hx hb dX10_until_147 (lv_at hl 0 rfl) ?_
                      refine lv_aload_n hx hb dX10_until_149 rfl (lv_at hl 4 rfl) ?_
                      refine xg hC hK hH flX10_7 hc_h rfl dX10_until_150 ?_
                      refine lv_iconst (v := 2) hx hb dX10_until_153 (by decide) ?_
                      refine xild hC hK hH hc_al (iIn (by decide) (by decide)) dX10_until_154 ?_
                      refine lv_topi (fun xq105_ e_xq105_ => ?_)
                      have kt_xq105_ : xq105_.toInt = (f 2).toInt := by rw [e_xq105_]; rfl
                      refine lv_iadd hx hb dX10_until_155 ?_
                      refine lv_topi (fun zq106_ e_zq106_ => ?_)
                      refine lv_goto (tgt := 161) hx hb dX10_until_156 (by decide) ?_
                      refine lv_istore (lv' := [(4, .int zq106_), (6, .int xq98_), (5, .int yq87_), (3, .int rq10_), (0, .ref h), (1, .int bi), (2, .int pt)]) hx hb dX10_until_161 hl (by decide) rfl (fun ls hl => ?_)
                      obtain ⟨zq107_, e_zq107_⟩ : ∃ y : Int32, y = yq87_ + 1 := ⟨_, rfl⟩
                      refine lv_iinc (v := zq107_) (lv' := [(5, .int zq107_), (4, .int zq106_), (6, .int xq98_), (3, .int rq10_), (0, .ref h), (1, .int bi), (2, .int pt)]) hx hb dX10_until_163 hl (k := 2) rfl (by rw [e_zq107_]; rfl) (by decide) rfl (fun ls hl => ?_)
                      have h_zq107_ : zq107_.toInt = yq87_.toInt + 1 := by rw [e_zq107_, iAdd (by have : (1 : Int32).toInt = 1 := rfl; omega) (by have : (1 : Int32).toInt = 1 := rfl; omega)]; rfl
                      refine lv_goto (tgt := 96) hx hb dX10_until_166 (by decide) ?_
                      exact ih zq106_ zq107_ _ _ ls (by have := iRg zq106_; have := iRg zq107_; omega) (by have := iRg zq106_; have := iRg zq107_; omega) (by have := iRg zq106_; have := iRg zq107_; omega) hc_h hc_al hH (lv_sub hl [0, 1, 3, 4, 5, 6] rfl)
            exact loop (Int.toNat (15 - zq85_.toInt)) (-1) zq85_ _ _ ls (by have : (-1 : Int32).toInt = -1 := rfl; have := iRg zq85_; omega) (by have : (-1 : Int32).toInt = -1 := rfl; have := iRg zq85_; omega) (by have : (-1 : Int32).toInt = -1 := rfl; have := iRg zq85_; omega) hc_h hc_al hH hl
        · skip
          have cq23_ : xq22_.toInt ≠ (-1) := cq23_
          refine lv_iconst (v := -1) hx hb dX10_until_50 (by decide) ?_
          exact ret_i hC hr hlk hK hH (⟨trivial, rfl, rfl⟩) (Nat.le_of_ble_eq_true rfl) (Nat.le_of_ble_eq_true rfl) dX10_until_51
    · skip
      have cq6_ : pt.toInt = 0 := cq6_
      refine lv_iconst (v := -1) hx hb dX10_until_13 (by decide) ?_
      exact ret_i hC hr hlk hK hH (⟨trivial, rfl, rfl⟩) (Nat.le_of_ble_eq_true rfl) (Nat.le_of_ble_eq_true rfl) dX10_until_14
  · skip
    have eT := eT.symm; subst eT
    have er_rq3_ := er_rq3_.symm; subst er_rq3_
    have eM := eM.symm; subst eM
    refine jif_eq (tgt := 13) hx hb dX10_until_6 (by decide) (fun cq108_ => ?_) (fun cq108_ => absurd cq108_ (by decide))
    refine lv_iconst (v := -1) hx hb dX10_until_13 (by decide) ?_
    exact ret_i hC hr hlk hK hH (⟨trivial, rfl, rfl⟩) (Nat.le_of_ble_eq_true rfl) (Nat.le_of_ble_eq_true rfl) dX10_until_14
set_option maxHeartbeats 4000000 in
set_option maxRecDepth 100000 in
theorem c_X10_sorts {l : Launch} {D : va_G} {kA : Nat → ClassId} {M : mM} {T : mT} {sz : Nat} {h al mt ii pa li : Nat} {ta fpm sm nx tk pl ln wr : Int32} {va : Int64} {f : Nat → Int32} {bi so : Int32} (hc_h : M h = some (.inr (8, [.ref al, .ref mt, .ref ii, .int ta, .int fpm, .ref pa, .int sm, .int nx, .int tk, .int pl, .int ln, .long va, .int wr, .ref li]))) (hn_h : T h = none) (hc_al : M al = some (.inl (kA 0, 7506, .inl f))) (hn_al : T al = none) (ht_mt : T mt = some 11) (ht_pa : T pa = some 13) (ht_li : T li = some 14) (hR_f : Rng f) : mCi l yX10_sorts cX10_sorts 6 (some .int) 2 0 0 D kA M T sz [.ref h, .int bi, .int so] (fun r u => (True) ∧ u.2 = T ∧ u.1 = M) := by
  unfold mCi
  refine start_W (by decide) (Nat.le_of_ble_eq_true rfl) ?_
  intro p e s m below meth c ls hC hr hlk hnm hK hH hsz hl
  have hx := hC.1
  have hb := hC.2.1
  have hl : lv_has ls 6 [(0, .ref h), (1, .int bi), (2, .int so)] := hl
  have n_h_al : h ≠ al := neM hc_h hc_al (by simp)
  have n_al_h : al ≠ h := neM hc_al hc_h (by simp)
  have hK_f : Ke f f := Ke.rf
  refine lv_aload_n hx hb dX10_sorts_0 rfl (lv_at hl 0 rfl) ?_
  refine lv_iload_n hx hb dX10_sorts_1 rfl (lv_at hl 1 rfl) ?_
  refine goI hK hH (runV (As := [.int bi]) (rest := []) hC hK hH (c_X10_isBill hc_h hn_h hc_al hn_al ht_mt ht_pa ht_li (by exact hR_f)) mlX10_116 (rcvM hK hH hc_h rfl) ⟨⟨Nat.le_of_ble_eq_true rfl, Nat.le_of_ble_eq_true rfl⟩, Nat.le_of_ble_eq_true rfl, Nat.le_of_ble_eq_true rfl⟩ rfl hl.1 rfl (Nat.le_of_ble_eq_true rfl) dX10_sorts_2) (fun rq3_ Mq1_ Tq2_ Hq_ lcq_ hP hz hH => ?_)
  try dsimp only at hP
  obtain ⟨(⟨cq4_, er_rq3_⟩ | er_rq3_), eT, eM⟩ := hP
  · skip
    have eT := eT.symm; subst eT
    have er_rq3_ := er_rq3_.symm; subst er_rq3_
    have eM := eM.symm; subst eM
    have cq4_ : 0 ≤ bi.toInt ∧ bi.toInt ≤ 3 := cq4_
    refine jif_ne (tgt := 11) hx hb dX10_sorts_5 (by decide) (fun cq5_ => ?_) (fun cq5_ => absurd cq5_ (by decide))
    refine lv_iconst (v := 0) hx hb dX10_sorts_11 (by decide) ?_
    refine lv_iload_n hx hb dX10_sorts_12 rfl (lv_at hl 1 rfl) ?_
    obtain ⟨nq6_, hn_nq6_⟩ : ∃ n : Nat, bi.toInt = (n : Int) := ⟨(bi.toInt).toNat, by omega⟩
    refine goI hK hH (runS (As := [.int 0, .int bi]) (rest := []) hC hK hH (c_X10_at (by decide) (by omega)) mlX10_109 ⟨⟨Nat.le_of_ble_eq_true rfl, Nat.le_of_ble_eq_true rfl⟩, Nat.le_of_ble_eq_true rfl, Nat.le_of_ble_eq_true rfl⟩ rfl hl.1 rfl (Nat.le_of_ble_eq_true rfl) dX10_sorts_13) (fun rq9_ Mq7_ Tq8_ Hq_ lcq_ hP hz hH => ?_)
    try dsimp only at hP
    obtain ⟨(⟨cq10_, ⟨l_rq9_, g_rq9_⟩⟩), eT, eM⟩ := hP
    have eT := eT.symm; subst eT
    have eM := eM.symm; subst eM
    have cq10_ : rq9_.toInt = (0 : Int) + 20 + 280 * bi.toInt := cq10_
    obtain ⟨nq11_, hn_nq11_⟩ : ∃ n : Nat, n = 1140 * 0 + 20 + 280 * nq6_ := ⟨_, rfl⟩
    have hx_rq9_ : rq9_.toInt = (nq11_ : Int) := by have : (0 : Int32).toInt = 0 := rfl; omega
    refine lv_istore_n (lv' := [(3, .int rq9_), (0, .ref h), (1, .int bi), (2, .int so)]) hx hb dX10_sorts_16 rfl hl (by decide) rfl (fun ls hl => ?_)
    refine lv_iconst (v := 0) hx hb dX10_sorts_17 (by decide) ?_
    refine lv_istore (lv' := [(4, .int 0), (3, .int rq9_), (0, .ref h), (1, .int bi), (2, .int so)]) hx hb dX10_sorts_18 hl (by decide) rfl (fun ls hl => ?_)
    refine lv_iconst (v := 0) hx hb dX10_sorts_20 (by decide) ?_
    refine lv_istore (lv' := [(5, .int 0), (4, .int 0), (3, .int rq9_), (0, .ref h), (1, .int bi), (2, .int so)]) hx hb dX10_sorts_21 hl (by decide) rfl (fun ls hl => ?_)
    have loop : ∀ (n : Nat) (yq12_ : Int32) (yq13_ : Int32) (Hq_ : Heap) (lcq_ : List Loc) (ls : Array Slot), 13 - yq13_.toInt ≤ (n : Int) → (0 : Int) ≤ yq13_.toInt → yq13_.toInt ≤ 12 → M h = some (.inr (8, [.ref al, .ref mt, .ref ii, .int ta, .int fpm, .ref pa, .int sm, .int nx, .int tk, .int pl, .int ln, .long va, .int wr, .ref li])) → M al = some (.inl (kA 0, 7506, .inl f)) → mS D kA M T (mA M T sz) s.heap Hq_ lcq_ → lv_has ls 6 [(5, .int yq13_), (4, .int yq12_), (3, .int rq9_), (0, .ref h), (1, .int bi), (2, .int so)] → W p l e (rmL 2 0 0) s m ([.ref h, .int bi, .int so] : List Value).toArray below meth c Hq_ lcq_ 0 0 (MQ below (va_Qi (fun r u => (True) ∧ u.2 = T ∧ u.1 = M) (mB D kA M T sz) (mA M T sz)) ([.ref h, .int bi, .int so] : List Value).toArray s 0 0 (mA M T sz)) (F0 m 23 ls []) := by
      intro n
      induction n with
      | zero =>
        intro yq12_ yq13_ Hq_ lcq_ ls hme l_yq13_ g_yq13_ hc_h hc_al hH hl
        exfalso; omega
      | succ n ih =>
        intro yq12_ yq13_ Hq_ lcq_ ls hme l_yq13_ g_yq13_ hc_h hc_al hH hl
        refine lv_iload hx hb dX10_sorts_23 (lv_at hl 0 rfl) ?_
        refine lv_aload_n hx hb dX10_sorts_25 rfl (lv_at hl 3 rfl) ?_
        refine xg hC hK hH flX10_7 hc_h rfl dX10_sorts_26 ?_
        refine lv_iload_n hx hb dX10_sorts_29 rfl (lv_at hl 2 rfl) ?_
        refine lv_bipush (v := 8) hx hb dX10_sorts_30 (by decide) ?_
        refine lv_iadd hx hb dX10_sorts_32 ?_
        refine lv_topi (fun zq14_ e_zq14_ => ?_)
        have h_zq14_ : zq14_.toInt = rq9_.toInt + 8 := by rw [e_zq14_, iAdd (by have := iRg rq9_; have : (8 : Int32).toInt = 8 := rfl; omega) (by have := iRg rq9_; have : (8 : Int32).toInt = 8 := rfl; omega)]; rfl
        refine xild hC hK hH hc_al (iIn (by omega) (by omega)) dX10_sorts_33 ?_
        refine lv_topi (fun xq15_ e_xq15_ => ?_)
        have k_xq15_ : xq15_ = f (nq11_ + 8) := by rw [e_xq15_, clE (n := nq11_ + 8) (by omega)]
        have kt_xq15_ : xq15_.toInt = (f (nq11_ + 8)).toInt := by rw [k_xq15_]
        have rr_xq15_ : (0 : Int) ≤ (f (nq11_ + 8)).toInt ∧ (f (nq11_ + 8)).toInt ≤ 12 := hR_f.rO 8 (t := 0) (b := nq6_) (xn := nq11_) (by omega) (by omega) (by omega) (by decide) rfl
        have l_xq15_ : (0 : Int) ≤ xq15_.toInt := by rw [kt_xq15_, show nq11_ + 8 = nq11_ + 8 from by omega]; exact rr_xq15_.1
        have g_xq15_ : xq15_.toInt ≤ 12 := by rw [kt_xq15_, show nq11_ + 8 = nq11_ + 8 from by omega]; exact rr_xq15_.2
        refine jic_ge (tgt := 101) hx hb dX10_sorts_34 (by decide) (fun cq16_ => ?_) (fun cq16_ => ?_)
        · skip
          have cq16_ : xq15_.toInt ≤ yq13_.toInt := cq16_
          refine lv_iload_n hx hb dX10_sorts_101 rfl (lv_at hl 5 rfl) ?_
          refine lv_iconst (v := 0) hx hb dX10_sorts_102 (by decide) ?_
          refine lv_iconst (v := 5) hx hb dX10_sorts_103 (by decide) ?_
          refine goI hK hH (runS (As := [.int so, .int 0, .int 5]) (rest := []) hC hK hH (c_X10_isIn) mlX10_33 ⟨⟨Nat.le_of_ble_eq_true rfl, Nat.le_of_ble_eq_true rfl⟩, Nat.le_of_ble_eq_true rfl, Nat.le_of_ble_eq_true rfl⟩ rfl hl.1 rfl (Nat.le_of_ble_eq_true rfl) dX10_sorts_104) (fun rq19_ Mq17_ Tq18_ Hq_ lcq_ hP hz hH => ?_)
          try dsimp only at hP
          obtain ⟨(⟨cq20_, er_rq19_⟩ | ⟨cq21_, er_rq19_⟩), eT, eM⟩ := hP
          · skip
            have eT := eT.symm; subst eT
            have er_rq19_ := er_rq19_.symm; subst er_rq19_
            have eM := eM.symm; subst eM
            have cq20_ : (0 : Int) ≤ so.toInt ∧ so.toInt ≤ (5 : Int) := cq20_
            refine jif_eq (tgt := 115) hx hb dX10_sorts_107 (by decide) (fun cq22_ => absurd cq22_ (by decide)) (fun cq22_ => ?_)
            refine lv_iload hx hb dX10_sorts_110 (lv_at hl 1 rfl) ?_
            refine lv_goto (tgt := 117) hx hb dX10_sorts_112 (by decide) ?_
            exact ret_i hC hr hlk hK hH (⟨trivial, rfl, rfl⟩) (Nat.le_of_ble_eq_true rfl) (Nat.le_of_ble_eq_true rfl) dX10_sorts_117
          · skip
            have eT := eT.symm; subst eT
            have er_rq19_ := er_rq19_.symm; subst er_rq19_
            have eM := eM.symm; subst eM
            have cq21_ : ¬ ((0 : Int) ≤ so.toInt ∧ so.toInt ≤ (5 : Int)) := cq21_
            refine jif_eq (tgt := 115) hx hb dX10_sorts_107 (by decide) (fun cq23_ => ?_) (fun cq23_ => absurd cq23_ (by decide))
            refine lv_bipush (v := -2) hx hb dX10_sorts_115 (by decide) ?_
            exact ret_i hC hr hlk hK hH (⟨trivial, rfl, rfl⟩) (Nat.le_of_ble_eq_true rfl) (Nat.le_of_ble_eq_true rfl) dX10_sorts_117
        · skip
          have cq16_ : yq13_.toInt < xq15_.toInt := cq16_
          refine lv_iload hx hb dX10_sorts_37 (lv_at hl 1 rfl) ?_
          refine lv_iload_n hx hb dX10_sorts_39 rfl (lv_at hl 5 rfl) ?_
          refine lv_iconst (v := 5) hx hb dX10_sorts_40 (by decide) ?_
          refine jic_ne (tgt := 61) hx hb dX10_sorts_41 (by decide) (fun cq24_ => ?_) (fun cq24_ => ?_)
          · skip
            have cq24_ : so.toInt ≠ 5 := cq24_
            refine lv_iload_n hx hb dX10_sorts_61 rfl (lv_at hl 5 rfl) ?_
            refine jif_lt (tgt := 91) hx hb dX10_sorts_62 (by decide) (fun cq25_ => ?_) (fun cq25_ => ?_)
            · skip
              have cq25_ : so.toInt < 0 := cq25_
              refine lv_iconst (v := 0) hx hb dX10_sorts_91 (by decide) ?_
              refine lv_iadd hx hb dX10_sorts_92 ?_
              refine lv_topi (fun zq26_ e_zq26_ => ?_)
              have h_zq26_ : zq26_.toInt = yq12_.toInt + 0 := by rw [e_zq26_, iAdd (by have := iRg yq12_; have : (0 : Int32).toInt = 0 := rfl; omega) (by have := iRg yq12_; have : (0 : Int32).toInt = 0 := rfl; omega)]; rfl
              refine lv_istore (lv' := [(4, .int zq26_), (5, .int yq13_), (3, .int rq9_), (0, .ref h), (1, .int bi), (2, .int so)]) hx hb dX10_sorts_93 hl (by decide) rfl (fun ls hl => ?_)
              obtain ⟨zq27_, e_zq27_⟩ : ∃ y : Int32, y = yq13_ + 1 := ⟨_, rfl⟩
              refine lv_iinc (v := zq27_) (lv' := [(5, .int zq27_), (4, .int zq26_), (3, .int rq9_), (0, .ref h), (1, .int bi), (2, .int so)]) hx hb dX10_sorts_95 hl (k := 1) rfl (by rw [e_zq27_]; rfl) (by decide) rfl (fun ls hl => ?_)
              have h_zq27_ : zq27_.toInt = yq13_.toInt + 1 := by rw [e_zq27_, iAdd (by have : (1 : Int32).toInt = 1 := rfl; omega) (by have : (1 : Int32).toInt = 1 := rfl; omega)]; rfl
              refine lv_goto (tgt := 23) hx hb dX10_sorts_98 (by decide) ?_
              exact ih zq26_ zq27_ _ _ ls (by have := iRg zq26_; have := iRg zq27_; omega) (by have := iRg zq26_; have := iRg zq27_; omega) (by have := iRg zq26_; have := iRg zq27_; omega) hc_h hc_al hH (lv_sub hl [0, 1, 2, 3, 4, 5] rfl)
            · skip
              have cq25_ : 0 ≤ so.toInt := cq25_
              refine lv_iload_n hx hb dX10_sorts_65 rfl (lv_at hl 5 rfl) ?_
              refine lv_iconst (v := 5) hx hb dX10_sorts_66 (by decide) ?_
              refine jic_ge (tgt := 91) hx hb dX10_sorts_67 (by decide) (fun cq28_ => ?_) (fun cq28_ => ?_)
              · skip
                have cq28_ : 5 ≤ so.toInt := cq28_
                refine lv_iconst (v := 0) hx hb dX10_sorts_91 (by decide) ?_
                refine lv_iadd hx hb dX10_sorts_92 ?_
                refine lv_topi (fun zq29_ e_zq29_ => ?_)
                have h_zq29_ : zq29_.toInt = yq12_.toInt + 0 := by rw [e_zq29_, iAdd (by have := iRg yq12_; have : (0 : Int32).toInt = 0 := rfl; omega) (by have := iRg yq12_; have : (0 : Int32).toInt = 0 := rfl; omega)]; rfl
                refine lv_istore (lv' := [(4, .int zq29_), (5, .int yq13_), (3, .int rq9_), (0, .ref h), (1, .int bi), (2, .int so)]) hx hb dX10_sorts_93 hl (by decide) rfl (fun ls hl => ?_)
                obtain ⟨zq30_, e_zq30_⟩ : ∃ y : Int32, y = yq13_ + 1 := ⟨_, rfl⟩
                refine lv_iinc (v := zq30_) (lv' := [(5, .int zq30_), (4, .int zq29_), (3, .int rq9_), (0, .ref h), (1, .int bi), (2, .int so)]) hx hb dX10_sorts_95 hl (k := 1) rfl (by rw [e_zq30_]; rfl) (by decide) rfl (fun ls hl => ?_)
                have h_zq30_ : zq30_.toInt = yq13_.toInt + 1 := by rw [e_zq30_, iAdd (by have : (1 : Int32).toInt = 1 := rfl; omega) (by have : (1 : Int32).toInt = 1 := rfl; omega)]; rfl
                refine lv_goto (tgt := 23) hx hb dX10_sorts_98 (by decide) ?_
                exact ih zq29_ zq30_ _ _ ls (by have := iRg zq29_; have := iRg zq30_; omega) (by have := iRg zq29_; have := iRg zq30_; omega) (by have := iRg zq29_; have := iRg zq30_; omega) hc_h hc_al hH (lv_sub hl [0, 1, 2, 3, 4, 5] rfl)
              · skip
                have cq28_ : so.toInt < 5 := cq28_
                refine lv_aload_n hx hb dX10_sorts_70 rfl (lv_at hl 3 rfl) ?_
                refine xg hC hK hH flX10_7 hc_h rfl dX10_sorts_71 ?_
                refine lv_iload_n hx hb dX10_sorts_74 rfl (lv_at hl 2 rfl) ?_
                refine lv_iload hx hb dX10_sorts_75 (lv_at hl 0 rfl) ?_
                obtain ⟨nq31_, hn_nq31_⟩ : ∃ n : Nat, yq13_.toInt = (n : Int) := ⟨(yq13_.toInt).toNat, by omega⟩
                refine goI hK hH (runS (As := [.int rq9_, .int yq13_]) (rest := [.ref al, .int yq12_]) hC hK hH (c_X10_stepAt (by omega) (by omega)) mlX10_37 ⟨⟨Nat.le_of_ble_eq_true rfl, Nat.le_of_ble_eq_true rfl⟩, Nat.le_of_ble_eq_true rfl, Nat.le_of_ble_eq_true rfl⟩ rfl hl.1 rfl (Nat.le_of_ble_eq_true rfl) dX10_sorts_77) (fun rq34_ Mq32_ Tq33_ Hq_ lcq_ hP hz hH => ?_)
                try dsimp only at hP
                obtain ⟨(⟨cq35_, ⟨l_rq34_, g_rq34_⟩⟩), eT, eM⟩ := hP
                have eT := eT.symm; subst eT
                have eM := eM.symm; subst eM
                have cq35_ : rq34_.toInt = rq9_.toInt + 40 + 12 * yq13_.toInt := cq35_
                have hx_rq34_ : rq34_.toInt = ((nq11_ + 40 + 12 * nq31_ : Nat) : Int) := by omega
                refine lv_iconst (v := 0) hx hb dX10_sorts_80 (by decide) ?_
                refine lv_iadd hx hb dX10_sorts_81 ?_
                refine lv_topi (fun zq36_ e_zq36_ => ?_)
                have h_zq36_ : zq36_.toInt = rq34_.toInt + 0 := by rw [e_zq36_, iAdd (by have := iRg rq34_; have : (0 : Int32).toInt = 0 := rfl; omega) (by have := iRg rq34_; have : (0 : Int32).toInt = 0 := rfl; omega)]; rfl
                refine xild hC hK hH hc_al (iIn (by omega) (by omega)) dX10_sorts_82 ?_
                refine lv_topi (fun xq37_ e_xq37_ => ?_)
                have k_xq37_ : xq37_ = f (nq11_ + 40 + 12 * nq31_) := by rw [e_xq37_, clE (n := nq11_ + 40 + 12 * nq31_) (by omega)]
                have kt_xq37_ : xq37_.toInt = (f (nq11_ + 40 + 12 * nq31_)).toInt := by rw [k_xq37_]
                refine lv_iload_n hx hb dX10_sorts_83 rfl (lv_at hl 5 rfl) ?_
                refine jic_ne (tgt := 91) hx hb dX10_sorts_84 (by decide) (fun cq38_ => ?_) (fun cq38_ => ?_)
                · skip
                  have cq38_ : xq37_.toInt ≠ so.toInt := cq38_
                  refine lv_iconst (v := 0) hx hb dX10_sorts_91 (by decide) ?_
                  refine lv_iadd hx hb dX10_sorts_92 ?_
                  refine lv_topi (fun zq39_ e_zq39_ => ?_)
                  have h_zq39_ : zq39_.toInt = yq12_.toInt + 0 := by rw [e_zq39_, iAdd (by have := iRg yq12_; have : (0 : Int32).toInt = 0 := rfl; omega) (by have := iRg yq12_; have : (0 : Int32).toInt = 0 := rfl; omega)]; rfl
                  refine lv_istore (lv' := [(4, .int zq39_), (5, .int yq13_), (3, .int rq9_), (0, .ref h), (1, .int bi), (2, .int so)]) hx hb dX10_sorts_93 hl (by decide) rfl (fun ls hl => ?_)
                  obtain ⟨zq40_, e_zq40_⟩ : ∃ y : Int32, y = yq13_ + 1 := ⟨_, rfl⟩
                  refine lv_iinc (v := zq40_) (lv' := [(5, .int zq40_), (4, .int zq39_), (3, .int rq9_), (0, .ref h), (1, .int bi), (2, .int so)]) hx hb dX10_sorts_95 hl (k := 1) rfl (by rw [e_zq40_]; rfl) (by decide) rfl (fun ls hl => ?_)
                  have h_zq40_ : zq40_.toInt = yq13_.toInt + 1 := by rw [e_zq40_, iAdd (by have : (1 : Int32).toInt = 1 := rfl; omega) (by have : (1 : Int32).toInt = 1 := rfl; omega)]; rfl
                  refine lv_goto (tgt := 23) hx hb dX10_sorts_98 (by decide) ?_
                  exact ih zq39_ zq40_ _ _ ls (by have := iRg zq39_; have := iRg zq40_; omega) (by have := iRg zq39_; have := iRg zq40_; omega) (by have := iRg zq39_; have := iRg zq40_; omega) hc_h hc_al hH (lv_sub hl [0, 1, 2, 3, 4, 5] rfl)
                · skip
                  have cq38_ : xq37_.toInt = so.toInt := cq38_
                  refine lv_iconst (v := 1) hx hb dX10_sorts_87 (by decide) ?_
                  refine lv_goto (tgt := 92) hx hb dX10_sorts_88 (by decide) ?_
                  refine lv_iadd hx hb dX10_sorts_92 ?_
                  refine lv_topi (fun zq41_ e_zq41_ => ?_)
                  refine lv_istore (lv' := [(4, .int zq41_), (5, .int yq13_), (3, .int rq9_), (0, .ref h), (1, .int bi), (2, .int so)]) hx hb dX10_sorts_93 hl (by decide) rfl (fun ls hl => ?_)
                  obtain ⟨zq42_, e_zq42_⟩ : ∃ y : Int32, y = yq13_ + 1 := ⟨_, rfl⟩
                  refine lv_iinc (v := zq42_) (lv' := [(5, .int zq42_), (4, .int zq41_), (3, .int rq9_), (0, .ref h), (1, .int bi), (2, .int so)]) hx hb dX10_sorts_95 hl (k := 1) rfl (by rw [e_zq42_]; rfl) (by decide) rfl (fun ls hl => ?_)
                  have h_zq42_ : zq42_.toInt = yq13_.toInt + 1 := by rw [e_zq42_, iAdd (by have : (1 : Int32).toInt = 1 := rfl; omega) (by have : (1 : Int32).toInt = 1 := rfl; omega)]; rfl
                  refine lv_goto (tgt := 23) hx hb dX10_sorts_98 (by decide) ?_
                  exact ih zq41_ zq42_ _ _ ls (by have := iRg zq41_; have := iRg zq42_; omega) (by have := iRg zq41_; have := iRg zq42_; omega) (by have := iRg zq41_; have := iRg zq42_; omega) hc_h hc_al hH (lv_sub hl [0, 1, 2, 3, 4, 5] rfl)
          · skip
            have cq24_ : so.toInt = 5 := cq24_
            refine lv_aload_n hx hb dX10_sorts_44 rfl (lv_at hl 3 rfl) ?_
            refine xg hC hK hH flX10_7 hc_h rfl dX10_sorts_45 ?_
            refine lv_iload_n hx hb dX10_sorts_48 rfl (lv_at hl 2 rfl) ?_
            refine lv_iload hx hb dX10_sorts_49 (lv_at hl 0 rfl) ?_
            obtain ⟨nq43_, hn_nq43_⟩ : ∃ n : Nat, yq13_.toInt = (n : Int) := ⟨(yq13_.toInt).toNat, by omega⟩
            refine goI hK hH (runS (As := [.int rq9_, .int yq13_]) (rest := [.ref al, .int yq12_]) hC hK hH (c_X10_stepAt (by omega) (by omega)) mlX10_37 ⟨⟨Nat.le_of_ble_eq_true rfl, Nat.le_of_ble_eq_true rfl⟩, Nat.le_of_ble_eq_true rfl, Nat.le_of_ble_eq_true rfl⟩ rfl hl.1 rfl (Nat.le_of_ble_eq_true rfl) dX10_sorts_51) (fun rq46_ Mq44_ Tq45_ Hq_ lcq_ hP hz hH => ?_)
            try dsimp only at hP
            obtain ⟨(⟨cq47_, ⟨l_rq46_, g_rq46_⟩⟩), eT, eM⟩ := hP
            have eT := eT.symm; subst eT
            have eM := eM.symm; subst eM
            have cq47_ : rq46_.toInt = rq9_.toInt + 40 + 12 * yq13_.toInt := cq47_
            have hx_rq46_ : rq46_.toInt = ((nq11_ + 40 + 12 * nq43_ : Nat) : Int) := by omega
            refine lv_bipush (v := 11) hx hb dX10_sorts_54 (by decide) ?_
            refine lv_iadd hx hb dX10_sorts_56 ?_
            refine lv_topi (fun zq48_ e_zq48_ => ?_)
            have h_zq48_ : zq48_.toInt = rq46_.toInt + 11 := by rw [e_zq48_, iAdd (by have := iRg rq46_; have : (11 : Int32).toInt = 11 := rfl; omega) (by have := iRg rq46_; have : (11 : Int32).toInt = 11 := rfl; omega)]; rfl
            refine xild hC hK hH hc_al (iIn (by omega) (by omega)) dX10_sorts_57 ?_
            refine lv_topi (fun xq49_ e_xq49_ => ?_)
            have k_xq49_ : xq49_ = f (nq11_ + 40 + 12 * nq43_ + 11) := by rw [e_xq49_, clE (n := nq11_ + 40 + 12 * nq43_ + 11) (by omega)]
            have kt_xq49_ : xq49_.toInt = (f (nq11_ + 40 + 12 * nq43_ + 11)).toInt := by rw [k_xq49_]
            refine lv_goto (tgt := 92) hx hb dX10_sorts_58 (by decide) ?_
            refine lv_iadd hx hb dX10_sorts_92 ?_
            refine lv_topi (fun zq50_ e_zq50_ => ?_)
            refine lv_istore (lv' := [(4, .int zq50_), (5, .int yq13_), (3, .int rq9_), (0, .ref h), (1, .int bi), (2, .int so)]) hx hb dX10_sorts_93 hl (by decide) rfl (fun ls hl => ?_)
            obtain ⟨zq51_, e_zq51_⟩ : ∃ y : Int32, y = yq13_ + 1 := ⟨_, rfl⟩
            refine lv_iinc (v := zq51_) (lv' := [(5, .int zq51_), (4, .int zq50_), (3, .int rq9_), (0, .ref h), (1, .int bi), (2, .int so)]) hx hb dX10_sorts_95 hl (k := 1) rfl (by rw [e_zq51_]; rfl) (by decide) rfl (fun ls hl => ?_)
            have h_zq51_ : zq51_.toInt = yq13_.toInt + 1 := by rw [e_zq51_, iAdd (by have : (1 : Int32).toInt = 1 := rfl; omega) (by have : (1 : Int32).toInt = 1 := rfl; omega)]; rfl
            refine lv_goto (tgt := 23) hx hb dX10_sorts_98 (by decide) ?_
            exact ih zq50_ zq51_ _ _ ls (by have := iRg zq50_; have := iRg zq51_; omega) (by have := iRg zq50_; have := iRg zq51_; omega) (by have := iRg zq50_; have := iRg zq51_; omega) hc_h hc_al hH (lv_sub hl [0, 1, 2, 3, 4, 5] rfl)
    exact loop (Int.toNat (13 - 0)) 0 0 _ _ ls (by have : (0 : Int32).toInt = 0 := rfl; have : (0 : Int32).toInt = 0 := rfl; omega) (by have : (0 : Int32).toInt = 0 := rfl; have : (0 : Int32).toInt = 0 := rfl; omega) (by have : (0 : Int32).toInt = 0 := rfl; have : (0 : Int32).toInt = 0 := rfl; omega) hc_h hc_al hH hl
  · skip
    have eT := eT.symm; subst eT
    have er_rq3_ := er_rq3_.symm; subst er_rq3_
    have eM := eM.symm; subst eM
    refine jif_ne (tgt := 11) hx hb dX10_sorts_5 (by decide) (fun cq52_ => absurd cq52_ (by decide)) (fun cq52_ => ?_)
    refine lv_bipush (v := -2) hx hb dX10_sorts_8 (by decide) ?_
    exact ret_i hC hr hlk hK hH (⟨trivial, rfl, rfl⟩) (Nat.le_of_ble_eq_true rfl) (Nat.le_of_ble_eq_true rfl) dX10_sorts_10
