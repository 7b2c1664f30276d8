set_option maxHeartbeats 4000000 in
set_option maxRecDepth 100000 in
theorem c_X10_rank {l : Launch} {D : va_G} {kA : Nat → ClassId} {M : mM} {T : mT} {sz : Nat} {h al mt ii pa li : Nat} {ta fpm sm nx tk pl ln wr : Int32} {va : Int64} {f : Nat → Int32} {x : Int32} {xn t b : Nat} (hc_h : M h = some (.inr (8, [.ref al, .ref mt, .ref ii, .int ta, .int fpm, .ref pa, .int sm, .int nx, .int tk, .int pl, .int ln, .long va, .int wr, .ref li]))) (hn_h : T h = none) (hc_al : M al = some (.inl (kA 0, 7506, .inl f))) (hn_al : T al = none) (ht_mt : T mt = some 11) (ht_pa : T pa = some 13) (ht_li : T li = some 14) (hR_f : Rng f) (hxt : t < 2) (hxb : b < 4) (hxn : xn = 1140 * t + 20 + 280 * b) (hxx : x.toInt = (xn : Int)) : mCi l yX10_rank cX10_rank 3 (some .int) 3 0 0 D kA M T sz [.ref h, .int x] (fun r u => (r.toInt = (rankF f xn : Int) ∧ (((1 : Int) ≤ r.toInt ∧ r.toInt ≤ 14))) ∧ u.2 = T ∧ u.1 = M) := by
  unfold mCi
  refine start_W (by decide) (Nat.le_of_ble_eq_true rfl) ?_
  intro p e s m below meth c ls hC hr hlk hnm hK hH hsz hl
  have hx := hC.1
  have hb := hC.2.1
  have hl : lv_has ls 3 [(0, .ref h), (1, .int x)] := hl
  have n_h_al : h ≠ al := neM hc_h hc_al (by simp)
  have n_al_h : al ≠ h := neM hc_al hc_h (by simp)
  have hK_f : Ke f f := Ke.rf
  refine lv_iconst (v := 1) hx hb dX10_rank_0 (by decide) ?_
  refine lv_istore_n (lv' := [(2, .int 1), (0, .ref h), (1, .int x)]) hx hb dX10_rank_1 rfl hl (by decide) rfl (fun ls hl => ?_)
  have h8 : (0 : Int) ≤ (f (xn + 8)).toInt ∧ (f (xn + 8)).toInt ≤ 12 := hR_f.rO 8 hxt hxb hxn (by decide) rfl
  have loop : ∀ (n : Nat) (yq1_ : Int32) (Hq_ : Heap) (lcq_ : List Loc) (ls : Array Slot), 15 - yq1_.toInt ≤ (n : Int) → (1 : Int) ≤ yq1_.toInt → yq1_.toInt ≤ 14 → (yq1_.toInt ≤ 2 + (f (xn + 8)).toInt) → (rankF f xn = rkF f xn (2 + (f (xn + 8)).toInt - yq1_.toInt).toNat (yq1_.toInt).toNat) → M h = some (.inr (8, [.ref al, .ref mt, .ref ii, .int ta, .int fpm, .ref pa, .int sm, .int nx, .int tk, .int pl, .int ln, .long va, .int wr, .ref li])) → M al = some (.inl (kA 0, 7506, .inl f)) → mS D kA M T (mA M T sz) s.heap Hq_ lcq_ → lv_has ls 3 [(2, .int yq1_), (0, .ref h), (1, .int x)] → W p l e (rmL 3 0 0) s m ([.ref h, .int x] : List Value).toArray below meth c Hq_ lcq_ 0 0 (MQ below (va_Qi (fun r u => (r.toInt = (rankF f xn : Int) ∧ (((1 : Int) ≤ r.toInt ∧ r.toInt ≤ 14))) ∧ u.2 = T ∧ u.1 = M) (mB D kA M T sz) (mA M T sz)) ([.ref h, .int x] : List Value).toArray s 0 0 (mA M T sz)) (F0 m 2 ls []) := by
    intro n
    induction n with
    | zero =>
      intro yq1_ Hq_ lcq_ ls hme l_yq1_ g_yq1_ hv0_yq1_ hw0_yq1_ hc_h hc_al hH hl
      exfalso; omega
    | succ n ih =>
      intro yq1_ Hq_ lcq_ ls hme l_yq1_ g_yq1_ hv0_yq1_ hw0_yq1_ hc_h hc_al hH hl
      refine lv_iload_n hx hb dX10_rank_2 rfl (lv_at hl 0 rfl) ?_
      refine lv_iconst (v := 1) hx hb dX10_rank_3 (by decide) ?_
      refine lv_aload_n hx hb dX10_rank_4 rfl (lv_at hl 1 rfl) ?_
      refine xg hC hK hH flX10_7 hc_h rfl dX10_rank_5 ?_
      refine lv_iload_n hx hb dX10_rank_8 rfl (lv_at hl 2 rfl) ?_
      refine lv_bipush (v := 8) hx hb dX10_rank_9 (by decide) ?_
      refine lv_iadd hx hb dX10_rank_11 ?_
      refine lv_topi (fun zq2_ e_zq2_ => ?_)
      have h_zq2_ : zq2_.toInt = x.toInt + 8 := by rw [e_zq2_, iAdd (by have := iRg x; have : (8 : Int32).toInt = 8 := rfl; omega) (by have := iRg x; have : (8 : Int32).toInt = 8 := rfl; omega)]; rfl
      refine xild hC hK hH hc_al (iIn (by omega) (by omega)) dX10_rank_12 ?_
      refine lv_topi (fun xq3_ e_xq3_ => ?_)
      have k_xq3_ : xq3_ = f (xn + 8) := by rw [e_xq3_, clE (n := xn + 8) (by omega)]
      have kt_xq3_ : xq3_.toInt = (f (xn + 8)).toInt := by rw [k_xq3_]
      have rr_xq3_ : (0 : Int) ≤ (f (xn + 8)).toInt ∧ (f (xn + 8)).toInt ≤ 12 := hR_f.rO 8 (t := t) (b := b) (xn := xn) (by omega) (by omega) (by omega) (by decide) rfl
      have l_xq3_ : (0 : Int) ≤ xq3_.toInt := by rw [kt_xq3_, show xn + 8 = xn + 8 from by omega]; exact rr_xq3_.1
      have g_xq3_ : xq3_.toInt ≤ 12 := by rw [kt_xq3_, show xn + 8 = xn + 8 from by omega]; exact rr_xq3_.2
      refine lv_iadd hx hb dX10_rank_13 ?_
      refine lv_topi (fun zq4_ e_zq4_ => ?_)
      have h_zq4_ : zq4_.toInt = 1 + xq3_.toInt := by rw [e_zq4_, iAdd (by have : (1 : Int32).toInt = 1 := rfl; have := iRg xq3_; omega) (by have : (1 : Int32).toInt = 1 := rfl; have := iRg xq3_; omega)]; rfl
      refine jic_gt (tgt := 52) hx hb dX10_rank_14 (by decide) (fun cq5_ => ?_) (fun cq5_ => ?_)
      · skip
        have cq5_ : zq4_.toInt < yq1_.toInt := cq5_
        refine lv_iconst (v := 2) hx hb dX10_rank_52 (by decide) ?_
        refine lv_aload_n hx hb dX10_rank_53 rfl (lv_at hl 1 rfl) ?_
        refine xg hC hK hH flX10_7 hc_h rfl dX10_rank_54 ?_
        refine lv_iload_n hx hb dX10_rank_57 rfl (lv_at hl 2 rfl) ?_
        refine lv_bipush (v := 8) hx hb dX10_rank_58 (by decide) ?_
        refine lv_iadd hx hb dX10_rank_60 ?_
        refine lv_cst (v := zq2_) e_zq2_.symm ?_
        refine xild hC hK hH hc_al (iIn (by omega) (by omega)) dX10_rank_61 ?_
        refine lv_topi (fun xq6_ e_xq6_ => ?_)
        have k_xq6_ : xq6_ = f (xn + 8) := by rw [e_xq6_, clE (n := xn + 8) (by omega)]
        have kt_xq6_ : xq6_.toInt = (f (xn + 8)).toInt := by rw [k_xq6_]
        have rr_xq6_ : (0 : Int) ≤ (f (xn + 8)).toInt ∧ (f (xn + 8)).toInt ≤ 12 := hR_f.rO 8 (t := t) (b := b) (xn := xn) (by omega) (by omega) (by omega) (by decide) rfl
        have l_xq6_ : (0 : Int) ≤ xq6_.toInt := by rw [kt_xq6_, show xn + 8 = xn + 8 from by omega]; exact rr_xq6_.1
        have g_xq6_ : xq6_.toInt ≤ 12 := by rw [kt_xq6_, show xn + 8 = xn + 8 from by omega]; exact rr_xq6_.2
        refine lv_iadd hx hb dX10_rank_62 ?_
        refine lv_topi (fun zq7_ e_zq7_ => ?_)
        have h_zq7_ : zq7_.toInt = 2 + xq6_.toInt := by rw [e_zq7_, iAdd (by have : (2 : Int32).toInt = 2 := rfl; have := iRg xq6_; omega) (by have : (2 : Int32).toInt = 2 := rfl; have := iRg xq6_; omega)]; rfl
        exact ret_i hC hr hlk hK hH (⟨⟨by rw [hw0_yq1_, show (2 + (f (xn + 8)).toInt - yq1_.toInt).toNat = 0 from by omega]; show _ = ((yq1_.toInt.toNat : Nat) : Int); omega, ⟨by omega, by omega⟩⟩, rfl, rfl⟩) (Nat.le_of_ble_eq_true rfl) (Nat.le_of_ble_eq_true rfl) dX10_rank_63
      · skip
        have cq5_ : yq1_.toInt ≤ zq4_.toInt := cq5_
        refine lv_aload_n hx hb dX10_rank_17 rfl (lv_at hl 1 rfl) ?_
        refine lv_iload_n hx hb dX10_rank_18 rfl (lv_at hl 2 rfl) ?_
        refine lv_iload_n hx hb dX10_rank_19 rfl (lv_at hl 0 rfl) ?_
        obtain ⟨nq8_, hn_nq8_⟩ : ∃ n : Nat, yq1_.toInt = (n : Int) := ⟨(yq1_.toInt).toNat, by omega⟩
        refine goI hK hH (runV (As := [.int x, .int yq1_]) (rest := []) hC hK hH (c_X10_hasSigned hc_h hn_h hc_al hn_al ht_mt ht_pa ht_li (by exact hR_f) (by omega) (by omega) (by omega) (by omega) (by omega) (by omega)) mlX10_66 (rcvM hK hH hc_h rfl) ⟨⟨Nat.le_of_ble_eq_true rfl, Nat.le_of_ble_eq_true rfl⟩, Nat.le_of_ble_eq_true rfl, Nat.le_of_ble_eq_true rfl⟩ rfl hl.1 rfl (Nat.le_of_ble_eq_true rfl) dX10_rank_20) (fun rq11_ Mq9_ Tq10_ Hq_ lcq_ hP hz hH => ?_)
        try dsimp only at hP
        obtain ⟨(⟨cq12_, er_rq11_⟩ | ⟨cq13_, er_rq11_⟩), eT, eM⟩ := hP
        · skip
          have eT := eT.symm; subst eT
          have er_rq11_ := er_rq11_.symm; subst er_rq11_
          have eM := eM.symm; subst eM
          have cq12_ : sgnF f xn nq8_ := cq12_
          refine jif_eq (tgt := 46) hx hb dX10_rank_23 (by decide) (fun cq14_ => absurd cq14_ (by decide)) (fun cq14_ => ?_)
          refine lv_aload_n hx hb dX10_rank_26 rfl (lv_at hl 1 rfl) ?_
          refine lv_iload_n hx hb dX10_rank_27 rfl (lv_at hl 2 rfl) ?_
          refine lv_iload_n hx hb dX10_rank_28 rfl (lv_at hl 0 rfl) ?_
          refine goI hK hH (runV (As := [.int x, .int yq1_]) (rest := []) hC hK hH (c_X10_who hc_h hn_h hc_al hn_al ht_mt ht_pa ht_li (by exact hR_f) (by omega) (by omega) (by omega) (by omega) (by omega) (by omega)) mlX10_41 (rcvM hK hH hc_h rfl) ⟨⟨Nat.le_of_ble_eq_true rfl, Nat.le_of_ble_eq_true rfl⟩, Nat.le_of_ble_eq_true rfl, Nat.le_of_ble_eq_true rfl⟩ rfl hl.1 rfl (Nat.le_of_ble_eq_true rfl) dX10_rank_29) (fun rq17_ Mq15_ Tq16_ Hq_ lcq_ hP hz hH => ?_)
          try dsimp only at hP
          obtain ⟨(⟨cq18_, ⟨l_rq17_, g_rq17_⟩⟩), eT, eM⟩ := hP
          have eT := eT.symm; subst eT
          have eM := eM.symm; subst eM
          have cq18_ : rq17_.toInt = whoI f xn nq8_ := cq18_
          refine lv_aload_n hx hb dX10_rank_32 rfl (lv_at hl 1 rfl) ?_
          refine xg hC hK hH flX10_7 hc_h rfl dX10_rank_33 ?_
          refine lv_iload_n hx hb dX10_rank_36 rfl (lv_at hl 2 rfl) ?_
          refine lv_bipush (v := 7) hx hb dX10_rank_37 (by decide) ?_
          refine lv_iadd hx hb dX10_rank_39 ?_
          refine lv_topi (fun zq19_ e_zq19_ => ?_)
          have h_zq19_ : zq19_.toInt = x.toInt + 7 := by rw [e_zq19_, iAdd (by have := iRg x; have : (7 : Int32).toInt = 7 := rfl; omega) (by have := iRg x; have : (7 : Int32).toInt = 7 := rfl; omega)]; rfl
          refine xild hC hK hH hc_al (iIn (by omega) (by omega)) dX10_rank_40 ?_
          refine lv_topi (fun xq20_ e_xq20_ => ?_)
          have k_xq20_ : xq20_ = f (xn + 7) := by rw [e_xq20_, clE (n := xn + 7) (by omega)]
          have kt_xq20_ : xq20_.toInt = (f (xn + 7)).toInt := by rw [k_xq20_]
          have rr_xq20_ : (0 : Int) ≤ (f (xn + 7)).toInt ∧ (f (xn + 7)).toInt ≤ 7 := hR_f.rO 7 (t := t) (b := b) (xn := xn) (by omega) (by omega) (by omega) (by decide) rfl
          have l_xq20_ : (0 : Int) ≤ xq20_.toInt := by rw [kt_xq20_, show xn + 7 = xn + 7 from by omega]; exact rr_xq20_.1
          have g_xq20_ : xq20_.toInt ≤ 7 := by rw [kt_xq20_, show xn + 7 = xn + 7 from by omega]; exact rr_xq20_.2
          refine jic_ne (tgt := 46) hx hb dX10_rank_41 (by decide) (fun cq21_ => ?_) (fun cq21_ => ?_)
          · skip
            have cq21_ : rq17_.toInt ≠ xq20_.toInt := cq21_
            obtain ⟨zq22_, e_zq22_⟩ : ∃ y : Int32, y = yq1_ + 1 := ⟨_, rfl⟩
            refine lv_iinc (v := zq22_) (lv' := [(2, .int zq22_), (0, .ref h), (1, .int x)]) hx hb dX10_rank_46 hl (k := 0) rfl (by rw [e_zq22_]; rfl) (by decide) rfl (fun ls hl => ?_)
            have h_zq22_ : zq22_.toInt = yq1_.toInt + 1 := by rw [e_zq22_, iAdd (by have : (1 : Int32).toInt = 1 := rfl; omega) (by have : (1 : Int32).toInt = 1 := rfl; omega)]; rfl
            refine lv_goto (tgt := 2) hx hb dX10_rank_49 (by decide) ?_
            exact ih zq22_ _ _ ls (by have := iRg zq22_; omega) (by have := iRg zq22_; omega) (by have := iRg zq22_; omega) (by have := iRg zq22_; omega) (by rw [hw0_yq1_, show (2 + (f (xn + 8)).toInt - yq1_.toInt).toNat = (2 + (f (xn + 8)).toInt - zq22_.toInt).toNat + 1 from by omega, rk_miss (by rw [show (yq1_.toInt).toNat = nq8_ from by omega]; exact fun z => by first | exact absurd z.1 (by assumption) | (have := z.2; omega)), show (zq22_.toInt).toNat = (yq1_.toInt).toNat + 1 from by omega]) hc_h hc_al hH (lv_sub hl [0, 1, 2] rfl)
          · skip
            have cq21_ : rq17_.toInt = xq20_.toInt := cq21_
            refine lv_iload_n hx hb dX10_rank_44 rfl (lv_at hl 0 rfl) ?_
            exact ret_i hC hr hlk hK hH (⟨⟨by rw [hw0_yq1_, show (2 + (f (xn + 8)).toInt - yq1_.toInt).toNat = (1 + (f (xn + 8)).toInt - yq1_.toInt).toNat + 1 from by omega, rk_hit (by rw [show (yq1_.toInt).toNat = nq8_ from by omega]; exact ⟨by assumption, by omega⟩)]; omega, ⟨by omega, by omega⟩⟩, rfl, rfl⟩) (Nat.le_of_ble_eq_true rfl) (Nat.le_of_ble_eq_true rfl) dX10_rank_45
        · skip
          have eT := eT.symm; subst eT
          have er_rq11_ := er_rq11_.symm; subst er_rq11_
          have eM := eM.symm; subst eM
          have cq13_ : ¬ sgnF f xn nq8_ := cq13_
          refine jif_eq (tgt := 46) hx hb dX10_rank_23 (by decide) (fun cq23_ => ?_) (fun cq23_ => absurd cq23_ (by decide))
          obtain ⟨zq24_, e_zq24_⟩ : ∃ y : Int32, y = yq1_ + 1 := ⟨_, rfl⟩
          refine lv_iinc (v := zq24_) (lv' := [(2, .int zq24_), (0, .ref h), (1, .int x)]) hx hb dX10_rank_46 hl (k := 0) rfl (by rw [e_zq24_]; rfl) (by decide) rfl (fun ls hl => ?_)
          have h_zq24_ : zq24_.toInt = yq1_.toInt + 1 := by rw [e_zq24_, iAdd (by have : (1 : Int32).toInt = 1 := rfl; omega) (by have : (1 : Int32).toInt = 1 := rfl; omega)]; rfl
          refine lv_goto (tgt := 2) hx hb dX10_rank_49 (by decide) ?_
          exact ih zq24_ _ _ ls (by have := iRg zq24_; omega) (by have := iRg zq24_; omega) (by have := iRg zq24_; omega) (by have := iRg zq24_; omega) (by rw [hw0_yq1_, show (2 + (f (xn + 8)).toInt - yq1_.toInt).toNat = (2 + (f (xn + 8)).toInt - zq24_.toInt).toNat + 1 from by omega, rk_miss (by rw [show (yq1_.toInt).toNat = nq8_ from by omega]; exact fun z => by first | exact absurd z.1 (by assumption) | (have := z.2; omega)), show (zq24_.toInt).toNat = (yq1_.toInt).toNat + 1 from by omega]) hc_h hc_al hH (lv_sub hl [0, 1, 2] rfl)
  exact loop (Int.toNat (15 - 1)) 1 _ _ ls (by have : (1 : Int32).toInt = 1 := rfl; omega) (by have : (1 : Int32).toInt = 1 := rfl; omega) (by have : (1 : Int32).toInt = 1 := rfl; omega) (by have : (1 : Int32).toInt = 1 := rfl; omega) (by unfold rankF; rw [show (2 + (f (xn + 8)).toInt - (1 : Int32).toInt).toNat = (1 + (f (xn + 8)).toInt).toNat from by have : (1 : Int32).toInt = 1 := rfl; omega]; rfl) hc_h hc_al hH hl
set_option maxHeartbeats 4000000 in
set_option maxRecDepth 100000 in
theorem c_X10_isInTime {l : Launch} {D : va_G} {kA : Nat → ClassId} {M : mM} {T : mT} {sz : Nat} {h al mt ii pa li : Nat} {ta fpm sm nx tk pl ln wr : Int32} {va : Int64} {f : Nat → Int32} {bb dy : Int32} {t : Nat} (hc_h : M h = some (.inr (8, [.ref al, .ref mt, .ref ii, .int ta, .int fpm, .ref pa, .int sm, .int nx, .int tk, .int pl, .int ln, .long va, .int wr, .ref li]))) (hn_h : T h = none) (hc_al : M al = some (.inl (kA 0, 7506, .inl f))) (hn_al : T al = none) (ht_mt : T mt = some 11) (ht_pa : T pa = some 13) (ht_li : T li = some 14) (hR_f : Rng f) (hxt : t < 2) (hbb : bb.toInt = 1140 * (t : Int)) : mCi l yX10_isInTime cX10_isInTime 3 (some .boolean) 0 0 0 D kA M T sz [.ref h, .int bb, .int dy] (fun r u => ((r = 1) ∨ (r = 0)) ∧ u.2 = T ∧ u.1 = M) := by
  unfold mCi
  refine start_W (by decide) (Nat.le_of_ble_eq_true rfl) ?_
  intro p e s m below meth c ls hC hr hlk hnm hK hH hsz hl
  have hx := hC.1
  have hb := hC.2.1
  have hl : lv_has ls 3 [(0, .ref h), (1, .int bb), (2, .int dy)] := hl
  have n_h_al : h ≠ al := neM hc_h hc_al (by simp)
  have n_al_h : al ≠ h := neM hc_al hc_h (by simp)
  have hK_f : Ke f f := Ke.rf
  refine lv_aload_n hx hb dX10_isInTime_0 rfl (lv_at hl 0 rfl) ?_
  refine xg hC hK hH flX10_7 hc_h rfl dX10_isInTime_1 ?_
  refine lv_iload_n hx hb dX10_isInTime_4 rfl (lv_at hl 1 rfl) ?_
  refine lv_iconst (v := 0) hx hb dX10_isInTime_5 (by decide) ?_
  refine lv_iadd hx hb dX10_isInTime_6 ?_
  refine lv_topi (fun zq1_ e_zq1_ => ?_)
  have h_zq1_ : zq1_.toInt = bb.toInt + 0 := by rw [e_zq1_, iAdd (by have := iRg bb; have : (0 : Int32).toInt = 0 := rfl; omega) (by have := iRg bb; have : (0 : Int32).toInt = 0 := rfl; omega)]; rfl
  refine xild hC hK hH hc_al (iIn (by omega) (by omega)) dX10_isInTime_7 ?_
  refine lv_topi (fun xq2_ e_xq2_ => ?_)
  have k_xq2_ : xq2_ = f (1140 * t) := by rw [e_xq2_, clE (n := 1140 * t) (by omega)]
  have kt_xq2_ : xq2_.toInt = (f (1140 * t)).toInt := by rw [k_xq2_]
  refine lv_iload_n hx hb dX10_isInTime_8 rfl (lv_at hl 2 rfl) ?_
  refine lv_isub hx hb dX10_isInTime_9 ?_
  refine lv_topi (fun zq3_ e_zq3_ => ?_)
  refine lv_aload_n hx hb dX10_isInTime_10 rfl (lv_at hl 0 rfl) ?_
  refine xg hC hK hH flX10_7 hc_h rfl dX10_isInTime_11 ?_
  refine lv_iload_n hx hb dX10_isInTime_14 rfl (lv_at hl 1 rfl) ?_
  refine lv_iconst (v := 2) hx hb dX10_isInTime_15 (by decide) ?_
  refine lv_iadd hx hb dX10_isInTime_16 ?_
  refine lv_topi (fun zq4_ e_zq4_ => ?_)
  have h_zq4_ : zq4_.toInt = bb.toInt + 2 := by rw [e_zq4_, iAdd (by have := iRg bb; have : (2 : Int32).toInt = 2 := rfl; omega) (by have := iRg bb; have : (2 : Int32).toInt = 2 := rfl; omega)]; rfl
  refine xild hC hK hH hc_al (iIn (by omega) (by omega)) dX10_isInTime_17 ?_
  refine lv_topi (fun xq5_ e_xq5_ => ?_)
  have k_xq5_ : xq5_ = f (1140 * t + 2) := by rw [e_xq5_, clE (n := 1140 * t + 2) (by omega)]
  have kt_xq5_ : xq5_.toInt = (f (1140 * t + 2)).toInt := by rw [k_xq5_]
  refine jic_gt (tgt := 25) hx hb dX10_isInTime_18 (by decide) (fun cq6_ => ?_) (fun cq6_ => ?_)
  · skip
    have cq6_ : xq5_.toInt < zq3_.toInt := cq6_
    refine lv_iconst (v := 0) hx hb dX10_isInTime_25 (by decide) ?_
    exact ret_z hC hr hlk hK hH (by first | exact Or.inl rfl | exact Or.inr rfl | assumption) (⟨Or.inr (rfl), rfl, rfl⟩) (Nat.le_of_ble_eq_true rfl) (Nat.le_of_ble_eq_true rfl) dX10_isInTime_26
  · skip
    have cq6_ : zq3_.toInt ≤ xq5_.toInt := cq6_
    refine lv_iconst (v := 1) hx hb dX10_isInTime_21 (by decide) ?_
    refine lv_goto (tgt := 26) hx hb dX10_isInTime_22 (by decide) ?_
    exact ret_z hC hr hlk hK hH (by first | exact Or.inl rfl | exact Or.inr rfl | assumption) (⟨Or.inl (rfl), rfl, rfl⟩) (Nat.le_of_ble_eq_true rfl) (Nat.le_of_ble_eq_true rfl) dX10_isInTime_26
