set_option maxHeartbeats 4000000 in
set_option maxRecDepth 100000 in
theorem c_X10_pays {l : Launch} {D : va_G} {kA : Nat → ClassId} {M : mM} {T : mT} {sz : Nat} {h al mt ii pa li : Nat} {ta fpm sm nx tk pl ln wr : Int32} {va : Int64} {f : Nat → Int32} {x : Int32} {xn t b : Nat} {bb pt : Int32} {ptn : Nat} (hc_h : M h = some (.inr (8, [.ref al, .ref mt, .ref ii, .int ta, .int fpm, .ref pa, .int sm, .int nx, .int tk, .int pl, .int ln, .long va, .int wr, .ref li]))) (hn_h : T h = none) (hc_al : M al = some (.inl (kA 0, 7506, .inl f))) (hn_al : T al = none) (ht_mt : T mt = some 11) (ht_pa : T pa = some 13) (ht_li : T li = some 14) (hR_f : Rng f) (hxt : t < 2) (hxb : b < 4) (hxn : xn = 1140 * t + 20 + 280 * b) (hxx : x.toInt = (xn : Int)) (hbb : bb.toInt = 1140 * (t : Int)) (hptn : pt.toInt = (ptn : Int)) (hp13 : ptn ≤ 13) : mCi l yX10_pays cX10_pays 8 (some .int) 5 0 0 D kA M T sz [.ref h, .int bb, .int x, .int pt] (fun r u => ∃ g : Nat → Int32, (Rng g ∧ Ke f g ∧ (Lia f t xn ptn → CshF f t xn ptn → PayP f g xn ptn)) ∧ (((Lia f t xn ptn ∧ CshF f t xn ptn) ∧ r = 0 ∧ u.1 al = some (.inl (kA 0, 7506, .inl g))) ∨ ((¬ (Lia f t xn ptn ∧ CshF f t xn ptn)) ∧ (((1 : Int) ≤ r.toInt ∧ r.toInt ≤ 32)) ∧ u.1 al = some (.inl (kA 0, 7506, .inl g)))) ∧ u.2 = T ∧ (∀ q, FrK T q → q ≠ al → u.1 q = M q)) := by
  unfold mCi
  refine start_W (by decide) (Nat.le_of_ble_eq_true rfl) ?_
  intro p e s m below meth c ls hC hr hlk hnm hK hH hsz hl
  have hx := hC.1
  have hb := hC.2.1
  have hl : lv_has ls 8 [(0, .ref h), (1, .int bb), (2, .int x), (3, .int pt)] := hl
  have hF : ∀ q, FrK T q → q ≠ al → M q = M q := fun q _ _ => rfl
  have n_h_al : h ≠ al := neM hc_h hc_al (by simp)
  have n_al_h : al ≠ h := neM hc_al hc_h (by simp)
  have hK_f : Ke f f := Ke.rf
  have hp_f : Kp f f xn := Kp.rf
  have h8 : (0 : Int) ≤ (f (xn + 8)).toInt ∧ (f (xn + 8)).toInt ≤ 12 := hR_f.rO 8 hxt hxb hxn (by decide) rfl
  refine lv_aload_n hx hb dX10_pays_0 rfl (lv_at hl 0 rfl) ?_
  refine lv_iload_n hx hb dX10_pays_1 rfl (lv_at hl 1 rfl) ?_
  refine lv_iload_n hx hb dX10_pays_2 rfl (lv_at hl 2 rfl) ?_
  refine lv_iload_n hx hb dX10_pays_3 rfl (lv_at hl 3 rfl) ?_
  refine goI hK hH (runV (As := [.int bb, .int x, .int pt]) (rest := []) hC hK hH (c_X10_reason (xn := xn) (t := t) (b := b) (ptn := ptn) hc_h hn_h hc_al hn_al ht_mt ht_pa ht_li (by exact hR_f) (by omega) (by omega) (by omega) (by omega) (by omega) (by omega) (by omega)) mlX10_81 (rcvM hK hH hc_h rfl) ⟨⟨Nat.le_of_ble_eq_true rfl, Nat.le_of_ble_eq_true rfl⟩, Nat.le_of_ble_eq_true rfl, Nat.le_of_ble_eq_true rfl⟩ rfl hl.1 rfl (Nat.le_of_ble_eq_true rfl) dX10_pays_4) (fun rq3_ Mq1_ Tq2_ Hq_ lcq_ hP hz hH => ?_)
  try dsimp only at hP
  obtain ⟨(⟨cq4_, er_rq3_⟩ | ⟨cq5_, ⟨l_rq3_, g_rq3_⟩⟩), eT, eM⟩ := hP
  · skip
    have eT := eT.symm; subst eT
    have er_rq3_ := er_rq3_.symm; subst er_rq3_
    have eM := eM.symm; subst eM
    have cq4_ : Lia f t xn ptn := cq4_
    have hLia : Lia f t xn ptn := cq4_
    refine lv_istore (lv' := [(4, .int 0), (0, .ref h), (1, .int bb), (2, .int x), (3, .int pt)]) hx hb dX10_pays_7 hl (by decide) rfl (fun ls hl => ?_)
    refine lv_iload hx hb dX10_pays_9 (lv_at hl 0 rfl) ?_
    refine jif_le (tgt := 17) hx hb dX10_pays_11 (by decide) (fun cq6_ => ?_) (fun cq6_ => absurd cq6_ (by decide))
    refine lv_aload_n hx hb dX10_pays_17 rfl (lv_at hl 1 rfl) ?_
    refine lv_iload_n hx hb dX10_pays_18 rfl (lv_at hl 2 rfl) ?_
    refine lv_iload_n hx hb dX10_pays_19 rfl (lv_at hl 3 rfl) ?_
    refine lv_iload_n hx hb dX10_pays_20 rfl (lv_at hl 4 rfl) ?_
    refine goI hK hH (runV (As := [.int bb, .int x, .int pt]) (rest := []) hC hK hH (c_X10_hasCash (xn := xn) (t := t) (b := b) (ptn := ptn) hc_h hn_h hc_al hn_al ht_mt ht_pa ht_li (by exact hR_f) (by omega) (by omega) (by omega) (by omega) (by omega) (by omega) (by omega)) mlX10_85 (rcvM hK hH hc_h rfl) ⟨⟨Nat.le_of_ble_eq_true rfl, Nat.le_of_ble_eq_true rfl⟩, Nat.le_of_ble_eq_true rfl, Nat.le_of_ble_eq_true rfl⟩ rfl hl.1 rfl (Nat.le_of_ble_eq_true rfl) dX10_pays_21) (fun rq9_ Mq7_ Tq8_ Hq_ lcq_ hP hz hH => ?_)
    try dsimp only at hP
    obtain ⟨(⟨cq10_, er_rq9_⟩ | ⟨cq11_, er_rq9_⟩), eT, eM⟩ := hP
    · skip
      have eT := eT.symm; subst eT
      have er_rq9_ := er_rq9_.symm; subst er_rq9_
      have eM := eM.symm; subst eM
      have cq10_ : CshF f t xn ptn := cq10_
      have hCsh : CshF f t xn ptn := cq10_
      refine jif_ne (tgt := 30) hx hb dX10_pays_24 (by decide) (fun cq12_ => ?_) (fun cq12_ => absurd cq12_ (by decide))
      refine lv_aload_n hx hb dX10_pays_30 rfl (lv_at hl 1 rfl) ?_
      refine lv_iload_n hx hb dX10_pays_31 rfl (lv_at hl 3 rfl) ?_
      refine lv_iload_n hx hb dX10_pays_32 rfl (lv_at hl 4 rfl) ?_
      refine goI hK hH (runV (As := [.int x, .int pt]) (rest := []) hC hK hH (c_X10_who (xn := xn) (t := t) (b := b) (ptn := ptn) hc_h hn_h hc_al hn_al ht_mt ht_pa ht_li (by exact hR_f) (by omega) (by omega) (by omega) (by omega) (by omega) (by omega)) mlX10_41 (rcvM hK hH hc_h rfl) ⟨⟨Nat.le_of_ble_eq_true rfl, Nat.le_of_ble_eq_true rfl⟩, Nat.le_of_ble_eq_true rfl, Nat.le_of_ble_eq_true rfl⟩ rfl hl.1 rfl (Nat.le_of_ble_eq_true rfl) dX10_pays_33) (fun rq15_ Mq13_ Tq14_ Hq_ lcq_ hP hz hH => ?_)
      try dsimp only at hP
      obtain ⟨(⟨cq16_, ⟨l_rq15_, g_rq15_⟩⟩), eT, eM⟩ := hP
      have eT := eT.symm; subst eT
      have eM := eM.symm; subst eM
      have cq16_ : rq15_.toInt = whoI f xn ptn := cq16_
      have pz_rq15_ := (hLia).2.2.1.1
      have l_rq15_ : 0 ≤ rq15_.toInt := by omega
      refine lv_istore (lv' := [(5, .int rq15_), (4, .int 0), (0, .ref h), (1, .int bb), (2, .int x), (3, .int pt)]) hx hb dX10_pays_36 hl (by decide) rfl (fun ls hl => ?_)
      refine lv_aload_n hx hb dX10_pays_38 rfl (lv_at hl 2 rfl) ?_
      refine xg hC hK hH flX10_7 hc_h rfl dX10_pays_39 ?_
      refine lv_iload_n hx hb dX10_pays_42 rfl (lv_at hl 4 rfl) ?_
      refine lv_bipush (v := 7) hx hb dX10_pays_43 (by decide) ?_
      refine lv_iadd hx hb dX10_pays_45 ?_
      refine lv_topi (fun zq17_ e_zq17_ => ?_)
      have h_zq17_ : zq17_.toInt = x.toInt + 7 := by rw [e_zq17_, iAdd (by have := iRg x; have : (7 : Int32).toInt = 7 := rfl; omega) (by have := iRg x; have : (7 : Int32).toInt = 7 := rfl; omega)]; rfl
      refine xild hC hK hH hc_al (iIn (by omega) (by omega)) dX10_pays_46 ?_
      refine lv_topi (fun xq18_ e_xq18_ => ?_)
      have k_xq18_ : xq18_ = f (xn + 7) := by rw [e_xq18_, clE (n := xn + 7) (by omega)]
      have kt_xq18_ : xq18_.toInt = (f (xn + 7)).toInt := by rw [k_xq18_]
      have rr_xq18_ : (0 : Int) ≤ (f (xn + 7)).toInt ∧ (f (xn + 7)).toInt ≤ 7 := hR_f.rO 7 (t := t) (b := b) (xn := xn) (by omega) (by omega) (by omega) (by decide) rfl
      have l_xq18_ : (0 : Int) ≤ xq18_.toInt := by rw [kt_xq18_, show xn + 7 = xn + 7 from by omega]; exact rr_xq18_.1
      have g_xq18_ : xq18_.toInt ≤ 7 := by rw [kt_xq18_, show xn + 7 = xn + 7 from by omega]; exact rr_xq18_.2
      refine lv_istore (lv' := [(6, .int xq18_), (5, .int rq15_), (4, .int 0), (0, .ref h), (1, .int bb), (2, .int x), (3, .int pt)]) hx hb dX10_pays_47 hl (by decide) rfl (fun ls hl => ?_)
      refine lv_aload_n hx hb dX10_pays_49 rfl (lv_at hl 3 rfl) ?_
      refine xg hC hK hH flX10_7 hc_h rfl dX10_pays_50 ?_
      refine lv_iload_n hx hb dX10_pays_53 rfl (lv_at hl 4 rfl) ?_
      refine lv_bipush (v := 6) hx hb dX10_pays_54 (by decide) ?_
      refine lv_iadd hx hb dX10_pays_56 ?_
      refine lv_topi (fun zq19_ e_zq19_ => ?_)
      have h_zq19_ : zq19_.toInt = bb.toInt + 6 := by rw [e_zq19_, iAdd (by have := iRg bb; have : (6 : Int32).toInt = 6 := rfl; omega) (by have := iRg bb; have : (6 : Int32).toInt = 6 := rfl; omega)]; rfl
      refine lv_iload hx hb dX10_pays_57 (lv_at hl 1 rfl) ?_
      refine lv_iadd hx hb dX10_pays_59 ?_
      refine lv_topi (fun zq20_ e_zq20_ => ?_)
      have h_zq20_ : zq20_.toInt = zq19_.toInt + rq15_.toInt := by rw [e_zq20_, iAdd (by have := iRg zq19_; have := iRg rq15_; omega) (by have := iRg zq19_; have := iRg rq15_; omega)]
      refine lv_dup2_11 hx hb dX10_pays_60 rfl rfl ?_
      refine xild hC hK hH hc_al (iIn (by omega) (by omega)) dX10_pays_61 ?_
      refine lv_topi (fun xq21_ e_xq21_ => ?_)
      refine lv_aload_n hx hb dX10_pays_62 rfl (lv_at hl 3 rfl) ?_
      refine xg hC hK hH flX10_7 hc_h rfl dX10_pays_63 ?_
      refine lv_iload_n hx hb dX10_pays_66 rfl (lv_at hl 5 rfl) ?_
      refine lv_iconst (v := 3) hx hb dX10_pays_67 (by decide) ?_
      refine lv_iadd hx hb dX10_pays_68 ?_
      refine lv_topi (fun zq22_ e_zq22_ => ?_)
      have h_zq22_ : zq22_.toInt = x.toInt + 3 := by rw [e_zq22_, iAdd (by have := iRg x; have : (3 : Int32).toInt = 3 := rfl; omega) (by have := iRg x; have : (3 : Int32).toInt = 3 := rfl; omega)]; rfl
      refine xild hC hK hH hc_al (iIn (by omega) (by omega)) dX10_pays_69 ?_
      refine lv_topi (fun xq23_ e_xq23_ => ?_)
      have k_xq23_ : xq23_ = f (xn + 3) := by rw [e_xq23_, clE (n := xn + 3) (by omega)]
      have kt_xq23_ : xq23_.toInt = (f (xn + 3)).toInt := by rw [k_xq23_]
      refine lv_isub hx hb dX10_pays_70 ?_
      refine lv_topi (fun zq24_ e_zq24_ => ?_)
      refine yist (x := zq24_) hC hK hH hc_al (noT hn_al) (iIn (by omega) (by omega)) dX10_pays_71 (fun Hq_ lcq_ Mq25_ hc_al hfr hH => ?_)
      have hc_al : Mq25_ al = some (.inl (kA 0, 7506, .inl (upd f (Int32.toNatClampNeg zq20_) zq24_))) := hc_al
      have hc_h : Mq25_ h = some (.inr (8, [.ref al, .ref mt, .ref ii, .int ta, .int fpm, .ref pa, .int sm, .int nx, .int tk, .int pl, .int ln, .long va, .int wr, .ref li])) := (hfr h n_h_al).trans hc_h
      have hF : ∀ q, FrK T q → q ≠ al → Mq25_ q = M q := fun q hq h0 => (hfr q h0).trans (hF q hq h0)
      obtain ⟨gq26_, e_gq26_⟩ : ∃ g : Nat → Int32, g = upd f (Int32.toNatClampNeg zq20_) zq24_ := ⟨_, rfl⟩
      rw [← e_gq26_] at hc_al
      have hR_gq26_ : Rng gq26_ := by rw [e_gq26_]; exact hR_f.uL (by have := iCl (x := zq20_) (by omega); omega)
      have hK_gq26_ : Ke f gq26_ := by rw [e_gq26_]; exact hK_f.up (by have := iCl (x := zq20_) (by omega); omega)
      have hp_gq26_ : Kp f gq26_ xn := by rw [e_gq26_]; exact hp_f.up (by have := iCl (x := zq20_) (by omega); omega) (by have := iCl (x := zq20_) (by omega); omega)
      refine lv_aload_n hx hb dX10_pays_72 rfl (lv_at hl 3 rfl) ?_
      refine xg hC hK hH flX10_7 hc_h rfl dX10_pays_73 ?_
      refine lv_iload_n hx hb dX10_pays_76 rfl (lv_at hl 4 rfl) ?_
      refine lv_bipush (v := 6) hx hb dX10_pays_77 (by decide) ?_
      refine lv_iadd hx hb dX10_pays_79 ?_
      refine lv_cst (v := zq19_) e_zq19_.symm ?_
      refine lv_iload hx hb dX10_pays_80 (lv_at hl 0 rfl) ?_
      refine lv_iadd hx hb dX10_pays_82 ?_
      refine lv_topi (fun zq27_ e_zq27_ => ?_)
      have h_zq27_ : zq27_.toInt = zq19_.toInt + xq18_.toInt := by rw [e_zq27_, iAdd (by have := iRg zq19_; have := iRg xq18_; omega) (by have := iRg zq19_; have := iRg xq18_; omega)]
      refine xild hC hK hH hc_al (iIn (by omega) (by omega)) dX10_pays_83 ?_
      refine lv_topi (fun xq28_ e_xq28_ => ?_)
      refine lv_aload_n hx hb dX10_pays_84 rfl (lv_at hl 3 rfl) ?_
      refine xg hC hK hH flX10_7 hc_h rfl dX10_pays_85 ?_
      refine lv_iload_n hx hb dX10_pays_88 rfl (lv_at hl 5 rfl) ?_
      refine lv_iconst (v := 3) hx hb dX10_pays_89 (by decide) ?_
      refine lv_iadd hx hb dX10_pays_90 ?_
      refine lv_cst (v := zq22_) e_zq22_.symm ?_
      refine xild hC hK hH hc_al (iIn (by omega) (by omega)) dX10_pays_91 ?_
      refine lv_topi (fun xq29_ e_xq29_ => ?_)
      have k_xq29_ : xq29_ = gq26_ (xn + 3) := by rw [e_xq29_, clE (n := xn + 3) (by omega)]
      have kt_xq29_ : xq29_.toInt = (gq26_ (xn + 3)).toInt := by rw [k_xq29_]
      refine lv_iadd hx hb dX10_pays_92 ?_
      refine lv_topi (fun zq30_ e_zq30_ => ?_)
      refine lv_istore (lv' := [(7, .int zq30_), (6, .int xq18_), (5, .int rq15_), (4, .int 0), (0, .ref h), (1, .int bb), (2, .int x), (3, .int pt)]) hx hb dX10_pays_93 hl (by decide) rfl (fun ls hl => ?_)
      refine lv_aload_n hx hb dX10_pays_95 rfl (lv_at hl 4 rfl) ?_
      refine xg hC hK hH flX10_7 hc_h rfl dX10_pays_96 ?_
      refine lv_iload_n hx hb dX10_pays_99 rfl (lv_at hl 5 rfl) ?_
      refine lv_bipush (v := 6) hx hb dX10_pays_100 (by decide) ?_
      refine lv_iadd hx hb dX10_pays_102 ?_
      refine lv_cst (v := zq19_) e_zq19_.symm ?_
      refine lv_iload hx hb dX10_pays_103 (lv_at hl 1 rfl) ?_
      refine lv_iadd hx hb dX10_pays_105 ?_
      refine lv_cst (v := zq27_) e_zq27_.symm ?_
      have Jq32_ : ∀ vq31_ : Int32, W p l e (rmL 5 0 0) s m ([.ref h, .int bb, .int x, .int pt] : List Value).toArray below meth c Hq_ lcq_ 0 0 (MQ below (va_Qi (fun r u => ∃ g : Nat → Int32, (Rng g ∧ Ke f g ∧ (Lia f t xn ptn → CshF f t xn ptn → PayP f g xn ptn)) ∧ (((Lia f t xn ptn ∧ CshF f t xn ptn) ∧ r = 0 ∧ u.1 al = some (.inl (kA 0, 7506, .inl g))) ∨ ((¬ (Lia f t xn ptn ∧ CshF f t xn ptn)) ∧ (((1 : Int) ≤ r.toInt ∧ r.toInt ≤ 32)) ∧ u.1 al = some (.inl (kA 0, 7506, .inl g)))) ∧ u.2 = T ∧ (∀ q, FrK T q → q ≠ al → u.1 q = M q)) (mB D kA M T sz) (mA M T sz)) ([.ref h, .int bb, .int x, .int pt] : List Value).toArray s 0 0 (mA M T sz)) (F0 m 122 ls [.int vq31_, .int zq27_, .ref al]) := by
        intro vq31_
        refine yist (x := vq31_) hC hK hH hc_al (noT hn_al) (iIn (by omega) (by omega)) dX10_pays_122 (fun Hq_ lcq_ Mq33_ hc_al hfr hH => ?_)
        have hc_al : Mq33_ al = some (.inl (kA 0, 7506, .inl (upd gq26_ (Int32.toNatClampNeg zq27_) vq31_))) := hc_al
        have hc_h : Mq33_ h = some (.inr (8, [.ref al, .ref mt, .ref ii, .int ta, .int fpm, .ref pa, .int sm, .int nx, .int tk, .int pl, .int ln, .long va, .int wr, .ref li])) := (hfr h n_h_al).trans hc_h
        have hF : ∀ q, FrK T q → q ≠ al → Mq33_ q = M q := fun q hq h0 => (hfr q h0).trans (hF q hq h0)
        obtain ⟨gq34_, e_gq34_⟩ : ∃ g : Nat → Int32, g = upd gq26_ (Int32.toNatClampNeg zq27_) vq31_ := ⟨_, rfl⟩
        rw [← e_gq34_] at hc_al
        have hR_gq34_ : Rng gq34_ := by rw [e_gq34_]; exact hR_gq26_.uL (by have := iCl (x := zq27_) (by omega); omega)
        have hK_gq34_ : Ke f gq34_ := by rw [e_gq34_]; exact hK_gq26_.up (by have := iCl (x := zq27_) (by omega); omega)
        have hp_gq34_ : Kp f gq34_ xn := by rw [e_gq34_]; exact hp_gq26_.up (by have := iCl (x := zq27_) (by omega); omega) (by have := iCl (x := zq27_) (by omega); omega)
        refine lv_aload_n hx hb dX10_pays_123 rfl (lv_at hl 4 rfl) ?_
        refine xg hC hK hH flX10_7 hc_h rfl dX10_pays_124 ?_
        refine lv_iload_n hx hb dX10_pays_127 rfl (lv_at hl 5 rfl) ?_
        refine lv_iconst (v := 3) hx hb dX10_pays_128 (by decide) ?_
        refine lv_iadd hx hb dX10_pays_129 ?_
        refine lv_topi (fun zq35_ e_zq35_ => ?_)
        have h_zq35_ : zq35_.toInt = bb.toInt + 3 := by rw [e_zq35_, iAdd (by have := iRg bb; have : (3 : Int32).toInt = 3 := rfl; omega) (by have := iRg bb; have : (3 : Int32).toInt = 3 := rfl; omega)]; rfl
        refine lv_dup2_11 hx hb dX10_pays_130 rfl rfl ?_
        refine xild hC hK hH hc_al (iIn (by omega) (by omega)) dX10_pays_131 ?_
        refine lv_topi (fun xq36_ e_xq36_ => ?_)
        have k_xq36_ : xq36_ = gq34_ (1140 * t + 3) := by rw [e_xq36_, clE (n := 1140 * t + 3) (by omega)]
        have kt_xq36_ : xq36_.toInt = (gq34_ (1140 * t + 3)).toInt := by rw [k_xq36_]
        refine lv_iconst (v := 1) hx hb dX10_pays_132 (by decide) ?_
        refine lv_iadd hx hb dX10_pays_133 ?_
        refine lv_topi (fun zq37_ e_zq37_ => ?_)
        refine yist (x := zq37_) hC hK hH hc_al (noT hn_al) (iIn (by omega) (by omega)) dX10_pays_134 (fun Hq_ lcq_ Mq38_ hc_al hfr hH => ?_)
        have hc_al : Mq38_ al = some (.inl (kA 0, 7506, .inl (upd gq34_ (Int32.toNatClampNeg zq35_) zq37_))) := hc_al
        have hc_h : Mq38_ h = some (.inr (8, [.ref al, .ref mt, .ref ii, .int ta, .int fpm, .ref pa, .int sm, .int nx, .int tk, .int pl, .int ln, .long va, .int wr, .ref li])) := (hfr h n_h_al).trans hc_h
        have hF : ∀ q, FrK T q → q ≠ al → Mq38_ q = M q := fun q hq h0 => (hfr q h0).trans (hF q hq h0)
        obtain ⟨gq39_, e_gq39_⟩ : ∃ g : Nat → Int32, g = upd gq34_ (Int32.toNatClampNeg zq35_) zq37_ := ⟨_, rfl⟩
        rw [← e_gq39_] at hc_al
        have hR_gq39_ : Rng gq39_ := by rw [e_gq39_]; exact hR_gq34_.uL (by have := iCl (x := zq35_) (by omega); omega)
        have hK_gq39_ : Ke f gq39_ := by rw [e_gq39_]; exact hK_gq34_.up (by have := iCl (x := zq35_) (by omega); omega)
        have hp_gq39_ : Kp f gq39_ xn := by rw [e_gq39_]; exact hp_gq34_.up (by have := iCl (x := zq35_) (by omega); omega) (by have := iCl (x := zq35_) (by omega); omega)
        refine lv_iload_n hx hb dX10_pays_135 rfl (lv_at hl 7 rfl) ?_
        refine jif_ne (tgt := 151) hx hb dX10_pays_136 (by decide) (fun cq40_ => ?_) (fun cq40_ => ?_)
        · skip
          have cq40_ : pt.toInt ≠ 0 := cq40_
          refine lv_aload_n hx hb dX10_pays_151 rfl (lv_at hl 4 rfl) ?_
          refine lv_iload_n hx hb dX10_pays_152 rfl (lv_at hl 6 rfl) ?_
          refine lv_iload_n hx hb dX10_pays_153 rfl (lv_at hl 7 rfl) ?_
          refine lv_bipush (v := 16) hx hb dX10_pays_154 (by decide) ?_
          refine goV hK hH (runV (As := [.int x, .int pt, .int 16]) (rest := []) hC hK hH (c_X10_frees (xn := xn) (t := t) (b := b) (ptn := ptn) hc_h hn_h hc_al hn_al ht_mt ht_pa ht_li (by exact hR_gq39_) (by omega) (by omega) (by omega) (by omega) (by omega) (by omega) (by decide)) mlX10_88 (rcvM hK hH hc_h rfl) ⟨⟨Nat.le_of_ble_eq_true rfl, Nat.le_of_ble_eq_true rfl⟩, Nat.le_of_ble_eq_true rfl, Nat.le_of_ble_eq_true rfl⟩ rfl hl.1 rfl (Nat.le_of_ble_eq_true rfl) dX10_pays_156) (fun Mq41_ Tq42_ Hq_ lcq_ hP hz hH => ?_)
          try dsimp only at hP
          obtain ⟨gq44_, h_gq44_, (hx_al), eT, hfr⟩ := hP
          have eT := eT.symm; subst eT
          have hc_h : Mq41_ h = some (.inr (8, [.ref al, .ref mt, .ref ii, .int ta, .int fpm, .ref pa, .int sm, .int nx, .int tk, .int pl, .int ln, .long va, .int wr, .ref li])) := (hfr h (Or.inl hn_h) n_h_al).trans hc_h
          have hc_al : Mq41_ al = some (.inl (kA 0, 7506, .inl gq44_)) := hx_al
          have hF : ∀ q, FrK T q → q ≠ al → Mq41_ q = M q := fun q hq h0 => (hfr q hq  h0).trans (hF q hq h0)
          have hR_gq44_ : Rng gq44_ := h_gq44_.1
          have hK_gq44_ : Ke f gq44_ := hK_gq39_.tr h_gq44_.2.1
          have hE_gq44_ : (gq44_ (xn + 8) = gq39_ (xn + 8) ∧ ∀ q, ptn ≤ q → (q : Int) ≤ 1 + (gq39_ (xn + 8)).toInt → 0 < (gq44_ (xn + 184 + 6 * q + 1)).toInt) := h_gq44_.2.2
          have hp_gq44_ : Kp gq44_ gq44_ xn := Kp.rf
          refine lv_aload_n hx hb dX10_pays_159 rfl (lv_at hl 4 rfl) ?_
          refine xg hC hK hH flX10_7 hc_h rfl dX10_pays_160 ?_
          refine lv_iload_n hx hb dX10_pays_163 rfl (lv_at hl 6 rfl) ?_
          refine lv_bipush (v := 7) hx hb dX10_pays_164 (by decide) ?_
          refine lv_iadd hx hb dX10_pays_166 ?_
          refine lv_cst (v := zq17_) e_zq17_.symm ?_
          refine lv_iload hx hb dX10_pays_167 (lv_at hl 2 rfl) ?_
          refine yist (x := rq15_) hC hK hH hc_al (noT hn_al) (iIn (by omega) (by omega)) dX10_pays_169 (fun Hq_ lcq_ Mq45_ hc_al hfr hH => ?_)
          have hc_al : Mq45_ al = some (.inl (kA 0, 7506, .inl (upd gq44_ (Int32.toNatClampNeg zq17_) rq15_))) := hc_al
          have hc_h : Mq45_ h = some (.inr (8, [.ref al, .ref mt, .ref ii, .int ta, .int fpm, .ref pa, .int sm, .int nx, .int tk, .int pl, .int ln, .long va, .int wr, .ref li])) := (hfr h n_h_al).trans hc_h
          have hF : ∀ q, FrK T q → q ≠ al → Mq45_ q = M q := fun q hq h0 => (hfr q h0).trans (hF q hq h0)
          obtain ⟨gq46_, e_gq46_⟩ : ∃ g : Nat → Int32, g = upd gq44_ (Int32.toNatClampNeg zq17_) rq15_ := ⟨_, rfl⟩
          rw [← e_gq46_] at hc_al
          have hR_gq46_ : Rng gq46_ := by rw [e_gq46_]; exact hR_gq44_.uO 7 (t := t) (b := b) (xn := xn) (by omega) (by omega) (by omega) (by decide) rfl (clE (by omega)) (by omega) (by omega)
          have hK_gq46_ : Ke f gq46_ := by rw [e_gq46_]; exact hK_gq44_.up (by have := iCl (x := zq17_) (by omega); omega)
          have hp_gq46_ : Kp gq44_ gq46_ xn := by rw [e_gq46_]; exact hp_gq44_.up (by have := iCl (x := zq17_) (by omega); omega) (by have := iCl (x := zq17_) (by omega); omega)
          refine lv_aload_n hx hb dX10_pays_170 rfl (lv_at hl 4 rfl) ?_
          refine xg hC hK hH flX10_7 hc_h rfl dX10_pays_171 ?_
          refine lv_iload_n hx hb dX10_pays_174 rfl (lv_at hl 6 rfl) ?_
          refine lv_bipush (v := 18) hx hb dX10_pays_175 (by decide) ?_
          refine lv_iadd hx hb dX10_pays_177 ?_
          refine lv_topi (fun zq47_ e_zq47_ => ?_)
          have h_zq47_ : zq47_.toInt = x.toInt + 18 := by rw [e_zq47_, iAdd (by have := iRg x; have : (18 : Int32).toInt = 18 := rfl; omega) (by have := iRg x; have : (18 : Int32).toInt = 18 := rfl; omega)]; rfl
          refine lv_aload_n hx hb dX10_pays_178 rfl (lv_at hl 4 rfl) ?_
          refine xg hC hK hH flX10_7 hc_h rfl dX10_pays_179 ?_
          refine lv_iload_n hx hb dX10_pays_182 rfl (lv_at hl 6 rfl) ?_
          refine lv_bipush (v := 8) hx hb dX10_pays_183 (by decide) ?_
          refine lv_iadd hx hb dX10_pays_185 ?_
          refine lv_topi (fun zq48_ e_zq48_ => ?_)
          have h_zq48_ : zq48_.toInt = x.toInt + 8 := by rw [e_zq48_, iAdd (by have := iRg x; have : (8 : Int32).toInt = 8 := rfl; omega) (by have := iRg x; have : (8 : Int32).toInt = 8 := rfl; omega)]; rfl
          refine xild hC hK hH hc_al (iIn (by omega) (by omega)) dX10_pays_186 ?_
          refine lv_topi (fun xq49_ e_xq49_ => ?_)
          have k_xq49_ : xq49_ = gq46_ (xn + 8) := by rw [e_xq49_, clE (n := xn + 8) (by omega)]
          have kt_xq49_ : xq49_.toInt = (gq46_ (xn + 8)).toInt := by rw [k_xq49_]
          have rr_xq49_ : (0 : Int) ≤ (gq46_ (xn + 8)).toInt ∧ (gq46_ (xn + 8)).toInt ≤ 12 := hR_gq46_.rO 8 (t := t) (b := b) (xn := xn) (by omega) (by omega) (by omega) (by decide) rfl
          have l_xq49_ : (0 : Int) ≤ xq49_.toInt := by rw [kt_xq49_, show xn + 8 = xn + 8 from by omega]; exact rr_xq49_.1
          have g_xq49_ : xq49_.toInt ≤ 12 := by rw [kt_xq49_, show xn + 8 = xn + 8 from by omega]; exact rr_xq49_.2
          refine yist (x := xq49_) hC hK hH hc_al (noT hn_al) (iIn (by omega) (by omega)) dX10_pays_187 (fun Hq_ lcq_ Mq50_ hc_al hfr hH => ?_)
          have hc_al : Mq50_ al = some (.inl (kA 0, 7506, .inl (upd gq46_ (Int32.toNatClampNeg zq47_) xq49_))) := hc_al
          have hc_h : Mq50_ h = some (.inr (8, [.ref al, .ref mt, .ref ii, .int ta, .int fpm, .ref pa, .int sm, .int nx, .int tk, .int pl, .int ln, .long va, .int wr, .ref li])) := (hfr h n_h_al).trans hc_h
          have hF : ∀ q, FrK T q → q ≠ al → Mq50_ q = M q := fun q hq h0 => (hfr q h0).trans (hF q hq h0)
          obtain ⟨gq51_, e_gq51_⟩ : ∃ g : Nat → Int32, g = upd gq46_ (Int32.toNatClampNeg zq47_) xq49_ := ⟨_, rfl⟩
          rw [← e_gq51_] at hc_al
          have hR_gq51_ : Rng gq51_ := by rw [e_gq51_]; exact hR_gq46_.uO 18 (t := t) (b := b) (xn := xn) (by omega) (by omega) (by omega) (by decide) rfl (clE (by omega)) (by omega) (by omega)
          have hK_gq51_ : Ke f gq51_ := by rw [e_gq51_]; exact hK_gq46_.up (by have := iCl (x := zq47_) (by omega); omega)
          have hp_gq51_ : Kp gq44_ gq51_ xn := by rw [e_gq51_]; exact hp_gq46_.up (by have := iCl (x := zq47_) (by omega); omega) (by have := iCl (x := zq47_) (by omega); omega)
          refine lv_aload_n hx hb dX10_pays_188 rfl (lv_at hl 4 rfl) ?_
          refine xg hC hK hH flX10_7 hc_h rfl dX10_pays_189 ?_
          refine lv_iload_n hx hb dX10_pays_192 rfl (lv_at hl 6 rfl) ?_
          refine lv_bipush (v := 19) hx hb dX10_pays_193 (by decide) ?_
          refine lv_iadd hx hb dX10_pays_195 ?_
          refine lv_topi (fun zq52_ e_zq52_ => ?_)
          have h_zq52_ : zq52_.toInt = x.toInt + 19 := by rw [e_zq52_, iAdd (by have := iRg x; have : (19 : Int32).toInt = 19 := rfl; omega) (by have := iRg x; have : (19 : Int32).toInt = 19 := rfl; omega)]; rfl
          refine lv_iload hx hb dX10_pays_196 (lv_at hl 2 rfl) ?_
          refine yist (x := rq15_) hC hK hH hc_al (noT hn_al) (iIn (by omega) (by omega)) dX10_pays_198 (fun Hq_ lcq_ Mq53_ hc_al hfr hH => ?_)
          have hc_al : Mq53_ al = some (.inl (kA 0, 7506, .inl (upd gq51_ (Int32.toNatClampNeg zq52_) rq15_))) := hc_al
          have hc_h : Mq53_ h = some (.inr (8, [.ref al, .ref mt, .ref ii, .int ta, .int fpm, .ref pa, .int sm, .int nx, .int tk, .int pl, .int ln, .long va, .int wr, .ref li])) := (hfr h n_h_al).trans hc_h
          have hF : ∀ q, FrK T q → q ≠ al → Mq53_ q = M q := fun q hq h0 => (hfr q h0).trans (hF q hq h0)
          obtain ⟨gq54_, e_gq54_⟩ : ∃ g : Nat → Int32, g = upd gq51_ (Int32.toNatClampNeg zq52_) rq15_ := ⟨_, rfl⟩
          rw [← e_gq54_] at hc_al
          have hR_gq54_ : Rng gq54_ := by rw [e_gq54_]; exact hR_gq51_.uO 19 (t := t) (b := b) (xn := xn) (by omega) (by omega) (by omega) (by decide) rfl (clE (by omega)) (by omega) (by omega)
          have hK_gq54_ : Ke f gq54_ := by rw [e_gq54_]; exact hK_gq51_.up (by have := iCl (x := zq52_) (by omega); omega)
          have hp_gq54_ : Kp gq44_ gq54_ xn := by rw [e_gq54_]; exact hp_gq51_.up (by have := iCl (x := zq52_) (by omega); omega) (by have := iCl (x := zq52_) (by omega); omega)
          refine lv_aload_n hx hb dX10_pays_199 rfl (lv_at hl 4 rfl) ?_
          refine lv_iload_n hx hb dX10_pays_200 rfl (lv_at hl 6 rfl) ?_
          refine goV hK hH (runV (As := [.int x]) (rest := []) hC hK hH (c_X10_startsChain (xn := xn) (t := t) (b := b) hc_h hn_h hc_al hn_al ht_mt ht_pa ht_li (by exact hR_gq54_) (by omega) (by omega) (by omega) (by omega)) mlX10_91 (rcvM hK hH hc_h rfl) ⟨⟨Nat.le_of_ble_eq_true rfl, Nat.le_of_ble_eq_true rfl⟩, Nat.le_of_ble_eq_true rfl, Nat.le_of_ble_eq_true rfl⟩ rfl hl.1 rfl (Nat.le_of_ble_eq_true rfl) dX10_pays_201) (fun Mq55_ Tq56_ Hq_ lcq_ hP hz hH => ?_)
          try dsimp only at hP
          obtain ⟨gq58_, h_gq58_, (hx_al), eT, hfr⟩ := hP
          have eT := eT.symm; subst eT
          have hc_h : Mq55_ h = some (.inr (8, [.ref al, .ref mt, .ref ii, .int ta, .int fpm, .ref pa, .int sm, .int nx, .int tk, .int pl, .int ln, .long va, .int wr, .ref li])) := (hfr h (Or.inl hn_h) n_h_al).trans hc_h
          have hc_al : Mq55_ al = some (.inl (kA 0, 7506, .inl gq58_)) := hx_al
          have hF : ∀ q, FrK T q → q ≠ al → Mq55_ q = M q := fun q hq h0 => (hfr q hq  h0).trans (hF q hq h0)
          have hR_gq58_ : Rng gq58_ := h_gq58_.1
          have hK_gq58_ : Ke f gq58_ := hK_gq54_.tr h_gq58_.2.1
          have hE_gq58_ : (Kp gq54_ gq58_ xn ∧ gq58_ 1 = gq54_ 1) := h_gq58_.2.2
          have hp_gq58_ : Kp gq44_ gq58_ xn := hp_gq54_.tr hE_gq58_.1
          refine lv_iconst (v := 0) hx hb dX10_pays_204 (by decide) ?_
          exact ret_i hC hr hlk hK hH (⟨gq58_, ⟨hR_gq58_, hK_gq58_, fun _ _ => ⟨hp_gq58_.1.trans (hE_gq44_.1.trans hp_gq39_.1), fun z => by omega, fun _ q z1 z2 => by rw [hp_gq58_.2 q (by omega)]; exact hE_gq44_.2 q z1 (by have h9 : (gq39_ (xn + 8)).toInt = (f (xn + 8)).toInt := congrArg Int32.toInt hp_gq39_.1; omega)⟩⟩, Or.inl (⟨⟨hLia, hCsh⟩, rfl, hc_al⟩), rfl, hF⟩) (Nat.le_of_ble_eq_true rfl) (Nat.le_of_ble_eq_true rfl) dX10_pays_205
        · skip
          have cq40_ : pt.toInt = 0 := cq40_
          refine lv_aload_n hx hb dX10_pays_139 rfl (lv_at hl 4 rfl) ?_
          refine xg hC hK hH flX10_7 hc_h rfl dX10_pays_140 ?_
          refine lv_iload_n hx hb dX10_pays_143 rfl (lv_at hl 6 rfl) ?_
          refine lv_bipush (v := 10) hx hb dX10_pays_144 (by decide) ?_
          refine lv_iadd hx hb dX10_pays_146 ?_
          refine lv_topi (fun zq59_ e_zq59_ => ?_)
          have h_zq59_ : zq59_.toInt = x.toInt + 10 := by rw [e_zq59_, iAdd (by have := iRg x; have : (10 : Int32).toInt = 10 := rfl; omega) (by have := iRg x; have : (10 : Int32).toInt = 10 := rfl; omega)]; rfl
          refine lv_iconst (v := 1) hx hb dX10_pays_147 (by decide) ?_
          refine yist (x := 1) hC hK hH hc_al (noT hn_al) (iIn (by omega) (by omega)) dX10_pays_148 (fun Hq_ lcq_ Mq60_ hc_al hfr hH => ?_)
          have hc_al : Mq60_ al = some (.inl (kA 0, 7506, .inl (upd gq39_ (Int32.toNatClampNeg zq59_) 1))) := hc_al
          have hc_h : Mq60_ h = some (.inr (8, [.ref al, .ref mt, .ref ii, .int ta, .int fpm, .ref pa, .int sm, .int nx, .int tk, .int pl, .int ln, .long va, .int wr, .ref li])) := (hfr h n_h_al).trans hc_h
          have hF : ∀ q, FrK T q → q ≠ al → Mq60_ q = M q := fun q hq h0 => (hfr q h0).trans (hF q hq h0)
          obtain ⟨gq61_, e_gq61_⟩ : ∃ g : Nat → Int32, g = upd gq39_ (Int32.toNatClampNeg zq59_) 1 := ⟨_, rfl⟩
          rw [← e_gq61_] at hc_al
          have hR_gq61_ : Rng gq61_ := by rw [e_gq61_]; exact hR_gq39_.uX (t := t) (b := b) (xn := xn) (by omega) (by omega) (by omega) (by have := iCl (x := zq59_) (by omega); omega) (by have := iCl (x := zq59_) (by omega); omega) (by have := iCl (x := zq59_) (by omega); omega)
          have hK_gq61_ : Ke f gq61_ := by rw [e_gq61_]; exact hK_gq39_.up (by have := iCl (x := zq59_) (by omega); omega)
          have hp_gq61_ : Kp f gq61_ xn := by rw [e_gq61_]; exact hp_gq39_.up (by have := iCl (x := zq59_) (by omega); omega) (by have := iCl (x := zq59_) (by omega); omega)
          refine lv_iconst (v := 0) hx hb dX10_pays_149 (by decide) ?_
          exact ret_i hC hr hlk hK hH (⟨gq61_, ⟨hR_gq61_, hK_gq61_, fun _ _ => ⟨hp_gq61_.1, fun _ => by rw [e_gq61_, show xn + 10 = Int32.toNatClampNeg zq59_ from (clE (by omega)).symm, pk_us]; rfl, fun z => by omega⟩⟩, Or.inl (⟨⟨hLia, hCsh⟩, rfl, hc_al⟩), rfl, hF⟩) (Nat.le_of_ble_eq_true rfl) (Nat.le_of_ble_eq_true rfl) dX10_pays_150
      refine lv_iload hx hb dX10_pays_106 (lv_at hl 0 rfl) ?_
      refine lv_sipush (v := 9999) hx hb dX10_pays_108 (by decide) ?_
      refine jic_le (tgt := 120) hx hb dX10_pays_111 (by decide) (fun cq62_ => ?_) (fun cq62_ => ?_)
      · skip
        have cq62_ : zq30_.toInt ≤ 9999 := cq62_
        refine lv_iload hx hb dX10_pays_120 (lv_at hl 0 rfl) ?_
        exact Jq32_ zq30_
      · skip
        have cq62_ : 9999 < zq30_.toInt := cq62_
        refine lv_sipush (v := 9999) hx hb dX10_pays_114 (by decide) ?_
        refine lv_goto (tgt := 122) hx hb dX10_pays_117 (by decide) ?_
        exact Jq32_ 9999
    · skip
      have eT := eT.symm; subst eT
      have er_rq9_ := er_rq9_.symm; subst er_rq9_
      have eM := eM.symm; subst eM
      have cq11_ : ¬ CshF f t xn ptn := cq11_
      have hNo : ¬ (Lia f t xn ptn ∧ CshF f t xn ptn) := fun z => cq11_ z.2
      refine jif_ne (tgt := 30) hx hb dX10_pays_24 (by decide) (fun cq63_ => absurd cq63_ (by decide)) (fun cq63_ => ?_)
      refine lv_bipush (v := 32) hx hb dX10_pays_27 (by decide) ?_
      exact ret_i hC hr hlk hK hH (⟨f, ⟨hR_f, hK_f, fun z1 z2 => absurd ⟨z1, z2⟩ hNo⟩, Or.inr (⟨hNo, ⟨by decide, by decide⟩, hc_al⟩), rfl, hF⟩) (Nat.le_of_ble_eq_true rfl) (Nat.le_of_ble_eq_true rfl) dX10_pays_29
  · skip
    have eT := eT.symm; subst eT
    have eM := eM.symm; subst eM
    have cq5_ : ¬ Lia f t xn ptn := cq5_
    have hNo : ¬ (Lia f t xn ptn ∧ CshF f t xn ptn) := fun z => cq5_ z.1
    refine lv_istore (lv' := [(4, .int rq3_), (0, .ref h), (1, .int bb), (2, .int x), (3, .int pt)]) hx hb dX10_pays_7 hl (by decide) rfl (fun ls hl => ?_)
    refine lv_iload hx hb dX10_pays_9 (lv_at hl 0 rfl) ?_
    refine jif_le (tgt := 17) hx hb dX10_pays_11 (by decide) (fun cq64_ => absurd cq64_ (by have := iRg rq3_; have : (0 : Int32).toInt = 0 := rfl; omega)) (fun cq64_ => ?_)
    have cq64_ : 0 < rq3_.toInt := cq64_
    refine lv_iload hx hb dX10_pays_14 (lv_at hl 0 rfl) ?_
    exact ret_i hC hr hlk hK hH (⟨f, ⟨hR_f, hK_f, fun z1 z2 => absurd ⟨z1, z2⟩ hNo⟩, Or.inr (⟨hNo, ⟨by omega, by omega⟩, hc_al⟩), rfl, hF⟩) (Nat.le_of_ble_eq_true rfl) (Nat.le_of_ble_eq_true rfl) dX10_pays_16
