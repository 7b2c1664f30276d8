set_option maxHeartbeats 4000000 in
set_option maxRecDepth 100000 in
theorem c_X10_startsChain {l : Launch} {D : va_G} {kA : Nat → ClassId} {M : mM} {T : mT} {sz : Nat} {h al mt ii pa li : Nat} {ta fpm sm nx tk pl ln wr : Int32} {va : Int64} {f : Nat → Int32} {x : Int32} {xn t b : Nat} (hc_h : M h = some (.inr (8, [.ref al, .ref mt, .ref ii, .int ta, .int fpm, .ref pa, .int sm, .int nx, .int tk, .int pl, .int ln, .long va, .int wr, .ref li]))) (hn_h : T h = none) (hc_al : M al = some (.inl (kA 0, 7506, .inl f))) (hn_al : T al = none) (ht_mt : T mt = some 11) (ht_pa : T pa = some 13) (ht_li : T li = some 14) (hR_f : Rng f) (hxt : t < 2) (hxb : b < 4) (hxn : xn = 1140 * t + 20 + 280 * b) (hxx : x.toInt = (xn : Int)) : mCv l yX10_startsChain cX10_startsChain 4 0 0 0 D kA M T sz [.ref h, .int x] (fun u => ∃ g : Nat → Int32, (Rng g ∧ Ke f g ∧ (Kp f g xn ∧ g 1 = f 1)) ∧ (u.1 al = some (.inl (kA 0, 7506, .inl g))) ∧ u.2 = T ∧ (∀ q, FrK T q → q ≠ al → u.1 q = M q)) := by
  unfold mCv
  refine start_W (by decide) (Nat.le_of_ble_eq_true rfl) ?_
  intro p e s m below meth c ls hC hr hlk hnm hK hH hsz hl
  have hx := hC.1
  have hb := hC.2.1
  have hl : lv_has ls 4 [(0, .ref h), (1, .int x)] := hl
  have hF : ∀ q, FrK T q → q ≠ al → M q = M q := fun q _ _ => rfl
  have n_h_al : h ≠ al := neM hc_h hc_al (by simp)
  have n_al_h : al ≠ h := neM hc_al hc_h (by simp)
  have hK_f : Ke f f := Ke.rf
  have hp_f : Kp f f xn := Kp.rf
  have h1_f : f 1 = f 1 := rfl
  refine lv_aload_n hx hb dX10_startsChain_0 rfl (lv_at hl 0 rfl) ?_
  refine xg hC hK hH flX10_7 hc_h rfl dX10_startsChain_1 ?_
  refine lv_iload_n hx hb dX10_startsChain_4 rfl (lv_at hl 1 rfl) ?_
  refine lv_bipush (v := 19) hx hb dX10_startsChain_5 (by decide) ?_
  refine lv_iadd hx hb dX10_startsChain_7 ?_
  refine lv_topi (fun zq1_ e_zq1_ => ?_)
  have h_zq1_ : zq1_.toInt = x.toInt + 19 := by rw [e_zq1_, iAdd (by have := iRg x; have : (19 : Int32).toInt = 19 := rfl; omega) (by have := iRg x; have : (19 : Int32).toInt = 19 := rfl; omega)]; rfl
  refine xild hC hK hH hc_al (iIn (by omega) (by omega)) dX10_startsChain_8 ?_
  refine lv_topi (fun xq2_ e_xq2_ => ?_)
  have k_xq2_ : xq2_ = f (xn + 19) := by rw [e_xq2_, clE (n := xn + 19) (by omega)]
  have kt_xq2_ : xq2_.toInt = (f (xn + 19)).toInt := by rw [k_xq2_]
  have rr_xq2_ : (-1 : Int) ≤ (f (xn + 19)).toInt ∧ (f (xn + 19)).toInt ≤ 7 := hR_f.rO 19 (t := t) (b := b) (xn := xn) (by omega) (by omega) (by omega) (by decide) rfl
  have l_xq2_ : (-1 : Int) ≤ xq2_.toInt := by rw [kt_xq2_, show xn + 19 = xn + 19 from by omega]; exact rr_xq2_.1
  have g_xq2_ : xq2_.toInt ≤ 7 := by rw [kt_xq2_, show xn + 19 = xn + 19 from by omega]; exact rr_xq2_.2
  refine lv_iconst (v := -1) hx hb dX10_startsChain_9 (by decide) ?_
  refine jic_eq (tgt := 17) hx hb dX10_startsChain_10 (by decide) (fun cq3_ => ?_) (fun cq3_ => ?_)
  · skip
    have cq3_ : xq2_.toInt = (-1) := cq3_
    refine lv_iconst (v := 0) hx hb dX10_startsChain_17 (by decide) ?_
    refine lv_istore_n (lv' := [(2, .int 0), (0, .ref h), (1, .int x)]) hx hb dX10_startsChain_18 rfl hl (by decide) rfl (fun ls hl => ?_)
    refine lv_iload_n hx hb dX10_startsChain_19 rfl (lv_at hl 0 rfl) ?_
    refine jif_eq (tgt := 35) hx hb dX10_startsChain_20 (by decide) (fun cq4_ => ?_) (fun cq4_ => absurd cq4_ (by decide))
    refine lv_aload_n hx hb dX10_startsChain_35 rfl (lv_at hl 1 rfl) ?_
    refine xg hC hK hH flX10_7 hc_h rfl dX10_startsChain_36 ?_
    refine lv_iload_n hx hb dX10_startsChain_39 rfl (lv_at hl 2 rfl) ?_
    refine lv_iconst (v := 2) hx hb dX10_startsChain_40 (by decide) ?_
    refine lv_iadd hx hb dX10_startsChain_41 ?_
    refine lv_topi (fun zq5_ e_zq5_ => ?_)
    have h_zq5_ : zq5_.toInt = x.toInt + 2 := by rw [e_zq5_, iAdd (by have := iRg x; have : (2 : Int32).toInt = 2 := rfl; omega) (by have := iRg x; have : (2 : Int32).toInt = 2 := rfl; omega)]; rfl
    refine xild hC hK hH hc_al (iIn (by omega) (by omega)) dX10_startsChain_42 ?_
    refine lv_topi (fun xq6_ e_xq6_ => ?_)
    have k_xq6_ : xq6_ = f (xn + 2) := by rw [e_xq6_, clE (n := xn + 2) (by omega)]
    have kt_xq6_ : xq6_.toInt = (f (xn + 2)).toInt := by rw [k_xq6_]
    have rr_xq6_ : (0 : Int) ≤ (f (xn + 2)).toInt ∧ (f (xn + 2)).toInt ≤ 7 := hR_f.rO 2 (t := t) (b := b) (xn := xn) (by omega) (by omega) (by omega) (by decide) rfl
    have l_xq6_ : (0 : Int) ≤ xq6_.toInt := by rw [kt_xq6_, show xn + 2 = xn + 2 from by omega]; exact rr_xq6_.1
    have g_xq6_ : xq6_.toInt ≤ 7 := by rw [kt_xq6_, show xn + 2 = xn + 2 from by omega]; exact rr_xq6_.2
    refine lv_istore_n (lv' := [(3, .int xq6_), (2, .int 0), (0, .ref h), (1, .int x)]) hx hb dX10_startsChain_43 rfl hl (by decide) rfl (fun ls hl => ?_)
    refine lv_aload_n hx hb dX10_startsChain_44 rfl (lv_at hl 2 rfl) ?_
    refine xg hC hK hH flX10_7 hc_h rfl dX10_startsChain_45 ?_
    refine lv_iload_n hx hb dX10_startsChain_48 rfl (lv_at hl 3 rfl) ?_
    refine lv_bipush (v := 11) hx hb dX10_startsChain_49 (by decide) ?_
    refine lv_iadd hx hb dX10_startsChain_51 ?_
    refine lv_topi (fun zq7_ e_zq7_ => ?_)
    have h_zq7_ : zq7_.toInt = x.toInt + 11 := by rw [e_zq7_, iAdd (by have := iRg x; have : (11 : Int32).toInt = 11 := rfl; omega) (by have := iRg x; have : (11 : Int32).toInt = 11 := rfl; omega)]; rfl
    have Jq9_ : ∀ vq8_ : Int32, (0 : Int) ≤ vq8_.toInt → vq8_.toInt ≤ 1 → W p l e (rmL 0 0 0) s m ([.ref h, .int x] : List Value).toArray below meth c s.heap [] 0 0 (MQ below (va_Qv (fun u => ∃ g : Nat → Int32, (Rng g ∧ Ke f g ∧ (Kp f g xn ∧ g 1 = f 1)) ∧ (u.1 al = some (.inl (kA 0, 7506, .inl g))) ∧ u.2 = T ∧ (∀ q, FrK T q → q ≠ al → u.1 q = M q)) (mB D kA M T sz) (mA M T sz)) ([.ref h, .int x] : List Value).toArray s 0 0 (mA M T sz)) (F0 m 73 ls [.int vq8_, .int zq7_, .ref al]) := by
      intro vq8_ l_vq8_ g_vq8_
      refine yist (x := vq8_) hC hK hH hc_al (noT hn_al) (iIn (by omega) (by omega)) dX10_startsChain_73 (fun Hq_ lcq_ Mq10_ hc_al hfr hH => ?_)
      have hc_al : Mq10_ al = some (.inl (kA 0, 7506, .inl (upd f (Int32.toNatClampNeg zq7_) vq8_))) := hc_al
      have hc_h : Mq10_ h = some (.inr (8, [.ref al, .ref mt, .ref ii, .int ta, .int fpm, .ref pa, .int sm, .int nx, .int tk, .int pl, .int ln, .long va, .int wr, .ref li])) := (hfr h n_h_al).trans hc_h
      have hF : ∀ q, FrK T q → q ≠ al → Mq10_ q = M q := fun q hq h0 => (hfr q h0).trans (hF q hq h0)
      obtain ⟨gq11_, e_gq11_⟩ : ∃ g : Nat → Int32, g = upd f (Int32.toNatClampNeg zq7_) vq8_ := ⟨_, rfl⟩
      rw [← e_gq11_] at hc_al
      have hR_gq11_ : Rng gq11_ := by rw [e_gq11_]; exact hR_f.uX (t := t) (b := b) (xn := xn) (by omega) (by omega) (by omega) (by have := iCl (x := zq7_) (by omega); omega) (by have := iCl (x := zq7_) (by omega); omega) (by have := iCl (x := zq7_) (by omega); omega)
      have hK_gq11_ : Ke f gq11_ := by rw [e_gq11_]; exact hK_f.up (by have := iCl (x := zq7_) (by omega); omega)
      have hp_gq11_ : Kp f gq11_ xn := by rw [e_gq11_]; exact hp_f.up (by have := iCl (x := zq7_) (by omega); omega) (by have := iCl (x := zq7_) (by omega); omega)
      have h1_gq11_ : gq11_ 1 = f 1 := by rw [e_gq11_]; exact (pk_un (by have := iCl (x := zq7_) (by omega); omega)).trans h1_f
      refine lv_aload_n hx hb dX10_startsChain_74 rfl (lv_at hl 2 rfl) ?_
      refine xg hC hK hH flX10_7 hc_h rfl dX10_startsChain_75 ?_
      refine lv_iload_n hx hb dX10_startsChain_78 rfl (lv_at hl 3 rfl) ?_
      refine lv_bipush (v := 12) hx hb dX10_startsChain_79 (by decide) ?_
      refine lv_iadd hx hb dX10_startsChain_81 ?_
      refine lv_topi (fun zq12_ e_zq12_ => ?_)
      have h_zq12_ : zq12_.toInt = x.toInt + 12 := by rw [e_zq12_, iAdd (by have := iRg x; have : (12 : Int32).toInt = 12 := rfl; omega) (by have := iRg x; have : (12 : Int32).toInt = 12 := rfl; omega)]; rfl
      have Jq14_ : ∀ vq13_ : Int32, W p l e (rmL 0 0 0) s m ([.ref h, .int x] : List Value).toArray below meth c Hq_ lcq_ 0 0 (MQ below (va_Qv (fun u => ∃ g : Nat → Int32, (Rng g ∧ Ke f g ∧ (Kp f g xn ∧ g 1 = f 1)) ∧ (u.1 al = some (.inl (kA 0, 7506, .inl g))) ∧ u.2 = T ∧ (∀ q, FrK T q → q ≠ al → u.1 q = M q)) (mB D kA M T sz) (mA M T sz)) ([.ref h, .int x] : List Value).toArray s 0 0 (mA M T sz)) (F0 m 100 ls [.int vq13_, .int zq12_, .ref al]) := by
        intro vq13_
        refine yist (x := vq13_) hC hK hH hc_al (noT hn_al) (iIn (by omega) (by omega)) dX10_startsChain_100 (fun Hq_ lcq_ Mq15_ hc_al hfr hH => ?_)
        have hc_al : Mq15_ al = some (.inl (kA 0, 7506, .inl (upd gq11_ (Int32.toNatClampNeg zq12_) vq13_))) := hc_al
        have hc_h : Mq15_ h = some (.inr (8, [.ref al, .ref mt, .ref ii, .int ta, .int fpm, .ref pa, .int sm, .int nx, .int tk, .int pl, .int ln, .long va, .int wr, .ref li])) := (hfr h n_h_al).trans hc_h
        have hF : ∀ q, FrK T q → q ≠ al → Mq15_ q = M q := fun q hq h0 => (hfr q h0).trans (hF q hq h0)
        obtain ⟨gq16_, e_gq16_⟩ : ∃ g : Nat → Int32, g = upd gq11_ (Int32.toNatClampNeg zq12_) vq13_ := ⟨_, rfl⟩
        rw [← e_gq16_] at hc_al
        have hR_gq16_ : Rng gq16_ := by rw [e_gq16_]; exact hR_gq11_.uX (t := t) (b := b) (xn := xn) (by omega) (by omega) (by omega) (by have := iCl (x := zq12_) (by omega); omega) (by have := iCl (x := zq12_) (by omega); omega) (by have := iCl (x := zq12_) (by omega); omega)
        have hK_gq16_ : Ke f gq16_ := by rw [e_gq16_]; exact hK_gq11_.up (by have := iCl (x := zq12_) (by omega); omega)
        have hp_gq16_ : Kp f gq16_ xn := by rw [e_gq16_]; exact hp_gq11_.up (by have := iCl (x := zq12_) (by omega); omega) (by have := iCl (x := zq12_) (by omega); omega)
        have h1_gq16_ : gq16_ 1 = f 1 := by rw [e_gq16_]; exact (pk_un (by have := iCl (x := zq12_) (by omega); omega)).trans h1_gq11_
        refine lv_aload_n hx hb dX10_startsChain_101 rfl (lv_at hl 2 rfl) ?_
        refine xg hC hK hH flX10_7 hc_h rfl dX10_startsChain_102 ?_
        refine lv_iload_n hx hb dX10_startsChain_105 rfl (lv_at hl 3 rfl) ?_
        refine lv_bipush (v := 15) hx hb dX10_startsChain_106 (by decide) ?_
        refine lv_iadd hx hb dX10_startsChain_108 ?_
        refine lv_topi (fun zq17_ e_zq17_ => ?_)
        have h_zq17_ : zq17_.toInt = x.toInt + 15 := by rw [e_zq17_, iAdd (by have := iRg x; have : (15 : Int32).toInt = 15 := rfl; omega) (by have := iRg x; have : (15 : Int32).toInt = 15 := rfl; omega)]; rfl
        refine lv_iconst (v := 0) hx hb dX10_startsChain_109 (by decide) ?_
        refine yist (x := 0) hC hK hH hc_al (noT hn_al) (iIn (by omega) (by omega)) dX10_startsChain_110 (fun Hq_ lcq_ Mq18_ hc_al hfr hH => ?_)
        have hc_al : Mq18_ al = some (.inl (kA 0, 7506, .inl (upd gq16_ (Int32.toNatClampNeg zq17_) 0))) := hc_al
        have hc_h : Mq18_ h = some (.inr (8, [.ref al, .ref mt, .ref ii, .int ta, .int fpm, .ref pa, .int sm, .int nx, .int tk, .int pl, .int ln, .long va, .int wr, .ref li])) := (hfr h n_h_al).trans hc_h
        have hF : ∀ q, FrK T q → q ≠ al → Mq18_ q = M q := fun q hq h0 => (hfr q h0).trans (hF q hq h0)
        obtain ⟨gq19_, e_gq19_⟩ : ∃ g : Nat → Int32, g = upd gq16_ (Int32.toNatClampNeg zq17_) 0 := ⟨_, rfl⟩
        rw [← e_gq19_] at hc_al
        have hR_gq19_ : Rng gq19_ := by rw [e_gq19_]; exact hR_gq16_.u0
        have hK_gq19_ : Ke f gq19_ := by rw [e_gq19_]; exact hK_gq16_.up (by have := iCl (x := zq17_) (by omega); omega)
        have hp_gq19_ : Kp f gq19_ xn := by rw [e_gq19_]; exact hp_gq16_.up (by have := iCl (x := zq17_) (by omega); omega) (by have := iCl (x := zq17_) (by omega); omega)
        have h1_gq19_ : gq19_ 1 = f 1 := by rw [e_gq19_]; exact (pk_un (by have := iCl (x := zq17_) (by omega); omega)).trans h1_gq16_
        refine lv_aload_n hx hb dX10_startsChain_111 rfl (lv_at hl 2 rfl) ?_
        refine xg hC hK hH flX10_7 hc_h rfl dX10_startsChain_112 ?_
        refine lv_iload_n hx hb dX10_startsChain_115 rfl (lv_at hl 3 rfl) ?_
        refine lv_bipush (v := 16) hx hb dX10_startsChain_116 (by decide) ?_
        refine lv_iadd hx hb dX10_startsChain_118 ?_
        refine lv_topi (fun zq20_ e_zq20_ => ?_)
        have h_zq20_ : zq20_.toInt = x.toInt + 16 := by rw [e_zq20_, iAdd (by have := iRg x; have : (16 : Int32).toInt = 16 := rfl; omega) (by have := iRg x; have : (16 : Int32).toInt = 16 := rfl; omega)]; rfl
        refine lv_iconst (v := -1) hx hb dX10_startsChain_119 (by decide) ?_
        refine yist (x := -1) hC hK hH hc_al (noT hn_al) (iIn (by omega) (by omega)) dX10_startsChain_120 (fun Hq_ lcq_ Mq21_ hc_al hfr hH => ?_)
        have hc_al : Mq21_ al = some (.inl (kA 0, 7506, .inl (upd gq19_ (Int32.toNatClampNeg zq20_) (-1)))) := hc_al
        have hc_h : Mq21_ h = some (.inr (8, [.ref al, .ref mt, .ref ii, .int ta, .int fpm, .ref pa, .int sm, .int nx, .int tk, .int pl, .int ln, .long va, .int wr, .ref li])) := (hfr h n_h_al).trans hc_h
        have hF : ∀ q, FrK T q → q ≠ al → Mq21_ q = M q := fun q hq h0 => (hfr q h0).trans (hF q hq h0)
        obtain ⟨gq22_, e_gq22_⟩ : ∃ g : Nat → Int32, g = upd gq19_ (Int32.toNatClampNeg zq20_) (-1) := ⟨_, rfl⟩
        rw [← e_gq22_] at hc_al
        have hR_gq22_ : Rng gq22_ := by rw [e_gq22_]; exact hR_gq19_.uX (t := t) (b := b) (xn := xn) (by omega) (by omega) (by omega) (by have := iCl (x := zq20_) (by omega); omega) (by have := iCl (x := zq20_) (by omega); omega) (by have := iCl (x := zq20_) (by omega); omega)
        have hK_gq22_ : Ke f gq22_ := by rw [e_gq22_]; exact hK_gq19_.up (by have := iCl (x := zq20_) (by omega); omega)
        have hp_gq22_ : Kp f gq22_ xn := by rw [e_gq22_]; exact hp_gq19_.up (by have := iCl (x := zq20_) (by omega); omega) (by have := iCl (x := zq20_) (by omega); omega)
        have h1_gq22_ : gq22_ 1 = f 1 := by rw [e_gq22_]; exact (pk_un (by have := iCl (x := zq20_) (by omega); omega)).trans h1_gq19_
        refine lv_aload_n hx hb dX10_startsChain_121 rfl (lv_at hl 2 rfl) ?_
        refine xg hC hK hH flX10_7 hc_h rfl dX10_startsChain_122 ?_
        refine lv_iload_n hx hb dX10_startsChain_125 rfl (lv_at hl 3 rfl) ?_
        refine lv_bipush (v := 17) hx hb dX10_startsChain_126 (by decide) ?_
        refine lv_iadd hx hb dX10_startsChain_128 ?_
        refine lv_topi (fun zq23_ e_zq23_ => ?_)
        have h_zq23_ : zq23_.toInt = x.toInt + 17 := by rw [e_zq23_, iAdd (by have := iRg x; have : (17 : Int32).toInt = 17 := rfl; omega) (by have := iRg x; have : (17 : Int32).toInt = 17 := rfl; omega)]; rfl
        refine lv_iconst (v := 0) hx hb dX10_startsChain_129 (by decide) ?_
        refine yist (x := 0) hC hK hH hc_al (noT hn_al) (iIn (by omega) (by omega)) dX10_startsChain_130 (fun Hq_ lcq_ Mq24_ hc_al hfr hH => ?_)
        have hc_al : Mq24_ al = some (.inl (kA 0, 7506, .inl (upd gq22_ (Int32.toNatClampNeg zq23_) 0))) := hc_al
        have hc_h : Mq24_ h = some (.inr (8, [.ref al, .ref mt, .ref ii, .int ta, .int fpm, .ref pa, .int sm, .int nx, .int tk, .int pl, .int ln, .long va, .int wr, .ref li])) := (hfr h n_h_al).trans hc_h
        have hF : ∀ q, FrK T q → q ≠ al → Mq24_ q = M q := fun q hq h0 => (hfr q h0).trans (hF q hq h0)
        obtain ⟨gq25_, e_gq25_⟩ : ∃ g : Nat → Int32, g = upd gq22_ (Int32.toNatClampNeg zq23_) 0 := ⟨_, rfl⟩
        rw [← e_gq25_] at hc_al
        have hR_gq25_ : Rng gq25_ := by rw [e_gq25_]; exact hR_gq22_.u0
        have hK_gq25_ : Ke f gq25_ := by rw [e_gq25_]; exact hK_gq22_.up (by have := iCl (x := zq23_) (by omega); omega)
        have hp_gq25_ : Kp f gq25_ xn := by rw [e_gq25_]; exact hp_gq22_.up (by have := iCl (x := zq23_) (by omega); omega) (by have := iCl (x := zq23_) (by omega); omega)
        have h1_gq25_ : gq25_ 1 = f 1 := by rw [e_gq25_]; exact (pk_un (by have := iCl (x := zq23_) (by omega); omega)).trans h1_gq22_
        refine lv_aload_n hx hb dX10_startsChain_131 rfl (lv_at hl 2 rfl) ?_
        refine xg hC hK hH flX10_7 hc_h rfl dX10_startsChain_132 ?_
        refine lv_iload_n hx hb dX10_startsChain_135 rfl (lv_at hl 3 rfl) ?_
        refine lv_bipush (v := 13) hx hb dX10_startsChain_136 (by decide) ?_
        refine lv_iadd hx hb dX10_startsChain_138 ?_
        refine lv_topi (fun zq26_ e_zq26_ => ?_)
        have h_zq26_ : zq26_.toInt = x.toInt + 13 := by rw [e_zq26_, iAdd (by have := iRg x; have : (13 : Int32).toInt = 13 := rfl; omega) (by have := iRg x; have : (13 : Int32).toInt = 13 := rfl; omega)]; rfl
        refine lv_iload_n hx hb dX10_startsChain_139 rfl (lv_at hl 0 rfl) ?_
        refine yist (x := xq6_) hC hK hH hc_al (noT hn_al) (iIn (by omega) (by omega)) dX10_startsChain_140 (fun Hq_ lcq_ Mq27_ hc_al hfr hH => ?_)
        have hc_al : Mq27_ al = some (.inl (kA 0, 7506, .inl (upd gq25_ (Int32.toNatClampNeg zq26_) xq6_))) := hc_al
        have hc_h : Mq27_ h = some (.inr (8, [.ref al, .ref mt, .ref ii, .int ta, .int fpm, .ref pa, .int sm, .int nx, .int tk, .int pl, .int ln, .long va, .int wr, .ref li])) := (hfr h n_h_al).trans hc_h
        have hF : ∀ q, FrK T q → q ≠ al → Mq27_ q = M q := fun q hq h0 => (hfr q h0).trans (hF q hq h0)
        obtain ⟨gq28_, e_gq28_⟩ : ∃ g : Nat → Int32, g = upd gq25_ (Int32.toNatClampNeg zq26_) xq6_ := ⟨_, rfl⟩
        rw [← e_gq28_] at hc_al
        have hR_gq28_ : Rng gq28_ := by rw [e_gq28_]; exact hR_gq25_.uX (t := t) (b := b) (xn := xn) (by omega) (by omega) (by omega) (by have := iCl (x := zq26_) (by omega); omega) (by have := iCl (x := zq26_) (by omega); omega) (by have := iCl (x := zq26_) (by omega); omega)
        have hK_gq28_ : Ke f gq28_ := by rw [e_gq28_]; exact hK_gq25_.up (by have := iCl (x := zq26_) (by omega); omega)
        have hp_gq28_ : Kp f gq28_ xn := by rw [e_gq28_]; exact hp_gq25_.up (by have := iCl (x := zq26_) (by omega); omega) (by have := iCl (x := zq26_) (by omega); omega)
        have h1_gq28_ : gq28_ 1 = f 1 := by rw [e_gq28_]; exact (pk_un (by have := iCl (x := zq26_) (by omega); omega)).trans h1_gq25_
        refine lv_aload_n hx hb dX10_startsChain_141 rfl (lv_at hl 2 rfl) ?_
        refine xg hC hK hH flX10_7 hc_h rfl dX10_startsChain_142 ?_
        refine lv_iload_n hx hb dX10_startsChain_145 rfl (lv_at hl 3 rfl) ?_
        refine lv_bipush (v := 20) hx hb dX10_startsChain_146 (by decide) ?_
        refine lv_iadd hx hb dX10_startsChain_148 ?_
        refine lv_topi (fun zq29_ e_zq29_ => ?_)
        have h_zq29_ : zq29_.toInt = x.toInt + 20 := by rw [e_zq29_, iAdd (by have := iRg x; have : (20 : Int32).toInt = 20 := rfl; omega) (by have := iRg x; have : (20 : Int32).toInt = 20 := rfl; omega)]; rfl
        refine lv_iload_n hx hb dX10_startsChain_149 rfl (lv_at hl 0 rfl) ?_
        refine lv_iadd hx hb dX10_startsChain_150 ?_
        refine lv_topi (fun zq30_ e_zq30_ => ?_)
        have h_zq30_ : zq30_.toInt = zq29_.toInt + xq6_.toInt := by rw [e_zq30_, iAdd (by have := iRg zq29_; have := iRg xq6_; omega) (by have := iRg zq29_; have := iRg xq6_; omega)]
        have Jq32_ : ∀ vq31_ : Int32, W p l e (rmL 0 0 0) s m ([.ref h, .int x] : List Value).toArray below meth c Hq_ lcq_ 0 0 (MQ below (va_Qv (fun u => ∃ g : Nat → Int32, (Rng g ∧ Ke f g ∧ (Kp f g xn ∧ g 1 = f 1)) ∧ (u.1 al = some (.inl (kA 0, 7506, .inl g))) ∧ u.2 = T ∧ (∀ q, FrK T q → q ≠ al → u.1 q = M q)) (mB D kA M T sz) (mA M T sz)) ([.ref h, .int x] : List Value).toArray s 0 0 (mA M T sz)) (F0 m 180 ls [.int vq31_, .int zq30_, .ref al]) := by
          intro vq31_
          refine yist (x := vq31_) hC hK hH hc_al (noT hn_al) (iIn (by omega) (by omega)) dX10_startsChain_180 (fun Hq_ lcq_ Mq33_ hc_al hfr hH => ?_)
          have hc_al : Mq33_ al = some (.inl (kA 0, 7506, .inl (upd gq28_ (Int32.toNatClampNeg zq30_) vq31_))) := hc_al
          have hc_h : Mq33_ h = some (.inr (8, [.ref al, .ref mt, .ref ii, .int ta, .int fpm, .ref pa, .int sm, .int nx, .int tk, .int pl, .int ln, .long va, .int wr, .ref li])) := (hfr h n_h_al).trans hc_h
          have hF : ∀ q, FrK T q → q ≠ al → Mq33_ q = M q := fun q hq h0 => (hfr q h0).trans (hF q hq h0)
          obtain ⟨gq34_, e_gq34_⟩ : ∃ g : Nat → Int32, g = upd gq28_ (Int32.toNatClampNeg zq30_) vq31_ := ⟨_, rfl⟩
          rw [← e_gq34_] at hc_al
          have hR_gq34_ : Rng gq34_ := by rw [e_gq34_]; exact hR_gq28_.uX (t := t) (b := b) (xn := xn) (by omega) (by omega) (by omega) (by have := iCl (x := zq30_) (by omega); omega) (by have := iCl (x := zq30_) (by omega); omega) (by have := iCl (x := zq30_) (by omega); omega)
          have hK_gq34_ : Ke f gq34_ := by rw [e_gq34_]; exact hK_gq28_.up (by have := iCl (x := zq30_) (by omega); omega)
          have hp_gq34_ : Kp f gq34_ xn := by rw [e_gq34_]; exact hp_gq28_.up (by have := iCl (x := zq30_) (by omega); omega) (by have := iCl (x := zq30_) (by omega); omega)
          have h1_gq34_ : gq34_ 1 = f 1 := by rw [e_gq34_]; exact (pk_un (by have := iCl (x := zq30_) (by omega); omega)).trans h1_gq28_
          refine lv_aload_n hx hb dX10_startsChain_181 rfl (lv_at hl 2 rfl) ?_
          refine xg hC hK hH flX10_7 hc_h rfl dX10_startsChain_182 ?_
          refine lv_iload_n hx hb dX10_startsChain_185 rfl (lv_at hl 3 rfl) ?_
          refine lv_bipush (v := 14) hx hb dX10_startsChain_186 (by decide) ?_
          refine lv_iadd hx hb dX10_startsChain_188 ?_
          refine lv_topi (fun zq35_ e_zq35_ => ?_)
          have h_zq35_ : zq35_.toInt = x.toInt + 14 := by rw [e_zq35_, iAdd (by have := iRg x; have : (14 : Int32).toInt = 14 := rfl; omega) (by have := iRg x; have : (14 : Int32).toInt = 14 := rfl; omega)]; rfl
          refine lv_aload_n hx hb dX10_startsChain_189 rfl (lv_at hl 2 rfl) ?_
          refine xg hC hK hH flX10_7 hc_h rfl dX10_startsChain_190 ?_
          refine lv_iload_n hx hb dX10_startsChain_193 rfl (lv_at hl 3 rfl) ?_
          refine lv_bipush (v := 20) hx hb dX10_startsChain_194 (by decide) ?_
          refine lv_iadd hx hb dX10_startsChain_196 ?_
          refine lv_cst (v := zq29_) e_zq29_.symm ?_
          refine lv_iload_n hx hb dX10_startsChain_197 rfl (lv_at hl 0 rfl) ?_
          refine lv_iadd hx hb dX10_startsChain_198 ?_
          refine lv_cst (v := zq30_) e_zq30_.symm ?_
          refine xild hC hK hH hc_al (iIn (by omega) (by omega)) dX10_startsChain_199 ?_
          refine lv_topi (fun xq36_ e_xq36_ => ?_)
          refine yist (x := xq36_) hC hK hH hc_al (noT hn_al) (iIn (by omega) (by omega)) dX10_startsChain_200 (fun Hq_ lcq_ Mq37_ hc_al hfr hH => ?_)
          have hc_al : Mq37_ al = some (.inl (kA 0, 7506, .inl (upd gq34_ (Int32.toNatClampNeg zq35_) xq36_))) := hc_al
          have hc_h : Mq37_ h = some (.inr (8, [.ref al, .ref mt, .ref ii, .int ta, .int fpm, .ref pa, .int sm, .int nx, .int tk, .int pl, .int ln, .long va, .int wr, .ref li])) := (hfr h n_h_al).trans hc_h
          have hF : ∀ q, FrK T q → q ≠ al → Mq37_ q = M q := fun q hq h0 => (hfr q h0).trans (hF q hq h0)
          obtain ⟨gq38_, e_gq38_⟩ : ∃ g : Nat → Int32, g = upd gq34_ (Int32.toNatClampNeg zq35_) xq36_ := ⟨_, rfl⟩
          rw [← e_gq38_] at hc_al
          have hR_gq38_ : Rng gq38_ := by rw [e_gq38_]; exact hR_gq34_.uX (t := t) (b := b) (xn := xn) (by omega) (by omega) (by omega) (by have := iCl (x := zq35_) (by omega); omega) (by have := iCl (x := zq35_) (by omega); omega) (by have := iCl (x := zq35_) (by omega); omega)
          have hK_gq38_ : Ke f gq38_ := by rw [e_gq38_]; exact hK_gq34_.up (by have := iCl (x := zq35_) (by omega); omega)
          have hp_gq38_ : Kp f gq38_ xn := by rw [e_gq38_]; exact hp_gq34_.up (by have := iCl (x := zq35_) (by omega); omega) (by have := iCl (x := zq35_) (by omega); omega)
          have h1_gq38_ : gq38_ 1 = f 1 := by rw [e_gq38_]; exact (pk_un (by have := iCl (x := zq35_) (by omega); omega)).trans h1_gq34_
          exact ret_v hC hr hlk hK hH (⟨gq38_, ⟨hR_gq38_, hK_gq38_, ⟨hp_gq38_, h1_gq38_⟩⟩, hc_al, rfl, hF⟩) (Nat.le_of_ble_eq_true rfl) (Nat.le_of_ble_eq_true rfl) dX10_startsChain_201
        refine lv_aload_n hx hb dX10_startsChain_151 rfl (lv_at hl 2 rfl) ?_
        refine xg hC hK hH flX10_7 hc_h rfl dX10_startsChain_152 ?_
        refine lv_iload_n hx hb dX10_startsChain_155 rfl (lv_at hl 3 rfl) ?_
        refine lv_bipush (v := 20) hx hb dX10_startsChain_156 (by decide) ?_
        refine lv_iadd hx hb dX10_startsChain_158 ?_
        refine lv_cst (v := zq29_) e_zq29_.symm ?_
        refine lv_iload_n hx hb dX10_startsChain_159 rfl (lv_at hl 0 rfl) ?_
        refine lv_iadd hx hb dX10_startsChain_160 ?_
        refine lv_cst (v := zq30_) e_zq30_.symm ?_
        refine xild hC hK hH hc_al (iIn (by omega) (by omega)) dX10_startsChain_161 ?_
        refine lv_topi (fun xq39_ e_xq39_ => ?_)
        refine jif_ne (tgt := 169) hx hb dX10_startsChain_162 (by decide) (fun cq40_ => ?_) (fun cq40_ => ?_)
        · skip
          have cq40_ : xq39_.toInt ≠ 0 := cq40_
          refine lv_aload_n hx hb dX10_startsChain_169 rfl (lv_at hl 2 rfl) ?_
          refine xg hC hK hH flX10_7 hc_h rfl dX10_startsChain_170 ?_
          refine lv_iload_n hx hb dX10_startsChain_173 rfl (lv_at hl 3 rfl) ?_
          refine lv_bipush (v := 20) hx hb dX10_startsChain_174 (by decide) ?_
          refine lv_iadd hx hb dX10_startsChain_176 ?_
          refine lv_cst (v := zq29_) e_zq29_.symm ?_
          refine lv_iload_n hx hb dX10_startsChain_177 rfl (lv_at hl 0 rfl) ?_
          refine lv_iadd hx hb dX10_startsChain_178 ?_
          refine lv_cst (v := zq30_) e_zq30_.symm ?_
          refine xild hC hK hH hc_al (iIn (by omega) (by omega)) dX10_startsChain_179 ?_
          refine lv_topi (fun xq41_ e_xq41_ => ?_)
          exact Jq32_ xq41_
        · skip
          have cq40_ : xq39_.toInt = 0 := cq40_
          refine lv_iconst (v := 1) hx hb dX10_startsChain_165 (by decide) ?_
          refine lv_goto (tgt := 180) hx hb dX10_startsChain_166 (by decide) ?_
          exact Jq32_ 1
      refine lv_aload_n hx hb dX10_startsChain_82 rfl (lv_at hl 2 rfl) ?_
      refine xg hC hK hH flX10_7 hc_h rfl dX10_startsChain_83 ?_
      refine lv_iload_n hx hb dX10_startsChain_86 rfl (lv_at hl 3 rfl) ?_
      refine lv_bipush (v := 11) hx hb dX10_startsChain_87 (by decide) ?_
      refine lv_iadd hx hb dX10_startsChain_89 ?_
      refine lv_cst (v := zq7_) e_zq7_.symm ?_
      refine xild hC hK hH hc_al (iIn (by omega) (by omega)) dX10_startsChain_90 ?_
      refine lv_topi (fun xq42_ e_xq42_ => ?_)
      have k_xq42_ : xq42_ = gq11_ (xn + 11) := by rw [e_xq42_, clE (n := xn + 11) (by omega)]
      have kt_xq42_ : xq42_.toInt = (gq11_ (xn + 11)).toInt := by rw [k_xq42_]
      refine lv_iconst (v := 1) hx hb dX10_startsChain_91 (by decide) ?_
      refine jic_ne (tgt := 99) hx hb dX10_startsChain_92 (by decide) (fun cq43_ => ?_) (fun cq43_ => ?_)
      · skip
        have cq43_ : xq42_.toInt ≠ 1 := cq43_
        refine lv_iload_n hx hb dX10_startsChain_99 rfl (lv_at hl 0 rfl) ?_
        exact Jq14_ xq6_
      · skip
        have cq43_ : xq42_.toInt = 1 := cq43_
        refine lv_iconst (v := -1) hx hb dX10_startsChain_95 (by decide) ?_
        refine lv_goto (tgt := 100) hx hb dX10_startsChain_96 (by decide) ?_
        exact Jq14_ (-1)
    refine lv_iload_n hx hb dX10_startsChain_52 rfl (lv_at hl 1 rfl) ?_
    refine jif_ne (tgt := 72) hx hb dX10_startsChain_53 (by decide) (fun cq44_ => absurd cq44_ (by decide)) (fun cq44_ => ?_)
    refine lv_aload_n hx hb dX10_startsChain_56 rfl (lv_at hl 2 rfl) ?_
    refine xg hC hK hH flX10_7 hc_h rfl dX10_startsChain_57 ?_
    refine lv_iload_n hx hb dX10_startsChain_60 rfl (lv_at hl 3 rfl) ?_
    refine lv_iconst (v := 5) hx hb dX10_startsChain_61 (by decide) ?_
    refine lv_iadd hx hb dX10_startsChain_62 ?_
    refine lv_topi (fun zq45_ e_zq45_ => ?_)
    have h_zq45_ : zq45_.toInt = x.toInt + 5 := by rw [e_zq45_, iAdd (by have := iRg x; have : (5 : Int32).toInt = 5 := rfl; omega) (by have := iRg x; have : (5 : Int32).toInt = 5 := rfl; omega)]; rfl
    refine xild hC hK hH hc_al (iIn (by omega) (by omega)) dX10_startsChain_63 ?_
    refine lv_topi (fun xq46_ e_xq46_ => ?_)
    have k_xq46_ : xq46_ = f (xn + 5) := by rw [e_xq46_, clE (n := xn + 5) (by omega)]
    have kt_xq46_ : xq46_.toInt = (f (xn + 5)).toInt := by rw [k_xq46_]
    refine lv_iconst (v := 1) hx hb dX10_startsChain_64 (by decide) ?_
    refine jic_ne (tgt := 72) hx hb dX10_startsChain_65 (by decide) (fun cq47_ => ?_) (fun cq47_ => ?_)
    · skip
      have cq47_ : xq46_.toInt ≠ 1 := cq47_
      refine lv_iconst (v := 0) hx hb dX10_startsChain_72 (by decide) ?_
      exact Jq9_ 0 (by decide) (by decide)
    · skip
      have cq47_ : xq46_.toInt = 1 := cq47_
      refine lv_iconst (v := 1) hx hb dX10_startsChain_68 (by decide) ?_
      refine lv_goto (tgt := 73) hx hb dX10_startsChain_69 (by decide) ?_
      exact Jq9_ 1 (by decide) (by decide)
  · skip
    have cq3_ : xq2_.toInt ≠ (-1) := cq3_
    refine lv_iconst (v := 1) hx hb dX10_startsChain_13 (by decide) ?_
    refine lv_goto (tgt := 18) hx hb dX10_startsChain_14 (by decide) ?_
    refine lv_istore_n (lv' := [(2, .int 1), (0, .ref h), (1, .int x)]) hx hb dX10_startsChain_18 rfl hl (by decide) rfl (fun ls hl => ?_)
    refine lv_iload_n hx hb dX10_startsChain_19 rfl (lv_at hl 0 rfl) ?_
    refine jif_eq (tgt := 35) hx hb dX10_startsChain_20 (by decide) (fun cq48_ => absurd cq48_ (by decide)) (fun cq48_ => ?_)
    refine lv_aload_n hx hb dX10_startsChain_23 rfl (lv_at hl 1 rfl) ?_
    refine xg hC hK hH flX10_7 hc_h rfl dX10_startsChain_24 ?_
    refine lv_iload_n hx hb dX10_startsChain_27 rfl (lv_at hl 2 rfl) ?_
    refine lv_bipush (v := 19) hx hb dX10_startsChain_28 (by decide) ?_
    refine lv_iadd hx hb dX10_startsChain_30 ?_
    refine lv_cst (v := zq1_) e_zq1_.symm ?_
    refine xild hC hK hH hc_al (iIn (by omega) (by omega)) dX10_startsChain_31 ?_
    refine lv_topi (fun xq49_ e_xq49_ => ?_)
    have k_xq49_ : xq49_ = f (xn + 19) := by rw [e_xq49_, clE (n := xn + 19) (by omega)]
    have kt_xq49_ : xq49_.toInt = (f (xn + 19)).toInt := by rw [k_xq49_]
    have rr_xq49_ : (-1 : Int) ≤ (f (xn + 19)).toInt ∧ (f (xn + 19)).toInt ≤ 7 := hR_f.rO 19 (t := t) (b := b) (xn := xn) (by omega) (by omega) (by omega) (by decide) rfl
    have l_xq49_ : (-1 : Int) ≤ xq49_.toInt := by rw [kt_xq49_, show xn + 19 = xn + 19 from by omega]; exact rr_xq49_.1
    have g_xq49_ : xq49_.toInt ≤ 7 := by rw [kt_xq49_, show xn + 19 = xn + 19 from by omega]; exact rr_xq49_.2
    refine lv_goto (tgt := 43) hx hb dX10_startsChain_32 (by decide) ?_
    refine lv_istore_n (lv' := [(3, .int xq49_), (2, .int 1), (0, .ref h), (1, .int x)]) hx hb dX10_startsChain_43 rfl hl (by decide) rfl (fun ls hl => ?_)
    refine lv_aload_n hx hb dX10_startsChain_44 rfl (lv_at hl 2 rfl) ?_
    refine xg hC hK hH flX10_7 hc_h rfl dX10_startsChain_45 ?_
    refine lv_iload_n hx hb dX10_startsChain_48 rfl (lv_at hl 3 rfl) ?_
    refine lv_bipush (v := 11) hx hb dX10_startsChain_49 (by decide) ?_
    refine lv_iadd hx hb dX10_startsChain_51 ?_
    refine lv_topi (fun zq50_ e_zq50_ => ?_)
    have h_zq50_ : zq50_.toInt = x.toInt + 11 := by rw [e_zq50_, iAdd (by have := iRg x; have : (11 : Int32).toInt = 11 := rfl; omega) (by have := iRg x; have : (11 : Int32).toInt = 11 := rfl; omega)]; rfl
    have Jq52_ : ∀ vq51_ : Int32, (0 : Int) ≤ vq51_.toInt → vq51_.toInt ≤ 1 → W p l e (rmL 0 0 0) s m ([.ref h, .int x] : List Value).toArray below meth c s.heap [] 0 0 (MQ below (va_Qv (fun u => ∃ g : Nat → Int32, (Rng g ∧ Ke f g ∧ (Kp f g xn ∧ g 1 = f 1)) ∧ (u.1 al = some (.inl (kA 0, 7506, .inl g))) ∧ u.2 = T ∧ (∀ q, FrK T q → q ≠ al → u.1 q = M q)) (mB D kA M T sz) (mA M T sz)) ([.ref h, .int x] : List Value).toArray s 0 0 (mA M T sz)) (F0 m 73 ls [.int vq51_, .int zq50_, .ref al]) := by
      intro vq51_ l_vq51_ g_vq51_
      refine yist (x := vq51_) hC hK hH hc_al (noT hn_al) (iIn (by omega) (by omega)) dX10_startsChain_73 (fun Hq_ lcq_ Mq53_ hc_al hfr hH => ?_)
      have hc_al : Mq53_ al = some (.inl (kA 0, 7506, .inl (upd f (Int32.toNatClampNeg zq50_) vq51_))) := hc_al
      have hc_h : Mq53_ h = some (.inr (8, [.ref al, .ref mt, .ref ii, .int ta, .int fpm, .ref pa, .int sm, .int nx, .int tk, .int pl, .int ln, .long va, .int wr, .ref li])) := (hfr h n_h_al).trans hc_h
      have hF : ∀ q, FrK T q → q ≠ al → Mq53_ q = M q := fun q hq h0 => (hfr q h0).trans (hF q hq h0)
      obtain ⟨gq54_, e_gq54_⟩ : ∃ g : Nat → Int32, g = upd f (Int32.toNatClampNeg zq50_) vq51_ := ⟨_, rfl⟩
      rw [← e_gq54_] at hc_al
      have hR_gq54_ : Rng gq54_ := by rw [e_gq54_]; exact hR_f.uX (t := t) (b := b) (xn := xn) (by omega) (by omega) (by omega) (by have := iCl (x := zq50_) (by omega); omega) (by have := iCl (x := zq50_) (by omega); omega) (by have := iCl (x := zq50_) (by omega); omega)
      have hK_gq54_ : Ke f gq54_ := by rw [e_gq54_]; exact hK_f.up (by have := iCl (x := zq50_) (by omega); omega)
      have hp_gq54_ : Kp f gq54_ xn := by rw [e_gq54_]; exact hp_f.up (by have := iCl (x := zq50_) (by omega); omega) (by have := iCl (x := zq50_) (by omega); omega)
      have h1_gq54_ : gq54_ 1 = f 1 := by rw [e_gq54_]; exact (pk_un (by have := iCl (x := zq50_) (by omega); omega)).trans h1_f
      refine lv_aload_n hx hb dX10_startsChain_74 rfl (lv_at hl 2 rfl) ?_
      refine xg hC hK hH flX10_7 hc_h rfl dX10_startsChain_75 ?_
      refine lv_iload_n hx hb dX10_startsChain_78 rfl (lv_at hl 3 rfl) ?_
      refine lv_bipush (v := 12) hx hb dX10_startsChain_79 (by decide) ?_
      refine lv_iadd hx hb dX10_startsChain_81 ?_
      refine lv_topi (fun zq55_ e_zq55_ => ?_)
      have h_zq55_ : zq55_.toInt = x.toInt + 12 := by rw [e_zq55_, iAdd (by have := iRg x; have : (12 : Int32).toInt = 12 := rfl; omega) (by have := iRg x; have : (12 : Int32).toInt = 12 := rfl; omega)]; rfl
      have Jq57_ : ∀ vq56_ : Int32, W p l e (rmL 0 0 0) s m ([.ref h, .int x] : List Value).toArray below meth c Hq_ lcq_ 0 0 (MQ below (va_Qv (fun u => ∃ g : Nat → Int32, (Rng g ∧ Ke f g ∧ (Kp f g xn ∧ g 1 = f 1)) ∧ (u.1 al = some (.inl (kA 0, 7506, .inl g))) ∧ u.2 = T ∧ (∀ q, FrK T q → q ≠ al → u.1 q = M q)) (mB D kA M T sz) (mA M T sz)) ([.ref h, .int x] : List Value).toArray s 0 0 (mA M T sz)) (F0 m 100 ls [.int vq56_, .int zq55_, .ref al]) := by
        intro vq56_
        refine yist (x := vq56_) hC hK hH hc_al (noT hn_al) (iIn (by omega) (by omega)) dX10_startsChain_100 (fun Hq_ lcq_ Mq58_ hc_al hfr hH => ?_)
        have hc_al : Mq58_ al = some (.inl (kA 0, 7506, .inl (upd gq54_ (Int32.toNatClampNeg zq55_) vq56_))) := hc_al
        have hc_h : Mq58_ h = some (.inr (8, [.ref al, .ref mt, .ref ii, .int ta, .int fpm, .ref pa, .int sm, .int nx, .int tk, .int pl, .int ln, .long va, .int wr, .ref li])) := (hfr h n_h_al).trans hc_h
        have hF : ∀ q, FrK T q → q ≠ al → Mq58_ q = M q := fun q hq h0 => (hfr q h0).trans (hF q hq h0)
        obtain ⟨gq59_, e_gq59_⟩ : ∃ g : Nat → Int32, g = upd gq54_ (Int32.toNatClampNeg zq55_) vq56_ := ⟨_, rfl⟩
        rw [← e_gq59_] at hc_al
        have hR_gq59_ : Rng gq59_ := by rw [e_gq59_]; exact hR_gq54_.uX (t := t) (b := b) (xn := xn) (by omega) (by omega) (by omega) (by have := iCl (x := zq55_) (by omega); omega) (by have := iCl (x := zq55_) (by omega); omega) (by have := iCl (x := zq55_) (by omega); omega)
        have hK_gq59_ : Ke f gq59_ := by rw [e_gq59_]; exact hK_gq54_.up (by have := iCl (x := zq55_) (by omega); omega)
        have hp_gq59_ : Kp f gq59_ xn := by rw [e_gq59_]; exact hp_gq54_.up (by have := iCl (x := zq55_) (by omega); omega) (by have := iCl (x := zq55_) (by omega); omega)
        have h1_gq59_ : gq59_ 1 = f 1 := by rw [e_gq59_]; exact (pk_un (by have := iCl (x := zq55_) (by omega); omega)).trans h1_gq54_
        refine lv_aload_n hx hb dX10_startsChain_101 rfl (lv_at hl 2 rfl) ?_
        refine xg hC hK hH flX10_7 hc_h rfl dX10_startsChain_102 ?_
        refine lv_iload_n hx hb dX10_startsChain_105 rfl (lv_at hl 3 rfl) ?_
        refine lv_bipush (v := 15) hx hb dX10_startsChain_106 (by decide) ?_
        refine lv_iadd hx hb dX10_startsChain_108 ?_
        refine lv_topi (fun zq60_ e_zq60_ => ?_)
        have h_zq60_ : zq60_.toInt = x.toInt + 15 := by rw [e_zq60_, iAdd (by have := iRg x; have : (15 : Int32).toInt = 15 := rfl; omega) (by have := iRg x; have : (15 : Int32).toInt = 15 := rfl; omega)]; rfl
        refine lv_iconst (v := 0) hx hb dX10_startsChain_109 (by decide) ?_
        refine yist (x := 0) hC hK hH hc_al (noT hn_al) (iIn (by omega) (by omega)) dX10_startsChain_110 (fun Hq_ lcq_ Mq61_ hc_al hfr hH => ?_)
        have hc_al : Mq61_ al = some (.inl (kA 0, 7506, .inl (upd gq59_ (Int32.toNatClampNeg zq60_) 0))) := hc_al
        have hc_h : Mq61_ h = some (.inr (8, [.ref al, .ref mt, .ref ii, .int ta, .int fpm, .ref pa, .int sm, .int nx, .int tk, .int pl, .int ln, .long va, .int wr, .ref li])) := (hfr h n_h_al).trans hc_h
        have hF : ∀ q, FrK T q → q ≠ al → Mq61_ q = M q := fun q hq h0 => (hfr q h0).trans (hF q hq h0)
        obtain ⟨gq62_, e_gq62_⟩ : ∃ g : Nat → Int32, g = upd gq59_ (Int32.toNatClampNeg zq60_) 0 := ⟨_, rfl⟩
        rw [← e_gq62_] at hc_al
        have hR_gq62_ : Rng gq62_ := by rw [e_gq62_]; exact hR_gq59_.u0
        have hK_gq62_ : Ke f gq62_ := by rw [e_gq62_]; exact hK_gq59_.up (by have := iCl (x := zq60_) (by omega); omega)
        have hp_gq62_ : Kp f gq62_ xn := by rw [e_gq62_]; exact hp_gq59_.up (by have := iCl (x := zq60_) (by omega); omega) (by have := iCl (x := zq60_) (by omega); omega)
        have h1_gq62_ : gq62_ 1 = f 1 := by rw [e_gq62_]; exact (pk_un (by have := iCl (x := zq60_) (by omega); omega)).trans h1_gq59_
        refine lv_aload_n hx hb dX10_startsChain_111 rfl (lv_at hl 2 rfl) ?_
        refine xg hC hK hH flX10_7 hc_h rfl dX10_startsChain_112 ?_
        refine lv_iload_n hx hb dX10_startsChain_115 rfl (lv_at hl 3 rfl) ?_
        refine lv_bipush (v := 16) hx hb dX10_startsChain_116 (by decide) ?_
        refine lv_iadd hx hb dX10_startsChain_118 ?_
        refine lv_topi (fun zq63_ e_zq63_ => ?_)
        have h_zq63_ : zq63_.toInt = x.toInt + 16 := by rw [e_zq63_, iAdd (by have := iRg x; have : (16 : Int32).toInt = 16 := rfl; omega) (by have := iRg x; have : (16 : Int32).toInt = 16 := rfl; omega)]; rfl
        refine lv_iconst (v := -1) hx hb dX10_startsChain_119 (by decide) ?_
        refine yist (x := -1) hC hK hH hc_al (noT hn_al) (iIn (by omega) (by omega)) dX10_startsChain_120 (fun Hq_ lcq_ Mq64_ hc_al hfr hH => ?_)
        have hc_al : Mq64_ al = some (.inl (kA 0, 7506, .inl (upd gq62_ (Int32.toNatClampNeg zq63_) (-1)))) := hc_al
        have hc_h : Mq64_ h = some (.inr (8, [.ref al, .ref mt, .ref ii, .int ta, .int fpm, .ref pa, .int sm, .int nx, .int tk, .int pl, .int ln, .long va, .int wr, .ref li])) := (hfr h n_h_al).trans hc_h
        have hF : ∀ q, FrK T q → q ≠ al → Mq64_ q = M q := fun q hq h0 => (hfr q h0).trans (hF q hq h0)
        obtain ⟨gq65_, e_gq65_⟩ : ∃ g : Nat → Int32, g = upd gq62_ (Int32.toNatClampNeg zq63_) (-1) := ⟨_, rfl⟩
        rw [← e_gq65_] at hc_al
        have hR_gq65_ : Rng gq65_ := by rw [e_gq65_]; exact hR_gq62_.uX (t := t) (b := b) (xn := xn) (by omega) (by omega) (by omega) (by have := iCl (x := zq63_) (by omega); omega) (by have := iCl (x := zq63_) (by omega); omega) (by have := iCl (x := zq63_) (by omega); omega)
        have hK_gq65_ : Ke f gq65_ := by rw [e_gq65_]; exact hK_gq62_.up (by have := iCl (x := zq63_) (by omega); omega)
        have hp_gq65_ : Kp f gq65_ xn := by rw [e_gq65_]; exact hp_gq62_.up (by have := iCl (x := zq63_) (by omega); omega) (by have := iCl (x := zq63_) (by omega); omega)
        have h1_gq65_ : gq65_ 1 = f 1 := by rw [e_gq65_]; exact (pk_un (by have := iCl (x := zq63_) (by omega); omega)).trans h1_gq62_
        refine lv_aload_n hx hb dX10_startsChain_121 rfl (lv_at hl 2 rfl) ?_
        refine xg hC hK hH flX10_7 hc_h rfl dX10_startsChain_122 ?_
        refine lv_iload_n hx hb dX10_startsChain_125 rfl (lv_at hl 3 rfl) ?_
        refine lv_bipush (v := 17) hx hb dX10_startsChain_126 (by decide) ?_
        refine lv_iadd hx hb dX10_startsChain_128 ?_
        refine lv_topi (fun zq66_ e_zq66_ => ?_)
        have h_zq66_ : zq66_.toInt = x.toInt + 17 := by rw [e_zq66_, iAdd (by have := iRg x; have : (17 : Int32).toInt = 17 := rfl; omega) (by have := iRg x; have : (17 : Int32).toInt = 17 := rfl; omega)]; rfl
        refine lv_iconst (v := 0) hx hb dX10_startsChain_129 (by decide) ?_
        refine yist (x := 0) hC hK hH hc_al (noT hn_al) (iIn (by omega) (by omega)) dX10_startsChain_130 (fun Hq_ lcq_ Mq67_ hc_al hfr hH => ?_)
        have hc_al : Mq67_ al = some (.inl (kA 0, 7506, .inl (upd gq65_ (Int32.toNatClampNeg zq66_) 0))) := hc_al
        have hc_h : Mq67_ h = some (.inr (8, [.ref al, .ref mt, .ref ii, .int ta, .int fpm, .ref pa, .int sm, .int nx, .int tk, .int pl, .int ln, .long va, .int wr, .ref li])) := (hfr h n_h_al).trans hc_h
        have hF : ∀ q, FrK T q → q ≠ al → Mq67_ q = M q := fun q hq h0 => (hfr q h0).trans (hF q hq h0)
        obtain ⟨gq68_, e_gq68_⟩ : ∃ g : Nat → Int32, g = upd gq65_ (Int32.toNatClampNeg zq66_) 0 := ⟨_, rfl⟩
        rw [← e_gq68_] at hc_al
        have hR_gq68_ : Rng gq68_ := by rw [e_gq68_]; exact hR_gq65_.u0
        have hK_gq68_ : Ke f gq68_ := by rw [e_gq68_]; exact hK_gq65_.up (by have := iCl (x := zq66_) (by omega); omega)
        have hp_gq68_ : Kp f gq68_ xn := by rw [e_gq68_]; exact hp_gq65_.up (by have := iCl (x := zq66_) (by omega); omega) (by have := iCl (x := zq66_) (by omega); omega)
        have h1_gq68_ : gq68_ 1 = f 1 := by rw [e_gq68_]; exact (pk_un (by have := iCl (x := zq66_) (by omega); omega)).trans h1_gq65_
        refine lv_aload_n hx hb dX10_startsChain_131 rfl (lv_at hl 2 rfl) ?_
        refine xg hC hK hH flX10_7 hc_h rfl dX10_startsChain_132 ?_
        refine lv_iload_n hx hb dX10_startsChain_135 rfl (lv_at hl 3 rfl) ?_
        refine lv_bipush (v := 13) hx hb dX10_startsChain_136 (by decide) ?_
        refine lv_iadd hx hb dX10_startsChain_138 ?_
        refine lv_topi (fun zq69_ e_zq69_ => ?_)
        have h_zq69_ : zq69_.toInt = x.toInt + 13 := by rw [e_zq69_, iAdd (by have := iRg x; have : (13 : Int32).toInt = 13 := rfl; omega) (by have := iRg x; have : (13 : Int32).toInt = 13 := rfl; omega)]; rfl
        refine lv_iload_n hx hb dX10_startsChain_139 rfl (lv_at hl 0 rfl) ?_
        refine yist (x := xq49_) hC hK hH hc_al (noT hn_al) (iIn (by omega) (by omega)) dX10_startsChain_140 (fun Hq_ lcq_ Mq70_ hc_al hfr hH => ?_)
        have hc_al : Mq70_ al = some (.inl (kA 0, 7506, .inl (upd gq68_ (Int32.toNatClampNeg zq69_) xq49_))) := hc_al
        have hc_h : Mq70_ h = some (.inr (8, [.ref al, .ref mt, .ref ii, .int ta, .int fpm, .ref pa, .int sm, .int nx, .int tk, .int pl, .int ln, .long va, .int wr, .ref li])) := (hfr h n_h_al).trans hc_h
        have hF : ∀ q, FrK T q → q ≠ al → Mq70_ q = M q := fun q hq h0 => (hfr q h0).trans (hF q hq h0)
        obtain ⟨gq71_, e_gq71_⟩ : ∃ g : Nat → Int32, g = upd gq68_ (Int32.toNatClampNeg zq69_) xq49_ := ⟨_, rfl⟩
        rw [← e_gq71_] at hc_al
        have hR_gq71_ : Rng gq71_ := by rw [e_gq71_]; exact hR_gq68_.uX (t := t) (b := b) (xn := xn) (by omega) (by omega) (by omega) (by have := iCl (x := zq69_) (by omega); omega) (by have := iCl (x := zq69_) (by omega); omega) (by have := iCl (x := zq69_) (by omega); omega)
        have hK_gq71_ : Ke f gq71_ := by rw [e_gq71_]; exact hK_gq68_.up (by have := iCl (x := zq69_) (by omega); omega)
        have hp_gq71_ : Kp f gq71_ xn := by rw [e_gq71_]; exact hp_gq68_.up (by have := iCl (x := zq69_) (by omega); omega) (by have := iCl (x := zq69_) (by omega); omega)
        have h1_gq71_ : gq71_ 1 = f 1 := by rw [e_gq71_]; exact (pk_un (by have := iCl (x := zq69_) (by omega); omega)).trans h1_gq68_
        refine lv_aload_n hx hb dX10_startsChain_141 rfl (lv_at hl 2 rfl) ?_
        refine xg hC hK hH flX10_7 hc_h rfl dX10_startsChain_142 ?_
        refine lv_iload_n hx hb dX10_startsChain_145 rfl (lv_at hl 3 rfl) ?_
        refine lv_bipush (v := 20) hx hb dX10_startsChain_146 (by decide) ?_
        refine lv_iadd hx hb dX10_startsChain_148 ?_
        refine lv_topi (fun zq72_ e_zq72_ => ?_)
        have h_zq72_ : zq72_.toInt = x.toInt + 20 := by rw [e_zq72_, iAdd (by have := iRg x; have : (20 : Int32).toInt = 20 := rfl; omega) (by have := iRg x; have : (20 : Int32).toInt = 20 := rfl; omega)]; rfl
        refine lv_iload_n hx hb dX10_startsChain_149 rfl (lv_at hl 0 rfl) ?_
        refine lv_iadd hx hb dX10_startsChain_150 ?_
        refine lv_topi (fun zq73_ e_zq73_ => ?_)
        have h_zq73_ : zq73_.toInt = zq72_.toInt + xq49_.toInt := by rw [e_zq73_, iAdd (by have := iRg zq72_; have := iRg xq49_; omega) (by have := iRg zq72_; have := iRg xq49_; omega)]
        have Jq75_ : ∀ vq74_ : Int32, W p l e (rmL 0 0 0) s m ([.ref h, .int x] : List Value).toArray below meth c Hq_ lcq_ 0 0 (MQ below (va_Qv (fun u => ∃ g : Nat → Int32, (Rng g ∧ Ke f g ∧ (Kp f g xn ∧ g 1 = f 1)) ∧ (u.1 al = some (.inl (kA 0, 7506, .inl g))) ∧ u.2 = T ∧ (∀ q, FrK T q → q ≠ al → u.1 q = M q)) (mB D kA M T sz) (mA M T sz)) ([.ref h, .int x] : List Value).toArray s 0 0 (mA M T sz)) (F0 m 180 ls [.int vq74_, .int zq73_, .ref al]) := by
          intro vq74_
          refine yist (x := vq74_) hC hK hH hc_al (noT hn_al) (iIn (by omega) (by omega)) dX10_startsChain_180 (fun Hq_ lcq_ Mq76_ hc_al hfr hH => ?_)
          have hc_al : Mq76_ al = some (.inl (kA 0, 7506, .inl (upd gq71_ (Int32.toNatClampNeg zq73_) vq74_))) := hc_al
          have hc_h : Mq76_ h = some (.inr (8, [.ref al, .ref mt, .ref ii, .int ta, .int fpm, .ref pa, .int sm, .int nx, .int tk, .int pl, .int ln, .long va, .int wr, .ref li])) := (hfr h n_h_al).trans hc_h
          have hF : ∀ q, FrK T q → q ≠ al → Mq76_ q = M q := fun q hq h0 => (hfr q h0).trans (hF q hq h0)
          obtain ⟨gq77_, e_gq77_⟩ : ∃ g : Nat → Int32, g = upd gq71_ (Int32.toNatClampNeg zq73_) vq74_ := ⟨_, rfl⟩
          rw [← e_gq77_] at hc_al
          have hR_gq77_ : Rng gq77_ := by rw [e_gq77_]; exact hR_gq71_.uX (t := t) (b := b) (xn := xn) (by omega) (by omega) (by omega) (by have := iCl (x := zq73_) (by omega); omega) (by have := iCl (x := zq73_) (by omega); omega) (by have := iCl (x := zq73_) (by omega); omega)
          have hK_gq77_ : Ke f gq77_ := by rw [e_gq77_]; exact hK_gq71_.up (by have := iCl (x := zq73_) (by omega); omega)
          have hp_gq77_ : Kp f gq77_ xn := by rw [e_gq77_]; exact hp_gq71_.up (by have := iCl (x := zq73_) (by omega); omega) (by have := iCl (x := zq73_) (by omega); omega)
          have h1_gq77_ : gq77_ 1 = f 1 := by rw [e_gq77_]; exact (pk_un (by have := iCl (x := zq73_) (by omega); omega)).trans h1_gq71_
          refine lv_aload_n hx hb dX10_startsChain_181 rfl (lv_at hl 2 rfl) ?_
          refine xg hC hK hH flX10_7 hc_h rfl dX10_startsChain_182 ?_
          refine lv_iload_n hx hb dX10_startsChain_185 rfl (lv_at hl 3 rfl) ?_
          refine lv_bipush (v := 14) hx hb dX10_startsChain_186 (by decide) ?_
          refine lv_iadd hx hb dX10_startsChain_188 ?_
          refine lv_topi (fun zq78_ e_zq78_ => ?_)
          have h_zq78_ : zq78_.toInt = x.toInt + 14 := by rw [e_zq78_, iAdd (by have := iRg x; have : (14 : Int32).toInt = 14 := rfl; omega) (by have := iRg x; have : (14 : Int32).toInt = 14 := rfl; omega)]; rfl
          refine lv_aload_n hx hb dX10_startsChain_189 rfl (lv_at hl 2 rfl) ?_
          refine xg hC hK hH flX10_7 hc_h rfl dX10_startsChain_190 ?_
          refine lv_iload_n hx hb dX10_startsChain_193 rfl (lv_at hl 3 rfl) ?_
          refine lv_bipush (v := 20) hx hb dX10_startsChain_194 (by decide) ?_
          refine lv_iadd hx hb dX10_startsChain_196 ?_
          refine lv_cst (v := zq72_) e_zq72_.symm ?_
          refine lv_iload_n hx hb dX10_startsChain_197 rfl (lv_at hl 0 rfl) ?_
          refine lv_iadd hx hb dX10_startsChain_198 ?_
          refine lv_cst (v := zq73_) e_zq73_.symm ?_
          refine xild hC hK hH hc_al (iIn (by omega) (by omega)) dX10_startsChain_199 ?_
          refine lv_topi (fun xq79_ e_xq79_ => ?_)
          refine yist (x := xq79_) hC hK hH hc_al (noT hn_al) (iIn (by omega) (by omega)) dX10_startsChain_200 (fun Hq_ lcq_ Mq80_ hc_al hfr hH => ?_)
          have hc_al : Mq80_ al = some (.inl (kA 0, 7506, .inl (upd gq77_ (Int32.toNatClampNeg zq78_) xq79_))) := hc_al
          have hc_h : Mq80_ h = some (.inr (8, [.ref al, .ref mt, .ref ii, .int ta, .int fpm, .ref pa, .int sm, .int nx, .int tk, .int pl, .int ln, .long va, .int wr, .ref li])) := (hfr h n_h_al).trans hc_h
          have hF : ∀ q, FrK T q → q ≠ al → Mq80_ q = M q := fun q hq h0 => (hfr q h0).trans (hF q hq h0)
          obtain ⟨gq81_, e_gq81_⟩ : ∃ g : Nat → Int32, g = upd gq77_ (Int32.toNatClampNeg zq78_) xq79_ := ⟨_, rfl⟩
          rw [← e_gq81_] at hc_al
          have hR_gq81_ : Rng gq81_ := by rw [e_gq81_]; exact hR_gq77_.uX (t := t) (b := b) (xn := xn) (by omega) (by omega) (by omega) (by have := iCl (x := zq78_) (by omega); omega) (by have := iCl (x := zq78_) (by omega); omega) (by have := iCl (x := zq78_) (by omega); omega)
          have hK_gq81_ : Ke f gq81_ := by rw [e_gq81_]; exact hK_gq77_.up (by have := iCl (x := zq78_) (by omega); omega)
          have hp_gq81_ : Kp f gq81_ xn := by rw [e_gq81_]; exact hp_gq77_.up (by have := iCl (x := zq78_) (by omega); omega) (by have := iCl (x := zq78_) (by omega); omega)
          have h1_gq81_ : gq81_ 1 = f 1 := by rw [e_gq81_]; exact (pk_un (by have := iCl (x := zq78_) (by omega); omega)).trans h1_gq77_
          exact ret_v hC hr hlk hK hH (⟨gq81_, ⟨hR_gq81_, hK_gq81_, ⟨hp_gq81_, h1_gq81_⟩⟩, hc_al, rfl, hF⟩) (Nat.le_of_ble_eq_true rfl) (Nat.le_of_ble_eq_true rfl) dX10_startsChain_201
        refine lv_aload_n hx hb dX10_startsChain_151 rfl (lv_at hl 2 rfl) ?_
        refine xg hC hK hH flX10_7 hc_h rfl dX10_startsChain_152 ?_
        refine lv_iload_n hx hb dX10_startsChain_155 rfl (lv_at hl 3 rfl) ?_
        refine lv_bipush (v := 20) hx hb dX10_startsChain_156 (by decide) ?_
        refine lv_iadd hx hb dX10_startsChain_158 ?_
        refine lv_cst (v := zq72_) e_zq72_.symm ?_
        refine lv_iload_n hx hb dX10_startsChain_159 rfl (lv_at hl 0 rfl) ?_
        refine lv_iadd hx hb dX10_startsChain_160 ?_
        refine lv_cst (v := zq73_) e_zq73_.symm ?_
        refine xild hC hK hH hc_al (iIn (by omega) (by omega)) dX10_startsChain_161 ?_
        refine lv_topi (fun xq82_ e_xq82_ => ?_)
        refine jif_ne (tgt := 169) hx hb dX10_startsChain_162 (by decide) (fun cq83_ => ?_) (fun cq83_ => ?_)
        · skip
          have cq83_ : xq82_.toInt ≠ 0 := cq83_
          refine lv_aload_n hx hb dX10_startsChain_169 rfl (lv_at hl 2 rfl) ?_
          refine xg hC hK hH flX10_7 hc_h rfl dX10_startsChain_170 ?_
          refine lv_iload_n hx hb dX10_startsChain_173 rfl (lv_at hl 3 rfl) ?_
          refine lv_bipush (v := 20) hx hb dX10_startsChain_174 (by decide) ?_
          refine lv_iadd hx hb dX10_startsChain_176 ?_
          refine lv_cst (v := zq72_) e_zq72_.symm ?_
          refine lv_iload_n hx hb dX10_startsChain_177 rfl (lv_at hl 0 rfl) ?_
          refine lv_iadd hx hb dX10_startsChain_178 ?_
          refine lv_cst (v := zq73_) e_zq73_.symm ?_
          refine xild hC hK hH hc_al (iIn (by omega) (by omega)) dX10_startsChain_179 ?_
          refine lv_topi (fun xq84_ e_xq84_ => ?_)
          exact Jq75_ xq84_
        · skip
          have cq83_ : xq82_.toInt = 0 := cq83_
          refine lv_iconst (v := 1) hx hb dX10_startsChain_165 (by decide) ?_
          refine lv_goto (tgt := 180) hx hb dX10_startsChain_166 (by decide) ?_
          exact Jq75_ 1
      refine lv_aload_n hx hb dX10_startsChain_82 rfl (lv_at hl 2 rfl) ?_
      refine xg hC hK hH flX10_7 hc_h rfl dX10_startsChain_83 ?_
      refine lv_iload_n hx hb dX10_startsChain_86 rfl (lv_at hl 3 rfl) ?_
      refine lv_bipush (v := 11) hx hb dX10_startsChain_87 (by decide) ?_
      refine lv_iadd hx hb dX10_startsChain_89 ?_
      refine lv_cst (v := zq50_) e_zq50_.symm ?_
      refine xild hC hK hH hc_al (iIn (by omega) (by omega)) dX10_startsChain_90 ?_
      refine lv_topi (fun xq85_ e_xq85_ => ?_)
      have k_xq85_ : xq85_ = gq54_ (xn + 11) := by rw [e_xq85_, clE (n := xn + 11) (by omega)]
      have kt_xq85_ : xq85_.toInt = (gq54_ (xn + 11)).toInt := by rw [k_xq85_]
      refine lv_iconst (v := 1) hx hb dX10_startsChain_91 (by decide) ?_
      refine jic_ne (tgt := 99) hx hb dX10_startsChain_92 (by decide) (fun cq86_ => ?_) (fun cq86_ => ?_)
      · skip
        have cq86_ : xq85_.toInt ≠ 1 := cq86_
        refine lv_iload_n hx hb dX10_startsChain_99 rfl (lv_at hl 0 rfl) ?_
        exact Jq57_ xq49_
      · skip
        have cq86_ : xq85_.toInt = 1 := cq86_
        refine lv_iconst (v := -1) hx hb dX10_startsChain_95 (by decide) ?_
        refine lv_goto (tgt := 100) hx hb dX10_startsChain_96 (by decide) ?_
        exact Jq57_ (-1)
    refine lv_iload_n hx hb dX10_startsChain_52 rfl (lv_at hl 1 rfl) ?_
    refine jif_ne (tgt := 72) hx hb dX10_startsChain_53 (by decide) (fun cq87_ => ?_) (fun cq87_ => absurd cq87_ (by decide))
    refine lv_iconst (v := 0) hx hb dX10_startsChain_72 (by decide) ?_
    exact Jq52_ 0 (by decide) (by decide)
set_option maxHeartbeats 4000000 in
set_option maxRecDepth 100000 in
theorem c_X10_owns {l : Launch} {D : va_G} {kA : Nat → ClassId} {M : mM} {T : mT} {sz : Nat} {h al mt ii pa li : Nat} {ta fpm sm nx tk pl ln wr : Int32} {va : Int64} {f : Nat → Int32} {x : Int32} {xn t b : Nat} {wh its : Int32} (hc_h : M h = some (.inr (8, [.ref al, .ref mt, .ref ii, .int ta, .int fpm, .ref pa, .int sm, .int nx, .int tk, .int pl, .int ln, .long va, .int wr, .ref li]))) (hn_h : T h = none) (hc_al : M al = some (.inl (kA 0, 7506, .inl f))) (hn_al : T al = none) (ht_mt : T mt = some 11) (ht_pa : T pa = some 13) (ht_li : T li = some 14) (hR_f : Rng f) (hxt : t < 2) (hxb : b < 4) (hxn : xn = 1140 * t + 20 + 280 * b) (hxx : x.toInt = (xn : Int)) (hwh : 0 ≤ wh.toInt ∧ wh.toInt ≤ 7) : mCv l yX10_owns cX10_owns 4 0 0 0 D kA M T sz [.ref h, .int x, .int wh, .int its] (fun u => ∃ g : Nat → Int32, (Rng g ∧ Ke f g) ∧ (u.1 al = some (.inl (kA 0, 7506, .inl g))) ∧ u.2 = T ∧ (∀ q, FrK T q → q ≠ al → u.1 q = M q)) := by
  unfold mCv
  refine start_W (by decide) (Nat.le_of_ble_eq_true rfl) ?_
  intro p e s m below meth c ls hC hr hlk hnm hK hH hsz hl
  have hx := hC.1
  have hb := hC.2.1
  have hl : lv_has ls 4 [(0, .ref h), (1, .int x), (2, .int wh), (3, .int its)] := hl
  have hF : ∀ q, FrK T q → q ≠ al → M q = M q := fun q _ _ => rfl
  have n_h_al : h ≠ al := neM hc_h hc_al (by simp)
  have n_al_h : al ≠ h := neM hc_al hc_h (by simp)
  have hK_f : Ke f f := Ke.rf
  refine lv_aload_n hx hb dX10_owns_0 rfl (lv_at hl 0 rfl) ?_
  refine xg hC hK hH flX10_7 hc_h rfl dX10_owns_1 ?_
  refine lv_iload_n hx hb dX10_owns_4 rfl (lv_at hl 1 rfl) ?_
  refine lv_bipush (v := 13) hx hb dX10_owns_5 (by decide) ?_
  refine lv_iadd hx hb dX10_owns_7 ?_
  refine lv_topi (fun zq1_ e_zq1_ => ?_)
  have h_zq1_ : zq1_.toInt = x.toInt + 13 := by rw [e_zq1_, iAdd (by have := iRg x; have : (13 : Int32).toInt = 13 := rfl; omega) (by have := iRg x; have : (13 : Int32).toInt = 13 := rfl; omega)]; rfl
  refine lv_iload_n hx hb dX10_owns_8 rfl (lv_at hl 2 rfl) ?_
  refine yist (x := wh) hC hK hH hc_al (noT hn_al) (iIn (by omega) (by omega)) dX10_owns_9 (fun Hq_ lcq_ Mq2_ hc_al hfr hH => ?_)
  have hc_al : Mq2_ al = some (.inl (kA 0, 7506, .inl (upd f (Int32.toNatClampNeg zq1_) wh))) := hc_al
  have hc_h : Mq2_ h = some (.inr (8, [.ref al, .ref mt, .ref ii, .int ta, .int fpm, .ref pa, .int sm, .int nx, .int tk, .int pl, .int ln, .long va, .int wr, .ref li])) := (hfr h n_h_al).trans hc_h
  have hF : ∀ q, FrK T q → q ≠ al → Mq2_ q = M q := fun q hq h0 => (hfr q h0).trans (hF q hq h0)
  obtain ⟨gq3_, e_gq3_⟩ : ∃ g : Nat → Int32, g = upd f (Int32.toNatClampNeg zq1_) wh := ⟨_, rfl⟩
  rw [← e_gq3_] at hc_al
  have hR_gq3_ : Rng gq3_ := by rw [e_gq3_]; exact hR_f.uX (t := t) (b := b) (xn := xn) (by omega) (by omega) (by omega) (by have := iCl (x := zq1_) (by omega); omega) (by have := iCl (x := zq1_) (by omega); omega) (by have := iCl (x := zq1_) (by omega); omega)
  have hK_gq3_ : Ke f gq3_ := by rw [e_gq3_]; exact hK_f.up (by have := iCl (x := zq1_) (by omega); omega)
  refine lv_aload_n hx hb dX10_owns_10 rfl (lv_at hl 0 rfl) ?_
  refine xg hC hK hH flX10_7 hc_h rfl dX10_owns_11 ?_
  refine lv_iload_n hx hb dX10_owns_14 rfl (lv_at hl 1 rfl) ?_
  refine lv_bipush (v := 14) hx hb dX10_owns_15 (by decide) ?_
  refine lv_iadd hx hb dX10_owns_17 ?_
  refine lv_topi (fun zq4_ e_zq4_ => ?_)
  have h_zq4_ : zq4_.toInt = x.toInt + 14 := by rw [e_zq4_, iAdd (by have := iRg x; have : (14 : Int32).toInt = 14 := rfl; omega) (by have := iRg x; have : (14 : Int32).toInt = 14 := rfl; omega)]; rfl
  refine lv_iload_n hx hb dX10_owns_18 rfl (lv_at hl 3 rfl) ?_
  refine yist (x := its) hC hK hH hc_al (noT hn_al) (iIn (by omega) (by omega)) dX10_owns_19 (fun Hq_ lcq_ Mq5_ hc_al hfr hH => ?_)
  have hc_al : Mq5_ al = some (.inl (kA 0, 7506, .inl (upd gq3_ (Int32.toNatClampNeg zq4_) its))) := hc_al
  have hc_h : Mq5_ h = some (.inr (8, [.ref al, .ref mt, .ref ii, .int ta, .int fpm, .ref pa, .int sm, .int nx, .int tk, .int pl, .int ln, .long va, .int wr, .ref li])) := (hfr h n_h_al).trans hc_h
  have hF : ∀ q, FrK T q → q ≠ al → Mq5_ q = M q := fun q hq h0 => (hfr q h0).trans (hF q hq h0)
  obtain ⟨gq6_, e_gq6_⟩ : ∃ g : Nat → Int32, g = upd gq3_ (Int32.toNatClampNeg zq4_) its := ⟨_, rfl⟩
  rw [← e_gq6_] at hc_al
  have hR_gq6_ : Rng gq6_ := by rw [e_gq6_]; exact hR_gq3_.uX (t := t) (b := b) (xn := xn) (by omega) (by omega) (by omega) (by have := iCl (x := zq4_) (by omega); omega) (by have := iCl (x := zq4_) (by omega); omega) (by have := iCl (x := zq4_) (by omega); omega)
  have hK_gq6_ : Ke f gq6_ := by rw [e_gq6_]; exact hK_gq3_.up (by have := iCl (x := zq4_) (by omega); omega)
  refine lv_aload_n hx hb dX10_owns_20 rfl (lv_at hl 0 rfl) ?_
  refine xg hC hK hH flX10_7 hc_h rfl dX10_owns_21 ?_
  refine lv_iload_n hx hb dX10_owns_24 rfl (lv_at hl 1 rfl) ?_
  refine lv_bipush (v := 20) hx hb dX10_owns_25 (by decide) ?_
  refine lv_iadd hx hb dX10_owns_27 ?_
  refine lv_topi (fun zq7_ e_zq7_ => ?_)
  have h_zq7_ : zq7_.toInt = x.toInt + 20 := by rw [e_zq7_, iAdd (by have := iRg x; have : (20 : Int32).toInt = 20 := rfl; omega) (by have := iRg x; have : (20 : Int32).toInt = 20 := rfl; omega)]; rfl
  refine lv_iload_n hx hb dX10_owns_28 rfl (lv_at hl 2 rfl) ?_
  refine lv_iadd hx hb dX10_owns_29 ?_
  refine lv_topi (fun zq8_ e_zq8_ => ?_)
  have h_zq8_ : zq8_.toInt = zq7_.toInt + wh.toInt := by rw [e_zq8_, iAdd (by have := iRg zq7_; have := iRg wh; omega) (by have := iRg zq7_; have := iRg wh; omega)]
  refine xild hC hK hH hc_al (iIn (by omega) (by omega)) dX10_owns_30 ?_
  refine lv_topi (fun xq9_ e_xq9_ => ?_)
  refine jif_ne (tgt := 46) hx hb dX10_owns_31 (by decide) (fun cq10_ => ?_) (fun cq10_ => ?_)
  · skip
    have cq10_ : xq9_.toInt ≠ 0 := cq10_
    exact ret_v hC hr hlk hK hH (⟨gq6_, ⟨hR_gq6_, hK_gq6_⟩, hc_al, rfl, hF⟩) (Nat.le_of_ble_eq_true rfl) (Nat.le_of_ble_eq_true rfl) dX10_owns_46
  · skip
    have cq10_ : xq9_.toInt = 0 := cq10_
    refine lv_aload_n hx hb dX10_owns_34 rfl (lv_at hl 0 rfl) ?_
    refine xg hC hK hH flX10_7 hc_h rfl dX10_owns_35 ?_
    refine lv_iload_n hx hb dX10_owns_38 rfl (lv_at hl 1 rfl) ?_
    refine lv_bipush (v := 20) hx hb dX10_owns_39 (by decide) ?_
    refine lv_iadd hx hb dX10_owns_41 ?_
    refine lv_cst (v := zq7_) e_zq7_.symm ?_
    refine lv_iload_n hx hb dX10_owns_42 rfl (lv_at hl 2 rfl) ?_
    refine lv_iadd hx hb dX10_owns_43 ?_
    refine lv_cst (v := zq8_) e_zq8_.symm ?_
    refine lv_iload_n hx hb dX10_owns_44 rfl (lv_at hl 3 rfl) ?_
    refine yist (x := its) hC hK hH hc_al (noT hn_al) (iIn (by omega) (by omega)) dX10_owns_45 (fun Hq_ lcq_ Mq11_ hc_al hfr hH => ?_)
    have hc_al : Mq11_ al = some (.inl (kA 0, 7506, .inl (upd gq6_ (Int32.toNatClampNeg zq8_) its))) := hc_al
    have hc_h : Mq11_ h = some (.inr (8, [.ref al, .ref mt, .ref ii, .int ta, .int fpm, .ref pa, .int sm, .int nx, .int tk, .int pl, .int ln, .long va, .int wr, .ref li])) := (hfr h n_h_al).trans hc_h
    have hF : ∀ q, FrK T q → q ≠ al → Mq11_ q = M q := fun q hq h0 => (hfr q h0).trans (hF q hq h0)
    obtain ⟨gq12_, e_gq12_⟩ : ∃ g : Nat → Int32, g = upd gq6_ (Int32.toNatClampNeg zq8_) its := ⟨_, rfl⟩
    rw [← e_gq12_] at hc_al
    have hR_gq12_ : Rng gq12_ := by rw [e_gq12_]; exact hR_gq6_.uX (t := t) (b := b) (xn := xn) (by omega) (by omega) (by omega) (by have := iCl (x := zq8_) (by omega); omega) (by have := iCl (x := zq8_) (by omega); omega) (by have := iCl (x := zq8_) (by omega); omega)
    have hK_gq12_ : Ke f gq12_ := by rw [e_gq12_]; exact hK_gq6_.up (by have := iCl (x := zq8_) (by omega); omega)
    exact ret_v hC hr hlk hK hH (⟨gq12_, ⟨hR_gq12_, hK_gq12_⟩, hc_al, rfl, hF⟩) (Nat.le_of_ble_eq_true rfl) (Nat.le_of_ble_eq_true rfl) dX10_owns_46
set_option maxHeartbeats 4000000 in
set_option maxRecDepth 100000 in
theorem c_X10_gets {l : Launch} {D : va_G} {kA : Nat → ClassId} {M : mM} {T : mT} {sz : Nat} {h al mt ii pa li : Nat} {ta fpm sm nx tk pl ln wr : Int32} {va : Int64} {f : Nat → Int32} {x : Int32} {xn t b : Nat} {k : Int32} {kn : Nat} (hc_h : M h = some (.inr (8, [.ref al, .ref mt, .ref ii, .int ta, .int fpm, .ref pa, .int sm, .int nx, .int tk, .int pl, .int ln, .long va, .int wr, .ref li]))) (hn_h : T h = none) (hc_al : M al = some (.inl (kA 0, 7506, .inl f))) (hn_al : T al = none) (ht_mt : T mt = some 11) (ht_pa : T pa = some 13) (ht_li : T li = some 14) (hR_f : Rng f) (hxt : t < 2) (hxb : b < 4) (hxn : xn = 1140 * t + 20 + 280 * b) (hxx : x.toInt = (xn : Int)) (hkn : k.toInt = (kn : Int)) (hk12 : kn ≤ 11) : mCv l yX10_gets cX10_gets 6 1 0 0 D kA M T sz [.ref h, .int x, .int k] (fun u => ∃ g : Nat → Int32, (Rng g ∧ Ke f g) ∧ (u.1 al = some (.inl (kA 0, 7506, .inl g))) ∧ u.2 = T ∧ (∀ q, FrK T q → q ≠ al → u.1 q = M q)) := by
  unfold mCv
  refine start_W (by decide) (Nat.le_of_ble_eq_true rfl) ?_
  intro p e s m below meth c ls hC hr hlk hnm hK hH hsz hl
  have hx := hC.1
  have hb := hC.2.1
  have hl : lv_has ls 6 [(0, .ref h), (1, .int x), (2, .int k)] := hl
  have hF : ∀ q, FrK T q → q ≠ al → M q = M q := fun q _ _ => rfl
  have n_h_al : h ≠ al := neM hc_h hc_al (by simp)
  have n_al_h : al ≠ h := neM hc_al hc_h (by simp)
  have hK_f : Ke f f := Ke.rf
  refine lv_aload_n hx hb dX10_gets_0 rfl (lv_at hl 0 rfl) ?_
  refine xg hC hK hH flX10_7 hc_h rfl dX10_gets_1 ?_
  refine lv_iload_n hx hb dX10_gets_4 rfl (lv_at hl 1 rfl) ?_
  refine lv_iload_n hx hb dX10_gets_5 rfl (lv_at hl 2 rfl) ?_
  refine goI hK hH (runS (As := [.int x, .int k]) (rest := [.ref al]) hC hK hH (c_X10_stepAt (by omega) (by omega)) mlX10_37 ⟨⟨Nat.le_of_ble_eq_true rfl, Nat.le_of_ble_eq_true rfl⟩, Nat.le_of_ble_eq_true rfl, Nat.le_of_ble_eq_true rfl⟩ rfl hl.1 rfl (Nat.le_of_ble_eq_true rfl) dX10_gets_6) (fun rq3_ Mq1_ Tq2_ Hq_ lcq_ hP hz hH => ?_)
  try dsimp only at hP
  obtain ⟨(⟨cq4_, ⟨l_rq3_, g_rq3_⟩⟩), eT, eM⟩ := hP
  have eT := eT.symm; subst eT
  have eM := eM.symm; subst eM
  have cq4_ : rq3_.toInt = x.toInt + 40 + 12 * k.toInt := cq4_
  have hx_rq3_ : rq3_.toInt = ((xn + 40 + 12 * kn : Nat) : Int) := by omega
  refine lv_iconst (v := 3) hx hb dX10_gets_9 (by decide) ?_
  refine lv_iadd hx hb dX10_gets_10 ?_
  refine lv_topi (fun zq5_ e_zq5_ => ?_)
  have h_zq5_ : zq5_.toInt = rq3_.toInt + 3 := by rw [e_zq5_, iAdd (by have := iRg rq3_; have : (3 : Int32).toInt = 3 := rfl; omega) (by have := iRg rq3_; have : (3 : Int32).toInt = 3 := rfl; omega)]; rfl
  refine xild hC hK hH hc_al (iIn (by omega) (by omega)) dX10_gets_11 ?_
  refine lv_topi (fun xq6_ e_xq6_ => ?_)
  have k_xq6_ : xq6_ = f (xn + 40 + 12 * kn + 3) := by rw [e_xq6_, clE (n := xn + 40 + 12 * kn + 3) (by omega)]
  have kt_xq6_ : xq6_.toInt = (f (xn + 40 + 12 * kn + 3)).toInt := by rw [k_xq6_]
  have rr_xq6_ : (0 : Int) ≤ (f (xn + (40 + 12 * kn + 3))).toInt ∧ (f (xn + (40 + 12 * kn + 3))).toInt ≤ 7 := hR_f.rO (40 + 12 * kn + 3) (t := t) (b := b) (xn := xn) (by omega) (by omega) (by omega) (by omega) (rgS3 (by omega))
  have l_xq6_ : (0 : Int) ≤ xq6_.toInt := by rw [kt_xq6_, show xn + 40 + 12 * kn + 3 = xn + (40 + 12 * kn + 3) from by omega]; exact rr_xq6_.1
  have g_xq6_ : xq6_.toInt ≤ 7 := by rw [kt_xq6_, show xn + 40 + 12 * kn + 3 = xn + (40 + 12 * kn + 3) from by omega]; exact rr_xq6_.2
  refine lv_istore_n (lv' := [(3, .int xq6_), (0, .ref h), (1, .int x), (2, .int k)]) hx hb dX10_gets_12 rfl hl (by decide) rfl (fun ls hl => ?_)
  refine lv_aload_n hx hb dX10_gets_13 rfl (lv_at hl 1 rfl) ?_
  refine xg hC hK hH flX10_7 hc_h rfl dX10_gets_14 ?_
  refine lv_iload_n hx hb dX10_gets_17 rfl (lv_at hl 2 rfl) ?_
  refine lv_iload_n hx hb dX10_gets_18 rfl (lv_at hl 3 rfl) ?_
  refine goI hK hH (runS (As := [.int x, .int k]) (rest := [.ref al]) hC hK hH (c_X10_stepAt (by omega) (by omega)) mlX10_37 ⟨⟨Nat.le_of_ble_eq_true rfl, Nat.le_of_ble_eq_true rfl⟩, Nat.le_of_ble_eq_true rfl, Nat.le_of_ble_eq_true rfl⟩ rfl hl.1 rfl (Nat.le_of_ble_eq_true rfl) dX10_gets_19) (fun rq9_ Mq7_ Tq8_ Hq_ lcq_ hP hz hH => ?_)
  try dsimp only at hP
  obtain ⟨(⟨cq10_, ⟨l_rq9_, g_rq9_⟩⟩), eT, eM⟩ := hP
  have eT := eT.symm; subst eT
  have eM := eM.symm; subst eM
  have cq10_ : rq9_.toInt = x.toInt + 40 + 12 * k.toInt := cq10_
  have hx_rq9_ : rq9_.toInt = ((xn + 40 + 12 * kn : Nat) : Int) := by omega
  refine lv_bipush (v := 10) hx hb dX10_gets_22 (by decide) ?_
  refine lv_iadd hx hb dX10_gets_24 ?_
  refine lv_topi (fun zq11_ e_zq11_ => ?_)
  have h_zq11_ : zq11_.toInt = rq9_.toInt + 10 := by rw [e_zq11_, iAdd (by have := iRg rq9_; have : (10 : Int32).toInt = 10 := rfl; omega) (by have := iRg rq9_; have : (10 : Int32).toInt = 10 := rfl; omega)]; rfl
  refine xild hC hK hH hc_al (iIn (by omega) (by omega)) dX10_gets_25 ?_
  refine lv_topi (fun xq12_ e_xq12_ => ?_)
  have k_xq12_ : xq12_ = f (xn + 40 + 12 * kn + 10) := by rw [e_xq12_, clE (n := xn + 40 + 12 * kn + 10) (by omega)]
  have kt_xq12_ : xq12_.toInt = (f (xn + 40 + 12 * kn + 10)).toInt := by rw [k_xq12_]
  refine lv_iconst (v := 1) hx hb dX10_gets_26 (by decide) ?_
  refine jic_ne (tgt := 34) hx hb dX10_gets_27 (by decide) (fun cq13_ => ?_) (fun cq13_ => ?_)
  · skip
    have cq13_ : xq12_.toInt ≠ 1 := cq13_
    refine lv_iconst (v := 0) hx hb dX10_gets_34 (by decide) ?_
    refine lv_istore (lv' := [(4, .int 0), (3, .int xq6_), (0, .ref h), (1, .int x), (2, .int k)]) hx hb dX10_gets_35 hl (by decide) rfl (fun ls hl => ?_)
    refine lv_aload_n hx hb dX10_gets_37 rfl (lv_at hl 2 rfl) ?_
    refine xg hC hK hH flX10_7 hc_h rfl dX10_gets_38 ?_
    refine lv_iload_n hx hb dX10_gets_41 rfl (lv_at hl 3 rfl) ?_
    refine lv_bipush (v := 15) hx hb dX10_gets_42 (by decide) ?_
    refine lv_iadd hx hb dX10_gets_44 ?_
    refine lv_topi (fun zq14_ e_zq14_ => ?_)
    have h_zq14_ : zq14_.toInt = x.toInt + 15 := by rw [e_zq14_, iAdd (by have := iRg x; have : (15 : Int32).toInt = 15 := rfl; omega) (by have := iRg x; have : (15 : Int32).toInt = 15 := rfl; omega)]; rfl
    refine xild hC hK hH hc_al (iIn (by omega) (by omega)) dX10_gets_45 ?_
    refine lv_topi (fun xq15_ e_xq15_ => ?_)
    have k_xq15_ : xq15_ = f (xn + 15) := by rw [e_xq15_, clE (n := xn + 15) (by omega)]
    have kt_xq15_ : xq15_.toInt = (f (xn + 15)).toInt := by rw [k_xq15_]
    refine lv_iconst (v := 1) hx hb dX10_gets_46 (by decide) ?_
    refine jic_ne (tgt := 99) hx hb dX10_gets_47 (by decide) (fun cq16_ => ?_) (fun cq16_ => ?_)
    · skip
      have cq16_ : xq15_.toInt ≠ 1 := cq16_
      refine lv_aload_n hx hb dX10_gets_99 rfl (lv_at hl 2 rfl) ?_
      refine xg hC hK hH flX10_7 hc_h rfl dX10_gets_100 ?_
      refine lv_iload_n hx hb dX10_gets_103 rfl (lv_at hl 3 rfl) ?_
      refine lv_bipush (v := 20) hx hb dX10_gets_104 (by decide) ?_
      refine lv_iadd hx hb dX10_gets_106 ?_
      refine lv_topi (fun zq17_ e_zq17_ => ?_)
      have h_zq17_ : zq17_.toInt = x.toInt + 20 := by rw [e_zq17_, iAdd (by have := iRg x; have : (20 : Int32).toInt = 20 := rfl; omega) (by have := iRg x; have : (20 : Int32).toInt = 20 := rfl; omega)]; rfl
      refine lv_iload_n hx hb dX10_gets_107 rfl (lv_at hl 1 rfl) ?_
      refine lv_iadd hx hb dX10_gets_108 ?_
      refine lv_topi (fun zq18_ e_zq18_ => ?_)
      have h_zq18_ : zq18_.toInt = zq17_.toInt + xq6_.toInt := by rw [e_zq18_, iAdd (by have := iRg zq17_; have := iRg xq6_; omega) (by have := iRg zq17_; have := iRg xq6_; omega)]
      refine xild hC hK hH hc_al (iIn (by omega) (by omega)) dX10_gets_109 ?_
      refine lv_topi (fun xq19_ e_xq19_ => ?_)
      refine lv_istore (lv' := [(5, .int xq19_), (4, .int 0), (3, .int xq6_), (0, .ref h), (1, .int x), (2, .int k)]) hx hb dX10_gets_110 hl (by decide) rfl (fun ls hl => ?_)
      refine lv_aload_n hx hb dX10_gets_112 rfl (lv_at hl 3 rfl) ?_
      refine lv_iload_n hx hb dX10_gets_113 rfl (lv_at hl 4 rfl) ?_
      refine lv_iload_n hx hb dX10_gets_114 rfl (lv_at hl 2 rfl) ?_
      have Jq21_ : ∀ vq20_ : Int32, W p l e (rmL 1 0 0) s m ([.ref h, .int x, .int k] : List Value).toArray below meth c Hq_ lcq_ 0 0 (MQ below (va_Qv (fun u => ∃ g : Nat → Int32, (Rng g ∧ Ke f g) ∧ (u.1 al = some (.inl (kA 0, 7506, .inl g))) ∧ u.2 = T ∧ (∀ q, FrK T q → q ≠ al → u.1 q = M q)) (mB D kA M T sz) (mA M T sz)) ([.ref h, .int x, .int k] : List Value).toArray s 0 0 (mA M T sz)) (F0 m 152 ls [.int vq20_, .int xq6_, .int x, .ref h]) := by
        intro vq20_
        refine goV hK hH (runV (As := [.int x, .int xq6_, .int vq20_]) (rest := []) hC hK hH (c_X10_owns hc_h hn_h hc_al hn_al ht_mt ht_pa ht_li (by exact hR_f) (by omega) (by omega) (by omega) (by omega) (by omega)) mlX10_44 (rcvM hK hH hc_h rfl) ⟨⟨Nat.le_of_ble_eq_true rfl, Nat.le_of_ble_eq_true rfl⟩, Nat.le_of_ble_eq_true rfl, Nat.le_of_ble_eq_true rfl⟩ rfl hl.1 rfl (Nat.le_of_ble_eq_true rfl) dX10_gets_152) (fun Mq22_ Tq23_ Hq_ lcq_ hP hz hH => ?_)
        try dsimp only at hP
        obtain ⟨gq25_, h_gq25_, (hx_al), eT, hfr⟩ := hP
        have eT := eT.symm; subst eT
        have hc_h : Mq22_ h = some (.inr (8, [.ref al, .ref mt, .ref ii, .int ta, .int fpm, .ref pa, .int sm, .int nx, .int tk, .int pl, .int ln, .long va, .int wr, .ref li])) := (hfr h (Or.inl hn_h) n_h_al).trans hc_h
        have hc_al : Mq22_ al = some (.inl (kA 0, 7506, .inl gq25_)) := hx_al
        have hF : ∀ q, FrK T q → q ≠ al → Mq22_ q = M q := fun q hq h0 => (hfr q hq  h0).trans (hF q hq h0)
        have hR_gq25_ : Rng gq25_ := h_gq25_.1
        have hK_gq25_ : Ke f gq25_ := hK_f.tr h_gq25_.2
        exact ret_v hC hr hlk hK hH (⟨gq25_, ⟨hR_gq25_, hK_gq25_⟩, hc_al, rfl, hF⟩) (Nat.le_of_ble_eq_true rfl) (Nat.le_of_ble_eq_true rfl) dX10_gets_155
      refine lv_iload hx hb dX10_gets_115 (lv_at hl 0 rfl) ?_
      refine jif_le (tgt := 125) hx hb dX10_gets_117 (by decide) (fun cq26_ => ?_) (fun cq26_ => ?_)
      · skip
        have cq26_ : xq19_.toInt ≤ 0 := cq26_
        refine lv_iload hx hb dX10_gets_125 (lv_at hl 1 rfl) ?_
        refine jif_eq (tgt := 134) hx hb dX10_gets_127 (by decide) (fun cq27_ => ?_) (fun cq27_ => absurd cq27_ (by decide))
        refine lv_aload_n hx hb dX10_gets_134 rfl (lv_at hl 3 rfl) ?_
        refine xg hC hK hH flX10_7 hc_h rfl dX10_gets_135 ?_
        refine lv_iload_n hx hb dX10_gets_138 rfl (lv_at hl 4 rfl) ?_
        refine lv_bipush (v := 14) hx hb dX10_gets_139 (by decide) ?_
        refine lv_iadd hx hb dX10_gets_141 ?_
        refine lv_topi (fun zq28_ e_zq28_ => ?_)
        have h_zq28_ : zq28_.toInt = x.toInt + 14 := by rw [e_zq28_, iAdd (by have := iRg x; have : (14 : Int32).toInt = 14 := rfl; omega) (by have := iRg x; have : (14 : Int32).toInt = 14 := rfl; omega)]; rfl
        refine xild hC hK hH hc_al (iIn (by omega) (by omega)) dX10_gets_142 ?_
        refine lv_topi (fun xq29_ e_xq29_ => ?_)
        have k_xq29_ : xq29_ = f (xn + 14) := by rw [e_xq29_, clE (n := xn + 14) (by omega)]
        have kt_xq29_ : xq29_.toInt = (f (xn + 14)).toInt := by rw [k_xq29_]
        refine lv_iconst (v := 1) hx hb dX10_gets_143 (by decide) ?_
        refine jic_le (tgt := 151) hx hb dX10_gets_144 (by decide) (fun cq30_ => ?_) (fun cq30_ => ?_)
        · skip
          have cq30_ : xq29_.toInt ≤ 1 := cq30_
          refine lv_iconst (v := 1) hx hb dX10_gets_151 (by decide) ?_
          exact Jq21_ 1
        · skip
          have cq30_ : 1 < xq29_.toInt := cq30_
          refine lv_iconst (v := 2) hx hb dX10_gets_147 (by decide) ?_
          refine lv_goto (tgt := 152) hx hb dX10_gets_148 (by decide) ?_
          exact Jq21_ 2
      · skip
        have cq26_ : 0 < xq19_.toInt := cq26_
        refine lv_iload hx hb dX10_gets_120 (lv_at hl 0 rfl) ?_
        refine lv_goto (tgt := 152) hx hb dX10_gets_122 (by decide) ?_
        exact Jq21_ xq19_
    · skip
      have cq16_ : xq15_.toInt = 1 := cq16_
      refine lv_iload_n hx hb dX10_gets_50 rfl (lv_at hl 1 rfl) ?_
      refine lv_aload_n hx hb dX10_gets_51 rfl (lv_at hl 2 rfl) ?_
      refine xg hC hK hH flX10_7 hc_h rfl dX10_gets_52 ?_
      refine lv_iload_n hx hb dX10_gets_55 rfl (lv_at hl 3 rfl) ?_
      refine lv_bipush (v := 13) hx hb dX10_gets_56 (by decide) ?_
      refine lv_iadd hx hb dX10_gets_58 ?_
      refine lv_topi (fun zq31_ e_zq31_ => ?_)
      have h_zq31_ : zq31_.toInt = x.toInt + 13 := by rw [e_zq31_, iAdd (by have := iRg x; have : (13 : Int32).toInt = 13 := rfl; omega) (by have := iRg x; have : (13 : Int32).toInt = 13 := rfl; omega)]; rfl
      refine xild hC hK hH hc_al (iIn (by omega) (by omega)) dX10_gets_59 ?_
      refine lv_topi (fun xq32_ e_xq32_ => ?_)
      have k_xq32_ : xq32_ = f (xn + 13) := by rw [e_xq32_, clE (n := xn + 13) (by omega)]
      have kt_xq32_ : xq32_.toInt = (f (xn + 13)).toInt := by rw [k_xq32_]
      refine jic_ne (tgt := 76) hx hb dX10_gets_60 (by decide) (fun cq33_ => ?_) (fun cq33_ => ?_)
      · skip
        have cq33_ : xq6_.toInt ≠ xq32_.toInt := cq33_
        refine lv_iload hx hb dX10_gets_76 (lv_at hl 0 rfl) ?_
        refine jif_eq (tgt := 98) hx hb dX10_gets_78 (by decide) (fun cq34_ => ?_) (fun cq34_ => absurd cq34_ (by decide))
        exact ret_v hC hr hlk hK hH (⟨f, ⟨hR_f, hK_f⟩, hc_al, rfl, hF⟩) (Nat.le_of_ble_eq_true rfl) (Nat.le_of_ble_eq_true rfl) dX10_gets_98
      · skip
        have cq33_ : xq6_.toInt = xq32_.toInt := cq33_
        refine lv_aload_n hx hb dX10_gets_63 rfl (lv_at hl 2 rfl) ?_
        refine xg hC hK hH flX10_7 hc_h rfl dX10_gets_64 ?_
        refine lv_iload_n hx hb dX10_gets_67 rfl (lv_at hl 3 rfl) ?_
        refine lv_bipush (v := 15) hx hb dX10_gets_68 (by decide) ?_
        refine lv_iadd hx hb dX10_gets_70 ?_
        refine lv_cst (v := zq14_) e_zq14_.symm ?_
        refine lv_iconst (v := 0) hx hb dX10_gets_71 (by decide) ?_
        refine yist (x := 0) hC hK hH hc_al (noT hn_al) (iIn (by omega) (by omega)) dX10_gets_72 (fun Hq_ lcq_ Mq35_ hc_al hfr hH => ?_)
        have hc_al : Mq35_ al = some (.inl (kA 0, 7506, .inl (upd f (Int32.toNatClampNeg zq14_) 0))) := hc_al
        have hc_h : Mq35_ h = some (.inr (8, [.ref al, .ref mt, .ref ii, .int ta, .int fpm, .ref pa, .int sm, .int nx, .int tk, .int pl, .int ln, .long va, .int wr, .ref li])) := (hfr h n_h_al).trans hc_h
        have hF : ∀ q, FrK T q → q ≠ al → Mq35_ q = M q := fun q hq h0 => (hfr q h0).trans (hF q hq h0)
        obtain ⟨gq36_, e_gq36_⟩ : ∃ g : Nat → Int32, g = upd f (Int32.toNatClampNeg zq14_) 0 := ⟨_, rfl⟩
        rw [← e_gq36_] at hc_al
        have hR_gq36_ : Rng gq36_ := by rw [e_gq36_]; exact hR_f.u0
        have hK_gq36_ : Ke f gq36_ := by rw [e_gq36_]; exact hK_f.up (by have := iCl (x := zq14_) (by omega); omega)
        refine lv_goto (tgt := 98) hx hb dX10_gets_73 (by decide) ?_
        exact ret_v hC hr hlk hK hH (⟨gq36_, ⟨hR_gq36_, hK_gq36_⟩, hc_al, rfl, hF⟩) (Nat.le_of_ble_eq_true rfl) (Nat.le_of_ble_eq_true rfl) dX10_gets_98
  · skip
    have cq13_ : xq12_.toInt = 1 := cq13_
    refine lv_iconst (v := 1) hx hb dX10_gets_30 (by decide) ?_
    refine lv_goto (tgt := 35) hx hb dX10_gets_31 (by decide) ?_
    refine lv_istore (lv' := [(4, .int 1), (3, .int xq6_), (0, .ref h), (1, .int x), (2, .int k)]) hx hb dX10_gets_35 hl (by decide) rfl (fun ls hl => ?_)
    refine lv_aload_n hx hb dX10_gets_37 rfl (lv_at hl 2 rfl) ?_
    refine xg hC hK hH flX10_7 hc_h rfl dX10_gets_38 ?_
    refine lv_iload_n hx hb dX10_gets_41 rfl (lv_at hl 3 rfl) ?_
    refine lv_bipush (v := 15) hx hb dX10_gets_42 (by decide) ?_
    refine lv_iadd hx hb dX10_gets_44 ?_
    refine lv_topi (fun zq37_ e_zq37_ => ?_)
    have h_zq37_ : zq37_.toInt = x.toInt + 15 := by rw [e_zq37_, iAdd (by have := iRg x; have : (15 : Int32).toInt = 15 := rfl; omega) (by have := iRg x; have : (15 : Int32).toInt = 15 := rfl; omega)]; rfl
    refine xild hC hK hH hc_al (iIn (by omega) (by omega)) dX10_gets_45 ?_
    refine lv_topi (fun xq38_ e_xq38_ => ?_)
    have k_xq38_ : xq38_ = f (xn + 15) := by rw [e_xq38_, clE (n := xn + 15) (by omega)]
    have kt_xq38_ : xq38_.toInt = (f (xn + 15)).toInt := by rw [k_xq38_]
    refine lv_iconst (v := 1) hx hb dX10_gets_46 (by decide) ?_
    refine jic_ne (tgt := 99) hx hb dX10_gets_47 (by decide) (fun cq39_ => ?_) (fun cq39_ => ?_)
    · skip
      have cq39_ : xq38_.toInt ≠ 1 := cq39_
      refine lv_aload_n hx hb dX10_gets_99 rfl (lv_at hl 2 rfl) ?_
      refine xg hC hK hH flX10_7 hc_h rfl dX10_gets_100 ?_
      refine lv_iload_n hx hb dX10_gets_103 rfl (lv_at hl 3 rfl) ?_
      refine lv_bipush (v := 20) hx hb dX10_gets_104 (by decide) ?_
      refine lv_iadd hx hb dX10_gets_106 ?_
      refine lv_topi (fun zq40_ e_zq40_ => ?_)
      have h_zq40_ : zq40_.toInt = x.toInt + 20 := by rw [e_zq40_, iAdd (by have := iRg x; have : (20 : Int32).toInt = 20 := rfl; omega) (by have := iRg x; have : (20 : Int32).toInt = 20 := rfl; omega)]; rfl
      refine lv_iload_n hx hb dX10_gets_107 rfl (lv_at hl 1 rfl) ?_
      refine lv_iadd hx hb dX10_gets_108 ?_
      refine lv_topi (fun zq41_ e_zq41_ => ?_)
      have h_zq41_ : zq41_.toInt = zq40_.toInt + xq6_.toInt := by rw [e_zq41_, iAdd (by have := iRg zq40_; have := iRg xq6_; omega) (by have := iRg zq40_; have := iRg xq6_; omega)]
      refine xild hC hK hH hc_al (iIn (by omega) (by omega)) dX10_gets_109 ?_
      refine lv_topi (fun xq42_ e_xq42_ => ?_)
      refine lv_istore (lv' := [(5, .int xq42_), (4, .int 1), (3, .int xq6_), (0, .ref h), (1, .int x), (2, .int k)]) hx hb dX10_gets_110 hl (by decide) rfl (fun ls hl => ?_)
      refine lv_aload_n hx hb dX10_gets_112 rfl (lv_at hl 3 rfl) ?_
      refine lv_iload_n hx hb dX10_gets_113 rfl (lv_at hl 4 rfl) ?_
      refine lv_iload_n hx hb dX10_gets_114 rfl (lv_at hl 2 rfl) ?_
      have Jq44_ : ∀ vq43_ : Int32, W p l e (rmL 1 0 0) s m ([.ref h, .int x, .int k] : List Value).toArray below meth c Hq_ lcq_ 0 0 (MQ below (va_Qv (fun u => ∃ g : Nat → Int32, (Rng g ∧ Ke f g) ∧ (u.1 al = some (.inl (kA 0, 7506, .inl g))) ∧ u.2 = T ∧ (∀ q, FrK T q → q ≠ al → u.1 q = M q)) (mB D kA M T sz) (mA M T sz)) ([.ref h, .int x, .int k] : List Value).toArray s 0 0 (mA M T sz)) (F0 m 152 ls [.int vq43_, .int xq6_, .int x, .ref h]) := by
        intro vq43_
        refine goV hK hH (runV (As := [.int x, .int xq6_, .int vq43_]) (rest := []) hC hK hH (c_X10_owns hc_h hn_h hc_al hn_al ht_mt ht_pa ht_li (by exact hR_f) (by omega) (by omega) (by omega) (by omega) (by omega)) mlX10_44 (rcvM hK hH hc_h rfl) ⟨⟨Nat.le_of_ble_eq_true rfl, Nat.le_of_ble_eq_true rfl⟩, Nat.le_of_ble_eq_true rfl, Nat.le_of_ble_eq_true rfl⟩ rfl hl.1 rfl (Nat.le_of_ble_eq_true rfl) dX10_gets_152) (fun Mq45_ Tq46_ Hq_ lcq_ hP hz hH => ?_)
        try dsimp only at hP
        obtain ⟨gq48_, h_gq48_, (hx_al), eT, hfr⟩ := hP
        have eT := eT.symm; subst eT
        have hc_h : Mq45_ h = some (.inr (8, [.ref al, .ref mt, .ref ii, .int ta, .int fpm, .ref pa, .int sm, .int nx, .int tk, .int pl, .int ln, .long va, .int wr, .ref li])) := (hfr h (Or.inl hn_h) n_h_al).trans hc_h
        have hc_al : Mq45_ al = some (.inl (kA 0, 7506, .inl gq48_)) := hx_al
        have hF : ∀ q, FrK T q → q ≠ al → Mq45_ q = M q := fun q hq h0 => (hfr q hq  h0).trans (hF q hq h0)
        have hR_gq48_ : Rng gq48_ := h_gq48_.1
        have hK_gq48_ : Ke f gq48_ := hK_f.tr h_gq48_.2
        exact ret_v hC hr hlk hK hH (⟨gq48_, ⟨hR_gq48_, hK_gq48_⟩, hc_al, rfl, hF⟩) (Nat.le_of_ble_eq_true rfl) (Nat.le_of_ble_eq_true rfl) dX10_gets_155
      refine lv_iload hx hb dX10_gets_115 (lv_at hl 0 rfl) ?_
      refine jif_le (tgt := 125) hx hb dX10_gets_117 (by decide) (fun cq49_ => ?_) (fun cq49_ => ?_)
      · skip
        have cq49_ : xq42_.toInt ≤ 0 := cq49_
        refine lv_iload hx hb dX10_gets_125 (lv_at hl 1 rfl) ?_
        refine jif_eq (tgt := 134) hx hb dX10_gets_127 (by decide) (fun cq50_ => absurd cq50_ (by decide)) (fun cq50_ => ?_)
        refine lv_iconst (v := 3) hx hb dX10_gets_130 (by decide) ?_
        refine lv_goto (tgt := 152) hx hb dX10_gets_131 (by decide) ?_
        exact Jq44_ 3
      · skip
        have cq49_ : 0 < xq42_.toInt := cq49_
        refine lv_iload hx hb dX10_gets_120 (lv_at hl 0 rfl) ?_
        refine lv_goto (tgt := 152) hx hb dX10_gets_122 (by decide) ?_
        exact Jq44_ xq42_
    · skip
      have cq39_ : xq38_.toInt = 1 := cq39_
      refine lv_iload_n hx hb dX10_gets_50 rfl (lv_at hl 1 rfl) ?_
      refine lv_aload_n hx hb dX10_gets_51 rfl (lv_at hl 2 rfl) ?_
      refine xg hC hK hH flX10_7 hc_h rfl dX10_gets_52 ?_
      refine lv_iload_n hx hb dX10_gets_55 rfl (lv_at hl 3 rfl) ?_
      refine lv_bipush (v := 13) hx hb dX10_gets_56 (by decide) ?_
      refine lv_iadd hx hb dX10_gets_58 ?_
      refine lv_topi (fun zq51_ e_zq51_ => ?_)
      have h_zq51_ : zq51_.toInt = x.toInt + 13 := by rw [e_zq51_, iAdd (by have := iRg x; have : (13 : Int32).toInt = 13 := rfl; omega) (by have := iRg x; have : (13 : Int32).toInt = 13 := rfl; omega)]; rfl
      refine xild hC hK hH hc_al (iIn (by omega) (by omega)) dX10_gets_59 ?_
      refine lv_topi (fun xq52_ e_xq52_ => ?_)
      have k_xq52_ : xq52_ = f (xn + 13) := by rw [e_xq52_, clE (n := xn + 13) (by omega)]
      have kt_xq52_ : xq52_.toInt = (f (xn + 13)).toInt := by rw [k_xq52_]
      refine jic_ne (tgt := 76) hx hb dX10_gets_60 (by decide) (fun cq53_ => ?_) (fun cq53_ => ?_)
      · skip
        have cq53_ : xq6_.toInt ≠ xq52_.toInt := cq53_
        refine lv_iload hx hb dX10_gets_76 (lv_at hl 0 rfl) ?_
        refine jif_eq (tgt := 98) hx hb dX10_gets_78 (by decide) (fun cq54_ => absurd cq54_ (by decide)) (fun cq54_ => ?_)
        refine lv_aload_n hx hb dX10_gets_81 rfl (lv_at hl 2 rfl) ?_
        refine lv_iload_n hx hb dX10_gets_82 rfl (lv_at hl 3 rfl) ?_
        refine lv_iload_n hx hb dX10_gets_83 rfl (lv_at hl 1 rfl) ?_
        refine lv_iconst (v := 3) hx hb dX10_gets_84 (by decide) ?_
        refine goV hK hH (runV (As := [.int x, .int xq6_, .int 3]) (rest := []) hC hK hH (c_X10_owns hc_h hn_h hc_al hn_al ht_mt ht_pa ht_li (by exact hR_f) (by omega) (by omega) (by omega) (by omega) (by omega)) mlX10_44 (rcvM hK hH hc_h rfl) ⟨⟨Nat.le_of_ble_eq_true rfl, Nat.le_of_ble_eq_true rfl⟩, Nat.le_of_ble_eq_true rfl, Nat.le_of_ble_eq_true rfl⟩ rfl hl.1 rfl (Nat.le_of_ble_eq_true rfl) dX10_gets_85) (fun Mq55_ Tq56_ Hq_ lcq_ hP hz hH => ?_)
        try dsimp only at hP
        obtain ⟨gq58_, h_gq58_, (hx_al), eT, hfr⟩ := hP
        have eT := eT.symm; subst eT
        have hc_h : Mq55_ h = some (.inr (8, [.ref al, .ref mt, .ref ii, .int ta, .int fpm, .ref pa, .int sm, .int nx, .int tk, .int pl, .int ln, .long va, .int wr, .ref li])) := (hfr h (Or.inl hn_h) n_h_al).trans hc_h
        have hc_al : Mq55_ al = some (.inl (kA 0, 7506, .inl gq58_)) := hx_al
        have hF : ∀ q, FrK T q → q ≠ al → Mq55_ q = M q := fun q hq h0 => (hfr q hq  h0).trans (hF q hq h0)
        have hR_gq58_ : Rng gq58_ := h_gq58_.1
        have hK_gq58_ : Ke f gq58_ := hK_f.tr h_gq58_.2
        refine lv_aload_n hx hb dX10_gets_88 rfl (lv_at hl 2 rfl) ?_
        refine xg hC hK hH flX10_7 hc_h rfl dX10_gets_89 ?_
        refine lv_iload_n hx hb dX10_gets_92 rfl (lv_at hl 3 rfl) ?_
        refine lv_bipush (v := 15) hx hb dX10_gets_93 (by decide) ?_
        refine lv_iadd hx hb dX10_gets_95 ?_
        refine lv_cst (v := zq37_) e_zq37_.symm ?_
        refine lv_iconst (v := 0) hx hb dX10_gets_96 (by decide) ?_
        refine yist (x := 0) hC hK hH hc_al (noT hn_al) (iIn (by omega) (by omega)) dX10_gets_97 (fun Hq_ lcq_ Mq59_ hc_al hfr hH => ?_)
        have hc_al : Mq59_ al = some (.inl (kA 0, 7506, .inl (upd gq58_ (Int32.toNatClampNeg zq37_) 0))) := hc_al
        have hc_h : Mq59_ h = some (.inr (8, [.ref al, .ref mt, .ref ii, .int ta, .int fpm, .ref pa, .int sm, .int nx, .int tk, .int pl, .int ln, .long va, .int wr, .ref li])) := (hfr h n_h_al).trans hc_h
        have hF : ∀ q, FrK T q → q ≠ al → Mq59_ q = M q := fun q hq h0 => (hfr q h0).trans (hF q hq h0)
        obtain ⟨gq60_, e_gq60_⟩ : ∃ g : Nat → Int32, g = upd gq58_ (Int32.toNatClampNeg zq37_) 0 := ⟨_, rfl⟩
        rw [← e_gq60_] at hc_al
        have hR_gq60_ : Rng gq60_ := by rw [e_gq60_]; exact hR_gq58_.u0
        have hK_gq60_ : Ke f gq60_ := by rw [e_gq60_]; exact hK_gq58_.up (by have := iCl (x := zq37_) (by omega); omega)
        exact ret_v hC hr hlk hK hH (⟨gq60_, ⟨hR_gq60_, hK_gq60_⟩, hc_al, rfl, hF⟩) (Nat.le_of_ble_eq_true rfl) (Nat.le_of_ble_eq_true rfl) dX10_gets_98
      · skip
        have cq53_ : xq6_.toInt = xq52_.toInt := cq53_
        refine lv_aload_n hx hb dX10_gets_63 rfl (lv_at hl 2 rfl) ?_
        refine xg hC hK hH flX10_7 hc_h rfl dX10_gets_64 ?_
        refine lv_iload_n hx hb dX10_gets_67 rfl (lv_at hl 3 rfl) ?_
        refine lv_bipush (v := 15) hx hb dX10_gets_68 (by decide) ?_
        refine lv_iadd hx hb dX10_gets_70 ?_
        refine lv_cst (v := zq37_) e_zq37_.symm ?_
        refine lv_iconst (v := 0) hx hb dX10_gets_71 (by decide) ?_
        refine yist (x := 0) hC hK hH hc_al (noT hn_al) (iIn (by omega) (by omega)) dX10_gets_72 (fun Hq_ lcq_ Mq61_ hc_al hfr hH => ?_)
        have hc_al : Mq61_ al = some (.inl (kA 0, 7506, .inl (upd f (Int32.toNatClampNeg zq37_) 0))) := hc_al
        have hc_h : Mq61_ h = some (.inr (8, [.ref al, .ref mt, .ref ii, .int ta, .int fpm, .ref pa, .int sm, .int nx, .int tk, .int pl, .int ln, .long va, .int wr, .ref li])) := (hfr h n_h_al).trans hc_h
        have hF : ∀ q, FrK T q → q ≠ al → Mq61_ q = M q := fun q hq h0 => (hfr q h0).trans (hF q hq h0)
        obtain ⟨gq62_, e_gq62_⟩ : ∃ g : Nat → Int32, g = upd f (Int32.toNatClampNeg zq37_) 0 := ⟨_, rfl⟩
        rw [← e_gq62_] at hc_al
        have hR_gq62_ : Rng gq62_ := by rw [e_gq62_]; exact hR_f.u0
        have hK_gq62_ : Ke f gq62_ := by rw [e_gq62_]; exact hK_f.up (by have := iCl (x := zq37_) (by omega); omega)
        refine lv_goto (tgt := 98) hx hb dX10_gets_73 (by decide) ?_
        exact ret_v hC hr hlk hK hH (⟨gq62_, ⟨hR_gq62_, hK_gq62_⟩, hc_al, rfl, hF⟩) (Nat.le_of_ble_eq_true rfl) (Nat.le_of_ble_eq_true rfl) dX10_gets_98
set_option maxHeartbeats 4000000 in
set_option maxRecDepth 100000 in
theorem c_X10_endorses {l : Launch} {D : va_G} {kA : Nat → ClassId} {M : mM} {T : mT} {sz : Nat} {h al mt ii pa li : Nat} {ta fpm sm nx tk pl ln wr : Int32} {va : Int64} {f : Nat → Int32} {x : Int32} {xn t b : Nat} {k me : Int32} {kn : Nat} (hc_h : M h = some (.inr (8, [.ref al, .ref mt, .ref ii, .int ta, .int fpm, .ref pa, .int sm, .int nx, .int tk, .int pl, .int ln, .long va, .int wr, .ref li]))) (hn_h : T h = none) (hc_al : M al = some (.inl (kA 0, 7506, .inl f))) (hn_al : T al = none) (ht_mt : T mt = some 11) (ht_pa : T pa = some 13) (ht_li : T li = some 14) (hR_f : Rng f) (hxt : t < 2) (hxb : b < 4) (hxn : xn = 1140 * t + 20 + 280 * b) (hxx : x.toInt = (xn : Int)) (hkn : k.toInt = (kn : Int)) (hk12 : kn ≤ 11) : mCv l yX10_endorses cX10_endorses 8 2 0 0 D kA M T sz [.ref h, .int x, .int k, .int me] (fun u => ∃ g : Nat → Int32, (Rng g ∧ Ke f g) ∧ (u.1 al = some (.inl (kA 0, 7506, .inl g))) ∧ u.2 = T ∧ (∀ q, FrK T q → q ≠ al → u.1 q = M q)) := by
  unfold mCv
  refine start_W (by decide) (Nat.le_of_ble_eq_true rfl) ?_
  intro p e s m below meth c ls hC hr hlk hnm hK hH hsz hl
  have hx := hC.1
  have hb := hC.2.1
  have hl : lv_has ls 8 [(0, .ref h), (1, .int x), (2, .int k), (3, .int me)] := hl
  have hF : ∀ q, FrK T q → q ≠ al → M q = M q := fun q _ _ => rfl
  have n_h_al : h ≠ al := neM hc_h hc_al (by simp)
  have n_al_h : al ≠ h := neM hc_al hc_h (by simp)
  have hK_f : Ke f f := Ke.rf
  refine lv_iload_n hx hb dX10_endorses_0 rfl (lv_at hl 1 rfl) ?_
  refine lv_iload_n hx hb dX10_endorses_1 rfl (lv_at hl 2 rfl) ?_
  refine goI hK hH (runS (As := [.int x, .int k]) (rest := []) hC hK hH (c_X10_stepAt (by omega) (by omega)) mlX10_37 ⟨⟨Nat.le_of_ble_eq_true rfl, Nat.le_of_ble_eq_true rfl⟩, Nat.le_of_ble_eq_true rfl, Nat.le_of_ble_eq_true rfl⟩ rfl hl.1 rfl (Nat.le_of_ble_eq_true rfl) dX10_endorses_2) (fun rq3_ Mq1_ Tq2_ Hq_ lcq_ hP hz hH => ?_)
  try dsimp only at hP
  obtain ⟨(⟨cq4_, ⟨l_rq3_, g_rq3_⟩⟩), eT, eM⟩ := hP
  have eT := eT.symm; subst eT
  have eM := eM.symm; subst eM
  have cq4_ : rq3_.toInt = x.toInt + 40 + 12 * k.toInt := cq4_
  have hx_rq3_ : rq3_.toInt = ((xn + 40 + 12 * kn : Nat) : Int) := by omega
  refine lv_istore (lv' := [(4, .int rq3_), (0, .ref h), (1, .int x), (2, .int k), (3, .int me)]) hx hb dX10_endorses_5 hl (by decide) rfl (fun ls hl => ?_)
  refine lv_aload_n hx hb dX10_endorses_7 rfl (lv_at hl 1 rfl) ?_
  refine xg hC hK hH flX10_7 hc_h rfl dX10_endorses_8 ?_
  refine lv_iload hx hb dX10_endorses_11 (lv_at hl 0 rfl) ?_
  refine lv_iconst (v := 3) hx hb dX10_endorses_13 (by decide) ?_
  refine lv_iadd hx hb dX10_endorses_14 ?_
  refine lv_topi (fun zq5_ e_zq5_ => ?_)
  have h_zq5_ : zq5_.toInt = rq3_.toInt + 3 := by rw [e_zq5_, iAdd (by have := iRg rq3_; have : (3 : Int32).toInt = 3 := rfl; omega) (by have := iRg rq3_; have : (3 : Int32).toInt = 3 := rfl; omega)]; rfl
  refine xild hC hK hH hc_al (iIn (by omega) (by omega)) dX10_endorses_15 ?_
  refine lv_topi (fun xq6_ e_xq6_ => ?_)
  have k_xq6_ : xq6_ = f (xn + 40 + 12 * kn + 3) := by rw [e_xq6_, clE (n := xn + 40 + 12 * kn + 3) (by omega)]
  have kt_xq6_ : xq6_.toInt = (f (xn + 40 + 12 * kn + 3)).toInt := by rw [k_xq6_]
  have rr_xq6_ : (0 : Int) ≤ (f (xn + (40 + 12 * kn + 3))).toInt ∧ (f (xn + (40 + 12 * kn + 3))).toInt ≤ 7 := hR_f.rO (40 + 12 * kn + 3) (t := t) (b := b) (xn := xn) (by omega) (by omega) (by omega) (by omega) (rgS3 (by omega))
  have l_xq6_ : (0 : Int) ≤ xq6_.toInt := by rw [kt_xq6_, show xn + 40 + 12 * kn + 3 = xn + (40 + 12 * kn + 3) from by omega]; exact rr_xq6_.1
  have g_xq6_ : xq6_.toInt ≤ 7 := by rw [kt_xq6_, show xn + 40 + 12 * kn + 3 = xn + (40 + 12 * kn + 3) from by omega]; exact rr_xq6_.2
  refine lv_istore (lv' := [(5, .int xq6_), (4, .int rq3_), (0, .ref h), (1, .int x), (2, .int k), (3, .int me)]) hx hb dX10_endorses_16 hl (by decide) rfl (fun ls hl => ?_)
  refine lv_aload_n hx hb dX10_endorses_18 rfl (lv_at hl 2 rfl) ?_
  refine xg hC hK hH flX10_7 hc_h rfl dX10_endorses_19 ?_
  refine lv_iload hx hb dX10_endorses_22 (lv_at hl 1 rfl) ?_
  refine lv_iconst (v := 0) hx hb dX10_endorses_24 (by decide) ?_
  refine lv_iadd hx hb dX10_endorses_25 ?_
  refine lv_topi (fun zq7_ e_zq7_ => ?_)
  have h_zq7_ : zq7_.toInt = rq3_.toInt + 0 := by rw [e_zq7_, iAdd (by have := iRg rq3_; have : (0 : Int32).toInt = 0 := rfl; omega) (by have := iRg rq3_; have : (0 : Int32).toInt = 0 := rfl; omega)]; rfl
  refine xild hC hK hH hc_al (iIn (by omega) (by omega)) dX10_endorses_26 ?_
  refine lv_topi (fun xq8_ e_xq8_ => ?_)
  have k_xq8_ : xq8_ = f (xn + 40 + 12 * kn) := by rw [e_xq8_, clE (n := xn + 40 + 12 * kn) (by omega)]
  have kt_xq8_ : xq8_.toInt = (f (xn + 40 + 12 * kn)).toInt := by rw [k_xq8_]
  refine lv_istore (lv' := [(6, .int xq8_), (5, .int xq6_), (4, .int rq3_), (0, .ref h), (1, .int x), (2, .int k), (3, .int me)]) hx hb dX10_endorses_27 hl (by decide) rfl (fun ls hl => ?_)
  refine lv_aload_n hx hb dX10_endorses_29 rfl (lv_at hl 3 rfl) ?_
  refine xg hC hK hH flX10_7 hc_h rfl dX10_endorses_30 ?_
  refine lv_iload_n hx hb dX10_endorses_33 rfl (lv_at hl 4 rfl) ?_
  refine lv_bipush (v := 11) hx hb dX10_endorses_34 (by decide) ?_
  refine lv_iadd hx hb dX10_endorses_36 ?_
  refine lv_topi (fun zq9_ e_zq9_ => ?_)
  have h_zq9_ : zq9_.toInt = x.toInt + 11 := by rw [e_zq9_, iAdd (by have := iRg x; have : (11 : Int32).toInt = 11 := rfl; omega) (by have := iRg x; have : (11 : Int32).toInt = 11 := rfl; omega)]; rfl
  refine xild hC hK hH hc_al (iIn (by omega) (by omega)) dX10_endorses_37 ?_
  refine lv_topi (fun xq10_ e_xq10_ => ?_)
  have k_xq10_ : xq10_ = f (xn + 11) := by rw [e_xq10_, clE (n := xn + 11) (by omega)]
  have kt_xq10_ : xq10_.toInt = (f (xn + 11)).toInt := by rw [k_xq10_]
  refine lv_iconst (v := 1) hx hb dX10_endorses_38 (by decide) ?_
  refine jic_eq (tgt := 125) hx hb dX10_endorses_39 (by decide) (fun cq11_ => ?_) (fun cq11_ => ?_)
  · skip
    have cq11_ : xq10_.toInt = 1 := cq11_
    refine lv_aload_n hx hb dX10_endorses_125 rfl (lv_at hl 3 rfl) ?_
    refine xg hC hK hH flX10_7 hc_h rfl dX10_endorses_126 ?_
    refine lv_iload_n hx hb dX10_endorses_129 rfl (lv_at hl 4 rfl) ?_
    refine lv_bipush (v := 11) hx hb dX10_endorses_130 (by decide) ?_
    refine lv_iadd hx hb dX10_endorses_132 ?_
    refine lv_cst (v := zq9_) e_zq9_.symm ?_
    refine xild hC hK hH hc_al (iIn (by omega) (by omega)) dX10_endorses_133 ?_
    refine lv_topi (fun xq12_ e_xq12_ => ?_)
    have k_xq12_ : xq12_ = f (xn + 11) := by rw [e_xq12_, clE (n := xn + 11) (by omega)]
    have kt_xq12_ : xq12_.toInt = (f (xn + 11)).toInt := by rw [k_xq12_]
    refine lv_iconst (v := 2) hx hb dX10_endorses_134 (by decide) ?_
    refine jic_ne (tgt := 150) hx hb dX10_endorses_135 (by decide) (fun cq13_ => ?_) (fun cq13_ => ?_)
    · skip
      have cq13_ : xq12_.toInt ≠ 2 := cq13_
      refine lv_aload_n hx hb dX10_endorses_150 rfl (lv_at hl 3 rfl) ?_
      refine xg hC hK hH flX10_7 hc_h rfl dX10_endorses_151 ?_
      refine lv_iload_n hx hb dX10_endorses_154 rfl (lv_at hl 4 rfl) ?_
      refine lv_bipush (v := 11) hx hb dX10_endorses_155 (by decide) ?_
      refine lv_iadd hx hb dX10_endorses_157 ?_
      refine lv_cst (v := zq9_) e_zq9_.symm ?_
      have Jq15_ : ∀ vq14_ : Int32, W p l e (rmL 2 0 0) s m ([.ref h, .int x, .int k, .int me] : List Value).toArray below meth c Hq_ lcq_ 0 0 (MQ below (va_Qv (fun u => ∃ g : Nat → Int32, (Rng g ∧ Ke f g) ∧ (u.1 al = some (.inl (kA 0, 7506, .inl g))) ∧ u.2 = T ∧ (∀ q, FrK T q → q ≠ al → u.1 q = M q)) (mB D kA M T sz) (mA M T sz)) ([.ref h, .int x, .int k, .int me] : List Value).toArray s 0 0 (mA M T sz)) (F0 m 178 ls [.int vq14_, .int zq9_, .ref al]) := by
        intro vq14_
        refine yist (x := vq14_) hC hK hH hc_al (noT hn_al) (iIn (by omega) (by omega)) dX10_endorses_178 (fun Hq_ lcq_ Mq16_ hc_al hfr hH => ?_)
        have hc_al : Mq16_ al = some (.inl (kA 0, 7506, .inl (upd f (Int32.toNatClampNeg zq9_) vq14_))) := hc_al
        have hc_h : Mq16_ h = some (.inr (8, [.ref al, .ref mt, .ref ii, .int ta, .int fpm, .ref pa, .int sm, .int nx, .int tk, .int pl, .int ln, .long va, .int wr, .ref li])) := (hfr h n_h_al).trans hc_h
        have hF : ∀ q, FrK T q → q ≠ al → Mq16_ q = M q := fun q hq h0 => (hfr q h0).trans (hF q hq h0)
        obtain ⟨gq17_, e_gq17_⟩ : ∃ g : Nat → Int32, g = upd f (Int32.toNatClampNeg zq9_) vq14_ := ⟨_, rfl⟩
        rw [← e_gq17_] at hc_al
        have hR_gq17_ : Rng gq17_ := by rw [e_gq17_]; exact hR_f.uX (t := t) (b := b) (xn := xn) (by omega) (by omega) (by omega) (by have := iCl (x := zq9_) (by omega); omega) (by have := iCl (x := zq9_) (by omega); omega) (by have := iCl (x := zq9_) (by omega); omega)
        have hK_gq17_ : Ke f gq17_ := by rw [e_gq17_]; exact hK_f.up (by have := iCl (x := zq9_) (by omega); omega)
        refine lv_aload_n hx hb dX10_endorses_179 rfl (lv_at hl 3 rfl) ?_
        refine xg hC hK hH flX10_7 hc_h rfl dX10_endorses_180 ?_
        refine lv_iload_n hx hb dX10_endorses_183 rfl (lv_at hl 4 rfl) ?_
        refine lv_bipush (v := 12) hx hb dX10_endorses_184 (by decide) ?_
        refine lv_iadd hx hb dX10_endorses_186 ?_
        refine lv_topi (fun zq18_ e_zq18_ => ?_)
        have h_zq18_ : zq18_.toInt = x.toInt + 12 := by rw [e_zq18_, iAdd (by have := iRg x; have : (12 : Int32).toInt = 12 := rfl; omega) (by have := iRg x; have : (12 : Int32).toInt = 12 := rfl; omega)]; rfl
        have Jq20_ : ∀ vq19_ : Int32, W p l e (rmL 2 0 0) s m ([.ref h, .int x, .int k, .int me] : List Value).toArray below meth c Hq_ lcq_ 0 0 (MQ below (va_Qv (fun u => ∃ g : Nat → Int32, (Rng g ∧ Ke f g) ∧ (u.1 al = some (.inl (kA 0, 7506, .inl g))) ∧ u.2 = T ∧ (∀ q, FrK T q → q ≠ al → u.1 q = M q)) (mB D kA M T sz) (mA M T sz)) ([.ref h, .int x, .int k, .int me] : List Value).toArray s 0 0 (mA M T sz)) (F0 m 198 ls [.int vq19_, .int zq18_, .ref al]) := by
          intro vq19_
          refine yist (x := vq19_) hC hK hH hc_al (noT hn_al) (iIn (by omega) (by omega)) dX10_endorses_198 (fun Hq_ lcq_ Mq21_ hc_al hfr hH => ?_)
          have hc_al : Mq21_ al = some (.inl (kA 0, 7506, .inl (upd gq17_ (Int32.toNatClampNeg zq18_) vq19_))) := hc_al
          have hc_h : Mq21_ h = some (.inr (8, [.ref al, .ref mt, .ref ii, .int ta, .int fpm, .ref pa, .int sm, .int nx, .int tk, .int pl, .int ln, .long va, .int wr, .ref li])) := (hfr h n_h_al).trans hc_h
          have hF : ∀ q, FrK T q → q ≠ al → Mq21_ q = M q := fun q hq h0 => (hfr q h0).trans (hF q hq h0)
          obtain ⟨gq22_, e_gq22_⟩ : ∃ g : Nat → Int32, g = upd gq17_ (Int32.toNatClampNeg zq18_) vq19_ := ⟨_, rfl⟩
          rw [← e_gq22_] at hc_al
          have hR_gq22_ : Rng gq22_ := by rw [e_gq22_]; exact hR_gq17_.uX (t := t) (b := b) (xn := xn) (by omega) (by omega) (by omega) (by have := iCl (x := zq18_) (by omega); omega) (by have := iCl (x := zq18_) (by omega); omega) (by have := iCl (x := zq18_) (by omega); omega)
          have hK_gq22_ : Ke f gq22_ := by rw [e_gq22_]; exact hK_gq17_.up (by have := iCl (x := zq18_) (by omega); omega)
          refine lv_iload hx hb dX10_endorses_199 (lv_at hl 0 rfl) ?_
          refine lv_iconst (v := 2) hx hb dX10_endorses_201 (by decide) ?_
          refine jic_ge (tgt := 211) hx hb dX10_endorses_202 (by decide) (fun cq23_ => ?_) (fun cq23_ => ?_)
          · skip
            have cq23_ : 2 ≤ xq8_.toInt := cq23_
            exact ret_v hC hr hlk hK hH (⟨gq22_, ⟨hR_gq22_, hK_gq22_⟩, hc_al, rfl, hF⟩) (Nat.le_of_ble_eq_true rfl) (Nat.le_of_ble_eq_true rfl) dX10_endorses_211
          · skip
            have cq23_ : xq8_.toInt < 2 := cq23_
            refine lv_aload_n hx hb dX10_endorses_205 rfl (lv_at hl 3 rfl) ?_
            refine lv_iload_n hx hb dX10_endorses_206 rfl (lv_at hl 4 rfl) ?_
            refine lv_iload_n hx hb dX10_endorses_207 rfl (lv_at hl 5 rfl) ?_
            refine goV hK hH (runV (As := [.int x, .int k]) (rest := []) hC hK hH (c_X10_gets hc_h hn_h hc_al hn_al ht_mt ht_pa ht_li (by exact hR_gq22_) (by omega) (by omega) (by omega) (by omega) (by omega) (by omega)) mlX10_48 (rcvM hK hH hc_h rfl) ⟨⟨Nat.le_of_ble_eq_true rfl, Nat.le_of_ble_eq_true rfl⟩, Nat.le_of_ble_eq_true rfl, Nat.le_of_ble_eq_true rfl⟩ rfl hl.1 rfl (Nat.le_of_ble_eq_true rfl) dX10_endorses_208) (fun Mq24_ Tq25_ Hq_ lcq_ hP hz hH => ?_)
            try dsimp only at hP
            obtain ⟨gq27_, h_gq27_, (hx_al), eT, hfr⟩ := hP
            have eT := eT.symm; subst eT
            have hc_h : Mq24_ h = some (.inr (8, [.ref al, .ref mt, .ref ii, .int ta, .int fpm, .ref pa, .int sm, .int nx, .int tk, .int pl, .int ln, .long va, .int wr, .ref li])) := (hfr h (Or.inl hn_h) n_h_al).trans hc_h
            have hc_al : Mq24_ al = some (.inl (kA 0, 7506, .inl gq27_)) := hx_al
            have hF : ∀ q, FrK T q → q ≠ al → Mq24_ q = M q := fun q hq h0 => (hfr q hq  h0).trans (hF q hq h0)
            have hR_gq27_ : Rng gq27_ := h_gq27_.1
            have hK_gq27_ : Ke f gq27_ := hK_gq22_.tr h_gq27_.2
            exact ret_v hC hr hlk hK hH (⟨gq27_, ⟨hR_gq27_, hK_gq27_⟩, hc_al, rfl, hF⟩) (Nat.le_of_ble_eq_true rfl) (Nat.le_of_ble_eq_true rfl) dX10_endorses_211
        refine lv_iload hx hb dX10_endorses_187 (lv_at hl 0 rfl) ?_
        refine jif_ne (tgt := 196) hx hb dX10_endorses_189 (by decide) (fun cq28_ => ?_) (fun cq28_ => ?_)
        · skip
          have cq28_ : xq8_.toInt ≠ 0 := cq28_
          refine lv_iload hx hb dX10_endorses_196 (lv_at hl 1 rfl) ?_
          exact Jq20_ xq6_
        · skip
          have cq28_ : xq8_.toInt = 0 := cq28_
          refine lv_iconst (v := -1) hx hb dX10_endorses_192 (by decide) ?_
          refine lv_goto (tgt := 198) hx hb dX10_endorses_193 (by decide) ?_
          exact Jq20_ (-1)
      refine lv_iload hx hb dX10_endorses_158 (lv_at hl 0 rfl) ?_
      refine jif_ne (tgt := 167) hx hb dX10_endorses_160 (by decide) (fun cq29_ => ?_) (fun cq29_ => ?_)
      · skip
        have cq29_ : xq8_.toInt ≠ 0 := cq29_
        refine lv_iload hx hb dX10_endorses_167 (lv_at hl 0 rfl) ?_
        refine lv_iconst (v := 1) hx hb dX10_endorses_169 (by decide) ?_
        refine jic_ne (tgt := 177) hx hb dX10_endorses_170 (by decide) (fun cq30_ => ?_) (fun cq30_ => ?_)
        · skip
          have cq30_ : xq8_.toInt ≠ 1 := cq30_
          refine lv_iconst (v := 2) hx hb dX10_endorses_177 (by decide) ?_
          exact Jq15_ 2
        · skip
          have cq30_ : xq8_.toInt = 1 := cq30_
          refine lv_iconst (v := 0) hx hb dX10_endorses_173 (by decide) ?_
          refine lv_goto (tgt := 178) hx hb dX10_endorses_174 (by decide) ?_
          exact Jq15_ 0
      · skip
        have cq29_ : xq8_.toInt = 0 := cq29_
        refine lv_iconst (v := 1) hx hb dX10_endorses_163 (by decide) ?_
        refine lv_goto (tgt := 178) hx hb dX10_endorses_164 (by decide) ?_
        exact Jq15_ 1
    · skip
      have cq13_ : xq12_.toInt = 2 := cq13_
      refine lv_aload_n hx hb dX10_endorses_138 rfl (lv_at hl 3 rfl) ?_
      refine xg hC hK hH flX10_7 hc_h rfl dX10_endorses_139 ?_
      refine lv_iload_n hx hb dX10_endorses_142 rfl (lv_at hl 4 rfl) ?_
      refine lv_bipush (v := 12) hx hb dX10_endorses_143 (by decide) ?_
      refine lv_iadd hx hb dX10_endorses_145 ?_
      refine lv_topi (fun zq31_ e_zq31_ => ?_)
      have h_zq31_ : zq31_.toInt = x.toInt + 12 := by rw [e_zq31_, iAdd (by have := iRg x; have : (12 : Int32).toInt = 12 := rfl; omega) (by have := iRg x; have : (12 : Int32).toInt = 12 := rfl; omega)]; rfl
      refine lv_iload hx hb dX10_endorses_146 (lv_at hl 1 rfl) ?_
      refine yist (x := xq6_) hC hK hH hc_al (noT hn_al) (iIn (by omega) (by omega)) dX10_endorses_148 (fun Hq_ lcq_ Mq32_ hc_al hfr hH => ?_)
      have hc_al : Mq32_ al = some (.inl (kA 0, 7506, .inl (upd f (Int32.toNatClampNeg zq31_) xq6_))) := hc_al
      have hc_h : Mq32_ h = some (.inr (8, [.ref al, .ref mt, .ref ii, .int ta, .int fpm, .ref pa, .int sm, .int nx, .int tk, .int pl, .int ln, .long va, .int wr, .ref li])) := (hfr h n_h_al).trans hc_h
      have hF : ∀ q, FrK T q → q ≠ al → Mq32_ q = M q := fun q hq h0 => (hfr q h0).trans (hF q hq h0)
      obtain ⟨gq33_, e_gq33_⟩ : ∃ g : Nat → Int32, g = upd f (Int32.toNatClampNeg zq31_) xq6_ := ⟨_, rfl⟩
      rw [← e_gq33_] at hc_al
      have hR_gq33_ : Rng gq33_ := by rw [e_gq33_]; exact hR_f.uX (t := t) (b := b) (xn := xn) (by omega) (by omega) (by omega) (by have := iCl (x := zq31_) (by omega); omega) (by have := iCl (x := zq31_) (by omega); omega) (by have := iCl (x := zq31_) (by omega); omega)
      have hK_gq33_ : Ke f gq33_ := by rw [e_gq33_]; exact hK_f.up (by have := iCl (x := zq31_) (by omega); omega)
      exact ret_v hC hr hlk hK hH (⟨gq33_, ⟨hR_gq33_, hK_gq33_⟩, hc_al, rfl, hF⟩) (Nat.le_of_ble_eq_true rfl) (Nat.le_of_ble_eq_true rfl) dX10_endorses_149
  · skip
    have cq11_ : xq10_.toInt ≠ 1 := cq11_
    refine lv_aload_n hx hb dX10_endorses_42 rfl (lv_at hl 3 rfl) ?_
    refine xg hC hK hH flX10_7 hc_h rfl dX10_endorses_43 ?_
    refine lv_iload hx hb dX10_endorses_46 (lv_at hl 2 rfl) ?_
    refine lv_iconst (v := 2) hx hb dX10_endorses_48 (by decide) ?_
    refine lv_iadd hx hb dX10_endorses_49 ?_
    refine lv_topi (fun zq34_ e_zq34_ => ?_)
    have h_zq34_ : zq34_.toInt = rq3_.toInt + 2 := by rw [e_zq34_, iAdd (by have := iRg rq3_; have : (2 : Int32).toInt = 2 := rfl; omega) (by have := iRg rq3_; have : (2 : Int32).toInt = 2 := rfl; omega)]; rfl
    refine xild hC hK hH hc_al (iIn (by omega) (by omega)) dX10_endorses_50 ?_
    refine lv_topi (fun xq35_ e_xq35_ => ?_)
    have k_xq35_ : xq35_ = f (xn + 40 + 12 * kn + 2) := by rw [e_xq35_, clE (n := xn + 40 + 12 * kn + 2) (by omega)]
    have kt_xq35_ : xq35_.toInt = (f (xn + 40 + 12 * kn + 2)).toInt := by rw [k_xq35_]
    have rr_xq35_ : (-1 : Int) ≤ (f (xn + (40 + 12 * kn + 2))).toInt ∧ (f (xn + (40 + 12 * kn + 2))).toInt ≤ 7 := hR_f.rO (40 + 12 * kn + 2) (t := t) (b := b) (xn := xn) (by omega) (by omega) (by omega) (by omega) (rgS2 (by omega))
    have l_xq35_ : (-1 : Int) ≤ xq35_.toInt := by rw [kt_xq35_, show xn + 40 + 12 * kn + 2 = xn + (40 + 12 * kn + 2) from by omega]; exact rr_xq35_.1
    have g_xq35_ : xq35_.toInt ≤ 7 := by rw [kt_xq35_, show xn + 40 + 12 * kn + 2 = xn + (40 + 12 * kn + 2) from by omega]; exact rr_xq35_.2
    refine lv_aload_n hx hb dX10_endorses_51 rfl (lv_at hl 3 rfl) ?_
    refine xg hC hK hH flX10_7 hc_h rfl dX10_endorses_52 ?_
    refine lv_iload_n hx hb dX10_endorses_55 rfl (lv_at hl 4 rfl) ?_
    refine lv_bipush (v := 12) hx hb dX10_endorses_56 (by decide) ?_
    refine lv_iadd hx hb dX10_endorses_58 ?_
    refine lv_topi (fun zq36_ e_zq36_ => ?_)
    have h_zq36_ : zq36_.toInt = x.toInt + 12 := by rw [e_zq36_, iAdd (by have := iRg x; have : (12 : Int32).toInt = 12 := rfl; omega) (by have := iRg x; have : (12 : Int32).toInt = 12 := rfl; omega)]; rfl
    refine xild hC hK hH hc_al (iIn (by omega) (by omega)) dX10_endorses_59 ?_
    refine lv_topi (fun xq37_ e_xq37_ => ?_)
    have k_xq37_ : xq37_ = f (xn + 12) := by rw [e_xq37_, clE (n := xn + 12) (by omega)]
    have kt_xq37_ : xq37_.toInt = (f (xn + 12)).toInt := by rw [k_xq37_]
    refine jic_eq (tgt := 67) hx hb dX10_endorses_60 (by decide) (fun cq38_ => ?_) (fun cq38_ => ?_)
    · skip
      have cq38_ : xq35_.toInt = xq37_.toInt := cq38_
      refine lv_iconst (v := 0) hx hb dX10_endorses_67 (by decide) ?_
      refine lv_istore (lv' := [(7, .int 0), (6, .int xq8_), (5, .int xq6_), (4, .int rq3_), (0, .ref h), (1, .int x), (2, .int k), (3, .int me)]) hx hb dX10_endorses_68 hl (by decide) rfl (fun ls hl => ?_)
      refine lv_iload hx hb dX10_endorses_70 (lv_at hl 0 rfl) ?_
      refine jif_ne (tgt := 93) hx hb dX10_endorses_72 (by decide) (fun cq39_ => absurd cq39_ (by decide)) (fun cq39_ => ?_)
      refine lv_aload_n hx hb dX10_endorses_75 rfl (lv_at hl 4 rfl) ?_
      refine xg hC hK hH flX10_7 hc_h rfl dX10_endorses_76 ?_
      refine lv_iload hx hb dX10_endorses_79 (lv_at hl 3 rfl) ?_
      refine lv_bipush (v := 11) hx hb dX10_endorses_81 (by decide) ?_
      refine lv_iadd hx hb dX10_endorses_83 ?_
      refine lv_topi (fun zq40_ e_zq40_ => ?_)
      have h_zq40_ : zq40_.toInt = rq3_.toInt + 11 := by rw [e_zq40_, iAdd (by have := iRg rq3_; have : (11 : Int32).toInt = 11 := rfl; omega) (by have := iRg rq3_; have : (11 : Int32).toInt = 11 := rfl; omega)]; rfl
      refine xild hC hK hH hc_al (iIn (by omega) (by omega)) dX10_endorses_84 ?_
      refine lv_topi (fun xq41_ e_xq41_ => ?_)
      have k_xq41_ : xq41_ = f (xn + 40 + 12 * kn + 11) := by rw [e_xq41_, clE (n := xn + 40 + 12 * kn + 11) (by omega)]
      have kt_xq41_ : xq41_.toInt = (f (xn + 40 + 12 * kn + 11)).toInt := by rw [k_xq41_]
      refine lv_iconst (v := 1) hx hb dX10_endorses_85 (by decide) ?_
      refine jic_ne (tgt := 125) hx hb dX10_endorses_86 (by decide) (fun cq42_ => ?_) (fun cq42_ => ?_)
      · skip
        have cq42_ : xq41_.toInt ≠ 1 := cq42_
        refine lv_aload_n hx hb dX10_endorses_125 rfl (lv_at hl 4 rfl) ?_
        refine xg hC hK hH flX10_7 hc_h rfl dX10_endorses_126 ?_
        refine lv_iload_n hx hb dX10_endorses_129 rfl (lv_at hl 5 rfl) ?_
        refine lv_bipush (v := 11) hx hb dX10_endorses_130 (by decide) ?_
        refine lv_iadd hx hb dX10_endorses_132 ?_
        refine lv_cst (v := zq9_) e_zq9_.symm ?_
        refine xild hC hK hH hc_al (iIn (by omega) (by omega)) dX10_endorses_133 ?_
        refine lv_topi (fun xq43_ e_xq43_ => ?_)
        have k_xq43_ : xq43_ = f (xn + 11) := by rw [e_xq43_, clE (n := xn + 11) (by omega)]
        have kt_xq43_ : xq43_.toInt = (f (xn + 11)).toInt := by rw [k_xq43_]
        refine lv_iconst (v := 2) hx hb dX10_endorses_134 (by decide) ?_
        refine jic_ne (tgt := 150) hx hb dX10_endorses_135 (by decide) (fun cq44_ => ?_) (fun cq44_ => ?_)
        · skip
          have cq44_ : xq43_.toInt ≠ 2 := cq44_
          refine lv_aload_n hx hb dX10_endorses_150 rfl (lv_at hl 4 rfl) ?_
          refine xg hC hK hH flX10_7 hc_h rfl dX10_endorses_151 ?_
          refine lv_iload_n hx hb dX10_endorses_154 rfl (lv_at hl 5 rfl) ?_
          refine lv_bipush (v := 11) hx hb dX10_endorses_155 (by decide) ?_
          refine lv_iadd hx hb dX10_endorses_157 ?_
          refine lv_cst (v := zq9_) e_zq9_.symm ?_
          have Jq46_ : ∀ vq45_ : Int32, W p l e (rmL 2 0 0) s m ([.ref h, .int x, .int k, .int me] : List Value).toArray below meth c Hq_ lcq_ 0 0 (MQ below (va_Qv (fun u => ∃ g : Nat → Int32, (Rng g ∧ Ke f g) ∧ (u.1 al = some (.inl (kA 0, 7506, .inl g))) ∧ u.2 = T ∧ (∀ q, FrK T q → q ≠ al → u.1 q = M q)) (mB D kA M T sz) (mA M T sz)) ([.ref h, .int x, .int k, .int me] : List Value).toArray s 0 0 (mA M T sz)) (F0 m 178 ls [.int vq45_, .int zq9_, .ref al]) := by
            intro vq45_
            refine yist (x := vq45_) hC hK hH hc_al (noT hn_al) (iIn (by omega) (by omega)) dX10_endorses_178 (fun Hq_ lcq_ Mq47_ hc_al hfr hH => ?_)
            have hc_al : Mq47_ al = some (.inl (kA 0, 7506, .inl (upd f (Int32.toNatClampNeg zq9_) vq45_))) := hc_al
            have hc_h : Mq47_ h = some (.inr (8, [.ref al, .ref mt, .ref ii, .int ta, .int fpm, .ref pa, .int sm, .int nx, .int tk, .int pl, .int ln, .long va, .int wr, .ref li])) := (hfr h n_h_al).trans hc_h
            have hF : ∀ q, FrK T q → q ≠ al → Mq47_ q = M q := fun q hq h0 => (hfr q h0).trans (hF q hq h0)
            obtain ⟨gq48_, e_gq48_⟩ : ∃ g : Nat → Int32, g = upd f (Int32.toNatClampNeg zq9_) vq45_ := ⟨_, rfl⟩
            rw [← e_gq48_] at hc_al
            have hR_gq48_ : Rng gq48_ := by rw [e_gq48_]; exact hR_f.uX (t := t) (b := b) (xn := xn) (by omega) (by omega) (by omega) (by have := iCl (x := zq9_) (by omega); omega) (by have := iCl (x := zq9_) (by omega); omega) (by have := iCl (x := zq9_) (by omega); omega)
            have hK_gq48_ : Ke f gq48_ := by rw [e_gq48_]; exact hK_f.up (by have := iCl (x := zq9_) (by omega); omega)
            refine lv_aload_n hx hb dX10_endorses_179 rfl (lv_at hl 4 rfl) ?_
            refine xg hC hK hH flX10_7 hc_h rfl dX10_endorses_180 ?_
            refine lv_iload_n hx hb dX10_endorses_183 rfl (lv_at hl 5 rfl) ?_
            refine lv_bipush (v := 12) hx hb dX10_endorses_184 (by decide) ?_
            refine lv_iadd hx hb dX10_endorses_186 ?_
            refine lv_cst (v := zq36_) e_zq36_.symm ?_
            have Jq50_ : ∀ vq49_ : Int32, W p l e (rmL 2 0 0) s m ([.ref h, .int x, .int k, .int me] : List Value).toArray below meth c Hq_ lcq_ 0 0 (MQ below (va_Qv (fun u => ∃ g : Nat → Int32, (Rng g ∧ Ke f g) ∧ (u.1 al = some (.inl (kA 0, 7506, .inl g))) ∧ u.2 = T ∧ (∀ q, FrK T q → q ≠ al → u.1 q = M q)) (mB D kA M T sz) (mA M T sz)) ([.ref h, .int x, .int k, .int me] : List Value).toArray s 0 0 (mA M T sz)) (F0 m 198 ls [.int vq49_, .int zq36_, .ref al]) := by
              intro vq49_
              refine yist (x := vq49_) hC hK hH hc_al (noT hn_al) (iIn (by omega) (by omega)) dX10_endorses_198 (fun Hq_ lcq_ Mq51_ hc_al hfr hH => ?_)
              have hc_al : Mq51_ al = some (.inl (kA 0, 7506, .inl (upd gq48_ (Int32.toNatClampNeg zq36_) vq49_))) := hc_al
              have hc_h : Mq51_ h = some (.inr (8, [.ref al, .ref mt, .ref ii, .int ta, .int fpm, .ref pa, .int sm, .int nx, .int tk, .int pl, .int ln, .long va, .int wr, .ref li])) := (hfr h n_h_al).trans hc_h
              have hF : ∀ q, FrK T q → q ≠ al → Mq51_ q = M q := fun q hq h0 => (hfr q h0).trans (hF q hq h0)
              obtain ⟨gq52_, e_gq52_⟩ : ∃ g : Nat → Int32, g = upd gq48_ (Int32.toNatClampNeg zq36_) vq49_ := ⟨_, rfl⟩
              rw [← e_gq52_] at hc_al
              have hR_gq52_ : Rng gq52_ := by rw [e_gq52_]; exact hR_gq48_.uX (t := t) (b := b) (xn := xn) (by omega) (by omega) (by omega) (by have := iCl (x := zq36_) (by omega); omega) (by have := iCl (x := zq36_) (by omega); omega) (by have := iCl (x := zq36_) (by omega); omega)
              have hK_gq52_ : Ke f gq52_ := by rw [e_gq52_]; exact hK_gq48_.up (by have := iCl (x := zq36_) (by omega); omega)
              refine lv_iload hx hb dX10_endorses_199 (lv_at hl 1 rfl) ?_
              refine lv_iconst (v := 2) hx hb dX10_endorses_201 (by decide) ?_
              refine jic_ge (tgt := 211) hx hb dX10_endorses_202 (by decide) (fun cq53_ => ?_) (fun cq53_ => ?_)
              · skip
                have cq53_ : 2 ≤ xq8_.toInt := cq53_
                exact ret_v hC hr hlk hK hH (⟨gq52_, ⟨hR_gq52_, hK_gq52_⟩, hc_al, rfl, hF⟩) (Nat.le_of_ble_eq_true rfl) (Nat.le_of_ble_eq_true rfl) dX10_endorses_211
              · skip
                have cq53_ : xq8_.toInt < 2 := cq53_
                refine lv_aload_n hx hb dX10_endorses_205 rfl (lv_at hl 4 rfl) ?_
                refine lv_iload_n hx hb dX10_endorses_206 rfl (lv_at hl 5 rfl) ?_
                refine lv_iload_n hx hb dX10_endorses_207 rfl (lv_at hl 6 rfl) ?_
                refine goV hK hH (runV (As := [.int x, .int k]) (rest := []) hC hK hH (c_X10_gets hc_h hn_h hc_al hn_al ht_mt ht_pa ht_li (by exact hR_gq52_) (by omega) (by omega) (by omega) (by omega) (by omega) (by omega)) mlX10_48 (rcvM hK hH hc_h rfl) ⟨⟨Nat.le_of_ble_eq_true rfl, Nat.le_of_ble_eq_true rfl⟩, Nat.le_of_ble_eq_true rfl, Nat.le_of_ble_eq_true rfl⟩ rfl hl.1 rfl (Nat.le_of_ble_eq_true rfl) dX10_endorses_208) (fun Mq54_ Tq55_ Hq_ lcq_ hP hz hH => ?_)
                try dsimp only at hP
                obtain ⟨gq57_, h_gq57_, (hx_al), eT, hfr⟩ := hP
                have eT := eT.symm; subst eT
                have hc_h : Mq54_ h = some (.inr (8, [.ref al, .ref mt, .ref ii, .int ta, .int fpm, .ref pa, .int sm, .int nx, .int tk, .int pl, .int ln, .long va, .int wr, .ref li])) := (hfr h (Or.inl hn_h) n_h_al).trans hc_h
                have hc_al : Mq54_ al = some (.inl (kA 0, 7506, .inl gq57_)) := hx_al
                have hF : ∀ q, FrK T q → q ≠ al → Mq54_ q = M q := fun q hq h0 => (hfr q hq  h0).trans (hF q hq h0)
                have hR_gq57_ : Rng gq57_ := h_gq57_.1
                have hK_gq57_ : Ke f gq57_ := hK_gq52_.tr h_gq57_.2
                exact ret_v hC hr hlk hK hH (⟨gq57_, ⟨hR_gq57_, hK_gq57_⟩, hc_al, rfl, hF⟩) (Nat.le_of_ble_eq_true rfl) (Nat.le_of_ble_eq_true rfl) dX10_endorses_211
            refine lv_iload hx hb dX10_endorses_187 (lv_at hl 1 rfl) ?_
            refine jif_ne (tgt := 196) hx hb dX10_endorses_189 (by decide) (fun cq58_ => ?_) (fun cq58_ => ?_)
            · skip
              have cq58_ : xq8_.toInt ≠ 0 := cq58_
              refine lv_iload hx hb dX10_endorses_196 (lv_at hl 2 rfl) ?_
              exact Jq50_ xq6_
            · skip
              have cq58_ : xq8_.toInt = 0 := cq58_
              refine lv_iconst (v := -1) hx hb dX10_endorses_192 (by decide) ?_
              refine lv_goto (tgt := 198) hx hb dX10_endorses_193 (by decide) ?_
              exact Jq50_ (-1)
          refine lv_iload hx hb dX10_endorses_158 (lv_at hl 1 rfl) ?_
          refine jif_ne (tgt := 167) hx hb dX10_endorses_160 (by decide) (fun cq59_ => ?_) (fun cq59_ => ?_)
          · skip
            have cq59_ : xq8_.toInt ≠ 0 := cq59_
            refine lv_iload hx hb dX10_endorses_167 (lv_at hl 1 rfl) ?_
            refine lv_iconst (v := 1) hx hb dX10_endorses_169 (by decide) ?_
            refine jic_ne (tgt := 177) hx hb dX10_endorses_170 (by decide) (fun cq60_ => ?_) (fun cq60_ => ?_)
            · skip
              have cq60_ : xq8_.toInt ≠ 1 := cq60_
              refine lv_iconst (v := 2) hx hb dX10_endorses_177 (by decide) ?_
              exact Jq46_ 2
            · skip
              have cq60_ : xq8_.toInt = 1 := cq60_
              refine lv_iconst (v := 0) hx hb dX10_endorses_173 (by decide) ?_
              refine lv_goto (tgt := 178) hx hb dX10_endorses_174 (by decide) ?_
              exact Jq46_ 0
          · skip
            have cq59_ : xq8_.toInt = 0 := cq59_
            refine lv_iconst (v := 1) hx hb dX10_endorses_163 (by decide) ?_
            refine lv_goto (tgt := 178) hx hb dX10_endorses_164 (by decide) ?_
            exact Jq46_ 1
        · skip
          have cq44_ : xq43_.toInt = 2 := cq44_
          refine lv_aload_n hx hb dX10_endorses_138 rfl (lv_at hl 4 rfl) ?_
          refine xg hC hK hH flX10_7 hc_h rfl dX10_endorses_139 ?_
          refine lv_iload_n hx hb dX10_endorses_142 rfl (lv_at hl 5 rfl) ?_
          refine lv_bipush (v := 12) hx hb dX10_endorses_143 (by decide) ?_
          refine lv_iadd hx hb dX10_endorses_145 ?_
          refine lv_cst (v := zq36_) e_zq36_.symm ?_
          refine lv_iload hx hb dX10_endorses_146 (lv_at hl 2 rfl) ?_
          refine yist (x := xq6_) hC hK hH hc_al (noT hn_al) (iIn (by omega) (by omega)) dX10_endorses_148 (fun Hq_ lcq_ Mq61_ hc_al hfr hH => ?_)
          have hc_al : Mq61_ al = some (.inl (kA 0, 7506, .inl (upd f (Int32.toNatClampNeg zq36_) xq6_))) := hc_al
          have hc_h : Mq61_ h = some (.inr (8, [.ref al, .ref mt, .ref ii, .int ta, .int fpm, .ref pa, .int sm, .int nx, .int tk, .int pl, .int ln, .long va, .int wr, .ref li])) := (hfr h n_h_al).trans hc_h
          have hF : ∀ q, FrK T q → q ≠ al → Mq61_ q = M q := fun q hq h0 => (hfr q h0).trans (hF q hq h0)
          obtain ⟨gq62_, e_gq62_⟩ : ∃ g : Nat → Int32, g = upd f (Int32.toNatClampNeg zq36_) xq6_ := ⟨_, rfl⟩
          rw [← e_gq62_] at hc_al
          have hR_gq62_ : Rng gq62_ := by rw [e_gq62_]; exact hR_f.uX (t := t) (b := b) (xn := xn) (by omega) (by omega) (by omega) (by have := iCl (x := zq36_) (by omega); omega) (by have := iCl (x := zq36_) (by omega); omega) (by have := iCl (x := zq36_) (by omega); omega)
          have hK_gq62_ : Ke f gq62_ := by rw [e_gq62_]; exact hK_f.up (by have := iCl (x := zq36_) (by omega); omega)
          exact ret_v hC hr hlk hK hH (⟨gq62_, ⟨hR_gq62_, hK_gq62_⟩, hc_al, rfl, hF⟩) (Nat.le_of_ble_eq_true rfl) (Nat.le_of_ble_eq_true rfl) dX10_endorses_149
      · skip
        have cq42_ : xq41_.toInt = 1 := cq42_
        refine lv_iload_n hx hb dX10_endorses_89 rfl (lv_at hl 7 rfl) ?_
        refine jif_ne (tgt := 125) hx hb dX10_endorses_90 (by decide) (fun cq63_ => ?_) (fun cq63_ => ?_)
        · skip
          have cq63_ : me.toInt ≠ 0 := cq63_
          refine lv_aload_n hx hb dX10_endorses_125 rfl (lv_at hl 4 rfl) ?_
          refine xg hC hK hH flX10_7 hc_h rfl dX10_endorses_126 ?_
          refine lv_iload_n hx hb dX10_endorses_129 rfl (lv_at hl 5 rfl) ?_
          refine lv_bipush (v := 11) hx hb dX10_endorses_130 (by decide) ?_
          refine lv_iadd hx hb dX10_endorses_132 ?_
          refine lv_cst (v := zq9_) e_zq9_.symm ?_
          refine xild hC hK hH hc_al (iIn (by omega) (by omega)) dX10_endorses_133 ?_
          refine lv_topi (fun xq64_ e_xq64_ => ?_)
          have k_xq64_ : xq64_ = f (xn + 11) := by rw [e_xq64_, clE (n := xn + 11) (by omega)]
          have kt_xq64_ : xq64_.toInt = (f (xn + 11)).toInt := by rw [k_xq64_]
          refine lv_iconst (v := 2) hx hb dX10_endorses_134 (by decide) ?_
          refine jic_ne (tgt := 150) hx hb dX10_endorses_135 (by decide) (fun cq65_ => ?_) (fun cq65_ => ?_)
          · skip
            have cq65_ : xq64_.toInt ≠ 2 := cq65_
            refine lv_aload_n hx hb dX10_endorses_150 rfl (lv_at hl 4 rfl) ?_
            refine xg hC hK hH flX10_7 hc_h rfl dX10_endorses_151 ?_
            refine lv_iload_n hx hb dX10_endorses_154 rfl (lv_at hl 5 rfl) ?_
            refine lv_bipush (v := 11) hx hb dX10_endorses_155 (by decide) ?_
            refine lv_iadd hx hb dX10_endorses_157 ?_
            refine lv_cst (v := zq9_) e_zq9_.symm ?_
            have Jq67_ : ∀ vq66_ : Int32, W p l e (rmL 2 0 0) s m ([.ref h, .int x, .int k, .int me] : List Value).toArray below meth c Hq_ lcq_ 0 0 (MQ below (va_Qv (fun u => ∃ g : Nat → Int32, (Rng g ∧ Ke f g) ∧ (u.1 al = some (.inl (kA 0, 7506, .inl g))) ∧ u.2 = T ∧ (∀ q, FrK T q → q ≠ al → u.1 q = M q)) (mB D kA M T sz) (mA M T sz)) ([.ref h, .int x, .int k, .int me] : List Value).toArray s 0 0 (mA M T sz)) (F0 m 178 ls [.int vq66_, .int zq9_, .ref al]) := by
              intro vq66_
              refine yist (x := vq66_) hC hK hH hc_al (noT hn_al) (iIn (by omega) (by omega)) dX10_endorses_178 (fun Hq_ lcq_ Mq68_ hc_al hfr hH => ?_)
              have hc_al : Mq68_ al = some (.inl (kA 0, 7506, .inl (upd f (Int32.toNatClampNeg zq9_) vq66_))) := hc_al
              have hc_h : Mq68_ h = some (.inr (8, [.ref al, .ref mt, .ref ii, .int ta, .int fpm, .ref pa, .int sm, .int nx, .int tk, .int pl, .int ln, .long va, .int wr, .ref li])) := (hfr h n_h_al).trans hc_h
              have hF : ∀ q, FrK T q → q ≠ al → Mq68_ q = M q := fun q hq h0 => (hfr q h0).trans (hF q hq h0)
              obtain ⟨gq69_, e_gq69_⟩ : ∃ g : Nat → Int32, g = upd f (Int32.toNatClampNeg zq9_) vq66_ := ⟨_, rfl⟩
              rw [← e_gq69_] at hc_al
              have hR_gq69_ : Rng gq69_ := by rw [e_gq69_]; exact hR_f.uX (t := t) (b := b) (xn := xn) (by omega) (by omega) (by omega) (by have := iCl (x := zq9_) (by omega); omega) (by have := iCl (x := zq9_) (by omega); omega) (by have := iCl (x := zq9_) (by omega); omega)
              have hK_gq69_ : Ke f gq69_ := by rw [e_gq69_]; exact hK_f.up (by have := iCl (x := zq9_) (by omega); omega)
              refine lv_aload_n hx hb dX10_endorses_179 rfl (lv_at hl 4 rfl) ?_
              refine xg hC hK hH flX10_7 hc_h rfl dX10_endorses_180 ?_
              refine lv_iload_n hx hb dX10_endorses_183 rfl (lv_at hl 5 rfl) ?_
              refine lv_bipush (v := 12) hx hb dX10_endorses_184 (by decide) ?_
              refine lv_iadd hx hb dX10_endorses_186 ?_
              refine lv_cst (v := zq36_) e_zq36_.symm ?_
              have Jq71_ : ∀ vq70_ : Int32, W p l e (rmL 2 0 0) s m ([.ref h, .int x, .int k, .int me] : List Value).toArray below meth c Hq_ lcq_ 0 0 (MQ below (va_Qv (fun u => ∃ g : Nat → Int32, (Rng g ∧ Ke f g) ∧ (u.1 al = some (.inl (kA 0, 7506, .inl g))) ∧ u.2 = T ∧ (∀ q, FrK T q → q ≠ al → u.1 q = M q)) (mB D kA M T sz) (mA M T sz)) ([.ref h, .int x, .int k, .int me] : List Value).toArray s 0 0 (mA M T sz)) (F0 m 198 ls [.int vq70_, .int zq36_, .ref al]) := by
                intro vq70_
                refine yist (x := vq70_) hC hK hH hc_al (noT hn_al) (iIn (by omega) (by omega)) dX10_endorses_198 (fun Hq_ lcq_ Mq72_ hc_al hfr hH => ?_)
                have hc_al : Mq72_ al = some (.inl (kA 0, 7506, .inl (upd gq69_ (Int32.toNatClampNeg zq36_) vq70_))) := hc_al
                have hc_h : Mq72_ h = some (.inr (8, [.ref al, .ref mt, .ref ii, .int ta, .int fpm, .ref pa, .int sm, .int nx, .int tk, .int pl, .int ln, .long va, .int wr, .ref li])) := (hfr h n_h_al).trans hc_h
                have hF : ∀ q, FrK T q → q ≠ al → Mq72_ q = M q := fun q hq h0 => (hfr q h0).trans (hF q hq h0)
                obtain ⟨gq73_, e_gq73_⟩ : ∃ g : Nat → Int32, g = upd gq69_ (Int32.toNatClampNeg zq36_) vq70_ := ⟨_, rfl⟩
                rw [← e_gq73_] at hc_al
                have hR_gq73_ : Rng gq73_ := by rw [e_gq73_]; exact hR_gq69_.uX (t := t) (b := b) (xn := xn) (by omega) (by omega) (by omega) (by have := iCl (x := zq36_) (by omega); omega) (by have := iCl (x := zq36_) (by omega); omega) (by have := iCl (x := zq36_) (by omega); omega)
                have hK_gq73_ : Ke f gq73_ := by rw [e_gq73_]; exact hK_gq69_.up (by have := iCl (x := zq36_) (by omega); omega)
                refine lv_iload hx hb dX10_endorses_199 (lv_at hl 1 rfl) ?_
                refine lv_iconst (v := 2) hx hb dX10_endorses_201 (by decide) ?_
                refine jic_ge (tgt := 211) hx hb dX10_endorses_202 (by decide) (fun cq74_ => ?_) (fun cq74_ => ?_)
                · skip
                  have cq74_ : 2 ≤ xq8_.toInt := cq74_
                  exact ret_v hC hr hlk hK hH (⟨gq73_, ⟨hR_gq73_, hK_gq73_⟩, hc_al, rfl, hF⟩) (Nat.le_of_ble_eq_true rfl) (Nat.le_of_ble_eq_true rfl) dX10_endorses_211
                · skip
                  have cq74_ : xq8_.toInt < 2 := cq74_
                  refine lv_aload_n hx hb dX10_endorses_205 rfl (lv_at hl 4 rfl) ?_
                  refine lv_iload_n hx hb dX10_endorses_206 rfl (lv_at hl 5 rfl) ?_
                  refine lv_iload_n hx hb dX10_endorses_207 rfl (lv_at hl 6 rfl) ?_
                  refine goV hK hH (runV (As := [.int x, .int k]) (rest := []) hC hK hH (c_X10_gets hc_h hn_h hc_al hn_al ht_mt ht_pa ht_li (by exact hR_gq73_) (by omega) (by omega) (by omega) (by omega) (by omega) (by omega)) mlX10_48 (rcvM hK hH hc_h rfl) ⟨⟨Nat.le_of_ble_eq_true rfl, Nat.le_of_ble_eq_true rfl⟩, Nat.le_of_ble_eq_true rfl, Nat.le_of_ble_eq_true rfl⟩ rfl hl.1 rfl (Nat.le_of_ble_eq_true rfl) dX10_endorses_208) (fun Mq75_ Tq76_ Hq_ lcq_ hP hz hH => ?_)
                  try dsimp only at hP
                  obtain ⟨gq78_, h_gq78_, (hx_al), eT, hfr⟩ := hP
                  have eT := eT.symm; subst eT
                  have hc_h : Mq75_ h = some (.inr (8, [.ref al, .ref mt, .ref ii, .int ta, .int fpm, .ref pa, .int sm, .int nx, .int tk, .int pl, .int ln, .long va, .int wr, .ref li])) := (hfr h (Or.inl hn_h) n_h_al).trans hc_h
                  have hc_al : Mq75_ al = some (.inl (kA 0, 7506, .inl gq78_)) := hx_al
                  have hF : ∀ q, FrK T q → q ≠ al → Mq75_ q = M q := fun q hq h0 => (hfr q hq  h0).trans (hF q hq h0)
                  have hR_gq78_ : Rng gq78_ := h_gq78_.1
                  have hK_gq78_ : Ke f gq78_ := hK_gq73_.tr h_gq78_.2
                  exact ret_v hC hr hlk hK hH (⟨gq78_, ⟨hR_gq78_, hK_gq78_⟩, hc_al, rfl, hF⟩) (Nat.le_of_ble_eq_true rfl) (Nat.le_of_ble_eq_true rfl) dX10_endorses_211
              refine lv_iload hx hb dX10_endorses_187 (lv_at hl 1 rfl) ?_
              refine jif_ne (tgt := 196) hx hb dX10_endorses_189 (by decide) (fun cq79_ => ?_) (fun cq79_ => ?_)
              · skip
                have cq79_ : xq8_.toInt ≠ 0 := cq79_
                refine lv_iload hx hb dX10_endorses_196 (lv_at hl 2 rfl) ?_
                exact Jq71_ xq6_
              · skip
                have cq79_ : xq8_.toInt = 0 := cq79_
                refine lv_iconst (v := -1) hx hb dX10_endorses_192 (by decide) ?_
                refine lv_goto (tgt := 198) hx hb dX10_endorses_193 (by decide) ?_
                exact Jq71_ (-1)
            refine lv_iload hx hb dX10_endorses_158 (lv_at hl 1 rfl) ?_
            refine jif_ne (tgt := 167) hx hb dX10_endorses_160 (by decide) (fun cq80_ => ?_) (fun cq80_ => ?_)
            · skip
              have cq80_ : xq8_.toInt ≠ 0 := cq80_
              refine lv_iload hx hb dX10_endorses_167 (lv_at hl 1 rfl) ?_
              refine lv_iconst (v := 1) hx hb dX10_endorses_169 (by decide) ?_
              refine jic_ne (tgt := 177) hx hb dX10_endorses_170 (by decide) (fun cq81_ => ?_) (fun cq81_ => ?_)
              · skip
                have cq81_ : xq8_.toInt ≠ 1 := cq81_
                refine lv_iconst (v := 2) hx hb dX10_endorses_177 (by decide) ?_
                exact Jq67_ 2
              · skip
                have cq81_ : xq8_.toInt = 1 := cq81_
                refine lv_iconst (v := 0) hx hb dX10_endorses_173 (by decide) ?_
                refine lv_goto (tgt := 178) hx hb dX10_endorses_174 (by decide) ?_
                exact Jq67_ 0
            · skip
              have cq80_ : xq8_.toInt = 0 := cq80_
              refine lv_iconst (v := 1) hx hb dX10_endorses_163 (by decide) ?_
              refine lv_goto (tgt := 178) hx hb dX10_endorses_164 (by decide) ?_
              exact Jq67_ 1
          · skip
            have cq65_ : xq64_.toInt = 2 := cq65_
            refine lv_aload_n hx hb dX10_endorses_138 rfl (lv_at hl 4 rfl) ?_
            refine xg hC hK hH flX10_7 hc_h rfl dX10_endorses_139 ?_
            refine lv_iload_n hx hb dX10_endorses_142 rfl (lv_at hl 5 rfl) ?_
            refine lv_bipush (v := 12) hx hb dX10_endorses_143 (by decide) ?_
            refine lv_iadd hx hb dX10_endorses_145 ?_
            refine lv_cst (v := zq36_) e_zq36_.symm ?_
            refine lv_iload hx hb dX10_endorses_146 (lv_at hl 2 rfl) ?_
            refine yist (x := xq6_) hC hK hH hc_al (noT hn_al) (iIn (by omega) (by omega)) dX10_endorses_148 (fun Hq_ lcq_ Mq82_ hc_al hfr hH => ?_)
            have hc_al : Mq82_ al = some (.inl (kA 0, 7506, .inl (upd f (Int32.toNatClampNeg zq36_) xq6_))) := hc_al
            have hc_h : Mq82_ h = some (.inr (8, [.ref al, .ref mt, .ref ii, .int ta, .int fpm, .ref pa, .int sm, .int nx, .int tk, .int pl, .int ln, .long va, .int wr, .ref li])) := (hfr h n_h_al).trans hc_h
            have hF : ∀ q, FrK T q → q ≠ al → Mq82_ q = M q := fun q hq h0 => (hfr q h0).trans (hF q hq h0)
            obtain ⟨gq83_, e_gq83_⟩ : ∃ g : Nat → Int32, g = upd f (Int32.toNatClampNeg zq36_) xq6_ := ⟨_, rfl⟩
            rw [← e_gq83_] at hc_al
            have hR_gq83_ : Rng gq83_ := by rw [e_gq83_]; exact hR_f.uX (t := t) (b := b) (xn := xn) (by omega) (by omega) (by omega) (by have := iCl (x := zq36_) (by omega); omega) (by have := iCl (x := zq36_) (by omega); omega) (by have := iCl (x := zq36_) (by omega); omega)
            have hK_gq83_ : Ke f gq83_ := by rw [e_gq83_]; exact hK_f.up (by have := iCl (x := zq36_) (by omega); omega)
            exact ret_v hC hr hlk hK hH (⟨gq83_, ⟨hR_gq83_, hK_gq83_⟩, hc_al, rfl, hF⟩) (Nat.le_of_ble_eq_true rfl) (Nat.le_of_ble_eq_true rfl) dX10_endorses_149
        · skip
          have cq63_ : me.toInt = 0 := cq63_
          refine lv_aload_n hx hb dX10_endorses_93 rfl (lv_at hl 4 rfl) ?_
          refine xg hC hK hH flX10_7 hc_h rfl dX10_endorses_94 ?_
          refine lv_iload_n hx hb dX10_endorses_97 rfl (lv_at hl 5 rfl) ?_
          refine lv_bipush (v := 16) hx hb dX10_endorses_98 (by decide) ?_
          refine lv_iadd hx hb dX10_endorses_100 ?_
          refine lv_topi (fun zq84_ e_zq84_ => ?_)
          have h_zq84_ : zq84_.toInt = x.toInt + 16 := by rw [e_zq84_, iAdd (by have := iRg x; have : (16 : Int32).toInt = 16 := rfl; omega) (by have := iRg x; have : (16 : Int32).toInt = 16 := rfl; omega)]; rfl
          refine lv_iload_n hx hb dX10_endorses_101 rfl (lv_at hl 6 rfl) ?_
          refine yist (x := k) hC hK hH hc_al (noT hn_al) (iIn (by omega) (by omega)) dX10_endorses_102 (fun Hq_ lcq_ Mq85_ hc_al hfr hH => ?_)
          have hc_al : Mq85_ al = some (.inl (kA 0, 7506, .inl (upd f (Int32.toNatClampNeg zq84_) k))) := hc_al
          have hc_h : Mq85_ h = some (.inr (8, [.ref al, .ref mt, .ref ii, .int ta, .int fpm, .ref pa, .int sm, .int nx, .int tk, .int pl, .int ln, .long va, .int wr, .ref li])) := (hfr h n_h_al).trans hc_h
          have hF : ∀ q, FrK T q → q ≠ al → Mq85_ q = M q := fun q hq h0 => (hfr q h0).trans (hF q hq h0)
          obtain ⟨gq86_, e_gq86_⟩ : ∃ g : Nat → Int32, g = upd f (Int32.toNatClampNeg zq84_) k := ⟨_, rfl⟩
          rw [← e_gq86_] at hc_al
          have hR_gq86_ : Rng gq86_ := by rw [e_gq86_]; exact hR_f.uX (t := t) (b := b) (xn := xn) (by omega) (by omega) (by omega) (by have := iCl (x := zq84_) (by omega); omega) (by have := iCl (x := zq84_) (by omega); omega) (by have := iCl (x := zq84_) (by omega); omega)
          have hK_gq86_ : Ke f gq86_ := by rw [e_gq86_]; exact hK_f.up (by have := iCl (x := zq84_) (by omega); omega)
          refine lv_aload_n hx hb dX10_endorses_103 rfl (lv_at hl 4 rfl) ?_
          refine xg hC hK hH flX10_7 hc_h rfl dX10_endorses_104 ?_
          refine lv_iload_n hx hb dX10_endorses_107 rfl (lv_at hl 5 rfl) ?_
          refine lv_bipush (v := 17) hx hb dX10_endorses_108 (by decide) ?_
          refine lv_iadd hx hb dX10_endorses_110 ?_
          refine lv_topi (fun zq87_ e_zq87_ => ?_)
          have h_zq87_ : zq87_.toInt = x.toInt + 17 := by rw [e_zq87_, iAdd (by have := iRg x; have : (17 : Int32).toInt = 17 := rfl; omega) (by have := iRg x; have : (17 : Int32).toInt = 17 := rfl; omega)]; rfl
          have Jq89_ : ∀ vq88_ : Int32, W p l e (rmL 2 0 0) s m ([.ref h, .int x, .int k, .int me] : List Value).toArray below meth c Hq_ lcq_ 0 0 (MQ below (va_Qv (fun u => ∃ g : Nat → Int32, (Rng g ∧ Ke f g) ∧ (u.1 al = some (.inl (kA 0, 7506, .inl g))) ∧ u.2 = T ∧ (∀ q, FrK T q → q ≠ al → u.1 q = M q)) (mB D kA M T sz) (mA M T sz)) ([.ref h, .int x, .int k, .int me] : List Value).toArray s 0 0 (mA M T sz)) (F0 m 123 ls [.int vq88_, .int zq87_, .ref al]) := by
            intro vq88_
            refine yist (x := vq88_) hC hK hH hc_al (noT hn_al) (iIn (by omega) (by omega)) dX10_endorses_123 (fun Hq_ lcq_ Mq90_ hc_al hfr hH => ?_)
            have hc_al : Mq90_ al = some (.inl (kA 0, 7506, .inl (upd gq86_ (Int32.toNatClampNeg zq87_) vq88_))) := hc_al
            have hc_h : Mq90_ h = some (.inr (8, [.ref al, .ref mt, .ref ii, .int ta, .int fpm, .ref pa, .int sm, .int nx, .int tk, .int pl, .int ln, .long va, .int wr, .ref li])) := (hfr h n_h_al).trans hc_h
            have hF : ∀ q, FrK T q → q ≠ al → Mq90_ q = M q := fun q hq h0 => (hfr q h0).trans (hF q hq h0)
            obtain ⟨gq91_, e_gq91_⟩ : ∃ g : Nat → Int32, g = upd gq86_ (Int32.toNatClampNeg zq87_) vq88_ := ⟨_, rfl⟩
            rw [← e_gq91_] at hc_al
            have hR_gq91_ : Rng gq91_ := by rw [e_gq91_]; exact hR_gq86_.uX (t := t) (b := b) (xn := xn) (by omega) (by omega) (by omega) (by have := iCl (x := zq87_) (by omega); omega) (by have := iCl (x := zq87_) (by omega); omega) (by have := iCl (x := zq87_) (by omega); omega)
            have hK_gq91_ : Ke f gq91_ := by rw [e_gq91_]; exact hK_gq86_.up (by have := iCl (x := zq87_) (by omega); omega)
            exact ret_v hC hr hlk hK hH (⟨gq91_, ⟨hR_gq91_, hK_gq91_⟩, hc_al, rfl, hF⟩) (Nat.le_of_ble_eq_true rfl) (Nat.le_of_ble_eq_true rfl) dX10_endorses_124
          refine lv_iload hx hb dX10_endorses_111 (lv_at hl 0 rfl) ?_
          refine jif_eq (tgt := 121) hx hb dX10_endorses_113 (by decide) (fun cq92_ => ?_) (fun cq92_ => absurd cq92_ (by decide))
          refine lv_bipush (v := 12) hx hb dX10_endorses_121 (by decide) ?_
          exact Jq89_ 12
    · skip
      have cq38_ : xq35_.toInt ≠ xq37_.toInt := cq38_
      refine lv_iconst (v := 1) hx hb dX10_endorses_63 (by decide) ?_
      refine lv_goto (tgt := 68) hx hb dX10_endorses_64 (by decide) ?_
      refine lv_istore (lv' := [(7, .int 1), (6, .int xq8_), (5, .int xq6_), (4, .int rq3_), (0, .ref h), (1, .int x), (2, .int k), (3, .int me)]) hx hb dX10_endorses_68 hl (by decide) rfl (fun ls hl => ?_)
      refine lv_iload hx hb dX10_endorses_70 (lv_at hl 0 rfl) ?_
      refine jif_ne (tgt := 93) hx hb dX10_endorses_72 (by decide) (fun cq93_ => ?_) (fun cq93_ => absurd cq93_ (by decide))
      refine lv_aload_n hx hb dX10_endorses_93 rfl (lv_at hl 4 rfl) ?_
      refine xg hC hK hH flX10_7 hc_h rfl dX10_endorses_94 ?_
      refine lv_iload_n hx hb dX10_endorses_97 rfl (lv_at hl 5 rfl) ?_
      refine lv_bipush (v := 16) hx hb dX10_endorses_98 (by decide) ?_
      refine lv_iadd hx hb dX10_endorses_100 ?_
      refine lv_topi (fun zq94_ e_zq94_ => ?_)
      have h_zq94_ : zq94_.toInt = x.toInt + 16 := by rw [e_zq94_, iAdd (by have := iRg x; have : (16 : Int32).toInt = 16 := rfl; omega) (by have := iRg x; have : (16 : Int32).toInt = 16 := rfl; omega)]; rfl
      refine lv_iload_n hx hb dX10_endorses_101 rfl (lv_at hl 6 rfl) ?_
      refine yist (x := k) hC hK hH hc_al (noT hn_al) (iIn (by omega) (by omega)) dX10_endorses_102 (fun Hq_ lcq_ Mq95_ hc_al hfr hH => ?_)
      have hc_al : Mq95_ al = some (.inl (kA 0, 7506, .inl (upd f (Int32.toNatClampNeg zq94_) k))) := hc_al
      have hc_h : Mq95_ h = some (.inr (8, [.ref al, .ref mt, .ref ii, .int ta, .int fpm, .ref pa, .int sm, .int nx, .int tk, .int pl, .int ln, .long va, .int wr, .ref li])) := (hfr h n_h_al).trans hc_h
      have hF : ∀ q, FrK T q → q ≠ al → Mq95_ q = M q := fun q hq h0 => (hfr q h0).trans (hF q hq h0)
      obtain ⟨gq96_, e_gq96_⟩ : ∃ g : Nat → Int32, g = upd f (Int32.toNatClampNeg zq94_) k := ⟨_, rfl⟩
      rw [← e_gq96_] at hc_al
      have hR_gq96_ : Rng gq96_ := by rw [e_gq96_]; exact hR_f.uX (t := t) (b := b) (xn := xn) (by omega) (by omega) (by omega) (by have := iCl (x := zq94_) (by omega); omega) (by have := iCl (x := zq94_) (by omega); omega) (by have := iCl (x := zq94_) (by omega); omega)
      have hK_gq96_ : Ke f gq96_ := by rw [e_gq96_]; exact hK_f.up (by have := iCl (x := zq94_) (by omega); omega)
      refine lv_aload_n hx hb dX10_endorses_103 rfl (lv_at hl 4 rfl) ?_
      refine xg hC hK hH flX10_7 hc_h rfl dX10_endorses_104 ?_
      refine lv_iload_n hx hb dX10_endorses_107 rfl (lv_at hl 5 rfl) ?_
      refine lv_bipush (v := 17) hx hb dX10_endorses_108 (by decide) ?_
      refine lv_iadd hx hb dX10_endorses_110 ?_
      refine lv_topi (fun zq97_ e_zq97_ => ?_)
      have h_zq97_ : zq97_.toInt = x.toInt + 17 := by rw [e_zq97_, iAdd (by have := iRg x; have : (17 : Int32).toInt = 17 := rfl; omega) (by have := iRg x; have : (17 : Int32).toInt = 17 := rfl; omega)]; rfl
      have Jq99_ : ∀ vq98_ : Int32, W p l e (rmL 2 0 0) s m ([.ref h, .int x, .int k, .int me] : List Value).toArray below meth c Hq_ lcq_ 0 0 (MQ below (va_Qv (fun u => ∃ g : Nat → Int32, (Rng g ∧ Ke f g) ∧ (u.1 al = some (.inl (kA 0, 7506, .inl g))) ∧ u.2 = T ∧ (∀ q, FrK T q → q ≠ al → u.1 q = M q)) (mB D kA M T sz) (mA M T sz)) ([.ref h, .int x, .int k, .int me] : List Value).toArray s 0 0 (mA M T sz)) (F0 m 123 ls [.int vq98_, .int zq97_, .ref al]) := by
        intro vq98_
        refine yist (x := vq98_) hC hK hH hc_al (noT hn_al) (iIn (by omega) (by omega)) dX10_endorses_123 (fun Hq_ lcq_ Mq100_ hc_al hfr hH => ?_)
        have hc_al : Mq100_ al = some (.inl (kA 0, 7506, .inl (upd gq96_ (Int32.toNatClampNeg zq97_) vq98_))) := hc_al
        have hc_h : Mq100_ h = some (.inr (8, [.ref al, .ref mt, .ref ii, .int ta, .int fpm, .ref pa, .int sm, .int nx, .int tk, .int pl, .int ln, .long va, .int wr, .ref li])) := (hfr h n_h_al).trans hc_h
        have hF : ∀ q, FrK T q → q ≠ al → Mq100_ q = M q := fun q hq h0 => (hfr q h0).trans (hF q hq h0)
        obtain ⟨gq101_, e_gq101_⟩ : ∃ g : Nat → Int32, g = upd gq96_ (Int32.toNatClampNeg zq97_) vq98_ := ⟨_, rfl⟩
        rw [← e_gq101_] at hc_al
        have hR_gq101_ : Rng gq101_ := by rw [e_gq101_]; exact hR_gq96_.uX (t := t) (b := b) (xn := xn) (by omega) (by omega) (by omega) (by have := iCl (x := zq97_) (by omega); omega) (by have := iCl (x := zq97_) (by omega); omega) (by have := iCl (x := zq97_) (by omega); omega)
        have hK_gq101_ : Ke f gq101_ := by rw [e_gq101_]; exact hK_gq96_.up (by have := iCl (x := zq97_) (by omega); omega)
        exact ret_v hC hr hlk hK hH (⟨gq101_, ⟨hR_gq101_, hK_gq101_⟩, hc_al, rfl, hF⟩) (Nat.le_of_ble_eq_true rfl) (Nat.le_of_ble_eq_true rfl) dX10_endorses_124
      refine lv_iload hx hb dX10_endorses_111 (lv_at hl 0 rfl) ?_
      refine jif_eq (tgt := 121) hx hb dX10_endorses_113 (by decide) (fun cq102_ => absurd cq102_ (by decide)) (fun cq102_ => ?_)
      refine lv_bipush (v := 13) hx hb dX10_endorses_116 (by decide) ?_
      refine lv_goto (tgt := 123) hx hb dX10_endorses_118 (by decide) ?_
      exact Jq99_ 13
set_option maxHeartbeats 4000000 in
set_option maxRecDepth 100000 in
theorem c_X10_goes {l : Launch} {D : va_G} {kA : Nat → ClassId} {M : mM} {T : mT} {sz : Nat} {h al mt ii pa li : Nat} {ta fpm sm nx tk pl ln wr : Int32} {va : Int64} {f : Nat → Int32} {x : Int32} {xn t b : Nat} {k me : Int32} {kn : Nat} (hc_h : M h = some (.inr (8, [.ref al, .ref mt, .ref ii, .int ta, .int fpm, .ref pa, .int sm, .int nx, .int tk, .int pl, .int ln, .long va, .int wr, .ref li]))) (hn_h : T h = none) (hc_al : M al = some (.inl (kA 0, 7506, .inl f))) (hn_al : T al = none) (ht_mt : T mt = some 11) (ht_pa : T pa = some 13) (ht_li : T li = some 14) (hR_f : Rng f) (hxt : t < 2) (hxb : b < 4) (hxn : xn = 1140 * t + 20 + 280 * b) (hxx : x.toInt = (xn : Int)) (hkn : k.toInt = (kn : Int)) (hk12 : kn ≤ 11) : mCv l yX10_goes cX10_goes 8 3 0 0 D kA M T sz [.ref h, .int x, .int k, .int me] (fun u => ∃ g : Nat → Int32, (Rng g ∧ Ke f g) ∧ (u.1 al = some (.inl (kA 0, 7506, .inl g))) ∧ u.2 = T ∧ (∀ q, FrK T q → q ≠ al → u.1 q = M q)) := by
  unfold mCv
  refine start_W (by decide) (Nat.le_of_ble_eq_true rfl) ?_
  intro p e s m below meth c ls hC hr hlk hnm hK hH hsz hl
  have hx := hC.1
  have hb := hC.2.1
  have hl : lv_has ls 8 [(0, .ref h), (1, .int x), (2, .int k), (3, .int me)] := hl
  have hF : ∀ q, FrK T q → q ≠ al → M q = M q := fun q _ _ => rfl
  have n_h_al : h ≠ al := neM hc_h hc_al (by simp)
  have n_al_h : al ≠ h := neM hc_al hc_h (by simp)
  have hK_f : Ke f f := Ke.rf
  refine lv_iload_n hx hb dX10_goes_0 rfl (lv_at hl 1 rfl) ?_
  refine lv_iload_n hx hb dX10_goes_1 rfl (lv_at hl 2 rfl) ?_
  refine goI hK hH (runS (As := [.int x, .int k]) (rest := []) hC hK hH (c_X10_stepAt (by omega) (by omega)) mlX10_37 ⟨⟨Nat.le_of_ble_eq_true rfl, Nat.le_of_ble_eq_true rfl⟩, Nat.le_of_ble_eq_true rfl, Nat.le_of_ble_eq_true rfl⟩ rfl hl.1 rfl (Nat.le_of_ble_eq_true rfl) dX10_goes_2) (fun rq3_ Mq1_ Tq2_ Hq_ lcq_ hP hz hH => ?_)
  try dsimp only at hP
  obtain ⟨(⟨cq4_, ⟨l_rq3_, g_rq3_⟩⟩), eT, eM⟩ := hP
  have eT := eT.symm; subst eT
  have eM := eM.symm; subst eM
  have cq4_ : rq3_.toInt = x.toInt + 40 + 12 * k.toInt := cq4_
  have hx_rq3_ : rq3_.toInt = ((xn + 40 + 12 * kn : Nat) : Int) := by omega
  refine lv_istore (lv' := [(4, .int rq3_), (0, .ref h), (1, .int x), (2, .int k), (3, .int me)]) hx hb dX10_goes_5 hl (by decide) rfl (fun ls hl => ?_)
  refine lv_aload_n hx hb dX10_goes_7 rfl (lv_at hl 1 rfl) ?_
  refine xg hC hK hH flX10_7 hc_h rfl dX10_goes_8 ?_
  refine lv_iload_n hx hb dX10_goes_11 rfl (lv_at hl 2 rfl) ?_
  refine lv_bipush (v := 16) hx hb dX10_goes_12 (by decide) ?_
  refine lv_iadd hx hb dX10_goes_14 ?_
  refine lv_topi (fun zq5_ e_zq5_ => ?_)
  have h_zq5_ : zq5_.toInt = x.toInt + 16 := by rw [e_zq5_, iAdd (by have := iRg x; have : (16 : Int32).toInt = 16 := rfl; omega) (by have := iRg x; have : (16 : Int32).toInt = 16 := rfl; omega)]; rfl
  refine xild hC hK hH hc_al (iIn (by omega) (by omega)) dX10_goes_15 ?_
  refine lv_topi (fun xq6_ e_xq6_ => ?_)
  have k_xq6_ : xq6_ = f (xn + 16) := by rw [e_xq6_, clE (n := xn + 16) (by omega)]
  have kt_xq6_ : xq6_.toInt = (f (xn + 16)).toInt := by rw [k_xq6_]
  refine lv_iconst (v := -1) hx hb dX10_goes_16 (by decide) ?_
  refine jic_eq (tgt := 21) hx hb dX10_goes_17 (by decide) (fun cq7_ => ?_) (fun cq7_ => ?_)
  · skip
    have cq7_ : xq6_.toInt = (-1) := cq7_
    refine lv_aload_n hx hb dX10_goes_21 rfl (lv_at hl 1 rfl) ?_
    refine xg hC hK hH flX10_7 hc_h rfl dX10_goes_22 ?_
    refine lv_iload hx hb dX10_goes_25 (lv_at hl 0 rfl) ?_
    refine lv_iconst (v := 0) hx hb dX10_goes_27 (by decide) ?_
    refine lv_iadd hx hb dX10_goes_28 ?_
    refine lv_topi (fun zq8_ e_zq8_ => ?_)
    have h_zq8_ : zq8_.toInt = rq3_.toInt + 0 := by rw [e_zq8_, iAdd (by have := iRg rq3_; have : (0 : Int32).toInt = 0 := rfl; omega) (by have := iRg rq3_; have : (0 : Int32).toInt = 0 := rfl; omega)]; rfl
    refine xild hC hK hH hc_al (iIn (by omega) (by omega)) dX10_goes_29 ?_
    refine lv_topi (fun xq9_ e_xq9_ => ?_)
    have k_xq9_ : xq9_ = f (xn + 40 + 12 * kn) := by rw [e_xq9_, clE (n := xn + 40 + 12 * kn) (by omega)]
    have kt_xq9_ : xq9_.toInt = (f (xn + 40 + 12 * kn)).toInt := by rw [k_xq9_]
    refine lv_istore (lv' := [(5, .int xq9_), (4, .int rq3_), (0, .ref h), (1, .int x), (2, .int k), (3, .int me)]) hx hb dX10_goes_30 hl (by decide) rfl (fun ls hl => ?_)
    refine lv_aload_n hx hb dX10_goes_32 rfl (lv_at hl 2 rfl) ?_
    refine xg hC hK hH flX10_7 hc_h rfl dX10_goes_33 ?_
    refine lv_iload hx hb dX10_goes_36 (lv_at hl 1 rfl) ?_
    refine lv_iconst (v := 3) hx hb dX10_goes_38 (by decide) ?_
    refine lv_iadd hx hb dX10_goes_39 ?_
    refine lv_topi (fun zq10_ e_zq10_ => ?_)
    have h_zq10_ : zq10_.toInt = rq3_.toInt + 3 := by rw [e_zq10_, iAdd (by have := iRg rq3_; have : (3 : Int32).toInt = 3 := rfl; omega) (by have := iRg rq3_; have : (3 : Int32).toInt = 3 := rfl; omega)]; rfl
    refine xild hC hK hH hc_al (iIn (by omega) (by omega)) dX10_goes_40 ?_
    refine lv_topi (fun xq11_ e_xq11_ => ?_)
    have k_xq11_ : xq11_ = f (xn + 40 + 12 * kn + 3) := by rw [e_xq11_, clE (n := xn + 40 + 12 * kn + 3) (by omega)]
    have kt_xq11_ : xq11_.toInt = (f (xn + 40 + 12 * kn + 3)).toInt := by rw [k_xq11_]
    have rr_xq11_ : (0 : Int) ≤ (f (xn + (40 + 12 * kn + 3))).toInt ∧ (f (xn + (40 + 12 * kn + 3))).toInt ≤ 7 := hR_f.rO (40 + 12 * kn + 3) (t := t) (b := b) (xn := xn) (by omega) (by omega) (by omega) (by omega) (rgS3 (by omega))
    have l_xq11_ : (0 : Int) ≤ xq11_.toInt := by rw [kt_xq11_, show xn + 40 + 12 * kn + 3 = xn + (40 + 12 * kn + 3) from by omega]; exact rr_xq11_.1
    have g_xq11_ : xq11_.toInt ≤ 7 := by rw [kt_xq11_, show xn + 40 + 12 * kn + 3 = xn + (40 + 12 * kn + 3) from by omega]; exact rr_xq11_.2
    refine lv_istore (lv' := [(6, .int xq11_), (5, .int xq9_), (4, .int rq3_), (0, .ref h), (1, .int x), (2, .int k), (3, .int me)]) hx hb dX10_goes_41 hl (by decide) rfl (fun ls hl => ?_)
    refine lv_iload_n hx hb dX10_goes_43 rfl (lv_at hl 6 rfl) ?_
    refine jif_eq (tgt := 57) hx hb dX10_goes_44 (by decide) (fun cq12_ => ?_) (fun cq12_ => ?_)
    · skip
      have cq12_ : me.toInt = 0 := cq12_
      refine lv_iload hx hb dX10_goes_57 (lv_at hl 1 rfl) ?_
      refine lv_iconst (v := 4) hx hb dX10_goes_59 (by decide) ?_
      refine jic_ne (tgt := 76) hx hb dX10_goes_60 (by decide) (fun cq13_ => ?_) (fun cq13_ => ?_)
      · skip
        have cq13_ : xq9_.toInt ≠ 4 := cq13_
        refine lv_iload hx hb dX10_goes_76 (lv_at hl 1 rfl) ?_
        refine lv_iconst (v := 3) hx hb dX10_goes_78 (by decide) ?_
        refine jic_ne (tgt := 200) hx hb dX10_goes_79 (by decide) (fun cq14_ => ?_) (fun cq14_ => ?_)
        · skip
          have cq14_ : xq9_.toInt ≠ 3 := cq14_
          refine lv_aload_n hx hb dX10_goes_200 rfl (lv_at hl 3 rfl) ?_
          refine lv_iload_n hx hb dX10_goes_201 rfl (lv_at hl 4 rfl) ?_
          refine lv_iload_n hx hb dX10_goes_202 rfl (lv_at hl 5 rfl) ?_
          refine lv_iload_n hx hb dX10_goes_203 rfl (lv_at hl 6 rfl) ?_
          refine goV hK hH (runV (As := [.int x, .int k, .int me]) (rest := []) hC hK hH (c_X10_endorses hc_h hn_h hc_al hn_al ht_mt ht_pa ht_li (by exact hR_f) (by omega) (by omega) (by omega) (by omega) (by omega) (by omega)) mlX10_52 (rcvM hK hH hc_h rfl) ⟨⟨Nat.le_of_ble_eq_true rfl, Nat.le_of_ble_eq_true rfl⟩, Nat.le_of_ble_eq_true rfl, Nat.le_of_ble_eq_true rfl⟩ rfl hl.1 rfl (Nat.le_of_ble_eq_true rfl) dX10_goes_204) (fun Mq15_ Tq16_ Hq_ lcq_ hP hz hH => ?_)
          try dsimp only at hP
          obtain ⟨gq18_, h_gq18_, (hx_al), eT, hfr⟩ := hP
          have eT := eT.symm; subst eT
          have hc_h : Mq15_ h = some (.inr (8, [.ref al, .ref mt, .ref ii, .int ta, .int fpm, .ref pa, .int sm, .int nx, .int tk, .int pl, .int ln, .long va, .int wr, .ref li])) := (hfr h (Or.inl hn_h) n_h_al).trans hc_h
          have hc_al : Mq15_ al = some (.inl (kA 0, 7506, .inl gq18_)) := hx_al
          have hF : ∀ q, FrK T q → q ≠ al → Mq15_ q = M q := fun q hq h0 => (hfr q hq  h0).trans (hF q hq h0)
          have hR_gq18_ : Rng gq18_ := h_gq18_.1
          have hK_gq18_ : Ke f gq18_ := hK_f.tr h_gq18_.2
          exact ret_v hC hr hlk hK hH (⟨gq18_, ⟨hR_gq18_, hK_gq18_⟩, hc_al, rfl, hF⟩) (Nat.le_of_ble_eq_true rfl) (Nat.le_of_ble_eq_true rfl) dX10_goes_207
        · skip
          have cq14_ : xq9_.toInt = 3 := cq14_
          have Jq20_ : ∀ vq19_ : Int32, (0 : Int) ≤ vq19_.toInt → vq19_.toInt ≤ 1 → W p l e (rmL 3 0 0) s m ([.ref h, .int x, .int k, .int me] : List Value).toArray below meth c Hq_ lcq_ 0 0 (MQ below (va_Qv (fun u => ∃ g : Nat → Int32, (Rng g ∧ Ke f g) ∧ (u.1 al = some (.inl (kA 0, 7506, .inl g))) ∧ u.2 = T ∧ (∀ q, FrK T q → q ≠ al → u.1 q = M q)) (mB D kA M T sz) (mA M T sz)) ([.ref h, .int x, .int k, .int me] : List Value).toArray s 0 0 (mA M T sz)) (F0 m 154 ls [.int vq19_]) := by
            intro vq19_ l_vq19_ g_vq19_
            refine lv_istore (lv' := [(7, .int vq19_), (6, .int xq11_), (5, .int xq9_), (4, .int rq3_), (0, .ref h), (1, .int x), (2, .int k), (3, .int me)]) hx hb dX10_goes_154 hl (by decide) rfl (fun ls hl => ?_)
            refine lv_aload_n hx hb dX10_goes_156 rfl (lv_at hl 4 rfl) ?_
            refine xg hC hK hH flX10_7 hc_h rfl dX10_goes_157 ?_
            refine lv_iload_n hx hb dX10_goes_160 rfl (lv_at hl 5 rfl) ?_
            refine lv_bipush (v := 11) hx hb dX10_goes_161 (by decide) ?_
            refine lv_iadd hx hb dX10_goes_163 ?_
            refine lv_topi (fun zq21_ e_zq21_ => ?_)
            have h_zq21_ : zq21_.toInt = x.toInt + 11 := by rw [e_zq21_, iAdd (by have := iRg x; have : (11 : Int32).toInt = 11 := rfl; omega) (by have := iRg x; have : (11 : Int32).toInt = 11 := rfl; omega)]; rfl
            refine xild hC hK hH hc_al (iIn (by omega) (by omega)) dX10_goes_164 ?_
            refine lv_topi (fun xq22_ e_xq22_ => ?_)
            have k_xq22_ : xq22_ = f (xn + 11) := by rw [e_xq22_, clE (n := xn + 11) (by omega)]
            have kt_xq22_ : xq22_.toInt = (f (xn + 11)).toInt := by rw [k_xq22_]
            refine lv_iconst (v := 1) hx hb dX10_goes_165 (by decide) ?_
            refine jic_ne (tgt := 178) hx hb dX10_goes_166 (by decide) (fun cq23_ => ?_) (fun cq23_ => ?_)
            · skip
              have cq23_ : xq22_.toInt ≠ 1 := cq23_
              refine lv_aload_n hx hb dX10_goes_178 rfl (lv_at hl 4 rfl) ?_
              refine xg hC hK hH flX10_7 hc_h rfl dX10_goes_179 ?_
              refine lv_iload_n hx hb dX10_goes_182 rfl (lv_at hl 5 rfl) ?_
              refine lv_bipush (v := 15) hx hb dX10_goes_183 (by decide) ?_
              refine lv_iadd hx hb dX10_goes_185 ?_
              refine lv_topi (fun zq24_ e_zq24_ => ?_)
              have h_zq24_ : zq24_.toInt = x.toInt + 15 := by rw [e_zq24_, iAdd (by have := iRg x; have : (15 : Int32).toInt = 15 := rfl; omega) (by have := iRg x; have : (15 : Int32).toInt = 15 := rfl; omega)]; rfl
              have Jq26_ : ∀ vq25_ : Int32, W p l e (rmL 3 0 0) s m ([.ref h, .int x, .int k, .int me] : List Value).toArray below meth c Hq_ lcq_ 0 0 (MQ below (va_Qv (fun u => ∃ g : Nat → Int32, (Rng g ∧ Ke f g) ∧ (u.1 al = some (.inl (kA 0, 7506, .inl g))) ∧ u.2 = T ∧ (∀ q, FrK T q → q ≠ al → u.1 q = M q)) (mB D kA M T sz) (mA M T sz)) ([.ref h, .int x, .int k, .int me] : List Value).toArray s 0 0 (mA M T sz)) (F0 m 196 ls [.int vq25_, .int zq24_, .ref al]) := by
                intro vq25_
                refine yist (x := vq25_) hC hK hH hc_al (noT hn_al) (iIn (by omega) (by omega)) dX10_goes_196 (fun Hq_ lcq_ Mq27_ hc_al hfr hH => ?_)
                have hc_al : Mq27_ al = some (.inl (kA 0, 7506, .inl (upd f (Int32.toNatClampNeg zq24_) vq25_))) := hc_al
                have hc_h : Mq27_ h = some (.inr (8, [.ref al, .ref mt, .ref ii, .int ta, .int fpm, .ref pa, .int sm, .int nx, .int tk, .int pl, .int ln, .long va, .int wr, .ref li])) := (hfr h n_h_al).trans hc_h
                have hF : ∀ q, FrK T q → q ≠ al → Mq27_ q = M q := fun q hq h0 => (hfr q h0).trans (hF q hq h0)
                obtain ⟨gq28_, e_gq28_⟩ : ∃ g : Nat → Int32, g = upd f (Int32.toNatClampNeg zq24_) vq25_ := ⟨_, rfl⟩
                rw [← e_gq28_] at hc_al
                have hR_gq28_ : Rng gq28_ := by rw [e_gq28_]; exact hR_f.uX (t := t) (b := b) (xn := xn) (by omega) (by omega) (by omega) (by have := iCl (x := zq24_) (by omega); omega) (by have := iCl (x := zq24_) (by omega); omega) (by have := iCl (x := zq24_) (by omega); omega)
                have hK_gq28_ : Ke f gq28_ := by rw [e_gq28_]; exact hK_f.up (by have := iCl (x := zq24_) (by omega); omega)
                refine lv_goto (tgt := 207) hx hb dX10_goes_197 (by decide) ?_
                exact ret_v hC hr hlk hK hH (⟨gq28_, ⟨hR_gq28_, hK_gq28_⟩, hc_al, rfl, hF⟩) (Nat.le_of_ble_eq_true rfl) (Nat.le_of_ble_eq_true rfl) dX10_goes_207
              refine lv_iload hx hb dX10_goes_186 (lv_at hl 0 rfl) ?_
              refine jif_eq (tgt := 195) hx hb dX10_goes_188 (by decide) (fun cq29_ => ?_) (fun cq29_ => ?_)
              · skip
                have cq29_ : vq19_.toInt = 0 := cq29_
                refine lv_iconst (v := 1) hx hb dX10_goes_195 (by decide) ?_
                exact Jq26_ 1
              · skip
                have cq29_ : vq19_.toInt ≠ 0 := cq29_
                refine lv_iconst (v := 0) hx hb dX10_goes_191 (by decide) ?_
                refine lv_goto (tgt := 196) hx hb dX10_goes_192 (by decide) ?_
                exact Jq26_ 0
            · skip
              have cq23_ : xq22_.toInt = 1 := cq23_
              refine lv_aload_n hx hb dX10_goes_169 rfl (lv_at hl 4 rfl) ?_
              refine lv_iload_n hx hb dX10_goes_170 rfl (lv_at hl 5 rfl) ?_
              refine lv_iload_n hx hb dX10_goes_171 rfl (lv_at hl 6 rfl) ?_
              refine goV hK hH (runV (As := [.int x, .int k]) (rest := []) hC hK hH (c_X10_gets hc_h hn_h hc_al hn_al ht_mt ht_pa ht_li (by exact hR_f) (by omega) (by omega) (by omega) (by omega) (by omega) (by omega)) mlX10_48 (rcvM hK hH hc_h rfl) ⟨⟨Nat.le_of_ble_eq_true rfl, Nat.le_of_ble_eq_true rfl⟩, Nat.le_of_ble_eq_true rfl, Nat.le_of_ble_eq_true rfl⟩ rfl hl.1 rfl (Nat.le_of_ble_eq_true rfl) dX10_goes_172) (fun Mq30_ Tq31_ Hq_ lcq_ hP hz hH => ?_)
              try dsimp only at hP
              obtain ⟨gq33_, h_gq33_, (hx_al), eT, hfr⟩ := hP
              have eT := eT.symm; subst eT
              have hc_h : Mq30_ h = some (.inr (8, [.ref al, .ref mt, .ref ii, .int ta, .int fpm, .ref pa, .int sm, .int nx, .int tk, .int pl, .int ln, .long va, .int wr, .ref li])) := (hfr h (Or.inl hn_h) n_h_al).trans hc_h
              have hc_al : Mq30_ al = some (.inl (kA 0, 7506, .inl gq33_)) := hx_al
              have hF : ∀ q, FrK T q → q ≠ al → Mq30_ q = M q := fun q hq h0 => (hfr q hq  h0).trans (hF q hq h0)
              have hR_gq33_ : Rng gq33_ := h_gq33_.1
              have hK_gq33_ : Ke f gq33_ := hK_f.tr h_gq33_.2
              refine lv_goto (tgt := 197) hx hb dX10_goes_175 (by decide) ?_
              refine lv_goto (tgt := 207) hx hb dX10_goes_197 (by decide) ?_
              exact ret_v hC hr hlk hK hH (⟨gq33_, ⟨hR_gq33_, hK_gq33_⟩, hc_al, rfl, hF⟩) (Nat.le_of_ble_eq_true rfl) (Nat.le_of_ble_eq_true rfl) dX10_goes_207
          refine lv_aload_n hx hb dX10_goes_82 rfl (lv_at hl 3 rfl) ?_
          refine xg hC hK hH flX10_7 hc_h rfl dX10_goes_83 ?_
          refine lv_iload_n hx hb dX10_goes_86 rfl (lv_at hl 4 rfl) ?_
          refine lv_bipush (v := 11) hx hb dX10_goes_87 (by decide) ?_
          refine lv_iadd hx hb dX10_goes_89 ?_
          refine lv_topi (fun zq34_ e_zq34_ => ?_)
          have h_zq34_ : zq34_.toInt = x.toInt + 11 := by rw [e_zq34_, iAdd (by have := iRg x; have : (11 : Int32).toInt = 11 := rfl; omega) (by have := iRg x; have : (11 : Int32).toInt = 11 := rfl; omega)]; rfl
          refine xild hC hK hH hc_al (iIn (by omega) (by omega)) dX10_goes_90 ?_
          refine lv_topi (fun xq35_ e_xq35_ => ?_)
          have k_xq35_ : xq35_ = f (xn + 11) := by rw [e_xq35_, clE (n := xn + 11) (by omega)]
          have kt_xq35_ : xq35_.toInt = (f (xn + 11)).toInt := by rw [k_xq35_]
          refine lv_iconst (v := 2) hx hb dX10_goes_91 (by decide) ?_
          refine jic_ne (tgt := 109) hx hb dX10_goes_92 (by decide) (fun cq36_ => ?_) (fun cq36_ => ?_)
          · skip
            have cq36_ : xq35_.toInt ≠ 2 := cq36_
            refine lv_aload_n hx hb dX10_goes_109 rfl (lv_at hl 3 rfl) ?_
            refine xg hC hK hH flX10_7 hc_h rfl dX10_goes_110 ?_
            refine lv_iload_n hx hb dX10_goes_113 rfl (lv_at hl 4 rfl) ?_
            refine lv_bipush (v := 11) hx hb dX10_goes_114 (by decide) ?_
            refine lv_iadd hx hb dX10_goes_116 ?_
            refine lv_cst (v := zq34_) e_zq34_.symm ?_
            refine xild hC hK hH hc_al (iIn (by omega) (by omega)) dX10_goes_117 ?_
            refine lv_topi (fun xq37_ e_xq37_ => ?_)
            have k_xq37_ : xq37_ = f (xn + 11) := by rw [e_xq37_, clE (n := xn + 11) (by omega)]
            have kt_xq37_ : xq37_.toInt = (f (xn + 11)).toInt := by rw [k_xq37_]
            refine jif_ne (tgt := 153) hx hb dX10_goes_118 (by decide) (fun cq38_ => ?_) (fun cq38_ => ?_)
            · skip
              have cq38_ : xq37_.toInt ≠ 0 := cq38_
              refine lv_iconst (v := 0) hx hb dX10_goes_153 (by decide) ?_
              exact Jq20_ 0 (by decide) (by decide)
            · skip
              have cq38_ : xq37_.toInt = 0 := cq38_
              refine lv_aload_n hx hb dX10_goes_121 rfl (lv_at hl 3 rfl) ?_
              refine xg hC hK hH flX10_7 hc_h rfl dX10_goes_122 ?_
              refine lv_iload_n hx hb dX10_goes_125 rfl (lv_at hl 4 rfl) ?_
              refine lv_bipush (v := 12) hx hb dX10_goes_126 (by decide) ?_
              refine lv_iadd hx hb dX10_goes_128 ?_
              refine lv_topi (fun zq39_ e_zq39_ => ?_)
              have h_zq39_ : zq39_.toInt = x.toInt + 12 := by rw [e_zq39_, iAdd (by have := iRg x; have : (12 : Int32).toInt = 12 := rfl; omega) (by have := iRg x; have : (12 : Int32).toInt = 12 := rfl; omega)]; rfl
              refine xild hC hK hH hc_al (iIn (by omega) (by omega)) dX10_goes_129 ?_
              refine lv_topi (fun xq40_ e_xq40_ => ?_)
              have k_xq40_ : xq40_ = f (xn + 12) := by rw [e_xq40_, clE (n := xn + 12) (by omega)]
              have kt_xq40_ : xq40_.toInt = (f (xn + 12)).toInt := by rw [k_xq40_]
              refine lv_iload hx hb dX10_goes_130 (lv_at hl 0 rfl) ?_
              refine jic_ne (tgt := 153) hx hb dX10_goes_132 (by decide) (fun cq41_ => ?_) (fun cq41_ => ?_)
              · skip
                have cq41_ : xq40_.toInt ≠ xq11_.toInt := cq41_
                refine lv_iconst (v := 0) hx hb dX10_goes_153 (by decide) ?_
                exact Jq20_ 0 (by decide) (by decide)
              · skip
                have cq41_ : xq40_.toInt = xq11_.toInt := cq41_
                refine lv_aload_n hx hb dX10_goes_135 rfl (lv_at hl 3 rfl) ?_
                refine xg hC hK hH flX10_7 hc_h rfl dX10_goes_136 ?_
                refine lv_iload_n hx hb dX10_goes_139 rfl (lv_at hl 4 rfl) ?_
                refine lv_bipush (v := 13) hx hb dX10_goes_140 (by decide) ?_
                refine lv_iadd hx hb dX10_goes_142 ?_
                refine lv_topi (fun zq42_ e_zq42_ => ?_)
                have h_zq42_ : zq42_.toInt = x.toInt + 13 := by rw [e_zq42_, iAdd (by have := iRg x; have : (13 : Int32).toInt = 13 := rfl; omega) (by have := iRg x; have : (13 : Int32).toInt = 13 := rfl; omega)]; rfl
                refine xild hC hK hH hc_al (iIn (by omega) (by omega)) dX10_goes_143 ?_
                refine lv_topi (fun xq43_ e_xq43_ => ?_)
                have k_xq43_ : xq43_ = f (xn + 13) := by rw [e_xq43_, clE (n := xn + 13) (by omega)]
                have kt_xq43_ : xq43_.toInt = (f (xn + 13)).toInt := by rw [k_xq43_]
                refine lv_iload hx hb dX10_goes_144 (lv_at hl 0 rfl) ?_
                refine jic_ne (tgt := 153) hx hb dX10_goes_146 (by decide) (fun cq44_ => ?_) (fun cq44_ => ?_)
                · skip
                  have cq44_ : xq43_.toInt ≠ xq11_.toInt := cq44_
                  refine lv_iconst (v := 0) hx hb dX10_goes_153 (by decide) ?_
                  exact Jq20_ 0 (by decide) (by decide)
                · skip
                  have cq44_ : xq43_.toInt = xq11_.toInt := cq44_
                  refine lv_iconst (v := 1) hx hb dX10_goes_149 (by decide) ?_
                  refine lv_goto (tgt := 154) hx hb dX10_goes_150 (by decide) ?_
                  exact Jq20_ 1 (by decide) (by decide)
          · skip
            have cq36_ : xq35_.toInt = 2 := cq36_
            refine lv_aload_n hx hb dX10_goes_95 rfl (lv_at hl 3 rfl) ?_
            refine xg hC hK hH flX10_7 hc_h rfl dX10_goes_96 ?_
            refine lv_iload_n hx hb dX10_goes_99 rfl (lv_at hl 4 rfl) ?_
            refine lv_bipush (v := 12) hx hb dX10_goes_100 (by decide) ?_
            refine lv_iadd hx hb dX10_goes_102 ?_
            refine lv_topi (fun zq45_ e_zq45_ => ?_)
            have h_zq45_ : zq45_.toInt = x.toInt + 12 := by rw [e_zq45_, iAdd (by have := iRg x; have : (12 : Int32).toInt = 12 := rfl; omega) (by have := iRg x; have : (12 : Int32).toInt = 12 := rfl; omega)]; rfl
            refine xild hC hK hH hc_al (iIn (by omega) (by omega)) dX10_goes_103 ?_
            refine lv_topi (fun xq46_ e_xq46_ => ?_)
            have k_xq46_ : xq46_ = f (xn + 12) := by rw [e_xq46_, clE (n := xn + 12) (by omega)]
            have kt_xq46_ : xq46_.toInt = (f (xn + 12)).toInt := by rw [k_xq46_]
            refine lv_iload hx hb dX10_goes_104 (lv_at hl 0 rfl) ?_
            refine jic_eq (tgt := 149) hx hb dX10_goes_106 (by decide) (fun cq47_ => ?_) (fun cq47_ => ?_)
            · skip
              have cq47_ : xq46_.toInt = xq11_.toInt := cq47_
              refine lv_iconst (v := 1) hx hb dX10_goes_149 (by decide) ?_
              refine lv_goto (tgt := 154) hx hb dX10_goes_150 (by decide) ?_
              exact Jq20_ 1 (by decide) (by decide)
            · skip
              have cq47_ : xq46_.toInt ≠ xq11_.toInt := cq47_
              refine lv_aload_n hx hb dX10_goes_109 rfl (lv_at hl 3 rfl) ?_
              refine xg hC hK hH flX10_7 hc_h rfl dX10_goes_110 ?_
              refine lv_iload_n hx hb dX10_goes_113 rfl (lv_at hl 4 rfl) ?_
              refine lv_bipush (v := 11) hx hb dX10_goes_114 (by decide) ?_
              refine lv_iadd hx hb dX10_goes_116 ?_
              refine lv_cst (v := zq34_) e_zq34_.symm ?_
              refine xild hC hK hH hc_al (iIn (by omega) (by omega)) dX10_goes_117 ?_
              refine lv_topi (fun xq48_ e_xq48_ => ?_)
              have k_xq48_ : xq48_ = f (xn + 11) := by rw [e_xq48_, clE (n := xn + 11) (by omega)]
              have kt_xq48_ : xq48_.toInt = (f (xn + 11)).toInt := by rw [k_xq48_]
              refine jif_ne (tgt := 153) hx hb dX10_goes_118 (by decide) (fun cq49_ => ?_) (fun cq49_ => ?_)
              · skip
                have cq49_ : xq48_.toInt ≠ 0 := cq49_
                refine lv_iconst (v := 0) hx hb dX10_goes_153 (by decide) ?_
                exact Jq20_ 0 (by decide) (by decide)
              · skip
                have cq49_ : xq48_.toInt = 0 := cq49_
                refine lv_aload_n hx hb dX10_goes_121 rfl (lv_at hl 3 rfl) ?_
                refine xg hC hK hH flX10_7 hc_h rfl dX10_goes_122 ?_
                refine lv_iload_n hx hb dX10_goes_125 rfl (lv_at hl 4 rfl) ?_
                refine lv_bipush (v := 12) hx hb dX10_goes_126 (by decide) ?_
                refine lv_iadd hx hb dX10_goes_128 ?_
                refine lv_cst (v := zq45_) e_zq45_.symm ?_
                refine xild hC hK hH hc_al (iIn (by omega) (by omega)) dX10_goes_129 ?_
                refine lv_topi (fun xq50_ e_xq50_ => ?_)
                have k_xq50_ : xq50_ = f (xn + 12) := by rw [e_xq50_, clE (n := xn + 12) (by omega)]
                have kt_xq50_ : xq50_.toInt = (f (xn + 12)).toInt := by rw [k_xq50_]
                refine lv_iload hx hb dX10_goes_130 (lv_at hl 0 rfl) ?_
                refine jic_ne (tgt := 153) hx hb dX10_goes_132 (by decide) (fun cq51_ => ?_) (fun cq51_ => ?_)
                · skip
                  have cq51_ : xq50_.toInt ≠ xq11_.toInt := cq51_
                  refine lv_iconst (v := 0) hx hb dX10_goes_153 (by decide) ?_
                  exact Jq20_ 0 (by decide) (by decide)
                · skip
                  have cq51_ : xq50_.toInt = xq11_.toInt := cq51_
                  refine lv_aload_n hx hb dX10_goes_135 rfl (lv_at hl 3 rfl) ?_
                  refine xg hC hK hH flX10_7 hc_h rfl dX10_goes_136 ?_
                  refine lv_iload_n hx hb dX10_goes_139 rfl (lv_at hl 4 rfl) ?_
                  refine lv_bipush (v := 13) hx hb dX10_goes_140 (by decide) ?_
                  refine lv_iadd hx hb dX10_goes_142 ?_
                  refine lv_topi (fun zq52_ e_zq52_ => ?_)
                  have h_zq52_ : zq52_.toInt = x.toInt + 13 := by rw [e_zq52_, iAdd (by have := iRg x; have : (13 : Int32).toInt = 13 := rfl; omega) (by have := iRg x; have : (13 : Int32).toInt = 13 := rfl; omega)]; rfl
                  refine xild hC hK hH hc_al (iIn (by omega) (by omega)) dX10_goes_143 ?_
                  refine lv_topi (fun xq53_ e_xq53_ => ?_)
                  have k_xq53_ : xq53_ = f (xn + 13) := by rw [e_xq53_, clE (n := xn + 13) (by omega)]
                  have kt_xq53_ : xq53_.toInt = (f (xn + 13)).toInt := by rw [k_xq53_]
                  refine lv_iload hx hb dX10_goes_144 (lv_at hl 0 rfl) ?_
                  refine jic_ne (tgt := 153) hx hb dX10_goes_146 (by decide) (fun cq54_ => ?_) (fun cq54_ => ?_)
                  · skip
                    have cq54_ : xq53_.toInt ≠ xq11_.toInt := cq54_
                    refine lv_iconst (v := 0) hx hb dX10_goes_153 (by decide) ?_
                    exact Jq20_ 0 (by decide) (by decide)
                  · skip
                    have cq54_ : xq53_.toInt = xq11_.toInt := cq54_
                    refine lv_iconst (v := 1) hx hb dX10_goes_149 (by decide) ?_
                    refine lv_goto (tgt := 154) hx hb dX10_goes_150 (by decide) ?_
                    exact Jq20_ 1 (by decide) (by decide)
      · skip
        have cq13_ : xq9_.toInt = 4 := cq13_
        refine lv_aload_n hx hb dX10_goes_63 rfl (lv_at hl 3 rfl) ?_
        refine xg hC hK hH flX10_7 hc_h rfl dX10_goes_64 ?_
        refine lv_iload_n hx hb dX10_goes_67 rfl (lv_at hl 4 rfl) ?_
        refine lv_bipush (v := 15) hx hb dX10_goes_68 (by decide) ?_
        refine lv_iadd hx hb dX10_goes_70 ?_
        refine lv_topi (fun zq55_ e_zq55_ => ?_)
        have h_zq55_ : zq55_.toInt = x.toInt + 15 := by rw [e_zq55_, iAdd (by have := iRg x; have : (15 : Int32).toInt = 15 := rfl; omega) (by have := iRg x; have : (15 : Int32).toInt = 15 := rfl; omega)]; rfl
        refine lv_iconst (v := 1) hx hb dX10_goes_71 (by decide) ?_
        refine yist (x := 1) hC hK hH hc_al (noT hn_al) (iIn (by omega) (by omega)) dX10_goes_72 (fun Hq_ lcq_ Mq56_ hc_al hfr hH => ?_)
        have hc_al : Mq56_ al = some (.inl (kA 0, 7506, .inl (upd f (Int32.toNatClampNeg zq55_) 1))) := hc_al
        have hc_h : Mq56_ h = some (.inr (8, [.ref al, .ref mt, .ref ii, .int ta, .int fpm, .ref pa, .int sm, .int nx, .int tk, .int pl, .int ln, .long va, .int wr, .ref li])) := (hfr h n_h_al).trans hc_h
        have hF : ∀ q, FrK T q → q ≠ al → Mq56_ q = M q := fun q hq h0 => (hfr q h0).trans (hF q hq h0)
        obtain ⟨gq57_, e_gq57_⟩ : ∃ g : Nat → Int32, g = upd f (Int32.toNatClampNeg zq55_) 1 := ⟨_, rfl⟩
        rw [← e_gq57_] at hc_al
        have hR_gq57_ : Rng gq57_ := by rw [e_gq57_]; exact hR_f.uX (t := t) (b := b) (xn := xn) (by omega) (by omega) (by omega) (by have := iCl (x := zq55_) (by omega); omega) (by have := iCl (x := zq55_) (by omega); omega) (by have := iCl (x := zq55_) (by omega); omega)
        have hK_gq57_ : Ke f gq57_ := by rw [e_gq57_]; exact hK_f.up (by have := iCl (x := zq55_) (by omega); omega)
        refine lv_goto (tgt := 207) hx hb dX10_goes_73 (by decide) ?_
        exact ret_v hC hr hlk hK hH (⟨gq57_, ⟨hR_gq57_, hK_gq57_⟩, hc_al, rfl, hF⟩) (Nat.le_of_ble_eq_true rfl) (Nat.le_of_ble_eq_true rfl) dX10_goes_207
    · skip
      have cq12_ : me.toInt ≠ 0 := cq12_
      refine lv_aload_n hx hb dX10_goes_47 rfl (lv_at hl 3 rfl) ?_
      refine xg hC hK hH flX10_7 hc_h rfl dX10_goes_48 ?_
      refine lv_iload_n hx hb dX10_goes_51 rfl (lv_at hl 4 rfl) ?_
      refine lv_bipush (v := 15) hx hb dX10_goes_52 (by decide) ?_
      refine lv_iadd hx hb dX10_goes_54 ?_
      refine lv_topi (fun zq58_ e_zq58_ => ?_)
      have h_zq58_ : zq58_.toInt = x.toInt + 15 := by rw [e_zq58_, iAdd (by have := iRg x; have : (15 : Int32).toInt = 15 := rfl; omega) (by have := iRg x; have : (15 : Int32).toInt = 15 := rfl; omega)]; rfl
      refine lv_iconst (v := 0) hx hb dX10_goes_55 (by decide) ?_
      refine yist (x := 0) hC hK hH hc_al (noT hn_al) (iIn (by omega) (by omega)) dX10_goes_56 (fun Hq_ lcq_ Mq59_ hc_al hfr hH => ?_)
      have hc_al : Mq59_ al = some (.inl (kA 0, 7506, .inl (upd f (Int32.toNatClampNeg zq58_) 0))) := hc_al
      have hc_h : Mq59_ h = some (.inr (8, [.ref al, .ref mt, .ref ii, .int ta, .int fpm, .ref pa, .int sm, .int nx, .int tk, .int pl, .int ln, .long va, .int wr, .ref li])) := (hfr h n_h_al).trans hc_h
      have hF : ∀ q, FrK T q → q ≠ al → Mq59_ q = M q := fun q hq h0 => (hfr q h0).trans (hF q hq h0)
      obtain ⟨gq60_, e_gq60_⟩ : ∃ g : Nat → Int32, g = upd f (Int32.toNatClampNeg zq58_) 0 := ⟨_, rfl⟩
      rw [← e_gq60_] at hc_al
      have hR_gq60_ : Rng gq60_ := by rw [e_gq60_]; exact hR_f.u0
      have hK_gq60_ : Ke f gq60_ := by rw [e_gq60_]; exact hK_f.up (by have := iCl (x := zq58_) (by omega); omega)
      refine lv_iload hx hb dX10_goes_57 (lv_at hl 1 rfl) ?_
      refine lv_iconst (v := 4) hx hb dX10_goes_59 (by decide) ?_
      refine jic_ne (tgt := 76) hx hb dX10_goes_60 (by decide) (fun cq61_ => ?_) (fun cq61_ => ?_)
      · skip
        have cq61_ : xq9_.toInt ≠ 4 := cq61_
        refine lv_iload hx hb dX10_goes_76 (lv_at hl 1 rfl) ?_
        refine lv_iconst (v := 3) hx hb dX10_goes_78 (by decide) ?_
        refine jic_ne (tgt := 200) hx hb dX10_goes_79 (by decide) (fun cq62_ => ?_) (fun cq62_ => ?_)
        · skip
          have cq62_ : xq9_.toInt ≠ 3 := cq62_
          refine lv_aload_n hx hb dX10_goes_200 rfl (lv_at hl 3 rfl) ?_
          refine lv_iload_n hx hb dX10_goes_201 rfl (lv_at hl 4 rfl) ?_
          refine lv_iload_n hx hb dX10_goes_202 rfl (lv_at hl 5 rfl) ?_
          refine lv_iload_n hx hb dX10_goes_203 rfl (lv_at hl 6 rfl) ?_
          refine goV hK hH (runV (As := [.int x, .int k, .int me]) (rest := []) hC hK hH (c_X10_endorses hc_h hn_h hc_al hn_al ht_mt ht_pa ht_li (by exact hR_gq60_) (by omega) (by omega) (by omega) (by omega) (by omega) (by omega)) mlX10_52 (rcvM hK hH hc_h rfl) ⟨⟨Nat.le_of_ble_eq_true rfl, Nat.le_of_ble_eq_true rfl⟩, Nat.le_of_ble_eq_true rfl, Nat.le_of_ble_eq_true rfl⟩ rfl hl.1 rfl (Nat.le_of_ble_eq_true rfl) dX10_goes_204) (fun Mq63_ Tq64_ Hq_ lcq_ hP hz hH => ?_)
          try dsimp only at hP
          obtain ⟨gq66_, h_gq66_, (hx_al), eT, hfr⟩ := hP
          have eT := eT.symm; subst eT
          have hc_h : Mq63_ h = some (.inr (8, [.ref al, .ref mt, .ref ii, .int ta, .int fpm, .ref pa, .int sm, .int nx, .int tk, .int pl, .int ln, .long va, .int wr, .ref li])) := (hfr h (Or.inl hn_h) n_h_al).trans hc_h
          have hc_al : Mq63_ al = some (.inl (kA 0, 7506, .inl gq66_)) := hx_al
          have hF : ∀ q, FrK T q → q ≠ al → Mq63_ q = M q := fun q hq h0 => (hfr q hq  h0).trans (hF q hq h0)
          have hR_gq66_ : Rng gq66_ := h_gq66_.1
          have hK_gq66_ : Ke f gq66_ := hK_gq60_.tr h_gq66_.2
          exact ret_v hC hr hlk hK hH (⟨gq66_, ⟨hR_gq66_, hK_gq66_⟩, hc_al, rfl, hF⟩) (Nat.le_of_ble_eq_true rfl) (Nat.le_of_ble_eq_true rfl) dX10_goes_207
        · skip
          have cq62_ : xq9_.toInt = 3 := cq62_
          have Jq68_ : ∀ vq67_ : Int32, (0 : Int) ≤ vq67_.toInt → vq67_.toInt ≤ 1 → W p l e (rmL 3 0 0) s m ([.ref h, .int x, .int k, .int me] : List Value).toArray below meth c Hq_ lcq_ 0 0 (MQ below (va_Qv (fun u => ∃ g : Nat → Int32, (Rng g ∧ Ke f g) ∧ (u.1 al = some (.inl (kA 0, 7506, .inl g))) ∧ u.2 = T ∧ (∀ q, FrK T q → q ≠ al → u.1 q = M q)) (mB D kA M T sz) (mA M T sz)) ([.ref h, .int x, .int k, .int me] : List Value).toArray s 0 0 (mA M T sz)) (F0 m 154 ls [.int vq67_]) := by
            intro vq67_ l_vq67_ g_vq67_
            refine lv_istore (lv' := [(7, .int vq67_), (6, .int xq11_), (5, .int xq9_), (4, .int rq3_), (0, .ref h), (1, .int x), (2, .int k), (3, .int me)]) hx hb dX10_goes_154 hl (by decide) rfl (fun ls hl => ?_)
            refine lv_aload_n hx hb dX10_goes_156 rfl (lv_at hl 4 rfl) ?_
            refine xg hC hK hH flX10_7 hc_h rfl dX10_goes_157 ?_
            refine lv_iload_n hx hb dX10_goes_160 rfl (lv_at hl 5 rfl) ?_
            refine lv_bipush (v := 11) hx hb dX10_goes_161 (by decide) ?_
            refine lv_iadd hx hb dX10_goes_163 ?_
            refine lv_topi (fun zq69_ e_zq69_ => ?_)
            have h_zq69_ : zq69_.toInt = x.toInt + 11 := by rw [e_zq69_, iAdd (by have := iRg x; have : (11 : Int32).toInt = 11 := rfl; omega) (by have := iRg x; have : (11 : Int32).toInt = 11 := rfl; omega)]; rfl
            refine xild hC hK hH hc_al (iIn (by omega) (by omega)) dX10_goes_164 ?_
            refine lv_topi (fun xq70_ e_xq70_ => ?_)
            have k_xq70_ : xq70_ = gq60_ (xn + 11) := by rw [e_xq70_, clE (n := xn + 11) (by omega)]
            have kt_xq70_ : xq70_.toInt = (gq60_ (xn + 11)).toInt := by rw [k_xq70_]
            refine lv_iconst (v := 1) hx hb dX10_goes_165 (by decide) ?_
            refine jic_ne (tgt := 178) hx hb dX10_goes_166 (by decide) (fun cq71_ => ?_) (fun cq71_ => ?_)
            · skip
              have cq71_ : xq70_.toInt ≠ 1 := cq71_
              refine lv_aload_n hx hb dX10_goes_178 rfl (lv_at hl 4 rfl) ?_
              refine xg hC hK hH flX10_7 hc_h rfl dX10_goes_179 ?_
              refine lv_iload_n hx hb dX10_goes_182 rfl (lv_at hl 5 rfl) ?_
              refine lv_bipush (v := 15) hx hb dX10_goes_183 (by decide) ?_
              refine lv_iadd hx hb dX10_goes_185 ?_
              refine lv_cst (v := zq58_) e_zq58_.symm ?_
              have Jq73_ : ∀ vq72_ : Int32, W p l e (rmL 3 0 0) s m ([.ref h, .int x, .int k, .int me] : List Value).toArray below meth c Hq_ lcq_ 0 0 (MQ below (va_Qv (fun u => ∃ g : Nat → Int32, (Rng g ∧ Ke f g) ∧ (u.1 al = some (.inl (kA 0, 7506, .inl g))) ∧ u.2 = T ∧ (∀ q, FrK T q → q ≠ al → u.1 q = M q)) (mB D kA M T sz) (mA M T sz)) ([.ref h, .int x, .int k, .int me] : List Value).toArray s 0 0 (mA M T sz)) (F0 m 196 ls [.int vq72_, .int zq58_, .ref al]) := by
                intro vq72_
                refine yist (x := vq72_) hC hK hH hc_al (noT hn_al) (iIn (by omega) (by omega)) dX10_goes_196 (fun Hq_ lcq_ Mq74_ hc_al hfr hH => ?_)
                have hc_al : Mq74_ al = some (.inl (kA 0, 7506, .inl (upd gq60_ (Int32.toNatClampNeg zq58_) vq72_))) := hc_al
                have hc_h : Mq74_ h = some (.inr (8, [.ref al, .ref mt, .ref ii, .int ta, .int fpm, .ref pa, .int sm, .int nx, .int tk, .int pl, .int ln, .long va, .int wr, .ref li])) := (hfr h n_h_al).trans hc_h
                have hF : ∀ q, FrK T q → q ≠ al → Mq74_ q = M q := fun q hq h0 => (hfr q h0).trans (hF q hq h0)
                obtain ⟨gq75_, e_gq75_⟩ : ∃ g : Nat → Int32, g = upd gq60_ (Int32.toNatClampNeg zq58_) vq72_ := ⟨_, rfl⟩
                rw [← e_gq75_] at hc_al
                have hR_gq75_ : Rng gq75_ := by rw [e_gq75_]; exact hR_gq60_.uX (t := t) (b := b) (xn := xn) (by omega) (by omega) (by omega) (by have := iCl (x := zq58_) (by omega); omega) (by have := iCl (x := zq58_) (by omega); omega) (by have := iCl (x := zq58_) (by omega); omega)
                have hK_gq75_ : Ke f gq75_ := by rw [e_gq75_]; exact hK_gq60_.up (by have := iCl (x := zq58_) (by omega); omega)
                refine lv_goto (tgt := 207) hx hb dX10_goes_197 (by decide) ?_
                exact ret_v hC hr hlk hK hH (⟨gq75_, ⟨hR_gq75_, hK_gq75_⟩, hc_al, rfl, hF⟩) (Nat.le_of_ble_eq_true rfl) (Nat.le_of_ble_eq_true rfl) dX10_goes_207
              refine lv_iload hx hb dX10_goes_186 (lv_at hl 0 rfl) ?_
              refine jif_eq (tgt := 195) hx hb dX10_goes_188 (by decide) (fun cq76_ => ?_) (fun cq76_ => ?_)
              · skip
                have cq76_ : vq67_.toInt = 0 := cq76_
                refine lv_iconst (v := 1) hx hb dX10_goes_195 (by decide) ?_
                exact Jq73_ 1
              · skip
                have cq76_ : vq67_.toInt ≠ 0 := cq76_
                refine lv_iconst (v := 0) hx hb dX10_goes_191 (by decide) ?_
                refine lv_goto (tgt := 196) hx hb dX10_goes_192 (by decide) ?_
                exact Jq73_ 0
            · skip
              have cq71_ : xq70_.toInt = 1 := cq71_
              refine lv_aload_n hx hb dX10_goes_169 rfl (lv_at hl 4 rfl) ?_
              refine lv_iload_n hx hb dX10_goes_170 rfl (lv_at hl 5 rfl) ?_
              refine lv_iload_n hx hb dX10_goes_171 rfl (lv_at hl 6 rfl) ?_
              refine goV hK hH (runV (As := [.int x, .int k]) (rest := []) hC hK hH (c_X10_gets hc_h hn_h hc_al hn_al ht_mt ht_pa ht_li (by exact hR_gq60_) (by omega) (by omega) (by omega) (by omega) (by omega) (by omega)) mlX10_48 (rcvM hK hH hc_h rfl) ⟨⟨Nat.le_of_ble_eq_true rfl, Nat.le_of_ble_eq_true rfl⟩, Nat.le_of_ble_eq_true rfl, Nat.le_of_ble_eq_true rfl⟩ rfl hl.1 rfl (Nat.le_of_ble_eq_true rfl) dX10_goes_172) (fun Mq77_ Tq78_ Hq_ lcq_ hP hz hH => ?_)
              try dsimp only at hP
              obtain ⟨gq80_, h_gq80_, (hx_al), eT, hfr⟩ := hP
              have eT := eT.symm; subst eT
              have hc_h : Mq77_ h = some (.inr (8, [.ref al, .ref mt, .ref ii, .int ta, .int fpm, .ref pa, .int sm, .int nx, .int tk, .int pl, .int ln, .long va, .int wr, .ref li])) := (hfr h (Or.inl hn_h) n_h_al).trans hc_h
              have hc_al : Mq77_ al = some (.inl (kA 0, 7506, .inl gq80_)) := hx_al
              have hF : ∀ q, FrK T q → q ≠ al → Mq77_ q = M q := fun q hq h0 => (hfr q hq  h0).trans (hF q hq h0)
              have hR_gq80_ : Rng gq80_ := h_gq80_.1
              have hK_gq80_ : Ke f gq80_ := hK_gq60_.tr h_gq80_.2
              refine lv_goto (tgt := 197) hx hb dX10_goes_175 (by decide) ?_
              refine lv_goto (tgt := 207) hx hb dX10_goes_197 (by decide) ?_
              exact ret_v hC hr hlk hK hH (⟨gq80_, ⟨hR_gq80_, hK_gq80_⟩, hc_al, rfl, hF⟩) (Nat.le_of_ble_eq_true rfl) (Nat.le_of_ble_eq_true rfl) dX10_goes_207
          refine lv_aload_n hx hb dX10_goes_82 rfl (lv_at hl 3 rfl) ?_
          refine xg hC hK hH flX10_7 hc_h rfl dX10_goes_83 ?_
          refine lv_iload_n hx hb dX10_goes_86 rfl (lv_at hl 4 rfl) ?_
          refine lv_bipush (v := 11) hx hb dX10_goes_87 (by decide) ?_
          refine lv_iadd hx hb dX10_goes_89 ?_
          refine lv_topi (fun zq81_ e_zq81_ => ?_)
          have h_zq81_ : zq81_.toInt = x.toInt + 11 := by rw [e_zq81_, iAdd (by have := iRg x; have : (11 : Int32).toInt = 11 := rfl; omega) (by have := iRg x; have : (11 : Int32).toInt = 11 := rfl; omega)]; rfl
          refine xild hC hK hH hc_al (iIn (by omega) (by omega)) dX10_goes_90 ?_
          refine lv_topi (fun xq82_ e_xq82_ => ?_)
          have k_xq82_ : xq82_ = gq60_ (xn + 11) := by rw [e_xq82_, clE (n := xn + 11) (by omega)]
          have kt_xq82_ : xq82_.toInt = (gq60_ (xn + 11)).toInt := by rw [k_xq82_]
          refine lv_iconst (v := 2) hx hb dX10_goes_91 (by decide) ?_
          refine jic_ne (tgt := 109) hx hb dX10_goes_92 (by decide) (fun cq83_ => ?_) (fun cq83_ => ?_)
          · skip
            have cq83_ : xq82_.toInt ≠ 2 := cq83_
            refine lv_aload_n hx hb dX10_goes_109 rfl (lv_at hl 3 rfl) ?_
            refine xg hC hK hH flX10_7 hc_h rfl dX10_goes_110 ?_
            refine lv_iload_n hx hb dX10_goes_113 rfl (lv_at hl 4 rfl) ?_
            refine lv_bipush (v := 11) hx hb dX10_goes_114 (by decide) ?_
            refine lv_iadd hx hb dX10_goes_116 ?_
            refine lv_cst (v := zq81_) e_zq81_.symm ?_
            refine xild hC hK hH hc_al (iIn (by omega) (by omega)) dX10_goes_117 ?_
            refine lv_topi (fun xq84_ e_xq84_ => ?_)
            have k_xq84_ : xq84_ = gq60_ (xn + 11) := by rw [e_xq84_, clE (n := xn + 11) (by omega)]
            have kt_xq84_ : xq84_.toInt = (gq60_ (xn + 11)).toInt := by rw [k_xq84_]
            refine jif_ne (tgt := 153) hx hb dX10_goes_118 (by decide) (fun cq85_ => ?_) (fun cq85_ => ?_)
            · skip
              have cq85_ : xq84_.toInt ≠ 0 := cq85_
              refine lv_iconst (v := 0) hx hb dX10_goes_153 (by decide) ?_
              exact Jq68_ 0 (by decide) (by decide)
            · skip
              have cq85_ : xq84_.toInt = 0 := cq85_
              refine lv_aload_n hx hb dX10_goes_121 rfl (lv_at hl 3 rfl) ?_
              refine xg hC hK hH flX10_7 hc_h rfl dX10_goes_122 ?_
              refine lv_iload_n hx hb dX10_goes_125 rfl (lv_at hl 4 rfl) ?_
              refine lv_bipush (v := 12) hx hb dX10_goes_126 (by decide) ?_
              refine lv_iadd hx hb dX10_goes_128 ?_
              refine lv_topi (fun zq86_ e_zq86_ => ?_)
              have h_zq86_ : zq86_.toInt = x.toInt + 12 := by rw [e_zq86_, iAdd (by have := iRg x; have : (12 : Int32).toInt = 12 := rfl; omega) (by have := iRg x; have : (12 : Int32).toInt = 12 := rfl; omega)]; rfl
              refine xild hC hK hH hc_al (iIn (by omega) (by omega)) dX10_goes_129 ?_
              refine lv_topi (fun xq87_ e_xq87_ => ?_)
              have k_xq87_ : xq87_ = gq60_ (xn + 12) := by rw [e_xq87_, clE (n := xn + 12) (by omega)]
              have kt_xq87_ : xq87_.toInt = (gq60_ (xn + 12)).toInt := by rw [k_xq87_]
              refine lv_iload hx hb dX10_goes_130 (lv_at hl 0 rfl) ?_
              refine jic_ne (tgt := 153) hx hb dX10_goes_132 (by decide) (fun cq88_ => ?_) (fun cq88_ => ?_)
              · skip
                have cq88_ : xq87_.toInt ≠ xq11_.toInt := cq88_
                refine lv_iconst (v := 0) hx hb dX10_goes_153 (by decide) ?_
                exact Jq68_ 0 (by decide) (by decide)
              · skip
                have cq88_ : xq87_.toInt = xq11_.toInt := cq88_
                refine lv_aload_n hx hb dX10_goes_135 rfl (lv_at hl 3 rfl) ?_
                refine xg hC hK hH flX10_7 hc_h rfl dX10_goes_136 ?_
                refine lv_iload_n hx hb dX10_goes_139 rfl (lv_at hl 4 rfl) ?_
                refine lv_bipush (v := 13) hx hb dX10_goes_140 (by decide) ?_
                refine lv_iadd hx hb dX10_goes_142 ?_
                refine lv_topi (fun zq89_ e_zq89_ => ?_)
                have h_zq89_ : zq89_.toInt = x.toInt + 13 := by rw [e_zq89_, iAdd (by have := iRg x; have : (13 : Int32).toInt = 13 := rfl; omega) (by have := iRg x; have : (13 : Int32).toInt = 13 := rfl; omega)]; rfl
                refine xild hC hK hH hc_al (iIn (by omega) (by omega)) dX10_goes_143 ?_
                refine lv_topi (fun xq90_ e_xq90_ => ?_)
                have k_xq90_ : xq90_ = gq60_ (xn + 13) := by rw [e_xq90_, clE (n := xn + 13) (by omega)]
                have kt_xq90_ : xq90_.toInt = (gq60_ (xn + 13)).toInt := by rw [k_xq90_]
                refine lv_iload hx hb dX10_goes_144 (lv_at hl 0 rfl) ?_
                refine jic_ne (tgt := 153) hx hb dX10_goes_146 (by decide) (fun cq91_ => ?_) (fun cq91_ => ?_)
                · skip
                  have cq91_ : xq90_.toInt ≠ xq11_.toInt := cq91_
                  refine lv_iconst (v := 0) hx hb dX10_goes_153 (by decide) ?_
                  exact Jq68_ 0 (by decide) (by decide)
                · skip
                  have cq91_ : xq90_.toInt = xq11_.toInt := cq91_
                  refine lv_iconst (v := 1) hx hb dX10_goes_149 (by decide) ?_
                  refine lv_goto (tgt := 154) hx hb dX10_goes_150 (by decide) ?_
                  exact Jq68_ 1 (by decide) (by decide)
          · skip
            have cq83_ : xq82_.toInt = 2 := cq83_
            refine lv_aload_n hx hb dX10_goes_95 rfl (lv_at hl 3 rfl) ?_
            refine xg hC hK hH flX10_7 hc_h rfl dX10_goes_96 ?_
            refine lv_iload_n hx hb dX10_goes_99 rfl (lv_at hl 4 rfl) ?_
            refine lv_bipush (v := 12) hx hb dX10_goes_100 (by decide) ?_
            refine lv_iadd hx hb dX10_goes_102 ?_
            refine lv_topi (fun zq92_ e_zq92_ => ?_)
            have h_zq92_ : zq92_.toInt = x.toInt + 12 := by rw [e_zq92_, iAdd (by have := iRg x; have : (12 : Int32).toInt = 12 := rfl; omega) (by have := iRg x; have : (12 : Int32).toInt = 12 := rfl; omega)]; rfl
            refine xild hC hK hH hc_al (iIn (by omega) (by omega)) dX10_goes_103 ?_
            refine lv_topi (fun xq93_ e_xq93_ => ?_)
            have k_xq93_ : xq93_ = gq60_ (xn + 12) := by rw [e_xq93_, clE (n := xn + 12) (by omega)]
            have kt_xq93_ : xq93_.toInt = (gq60_ (xn + 12)).toInt := by rw [k_xq93_]
            refine lv_iload hx hb dX10_goes_104 (lv_at hl 0 rfl) ?_
            refine jic_eq (tgt := 149) hx hb dX10_goes_106 (by decide) (fun cq94_ => ?_) (fun cq94_ => ?_)
            · skip
              have cq94_ : xq93_.toInt = xq11_.toInt := cq94_
              refine lv_iconst (v := 1) hx hb dX10_goes_149 (by decide) ?_
              refine lv_goto (tgt := 154) hx hb dX10_goes_150 (by decide) ?_
              exact Jq68_ 1 (by decide) (by decide)
            · skip
              have cq94_ : xq93_.toInt ≠ xq11_.toInt := cq94_
              refine lv_aload_n hx hb dX10_goes_109 rfl (lv_at hl 3 rfl) ?_
              refine xg hC hK hH flX10_7 hc_h rfl dX10_goes_110 ?_
              refine lv_iload_n hx hb dX10_goes_113 rfl (lv_at hl 4 rfl) ?_
              refine lv_bipush (v := 11) hx hb dX10_goes_114 (by decide) ?_
              refine lv_iadd hx hb dX10_goes_116 ?_
              refine lv_cst (v := zq81_) e_zq81_.symm ?_
              refine xild hC hK hH hc_al (iIn (by omega) (by omega)) dX10_goes_117 ?_
              refine lv_topi (fun xq95_ e_xq95_ => ?_)
              have k_xq95_ : xq95_ = gq60_ (xn + 11) := by rw [e_xq95_, clE (n := xn + 11) (by omega)]
              have kt_xq95_ : xq95_.toInt = (gq60_ (xn + 11)).toInt := by rw [k_xq95_]
              refine jif_ne (tgt := 153) hx hb dX10_goes_118 (by decide) (fun cq96_ => ?_) (fun cq96_ => ?_)
              · skip
                have cq96_ : xq95_.toInt ≠ 0 := cq96_
                refine lv_iconst (v := 0) hx hb dX10_goes_153 (by decide) ?_
                exact Jq68_ 0 (by decide) (by decide)
              · skip
                have cq96_ : xq95_.toInt = 0 := cq96_
                refine lv_aload_n hx hb dX10_goes_121 rfl (lv_at hl 3 rfl) ?_
                refine xg hC hK hH flX10_7 hc_h rfl dX10_goes_122 ?_
                refine lv_iload_n hx hb dX10_goes_125 rfl (lv_at hl 4 rfl) ?_
                refine lv_bipush (v := 12) hx hb dX10_goes_126 (by decide) ?_
                refine lv_iadd hx hb dX10_goes_128 ?_
                refine lv_cst (v := zq92_) e_zq92_.symm ?_
                refine xild hC hK hH hc_al (iIn (by omega) (by omega)) dX10_goes_129 ?_
                refine lv_topi (fun xq97_ e_xq97_ => ?_)
                have k_xq97_ : xq97_ = gq60_ (xn + 12) := by rw [e_xq97_, clE (n := xn + 12) (by omega)]
                have kt_xq97_ : xq97_.toInt = (gq60_ (xn + 12)).toInt := by rw [k_xq97_]
                refine lv_iload hx hb dX10_goes_130 (lv_at hl 0 rfl) ?_
                refine jic_ne (tgt := 153) hx hb dX10_goes_132 (by decide) (fun cq98_ => ?_) (fun cq98_ => ?_)
                · skip
                  have cq98_ : xq97_.toInt ≠ xq11_.toInt := cq98_
                  refine lv_iconst (v := 0) hx hb dX10_goes_153 (by decide) ?_
                  exact Jq68_ 0 (by decide) (by decide)
                · skip
                  have cq98_ : xq97_.toInt = xq11_.toInt := cq98_
                  refine lv_aload_n hx hb dX10_goes_135 rfl (lv_at hl 3 rfl) ?_
                  refine xg hC hK hH flX10_7 hc_h rfl dX10_goes_136 ?_
                  refine lv_iload_n hx hb dX10_goes_139 rfl (lv_at hl 4 rfl) ?_
                  refine lv_bipush (v := 13) hx hb dX10_goes_140 (by decide) ?_
                  refine lv_iadd hx hb dX10_goes_142 ?_
                  refine lv_topi (fun zq99_ e_zq99_ => ?_)
                  have h_zq99_ : zq99_.toInt = x.toInt + 13 := by rw [e_zq99_, iAdd (by have := iRg x; have : (13 : Int32).toInt = 13 := rfl; omega) (by have := iRg x; have : (13 : Int32).toInt = 13 := rfl; omega)]; rfl
                  refine xild hC hK hH hc_al (iIn (by omega) (by omega)) dX10_goes_143 ?_
                  refine lv_topi (fun xq100_ e_xq100_ => ?_)
                  have k_xq100_ : xq100_ = gq60_ (xn + 13) := by rw [e_xq100_, clE (n := xn + 13) (by omega)]
                  have kt_xq100_ : xq100_.toInt = (gq60_ (xn + 13)).toInt := by rw [k_xq100_]
                  refine lv_iload hx hb dX10_goes_144 (lv_at hl 0 rfl) ?_
                  refine jic_ne (tgt := 153) hx hb dX10_goes_146 (by decide) (fun cq101_ => ?_) (fun cq101_ => ?_)
                  · skip
                    have cq101_ : xq100_.toInt ≠ xq11_.toInt := cq101_
                    refine lv_iconst (v := 0) hx hb dX10_goes_153 (by decide) ?_
                    exact Jq68_ 0 (by decide) (by decide)
                  · skip
                    have cq101_ : xq100_.toInt = xq11_.toInt := cq101_
                    refine lv_iconst (v := 1) hx hb dX10_goes_149 (by decide) ?_
                    refine lv_goto (tgt := 154) hx hb dX10_goes_150 (by decide) ?_
                    exact Jq68_ 1 (by decide) (by decide)
      · skip
        have cq61_ : xq9_.toInt = 4 := cq61_
        refine lv_aload_n hx hb dX10_goes_63 rfl (lv_at hl 3 rfl) ?_
        refine xg hC hK hH flX10_7 hc_h rfl dX10_goes_64 ?_
        refine lv_iload_n hx hb dX10_goes_67 rfl (lv_at hl 4 rfl) ?_
        refine lv_bipush (v := 15) hx hb dX10_goes_68 (by decide) ?_
        refine lv_iadd hx hb dX10_goes_70 ?_
        refine lv_cst (v := zq58_) e_zq58_.symm ?_
        refine lv_iconst (v := 1) hx hb dX10_goes_71 (by decide) ?_
        refine yist (x := 1) hC hK hH hc_al (noT hn_al) (iIn (by omega) (by omega)) dX10_goes_72 (fun Hq_ lcq_ Mq102_ hc_al hfr hH => ?_)
        have hc_al : Mq102_ al = some (.inl (kA 0, 7506, .inl (upd gq60_ (Int32.toNatClampNeg zq58_) 1))) := hc_al
        have hc_h : Mq102_ h = some (.inr (8, [.ref al, .ref mt, .ref ii, .int ta, .int fpm, .ref pa, .int sm, .int nx, .int tk, .int pl, .int ln, .long va, .int wr, .ref li])) := (hfr h n_h_al).trans hc_h
        have hF : ∀ q, FrK T q → q ≠ al → Mq102_ q = M q := fun q hq h0 => (hfr q h0).trans (hF q hq h0)
        obtain ⟨gq103_, e_gq103_⟩ : ∃ g : Nat → Int32, g = upd gq60_ (Int32.toNatClampNeg zq58_) 1 := ⟨_, rfl⟩
        rw [← e_gq103_] at hc_al
        have hR_gq103_ : Rng gq103_ := by rw [e_gq103_]; exact hR_gq60_.uX (t := t) (b := b) (xn := xn) (by omega) (by omega) (by omega) (by have := iCl (x := zq58_) (by omega); omega) (by have := iCl (x := zq58_) (by omega); omega) (by have := iCl (x := zq58_) (by omega); omega)
        have hK_gq103_ : Ke f gq103_ := by rw [e_gq103_]; exact hK_gq60_.up (by have := iCl (x := zq58_) (by omega); omega)
        refine lv_goto (tgt := 207) hx hb dX10_goes_73 (by decide) ?_
        exact ret_v hC hr hlk hK hH (⟨gq103_, ⟨hR_gq103_, hK_gq103_⟩, hc_al, rfl, hF⟩) (Nat.le_of_ble_eq_true rfl) (Nat.le_of_ble_eq_true rfl) dX10_goes_207
  · skip
    have cq7_ : xq6_.toInt ≠ (-1) := cq7_
    exact ret_v hC hr hlk hK hH (⟨f, ⟨hR_f, hK_f⟩, hc_al, rfl, hF⟩) (Nat.le_of_ble_eq_true rfl) (Nat.le_of_ble_eq_true rfl) dX10_goes_20
