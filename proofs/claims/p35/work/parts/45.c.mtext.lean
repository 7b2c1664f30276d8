set_option maxHeartbeats 4000000 in
set_option maxRecDepth 100000 in
theorem c_X10_text {z : zD} {l : Launch} {D : va_G} {kA : Nat → ClassId} {M : mM} {T : mT} {sz : Nat} {h al mt ii pa li : Nat} {ta fpm sm nx tk pl ln wr : Int32} {va : Int64} {f : Nat → Int32} {an : Int32} (hc_h : M h = some (.inr (8, [.ref al, .ref mt, .ref ii, .int ta, .int fpm, .ref pa, .int sm, .int nx, .int tk, .int pl, .int ln, .long va, .int wr, .ref li]))) (hn_h : T h = none) (hc_al : M al = some (.inl (kA 0, 7506, .inl f))) (hn_al : T al = none) (ht_mt : T mt = some 11) (ht_pa : T pa = some 13) (ht_li : T li = some 14) (hR_f : Rng f) (hta : 0 ≤ ta.toInt ∧ ta.toInt ≤ 600) : mCiB z l yX10_text cX10_text 3 (some .int) 8 0 0 D kA M T sz [.ref h, .int an] (fun r u => ∃ va2 : Int64, ∃ g : Nat → Int32, (Rng g ∧ Ke f g) ∧ ∃ fpm2 : Int32, ((-2147483648 : Int) ≤ fpm2.toInt ∧ fpm2.toInt ≤ 2147483647) ∧ ∃ sm2 : Int32, ((-2147483648 : Int) ≤ sm2.toInt ∧ sm2.toInt ≤ 2147483647) ∧ ∃ nx2 : Int32, ((-2147483648 : Int) ≤ nx2.toInt ∧ nx2.toInt ≤ 2147483647) ∧ ∃ tk2 : Int32, ((-2147483648 : Int) ≤ tk2.toInt ∧ tk2.toInt ≤ 2147483647) ∧ ∃ pl2 : Int32, ((-2147483648 : Int) ≤ pl2.toInt ∧ pl2.toInt ≤ 2147483647) ∧ ∃ ln2 : Int32, ((-2147483648 : Int) ≤ ln2.toInt ∧ ln2.toInt ≤ 2147483647) ∧ ∃ wr2 : Int32, ((0 : Int) ≤ wr2.toInt ∧ wr2.toInt ≤ 1) ∧ (u.1 al = some (.inl (kA 0, 7506, .inl g)) ∧ u.1 h = some (.inr (8, [.ref al, .ref mt, .ref ii, .int 0, .int fpm2, .ref pa, .int sm2, .int nx2, .int tk2, .int pl2, .int ln2, .long va2, .int wr2, .ref li]))) ∧ u.2 = T ∧ (∀ q, FrK T q → q ≠ al → q ≠ h → u.1 q = M q)) := by
  unfold mCiB
  refine start_WB (by decide) (Nat.le_of_ble_eq_true rfl) ?_
  intro p e s m below meth c ls hC hr hlk hnm hK hH hsz hZ hl
  have hx := hC.1
  have hb := hC.2.1
  have hl : lv_has ls 3 [(0, .ref h), (1, .int an)] := hl
  have hF : ∀ q, FrK T q → q ≠ al → q ≠ h → M q = M q := fun q _ _ _ => rfl
  have n_h_al : h ≠ al := neM hc_h hc_al (by simp)
  have n_al_h : al ≠ h := neM hc_al hc_h (by simp)
  have hK_f : Ke f f := Ke.rf
  obtain ⟨Mq1_, ft, hc_mt, hfr, hH⟩ := hH.untI ht_mt rfl
  have n_h_mt : h ≠ mt := (neF (Or.inl hn_h) ht_mt (by decide))
  have n_mt_h : mt ≠ h := Ne.symm n_h_mt
  have hc_h : Mq1_ h = some (.inr (8, [.ref al, .ref mt, .ref ii, .int ta, .int fpm, .ref pa, .int sm, .int nx, .int tk, .int pl, .int ln, .long va, .int wr, .ref li])) := (hfr h n_h_mt).trans hc_h
  have n_al_mt : al ≠ mt := (neF (Or.inl hn_al) ht_mt (by decide))
  have n_mt_al : mt ≠ al := Ne.symm n_al_mt
  have hc_al : Mq1_ al = some (.inl (kA 0, 7506, .inl f)) := (hfr al n_al_mt).trans hc_al
  have hF : ∀ q, FrK T q → q ≠ al → q ≠ h → Mq1_ q = M q := fun q hq h0 h1 => (hfr q (neF hq ht_mt (by decide))).trans (hF q hq h0 h1)
  refine lv_aload_n hx hb dX10_text_0 rfl (lv_at hl 0 rfl) ?_
  refine lv_aload_n hx hb dX10_text_1 rfl (lv_at hl 0 rfl) ?_
  refine xg hC hK hH flX10_180 hc_h rfl dX10_text_2 ?_
  refine yp (v := .int ta) hC hK hH flX10_201 hc_h (noT hn_h) rfl rfl (Nat.le_of_ble_eq_true rfl) dX10_text_5 (fun Hq_ lcq_ Mq2_ hc_h hfr hH => ?_)
  have hc_h : Mq2_ h = some (.inr (8, [.ref al, .ref mt, .ref ii, .int ta, .int fpm, .ref pa, .int ta, .int nx, .int tk, .int pl, .int ln, .long va, .int wr, .ref li])) := hc_h
  have hc_al : Mq2_ al = some (.inl (kA 0, 7506, .inl f)) := (hfr al n_al_h).trans hc_al
  have hc_mt : Mq2_ mt = some (.inl (kA 0, 600, .inl ft)) := (hfr mt n_mt_h).trans hc_mt
  have hF : ∀ q, FrK T q → q ≠ al → q ≠ h → Mq2_ q = M q := fun q hq h0 h1 => (hfr q h1).trans (hF q hq h0 h1)
  refine lv_aload_n hx hb dX10_text_8 rfl (lv_at hl 0 rfl) ?_
  refine lv_iconst (v := 0) hx hb dX10_text_9 (by decide) ?_
  refine yp (v := .int 0) hC hK hH flX10_180 hc_h (noT hn_h) rfl rfl (Nat.le_of_ble_eq_true rfl) dX10_text_10 (fun Hq_ lcq_ Mq3_ hc_h hfr hH => ?_)
  have hc_h : Mq3_ h = some (.inr (8, [.ref al, .ref mt, .ref ii, .int 0, .int fpm, .ref pa, .int ta, .int nx, .int tk, .int pl, .int ln, .long va, .int wr, .ref li])) := hc_h
  have hc_al : Mq3_ al = some (.inl (kA 0, 7506, .inl f)) := (hfr al n_al_h).trans hc_al
  have hc_mt : Mq3_ mt = some (.inl (kA 0, 600, .inl ft)) := (hfr mt n_mt_h).trans hc_mt
  have hF : ∀ q, FrK T q → q ≠ al → q ≠ h → Mq3_ q = M q := fun q hq h0 h1 => (hfr q h1).trans (hF q hq h0 h1)
  refine lv_aload_n hx hb dX10_text_13 rfl (lv_at hl 0 rfl) ?_
  refine lv_iconst (v := -1) hx hb dX10_text_14 (by decide) ?_
  refine yp (v := .int (-1)) hC hK hH flX10_20 hc_h (noT hn_h) rfl rfl (Nat.le_of_ble_eq_true rfl) dX10_text_15 (fun Hq_ lcq_ Mq4_ hc_h hfr hH => ?_)
  have hc_h : Mq4_ h = some (.inr (8, [.ref al, .ref mt, .ref ii, .int 0, .int (-1), .ref pa, .int ta, .int nx, .int tk, .int pl, .int ln, .long va, .int wr, .ref li])) := hc_h
  have hc_al : Mq4_ al = some (.inl (kA 0, 7506, .inl f)) := (hfr al n_al_h).trans hc_al
  have hc_mt : Mq4_ mt = some (.inl (kA 0, 600, .inl ft)) := (hfr mt n_mt_h).trans hc_mt
  have hF : ∀ q, FrK T q → q ≠ al → q ≠ h → Mq4_ q = M q := fun q hq h0 h1 => (hfr q h1).trans (hF q hq h0 h1)
  refine lv_aload_n hx hb dX10_text_18 rfl (lv_at hl 0 rfl) ?_
  refine lv_iconst (v := 0) hx hb dX10_text_19 (by decide) ?_
  refine yp (v := .int 0) hC hK hH flX10_234 hc_h (noT hn_h) rfl rfl (Nat.le_of_ble_eq_true rfl) dX10_text_20 (fun Hq_ lcq_ Mq5_ hc_h hfr hH => ?_)
  have hc_h : Mq5_ h = some (.inr (8, [.ref al, .ref mt, .ref ii, .int 0, .int (-1), .ref pa, .int ta, .int nx, .int tk, .int pl, .int ln, .long va, .int 0, .ref li])) := hc_h
  have hc_al : Mq5_ al = some (.inl (kA 0, 7506, .inl f)) := (hfr al n_al_h).trans hc_al
  have hc_mt : Mq5_ mt = some (.inl (kA 0, 600, .inl ft)) := (hfr mt n_mt_h).trans hc_mt
  have hF : ∀ q, FrK T q → q ≠ al → q ≠ h → Mq5_ q = M q := fun q hq h0 h1 => (hfr q h1).trans (hF q hq h0 h1)
  refine lv_aload_n hx hb dX10_text_23 rfl (lv_at hl 0 rfl) ?_
  refine lv_iconst (v := 0) hx hb dX10_text_24 (by decide) ?_
  refine yp (v := .int 0) hC hK hH flX10_204 hc_h (noT hn_h) rfl rfl (Nat.le_of_ble_eq_true rfl) dX10_text_25 (fun Hq_ lcq_ Mq6_ hc_h hfr hH => ?_)
  have hc_h : Mq6_ h = some (.inr (8, [.ref al, .ref mt, .ref ii, .int 0, .int (-1), .ref pa, .int ta, .int 0, .int tk, .int pl, .int ln, .long va, .int 0, .ref li])) := hc_h
  have hc_al : Mq6_ al = some (.inl (kA 0, 7506, .inl f)) := (hfr al n_al_h).trans hc_al
  have hc_mt : Mq6_ mt = some (.inl (kA 0, 600, .inl ft)) := (hfr mt n_mt_h).trans hc_mt
  have hF : ∀ q, FrK T q → q ≠ al → q ≠ h → Mq6_ q = M q := fun q hq h0 h1 => (hfr q h1).trans (hF q hq h0 h1)
  refine lv_aload_n hx hb dX10_text_28 rfl (lv_at hl 0 rfl) ?_
  refine lv_iconst (v := 0) hx hb dX10_text_29 (by decide) ?_
  refine yp (v := .int 0) hC hK hH flX10_245 hc_h (noT hn_h) rfl rfl (Nat.le_of_ble_eq_true rfl) dX10_text_30 (fun Hq_ lcq_ Mq7_ hc_h hfr hH => ?_)
  have hc_h : Mq7_ h = some (.inr (8, [.ref al, .ref mt, .ref ii, .int 0, .int (-1), .ref pa, .int ta, .int 0, .int tk, .int pl, .int 0, .long va, .int 0, .ref li])) := hc_h
  have hc_al : Mq7_ al = some (.inl (kA 0, 7506, .inl f)) := (hfr al n_al_h).trans hc_al
  have hc_mt : Mq7_ mt = some (.inl (kA 0, 600, .inl ft)) := (hfr mt n_mt_h).trans hc_mt
  have hF : ∀ q, FrK T q → q ≠ al → q ≠ h → Mq7_ q = M q := fun q hq h0 h1 => (hfr q h1).trans (hF q hq h0 h1)
  refine lv_aload_n hx hb dX10_text_33 rfl (lv_at hl 0 rfl) ?_
  refine goV hK hH (runV (As := []) (rest := []) hC hK hH (c_X10_takes hc_h hn_h hc_mt ht_mt ht_pa ht_li (by omega) (by have : (0 : Int32).toInt = 0 := rfl; omega)) mlX10_238 (rcvM hK hH hc_h rfl) ⟨⟨Nat.le_of_ble_eq_true rfl, Nat.le_of_ble_eq_true rfl⟩, Nat.le_of_ble_eq_true rfl, Nat.le_of_ble_eq_true rfl⟩ rfl hl.1 rfl (Nat.le_of_ble_eq_true rfl) dX10_text_34) (fun Mq9_ Tq10_ Hq_ lcq_ hP hz hH => ?_)
  try dsimp only at hP
  obtain ⟨xq8_, xq13_, ⟨l_xq13_, g_xq13_⟩, xq14_, ⟨l_xq14_, g_xq14_⟩, xq15_, ⟨l_xq15_, g_xq15_⟩, (⟨cq12_, hx_h, hx_mt⟩), eT, hfr⟩ := hP
  have eT := eT.symm; subst eT
  have hc_h : Mq9_ h = some (.inr (8, [.ref al, .ref mt, .ref ii, .int 0, .int (-1), .ref pa, .int ta, .int xq13_, .int xq14_, .int xq15_, .int 0, .long xq8_, .int 0, .ref li])) := hx_h
  have hc_al : Mq9_ al = some (.inl (kA 0, 7506, .inl f)) := (hfr al (Or.inl hn_al) n_al_h n_al_mt).trans hc_al
  have hc_mt : Mq9_ mt = some (.inl (kA 0, 600, .inl ft)) := hx_mt
  have hF : ∀ q, FrK T q → q ≠ al → q ≠ h → Mq9_ q = M q := fun q hq h0 h1 => (hfr q hq h1 (neF hq ht_mt (by decide))).trans (hF q hq h0 h1)
  have cq12_ : (0 : Int) ≤ xq15_.toInt ∧ xq15_.toInt ≤ xq13_.toInt ∧ xq13_.toInt ≤ ta.toInt ∧ (xq14_.toInt = 0 ∨ xq15_.toInt < xq13_.toInt) ∧ (xq14_.toInt ≠ 1 ∨ xq13_.toInt ≠ xq15_.toInt + 1 ∨ xq8_.toInt ≤ 26) := cq12_
  have loop : ∀ (n : Nat) (yq16_ : Int32) (yq17_ : Int32) (yq18_ : Int32) (yq19_ : Int32) (yq20_ : Int32) (yq21_ : Int64) (yq22_ : Int32) (Fq24_ : Nat → Int32) (Hq_ : Heap) (lcq_ : List Loc) (Mq23_ : mM) (ls : Array Slot), 2 * (602 - yq19_.toInt) - yq22_.toInt ≤ (n : Int) → (0 : Int) ≤ yq17_.toInt → yq17_.toInt ≤ 600 → (0 : Int) ≤ yq18_.toInt → yq18_.toInt ≤ 4 → (0 : Int) ≤ yq19_.toInt → yq19_.toInt ≤ 600 → (0 : Int) ≤ yq20_.toInt → yq20_.toInt ≤ 151 → (0 : Int) ≤ yq22_.toInt → yq22_.toInt ≤ 1 → (yq19_.toInt ≤ yq17_.toInt) → (yq17_.toInt ≤ ta.toInt) → (yq18_.toInt = 0 ∨ yq19_.toInt < yq17_.toInt) → (yq18_.toInt ≠ 1 ∨ yq17_.toInt ≠ yq19_.toInt + 1 ∨ yq21_.toInt ≤ 26) → (yq22_.toInt = 1 ∨ 4 * yq20_.toInt ≤ yq19_.toInt) → Rng Fq24_ → Ke f Fq24_ → Mq23_ h = some (.inr (8, [.ref al, .ref mt, .ref ii, .int 0, .int yq16_, .ref pa, .int ta, .int yq17_, .int yq18_, .int yq19_, .int yq20_, .long yq21_, .int yq22_, .ref li])) → Mq23_ al = some (.inl (kA 0, 7506, .inl Fq24_)) → Mq23_ mt = some (.inl (kA 0, 600, .inl ft)) → (∀ q, FrK T q → q ≠ al → q ≠ h → Mq23_ q = M q) → mS D kA Mq23_ T (mA M T sz) s.heap Hq_ lcq_ → lv_has ls 3 [(0, .ref h), (1, .int an)] → W p l e (rmL 8 0 0) s m ([.ref h, .int an] : List Value).toArray below meth c Hq_ lcq_ 0 0 (MQ below (va_Qi (fun r u => ∃ va2 : Int64, ∃ g : Nat → Int32, (Rng g ∧ Ke f g) ∧ ∃ fpm2 : Int32, ((-2147483648 : Int) ≤ fpm2.toInt ∧ fpm2.toInt ≤ 2147483647) ∧ ∃ sm2 : Int32, ((-2147483648 : Int) ≤ sm2.toInt ∧ sm2.toInt ≤ 2147483647) ∧ ∃ nx2 : Int32, ((-2147483648 : Int) ≤ nx2.toInt ∧ nx2.toInt ≤ 2147483647) ∧ ∃ tk2 : Int32, ((-2147483648 : Int) ≤ tk2.toInt ∧ tk2.toInt ≤ 2147483647) ∧ ∃ pl2 : Int32, ((-2147483648 : Int) ≤ pl2.toInt ∧ pl2.toInt ≤ 2147483647) ∧ ∃ ln2 : Int32, ((-2147483648 : Int) ≤ ln2.toInt ∧ ln2.toInt ≤ 2147483647) ∧ ∃ wr2 : Int32, ((0 : Int) ≤ wr2.toInt ∧ wr2.toInt ≤ 1) ∧ (u.1 al = some (.inl (kA 0, 7506, .inl g)) ∧ u.1 h = some (.inr (8, [.ref al, .ref mt, .ref ii, .int 0, .int fpm2, .ref pa, .int sm2, .int nx2, .int tk2, .int pl2, .int ln2, .long va2, .int wr2, .ref li]))) ∧ u.2 = T ∧ (∀ q, FrK T q → q ≠ al → q ≠ h → u.1 q = M q)) (mB D kA M T sz) (mA M T sz)) ([.ref h, .int an] : List Value).toArray s 0 0 (mA M T sz)) (F0 m 37 ls []) := by
    intro n
    induction n with
    | zero =>
      intro yq16_ yq17_ yq18_ yq19_ yq20_ yq21_ yq22_ Fq24_ Hq_ lcq_ Mq23_ ls hme l_yq17_ g_yq17_ l_yq18_ g_yq18_ l_yq19_ g_yq19_ l_yq20_ g_yq20_ l_yq22_ g_yq22_ hv0_yq16_ hv1_yq16_ hv2_yq16_ hv3_yq16_ hv4_yq16_ hR_Fq24_ hK_Fq24_ hc_h hc_al hc_mt hF hH hl
      exfalso; omega
    | succ n ih =>
      intro yq16_ yq17_ yq18_ yq19_ yq20_ yq21_ yq22_ Fq24_ Hq_ lcq_ Mq23_ ls hme l_yq17_ g_yq17_ l_yq18_ g_yq18_ l_yq19_ g_yq19_ l_yq20_ g_yq20_ l_yq22_ g_yq22_ hv0_yq16_ hv1_yq16_ hv2_yq16_ hv3_yq16_ hv4_yq16_ hR_Fq24_ hK_Fq24_ hc_h hc_al hc_mt hF hH hl
      refine lv_aload_n hx hb dX10_text_37 rfl (lv_at hl 0 rfl) ?_
      refine xg hC hK hH flX10_234 hc_h rfl dX10_text_38 ?_
      refine jif_ne (tgt := 58) hx hb dX10_text_41 (by decide) (fun cq25_ => ?_) (fun cq25_ => ?_)
      · skip
        have cq25_ : yq22_.toInt ≠ 0 := cq25_
        refine lv_aload_n hx hb dX10_text_58 rfl (lv_at hl 0 rfl) ?_
        refine xg hC hK hH flX10_234 hc_h rfl dX10_text_59 ?_
        refine jif_eq (tgt := 67) hx hb dX10_text_62 (by decide) (fun cq26_ => absurd cq26_ (by have := iRg yq22_; have : (0 : Int32).toInt = 0 := rfl; omega)) (fun cq26_ => ?_)
        have cq26_ : yq22_.toInt ≠ 0 := cq26_
        refine lv_iconst (v := -1) hx hb dX10_text_65 (by decide) ?_
        exact ret_i hC hr hlk hK hH (⟨yq21_, Fq24_, ⟨hR_Fq24_, hK_Fq24_⟩, yq16_, iRg _, ta, iRg _, yq17_, iRg _, yq18_, iRg _, yq19_, iRg _, yq20_, iRg _, yq22_, ⟨by omega, by omega⟩, ⟨hc_al, hc_h⟩, rfl, hF⟩) (Nat.le_of_ble_eq_true rfl) (Nat.le_of_ble_eq_true rfl) dX10_text_66
      · skip
        have cq25_ : yq22_.toInt = 0 := cq25_
        refine lv_aload_n hx hb dX10_text_44 rfl (lv_at hl 0 rfl) ?_
        refine xg hC hK hH flX10_217 hc_h rfl dX10_text_45 ?_
        refine jif_eq (tgt := 58) hx hb dX10_text_48 (by decide) (fun cq27_ => ?_) (fun cq27_ => ?_)
        · skip
          have cq27_ : yq18_.toInt = 0 := cq27_
          refine lv_aload_n hx hb dX10_text_58 rfl (lv_at hl 0 rfl) ?_
          refine xg hC hK hH flX10_234 hc_h rfl dX10_text_59 ?_
          refine jif_eq (tgt := 67) hx hb dX10_text_62 (by decide) (fun cq28_ => ?_) (fun cq28_ => absurd cq28_ (by have := iRg yq22_; have : (0 : Int32).toInt = 0 := rfl; omega))
          have cq28_ : yq22_.toInt = 0 := cq28_
          refine lv_iload_n hx hb dX10_text_67 rfl (lv_at hl 1 rfl) ?_
          refine jif_eq (tgt := 75) hx hb dX10_text_68 (by decide) (fun cq29_ => ?_) (fun cq29_ => ?_)
          · skip
            have cq29_ : an.toInt = 0 := cq29_
            refine lv_iconst (v := 0) hx hb dX10_text_75 (by decide) ?_
            refine lv_istore_n (lv' := [(2, .int 0), (0, .ref h), (1, .int an)]) hx hb dX10_text_76 rfl hl (by decide) rfl (fun ls hl => ?_)
            have loop : ∀ (n : Nat) (yq30_ : Int32) (Fq32_ : Nat → Int32) (Hq_ : Heap) (lcq_ : List Loc) (Mq31_ : mM) (ls : Array Slot), 152 - yq30_.toInt ≤ (n : Int) → (0 : Int) ≤ yq30_.toInt → yq30_.toInt ≤ 151 → Rng Fq32_ → Ke f Fq32_ → Mq31_ h = some (.inr (8, [.ref al, .ref mt, .ref ii, .int 0, .int yq16_, .ref pa, .int ta, .int yq17_, .int yq18_, .int yq19_, .int yq20_, .long yq21_, .int yq22_, .ref li])) → Mq31_ al = some (.inl (kA 0, 7506, .inl Fq32_)) → (∀ q, FrK T q → q ≠ al → q ≠ h → Mq31_ q = M q) → mS D kA Mq31_ T (mA M T sz) s.heap Hq_ lcq_ → lv_has ls 3 [(2, .int yq30_), (0, .ref h), (1, .int an)] → W p l e (rmL 8 0 0) s m ([.ref h, .int an] : List Value).toArray below meth c Hq_ lcq_ 0 0 (MQ below (va_Qi (fun r u => ∃ va2 : Int64, ∃ g : Nat → Int32, (Rng g ∧ Ke f g) ∧ ∃ fpm2 : Int32, ((-2147483648 : Int) ≤ fpm2.toInt ∧ fpm2.toInt ≤ 2147483647) ∧ ∃ sm2 : Int32, ((-2147483648 : Int) ≤ sm2.toInt ∧ sm2.toInt ≤ 2147483647) ∧ ∃ nx2 : Int32, ((-2147483648 : Int) ≤ nx2.toInt ∧ nx2.toInt ≤ 2147483647) ∧ ∃ tk2 : Int32, ((-2147483648 : Int) ≤ tk2.toInt ∧ tk2.toInt ≤ 2147483647) ∧ ∃ pl2 : Int32, ((-2147483648 : Int) ≤ pl2.toInt ∧ pl2.toInt ≤ 2147483647) ∧ ∃ ln2 : Int32, ((-2147483648 : Int) ≤ ln2.toInt ∧ ln2.toInt ≤ 2147483647) ∧ ∃ wr2 : Int32, ((0 : Int) ≤ wr2.toInt ∧ wr2.toInt ≤ 1) ∧ (u.1 al = some (.inl (kA 0, 7506, .inl g)) ∧ u.1 h = some (.inr (8, [.ref al, .ref mt, .ref ii, .int 0, .int fpm2, .ref pa, .int sm2, .int nx2, .int tk2, .int pl2, .int ln2, .long va2, .int wr2, .ref li]))) ∧ u.2 = T ∧ (∀ q, FrK T q → q ≠ al → q ≠ h → u.1 q = M q)) (mB D kA M T sz) (mA M T sz)) ([.ref h, .int an] : List Value).toArray s 0 0 (mA M T sz)) (F0 m 77 ls []) := by
              intro n
              induction n with
              | zero =>
                intro yq30_ Fq32_ Hq_ lcq_ Mq31_ ls hme l_yq30_ g_yq30_ hR_Fq32_ hK_Fq32_ hc_h hc_al hF hH hl
                exfalso; omega
              | succ n ih =>
                intro yq30_ Fq32_ Hq_ lcq_ Mq31_ ls hme l_yq30_ g_yq30_ hR_Fq32_ hK_Fq32_ hc_h hc_al hF hH hl
                refine lv_iload_n hx hb dX10_text_77 rfl (lv_at hl 0 rfl) ?_
                refine lv_aload_n hx hb dX10_text_78 rfl (lv_at hl 1 rfl) ?_
                refine xg hC hK hH flX10_245 hc_h rfl dX10_text_79 ?_
                refine jic_ge (tgt := 106) hx hb dX10_text_82 (by decide) (fun cq33_ => ?_) (fun cq33_ => ?_)
                · skip
                  have cq33_ : yq20_.toInt ≤ yq30_.toInt := cq33_
                  refine lv_iload_n hx hb dX10_text_106 rfl (lv_at hl 0 rfl) ?_
                  exact ret_i hC hr hlk hK hH (⟨yq21_, Fq32_, ⟨hR_Fq32_, hK_Fq32_⟩, yq16_, iRg _, ta, iRg _, yq17_, iRg _, yq18_, iRg _, yq19_, iRg _, yq20_, iRg _, yq22_, ⟨by omega, by omega⟩, ⟨hc_al, hc_h⟩, rfl, hF⟩) (Nat.le_of_ble_eq_true rfl) (Nat.le_of_ble_eq_true rfl) dX10_text_107
                · skip
                  have cq33_ : yq30_.toInt < yq20_.toInt := cq33_
                  refine lv_aload_n hx hb dX10_text_85 rfl (lv_at hl 1 rfl) ?_
                  refine lv_aload_n hx hb dX10_text_86 rfl (lv_at hl 1 rfl) ?_
                  refine lv_bipush (v := 8) hx hb dX10_text_87 (by decide) ?_
                  refine lv_iload_n hx hb dX10_text_89 rfl (lv_at hl 0 rfl) ?_
                  refine lv_imul hx hb dX10_text_90 ?_
                  refine lv_topi (fun zq34_ e_zq34_ => ?_)
                  have h_zq34_ : zq34_.toInt = 8 * yq30_.toInt := by rw [e_zq34_, iMul (by show (-2147483648 : Int) ≤ 8 * yq30_.toInt; omega) (by show 8 * yq30_.toInt ≤ (2147483647 : Int); omega)]; rfl
                  refine goI hK hH (runV (As := [.int zq34_]) (rest := [.ref h]) hC hK hH (c_X10_done hc_h hn_h hc_al hn_al ht_mt ht_pa ht_li (by exact hR_Fq32_) (by omega)) mlX10_269 (rcvM hK hH hc_h rfl) ⟨⟨Nat.le_of_ble_eq_true rfl, Nat.le_of_ble_eq_true rfl⟩, Nat.le_of_ble_eq_true rfl, Nat.le_of_ble_eq_true rfl⟩ rfl hl.1 rfl (Nat.le_of_ble_eq_true rfl) dX10_text_91) (fun rq37_ Mq35_ Tq36_ Hq_ lcq_ hP hz hH => ?_)
                  try dsimp only at hP
                  obtain ⟨gq38_, h_gq38_, (hx_al), eT, hfr⟩ := hP
                  have eT := eT.symm; subst eT
                  have hc_h : Mq35_ h = some (.inr (8, [.ref al, .ref mt, .ref ii, .int 0, .int yq16_, .ref pa, .int ta, .int yq17_, .int yq18_, .int yq19_, .int yq20_, .long yq21_, .int yq22_, .ref li])) := (hfr h (Or.inl hn_h) n_h_al).trans hc_h
                  have hc_al : Mq35_ al = some (.inl (kA 0, 7506, .inl gq38_)) := hx_al
                  have hF : ∀ q, FrK T q → q ≠ al → q ≠ h → Mq35_ q = M q := fun q hq h0 h1 => (hfr q hq h0).trans (hF q hq h0 h1)
                  have hR_gq38_ : Rng gq38_ := h_gq38_.1
                  have hK_gq38_ : Ke f gq38_ := hK_Fq32_.tr h_gq38_.2
                  refine goI hK hH (runV (As := [.int rq37_]) (rest := []) hC hK hH (c_X10_told hc_h hn_h hc_al hn_al ht_mt ht_pa ht_li (by exact hR_gq38_)) mlX10_97 (rcvM hK hH hc_h rfl) ⟨⟨Nat.le_of_ble_eq_true rfl, Nat.le_of_ble_eq_true rfl⟩, Nat.le_of_ble_eq_true rfl, Nat.le_of_ble_eq_true rfl⟩ rfl hl.1 rfl (Nat.le_of_ble_eq_true rfl) dX10_text_94) (fun rq41_ Mq39_ Tq40_ Hq_ lcq_ hP hz hH => ?_)
                  try dsimp only at hP
                  obtain ⟨gq42_, h_gq42_, (⟨er_rq41_, hx_al⟩), eT, hfr⟩ := hP
                  have eT := eT.symm; subst eT
                  have er_rq41_ := er_rq41_.symm; subst er_rq41_
                  have hc_h : Mq39_ h = some (.inr (8, [.ref al, .ref mt, .ref ii, .int 0, .int yq16_, .ref pa, .int ta, .int yq17_, .int yq18_, .int yq19_, .int yq20_, .long yq21_, .int yq22_, .ref li])) := (hfr h (Or.inl hn_h) n_h_al).trans hc_h
                  have hc_al : Mq39_ al = some (.inl (kA 0, 7506, .inl gq42_)) := hx_al
                  have hF : ∀ q, FrK T q → q ≠ al → q ≠ h → Mq39_ q = M q := fun q hq h0 h1 => (hfr q hq h0).trans (hF q hq h0 h1)
                  have hR_gq42_ : Rng gq42_ := h_gq42_.1
                  have hK_gq42_ : Ke f gq42_ := hK_gq38_.tr h_gq42_.2
                  refine jif_ne (tgt := 106) hx hb dX10_text_97 (by decide) (fun cq43_ => ?_) (fun cq43_ => ?_)
                  · skip
                    have cq43_ : rq37_.toInt ≠ 0 := cq43_
                    refine lv_iload_n hx hb dX10_text_106 rfl (lv_at hl 0 rfl) ?_
                    exact ret_i hC hr hlk hK hH (⟨yq21_, gq42_, ⟨hR_gq42_, hK_gq42_⟩, yq16_, iRg _, ta, iRg _, yq17_, iRg _, yq18_, iRg _, yq19_, iRg _, yq20_, iRg _, yq22_, ⟨by omega, by omega⟩, ⟨hc_al, hc_h⟩, rfl, hF⟩) (Nat.le_of_ble_eq_true rfl) (Nat.le_of_ble_eq_true rfl) dX10_text_107
                  · skip
                    have cq43_ : rq37_.toInt = 0 := cq43_
                    obtain ⟨zq44_, e_zq44_⟩ : ∃ y : Int32, y = yq30_ + 1 := ⟨_, rfl⟩
                    refine lv_iinc (v := zq44_) (lv' := [(2, .int zq44_), (0, .ref h), (1, .int an)]) hx hb dX10_text_100 hl (k := 0) rfl (by rw [e_zq44_]; rfl) (by decide) rfl (fun ls hl => ?_)
                    have h_zq44_ : zq44_.toInt = yq30_.toInt + 1 := by rw [e_zq44_, iAdd (by have : (1 : Int32).toInt = 1 := rfl; omega) (by have : (1 : Int32).toInt = 1 := rfl; omega)]; rfl
                    refine lv_goto (tgt := 77) hx hb dX10_text_103 (by decide) ?_
                    exact ih zq44_ gq42_ _ _ _ ls (by have := iRg zq44_; omega) (by have := iRg zq44_; omega) (by have := iRg zq44_; omega) hR_gq42_ hK_gq42_ hc_h hc_al hF hH (lv_sub hl [0, 1, 2] rfl)
            exact loop (Int.toNat (152 - 0)) 0 Fq24_ _ _ _ ls (by have : (0 : Int32).toInt = 0 := rfl; omega) (by have : (0 : Int32).toInt = 0 := rfl; omega) (by have : (0 : Int32).toInt = 0 := rfl; omega) hR_Fq24_ hK_Fq24_ hc_h hc_al hF hH hl
          · skip
            have cq29_ : an.toInt ≠ 0 := cq29_
            refine lv_aload_n hx hb dX10_text_71 rfl (lv_at hl 0 rfl) ?_
            refine goV hK hH (runV (As := []) (rest := []) hC hK hH (c_X10_begins hc_h hn_h hc_al hn_al ht_mt ht_pa ht_li (by exact hR_Fq24_)) mlX10_30 (rcvM hK hH hc_h rfl) ⟨⟨Nat.le_of_ble_eq_true rfl, Nat.le_of_ble_eq_true rfl⟩, Nat.le_of_ble_eq_true rfl, Nat.le_of_ble_eq_true rfl⟩ rfl hl.1 rfl (Nat.le_of_ble_eq_true rfl) dX10_text_72) (fun Mq45_ Tq46_ Hq_ lcq_ hP hz hH => ?_)
            try dsimp only at hP
            obtain ⟨gq48_, h_gq48_, (hx_al), eT, hfr⟩ := hP
            have eT := eT.symm; subst eT
            have hc_h : Mq45_ h = some (.inr (8, [.ref al, .ref mt, .ref ii, .int 0, .int yq16_, .ref pa, .int ta, .int yq17_, .int yq18_, .int yq19_, .int yq20_, .long yq21_, .int yq22_, .ref li])) := (hfr h (Or.inl hn_h) n_h_al).trans hc_h
            have hc_al : Mq45_ al = some (.inl (kA 0, 7506, .inl gq48_)) := hx_al
            have hF : ∀ q, FrK T q → q ≠ al → q ≠ h → Mq45_ q = M q := fun q hq h0 h1 => (hfr q hq h0).trans (hF q hq h0 h1)
            have hR_gq48_ : Rng gq48_ := h_gq48_.1
            have hK_gq48_ : Ke f gq48_ := hK_Fq24_.tr h_gq48_.2
            refine lv_iconst (v := 0) hx hb dX10_text_75 (by decide) ?_
            refine lv_istore_n (lv' := [(2, .int 0), (0, .ref h), (1, .int an)]) hx hb dX10_text_76 rfl hl (by decide) rfl (fun ls hl => ?_)
            have loop : ∀ (n : Nat) (yq49_ : Int32) (Fq51_ : Nat → Int32) (Hq_ : Heap) (lcq_ : List Loc) (Mq50_ : mM) (ls : Array Slot), 152 - yq49_.toInt ≤ (n : Int) → (0 : Int) ≤ yq49_.toInt → yq49_.toInt ≤ 151 → Rng Fq51_ → Ke f Fq51_ → Mq50_ h = some (.inr (8, [.ref al, .ref mt, .ref ii, .int 0, .int yq16_, .ref pa, .int ta, .int yq17_, .int yq18_, .int yq19_, .int yq20_, .long yq21_, .int yq22_, .ref li])) → Mq50_ al = some (.inl (kA 0, 7506, .inl Fq51_)) → (∀ q, FrK T q → q ≠ al → q ≠ h → Mq50_ q = M q) → mS D kA Mq50_ T (mA M T sz) s.heap Hq_ lcq_ → lv_has ls 3 [(2, .int yq49_), (0, .ref h), (1, .int an)] → W p l e (rmL 8 0 0) s m ([.ref h, .int an] : List Value).toArray below meth c Hq_ lcq_ 0 0 (MQ below (va_Qi (fun r u => ∃ va2 : Int64, ∃ g : Nat → Int32, (Rng g ∧ Ke f g) ∧ ∃ fpm2 : Int32, ((-2147483648 : Int) ≤ fpm2.toInt ∧ fpm2.toInt ≤ 2147483647) ∧ ∃ sm2 : Int32, ((-2147483648 : Int) ≤ sm2.toInt ∧ sm2.toInt ≤ 2147483647) ∧ ∃ nx2 : Int32, ((-2147483648 : Int) ≤ nx2.toInt ∧ nx2.toInt ≤ 2147483647) ∧ ∃ tk2 : Int32, ((-2147483648 : Int) ≤ tk2.toInt ∧ tk2.toInt ≤ 2147483647) ∧ ∃ pl2 : Int32, ((-2147483648 : Int) ≤ pl2.toInt ∧ pl2.toInt ≤ 2147483647) ∧ ∃ ln2 : Int32, ((-2147483648 : Int) ≤ ln2.toInt ∧ ln2.toInt ≤ 2147483647) ∧ ∃ wr2 : Int32, ((0 : Int) ≤ wr2.toInt ∧ wr2.toInt ≤ 1) ∧ (u.1 al = some (.inl (kA 0, 7506, .inl g)) ∧ u.1 h = some (.inr (8, [.ref al, .ref mt, .ref ii, .int 0, .int fpm2, .ref pa, .int sm2, .int nx2, .int tk2, .int pl2, .int ln2, .long va2, .int wr2, .ref li]))) ∧ u.2 = T ∧ (∀ q, FrK T q → q ≠ al → q ≠ h → u.1 q = M q)) (mB D kA M T sz) (mA M T sz)) ([.ref h, .int an] : List Value).toArray s 0 0 (mA M T sz)) (F0 m 77 ls []) := by
              intro n
              induction n with
              | zero =>
                intro yq49_ Fq51_ Hq_ lcq_ Mq50_ ls hme l_yq49_ g_yq49_ hR_Fq51_ hK_Fq51_ hc_h hc_al hF hH hl
                exfalso; omega
              | succ n ih =>
                intro yq49_ Fq51_ Hq_ lcq_ Mq50_ ls hme l_yq49_ g_yq49_ hR_Fq51_ hK_Fq51_ hc_h hc_al hF hH hl
                refine lv_iload_n hx hb dX10_text_77 rfl (lv_at hl 0 rfl) ?_
                refine lv_aload_n hx hb dX10_text_78 rfl (lv_at hl 1 rfl) ?_
                refine xg hC hK hH flX10_245 hc_h rfl dX10_text_79 ?_
                refine jic_ge (tgt := 106) hx hb dX10_text_82 (by decide) (fun cq52_ => ?_) (fun cq52_ => ?_)
                · skip
                  have cq52_ : yq20_.toInt ≤ yq49_.toInt := cq52_
                  refine lv_iload_n hx hb dX10_text_106 rfl (lv_at hl 0 rfl) ?_
                  exact ret_i hC hr hlk hK hH (⟨yq21_, Fq51_, ⟨hR_Fq51_, hK_Fq51_⟩, yq16_, iRg _, ta, iRg _, yq17_, iRg _, yq18_, iRg _, yq19_, iRg _, yq20_, iRg _, yq22_, ⟨by omega, by omega⟩, ⟨hc_al, hc_h⟩, rfl, hF⟩) (Nat.le_of_ble_eq_true rfl) (Nat.le_of_ble_eq_true rfl) dX10_text_107
                · skip
                  have cq52_ : yq49_.toInt < yq20_.toInt := cq52_
                  refine lv_aload_n hx hb dX10_text_85 rfl (lv_at hl 1 rfl) ?_
                  refine lv_aload_n hx hb dX10_text_86 rfl (lv_at hl 1 rfl) ?_
                  refine lv_bipush (v := 8) hx hb dX10_text_87 (by decide) ?_
                  refine lv_iload_n hx hb dX10_text_89 rfl (lv_at hl 0 rfl) ?_
                  refine lv_imul hx hb dX10_text_90 ?_
                  refine lv_topi (fun zq53_ e_zq53_ => ?_)
                  have h_zq53_ : zq53_.toInt = 8 * yq49_.toInt := by rw [e_zq53_, iMul (by show (-2147483648 : Int) ≤ 8 * yq49_.toInt; omega) (by show 8 * yq49_.toInt ≤ (2147483647 : Int); omega)]; rfl
                  refine goI hK hH (runV (As := [.int zq53_]) (rest := [.ref h]) hC hK hH (c_X10_done hc_h hn_h hc_al hn_al ht_mt ht_pa ht_li (by exact hR_Fq51_) (by omega)) mlX10_269 (rcvM hK hH hc_h rfl) ⟨⟨Nat.le_of_ble_eq_true rfl, Nat.le_of_ble_eq_true rfl⟩, Nat.le_of_ble_eq_true rfl, Nat.le_of_ble_eq_true rfl⟩ rfl hl.1 rfl (Nat.le_of_ble_eq_true rfl) dX10_text_91) (fun rq56_ Mq54_ Tq55_ Hq_ lcq_ hP hz hH => ?_)
                  try dsimp only at hP
                  obtain ⟨gq57_, h_gq57_, (hx_al), eT, hfr⟩ := hP
                  have eT := eT.symm; subst eT
                  have hc_h : Mq54_ h = some (.inr (8, [.ref al, .ref mt, .ref ii, .int 0, .int yq16_, .ref pa, .int ta, .int yq17_, .int yq18_, .int yq19_, .int yq20_, .long yq21_, .int yq22_, .ref li])) := (hfr h (Or.inl hn_h) n_h_al).trans hc_h
                  have hc_al : Mq54_ al = some (.inl (kA 0, 7506, .inl gq57_)) := hx_al
                  have hF : ∀ q, FrK T q → q ≠ al → q ≠ h → Mq54_ q = M q := fun q hq h0 h1 => (hfr q hq h0).trans (hF q hq h0 h1)
                  have hR_gq57_ : Rng gq57_ := h_gq57_.1
                  have hK_gq57_ : Ke f gq57_ := hK_Fq51_.tr h_gq57_.2
                  refine goI hK hH (runV (As := [.int rq56_]) (rest := []) hC hK hH (c_X10_told hc_h hn_h hc_al hn_al ht_mt ht_pa ht_li (by exact hR_gq57_)) mlX10_97 (rcvM hK hH hc_h rfl) ⟨⟨Nat.le_of_ble_eq_true rfl, Nat.le_of_ble_eq_true rfl⟩, Nat.le_of_ble_eq_true rfl, Nat.le_of_ble_eq_true rfl⟩ rfl hl.1 rfl (Nat.le_of_ble_eq_true rfl) dX10_text_94) (fun rq60_ Mq58_ Tq59_ Hq_ lcq_ hP hz hH => ?_)
                  try dsimp only at hP
                  obtain ⟨gq61_, h_gq61_, (⟨er_rq60_, hx_al⟩), eT, hfr⟩ := hP
                  have eT := eT.symm; subst eT
                  have er_rq60_ := er_rq60_.symm; subst er_rq60_
                  have hc_h : Mq58_ h = some (.inr (8, [.ref al, .ref mt, .ref ii, .int 0, .int yq16_, .ref pa, .int ta, .int yq17_, .int yq18_, .int yq19_, .int yq20_, .long yq21_, .int yq22_, .ref li])) := (hfr h (Or.inl hn_h) n_h_al).trans hc_h
                  have hc_al : Mq58_ al = some (.inl (kA 0, 7506, .inl gq61_)) := hx_al
                  have hF : ∀ q, FrK T q → q ≠ al → q ≠ h → Mq58_ q = M q := fun q hq h0 h1 => (hfr q hq h0).trans (hF q hq h0 h1)
                  have hR_gq61_ : Rng gq61_ := h_gq61_.1
                  have hK_gq61_ : Ke f gq61_ := hK_gq57_.tr h_gq61_.2
                  refine jif_ne (tgt := 106) hx hb dX10_text_97 (by decide) (fun cq62_ => ?_) (fun cq62_ => ?_)
                  · skip
                    have cq62_ : rq56_.toInt ≠ 0 := cq62_
                    refine lv_iload_n hx hb dX10_text_106 rfl (lv_at hl 0 rfl) ?_
                    exact ret_i hC hr hlk hK hH (⟨yq21_, gq61_, ⟨hR_gq61_, hK_gq61_⟩, yq16_, iRg _, ta, iRg _, yq17_, iRg _, yq18_, iRg _, yq19_, iRg _, yq20_, iRg _, yq22_, ⟨by omega, by omega⟩, ⟨hc_al, hc_h⟩, rfl, hF⟩) (Nat.le_of_ble_eq_true rfl) (Nat.le_of_ble_eq_true rfl) dX10_text_107
                  · skip
                    have cq62_ : rq56_.toInt = 0 := cq62_
                    obtain ⟨zq63_, e_zq63_⟩ : ∃ y : Int32, y = yq49_ + 1 := ⟨_, rfl⟩
                    refine lv_iinc (v := zq63_) (lv' := [(2, .int zq63_), (0, .ref h), (1, .int an)]) hx hb dX10_text_100 hl (k := 0) rfl (by rw [e_zq63_]; rfl) (by decide) rfl (fun ls hl => ?_)
                    have h_zq63_ : zq63_.toInt = yq49_.toInt + 1 := by rw [e_zq63_, iAdd (by have : (1 : Int32).toInt = 1 := rfl; omega) (by have : (1 : Int32).toInt = 1 := rfl; omega)]; rfl
                    refine lv_goto (tgt := 77) hx hb dX10_text_103 (by decide) ?_
                    exact ih zq63_ gq61_ _ _ _ ls (by have := iRg zq63_; omega) (by have := iRg zq63_; omega) (by have := iRg zq63_; omega) hR_gq61_ hK_gq61_ hc_h hc_al hF hH (lv_sub hl [0, 1, 2] rfl)
            exact loop (Int.toNat (152 - 0)) 0 gq48_ _ _ _ ls (by have : (0 : Int32).toInt = 0 := rfl; omega) (by have : (0 : Int32).toInt = 0 := rfl; omega) (by have : (0 : Int32).toInt = 0 := rfl; omega) hR_gq48_ hK_gq48_ hc_h hc_al hF hH hl
        · skip
          have cq27_ : yq18_.toInt ≠ 0 := cq27_
          refine lv_aload_n hx hb dX10_text_51 rfl (lv_at hl 0 rfl) ?_
          refine goV hK hH (runVB (As := []) (rest := []) hC hK hH hZ (c_X10_readsLine hc_h hn_h hc_mt ht_mt ht_pa ht_li (by omega) (by omega) (by omega) (by omega) (by omega) (by omega)) mlX10_266 (rcvM hK hH hc_h rfl) ⟨⟨Nat.le_of_ble_eq_true rfl, Nat.le_of_ble_eq_true rfl⟩, Nat.le_of_ble_eq_true rfl, Nat.le_of_ble_eq_true rfl⟩ rfl hl.1 rfl (Nat.le_of_ble_eq_true rfl) dX10_text_52) (fun Mq65_ Tq66_ Hq_ lcq_ hP hz hH => ?_)
          try dsimp only at hP
          obtain ⟨xq64_, xq69_, ⟨l_xq69_, g_xq69_⟩, xq70_, ⟨l_xq70_, g_xq70_⟩, xq71_, ⟨l_xq71_, g_xq71_⟩, xq72_, ⟨l_xq72_, g_xq72_⟩, xq73_, ⟨l_xq73_, g_xq73_⟩, xq74_, ⟨l_xq74_, g_xq74_⟩, (⟨cq68_, hx_h, hx_mt⟩), eT, hfr⟩ := hP
          have eT := eT.symm; subst eT
          have hc_h : Mq65_ h = some (.inr (8, [.ref al, .ref mt, .ref ii, .int 0, .int xq73_, .ref pa, .int ta, .int xq69_, .int xq70_, .int xq71_, .int xq74_, .long xq64_, .int xq72_, .ref li])) := hx_h
          have hc_al : Mq65_ al = some (.inl (kA 0, 7506, .inl Fq24_)) := (hfr al (Or.inl hn_al) n_al_h n_al_mt).trans hc_al
          have hc_mt : Mq65_ mt = some (.inl (kA 0, 600, .inl ft)) := hx_mt
          have hF : ∀ q, FrK T q → q ≠ al → q ≠ h → Mq65_ q = M q := fun q hq h0 h1 => (hfr q hq h1 (neF hq ht_mt (by decide))).trans (hF q hq h0 h1)
          have cq68_ : yq19_.toInt ≤ xq71_.toInt ∧ xq71_.toInt ≤ xq69_.toInt ∧ xq69_.toInt ≤ ta.toInt ∧ (xq70_.toInt = 0 ∨ xq71_.toInt < xq69_.toInt) ∧ (xq70_.toInt ≠ 1 ∨ xq69_.toInt ≠ xq71_.toInt + 1 ∨ xq64_.toInt ≤ 26) ∧ xq74_.toInt ≤ yq20_.toInt + 1 ∧ (xq72_.toInt = 1 ∨ (yq19_.toInt + 4 ≤ xq71_.toInt ∧ xq74_.toInt = yq20_.toInt + 1)) := cq68_
          refine lv_goto (tgt := 37) hx hb dX10_text_55 (by decide) ?_
          exact ih xq73_ xq69_ xq70_ xq71_ xq74_ xq64_ xq72_ Fq24_ _ _ _ ls (by have := iRg xq73_; have := iRg xq69_; have := iRg xq70_; have := iRg xq71_; have := iRg xq74_; have := iRg xq72_; omega) (by have := iRg xq73_; have := iRg xq69_; have := iRg xq70_; have := iRg xq71_; have := iRg xq74_; have := iRg xq72_; omega) (by have := iRg xq73_; have := iRg xq69_; have := iRg xq70_; have := iRg xq71_; have := iRg xq74_; have := iRg xq72_; omega) (by have := iRg xq73_; have := iRg xq69_; have := iRg xq70_; have := iRg xq71_; have := iRg xq74_; have := iRg xq72_; omega) (by have := iRg xq73_; have := iRg xq69_; have := iRg xq70_; have := iRg xq71_; have := iRg xq74_; have := iRg xq72_; omega) (by have := iRg xq73_; have := iRg xq69_; have := iRg xq70_; have := iRg xq71_; have := iRg xq74_; have := iRg xq72_; omega) (by have := iRg xq73_; have := iRg xq69_; have := iRg xq70_; have := iRg xq71_; have := iRg xq74_; have := iRg xq72_; omega) (by have := iRg xq73_; have := iRg xq69_; have := iRg xq70_; have := iRg xq71_; have := iRg xq74_; have := iRg xq72_; omega) (by have := iRg xq73_; have := iRg xq69_; have := iRg xq70_; have := iRg xq71_; have := iRg xq74_; have := iRg xq72_; omega) (by have := iRg xq73_; have := iRg xq69_; have := iRg xq70_; have := iRg xq71_; have := iRg xq74_; have := iRg xq72_; omega) (by have := iRg xq73_; have := iRg xq69_; have := iRg xq70_; have := iRg xq71_; have := iRg xq74_; have := iRg xq72_; omega) (by have := iRg xq73_; have := iRg xq69_; have := iRg xq70_; have := iRg xq71_; have := iRg xq74_; have := iRg xq72_; omega) (by have := iRg xq73_; have := iRg xq69_; have := iRg xq70_; have := iRg xq71_; have := iRg xq74_; have := iRg xq72_; omega) (by have := iRg xq73_; have := iRg xq69_; have := iRg xq70_; have := iRg xq71_; have := iRg xq74_; have := iRg xq72_; omega) (by have := iRg xq73_; have := iRg xq69_; have := iRg xq70_; have := iRg xq71_; have := iRg xq74_; have := iRg xq72_; omega) (by have := iRg xq73_; have := iRg xq69_; have := iRg xq70_; have := iRg xq71_; have := iRg xq74_; have := iRg xq72_; omega) hR_Fq24_ hK_Fq24_ hc_h hc_al hc_mt hF hH (lv_sub hl [0, 1] rfl)
  exact loop (Int.toNat (2 * (602 - xq15_.toInt) - 0)) (-1) xq13_ xq14_ xq15_ 0 xq8_ 0 f _ _ _ ls (by have : (-1 : Int32).toInt = -1 := rfl; have := iRg xq13_; have := iRg xq14_; have := iRg xq15_; have : (0 : Int32).toInt = 0 := rfl; have : (0 : Int32).toInt = 0 := rfl; omega) (by have : (-1 : Int32).toInt = -1 := rfl; have := iRg xq13_; have := iRg xq14_; have := iRg xq15_; have : (0 : Int32).toInt = 0 := rfl; have : (0 : Int32).toInt = 0 := rfl; omega) (by have : (-1 : Int32).toInt = -1 := rfl; have := iRg xq13_; have := iRg xq14_; have := iRg xq15_; have : (0 : Int32).toInt = 0 := rfl; have : (0 : Int32).toInt = 0 := rfl; omega) (by have : (-1 : Int32).toInt = -1 := rfl; have := iRg xq13_; have := iRg xq14_; have := iRg xq15_; have : (0 : Int32).toInt = 0 := rfl; have : (0 : Int32).toInt = 0 := rfl; omega) (by have : (-1 : Int32).toInt = -1 := rfl; have := iRg xq13_; have := iRg xq14_; have := iRg xq15_; have : (0 : Int32).toInt = 0 := rfl; have : (0 : Int32).toInt = 0 := rfl; omega) (by have : (-1 : Int32).toInt = -1 := rfl; have := iRg xq13_; have := iRg xq14_; have := iRg xq15_; have : (0 : Int32).toInt = 0 := rfl; have : (0 : Int32).toInt = 0 := rfl; omega) (by have : (-1 : Int32).toInt = -1 := rfl; have := iRg xq13_; have := iRg xq14_; have := iRg xq15_; have : (0 : Int32).toInt = 0 := rfl; have : (0 : Int32).toInt = 0 := rfl; omega) (by have : (-1 : Int32).toInt = -1 := rfl; have := iRg xq13_; have := iRg xq14_; have := iRg xq15_; have : (0 : Int32).toInt = 0 := rfl; have : (0 : Int32).toInt = 0 := rfl; omega) (by have : (-1 : Int32).toInt = -1 := rfl; have := iRg xq13_; have := iRg xq14_; have := iRg xq15_; have : (0 : Int32).toInt = 0 := rfl; have : (0 : Int32).toInt = 0 := rfl; omega) (by have : (-1 : Int32).toInt = -1 := rfl; have := iRg xq13_; have := iRg xq14_; have := iRg xq15_; have : (0 : Int32).toInt = 0 := rfl; have : (0 : Int32).toInt = 0 := rfl; omega) (by have : (-1 : Int32).toInt = -1 := rfl; have := iRg xq13_; have := iRg xq14_; have := iRg xq15_; have : (0 : Int32).toInt = 0 := rfl; have : (0 : Int32).toInt = 0 := rfl; omega) (by have : (-1 : Int32).toInt = -1 := rfl; have := iRg xq13_; have := iRg xq14_; have := iRg xq15_; have : (0 : Int32).toInt = 0 := rfl; have : (0 : Int32).toInt = 0 := rfl; omega) (by have : (-1 : Int32).toInt = -1 := rfl; have := iRg xq13_; have := iRg xq14_; have := iRg xq15_; have : (0 : Int32).toInt = 0 := rfl; have : (0 : Int32).toInt = 0 := rfl; omega) (by have : (-1 : Int32).toInt = -1 := rfl; have := iRg xq13_; have := iRg xq14_; have := iRg xq15_; have : (0 : Int32).toInt = 0 := rfl; have : (0 : Int32).toInt = 0 := rfl; omega) (by have : (-1 : Int32).toInt = -1 := rfl; have := iRg xq13_; have := iRg xq14_; have := iRg xq15_; have : (0 : Int32).toInt = 0 := rfl; have : (0 : Int32).toInt = 0 := rfl; omega) (by have : (-1 : Int32).toInt = -1 := rfl; have := iRg xq13_; have := iRg xq14_; have := iRg xq15_; have : (0 : Int32).toInt = 0 := rfl; have : (0 : Int32).toInt = 0 := rfl; omega) hR_f hK_f hc_h hc_al hc_mt hF hH hl
