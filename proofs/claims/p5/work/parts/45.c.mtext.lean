set_option maxHeartbeats 4000000 in
set_option maxRecDepth 100000 in
theorem c_X10_text {z : zD} {l : Launch} {D : va_G} {kA : Nat → ClassId} {M : mM} {T : mT} {sz : Nat} {h al mt ii pa li : Nat} {ta fpm sm nx tk pl ln wr : Int32} {va : Int64} {f : Nat → Int32} {an : Int32} {ft : Nat → Int32} (hc_h : M h = some (.inr (8, [.ref al, .ref mt, .ref ii, .int ta, .int fpm, .ref pa, .int sm, .int nx, .int tk, .int pl, .int ln, .long va, .int wr, .ref li]))) (hn_h : T h = none) (hc_al : M al = some (.inl (kA 0, 7506, .inl f))) (hn_al : T al = none) (hc_mt : M mt = some (.inl (kA 0, 600, .inl ft))) (hn_mt : T mt = none) (ht_pa : T pa = some 13) (ht_li : T li = some 14) (hR_f : Rng f) (hta : 0 ≤ ta.toInt ∧ ta.toInt ≤ 600) (hnn : NN ft) : mCiB z l yX10_text cX10_text 3 (some .int) 8 0 0 D kA M T sz [.ref h, .int an] (fun r u => ∃ va2 : Int64, ∃ g : Nat → Int32, (Rng g ∧ Ke f g) ∧ ∃ fpm2 : Int32, ((-2147483648 : Int) ≤ fpm2.toInt ∧ fpm2.toInt ≤ 2147483647) ∧ ∃ sm2 : Int32, ((-2147483648 : Int) ≤ sm2.toInt ∧ sm2.toInt ≤ 2147483647) ∧ ∃ nx2 : Int32, ((-2147483648 : Int) ≤ nx2.toInt ∧ nx2.toInt ≤ 2147483647) ∧ ∃ tk2 : Int32, ((-2147483648 : Int) ≤ tk2.toInt ∧ tk2.toInt ≤ 2147483647) ∧ ∃ pl2 : Int32, ((-2147483648 : Int) ≤ pl2.toInt ∧ pl2.toInt ≤ 2147483647) ∧ ∃ ln2 : Int32, ((-2147483648 : Int) ≤ ln2.toInt ∧ ln2.toInt ≤ 2147483647) ∧ ∃ wr2 : Int32, ((0 : Int) ≤ wr2.toInt ∧ wr2.toInt ≤ 1) ∧ (fpm2.toInt = FT ft ta.toInt.toNat ∧ u.1 al = some (.inl (kA 0, 7506, .inl g)) ∧ u.1 h = some (.inr (8, [.ref al, .ref mt, .ref ii, .int 0, .int fpm2, .ref pa, .int sm2, .int nx2, .int tk2, .int pl2, .int ln2, .long va2, .int wr2, .ref li]))) ∧ u.2 = T ∧ (∀ q, FrK T q → q ≠ al → q ≠ h → u.1 q = M q)) := by
  unfold mCiB
  refine start_WB (by decide) (Nat.le_of_ble_eq_true rfl) ?_
  intro p e s m below meth c ls hC hr hlk hnm hK hH hsz hZ hl
  have hx := hC.1
  have hb := hC.2.1
  have hl : lv_has ls 3 [(0, .ref h), (1, .int an)] := hl
  have hF : ∀ q, FrK T q → q ≠ al → q ≠ h → M q = M q := fun q _ _ _ => rfl
  have n_h_al : h ≠ al := neM hc_h hc_al (by simp)
  have n_h_mt : h ≠ mt := neM hc_h hc_mt (by simp)
  have n_al_h : al ≠ h := neM hc_al hc_h (by simp)
  have n_al_mt : al ≠ mt := neM hc_al hc_mt (by simp)
  have n_mt_h : mt ≠ h := neM hc_mt hc_h (by simp)
  have n_mt_al : mt ≠ al := neM hc_mt hc_al (by simp)
  have hK_f : Ke f f := Ke.rf
  refine lv_aload_n hx hb dX10_text_0 rfl (lv_at hl 0 rfl) ?_
  refine lv_aload_n hx hb dX10_text_1 rfl (lv_at hl 0 rfl) ?_
  refine xg hC hK hH flX10_180 hc_h rfl dX10_text_2 ?_
  refine yp (v := .int ta) hC hK hH flX10_201 hc_h (noT hn_h) rfl rfl (Nat.le_of_ble_eq_true rfl) dX10_text_5 (fun Hq_ lcq_ Mq1_ hc_h hfr hH => ?_)
  have hc_h : Mq1_ h = some (.inr (8, [.ref al, .ref mt, .ref ii, .int ta, .int fpm, .ref pa, .int ta, .int nx, .int tk, .int pl, .int ln, .long va, .int wr, .ref li])) := hc_h
  have hc_al : Mq1_ al = some (.inl (kA 0, 7506, .inl f)) := (hfr al n_al_h).trans hc_al
  have hc_mt : Mq1_ mt = some (.inl (kA 0, 600, .inl ft)) := (hfr mt n_mt_h).trans hc_mt
  have hF : ∀ q, FrK T q → q ≠ al → q ≠ h → Mq1_ q = M q := fun q hq h0 h1 => (hfr q h1).trans (hF q hq h0 h1)
  refine lv_aload_n hx hb dX10_text_8 rfl (lv_at hl 0 rfl) ?_
  refine lv_iconst (v := 0) hx hb dX10_text_9 (by decide) ?_
  refine yp (v := .int 0) hC hK hH flX10_180 hc_h (noT hn_h) rfl rfl (Nat.le_of_ble_eq_true rfl) dX10_text_10 (fun Hq_ lcq_ Mq2_ hc_h hfr hH => ?_)
  have hc_h : Mq2_ h = some (.inr (8, [.ref al, .ref mt, .ref ii, .int 0, .int fpm, .ref pa, .int ta, .int nx, .int tk, .int pl, .int ln, .long va, .int wr, .ref li])) := hc_h
  have hc_al : Mq2_ al = some (.inl (kA 0, 7506, .inl f)) := (hfr al n_al_h).trans hc_al
  have hc_mt : Mq2_ mt = some (.inl (kA 0, 600, .inl ft)) := (hfr mt n_mt_h).trans hc_mt
  have hF : ∀ q, FrK T q → q ≠ al → q ≠ h → Mq2_ q = M q := fun q hq h0 h1 => (hfr q h1).trans (hF q hq h0 h1)
  refine lv_aload_n hx hb dX10_text_13 rfl (lv_at hl 0 rfl) ?_
  refine lv_iconst (v := -1) hx hb dX10_text_14 (by decide) ?_
  refine yp (v := .int (-1)) hC hK hH flX10_20 hc_h (noT hn_h) rfl rfl (Nat.le_of_ble_eq_true rfl) dX10_text_15 (fun Hq_ lcq_ Mq3_ hc_h hfr hH => ?_)
  have hc_h : Mq3_ h = some (.inr (8, [.ref al, .ref mt, .ref ii, .int 0, .int (-1), .ref pa, .int ta, .int nx, .int tk, .int pl, .int ln, .long va, .int wr, .ref li])) := hc_h
  have hc_al : Mq3_ al = some (.inl (kA 0, 7506, .inl f)) := (hfr al n_al_h).trans hc_al
  have hc_mt : Mq3_ mt = some (.inl (kA 0, 600, .inl ft)) := (hfr mt n_mt_h).trans hc_mt
  have hF : ∀ q, FrK T q → q ≠ al → q ≠ h → Mq3_ q = M q := fun q hq h0 h1 => (hfr q h1).trans (hF q hq h0 h1)
  refine lv_aload_n hx hb dX10_text_18 rfl (lv_at hl 0 rfl) ?_
  refine lv_iconst (v := 0) hx hb dX10_text_19 (by decide) ?_
  refine yp (v := .int 0) hC hK hH flX10_234 hc_h (noT hn_h) rfl rfl (Nat.le_of_ble_eq_true rfl) dX10_text_20 (fun Hq_ lcq_ Mq4_ hc_h hfr hH => ?_)
  have hc_h : Mq4_ h = some (.inr (8, [.ref al, .ref mt, .ref ii, .int 0, .int (-1), .ref pa, .int ta, .int nx, .int tk, .int pl, .int ln, .long va, .int 0, .ref li])) := hc_h
  have hc_al : Mq4_ al = some (.inl (kA 0, 7506, .inl f)) := (hfr al n_al_h).trans hc_al
  have hc_mt : Mq4_ mt = some (.inl (kA 0, 600, .inl ft)) := (hfr mt n_mt_h).trans hc_mt
  have hF : ∀ q, FrK T q → q ≠ al → q ≠ h → Mq4_ q = M q := fun q hq h0 h1 => (hfr q h1).trans (hF q hq h0 h1)
  refine lv_aload_n hx hb dX10_text_23 rfl (lv_at hl 0 rfl) ?_
  refine lv_iconst (v := 0) hx hb dX10_text_24 (by decide) ?_
  refine yp (v := .int 0) hC hK hH flX10_204 hc_h (noT hn_h) rfl rfl (Nat.le_of_ble_eq_true rfl) dX10_text_25 (fun Hq_ lcq_ Mq5_ hc_h hfr hH => ?_)
  have hc_h : Mq5_ h = some (.inr (8, [.ref al, .ref mt, .ref ii, .int 0, .int (-1), .ref pa, .int ta, .int 0, .int tk, .int pl, .int ln, .long va, .int 0, .ref li])) := hc_h
  have hc_al : Mq5_ al = some (.inl (kA 0, 7506, .inl f)) := (hfr al n_al_h).trans hc_al
  have hc_mt : Mq5_ mt = some (.inl (kA 0, 600, .inl ft)) := (hfr mt n_mt_h).trans hc_mt
  have hF : ∀ q, FrK T q → q ≠ al → q ≠ h → Mq5_ q = M q := fun q hq h0 h1 => (hfr q h1).trans (hF q hq h0 h1)
  refine lv_aload_n hx hb dX10_text_28 rfl (lv_at hl 0 rfl) ?_
  refine lv_iconst (v := 0) hx hb dX10_text_29 (by decide) ?_
  refine yp (v := .int 0) hC hK hH flX10_245 hc_h (noT hn_h) rfl rfl (Nat.le_of_ble_eq_true rfl) dX10_text_30 (fun Hq_ lcq_ Mq6_ hc_h hfr hH => ?_)
  have hc_h : Mq6_ h = some (.inr (8, [.ref al, .ref mt, .ref ii, .int 0, .int (-1), .ref pa, .int ta, .int 0, .int tk, .int pl, .int 0, .long va, .int 0, .ref li])) := hc_h
  have hc_al : Mq6_ al = some (.inl (kA 0, 7506, .inl f)) := (hfr al n_al_h).trans hc_al
  have hc_mt : Mq6_ mt = some (.inl (kA 0, 600, .inl ft)) := (hfr mt n_mt_h).trans hc_mt
  have hF : ∀ q, FrK T q → q ≠ al → q ≠ h → Mq6_ q = M q := fun q hq h0 h1 => (hfr q h1).trans (hF q hq h0 h1)
  refine lv_aload_n hx hb dX10_text_33 rfl (lv_at hl 0 rfl) ?_
  refine goV hK hH (runV (As := []) (rest := []) hC hK hH (c_X10_takes hc_h hn_h hc_mt hn_mt ht_pa ht_li (by omega) (by exact hnn) (by have : (0 : Int32).toInt = 0 := rfl; omega)) mlX10_238 (rcvM hK hH hc_h rfl) ⟨⟨Nat.le_of_ble_eq_true rfl, Nat.le_of_ble_eq_true rfl⟩, Nat.le_of_ble_eq_true rfl, Nat.le_of_ble_eq_true rfl⟩ rfl hl.1 rfl (Nat.le_of_ble_eq_true rfl) dX10_text_34) (fun Mq8_ Tq9_ Hq_ lcq_ hP hz hH => ?_)
  try dsimp only at hP
  obtain ⟨xq7_, xq12_, ⟨l_xq12_, g_xq12_⟩, xq13_, ⟨l_xq13_, g_xq13_⟩, xq14_, ⟨l_xq14_, g_xq14_⟩, (⟨cq11_, hx_h⟩), eT, hfr⟩ := hP
  have eT := eT.symm; subst eT
  have hc_h : Mq8_ h = some (.inr (8, [.ref al, .ref mt, .ref ii, .int 0, .int (-1), .ref pa, .int ta, .int xq12_, .int xq13_, .int xq14_, .int 0, .long xq7_, .int 0, .ref li])) := hx_h
  have hc_al : Mq8_ al = some (.inl (kA 0, 7506, .inl f)) := (hfr al (Or.inl hn_al) n_al_h).trans hc_al
  have hc_mt : Mq8_ mt = some (.inl (kA 0, 600, .inl ft)) := (hfr mt (Or.inl hn_mt) n_mt_h).trans hc_mt
  have hF : ∀ q, FrK T q → q ≠ al → q ≠ h → Mq8_ q = M q := fun q hq h0 h1 => (hfr q hq h1).trans (hF q hq h0 h1)
  have cq11_ : (0 : Int) ≤ xq14_.toInt ∧ xq14_.toInt ≤ xq12_.toInt ∧ xq12_.toInt ≤ ta.toInt ∧ (xq13_.toInt = 0 ∨ xq14_.toInt < xq12_.toInt) ∧ (xq13_.toInt ≠ 1 ∨ xq12_.toInt ≠ xq14_.toInt + 1 ∨ xq7_.toInt ≤ 26) ∧ Tk ft ta xq13_ xq14_ xq12_ ∧ xq14_.toInt = (scE pSp (nC ft) ta.toInt.toNat (0 : Int).toNat : Int) ∧ (Va ft xq13_ xq14_ xq12_ xq7_) := cq11_
  have hP9 : xq14_.toInt.toNat = scE pSp (nC ft) ta.toInt.toNat 0 := by have h8 := cq11_.2.2.2.2.2.2.1; have h7 : ((0 : Int)).toNat = 0 := rfl; rw [h7] at h8; omega
  have loop : ∀ (n : Nat) (yq15_ : Int32) (yq16_ : Int32) (yq17_ : Int32) (yq18_ : Int32) (yq19_ : Int32) (yq20_ : Int64) (yq21_ : Int32) (Fq23_ : Nat → Int32) (Hq_ : Heap) (lcq_ : List Loc) (Mq22_ : mM) (ls : Array Slot), 2 * (602 - yq18_.toInt) - yq21_.toInt ≤ (n : Int) → (0 : Int) ≤ yq16_.toInt → yq16_.toInt ≤ 600 → (0 : Int) ≤ yq17_.toInt → yq17_.toInt ≤ 4 → (0 : Int) ≤ yq18_.toInt → yq18_.toInt ≤ 600 → (0 : Int) ≤ yq19_.toInt → yq19_.toInt ≤ 151 → (0 : Int) ≤ yq21_.toInt → yq21_.toInt ≤ 1 → (yq18_.toInt ≤ yq16_.toInt) → (yq16_.toInt ≤ ta.toInt) → (yq17_.toInt = 0 ∨ yq18_.toInt < yq16_.toInt) → (yq17_.toInt ≠ 1 ∨ yq16_.toInt ≠ yq18_.toInt + 1 ∨ yq20_.toInt ≤ 26) → (yq21_.toInt = 1 ∨ 4 * yq19_.toInt ≤ yq18_.toInt) → Rng Fq23_ → Ke f Fq23_ → (Tk ft ta yq17_ yq18_ yq16_) → (Va ft yq17_ yq18_ yq16_ yq20_) → (Rt ft ta.toInt.toNat yq21_ yq15_ yq19_ yq18_) → Mq22_ h = some (.inr (8, [.ref al, .ref mt, .ref ii, .int 0, .int yq15_, .ref pa, .int ta, .int yq16_, .int yq17_, .int yq18_, .int yq19_, .long yq20_, .int yq21_, .ref li])) → Mq22_ al = some (.inl (kA 0, 7506, .inl Fq23_)) → Mq22_ mt = some (.inl (kA 0, 600, .inl ft)) → (∀ q, FrK T q → q ≠ al → q ≠ h → Mq22_ q = M q) → mS D kA Mq22_ T (mA M T sz) s.heap Hq_ lcq_ → lv_has ls 3 [(0, .ref h), (1, .int an)] → W p l e (rmL 8 0 0) s m ([.ref h, .int an] : List Value).toArray below meth c Hq_ lcq_ 0 0 (MQ below (va_Qi (fun r u => ∃ va2 : Int64, ∃ g : Nat → Int32, (Rng g ∧ Ke f g) ∧ ∃ fpm2 : Int32, ((-2147483648 : Int) ≤ fpm2.toInt ∧ fpm2.toInt ≤ 2147483647) ∧ ∃ sm2 : Int32, ((-2147483648 : Int) ≤ sm2.toInt ∧ sm2.toInt ≤ 2147483647) ∧ ∃ nx2 : Int32, ((-2147483648 : Int) ≤ nx2.toInt ∧ nx2.toInt ≤ 2147483647) ∧ ∃ tk2 : Int32, ((-2147483648 : Int) ≤ tk2.toInt ∧ tk2.toInt ≤ 2147483647) ∧ ∃ pl2 : Int32, ((-2147483648 : Int) ≤ pl2.toInt ∧ pl2.toInt ≤ 2147483647) ∧ ∃ ln2 : Int32, ((-2147483648 : Int) ≤ ln2.toInt ∧ ln2.toInt ≤ 2147483647) ∧ ∃ wr2 : Int32, ((0 : Int) ≤ wr2.toInt ∧ wr2.toInt ≤ 1) ∧ (fpm2.toInt = FT ft ta.toInt.toNat ∧ u.1 al = some (.inl (kA 0, 7506, .inl g)) ∧ u.1 h = some (.inr (8, [.ref al, .ref mt, .ref ii, .int 0, .int fpm2, .ref pa, .int sm2, .int nx2, .int tk2, .int pl2, .int ln2, .long va2, .int wr2, .ref li]))) ∧ u.2 = T ∧ (∀ q, FrK T q → q ≠ al → q ≠ h → u.1 q = M q)) (mB D kA M T sz) (mA M T sz)) ([.ref h, .int an] : List Value).toArray s 0 0 (mA M T sz)) (F0 m 37 ls []) := by
    intro n
    induction n with
    | zero =>
      intro yq15_ yq16_ yq17_ yq18_ yq19_ yq20_ yq21_ Fq23_ Hq_ lcq_ Mq22_ ls hme l_yq16_ g_yq16_ l_yq17_ g_yq17_ l_yq18_ g_yq18_ l_yq19_ g_yq19_ l_yq21_ g_yq21_ hv0_yq15_ hv1_yq15_ hv2_yq15_ hv3_yq15_ hv4_yq15_ hR_Fq23_ hK_Fq23_ hw0_yq15_ hw1_yq15_ hw2_yq15_ hc_h hc_al hc_mt hF hH hl
      exfalso; omega
    | succ n ih =>
      intro yq15_ yq16_ yq17_ yq18_ yq19_ yq20_ yq21_ Fq23_ Hq_ lcq_ Mq22_ ls hme l_yq16_ g_yq16_ l_yq17_ g_yq17_ l_yq18_ g_yq18_ l_yq19_ g_yq19_ l_yq21_ g_yq21_ hv0_yq15_ hv1_yq15_ hv2_yq15_ hv3_yq15_ hv4_yq15_ hR_Fq23_ hK_Fq23_ hw0_yq15_ hw1_yq15_ hw2_yq15_ hc_h hc_al hc_mt hF hH hl
      refine lv_aload_n hx hb dX10_text_37 rfl (lv_at hl 0 rfl) ?_
      refine xg hC hK hH flX10_234 hc_h rfl dX10_text_38 ?_
      refine jif_ne (tgt := 58) hx hb dX10_text_41 (by decide) (fun cq24_ => ?_) (fun cq24_ => ?_)
      · skip
        have cq24_ : yq21_.toInt ≠ 0 := cq24_
        refine lv_aload_n hx hb dX10_text_58 rfl (lv_at hl 0 rfl) ?_
        refine xg hC hK hH flX10_234 hc_h rfl dX10_text_59 ?_
        refine jif_eq (tgt := 67) hx hb dX10_text_62 (by decide) (fun cq25_ => absurd cq25_ (by have := iRg yq21_; have : (0 : Int32).toInt = 0 := rfl; omega)) (fun cq25_ => ?_)
        have cq25_ : yq21_.toInt ≠ 0 := cq25_
        refine lv_iconst (v := -1) hx hb dX10_text_65 (by decide) ?_
        exact ret_i hC hr hlk hK hH (⟨yq20_, Fq23_, ⟨hR_Fq23_, hK_Fq23_⟩, yq15_, iRg _, ta, iRg _, yq16_, iRg _, yq17_, iRg _, yq18_, iRg _, yq19_, iRg _, yq21_, ⟨by omega, by omega⟩, ⟨(Or.resolve_left hw2_yq15_ (fun h9 => by have := h9.1; omega)).2, hc_al, hc_h⟩, rfl, hF⟩) (Nat.le_of_ble_eq_true rfl) (Nat.le_of_ble_eq_true rfl) dX10_text_66
      · skip
        have cq24_ : yq21_.toInt = 0 := cq24_
        refine lv_aload_n hx hb dX10_text_44 rfl (lv_at hl 0 rfl) ?_
        refine xg hC hK hH flX10_217 hc_h rfl dX10_text_45 ?_
        refine jif_eq (tgt := 58) hx hb dX10_text_48 (by decide) (fun cq26_ => ?_) (fun cq26_ => ?_)
        · skip
          have cq26_ : yq17_.toInt = 0 := cq26_
          refine lv_aload_n hx hb dX10_text_58 rfl (lv_at hl 0 rfl) ?_
          refine xg hC hK hH flX10_234 hc_h rfl dX10_text_59 ?_
          refine jif_eq (tgt := 67) hx hb dX10_text_62 (by decide) (fun cq27_ => ?_) (fun cq27_ => absurd cq27_ (by have := iRg yq21_; have : (0 : Int32).toInt = 0 := rfl; omega))
          have cq27_ : yq21_.toInt = 0 := cq27_
          have hFPm : yq15_.toInt = FT ft ta.toInt.toNat := by have h7 := Or.resolve_right hw2_yq15_ (fun h8 => by have := h8.1; omega); rw [h7.2.1, h7.2.2, show ta.toInt.toNat + 1 - yq19_.toInt.toNat = (ta.toInt.toNat - yq19_.toInt.toNat) + 1 by omega, ftE (by have := hw0_yq15_.ki; omega)]
          refine lv_iload_n hx hb dX10_text_67 rfl (lv_at hl 1 rfl) ?_
          refine jif_eq (tgt := 75) hx hb dX10_text_68 (by decide) (fun cq28_ => ?_) (fun cq28_ => ?_)
          · skip
            have cq28_ : an.toInt = 0 := cq28_
            refine lv_iconst (v := 0) hx hb dX10_text_75 (by decide) ?_
            refine lv_istore_n (lv' := [(2, .int 0), (0, .ref h), (1, .int an)]) hx hb dX10_text_76 rfl hl (by decide) rfl (fun ls hl => ?_)
            have loop : ∀ (n : Nat) (yq29_ : Int32) (Fq31_ : Nat → Int32) (Hq_ : Heap) (lcq_ : List Loc) (Mq30_ : mM) (ls : Array Slot), 152 - yq29_.toInt ≤ (n : Int) → (0 : Int) ≤ yq29_.toInt → yq29_.toInt ≤ 151 → Rng Fq31_ → Ke f Fq31_ → Mq30_ h = some (.inr (8, [.ref al, .ref mt, .ref ii, .int 0, .int yq15_, .ref pa, .int ta, .int yq16_, .int yq17_, .int yq18_, .int yq19_, .long yq20_, .int yq21_, .ref li])) → Mq30_ al = some (.inl (kA 0, 7506, .inl Fq31_)) → Mq30_ mt = some (.inl (kA 0, 600, .inl ft)) → (∀ q, FrK T q → q ≠ al → q ≠ h → Mq30_ q = M q) → mS D kA Mq30_ T (mA M T sz) s.heap Hq_ lcq_ → lv_has ls 3 [(2, .int yq29_), (0, .ref h), (1, .int an)] → W p l e (rmL 8 0 0) s m ([.ref h, .int an] : List Value).toArray below meth c Hq_ lcq_ 0 0 (MQ below (va_Qi (fun r u => ∃ va2 : Int64, ∃ g : Nat → Int32, (Rng g ∧ Ke f g) ∧ ∃ fpm2 : Int32, ((-2147483648 : Int) ≤ fpm2.toInt ∧ fpm2.toInt ≤ 2147483647) ∧ ∃ sm2 : Int32, ((-2147483648 : Int) ≤ sm2.toInt ∧ sm2.toInt ≤ 2147483647) ∧ ∃ nx2 : Int32, ((-2147483648 : Int) ≤ nx2.toInt ∧ nx2.toInt ≤ 2147483647) ∧ ∃ tk2 : Int32, ((-2147483648 : Int) ≤ tk2.toInt ∧ tk2.toInt ≤ 2147483647) ∧ ∃ pl2 : Int32, ((-2147483648 : Int) ≤ pl2.toInt ∧ pl2.toInt ≤ 2147483647) ∧ ∃ ln2 : Int32, ((-2147483648 : Int) ≤ ln2.toInt ∧ ln2.toInt ≤ 2147483647) ∧ ∃ wr2 : Int32, ((0 : Int) ≤ wr2.toInt ∧ wr2.toInt ≤ 1) ∧ (fpm2.toInt = FT ft ta.toInt.toNat ∧ u.1 al = some (.inl (kA 0, 7506, .inl g)) ∧ u.1 h = some (.inr (8, [.ref al, .ref mt, .ref ii, .int 0, .int fpm2, .ref pa, .int sm2, .int nx2, .int tk2, .int pl2, .int ln2, .long va2, .int wr2, .ref li]))) ∧ u.2 = T ∧ (∀ q, FrK T q → q ≠ al → q ≠ h → u.1 q = M q)) (mB D kA M T sz) (mA M T sz)) ([.ref h, .int an] : List Value).toArray s 0 0 (mA M T sz)) (F0 m 77 ls []) := by
              intro n
              induction n with
              | zero =>
                intro yq29_ Fq31_ Hq_ lcq_ Mq30_ ls hme l_yq29_ g_yq29_ hR_Fq31_ hK_Fq31_ hc_h hc_al hc_mt hF hH hl
                exfalso; omega
              | succ n ih =>
                intro yq29_ Fq31_ Hq_ lcq_ Mq30_ ls hme l_yq29_ g_yq29_ hR_Fq31_ hK_Fq31_ hc_h hc_al hc_mt hF hH hl
                refine lv_iload_n hx hb dX10_text_77 rfl (lv_at hl 0 rfl) ?_
                refine lv_aload_n hx hb dX10_text_78 rfl (lv_at hl 1 rfl) ?_
                refine xg hC hK hH flX10_245 hc_h rfl dX10_text_79 ?_
                refine jic_ge (tgt := 106) hx hb dX10_text_82 (by decide) (fun cq32_ => ?_) (fun cq32_ => ?_)
                · skip
                  have cq32_ : yq19_.toInt ≤ yq29_.toInt := cq32_
                  refine lv_iload_n hx hb dX10_text_106 rfl (lv_at hl 0 rfl) ?_
                  exact ret_i hC hr hlk hK hH (⟨yq20_, Fq31_, ⟨hR_Fq31_, hK_Fq31_⟩, yq15_, iRg _, ta, iRg _, yq16_, iRg _, yq17_, iRg _, yq18_, iRg _, yq19_, iRg _, yq21_, ⟨by omega, by omega⟩, ⟨hFPm, hc_al, hc_h⟩, rfl, hF⟩) (Nat.le_of_ble_eq_true rfl) (Nat.le_of_ble_eq_true rfl) dX10_text_107
                · skip
                  have cq32_ : yq29_.toInt < yq19_.toInt := cq32_
                  refine lv_aload_n hx hb dX10_text_85 rfl (lv_at hl 1 rfl) ?_
                  refine lv_aload_n hx hb dX10_text_86 rfl (lv_at hl 1 rfl) ?_
                  refine lv_bipush (v := 8) hx hb dX10_text_87 (by decide) ?_
                  refine lv_iload_n hx hb dX10_text_89 rfl (lv_at hl 0 rfl) ?_
                  refine lv_imul hx hb dX10_text_90 ?_
                  refine lv_topi (fun zq33_ e_zq33_ => ?_)
                  have h_zq33_ : zq33_.toInt = 8 * yq29_.toInt := by rw [e_zq33_, iMul (by show (-2147483648 : Int) ≤ 8 * yq29_.toInt; omega) (by show 8 * yq29_.toInt ≤ (2147483647 : Int); omega)]; rfl
                  refine goI hK hH (runV (As := [.int zq33_]) (rest := [.ref h]) hC hK hH (c_X10_done hc_h hn_h hc_al hn_al ht_pa ht_li (by exact hR_Fq31_) (by omega)) mlX10_269 (rcvM hK hH hc_h rfl) ⟨⟨Nat.le_of_ble_eq_true rfl, Nat.le_of_ble_eq_true rfl⟩, Nat.le_of_ble_eq_true rfl, Nat.le_of_ble_eq_true rfl⟩ rfl hl.1 rfl (Nat.le_of_ble_eq_true rfl) dX10_text_91) (fun rq36_ Mq34_ Tq35_ Hq_ lcq_ hP hz hH => ?_)
                  try dsimp only at hP
                  obtain ⟨gq37_, h_gq37_, (hx_al), eT, hfr⟩ := hP
                  have eT := eT.symm; subst eT
                  have hc_h : Mq34_ h = some (.inr (8, [.ref al, .ref mt, .ref ii, .int 0, .int yq15_, .ref pa, .int ta, .int yq16_, .int yq17_, .int yq18_, .int yq19_, .long yq20_, .int yq21_, .ref li])) := (hfr h (Or.inl hn_h) n_h_al).trans hc_h
                  have hc_al : Mq34_ al = some (.inl (kA 0, 7506, .inl gq37_)) := hx_al
                  have hc_mt : Mq34_ mt = some (.inl (kA 0, 600, .inl ft)) := (hfr mt (Or.inl hn_mt) n_mt_al).trans hc_mt
                  have hF : ∀ q, FrK T q → q ≠ al → q ≠ h → Mq34_ q = M q := fun q hq h0 h1 => (hfr q hq h0).trans (hF q hq h0 h1)
                  have hR_gq37_ : Rng gq37_ := h_gq37_.1
                  have hK_gq37_ : Ke f gq37_ := hK_Fq31_.tr h_gq37_.2
                  refine goI hK hH (runV (As := [.int rq36_]) (rest := []) hC hK hH (c_X10_told hc_h hn_h hc_al hn_al ht_pa ht_li (by exact hR_gq37_)) mlX10_97 (rcvM hK hH hc_h rfl) ⟨⟨Nat.le_of_ble_eq_true rfl, Nat.le_of_ble_eq_true rfl⟩, Nat.le_of_ble_eq_true rfl, Nat.le_of_ble_eq_true rfl⟩ rfl hl.1 rfl (Nat.le_of_ble_eq_true rfl) dX10_text_94) (fun rq40_ Mq38_ Tq39_ Hq_ lcq_ hP hz hH => ?_)
                  try dsimp only at hP
                  obtain ⟨gq41_, h_gq41_, (⟨er_rq40_, hx_al⟩), eT, hfr⟩ := hP
                  have eT := eT.symm; subst eT
                  have er_rq40_ := er_rq40_.symm; subst er_rq40_
                  have hc_h : Mq38_ h = some (.inr (8, [.ref al, .ref mt, .ref ii, .int 0, .int yq15_, .ref pa, .int ta, .int yq16_, .int yq17_, .int yq18_, .int yq19_, .long yq20_, .int yq21_, .ref li])) := (hfr h (Or.inl hn_h) n_h_al).trans hc_h
                  have hc_al : Mq38_ al = some (.inl (kA 0, 7506, .inl gq41_)) := hx_al
                  have hc_mt : Mq38_ mt = some (.inl (kA 0, 600, .inl ft)) := (hfr mt (Or.inl hn_mt) n_mt_al).trans hc_mt
                  have hF : ∀ q, FrK T q → q ≠ al → q ≠ h → Mq38_ q = M q := fun q hq h0 h1 => (hfr q hq h0).trans (hF q hq h0 h1)
                  have hR_gq41_ : Rng gq41_ := h_gq41_.1
                  have hK_gq41_ : Ke f gq41_ := hK_gq37_.tr h_gq41_.2
                  refine jif_ne (tgt := 106) hx hb dX10_text_97 (by decide) (fun cq42_ => ?_) (fun cq42_ => ?_)
                  · skip
                    have cq42_ : rq36_.toInt ≠ 0 := cq42_
                    refine lv_iload_n hx hb dX10_text_106 rfl (lv_at hl 0 rfl) ?_
                    exact ret_i hC hr hlk hK hH (⟨yq20_, gq41_, ⟨hR_gq41_, hK_gq41_⟩, yq15_, iRg _, ta, iRg _, yq16_, iRg _, yq17_, iRg _, yq18_, iRg _, yq19_, iRg _, yq21_, ⟨by omega, by omega⟩, ⟨hFPm, hc_al, hc_h⟩, rfl, hF⟩) (Nat.le_of_ble_eq_true rfl) (Nat.le_of_ble_eq_true rfl) dX10_text_107
                  · skip
                    have cq42_ : rq36_.toInt = 0 := cq42_
                    obtain ⟨zq43_, e_zq43_⟩ : ∃ y : Int32, y = yq29_ + 1 := ⟨_, rfl⟩
                    refine lv_iinc (v := zq43_) (lv' := [(2, .int zq43_), (0, .ref h), (1, .int an)]) hx hb dX10_text_100 hl (k := 0) rfl (by rw [e_zq43_]; rfl) (by decide) rfl (fun ls hl => ?_)
                    have h_zq43_ : zq43_.toInt = yq29_.toInt + 1 := by rw [e_zq43_, iAdd (by have : (1 : Int32).toInt = 1 := rfl; omega) (by have : (1 : Int32).toInt = 1 := rfl; omega)]; rfl
                    refine lv_goto (tgt := 77) hx hb dX10_text_103 (by decide) ?_
                    exact ih zq43_ gq41_ _ _ _ ls (by have := iRg zq43_; omega) (by have := iRg zq43_; omega) (by have := iRg zq43_; omega) hR_gq41_ hK_gq41_ hc_h hc_al hc_mt hF hH (lv_sub hl [0, 1, 2] rfl)
            exact loop (Int.toNat (152 - 0)) 0 Fq23_ _ _ _ ls (by have : (0 : Int32).toInt = 0 := rfl; omega) (by have : (0 : Int32).toInt = 0 := rfl; omega) (by have : (0 : Int32).toInt = 0 := rfl; omega) hR_Fq23_ hK_Fq23_ hc_h hc_al hc_mt hF hH hl
          · skip
            have cq28_ : an.toInt ≠ 0 := cq28_
            refine lv_aload_n hx hb dX10_text_71 rfl (lv_at hl 0 rfl) ?_
            refine goV hK hH (runV (As := []) (rest := []) hC hK hH (c_X10_begins hc_h hn_h hc_al hn_al ht_pa ht_li (by exact hR_Fq23_)) mlX10_30 (rcvM hK hH hc_h rfl) ⟨⟨Nat.le_of_ble_eq_true rfl, Nat.le_of_ble_eq_true rfl⟩, Nat.le_of_ble_eq_true rfl, Nat.le_of_ble_eq_true rfl⟩ rfl hl.1 rfl (Nat.le_of_ble_eq_true rfl) dX10_text_72) (fun Mq44_ Tq45_ Hq_ lcq_ hP hz hH => ?_)
            try dsimp only at hP
            obtain ⟨gq47_, h_gq47_, (hx_al), eT, hfr⟩ := hP
            have eT := eT.symm; subst eT
            have hc_h : Mq44_ h = some (.inr (8, [.ref al, .ref mt, .ref ii, .int 0, .int yq15_, .ref pa, .int ta, .int yq16_, .int yq17_, .int yq18_, .int yq19_, .long yq20_, .int yq21_, .ref li])) := (hfr h (Or.inl hn_h) n_h_al).trans hc_h
            have hc_al : Mq44_ al = some (.inl (kA 0, 7506, .inl gq47_)) := hx_al
            have hc_mt : Mq44_ mt = some (.inl (kA 0, 600, .inl ft)) := (hfr mt (Or.inl hn_mt) n_mt_al).trans hc_mt
            have hF : ∀ q, FrK T q → q ≠ al → q ≠ h → Mq44_ q = M q := fun q hq h0 h1 => (hfr q hq h0).trans (hF q hq h0 h1)
            have hR_gq47_ : Rng gq47_ := h_gq47_.1
            have hK_gq47_ : Ke f gq47_ := hK_Fq23_.tr h_gq47_.2
            refine lv_iconst (v := 0) hx hb dX10_text_75 (by decide) ?_
            refine lv_istore_n (lv' := [(2, .int 0), (0, .ref h), (1, .int an)]) hx hb dX10_text_76 rfl hl (by decide) rfl (fun ls hl => ?_)
            have loop : ∀ (n : Nat) (yq48_ : Int32) (Fq50_ : Nat → Int32) (Hq_ : Heap) (lcq_ : List Loc) (Mq49_ : mM) (ls : Array Slot), 152 - yq48_.toInt ≤ (n : Int) → (0 : Int) ≤ yq48_.toInt → yq48_.toInt ≤ 151 → Rng Fq50_ → Ke f Fq50_ → Mq49_ h = some (.inr (8, [.ref al, .ref mt, .ref ii, .int 0, .int yq15_, .ref pa, .int ta, .int yq16_, .int yq17_, .int yq18_, .int yq19_, .long yq20_, .int yq21_, .ref li])) → Mq49_ al = some (.inl (kA 0, 7506, .inl Fq50_)) → Mq49_ mt = some (.inl (kA 0, 600, .inl ft)) → (∀ q, FrK T q → q ≠ al → q ≠ h → Mq49_ q = M q) → mS D kA Mq49_ T (mA M T sz) s.heap Hq_ lcq_ → lv_has ls 3 [(2, .int yq48_), (0, .ref h), (1, .int an)] → W p l e (rmL 8 0 0) s m ([.ref h, .int an] : List Value).toArray below meth c Hq_ lcq_ 0 0 (MQ below (va_Qi (fun r u => ∃ va2 : Int64, ∃ g : Nat → Int32, (Rng g ∧ Ke f g) ∧ ∃ fpm2 : Int32, ((-2147483648 : Int) ≤ fpm2.toInt ∧ fpm2.toInt ≤ 2147483647) ∧ ∃ sm2 : Int32, ((-2147483648 : Int) ≤ sm2.toInt ∧ sm2.toInt ≤ 2147483647) ∧ ∃ nx2 : Int32, ((-2147483648 : Int) ≤ nx2.toInt ∧ nx2.toInt ≤ 2147483647) ∧ ∃ tk2 : Int32, ((-2147483648 : Int) ≤ tk2.toInt ∧ tk2.toInt ≤ 2147483647) ∧ ∃ pl2 : Int32, ((-2147483648 : Int) ≤ pl2.toInt ∧ pl2.toInt ≤ 2147483647) ∧ ∃ ln2 : Int32, ((-2147483648 : Int) ≤ ln2.toInt ∧ ln2.toInt ≤ 2147483647) ∧ ∃ wr2 : Int32, ((0 : Int) ≤ wr2.toInt ∧ wr2.toInt ≤ 1) ∧ (fpm2.toInt = FT ft ta.toInt.toNat ∧ u.1 al = some (.inl (kA 0, 7506, .inl g)) ∧ u.1 h = some (.inr (8, [.ref al, .ref mt, .ref ii, .int 0, .int fpm2, .ref pa, .int sm2, .int nx2, .int tk2, .int pl2, .int ln2, .long va2, .int wr2, .ref li]))) ∧ u.2 = T ∧ (∀ q, FrK T q → q ≠ al → q ≠ h → u.1 q = M q)) (mB D kA M T sz) (mA M T sz)) ([.ref h, .int an] : List Value).toArray s 0 0 (mA M T sz)) (F0 m 77 ls []) := by
              intro n
              induction n with
              | zero =>
                intro yq48_ Fq50_ Hq_ lcq_ Mq49_ ls hme l_yq48_ g_yq48_ hR_Fq50_ hK_Fq50_ hc_h hc_al hc_mt hF hH hl
                exfalso; omega
              | succ n ih =>
                intro yq48_ Fq50_ Hq_ lcq_ Mq49_ ls hme l_yq48_ g_yq48_ hR_Fq50_ hK_Fq50_ hc_h hc_al hc_mt hF hH hl
                refine lv_iload_n hx hb dX10_text_77 rfl (lv_at hl 0 rfl) ?_
                refine lv_aload_n hx hb dX10_text_78 rfl (lv_at hl 1 rfl) ?_
                refine xg hC hK hH flX10_245 hc_h rfl dX10_text_79 ?_
                refine jic_ge (tgt := 106) hx hb dX10_text_82 (by decide) (fun cq51_ => ?_) (fun cq51_ => ?_)
                · skip
                  have cq51_ : yq19_.toInt ≤ yq48_.toInt := cq51_
                  refine lv_iload_n hx hb dX10_text_106 rfl (lv_at hl 0 rfl) ?_
                  exact ret_i hC hr hlk hK hH (⟨yq20_, Fq50_, ⟨hR_Fq50_, hK_Fq50_⟩, yq15_, iRg _, ta, iRg _, yq16_, iRg _, yq17_, iRg _, yq18_, iRg _, yq19_, iRg _, yq21_, ⟨by omega, by omega⟩, ⟨hFPm, hc_al, hc_h⟩, rfl, hF⟩) (Nat.le_of_ble_eq_true rfl) (Nat.le_of_ble_eq_true rfl) dX10_text_107
                · skip
                  have cq51_ : yq48_.toInt < yq19_.toInt := cq51_
                  refine lv_aload_n hx hb dX10_text_85 rfl (lv_at hl 1 rfl) ?_
                  refine lv_aload_n hx hb dX10_text_86 rfl (lv_at hl 1 rfl) ?_
                  refine lv_bipush (v := 8) hx hb dX10_text_87 (by decide) ?_
                  refine lv_iload_n hx hb dX10_text_89 rfl (lv_at hl 0 rfl) ?_
                  refine lv_imul hx hb dX10_text_90 ?_
                  refine lv_topi (fun zq52_ e_zq52_ => ?_)
                  have h_zq52_ : zq52_.toInt = 8 * yq48_.toInt := by rw [e_zq52_, iMul (by show (-2147483648 : Int) ≤ 8 * yq48_.toInt; omega) (by show 8 * yq48_.toInt ≤ (2147483647 : Int); omega)]; rfl
                  refine goI hK hH (runV (As := [.int zq52_]) (rest := [.ref h]) hC hK hH (c_X10_done hc_h hn_h hc_al hn_al ht_pa ht_li (by exact hR_Fq50_) (by omega)) mlX10_269 (rcvM hK hH hc_h rfl) ⟨⟨Nat.le_of_ble_eq_true rfl, Nat.le_of_ble_eq_true rfl⟩, Nat.le_of_ble_eq_true rfl, Nat.le_of_ble_eq_true rfl⟩ rfl hl.1 rfl (Nat.le_of_ble_eq_true rfl) dX10_text_91) (fun rq55_ Mq53_ Tq54_ Hq_ lcq_ hP hz hH => ?_)
                  try dsimp only at hP
                  obtain ⟨gq56_, h_gq56_, (hx_al), eT, hfr⟩ := hP
                  have eT := eT.symm; subst eT
                  have hc_h : Mq53_ h = some (.inr (8, [.ref al, .ref mt, .ref ii, .int 0, .int yq15_, .ref pa, .int ta, .int yq16_, .int yq17_, .int yq18_, .int yq19_, .long yq20_, .int yq21_, .ref li])) := (hfr h (Or.inl hn_h) n_h_al).trans hc_h
                  have hc_al : Mq53_ al = some (.inl (kA 0, 7506, .inl gq56_)) := hx_al
                  have hc_mt : Mq53_ mt = some (.inl (kA 0, 600, .inl ft)) := (hfr mt (Or.inl hn_mt) n_mt_al).trans hc_mt
                  have hF : ∀ q, FrK T q → q ≠ al → q ≠ h → Mq53_ q = M q := fun q hq h0 h1 => (hfr q hq h0).trans (hF q hq h0 h1)
                  have hR_gq56_ : Rng gq56_ := h_gq56_.1
                  have hK_gq56_ : Ke f gq56_ := hK_Fq50_.tr h_gq56_.2
                  refine goI hK hH (runV (As := [.int rq55_]) (rest := []) hC hK hH (c_X10_told hc_h hn_h hc_al hn_al ht_pa ht_li (by exact hR_gq56_)) mlX10_97 (rcvM hK hH hc_h rfl) ⟨⟨Nat.le_of_ble_eq_true rfl, Nat.le_of_ble_eq_true rfl⟩, Nat.le_of_ble_eq_true rfl, Nat.le_of_ble_eq_true rfl⟩ rfl hl.1 rfl (Nat.le_of_ble_eq_true rfl) dX10_text_94) (fun rq59_ Mq57_ Tq58_ Hq_ lcq_ hP hz hH => ?_)
                  try dsimp only at hP
                  obtain ⟨gq60_, h_gq60_, (⟨er_rq59_, hx_al⟩), eT, hfr⟩ := hP
                  have eT := eT.symm; subst eT
                  have er_rq59_ := er_rq59_.symm; subst er_rq59_
                  have hc_h : Mq57_ h = some (.inr (8, [.ref al, .ref mt, .ref ii, .int 0, .int yq15_, .ref pa, .int ta, .int yq16_, .int yq17_, .int yq18_, .int yq19_, .long yq20_, .int yq21_, .ref li])) := (hfr h (Or.inl hn_h) n_h_al).trans hc_h
                  have hc_al : Mq57_ al = some (.inl (kA 0, 7506, .inl gq60_)) := hx_al
                  have hc_mt : Mq57_ mt = some (.inl (kA 0, 600, .inl ft)) := (hfr mt (Or.inl hn_mt) n_mt_al).trans hc_mt
                  have hF : ∀ q, FrK T q → q ≠ al → q ≠ h → Mq57_ q = M q := fun q hq h0 h1 => (hfr q hq h0).trans (hF q hq h0 h1)
                  have hR_gq60_ : Rng gq60_ := h_gq60_.1
                  have hK_gq60_ : Ke f gq60_ := hK_gq56_.tr h_gq60_.2
                  refine jif_ne (tgt := 106) hx hb dX10_text_97 (by decide) (fun cq61_ => ?_) (fun cq61_ => ?_)
                  · skip
                    have cq61_ : rq55_.toInt ≠ 0 := cq61_
                    refine lv_iload_n hx hb dX10_text_106 rfl (lv_at hl 0 rfl) ?_
                    exact ret_i hC hr hlk hK hH (⟨yq20_, gq60_, ⟨hR_gq60_, hK_gq60_⟩, yq15_, iRg _, ta, iRg _, yq16_, iRg _, yq17_, iRg _, yq18_, iRg _, yq19_, iRg _, yq21_, ⟨by omega, by omega⟩, ⟨hFPm, hc_al, hc_h⟩, rfl, hF⟩) (Nat.le_of_ble_eq_true rfl) (Nat.le_of_ble_eq_true rfl) dX10_text_107
                  · skip
                    have cq61_ : rq55_.toInt = 0 := cq61_
                    obtain ⟨zq62_, e_zq62_⟩ : ∃ y : Int32, y = yq48_ + 1 := ⟨_, rfl⟩
                    refine lv_iinc (v := zq62_) (lv' := [(2, .int zq62_), (0, .ref h), (1, .int an)]) hx hb dX10_text_100 hl (k := 0) rfl (by rw [e_zq62_]; rfl) (by decide) rfl (fun ls hl => ?_)
                    have h_zq62_ : zq62_.toInt = yq48_.toInt + 1 := by rw [e_zq62_, iAdd (by have : (1 : Int32).toInt = 1 := rfl; omega) (by have : (1 : Int32).toInt = 1 := rfl; omega)]; rfl
                    refine lv_goto (tgt := 77) hx hb dX10_text_103 (by decide) ?_
                    exact ih zq62_ gq60_ _ _ _ ls (by have := iRg zq62_; omega) (by have := iRg zq62_; omega) (by have := iRg zq62_; omega) hR_gq60_ hK_gq60_ hc_h hc_al hc_mt hF hH (lv_sub hl [0, 1, 2] rfl)
            exact loop (Int.toNat (152 - 0)) 0 gq47_ _ _ _ ls (by have : (0 : Int32).toInt = 0 := rfl; omega) (by have : (0 : Int32).toInt = 0 := rfl; omega) (by have : (0 : Int32).toInt = 0 := rfl; omega) hR_gq47_ hK_gq47_ hc_h hc_al hc_mt hF hH hl
        · skip
          have cq26_ : yq17_.toInt ≠ 0 := cq26_
          refine lv_aload_n hx hb dX10_text_51 rfl (lv_at hl 0 rfl) ?_
          refine goV hK hH (runVB (As := []) (rest := []) hC hK hH hZ (c_X10_readsLine hc_h hn_h hc_mt hn_mt ht_pa ht_li (by omega) (by omega) (by omega) (by omega) (by exact hw0_yq15_) (by exact hw1_yq15_) (by exact hnn) (by omega) (by omega)) mlX10_266 (rcvM hK hH hc_h rfl) ⟨⟨Nat.le_of_ble_eq_true rfl, Nat.le_of_ble_eq_true rfl⟩, Nat.le_of_ble_eq_true rfl, Nat.le_of_ble_eq_true rfl⟩ rfl hl.1 rfl (Nat.le_of_ble_eq_true rfl) dX10_text_52) (fun Mq64_ Tq65_ Hq_ lcq_ hP hz hH => ?_)
          try dsimp only at hP
          obtain ⟨xq63_, xq68_, ⟨l_xq68_, g_xq68_⟩, xq69_, ⟨l_xq69_, g_xq69_⟩, xq70_, ⟨l_xq70_, g_xq70_⟩, xq71_, ⟨l_xq71_, g_xq71_⟩, xq72_, ⟨l_xq72_, g_xq72_⟩, xq73_, ⟨l_xq73_, g_xq73_⟩, (⟨cq67_, hx_h⟩), eT, hfr⟩ := hP
          have eT := eT.symm; subst eT
          have hc_h : Mq64_ h = some (.inr (8, [.ref al, .ref mt, .ref ii, .int 0, .int xq72_, .ref pa, .int ta, .int xq68_, .int xq69_, .int xq70_, .int xq73_, .long xq63_, .int xq71_, .ref li])) := hx_h
          have hc_al : Mq64_ al = some (.inl (kA 0, 7506, .inl Fq23_)) := (hfr al (Or.inl hn_al) n_al_h).trans hc_al
          have hc_mt : Mq64_ mt = some (.inl (kA 0, 600, .inl ft)) := (hfr mt (Or.inl hn_mt) n_mt_h).trans hc_mt
          have hF : ∀ q, FrK T q → q ≠ al → q ≠ h → Mq64_ q = M q := fun q hq h0 h1 => (hfr q hq h1).trans (hF q hq h0 h1)
          have cq67_ : yq18_.toInt ≤ xq70_.toInt ∧ xq70_.toInt ≤ xq68_.toInt ∧ xq68_.toInt ≤ ta.toInt ∧ (xq69_.toInt = 0 ∨ xq70_.toInt < xq68_.toInt) ∧ (xq69_.toInt ≠ 1 ∨ xq68_.toInt ≠ xq70_.toInt + 1 ∨ xq63_.toInt ≤ 26) ∧ xq73_.toInt ≤ yq19_.toInt + 1 ∧ (xq71_.toInt = 1 ∨ (yq18_.toInt + 4 ≤ xq70_.toInt ∧ xq73_.toInt = yq19_.toInt + 1)) ∧ Tk ft ta xq69_ xq70_ xq68_ ∧ (Va ft xq69_ xq70_ xq68_ xq63_) ∧ (Rs (lnF (nC ft) ta.toInt.toNat yq18_.toInt.toNat) xq71_ xq72_ yq15_ xq70_) := cq67_
          refine lv_goto (tgt := 37) hx hb dX10_text_55 (by decide) ?_
          exact ih xq72_ xq68_ xq69_ xq70_ xq73_ xq63_ xq71_ Fq23_ _ _ _ ls (by have := iRg xq72_; have := iRg xq68_; have := iRg xq69_; have := iRg xq70_; have := iRg xq73_; have := iRg xq71_; omega) (by have := iRg xq72_; have := iRg xq68_; have := iRg xq69_; have := iRg xq70_; have := iRg xq73_; have := iRg xq71_; omega) (by have := iRg xq72_; have := iRg xq68_; have := iRg xq69_; have := iRg xq70_; have := iRg xq73_; have := iRg xq71_; omega) (by have := iRg xq72_; have := iRg xq68_; have := iRg xq69_; have := iRg xq70_; have := iRg xq73_; have := iRg xq71_; omega) (by have := iRg xq72_; have := iRg xq68_; have := iRg xq69_; have := iRg xq70_; have := iRg xq73_; have := iRg xq71_; omega) (by have := iRg xq72_; have := iRg xq68_; have := iRg xq69_; have := iRg xq70_; have := iRg xq73_; have := iRg xq71_; omega) (by have := iRg xq72_; have := iRg xq68_; have := iRg xq69_; have := iRg xq70_; have := iRg xq73_; have := iRg xq71_; omega) (by have := iRg xq72_; have := iRg xq68_; have := iRg xq69_; have := iRg xq70_; have := iRg xq73_; have := iRg xq71_; omega) (by have := iRg xq72_; have := iRg xq68_; have := iRg xq69_; have := iRg xq70_; have := iRg xq73_; have := iRg xq71_; omega) (by have := iRg xq72_; have := iRg xq68_; have := iRg xq69_; have := iRg xq70_; have := iRg xq73_; have := iRg xq71_; omega) (by have := iRg xq72_; have := iRg xq68_; have := iRg xq69_; have := iRg xq70_; have := iRg xq73_; have := iRg xq71_; omega) (by have := iRg xq72_; have := iRg xq68_; have := iRg xq69_; have := iRg xq70_; have := iRg xq73_; have := iRg xq71_; omega) (by have := iRg xq72_; have := iRg xq68_; have := iRg xq69_; have := iRg xq70_; have := iRg xq73_; have := iRg xq71_; omega) (by have := iRg xq72_; have := iRg xq68_; have := iRg xq69_; have := iRg xq70_; have := iRg xq73_; have := iRg xq71_; omega) (by have := iRg xq72_; have := iRg xq68_; have := iRg xq69_; have := iRg xq70_; have := iRg xq73_; have := iRg xq71_; omega) (by have := iRg xq72_; have := iRg xq68_; have := iRg xq69_; have := iRg xq70_; have := iRg xq73_; have := iRg xq71_; omega) hR_Fq23_ hK_Fq23_ (cq67_.2.2.2.2.2.2.2.1) (cq67_.2.2.2.2.2.2.2.2.1) (by have h7 := Or.resolve_right hw2_yq15_ (fun h8 => by have := h8.1; omega); rcases cq67_.2.2.2.2.2.2.2.2.2 with h9 | h9; (exact Or.inr ⟨h9.1, by rw [h7.2.2, show ta.toInt.toNat + 1 - yq19_.toInt.toNat = (ta.toInt.toNat - yq19_.toInt.toNat) + 1 by omega, ftN (by have := hw0_yq15_.ki; omega) h9.2.1]; omega⟩); (exact Or.inl ⟨h9.1, by have := h9.2.2; have := h7.2.1; omega, by rw [h7.2.2, show ta.toInt.toNat + 1 - yq19_.toInt.toNat = (ta.toInt.toNat + 1 - xq73_.toInt.toNat) + 1 by omega, ftY (by have := hw0_yq15_.ki; omega) h9.2.1]⟩)) hc_h hc_al hc_mt hF hH (lv_sub hl [0, 1] rfl)
  exact loop (Int.toNat (2 * (602 - xq14_.toInt) - 0)) (-1) xq12_ xq13_ xq14_ 0 xq7_ 0 f _ _ _ ls (by have : (-1 : Int32).toInt = -1 := rfl; have := iRg xq12_; have := iRg xq13_; have := iRg xq14_; have : (0 : Int32).toInt = 0 := rfl; have : (0 : Int32).toInt = 0 := rfl; omega) (by have : (-1 : Int32).toInt = -1 := rfl; have := iRg xq12_; have := iRg xq13_; have := iRg xq14_; have : (0 : Int32).toInt = 0 := rfl; have : (0 : Int32).toInt = 0 := rfl; omega) (by have : (-1 : Int32).toInt = -1 := rfl; have := iRg xq12_; have := iRg xq13_; have := iRg xq14_; have : (0 : Int32).toInt = 0 := rfl; have : (0 : Int32).toInt = 0 := rfl; omega) (by have : (-1 : Int32).toInt = -1 := rfl; have := iRg xq12_; have := iRg xq13_; have := iRg xq14_; have : (0 : Int32).toInt = 0 := rfl; have : (0 : Int32).toInt = 0 := rfl; omega) (by have : (-1 : Int32).toInt = -1 := rfl; have := iRg xq12_; have := iRg xq13_; have := iRg xq14_; have : (0 : Int32).toInt = 0 := rfl; have : (0 : Int32).toInt = 0 := rfl; omega) (by have : (-1 : Int32).toInt = -1 := rfl; have := iRg xq12_; have := iRg xq13_; have := iRg xq14_; have : (0 : Int32).toInt = 0 := rfl; have : (0 : Int32).toInt = 0 := rfl; omega) (by have : (-1 : Int32).toInt = -1 := rfl; have := iRg xq12_; have := iRg xq13_; have := iRg xq14_; have : (0 : Int32).toInt = 0 := rfl; have : (0 : Int32).toInt = 0 := rfl; omega) (by have : (-1 : Int32).toInt = -1 := rfl; have := iRg xq12_; have := iRg xq13_; have := iRg xq14_; have : (0 : Int32).toInt = 0 := rfl; have : (0 : Int32).toInt = 0 := rfl; omega) (by have : (-1 : Int32).toInt = -1 := rfl; have := iRg xq12_; have := iRg xq13_; have := iRg xq14_; have : (0 : Int32).toInt = 0 := rfl; have : (0 : Int32).toInt = 0 := rfl; omega) (by have : (-1 : Int32).toInt = -1 := rfl; have := iRg xq12_; have := iRg xq13_; have := iRg xq14_; have : (0 : Int32).toInt = 0 := rfl; have : (0 : Int32).toInt = 0 := rfl; omega) (by have : (-1 : Int32).toInt = -1 := rfl; have := iRg xq12_; have := iRg xq13_; have := iRg xq14_; have : (0 : Int32).toInt = 0 := rfl; have : (0 : Int32).toInt = 0 := rfl; omega) (by have : (-1 : Int32).toInt = -1 := rfl; have := iRg xq12_; have := iRg xq13_; have := iRg xq14_; have : (0 : Int32).toInt = 0 := rfl; have : (0 : Int32).toInt = 0 := rfl; omega) (by have : (-1 : Int32).toInt = -1 := rfl; have := iRg xq12_; have := iRg xq13_; have := iRg xq14_; have : (0 : Int32).toInt = 0 := rfl; have : (0 : Int32).toInt = 0 := rfl; omega) (by have : (-1 : Int32).toInt = -1 := rfl; have := iRg xq12_; have := iRg xq13_; have := iRg xq14_; have : (0 : Int32).toInt = 0 := rfl; have : (0 : Int32).toInt = 0 := rfl; omega) (by have : (-1 : Int32).toInt = -1 := rfl; have := iRg xq12_; have := iRg xq13_; have := iRg xq14_; have : (0 : Int32).toInt = 0 := rfl; have : (0 : Int32).toInt = 0 := rfl; omega) (by have : (-1 : Int32).toInt = -1 := rfl; have := iRg xq12_; have := iRg xq13_; have := iRg xq14_; have : (0 : Int32).toInt = 0 := rfl; have : (0 : Int32).toInt = 0 := rfl; omega) hR_f hK_f (cq11_.2.2.2.2.2.1) (cq11_.2.2.2.2.2.2.2) (Or.inl ⟨rfl, rfl, by unfold FT; rw [show (0 : Int32).toInt.toNat = 0 from rfl, Nat.sub_zero, hP9]⟩) hc_h hc_al hc_mt hF hH hl
