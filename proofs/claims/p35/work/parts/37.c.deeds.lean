set_option maxHeartbeats 4000000 in
set_option maxRecDepth 100000 in
theorem c_X10_told {l : Launch} {D : va_G} {kA : Nat → ClassId} {M : mM} {T : mT} {sz : Nat} {h al mt ii pa li : Nat} {ta fpm sm nx tk pl ln wr : Int32} {va : Int64} {f : Nat → Int32} {n : Int32} (hc_h : M h = some (.inr (8, [.ref al, .ref mt, .ref ii, .int ta, .int fpm, .ref pa, .int sm, .int nx, .int tk, .int pl, .int ln, .long va, .int wr, .ref li]))) (hn_h : T h = none) (hc_al : M al = some (.inl (kA 0, 7506, .inl f))) (hn_al : T al = none) (ht_mt : T mt = some 11) (ht_pa : T pa = some 13) (ht_li : T li = some 14) (hR_f : Rng f) : mCi l yX10_told cX10_told 2 (some .int) 0 0 0 D kA M T sz [.ref h, .int n] (fun r u => ∃ g : Nat → Int32, (Rng g ∧ Ke f g) ∧ (r = n ∧ u.1 al = some (.inl (kA 0, 7506, .inl g))) ∧ u.2 = T ∧ (∀ q, FrK T q → q ≠ al → u.1 q = M q)) := by
  unfold mCi
  refine start_W (by decide) (Nat.le_of_ble_eq_true rfl) ?_
  intro p e s m below meth c ls hC hr hlk hnm hK hH hsz hl
  have hx := hC.1
  have hb := hC.2.1
  have hl : lv_has ls 2 [(0, .ref h), (1, .int n)] := hl
  have hF : ∀ q, FrK T q → q ≠ al → M q = M q := fun q _ _ => rfl
  have n_h_al : h ≠ al := neM hc_h hc_al (by simp)
  have n_al_h : al ≠ h := neM hc_al hc_h (by simp)
  have hK_f : Ke f f := Ke.rf
  refine lv_aload_n hx hb dX10_told_0 rfl (lv_at hl 0 rfl) ?_
  refine xg hC hK hH flX10_7 hc_h rfl dX10_told_1 ?_
  refine lv_iconst (v := 5) hx hb dX10_told_4 (by decide) ?_
  refine lv_iload_n hx hb dX10_told_5 rfl (lv_at hl 1 rfl) ?_
  refine yist (x := n) hC hK hH hc_al (noT hn_al) (iIn (by decide) (by decide)) dX10_told_6 (fun Hq_ lcq_ Mq1_ hc_al hfr hH => ?_)
  have hc_al : Mq1_ al = some (.inl (kA 0, 7506, .inl (upd f (Int32.toNatClampNeg 5) n))) := hc_al
  have hc_h : Mq1_ h = some (.inr (8, [.ref al, .ref mt, .ref ii, .int ta, .int fpm, .ref pa, .int sm, .int nx, .int tk, .int pl, .int ln, .long va, .int wr, .ref li])) := (hfr h n_h_al).trans hc_h
  have hF : ∀ q, FrK T q → q ≠ al → Mq1_ q = M q := fun q hq h0 => (hfr q h0).trans (hF q hq h0)
  obtain ⟨gq2_, e_gq2_⟩ : ∃ g : Nat → Int32, g = upd f (Int32.toNatClampNeg 5) n := ⟨_, rfl⟩
  rw [← e_gq2_] at hc_al
  have hR_gq2_ : Rng gq2_ := by rw [e_gq2_]; exact hR_f.uL (by have : Int32.toNatClampNeg 5 = 5 := rfl; omega)
  have hK_gq2_ : Ke f gq2_ := by rw [e_gq2_]; exact hK_f.up (by have : Int32.toNatClampNeg 5 = 5 := rfl; omega)
  refine lv_aload_n hx hb dX10_told_7 rfl (lv_at hl 0 rfl) ?_
  refine xg hC hK hH flX10_7 hc_h rfl dX10_told_8 ?_
  refine lv_iconst (v := 4) hx hb dX10_told_11 (by decide) ?_
  refine lv_dup2_11 hx hb dX10_told_12 rfl rfl ?_
  refine xild hC hK hH hc_al (iIn (by decide) (by decide)) dX10_told_13 ?_
  refine lv_topi (fun xq3_ e_xq3_ => ?_)
  have kt_xq3_ : xq3_.toInt = (gq2_ 4).toInt := by rw [e_xq3_]; rfl
  refine lv_iload_n hx hb dX10_told_14 rfl (lv_at hl 1 rfl) ?_
  refine jif_le (tgt := 22) hx hb dX10_told_15 (by decide) (fun cq4_ => ?_) (fun cq4_ => ?_)
  · skip
    have cq4_ : n.toInt ≤ 0 := cq4_
    refine lv_iconst (v := 0) hx hb dX10_told_22 (by decide) ?_
    refine lv_iadd hx hb dX10_told_23 ?_
    refine lv_topi (fun zq5_ e_zq5_ => ?_)
    have h_zq5_ : zq5_.toInt = xq3_.toInt + 0 := by rw [e_zq5_, iAdd (by have := iRg xq3_; have : (0 : Int32).toInt = 0 := rfl; omega) (by have := iRg xq3_; have : (0 : Int32).toInt = 0 := rfl; omega)]; rfl
    refine yist (x := zq5_) hC hK hH hc_al (noT hn_al) (iIn (by decide) (by decide)) dX10_told_24 (fun Hq_ lcq_ Mq6_ hc_al hfr hH => ?_)
    have hc_al : Mq6_ al = some (.inl (kA 0, 7506, .inl (upd gq2_ (Int32.toNatClampNeg 4) zq5_))) := hc_al
    have hc_h : Mq6_ h = some (.inr (8, [.ref al, .ref mt, .ref ii, .int ta, .int fpm, .ref pa, .int sm, .int nx, .int tk, .int pl, .int ln, .long va, .int wr, .ref li])) := (hfr h n_h_al).trans hc_h
    have hF : ∀ q, FrK T q → q ≠ al → Mq6_ q = M q := fun q hq h0 => (hfr q h0).trans (hF q hq h0)
    obtain ⟨gq7_, e_gq7_⟩ : ∃ g : Nat → Int32, g = upd gq2_ (Int32.toNatClampNeg 4) zq5_ := ⟨_, rfl⟩
    rw [← e_gq7_] at hc_al
    have hR_gq7_ : Rng gq7_ := by rw [e_gq7_]; exact hR_gq2_.uL (by have : Int32.toNatClampNeg 4 = 4 := rfl; omega)
    have hK_gq7_ : Ke f gq7_ := by rw [e_gq7_]; exact hK_gq2_.up (by have : Int32.toNatClampNeg 4 = 4 := rfl; omega)
    refine lv_iload_n hx hb dX10_told_25 rfl (lv_at hl 1 rfl) ?_
    exact ret_i hC hr hlk hK hH (⟨gq7_, ⟨hR_gq7_, hK_gq7_⟩, ⟨rfl, hc_al⟩, rfl, hF⟩) (Nat.le_of_ble_eq_true rfl) (Nat.le_of_ble_eq_true rfl) dX10_told_26
  · skip
    have cq4_ : 0 < n.toInt := cq4_
    refine lv_iconst (v := 1) hx hb dX10_told_18 (by decide) ?_
    refine lv_goto (tgt := 23) hx hb dX10_told_19 (by decide) ?_
    refine lv_iadd hx hb dX10_told_23 ?_
    refine lv_topi (fun zq8_ e_zq8_ => ?_)
    refine yist (x := zq8_) hC hK hH hc_al (noT hn_al) (iIn (by decide) (by decide)) dX10_told_24 (fun Hq_ lcq_ Mq9_ hc_al hfr hH => ?_)
    have hc_al : Mq9_ al = some (.inl (kA 0, 7506, .inl (upd gq2_ (Int32.toNatClampNeg 4) zq8_))) := hc_al
    have hc_h : Mq9_ h = some (.inr (8, [.ref al, .ref mt, .ref ii, .int ta, .int fpm, .ref pa, .int sm, .int nx, .int tk, .int pl, .int ln, .long va, .int wr, .ref li])) := (hfr h n_h_al).trans hc_h
    have hF : ∀ q, FrK T q → q ≠ al → Mq9_ q = M q := fun q hq h0 => (hfr q h0).trans (hF q hq h0)
    obtain ⟨gq10_, e_gq10_⟩ : ∃ g : Nat → Int32, g = upd gq2_ (Int32.toNatClampNeg 4) zq8_ := ⟨_, rfl⟩
    rw [← e_gq10_] at hc_al
    have hR_gq10_ : Rng gq10_ := by rw [e_gq10_]; exact hR_gq2_.uL (by have : Int32.toNatClampNeg 4 = 4 := rfl; omega)
    have hK_gq10_ : Ke f gq10_ := by rw [e_gq10_]; exact hK_gq2_.up (by have : Int32.toNatClampNeg 4 = 4 := rfl; omega)
    refine lv_iload_n hx hb dX10_told_25 rfl (lv_at hl 1 rfl) ?_
    exact ret_i hC hr hlk hK hH (⟨gq10_, ⟨hR_gq10_, hK_gq10_⟩, ⟨rfl, hc_al⟩, rfl, hF⟩) (Nat.le_of_ble_eq_true rfl) (Nat.le_of_ble_eq_true rfl) dX10_told_26
set_option maxHeartbeats 4000000 in
set_option maxRecDepth 100000 in
theorem c_X10_days {l : Launch} {D : va_G} {kA : Nat → ClassId} {M : mM} {T : mT} {sz : Nat} {h al mt ii pa li : Nat} {ta fpm sm nx tk pl ln wr : Int32} {va : Int64} {f : Nat → Int32} {n : Int32} (hc_h : M h = some (.inr (8, [.ref al, .ref mt, .ref ii, .int ta, .int fpm, .ref pa, .int sm, .int nx, .int tk, .int pl, .int ln, .long va, .int wr, .ref li]))) (hn_h : T h = none) (hc_al : M al = some (.inl (kA 0, 7506, .inl f))) (hn_al : T al = none) (ht_mt : T mt = some 11) (ht_pa : T pa = some 13) (ht_li : T li = some 14) (hR_f : Rng f) : mCi l yX10_days cX10_days 2 (some .int) 1 0 0 D kA M T sz [.ref h, .int n] (fun r u => ∃ g : Nat → Int32, (Rng g ∧ Ke f g) ∧ (u.1 al = some (.inl (kA 0, 7506, .inl g))) ∧ u.2 = T ∧ (∀ q, FrK T q → q ≠ al → u.1 q = M q)) := by
  unfold mCi
  refine start_W (by decide) (Nat.le_of_ble_eq_true rfl) ?_
  intro p e s m below meth c ls hC hr hlk hnm hK hH hsz hl
  have hx := hC.1
  have hb := hC.2.1
  have hl : lv_has ls 2 [(0, .ref h), (1, .int n)] := hl
  have hF : ∀ q, FrK T q → q ≠ al → M q = M q := fun q _ _ => rfl
  have n_h_al : h ≠ al := neM hc_h hc_al (by simp)
  have n_al_h : al ≠ h := neM hc_al hc_h (by simp)
  have hK_f : Ke f f := Ke.rf
  refine lv_iload_n hx hb dX10_days_0 rfl (lv_at hl 1 rfl) ?_
  refine lv_iconst (v := 1) hx hb dX10_days_1 (by decide) ?_
  refine lv_bipush (v := 99) hx hb dX10_days_2 (by decide) ?_
  refine goI hK hH (runS (As := [.int n, .int 1, .int 99]) (rest := []) hC hK hH (c_X10_isIn) mlX10_33 ⟨⟨Nat.le_of_ble_eq_true rfl, Nat.le_of_ble_eq_true rfl⟩, Nat.le_of_ble_eq_true rfl, Nat.le_of_ble_eq_true rfl⟩ rfl hl.1 rfl (Nat.le_of_ble_eq_true rfl) dX10_days_4) (fun rq3_ Mq1_ Tq2_ Hq_ lcq_ hP hz hH => ?_)
  try dsimp only at hP
  obtain ⟨(⟨cq4_, er_rq3_⟩ | ⟨cq5_, er_rq3_⟩), eT, eM⟩ := hP
  · skip
    have eT := eT.symm; subst eT
    have er_rq3_ := er_rq3_.symm; subst er_rq3_
    have eM := eM.symm; subst eM
    have cq4_ : (1 : Int) ≤ n.toInt ∧ n.toInt ≤ (99 : Int) := cq4_
    refine jif_eq (tgt := 24) hx hb dX10_days_7 (by decide) (fun cq6_ => absurd cq6_ (by decide)) (fun cq6_ => ?_)
    refine lv_aload_n hx hb dX10_days_10 rfl (lv_at hl 0 rfl) ?_
    refine xg hC hK hH flX10_7 hc_h rfl dX10_days_11 ?_
    refine lv_iconst (v := 0) hx hb dX10_days_14 (by decide) ?_
    refine xild hC hK hH hc_al (iIn (by decide) (by decide)) dX10_days_15 ?_
    refine lv_topi (fun xq7_ e_xq7_ => ?_)
    have kt_xq7_ : xq7_.toInt = (f 0).toInt := by rw [e_xq7_]; rfl
    refine lv_iload_n hx hb dX10_days_16 rfl (lv_at hl 1 rfl) ?_
    refine lv_iadd hx hb dX10_days_17 ?_
    refine lv_topi (fun zq8_ e_zq8_ => ?_)
    refine lv_sipush (v := 999) hx hb dX10_days_18 (by decide) ?_
    refine jic_le (tgt := 27) hx hb dX10_days_21 (by decide) (fun cq9_ => ?_) (fun cq9_ => ?_)
    · skip
      have cq9_ : zq8_.toInt ≤ 999 := cq9_
      refine lv_aload_n hx hb dX10_days_27 rfl (lv_at hl 0 rfl) ?_
      refine xg hC hK hH flX10_7 hc_h rfl dX10_days_28 ?_
      refine lv_iconst (v := 0) hx hb dX10_days_31 (by decide) ?_
      refine lv_dup2_11 hx hb dX10_days_32 rfl rfl ?_
      refine xild hC hK hH hc_al (iIn (by decide) (by decide)) dX10_days_33 ?_
      refine lv_topi (fun xq10_ e_xq10_ => ?_)
      have kt_xq10_ : xq10_.toInt = (f 0).toInt := by rw [e_xq10_]; rfl
      refine lv_iload_n hx hb dX10_days_34 rfl (lv_at hl 1 rfl) ?_
      refine lv_iadd hx hb dX10_days_35 ?_
      refine lv_topi (fun zq11_ e_zq11_ => ?_)
      refine yist (x := zq11_) hC hK hH hc_al (noT hn_al) (iIn (by decide) (by decide)) dX10_days_36 (fun Hq_ lcq_ Mq12_ hc_al hfr hH => ?_)
      have hc_al : Mq12_ al = some (.inl (kA 0, 7506, .inl (upd f (Int32.toNatClampNeg 0) zq11_))) := hc_al
      have hc_h : Mq12_ h = some (.inr (8, [.ref al, .ref mt, .ref ii, .int ta, .int fpm, .ref pa, .int sm, .int nx, .int tk, .int pl, .int ln, .long va, .int wr, .ref li])) := (hfr h n_h_al).trans hc_h
      have hF : ∀ q, FrK T q → q ≠ al → Mq12_ q = M q := fun q hq h0 => (hfr q h0).trans (hF q hq h0)
      obtain ⟨gq13_, e_gq13_⟩ : ∃ g : Nat → Int32, g = upd f (Int32.toNatClampNeg 0) zq11_ := ⟨_, rfl⟩
      rw [← e_gq13_] at hc_al
      have hR_gq13_ : Rng gq13_ := by rw [e_gq13_]; exact hR_f.uL (by have : Int32.toNatClampNeg 0 = 0 := rfl; omega)
      have hK_gq13_ : Ke f gq13_ := by rw [e_gq13_]; exact hK_f.up (by have : Int32.toNatClampNeg 0 = 0 := rfl; omega)
      refine lv_iconst (v := 0) hx hb dX10_days_37 (by decide) ?_
      exact ret_i hC hr hlk hK hH (⟨gq13_, ⟨hR_gq13_, hK_gq13_⟩, hc_al, rfl, hF⟩) (Nat.le_of_ble_eq_true rfl) (Nat.le_of_ble_eq_true rfl) dX10_days_38
    · skip
      have cq9_ : 999 < zq8_.toInt := cq9_
      refine lv_bipush (v := 30) hx hb dX10_days_24 (by decide) ?_
      exact ret_i hC hr hlk hK hH (⟨f, ⟨hR_f, hK_f⟩, hc_al, rfl, hF⟩) (Nat.le_of_ble_eq_true rfl) (Nat.le_of_ble_eq_true rfl) dX10_days_26
  · skip
    have eT := eT.symm; subst eT
    have er_rq3_ := er_rq3_.symm; subst er_rq3_
    have eM := eM.symm; subst eM
    have cq5_ : ¬ ((1 : Int) ≤ n.toInt ∧ n.toInt ≤ (99 : Int)) := cq5_
    refine jif_eq (tgt := 24) hx hb dX10_days_7 (by decide) (fun cq14_ => ?_) (fun cq14_ => absurd cq14_ (by decide))
    refine lv_bipush (v := 30) hx hb dX10_days_24 (by decide) ?_
    exact ret_i hC hr hlk hK hH (⟨f, ⟨hR_f, hK_f⟩, hc_al, rfl, hF⟩) (Nat.le_of_ble_eq_true rfl) (Nat.le_of_ble_eq_true rfl) dX10_days_26
set_option maxHeartbeats 4000000 in
set_option maxRecDepth 100000 in
theorem c_X10_hasNow {l : Launch} {D : va_G} {kA : Nat → ClassId} {M : mM} {T : mT} {sz : Nat} {h al mt ii pa li : Nat} {ta fpm sm nx tk pl ln wr : Int32} {va : Int64} {f : Nat → Int32} {ps n : Int32} (hc_h : M h = some (.inr (8, [.ref al, .ref mt, .ref ii, .int ta, .int fpm, .ref pa, .int sm, .int nx, .int tk, .int pl, .int ln, .long va, .int wr, .ref li]))) (hn_h : T h = none) (hc_al : M al = some (.inl (kA 0, 7506, .inl f))) (hn_al : T al = none) (ht_mt : T mt = some 11) (ht_pa : T pa = some 13) (ht_li : T li = some 14) (hR_f : Rng f) : mCi l yX10_hasNow cX10_hasNow 3 (some .int) 2 0 0 D kA M T sz [.ref h, .int ps, .int n] (fun r u => ∃ g : Nat → Int32, (Rng g ∧ Ke f g) ∧ (((0 ≤ ps.toInt ∧ ps.toInt ≤ 7 ∧ 0 ≤ n.toInt ∧ n.toInt ≤ 9999) ∧ r = 0 ∧ u.1 al = some (.inl (kA 0, 7506, .inl g))) ∨ ((¬ (0 ≤ ps.toInt ∧ ps.toInt ≤ 7 ∧ 0 ≤ n.toInt ∧ n.toInt ≤ 9999)) ∧ r = 30 ∧ u.1 al = some (.inl (kA 0, 7506, .inl g)))) ∧ u.2 = T ∧ (∀ q, FrK T q → q ≠ al → u.1 q = M q)) := by
  unfold mCi
  refine start_W (by decide) (Nat.le_of_ble_eq_true rfl) ?_
  intro p e s m below meth c ls hC hr hlk hnm hK hH hsz hl
  have hx := hC.1
  have hb := hC.2.1
  have hl : lv_has ls 3 [(0, .ref h), (1, .int ps), (2, .int n)] := hl
  have hF : ∀ q, FrK T q → q ≠ al → M q = M q := fun q _ _ => rfl
  have n_h_al : h ≠ al := neM hc_h hc_al (by simp)
  have n_al_h : al ≠ h := neM hc_al hc_h (by simp)
  have hK_f : Ke f f := Ke.rf
  refine lv_iload_n hx hb dX10_hasNow_0 rfl (lv_at hl 1 rfl) ?_
  refine goI hK hH (runS (As := [.int ps]) (rest := []) hC hK hH (c_X10_isPerson) mlX10_100 ⟨⟨Nat.le_of_ble_eq_true rfl, Nat.le_of_ble_eq_true rfl⟩, Nat.le_of_ble_eq_true rfl, Nat.le_of_ble_eq_true rfl⟩ rfl hl.1 rfl (Nat.le_of_ble_eq_true rfl) dX10_hasNow_1) (fun rq3_ Mq1_ Tq2_ Hq_ lcq_ hP hz hH => ?_)
  try dsimp only at hP
  obtain ⟨(⟨cq4_, er_rq3_⟩ | ⟨cq5_, er_rq3_⟩), eT, eM⟩ := hP
  · skip
    have eT := eT.symm; subst eT
    have er_rq3_ := er_rq3_.symm; subst er_rq3_
    have eM := eM.symm; subst eM
    have cq4_ : 0 ≤ ps.toInt ∧ ps.toInt ≤ 7 := cq4_
    refine jif_eq (tgt := 18) hx hb dX10_hasNow_4 (by decide) (fun cq6_ => absurd cq6_ (by decide)) (fun cq6_ => ?_)
    refine lv_iload_n hx hb dX10_hasNow_7 rfl (lv_at hl 2 rfl) ?_
    refine lv_iconst (v := 0) hx hb dX10_hasNow_8 (by decide) ?_
    refine lv_sipush (v := 9999) hx hb dX10_hasNow_9 (by decide) ?_
    refine goI hK hH (runS (As := [.int n, .int 0, .int 9999]) (rest := []) hC hK hH (c_X10_isIn) mlX10_33 ⟨⟨Nat.le_of_ble_eq_true rfl, Nat.le_of_ble_eq_true rfl⟩, Nat.le_of_ble_eq_true rfl, Nat.le_of_ble_eq_true rfl⟩ rfl hl.1 rfl (Nat.le_of_ble_eq_true rfl) dX10_hasNow_12) (fun rq9_ Mq7_ Tq8_ Hq_ lcq_ hP hz hH => ?_)
    try dsimp only at hP
    obtain ⟨(⟨cq10_, er_rq9_⟩ | ⟨cq11_, er_rq9_⟩), eT, eM⟩ := hP
    · skip
      have eT := eT.symm; subst eT
      have er_rq9_ := er_rq9_.symm; subst er_rq9_
      have eM := eM.symm; subst eM
      have cq10_ : (0 : Int) ≤ n.toInt ∧ n.toInt ≤ (9999 : Int) := cq10_
      refine jif_ne (tgt := 21) hx hb dX10_hasNow_15 (by decide) (fun cq12_ => ?_) (fun cq12_ => absurd cq12_ (by decide))
      refine lv_aload_n hx hb dX10_hasNow_21 rfl (lv_at hl 0 rfl) ?_
      refine xg hC hK hH flX10_7 hc_h rfl dX10_hasNow_22 ?_
      refine lv_bipush (v := 6) hx hb dX10_hasNow_25 (by decide) ?_
      refine lv_iload_n hx hb dX10_hasNow_27 rfl (lv_at hl 1 rfl) ?_
      refine lv_iadd hx hb dX10_hasNow_28 ?_
      refine lv_topi (fun zq13_ e_zq13_ => ?_)
      have h_zq13_ : zq13_.toInt = 6 + ps.toInt := by rw [e_zq13_, iAdd (by have : (6 : Int32).toInt = 6 := rfl; have := iRg ps; omega) (by have : (6 : Int32).toInt = 6 := rfl; have := iRg ps; omega)]; rfl
      refine lv_iload_n hx hb dX10_hasNow_29 rfl (lv_at hl 2 rfl) ?_
      refine yist (x := n) hC hK hH hc_al (noT hn_al) (iIn (by omega) (by omega)) dX10_hasNow_30 (fun Hq_ lcq_ Mq14_ hc_al hfr hH => ?_)
      have hc_al : Mq14_ al = some (.inl (kA 0, 7506, .inl (upd f (Int32.toNatClampNeg zq13_) n))) := hc_al
      have hc_h : Mq14_ h = some (.inr (8, [.ref al, .ref mt, .ref ii, .int ta, .int fpm, .ref pa, .int sm, .int nx, .int tk, .int pl, .int ln, .long va, .int wr, .ref li])) := (hfr h n_h_al).trans hc_h
      have hF : ∀ q, FrK T q → q ≠ al → Mq14_ q = M q := fun q hq h0 => (hfr q h0).trans (hF q hq h0)
      obtain ⟨gq15_, e_gq15_⟩ : ∃ g : Nat → Int32, g = upd f (Int32.toNatClampNeg zq13_) n := ⟨_, rfl⟩
      rw [← e_gq15_] at hc_al
      have hR_gq15_ : Rng gq15_ := by rw [e_gq15_]; exact hR_f.uL (by have := iCl (x := zq13_) (by omega); omega)
      have hK_gq15_ : Ke f gq15_ := by rw [e_gq15_]; exact hK_f.up (by have := iCl (x := zq13_) (by omega); omega)
      refine lv_iconst (v := 0) hx hb dX10_hasNow_31 (by decide) ?_
      exact ret_i hC hr hlk hK hH (⟨gq15_, ⟨hR_gq15_, hK_gq15_⟩, Or.inl (⟨by omega, rfl, hc_al⟩), rfl, hF⟩) (Nat.le_of_ble_eq_true rfl) (Nat.le_of_ble_eq_true rfl) dX10_hasNow_32
    · skip
      have eT := eT.symm; subst eT
      have er_rq9_ := er_rq9_.symm; subst er_rq9_
      have eM := eM.symm; subst eM
      have cq11_ : ¬ ((0 : Int) ≤ n.toInt ∧ n.toInt ≤ (9999 : Int)) := cq11_
      refine jif_ne (tgt := 21) hx hb dX10_hasNow_15 (by decide) (fun cq16_ => absurd cq16_ (by decide)) (fun cq16_ => ?_)
      refine lv_bipush (v := 30) hx hb dX10_hasNow_18 (by decide) ?_
      exact ret_i hC hr hlk hK hH (⟨f, ⟨hR_f, hK_f⟩, Or.inr (⟨by omega, rfl, hc_al⟩), rfl, hF⟩) (Nat.le_of_ble_eq_true rfl) (Nat.le_of_ble_eq_true rfl) dX10_hasNow_20
  · skip
    have eT := eT.symm; subst eT
    have er_rq3_ := er_rq3_.symm; subst er_rq3_
    have eM := eM.symm; subst eM
    have cq5_ : ¬ (0 ≤ ps.toInt ∧ ps.toInt ≤ 7) := cq5_
    refine jif_eq (tgt := 18) hx hb dX10_hasNow_4 (by decide) (fun cq17_ => ?_) (fun cq17_ => absurd cq17_ (by decide))
    refine lv_bipush (v := 30) hx hb dX10_hasNow_18 (by decide) ?_
    exact ret_i hC hr hlk hK hH (⟨f, ⟨hR_f, hK_f⟩, Or.inr (⟨by omega, rfl, hc_al⟩), rfl, hF⟩) (Nat.le_of_ble_eq_true rfl) (Nat.le_of_ble_eq_true rfl) dX10_hasNow_20
set_option maxHeartbeats 4000000 in
set_option maxRecDepth 100000 in
theorem c_X10_graces {l : Launch} {D : va_G} {kA : Nat → ClassId} {M : mM} {T : mT} {sz : Nat} {h al mt ii pa li : Nat} {ta fpm sm nx tk pl ln wr : Int32} {va : Int64} {f : Nat → Int32} {n : Int32} (hc_h : M h = some (.inr (8, [.ref al, .ref mt, .ref ii, .int ta, .int fpm, .ref pa, .int sm, .int nx, .int tk, .int pl, .int ln, .long va, .int wr, .ref li]))) (hn_h : T h = none) (hc_al : M al = some (.inl (kA 0, 7506, .inl f))) (hn_al : T al = none) (ht_mt : T mt = some 11) (ht_pa : T pa = some 13) (ht_li : T li = some 14) (hR_f : Rng f) : mCi l yX10_graces cX10_graces 2 (some .int) 1 0 0 D kA M T sz [.ref h, .int n] (fun r u => ∃ g : Nat → Int32, (Rng g ∧ Ke f g) ∧ (((1 ≤ n.toInt ∧ n.toInt ≤ 9) ∧ r = 0 ∧ u.1 al = some (.inl (kA 0, 7506, .inl g))) ∨ ((¬ (1 ≤ n.toInt ∧ n.toInt ≤ 9)) ∧ r = 30 ∧ u.1 al = some (.inl (kA 0, 7506, .inl g)))) ∧ u.2 = T ∧ (∀ q, FrK T q → q ≠ al → u.1 q = M q)) := by
  unfold mCi
  refine start_W (by decide) (Nat.le_of_ble_eq_true rfl) ?_
  intro p e s m below meth c ls hC hr hlk hnm hK hH hsz hl
  have hx := hC.1
  have hb := hC.2.1
  have hl : lv_has ls 2 [(0, .ref h), (1, .int n)] := hl
  have hF : ∀ q, FrK T q → q ≠ al → M q = M q := fun q _ _ => rfl
  have n_h_al : h ≠ al := neM hc_h hc_al (by simp)
  have n_al_h : al ≠ h := neM hc_al hc_h (by simp)
  have hK_f : Ke f f := Ke.rf
  refine lv_iload_n hx hb dX10_graces_0 rfl (lv_at hl 1 rfl) ?_
  refine lv_iconst (v := 1) hx hb dX10_graces_1 (by decide) ?_
  refine lv_bipush (v := 9) hx hb dX10_graces_2 (by decide) ?_
  refine goI hK hH (runS (As := [.int n, .int 1, .int 9]) (rest := []) hC hK hH (c_X10_isIn) mlX10_33 ⟨⟨Nat.le_of_ble_eq_true rfl, Nat.le_of_ble_eq_true rfl⟩, Nat.le_of_ble_eq_true rfl, Nat.le_of_ble_eq_true rfl⟩ rfl hl.1 rfl (Nat.le_of_ble_eq_true rfl) dX10_graces_4) (fun rq3_ Mq1_ Tq2_ Hq_ lcq_ hP hz hH => ?_)
  try dsimp only at hP
  obtain ⟨(⟨cq4_, er_rq3_⟩ | ⟨cq5_, er_rq3_⟩), eT, eM⟩ := hP
  · skip
    have eT := eT.symm; subst eT
    have er_rq3_ := er_rq3_.symm; subst er_rq3_
    have eM := eM.symm; subst eM
    have cq4_ : (1 : Int) ≤ n.toInt ∧ n.toInt ≤ (9 : Int) := cq4_
    refine jif_ne (tgt := 13) hx hb dX10_graces_7 (by decide) (fun cq6_ => ?_) (fun cq6_ => absurd cq6_ (by decide))
    refine lv_aload_n hx hb dX10_graces_13 rfl (lv_at hl 0 rfl) ?_
    refine xg hC hK hH flX10_7 hc_h rfl dX10_graces_14 ?_
    refine lv_iconst (v := 2) hx hb dX10_graces_17 (by decide) ?_
    refine lv_iload_n hx hb dX10_graces_18 rfl (lv_at hl 1 rfl) ?_
    refine yist (x := n) hC hK hH hc_al (noT hn_al) (iIn (by decide) (by decide)) dX10_graces_19 (fun Hq_ lcq_ Mq7_ hc_al hfr hH => ?_)
    have hc_al : Mq7_ al = some (.inl (kA 0, 7506, .inl (upd f (Int32.toNatClampNeg 2) n))) := hc_al
    have hc_h : Mq7_ h = some (.inr (8, [.ref al, .ref mt, .ref ii, .int ta, .int fpm, .ref pa, .int sm, .int nx, .int tk, .int pl, .int ln, .long va, .int wr, .ref li])) := (hfr h n_h_al).trans hc_h
    have hF : ∀ q, FrK T q → q ≠ al → Mq7_ q = M q := fun q hq h0 => (hfr q h0).trans (hF q hq h0)
    obtain ⟨gq8_, e_gq8_⟩ : ∃ g : Nat → Int32, g = upd f (Int32.toNatClampNeg 2) n := ⟨_, rfl⟩
    rw [← e_gq8_] at hc_al
    have hR_gq8_ : Rng gq8_ := by rw [e_gq8_]; exact hR_f.uL (by have : Int32.toNatClampNeg 2 = 2 := rfl; omega)
    have hK_gq8_ : Ke f gq8_ := by rw [e_gq8_]; exact hK_f.up (by have : Int32.toNatClampNeg 2 = 2 := rfl; omega)
    refine lv_iconst (v := 0) hx hb dX10_graces_20 (by decide) ?_
    exact ret_i hC hr hlk hK hH (⟨gq8_, ⟨hR_gq8_, hK_gq8_⟩, Or.inl (⟨by omega, rfl, hc_al⟩), rfl, hF⟩) (Nat.le_of_ble_eq_true rfl) (Nat.le_of_ble_eq_true rfl) dX10_graces_21
  · skip
    have eT := eT.symm; subst eT
    have er_rq3_ := er_rq3_.symm; subst er_rq3_
    have eM := eM.symm; subst eM
    have cq5_ : ¬ ((1 : Int) ≤ n.toInt ∧ n.toInt ≤ (9 : Int)) := cq5_
    refine jif_ne (tgt := 13) hx hb dX10_graces_7 (by decide) (fun cq9_ => absurd cq9_ (by decide)) (fun cq9_ => ?_)
    refine lv_bipush (v := 30) hx hb dX10_graces_10 (by decide) ?_
    exact ret_i hC hr hlk hK hH (⟨f, ⟨hR_f, hK_f⟩, Or.inr (⟨by omega, rfl, hc_al⟩), rfl, hF⟩) (Nat.le_of_ble_eq_true rfl) (Nat.le_of_ble_eq_true rfl) dX10_graces_12
set_option maxHeartbeats 4000000 in
set_option maxRecDepth 100000 in
theorem c_X10_draws {l : Launch} {D : va_G} {kA : Nat → ClassId} {M : mM} {T : mT} {sz : Nat} {h al mt ii pa li : Nat} {ta fpm sm nx tk pl ln wr : Int32} {va : Int64} {f : Nat → Int32} {dr de pe op su dy : Int32} (hc_h : M h = some (.inr (8, [.ref al, .ref mt, .ref ii, .int ta, .int fpm, .ref pa, .int sm, .int nx, .int tk, .int pl, .int ln, .long va, .int wr, .ref li]))) (hn_h : T h = none) (hc_al : M al = some (.inl (kA 0, 7506, .inl f))) (hn_al : T al = none) (ht_mt : T mt = some 11) (ht_pa : T pa = some 13) (ht_li : T li = some 14) (hR_f : Rng f) : mCi l yX10_draws cX10_draws 9 (some .int) 2 0 0 D kA M T sz [.ref h, .int dr, .int de, .int pe, .int op, .int su, .int dy] (fun r u => ∃ g : Nat → Int32, (Rng g ∧ Ke f g) ∧ (u.1 al = some (.inl (kA 0, 7506, .inl g))) ∧ u.2 = T ∧ (∀ q, FrK T q → q ≠ al → u.1 q = M q)) := by
  unfold mCi
  refine start_W (by decide) (Nat.le_of_ble_eq_true rfl) ?_
  intro p e s m below meth c ls hC hr hlk hnm hK hH hsz hl
  have hx := hC.1
  have hb := hC.2.1
  have hl : lv_has ls 9 [(0, .ref h), (1, .int dr), (2, .int de), (3, .int pe), (4, .int op), (5, .int su), (6, .int dy)] := hl
  have hF : ∀ q, FrK T q → q ≠ al → M q = M q := fun q _ _ => rfl
  have n_h_al : h ≠ al := neM hc_h hc_al (by simp)
  have n_al_h : al ≠ h := neM hc_al hc_h (by simp)
  have hK_f : Ke f f := Ke.rf
  have h1_f : f 1 = f 1 := rfl
  refine lv_iload_n hx hb dX10_draws_0 rfl (lv_at hl 1 rfl) ?_
  refine goI hK hH (runS (As := [.int dr]) (rest := []) hC hK hH (c_X10_isPerson) mlX10_100 ⟨⟨Nat.le_of_ble_eq_true rfl, Nat.le_of_ble_eq_true rfl⟩, Nat.le_of_ble_eq_true rfl, Nat.le_of_ble_eq_true rfl⟩ rfl hl.1 rfl (Nat.le_of_ble_eq_true rfl) dX10_draws_1) (fun rq3_ Mq1_ Tq2_ Hq_ lcq_ hP hz hH => ?_)
  try dsimp only at hP
  obtain ⟨(⟨cq4_, er_rq3_⟩ | ⟨cq5_, er_rq3_⟩), eT, eM⟩ := hP
  · skip
    have eT := eT.symm; subst eT
    have er_rq3_ := er_rq3_.symm; subst er_rq3_
    have eM := eM.symm; subst eM
    have cq4_ : 0 ≤ dr.toInt ∧ dr.toInt ≤ 7 := cq4_
    refine jif_eq (tgt := 54) hx hb dX10_draws_4 (by decide) (fun cq6_ => absurd cq6_ (by decide)) (fun cq6_ => ?_)
    refine lv_iload_n hx hb dX10_draws_7 rfl (lv_at hl 2 rfl) ?_
    refine goI hK hH (runS (As := [.int de]) (rest := []) hC hK hH (c_X10_isPerson) mlX10_100 ⟨⟨Nat.le_of_ble_eq_true rfl, Nat.le_of_ble_eq_true rfl⟩, Nat.le_of_ble_eq_true rfl, Nat.le_of_ble_eq_true rfl⟩ rfl hl.1 rfl (Nat.le_of_ble_eq_true rfl) dX10_draws_8) (fun rq9_ Mq7_ Tq8_ Hq_ lcq_ hP hz hH => ?_)
    try dsimp only at hP
    obtain ⟨(⟨cq10_, er_rq9_⟩ | ⟨cq11_, er_rq9_⟩), eT, eM⟩ := hP
    · skip
      have eT := eT.symm; subst eT
      have er_rq9_ := er_rq9_.symm; subst er_rq9_
      have eM := eM.symm; subst eM
      have cq10_ : 0 ≤ de.toInt ∧ de.toInt ≤ 7 := cq10_
      refine jif_eq (tgt := 54) hx hb dX10_draws_11 (by decide) (fun cq12_ => absurd cq12_ (by decide)) (fun cq12_ => ?_)
      refine lv_iload_n hx hb dX10_draws_14 rfl (lv_at hl 3 rfl) ?_
      refine goI hK hH (runS (As := [.int pe]) (rest := []) hC hK hH (c_X10_isPerson) mlX10_100 ⟨⟨Nat.le_of_ble_eq_true rfl, Nat.le_of_ble_eq_true rfl⟩, Nat.le_of_ble_eq_true rfl, Nat.le_of_ble_eq_true rfl⟩ rfl hl.1 rfl (Nat.le_of_ble_eq_true rfl) dX10_draws_15) (fun rq15_ Mq13_ Tq14_ Hq_ lcq_ hP hz hH => ?_)
      try dsimp only at hP
      obtain ⟨(⟨cq16_, er_rq15_⟩ | ⟨cq17_, er_rq15_⟩), eT, eM⟩ := hP
      · skip
        have eT := eT.symm; subst eT
        have er_rq15_ := er_rq15_.symm; subst er_rq15_
        have eM := eM.symm; subst eM
        have cq16_ : 0 ≤ pe.toInt ∧ pe.toInt ≤ 7 := cq16_
        refine jif_eq (tgt := 54) hx hb dX10_draws_18 (by decide) (fun cq18_ => absurd cq18_ (by decide)) (fun cq18_ => ?_)
        refine lv_iload hx hb dX10_draws_21 (lv_at hl 5 rfl) ?_
        refine lv_iconst (v := 1) hx hb dX10_draws_23 (by decide) ?_
        refine lv_sipush (v := 999) hx hb dX10_draws_24 (by decide) ?_
        refine goI hK hH (runS (As := [.int su, .int 1, .int 999]) (rest := []) hC hK hH (c_X10_isIn) mlX10_33 ⟨⟨Nat.le_of_ble_eq_true rfl, Nat.le_of_ble_eq_true rfl⟩, Nat.le_of_ble_eq_true rfl, Nat.le_of_ble_eq_true rfl⟩ rfl hl.1 rfl (Nat.le_of_ble_eq_true rfl) dX10_draws_27) (fun rq21_ Mq19_ Tq20_ Hq_ lcq_ hP hz hH => ?_)
        try dsimp only at hP
        obtain ⟨(⟨cq22_, er_rq21_⟩ | ⟨cq23_, er_rq21_⟩), eT, eM⟩ := hP
        · skip
          have eT := eT.symm; subst eT
          have er_rq21_ := er_rq21_.symm; subst er_rq21_
          have eM := eM.symm; subst eM
          have cq22_ : (1 : Int) ≤ su.toInt ∧ su.toInt ≤ (999 : Int) := cq22_
          refine jif_eq (tgt := 54) hx hb dX10_draws_30 (by decide) (fun cq24_ => absurd cq24_ (by decide)) (fun cq24_ => ?_)
          refine lv_iload hx hb dX10_draws_33 (lv_at hl 6 rfl) ?_
          refine lv_iconst (v := 0) hx hb dX10_draws_35 (by decide) ?_
          refine lv_bipush (v := 99) hx hb dX10_draws_36 (by decide) ?_
          refine goI hK hH (runS (As := [.int dy, .int 0, .int 99]) (rest := []) hC hK hH (c_X10_isIn) mlX10_33 ⟨⟨Nat.le_of_ble_eq_true rfl, Nat.le_of_ble_eq_true rfl⟩, Nat.le_of_ble_eq_true rfl, Nat.le_of_ble_eq_true rfl⟩ rfl hl.1 rfl (Nat.le_of_ble_eq_true rfl) dX10_draws_38) (fun rq27_ Mq25_ Tq26_ Hq_ lcq_ hP hz hH => ?_)
          try dsimp only at hP
          obtain ⟨(⟨cq28_, er_rq27_⟩ | ⟨cq29_, er_rq27_⟩), eT, eM⟩ := hP
          · skip
            have eT := eT.symm; subst eT
            have er_rq27_ := er_rq27_.symm; subst er_rq27_
            have eM := eM.symm; subst eM
            have cq28_ : (0 : Int) ≤ dy.toInt ∧ dy.toInt ≤ (99 : Int) := cq28_
            refine jif_eq (tgt := 54) hx hb dX10_draws_41 (by decide) (fun cq30_ => absurd cq30_ (by decide)) (fun cq30_ => ?_)
            refine lv_aload_n hx hb dX10_draws_44 rfl (lv_at hl 0 rfl) ?_
            refine xg hC hK hH flX10_7 hc_h rfl dX10_draws_45 ?_
            refine lv_iconst (v := 1) hx hb dX10_draws_48 (by decide) ?_
            refine xild hC hK hH hc_al (iIn (by decide) (by decide)) dX10_draws_49 ?_
            refine lv_topi (fun xq31_ e_xq31_ => ?_)
            have kt_xq31_ : xq31_.toInt = (f 1).toInt := by rw [e_xq31_]; rfl
            have l_xq31_ : 0 ≤ xq31_.toInt := by rw [kt_xq31_]; exact hR_f.r1.1
            have g_xq31_ : xq31_.toInt ≤ 4 := by rw [kt_xq31_]; exact hR_f.r1.2
            refine lv_iconst (v := 4) hx hb dX10_draws_50 (by decide) ?_
            refine jic_ne (tgt := 57) hx hb dX10_draws_51 (by decide) (fun cq32_ => ?_) (fun cq32_ => ?_)
            · skip
              have cq32_ : xq31_.toInt ≠ 4 := cq32_
              refine lv_iconst (v := 0) hx hb dX10_draws_57 (by decide) ?_
              refine lv_aload_n hx hb dX10_draws_58 rfl (lv_at hl 0 rfl) ?_
              refine xg hC hK hH flX10_7 hc_h rfl dX10_draws_59 ?_
              refine lv_iconst (v := 1) hx hb dX10_draws_62 (by decide) ?_
              refine xild hC hK hH hc_al (iIn (by decide) (by decide)) dX10_draws_63 ?_
              refine lv_topi (fun xq33_ e_xq33_ => ?_)
              have kt_xq33_ : xq33_.toInt = (f 1).toInt := by rw [e_xq33_]; rfl
              have l_xq33_ : 0 ≤ xq33_.toInt := by rw [kt_xq33_]; exact hR_f.r1.1
              have g_xq33_ : xq33_.toInt ≤ 4 := by rw [kt_xq33_]; exact hR_f.r1.2
              have g_xq33_ : xq33_.toInt ≤ 3 := by omega
              obtain ⟨nq34_, hn_nq34_⟩ : ∃ n : Nat, xq33_.toInt = (n : Int) := ⟨(xq33_.toInt).toNat, by omega⟩
              refine goI hK hH (runS (As := [.int 0, .int xq33_]) (rest := []) hC hK hH (c_X10_at (by decide) (by omega)) mlX10_109 ⟨⟨Nat.le_of_ble_eq_true rfl, Nat.le_of_ble_eq_true rfl⟩, Nat.le_of_ble_eq_true rfl, Nat.le_of_ble_eq_true rfl⟩ rfl hl.1 rfl (Nat.le_of_ble_eq_true rfl) dX10_draws_64) (fun rq37_ Mq35_ Tq36_ Hq_ lcq_ hP hz hH => ?_)
              try dsimp only at hP
              obtain ⟨(⟨cq38_, ⟨l_rq37_, g_rq37_⟩⟩), eT, eM⟩ := hP
              have eT := eT.symm; subst eT
              have eM := eM.symm; subst eM
              have cq38_ : rq37_.toInt = (0 : Int) + 20 + 280 * xq33_.toInt := cq38_
              obtain ⟨nq39_, hn_nq39_⟩ : ∃ n : Nat, n = 1140 * 0 + 20 + 280 * nq34_ := ⟨_, rfl⟩
              have hx_rq37_ : rq37_.toInt = (nq39_ : Int) := by have : (0 : Int32).toInt = 0 := rfl; omega
              refine lv_istore (lv' := [(7, .int rq37_), (0, .ref h), (1, .int dr), (2, .int de), (3, .int pe), (4, .int op), (5, .int su), (6, .int dy)]) hx hb dX10_draws_67 hl (by decide) rfl (fun ls hl => ?_)
              refine lv_iconst (v := 0) hx hb dX10_draws_69 (by decide) ?_
              refine lv_istore (lv' := [(8, .int 0), (7, .int rq37_), (0, .ref h), (1, .int dr), (2, .int de), (3, .int pe), (4, .int op), (5, .int su), (6, .int dy)]) hx hb dX10_draws_70 hl (by decide) rfl (fun ls hl => ?_)
              have loop : ∀ (n : Nat) (yq40_ : Int32) (Fq42_ : Nat → Int32) (Hq_ : Heap) (lcq_ : List Loc) (Mq41_ : mM) (ls : Array Slot), 281 - yq40_.toInt ≤ (n : Int) → (0 : Int) ≤ yq40_.toInt → yq40_.toInt ≤ 280 → Rng Fq42_ → Ke f Fq42_ → Fq42_ 1 = f 1 → Mq41_ h = some (.inr (8, [.ref al, .ref mt, .ref ii, .int ta, .int fpm, .ref pa, .int sm, .int nx, .int tk, .int pl, .int ln, .long va, .int wr, .ref li])) → Mq41_ al = some (.inl (kA 0, 7506, .inl Fq42_)) → (∀ q, FrK T q → q ≠ al → Mq41_ q = M q) → mS D kA Mq41_ T (mA M T sz) s.heap Hq_ lcq_ → lv_has ls 9 [(8, .int yq40_), (7, .int rq37_), (0, .ref h), (1, .int dr), (2, .int de), (3, .int pe), (4, .int op), (5, .int su), (6, .int dy)] → W p l e (rmL 2 0 0) s m ([.ref h, .int dr, .int de, .int pe, .int op, .int su, .int dy] : List Value).toArray below meth c Hq_ lcq_ 0 0 (MQ below (va_Qi (fun r u => ∃ g : Nat → Int32, (Rng g ∧ Ke f g) ∧ (u.1 al = some (.inl (kA 0, 7506, .inl g))) ∧ u.2 = T ∧ (∀ q, FrK T q → q ≠ al → u.1 q = M q)) (mB D kA M T sz) (mA M T sz)) ([.ref h, .int dr, .int de, .int pe, .int op, .int su, .int dy] : List Value).toArray s 0 0 (mA M T sz)) (F0 m 72 ls []) := by
                intro n
                induction n with
                | zero =>
                  intro yq40_ Fq42_ Hq_ lcq_ Mq41_ ls hme l_yq40_ g_yq40_ hR_Fq42_ hK_Fq42_ h1_Fq42_ hc_h hc_al hF hH hl
                  exfalso; omega
                | succ n ih =>
                  intro yq40_ Fq42_ Hq_ lcq_ Mq41_ ls hme l_yq40_ g_yq40_ hR_Fq42_ hK_Fq42_ h1_Fq42_ hc_h hc_al hF hH hl
                  refine lv_iload hx hb dX10_draws_72 (lv_at hl 0 rfl) ?_
                  refine lv_sipush (v := 280) hx hb dX10_draws_74 (by decide) ?_
                  refine jic_ge (tgt := 97) hx hb dX10_draws_77 (by decide) (fun cq43_ => ?_) (fun cq43_ => ?_)
                  · skip
                    have cq43_ : 280 ≤ yq40_.toInt := cq43_
                    refine lv_aload_n hx hb dX10_draws_97 rfl (lv_at hl 2 rfl) ?_
                    refine xg hC hK hH flX10_7 hc_h rfl dX10_draws_98 ?_
                    refine lv_iload hx hb dX10_draws_101 (lv_at hl 1 rfl) ?_
                    refine lv_iconst (v := 0) hx hb dX10_draws_103 (by decide) ?_
                    refine lv_iadd hx hb dX10_draws_104 ?_
                    refine lv_topi (fun zq44_ e_zq44_ => ?_)
                    have h_zq44_ : zq44_.toInt = rq37_.toInt + 0 := by rw [e_zq44_, iAdd (by have := iRg rq37_; have : (0 : Int32).toInt = 0 := rfl; omega) (by have := iRg rq37_; have : (0 : Int32).toInt = 0 := rfl; omega)]; rfl
                    refine lv_iload_n hx hb dX10_draws_105 rfl (lv_at hl 3 rfl) ?_
                    refine yist (x := dr) hC hK hH hc_al (noT hn_al) (iIn (by omega) (by omega)) dX10_draws_106 (fun Hq_ lcq_ Mq45_ hc_al hfr hH => ?_)
                    have hc_al : Mq45_ al = some (.inl (kA 0, 7506, .inl (upd Fq42_ (Int32.toNatClampNeg zq44_) dr))) := hc_al
                    have hc_h : Mq45_ h = some (.inr (8, [.ref al, .ref mt, .ref ii, .int ta, .int fpm, .ref pa, .int sm, .int nx, .int tk, .int pl, .int ln, .long va, .int wr, .ref li])) := (hfr h n_h_al).trans hc_h
                    have hF : ∀ q, FrK T q → q ≠ al → Mq45_ q = M q := fun q hq h0 => (hfr q h0).trans (hF q hq h0)
                    obtain ⟨gq46_, e_gq46_⟩ : ∃ g : Nat → Int32, g = upd Fq42_ (Int32.toNatClampNeg zq44_) dr := ⟨_, rfl⟩
                    rw [← e_gq46_] at hc_al
                    have hR_gq46_ : Rng gq46_ := by rw [e_gq46_]; exact hR_Fq42_.uO 0 (t := 0) (b := nq34_) (xn := nq39_) (by omega) (by omega) (by omega) (by decide) rfl (clE (by omega)) (by omega) (by omega)
                    have hK_gq46_ : Ke f gq46_ := by rw [e_gq46_]; exact hK_Fq42_.up (by have := iCl (x := zq44_) (by omega); omega)
                    have h1_gq46_ : gq46_ 1 = f 1 := by rw [e_gq46_]; exact (pk_un (by have := iCl (x := zq44_) (by omega); omega)).trans h1_Fq42_
                    refine lv_aload_n hx hb dX10_draws_107 rfl (lv_at hl 2 rfl) ?_
                    refine xg hC hK hH flX10_7 hc_h rfl dX10_draws_108 ?_
                    refine lv_iload hx hb dX10_draws_111 (lv_at hl 1 rfl) ?_
                    refine lv_iconst (v := 1) hx hb dX10_draws_113 (by decide) ?_
                    refine lv_iadd hx hb dX10_draws_114 ?_
                    refine lv_topi (fun zq47_ e_zq47_ => ?_)
                    have h_zq47_ : zq47_.toInt = rq37_.toInt + 1 := by rw [e_zq47_, iAdd (by have := iRg rq37_; have : (1 : Int32).toInt = 1 := rfl; omega) (by have := iRg rq37_; have : (1 : Int32).toInt = 1 := rfl; omega)]; rfl
                    refine lv_iload_n hx hb dX10_draws_115 rfl (lv_at hl 4 rfl) ?_
                    refine yist (x := de) hC hK hH hc_al (noT hn_al) (iIn (by omega) (by omega)) dX10_draws_116 (fun Hq_ lcq_ Mq48_ hc_al hfr hH => ?_)
                    have hc_al : Mq48_ al = some (.inl (kA 0, 7506, .inl (upd gq46_ (Int32.toNatClampNeg zq47_) de))) := hc_al
                    have hc_h : Mq48_ h = some (.inr (8, [.ref al, .ref mt, .ref ii, .int ta, .int fpm, .ref pa, .int sm, .int nx, .int tk, .int pl, .int ln, .long va, .int wr, .ref li])) := (hfr h n_h_al).trans hc_h
                    have hF : ∀ q, FrK T q → q ≠ al → Mq48_ q = M q := fun q hq h0 => (hfr q h0).trans (hF q hq h0)
                    obtain ⟨gq49_, e_gq49_⟩ : ∃ g : Nat → Int32, g = upd gq46_ (Int32.toNatClampNeg zq47_) de := ⟨_, rfl⟩
                    rw [← e_gq49_] at hc_al
                    have hR_gq49_ : Rng gq49_ := by rw [e_gq49_]; exact hR_gq46_.uO 1 (t := 0) (b := nq34_) (xn := nq39_) (by omega) (by omega) (by omega) (by decide) rfl (clE (by omega)) (by omega) (by omega)
                    have hK_gq49_ : Ke f gq49_ := by rw [e_gq49_]; exact hK_gq46_.up (by have := iCl (x := zq47_) (by omega); omega)
                    have h1_gq49_ : gq49_ 1 = f 1 := by rw [e_gq49_]; exact (pk_un (by have := iCl (x := zq47_) (by omega); omega)).trans h1_gq46_
                    refine lv_aload_n hx hb dX10_draws_117 rfl (lv_at hl 2 rfl) ?_
                    refine xg hC hK hH flX10_7 hc_h rfl dX10_draws_118 ?_
                    refine lv_iload hx hb dX10_draws_121 (lv_at hl 1 rfl) ?_
                    refine lv_iconst (v := 2) hx hb dX10_draws_123 (by decide) ?_
                    refine lv_iadd hx hb dX10_draws_124 ?_
                    refine lv_topi (fun zq50_ e_zq50_ => ?_)
                    have h_zq50_ : zq50_.toInt = rq37_.toInt + 2 := by rw [e_zq50_, iAdd (by have := iRg rq37_; have : (2 : Int32).toInt = 2 := rfl; omega) (by have := iRg rq37_; have : (2 : Int32).toInt = 2 := rfl; omega)]; rfl
                    refine lv_iload_n hx hb dX10_draws_125 rfl (lv_at hl 5 rfl) ?_
                    refine yist (x := pe) hC hK hH hc_al (noT hn_al) (iIn (by omega) (by omega)) dX10_draws_126 (fun Hq_ lcq_ Mq51_ hc_al hfr hH => ?_)
                    have hc_al : Mq51_ al = some (.inl (kA 0, 7506, .inl (upd gq49_ (Int32.toNatClampNeg zq50_) pe))) := hc_al
                    have hc_h : Mq51_ h = some (.inr (8, [.ref al, .ref mt, .ref ii, .int ta, .int fpm, .ref pa, .int sm, .int nx, .int tk, .int pl, .int ln, .long va, .int wr, .ref li])) := (hfr h n_h_al).trans hc_h
                    have hF : ∀ q, FrK T q → q ≠ al → Mq51_ q = M q := fun q hq h0 => (hfr q h0).trans (hF q hq h0)
                    obtain ⟨gq52_, e_gq52_⟩ : ∃ g : Nat → Int32, g = upd gq49_ (Int32.toNatClampNeg zq50_) pe := ⟨_, rfl⟩
                    rw [← e_gq52_] at hc_al
                    have hR_gq52_ : Rng gq52_ := by rw [e_gq52_]; exact hR_gq49_.uO 2 (t := 0) (b := nq34_) (xn := nq39_) (by omega) (by omega) (by omega) (by decide) rfl (clE (by omega)) (by omega) (by omega)
                    have hK_gq52_ : Ke f gq52_ := by rw [e_gq52_]; exact hK_gq49_.up (by have := iCl (x := zq50_) (by omega); omega)
                    have h1_gq52_ : gq52_ 1 = f 1 := by rw [e_gq52_]; exact (pk_un (by have := iCl (x := zq50_) (by omega); omega)).trans h1_gq49_
                    refine lv_aload_n hx hb dX10_draws_127 rfl (lv_at hl 2 rfl) ?_
                    refine xg hC hK hH flX10_7 hc_h rfl dX10_draws_128 ?_
                    refine lv_iload hx hb dX10_draws_131 (lv_at hl 1 rfl) ?_
                    refine lv_iconst (v := 3) hx hb dX10_draws_133 (by decide) ?_
                    refine lv_iadd hx hb dX10_draws_134 ?_
                    refine lv_topi (fun zq53_ e_zq53_ => ?_)
                    have h_zq53_ : zq53_.toInt = rq37_.toInt + 3 := by rw [e_zq53_, iAdd (by have := iRg rq37_; have : (3 : Int32).toInt = 3 := rfl; omega) (by have := iRg rq37_; have : (3 : Int32).toInt = 3 := rfl; omega)]; rfl
                    refine lv_iload hx hb dX10_draws_135 (lv_at hl 7 rfl) ?_
                    refine yist (x := su) hC hK hH hc_al (noT hn_al) (iIn (by omega) (by omega)) dX10_draws_137 (fun Hq_ lcq_ Mq54_ hc_al hfr hH => ?_)
                    have hc_al : Mq54_ al = some (.inl (kA 0, 7506, .inl (upd gq52_ (Int32.toNatClampNeg zq53_) su))) := hc_al
                    have hc_h : Mq54_ h = some (.inr (8, [.ref al, .ref mt, .ref ii, .int ta, .int fpm, .ref pa, .int sm, .int nx, .int tk, .int pl, .int ln, .long va, .int wr, .ref li])) := (hfr h n_h_al).trans hc_h
                    have hF : ∀ q, FrK T q → q ≠ al → Mq54_ q = M q := fun q hq h0 => (hfr q h0).trans (hF q hq h0)
                    obtain ⟨gq55_, e_gq55_⟩ : ∃ g : Nat → Int32, g = upd gq52_ (Int32.toNatClampNeg zq53_) su := ⟨_, rfl⟩
                    rw [← e_gq55_] at hc_al
                    have hR_gq55_ : Rng gq55_ := by rw [e_gq55_]; exact hR_gq52_.uX (t := 0) (b := nq34_) (xn := nq39_) (by omega) (by omega) (by omega) (by have := iCl (x := zq53_) (by omega); omega) (by have := iCl (x := zq53_) (by omega); omega) (by have := iCl (x := zq53_) (by omega); omega)
                    have hK_gq55_ : Ke f gq55_ := by rw [e_gq55_]; exact hK_gq52_.up (by have := iCl (x := zq53_) (by omega); omega)
                    have h1_gq55_ : gq55_ 1 = f 1 := by rw [e_gq55_]; exact (pk_un (by have := iCl (x := zq53_) (by omega); omega)).trans h1_gq52_
                    refine lv_aload_n hx hb dX10_draws_138 rfl (lv_at hl 2 rfl) ?_
                    refine xg hC hK hH flX10_7 hc_h rfl dX10_draws_139 ?_
                    refine lv_iload hx hb dX10_draws_142 (lv_at hl 1 rfl) ?_
                    refine lv_iconst (v := 4) hx hb dX10_draws_144 (by decide) ?_
                    refine lv_iadd hx hb dX10_draws_145 ?_
                    refine lv_topi (fun zq56_ e_zq56_ => ?_)
                    have h_zq56_ : zq56_.toInt = rq37_.toInt + 4 := by rw [e_zq56_, iAdd (by have := iRg rq37_; have : (4 : Int32).toInt = 4 := rfl; omega) (by have := iRg rq37_; have : (4 : Int32).toInt = 4 := rfl; omega)]; rfl
                    refine lv_aload_n hx hb dX10_draws_146 rfl (lv_at hl 2 rfl) ?_
                    refine xg hC hK hH flX10_7 hc_h rfl dX10_draws_147 ?_
                    refine lv_iconst (v := 0) hx hb dX10_draws_150 (by decide) ?_
                    refine xild hC hK hH hc_al (iIn (by decide) (by decide)) dX10_draws_151 ?_
                    refine lv_topi (fun xq57_ e_xq57_ => ?_)
                    have kt_xq57_ : xq57_.toInt = (gq55_ 0).toInt := by rw [e_xq57_]; rfl
                    refine lv_iload hx hb dX10_draws_152 (lv_at hl 8 rfl) ?_
                    refine lv_iadd hx hb dX10_draws_154 ?_
                    refine lv_topi (fun zq58_ e_zq58_ => ?_)
                    refine yist (x := zq58_) hC hK hH hc_al (noT hn_al) (iIn (by omega) (by omega)) dX10_draws_155 (fun Hq_ lcq_ Mq59_ hc_al hfr hH => ?_)
                    have hc_al : Mq59_ al = some (.inl (kA 0, 7506, .inl (upd gq55_ (Int32.toNatClampNeg zq56_) zq58_))) := hc_al
                    have hc_h : Mq59_ h = some (.inr (8, [.ref al, .ref mt, .ref ii, .int ta, .int fpm, .ref pa, .int sm, .int nx, .int tk, .int pl, .int ln, .long va, .int wr, .ref li])) := (hfr h n_h_al).trans hc_h
                    have hF : ∀ q, FrK T q → q ≠ al → Mq59_ q = M q := fun q hq h0 => (hfr q h0).trans (hF q hq h0)
                    obtain ⟨gq60_, e_gq60_⟩ : ∃ g : Nat → Int32, g = upd gq55_ (Int32.toNatClampNeg zq56_) zq58_ := ⟨_, rfl⟩
                    rw [← e_gq60_] at hc_al
                    have hR_gq60_ : Rng gq60_ := by rw [e_gq60_]; exact hR_gq55_.uX (t := 0) (b := nq34_) (xn := nq39_) (by omega) (by omega) (by omega) (by have := iCl (x := zq56_) (by omega); omega) (by have := iCl (x := zq56_) (by omega); omega) (by have := iCl (x := zq56_) (by omega); omega)
                    have hK_gq60_ : Ke f gq60_ := by rw [e_gq60_]; exact hK_gq55_.up (by have := iCl (x := zq56_) (by omega); omega)
                    have h1_gq60_ : gq60_ 1 = f 1 := by rw [e_gq60_]; exact (pk_un (by have := iCl (x := zq56_) (by omega); omega)).trans h1_gq55_
                    refine lv_aload_n hx hb dX10_draws_156 rfl (lv_at hl 2 rfl) ?_
                    refine xg hC hK hH flX10_7 hc_h rfl dX10_draws_157 ?_
                    refine lv_iload hx hb dX10_draws_160 (lv_at hl 1 rfl) ?_
                    refine lv_iconst (v := 5) hx hb dX10_draws_162 (by decide) ?_
                    refine lv_iadd hx hb dX10_draws_163 ?_
                    refine lv_topi (fun zq61_ e_zq61_ => ?_)
                    have h_zq61_ : zq61_.toInt = rq37_.toInt + 5 := by rw [e_zq61_, iAdd (by have := iRg rq37_; have : (5 : Int32).toInt = 5 := rfl; omega) (by have := iRg rq37_; have : (5 : Int32).toInt = 5 := rfl; omega)]; rfl
                    have Jq63_ : ∀ vq62_ : Int32, (0 : Int) ≤ vq62_.toInt → vq62_.toInt ≤ 1 → W p l e (rmL 2 0 0) s m ([.ref h, .int dr, .int de, .int pe, .int op, .int su, .int dy] : List Value).toArray below meth c Hq_ lcq_ 0 0 (MQ below (va_Qi (fun r u => ∃ g : Nat → Int32, (Rng g ∧ Ke f g) ∧ (u.1 al = some (.inl (kA 0, 7506, .inl g))) ∧ u.2 = T ∧ (∀ q, FrK T q → q ≠ al → u.1 q = M q)) (mB D kA M T sz) (mA M T sz)) ([.ref h, .int dr, .int de, .int pe, .int op, .int su, .int dy] : List Value).toArray s 0 0 (mA M T sz)) (F0 m 174 ls [.int vq62_, .int zq61_, .ref al]) := by
                      intro vq62_ l_vq62_ g_vq62_
                      refine yist (x := vq62_) hC hK hH hc_al (noT hn_al) (iIn (by omega) (by omega)) dX10_draws_174 (fun Hq_ lcq_ Mq64_ hc_al hfr hH => ?_)
                      have hc_al : Mq64_ al = some (.inl (kA 0, 7506, .inl (upd gq60_ (Int32.toNatClampNeg zq61_) vq62_))) := hc_al
                      have hc_h : Mq64_ h = some (.inr (8, [.ref al, .ref mt, .ref ii, .int ta, .int fpm, .ref pa, .int sm, .int nx, .int tk, .int pl, .int ln, .long va, .int wr, .ref li])) := (hfr h n_h_al).trans hc_h
                      have hF : ∀ q, FrK T q → q ≠ al → Mq64_ q = M q := fun q hq h0 => (hfr q h0).trans (hF q hq h0)
                      obtain ⟨gq65_, e_gq65_⟩ : ∃ g : Nat → Int32, g = upd gq60_ (Int32.toNatClampNeg zq61_) vq62_ := ⟨_, rfl⟩
                      rw [← e_gq65_] at hc_al
                      have hR_gq65_ : Rng gq65_ := by rw [e_gq65_]; exact hR_gq60_.uX (t := 0) (b := nq34_) (xn := nq39_) (by omega) (by omega) (by omega) (by have := iCl (x := zq61_) (by omega); omega) (by have := iCl (x := zq61_) (by omega); omega) (by have := iCl (x := zq61_) (by omega); omega)
                      have hK_gq65_ : Ke f gq65_ := by rw [e_gq65_]; exact hK_gq60_.up (by have := iCl (x := zq61_) (by omega); omega)
                      have h1_gq65_ : gq65_ 1 = f 1 := by rw [e_gq65_]; exact (pk_un (by have := iCl (x := zq61_) (by omega); omega)).trans h1_gq60_
                      refine lv_aload_n hx hb dX10_draws_175 rfl (lv_at hl 2 rfl) ?_
                      refine xg hC hK hH flX10_7 hc_h rfl dX10_draws_176 ?_
                      refine lv_iload hx hb dX10_draws_179 (lv_at hl 1 rfl) ?_
                      refine lv_bipush (v := 7) hx hb dX10_draws_181 (by decide) ?_
                      refine lv_iadd hx hb dX10_draws_183 ?_
                      refine lv_topi (fun zq66_ e_zq66_ => ?_)
                      have h_zq66_ : zq66_.toInt = rq37_.toInt + 7 := by rw [e_zq66_, iAdd (by have := iRg rq37_; have : (7 : Int32).toInt = 7 := rfl; omega) (by have := iRg rq37_; have : (7 : Int32).toInt = 7 := rfl; omega)]; rfl
                      refine lv_iload_n hx hb dX10_draws_184 rfl (lv_at hl 5 rfl) ?_
                      refine yist (x := pe) hC hK hH hc_al (noT hn_al) (iIn (by omega) (by omega)) dX10_draws_185 (fun Hq_ lcq_ Mq67_ hc_al hfr hH => ?_)
                      have hc_al : Mq67_ al = some (.inl (kA 0, 7506, .inl (upd gq65_ (Int32.toNatClampNeg zq66_) pe))) := hc_al
                      have hc_h : Mq67_ h = some (.inr (8, [.ref al, .ref mt, .ref ii, .int ta, .int fpm, .ref pa, .int sm, .int nx, .int tk, .int pl, .int ln, .long va, .int wr, .ref li])) := (hfr h n_h_al).trans hc_h
                      have hF : ∀ q, FrK T q → q ≠ al → Mq67_ q = M q := fun q hq h0 => (hfr q h0).trans (hF q hq h0)
                      obtain ⟨gq68_, e_gq68_⟩ : ∃ g : Nat → Int32, g = upd gq65_ (Int32.toNatClampNeg zq66_) pe := ⟨_, rfl⟩
                      rw [← e_gq68_] at hc_al
                      have hR_gq68_ : Rng gq68_ := by rw [e_gq68_]; exact hR_gq65_.uO 7 (t := 0) (b := nq34_) (xn := nq39_) (by omega) (by omega) (by omega) (by decide) rfl (clE (by omega)) (by omega) (by omega)
                      have hK_gq68_ : Ke f gq68_ := by rw [e_gq68_]; exact hK_gq65_.up (by have := iCl (x := zq66_) (by omega); omega)
                      have h1_gq68_ : gq68_ 1 = f 1 := by rw [e_gq68_]; exact (pk_un (by have := iCl (x := zq66_) (by omega); omega)).trans h1_gq65_
                      refine lv_aload_n hx hb dX10_draws_186 rfl (lv_at hl 2 rfl) ?_
                      refine xg hC hK hH flX10_7 hc_h rfl dX10_draws_187 ?_
                      refine lv_iload hx hb dX10_draws_190 (lv_at hl 1 rfl) ?_
                      refine lv_bipush (v := 9) hx hb dX10_draws_192 (by decide) ?_
                      refine lv_iadd hx hb dX10_draws_194 ?_
                      refine lv_topi (fun zq69_ e_zq69_ => ?_)
                      have h_zq69_ : zq69_.toInt = rq37_.toInt + 9 := by rw [e_zq69_, iAdd (by have := iRg rq37_; have : (9 : Int32).toInt = 9 := rfl; omega) (by have := iRg rq37_; have : (9 : Int32).toInt = 9 := rfl; omega)]; rfl
                      refine lv_iconst (v := -1) hx hb dX10_draws_195 (by decide) ?_
                      refine yist (x := -1) hC hK hH hc_al (noT hn_al) (iIn (by omega) (by omega)) dX10_draws_196 (fun Hq_ lcq_ Mq70_ hc_al hfr hH => ?_)
                      have hc_al : Mq70_ al = some (.inl (kA 0, 7506, .inl (upd gq68_ (Int32.toNatClampNeg zq69_) (-1)))) := hc_al
                      have hc_h : Mq70_ h = some (.inr (8, [.ref al, .ref mt, .ref ii, .int ta, .int fpm, .ref pa, .int sm, .int nx, .int tk, .int pl, .int ln, .long va, .int wr, .ref li])) := (hfr h n_h_al).trans hc_h
                      have hF : ∀ q, FrK T q → q ≠ al → Mq70_ q = M q := fun q hq h0 => (hfr q h0).trans (hF q hq h0)
                      obtain ⟨gq71_, e_gq71_⟩ : ∃ g : Nat → Int32, g = upd gq68_ (Int32.toNatClampNeg zq69_) (-1) := ⟨_, rfl⟩
                      rw [← e_gq71_] at hc_al
                      have hR_gq71_ : Rng gq71_ := by rw [e_gq71_]; exact hR_gq68_.uX (t := 0) (b := nq34_) (xn := nq39_) (by omega) (by omega) (by omega) (by have := iCl (x := zq69_) (by omega); omega) (by have := iCl (x := zq69_) (by omega); omega) (by have := iCl (x := zq69_) (by omega); omega)
                      have hK_gq71_ : Ke f gq71_ := by rw [e_gq71_]; exact hK_gq68_.up (by have := iCl (x := zq69_) (by omega); omega)
                      have h1_gq71_ : gq71_ 1 = f 1 := by rw [e_gq71_]; exact (pk_un (by have := iCl (x := zq69_) (by omega); omega)).trans h1_gq68_
                      refine lv_aload_n hx hb dX10_draws_197 rfl (lv_at hl 2 rfl) ?_
                      refine xg hC hK hH flX10_7 hc_h rfl dX10_draws_198 ?_
                      refine lv_iload hx hb dX10_draws_201 (lv_at hl 1 rfl) ?_
                      refine lv_bipush (v := 19) hx hb dX10_draws_203 (by decide) ?_
                      refine lv_iadd hx hb dX10_draws_205 ?_
                      refine lv_topi (fun zq72_ e_zq72_ => ?_)
                      have h_zq72_ : zq72_.toInt = rq37_.toInt + 19 := by rw [e_zq72_, iAdd (by have := iRg rq37_; have : (19 : Int32).toInt = 19 := rfl; omega) (by have := iRg rq37_; have : (19 : Int32).toInt = 19 := rfl; omega)]; rfl
                      refine lv_iconst (v := -1) hx hb dX10_draws_206 (by decide) ?_
                      refine yist (x := -1) hC hK hH hc_al (noT hn_al) (iIn (by omega) (by omega)) dX10_draws_207 (fun Hq_ lcq_ Mq73_ hc_al hfr hH => ?_)
                      have hc_al : Mq73_ al = some (.inl (kA 0, 7506, .inl (upd gq71_ (Int32.toNatClampNeg zq72_) (-1)))) := hc_al
                      have hc_h : Mq73_ h = some (.inr (8, [.ref al, .ref mt, .ref ii, .int ta, .int fpm, .ref pa, .int sm, .int nx, .int tk, .int pl, .int ln, .long va, .int wr, .ref li])) := (hfr h n_h_al).trans hc_h
                      have hF : ∀ q, FrK T q → q ≠ al → Mq73_ q = M q := fun q hq h0 => (hfr q h0).trans (hF q hq h0)
                      obtain ⟨gq74_, e_gq74_⟩ : ∃ g : Nat → Int32, g = upd gq71_ (Int32.toNatClampNeg zq72_) (-1) := ⟨_, rfl⟩
                      rw [← e_gq74_] at hc_al
                      have hR_gq74_ : Rng gq74_ := by rw [e_gq74_]; exact hR_gq71_.uO 19 (t := 0) (b := nq34_) (xn := nq39_) (by omega) (by omega) (by omega) (by decide) rfl (clE (by omega)) (by decide) (by decide)
                      have hK_gq74_ : Ke f gq74_ := by rw [e_gq74_]; exact hK_gq71_.up (by have := iCl (x := zq72_) (by omega); omega)
                      have h1_gq74_ : gq74_ 1 = f 1 := by rw [e_gq74_]; exact (pk_un (by have := iCl (x := zq72_) (by omega); omega)).trans h1_gq71_
                      refine lv_aload_n hx hb dX10_draws_208 rfl (lv_at hl 2 rfl) ?_
                      refine lv_iload hx hb dX10_draws_209 (lv_at hl 1 rfl) ?_
                      refine lv_iconst (v := 0) hx hb dX10_draws_211 (by decide) ?_
                      refine goI hK hH (runS (As := [.int rq37_, .int 0]) (rest := [.ref h]) hC hK hH (c_X10_partyAt (by omega) (by decide)) mlX10_56 ⟨⟨Nat.le_of_ble_eq_true rfl, Nat.le_of_ble_eq_true rfl⟩, Nat.le_of_ble_eq_true rfl, Nat.le_of_ble_eq_true rfl⟩ rfl hl.1 rfl (Nat.le_of_ble_eq_true rfl) dX10_draws_212) (fun rq77_ Mq75_ Tq76_ Hq_ lcq_ hP hz hH => ?_)
                      try dsimp only at hP
                      obtain ⟨(⟨cq78_, ⟨l_rq77_, g_rq77_⟩⟩), eT, eM⟩ := hP
                      have eT := eT.symm; subst eT
                      have eM := eM.symm; subst eM
                      have cq78_ : rq77_.toInt = rq37_.toInt + 184 + 6 * (0 : Int) := cq78_
                      have hx_rq77_ : rq77_.toInt = ((nq39_ + 184 + 6 * 0 : Nat) : Int) := by have : (0 : Int32).toInt = 0 := rfl; omega
                      refine goV hK hH (runV (As := [.int rq77_]) (rest := []) hC hK hH (c_X10_clears (xn := nq39_) (t := 0) (b := nq34_) (ptn := 0) hc_h hn_h hc_al hn_al ht_mt ht_pa ht_li (by exact hR_gq74_) (by decide) (by omega) (by have : (0 : Int32).toInt = 0 := rfl; omega) (by decide) (by have : (0 : Int32).toInt = 0 := rfl; omega)) mlX10_59 (rcvM hK hH hc_h rfl) ⟨⟨Nat.le_of_ble_eq_true rfl, Nat.le_of_ble_eq_true rfl⟩, Nat.le_of_ble_eq_true rfl, Nat.le_of_ble_eq_true rfl⟩ rfl hl.1 rfl (Nat.le_of_ble_eq_true rfl) dX10_draws_215) (fun Mq79_ Tq80_ Hq_ lcq_ hP hz hH => ?_)
                      try dsimp only at hP
                      obtain ⟨gq82_, h_gq82_, (hx_al), eT, hfr⟩ := hP
                      have eT := eT.symm; subst eT
                      have hc_h : Mq79_ h = some (.inr (8, [.ref al, .ref mt, .ref ii, .int ta, .int fpm, .ref pa, .int sm, .int nx, .int tk, .int pl, .int ln, .long va, .int wr, .ref li])) := (hfr h (Or.inl hn_h) n_h_al).trans hc_h
                      have hc_al : Mq79_ al = some (.inl (kA 0, 7506, .inl gq82_)) := hx_al
                      have hF : ∀ q, FrK T q → q ≠ al → Mq79_ q = M q := fun q hq h0 => (hfr q hq  h0).trans (hF q hq h0)
                      have hR_gq82_ : Rng gq82_ := h_gq82_.1
                      have hK_gq82_ : Ke f gq82_ := hK_gq74_.tr h_gq82_.2.1
                      have hE_gq82_ : gq82_ 1 = gq74_ 1 := h_gq82_.2.2
                      have h1_gq82_ : gq82_ 1 = f 1 := hE_gq82_.trans h1_gq74_
                      refine lv_aload_n hx hb dX10_draws_218 rfl (lv_at hl 2 rfl) ?_
                      refine lv_iload hx hb dX10_draws_219 (lv_at hl 1 rfl) ?_
                      refine lv_iconst (v := 1) hx hb dX10_draws_221 (by decide) ?_
                      refine goI hK hH (runS (As := [.int rq37_, .int 1]) (rest := [.ref h]) hC hK hH (c_X10_partyAt (by omega) (by decide)) mlX10_56 ⟨⟨Nat.le_of_ble_eq_true rfl, Nat.le_of_ble_eq_true rfl⟩, Nat.le_of_ble_eq_true rfl, Nat.le_of_ble_eq_true rfl⟩ rfl hl.1 rfl (Nat.le_of_ble_eq_true rfl) dX10_draws_222) (fun rq85_ Mq83_ Tq84_ Hq_ lcq_ hP hz hH => ?_)
                      try dsimp only at hP
                      obtain ⟨(⟨cq86_, ⟨l_rq85_, g_rq85_⟩⟩), eT, eM⟩ := hP
                      have eT := eT.symm; subst eT
                      have eM := eM.symm; subst eM
                      have cq86_ : rq85_.toInt = rq37_.toInt + 184 + 6 * (1 : Int) := cq86_
                      have hx_rq85_ : rq85_.toInt = ((nq39_ + 184 + 6 * 1 : Nat) : Int) := by have : (1 : Int32).toInt = 1 := rfl; omega
                      refine goV hK hH (runV (As := [.int rq85_]) (rest := []) hC hK hH (c_X10_clears (xn := nq39_) (t := 0) (b := nq34_) (ptn := 1) hc_h hn_h hc_al hn_al ht_mt ht_pa ht_li (by exact hR_gq82_) (by decide) (by omega) (by have : (0 : Int32).toInt = 0 := rfl; omega) (by decide) (by have : (1 : Int32).toInt = 1 := rfl; omega)) mlX10_59 (rcvM hK hH hc_h rfl) ⟨⟨Nat.le_of_ble_eq_true rfl, Nat.le_of_ble_eq_true rfl⟩, Nat.le_of_ble_eq_true rfl, Nat.le_of_ble_eq_true rfl⟩ rfl hl.1 rfl (Nat.le_of_ble_eq_true rfl) dX10_draws_225) (fun Mq87_ Tq88_ Hq_ lcq_ hP hz hH => ?_)
                      try dsimp only at hP
                      obtain ⟨gq90_, h_gq90_, (hx_al), eT, hfr⟩ := hP
                      have eT := eT.symm; subst eT
                      have hc_h : Mq87_ h = some (.inr (8, [.ref al, .ref mt, .ref ii, .int ta, .int fpm, .ref pa, .int sm, .int nx, .int tk, .int pl, .int ln, .long va, .int wr, .ref li])) := (hfr h (Or.inl hn_h) n_h_al).trans hc_h
                      have hc_al : Mq87_ al = some (.inl (kA 0, 7506, .inl gq90_)) := hx_al
                      have hF : ∀ q, FrK T q → q ≠ al → Mq87_ q = M q := fun q hq h0 => (hfr q hq  h0).trans (hF q hq h0)
                      have hR_gq90_ : Rng gq90_ := h_gq90_.1
                      have hK_gq90_ : Ke f gq90_ := hK_gq82_.tr h_gq90_.2.1
                      have hE_gq90_ : gq90_ 1 = gq82_ 1 := h_gq90_.2.2
                      have h1_gq90_ : gq90_ 1 = f 1 := hE_gq90_.trans h1_gq82_
                      refine lv_aload_n hx hb dX10_draws_228 rfl (lv_at hl 2 rfl) ?_
                      refine lv_iload hx hb dX10_draws_229 (lv_at hl 1 rfl) ?_
                      refine goV hK hH (runV (As := [.int rq37_]) (rest := []) hC hK hH (c_X10_startsChain (xn := nq39_) (t := 0) (b := nq34_) hc_h hn_h hc_al hn_al ht_mt ht_pa ht_li (by exact hR_gq90_) (by decide) (by omega) (by have : (0 : Int32).toInt = 0 := rfl; omega) (by omega)) mlX10_91 (rcvM hK hH hc_h rfl) ⟨⟨Nat.le_of_ble_eq_true rfl, Nat.le_of_ble_eq_true rfl⟩, Nat.le_of_ble_eq_true rfl, Nat.le_of_ble_eq_true rfl⟩ rfl hl.1 rfl (Nat.le_of_ble_eq_true rfl) dX10_draws_231) (fun Mq91_ Tq92_ Hq_ lcq_ hP hz hH => ?_)
                      try dsimp only at hP
                      obtain ⟨gq94_, h_gq94_, (hx_al), eT, hfr⟩ := hP
                      have eT := eT.symm; subst eT
                      have hc_h : Mq91_ h = some (.inr (8, [.ref al, .ref mt, .ref ii, .int ta, .int fpm, .ref pa, .int sm, .int nx, .int tk, .int pl, .int ln, .long va, .int wr, .ref li])) := (hfr h (Or.inl hn_h) n_h_al).trans hc_h
                      have hc_al : Mq91_ al = some (.inl (kA 0, 7506, .inl gq94_)) := hx_al
                      have hF : ∀ q, FrK T q → q ≠ al → Mq91_ q = M q := fun q hq h0 => (hfr q hq  h0).trans (hF q hq h0)
                      have hR_gq94_ : Rng gq94_ := h_gq94_.1
                      have hK_gq94_ : Ke f gq94_ := hK_gq90_.tr h_gq94_.2.1
                      have hE_gq94_ : (Kp gq90_ gq94_ nq39_ ∧ gq94_ 1 = gq90_ 1) := h_gq94_.2.2
                      have h1_gq94_ : gq94_ 1 = f 1 := hE_gq94_.2.trans h1_gq90_
                      refine lv_aload_n hx hb dX10_draws_234 rfl (lv_at hl 2 rfl) ?_
                      refine xg hC hK hH flX10_7 hc_h rfl dX10_draws_235 ?_
                      refine lv_iconst (v := 1) hx hb dX10_draws_238 (by decide) ?_
                      refine lv_dup2_11 hx hb dX10_draws_239 rfl rfl ?_
                      refine xild hC hK hH hc_al (iIn (by decide) (by decide)) dX10_draws_240 ?_
                      refine lv_topi (fun xq95_ e_xq95_ => ?_)
                      have kt_xq95_ : xq95_.toInt = (gq94_ 1).toInt := by rw [e_xq95_]; rfl
                      have l_xq95_ : 0 ≤ xq95_.toInt := by rw [kt_xq95_]; exact hR_gq94_.r1.1
                      have g_xq95_ : xq95_.toInt ≤ 4 := by rw [kt_xq95_]; exact hR_gq94_.r1.2
                      have k1_xq95_ : (gq94_ 1).toInt = (f 1).toInt := congrArg Int32.toInt h1_gq94_
                      have g_xq95_ : xq95_.toInt ≤ 3 := by omega
                      refine lv_iconst (v := 1) hx hb dX10_draws_241 (by decide) ?_
                      refine lv_iadd hx hb dX10_draws_242 ?_
                      refine lv_topi (fun zq96_ e_zq96_ => ?_)
                      have h_zq96_ : zq96_.toInt = xq95_.toInt + 1 := by rw [e_zq96_, iAdd (by have := iRg xq95_; have : (1 : Int32).toInt = 1 := rfl; omega) (by have := iRg xq95_; have : (1 : Int32).toInt = 1 := rfl; omega)]; rfl
                      refine yist (x := zq96_) hC hK hH hc_al (noT hn_al) (iIn (by decide) (by decide)) dX10_draws_243 (fun Hq_ lcq_ Mq97_ hc_al hfr hH => ?_)
                      have hc_al : Mq97_ al = some (.inl (kA 0, 7506, .inl (upd gq94_ (Int32.toNatClampNeg 1) zq96_))) := hc_al
                      have hc_h : Mq97_ h = some (.inr (8, [.ref al, .ref mt, .ref ii, .int ta, .int fpm, .ref pa, .int sm, .int nx, .int tk, .int pl, .int ln, .long va, .int wr, .ref li])) := (hfr h n_h_al).trans hc_h
                      have hF : ∀ q, FrK T q → q ≠ al → Mq97_ q = M q := fun q hq h0 => (hfr q h0).trans (hF q hq h0)
                      obtain ⟨gq98_, e_gq98_⟩ : ∃ g : Nat → Int32, g = upd gq94_ (Int32.toNatClampNeg 1) zq96_ := ⟨_, rfl⟩
                      rw [← e_gq98_] at hc_al
                      have hR_gq98_ : Rng gq98_ := by rw [e_gq98_]; exact hR_gq94_.u1 rfl (by omega) (by omega)
                      have hK_gq98_ : Ke f gq98_ := by rw [e_gq98_]; exact hK_gq94_.up (by have : Int32.toNatClampNeg 1 = 1 := rfl; omega)
                      refine lv_iconst (v := 0) hx hb dX10_draws_244 (by decide) ?_
                      exact ret_i hC hr hlk hK hH (⟨gq98_, ⟨hR_gq98_, hK_gq98_⟩, hc_al, rfl, hF⟩) (Nat.le_of_ble_eq_true rfl) (Nat.le_of_ble_eq_true rfl) dX10_draws_245
                    refine lv_iload hx hb dX10_draws_164 (lv_at hl 6 rfl) ?_
                    refine jif_eq (tgt := 173) hx hb dX10_draws_166 (by decide) (fun cq99_ => ?_) (fun cq99_ => ?_)
                    · skip
                      have cq99_ : op.toInt = 0 := cq99_
                      refine lv_iconst (v := 0) hx hb dX10_draws_173 (by decide) ?_
                      exact Jq63_ 0 (by decide) (by decide)
                    · skip
                      have cq99_ : op.toInt ≠ 0 := cq99_
                      refine lv_iconst (v := 1) hx hb dX10_draws_169 (by decide) ?_
                      refine lv_goto (tgt := 174) hx hb dX10_draws_170 (by decide) ?_
                      exact Jq63_ 1 (by decide) (by decide)
                  · skip
                    have cq43_ : yq40_.toInt < 280 := cq43_
                    refine lv_aload_n hx hb dX10_draws_80 rfl (lv_at hl 2 rfl) ?_
                    refine xg hC hK hH flX10_7 hc_h rfl dX10_draws_81 ?_
                    refine lv_iload hx hb dX10_draws_84 (lv_at hl 1 rfl) ?_
                    refine lv_iload hx hb dX10_draws_86 (lv_at hl 0 rfl) ?_
                    refine lv_iadd hx hb dX10_draws_88 ?_
                    refine lv_topi (fun zq100_ e_zq100_ => ?_)
                    have h_zq100_ : zq100_.toInt = rq37_.toInt + yq40_.toInt := by rw [e_zq100_, iAdd (by have := iRg rq37_; have := iRg yq40_; omega) (by have := iRg rq37_; have := iRg yq40_; omega)]
                    refine lv_iconst (v := 0) hx hb dX10_draws_89 (by decide) ?_
                    refine yist (x := 0) hC hK hH hc_al (noT hn_al) (iIn (by omega) (by omega)) dX10_draws_90 (fun Hq_ lcq_ Mq101_ hc_al hfr hH => ?_)
                    have hc_al : Mq101_ al = some (.inl (kA 0, 7506, .inl (upd Fq42_ (Int32.toNatClampNeg zq100_) 0))) := hc_al
                    have hc_h : Mq101_ h = some (.inr (8, [.ref al, .ref mt, .ref ii, .int ta, .int fpm, .ref pa, .int sm, .int nx, .int tk, .int pl, .int ln, .long va, .int wr, .ref li])) := (hfr h n_h_al).trans hc_h
                    have hF : ∀ q, FrK T q → q ≠ al → Mq101_ q = M q := fun q hq h0 => (hfr q h0).trans (hF q hq h0)
                    obtain ⟨gq102_, e_gq102_⟩ : ∃ g : Nat → Int32, g = upd Fq42_ (Int32.toNatClampNeg zq100_) 0 := ⟨_, rfl⟩
                    rw [← e_gq102_] at hc_al
                    have hR_gq102_ : Rng gq102_ := by rw [e_gq102_]; exact hR_Fq42_.u0
                    have hK_gq102_ : Ke f gq102_ := by rw [e_gq102_]; exact hK_Fq42_.up (by have := iCl (x := zq100_) (by omega); omega)
                    have h1_gq102_ : gq102_ 1 = f 1 := by rw [e_gq102_]; exact (pk_un (by have := iCl (x := zq100_) (by omega); omega)).trans h1_Fq42_
                    obtain ⟨zq103_, e_zq103_⟩ : ∃ y : Int32, y = yq40_ + 1 := ⟨_, rfl⟩
                    refine lv_iinc (v := zq103_) (lv' := [(8, .int zq103_), (7, .int rq37_), (0, .ref h), (1, .int dr), (2, .int de), (3, .int pe), (4, .int op), (5, .int su), (6, .int dy)]) hx hb dX10_draws_91 hl (k := 0) rfl (by rw [e_zq103_]; rfl) (by decide) rfl (fun ls hl => ?_)
                    have h_zq103_ : zq103_.toInt = yq40_.toInt + 1 := by rw [e_zq103_, iAdd (by have : (1 : Int32).toInt = 1 := rfl; omega) (by have : (1 : Int32).toInt = 1 := rfl; omega)]; rfl
                    refine lv_goto (tgt := 72) hx hb dX10_draws_94 (by decide) ?_
                    exact ih zq103_ gq102_ _ _ _ ls (by have := iRg zq103_; omega) (by have := iRg zq103_; omega) (by have := iRg zq103_; omega) hR_gq102_ hK_gq102_ h1_gq102_ hc_h hc_al hF hH (lv_sub hl [0, 1, 2, 3, 4, 5, 6, 7, 8] rfl)
              exact loop (Int.toNat (281 - 0)) 0 f _ _ _ ls (by have : (0 : Int32).toInt = 0 := rfl; omega) (by have : (0 : Int32).toInt = 0 := rfl; omega) (by have : (0 : Int32).toInt = 0 := rfl; omega) hR_f hK_f h1_f hc_h hc_al hF hH hl
            · skip
              have cq32_ : xq31_.toInt = 4 := cq32_
              refine lv_bipush (v := 30) hx hb dX10_draws_54 (by decide) ?_
              exact ret_i hC hr hlk hK hH (⟨f, ⟨hR_f, hK_f⟩, hc_al, rfl, hF⟩) (Nat.le_of_ble_eq_true rfl) (Nat.le_of_ble_eq_true rfl) dX10_draws_56
          · skip
            have eT := eT.symm; subst eT
            have er_rq27_ := er_rq27_.symm; subst er_rq27_
            have eM := eM.symm; subst eM
            have cq29_ : ¬ ((0 : Int) ≤ dy.toInt ∧ dy.toInt ≤ (99 : Int)) := cq29_
            refine jif_eq (tgt := 54) hx hb dX10_draws_41 (by decide) (fun cq104_ => ?_) (fun cq104_ => absurd cq104_ (by decide))
            refine lv_bipush (v := 30) hx hb dX10_draws_54 (by decide) ?_
            exact ret_i hC hr hlk hK hH (⟨f, ⟨hR_f, hK_f⟩, hc_al, rfl, hF⟩) (Nat.le_of_ble_eq_true rfl) (Nat.le_of_ble_eq_true rfl) dX10_draws_56
        · skip
          have eT := eT.symm; subst eT
          have er_rq21_ := er_rq21_.symm; subst er_rq21_
          have eM := eM.symm; subst eM
          have cq23_ : ¬ ((1 : Int) ≤ su.toInt ∧ su.toInt ≤ (999 : Int)) := cq23_
          refine jif_eq (tgt := 54) hx hb dX10_draws_30 (by decide) (fun cq105_ => ?_) (fun cq105_ => absurd cq105_ (by decide))
          refine lv_bipush (v := 30) hx hb dX10_draws_54 (by decide) ?_
          exact ret_i hC hr hlk hK hH (⟨f, ⟨hR_f, hK_f⟩, hc_al, rfl, hF⟩) (Nat.le_of_ble_eq_true rfl) (Nat.le_of_ble_eq_true rfl) dX10_draws_56
      · skip
        have eT := eT.symm; subst eT
        have er_rq15_ := er_rq15_.symm; subst er_rq15_
        have eM := eM.symm; subst eM
        have cq17_ : ¬ (0 ≤ pe.toInt ∧ pe.toInt ≤ 7) := cq17_
        refine jif_eq (tgt := 54) hx hb dX10_draws_18 (by decide) (fun cq106_ => ?_) (fun cq106_ => absurd cq106_ (by decide))
        refine lv_bipush (v := 30) hx hb dX10_draws_54 (by decide) ?_
        exact ret_i hC hr hlk hK hH (⟨f, ⟨hR_f, hK_f⟩, hc_al, rfl, hF⟩) (Nat.le_of_ble_eq_true rfl) (Nat.le_of_ble_eq_true rfl) dX10_draws_56
    · skip
      have eT := eT.symm; subst eT
      have er_rq9_ := er_rq9_.symm; subst er_rq9_
      have eM := eM.symm; subst eM
      have cq11_ : ¬ (0 ≤ de.toInt ∧ de.toInt ≤ 7) := cq11_
      refine jif_eq (tgt := 54) hx hb dX10_draws_11 (by decide) (fun cq107_ => ?_) (fun cq107_ => absurd cq107_ (by decide))
      refine lv_bipush (v := 30) hx hb dX10_draws_54 (by decide) ?_
      exact ret_i hC hr hlk hK hH (⟨f, ⟨hR_f, hK_f⟩, hc_al, rfl, hF⟩) (Nat.le_of_ble_eq_true rfl) (Nat.le_of_ble_eq_true rfl) dX10_draws_56
  · skip
    have eT := eT.symm; subst eT
    have er_rq3_ := er_rq3_.symm; subst er_rq3_
    have eM := eM.symm; subst eM
    have cq5_ : ¬ (0 ≤ dr.toInt ∧ dr.toInt ≤ 7) := cq5_
    refine jif_eq (tgt := 54) hx hb dX10_draws_4 (by decide) (fun cq108_ => ?_) (fun cq108_ => absurd cq108_ (by decide))
    refine lv_bipush (v := 30) hx hb dX10_draws_54 (by decide) ?_
    exact ret_i hC hr hlk hK hH (⟨f, ⟨hR_f, hK_f⟩, hc_al, rfl, hF⟩) (Nat.le_of_ble_eq_true rfl) (Nat.le_of_ble_eq_true rfl) dX10_draws_56
set_option maxHeartbeats 4000000 in
set_option maxRecDepth 100000 in
theorem c_X10_accepts {l : Launch} {D : va_G} {kA : Nat → ClassId} {M : mM} {T : mT} {sz : Nat} {h al mt ii pa li : Nat} {ta fpm sm nx tk pl ln wr : Int32} {va : Int64} {f : Nat → Int32} {bi : Int32} (hc_h : M h = some (.inr (8, [.ref al, .ref mt, .ref ii, .int ta, .int fpm, .ref pa, .int sm, .int nx, .int tk, .int pl, .int ln, .long va, .int wr, .ref li]))) (hn_h : T h = none) (hc_al : M al = some (.inl (kA 0, 7506, .inl f))) (hn_al : T al = none) (ht_mt : T mt = some 11) (ht_pa : T pa = some 13) (ht_li : T li = some 14) (hR_f : Rng f) : mCi l yX10_accepts cX10_accepts 3 (some .int) 2 0 0 D kA M T sz [.ref h, .int bi] (fun r u => ∃ g : Nat → Int32, (Rng g ∧ Ke f g) ∧ (u.1 al = some (.inl (kA 0, 7506, .inl g))) ∧ u.2 = T ∧ (∀ q, FrK T q → q ≠ al → u.1 q = M q)) := by
  unfold mCi
  refine start_W (by decide) (Nat.le_of_ble_eq_true rfl) ?_
  intro p e s m below meth c ls hC hr hlk hnm hK hH hsz hl
  have hx := hC.1
  have hb := hC.2.1
  have hl : lv_has ls 3 [(0, .ref h), (1, .int bi)] := hl
  have hF : ∀ q, FrK T q → q ≠ al → M q = M q := fun q _ _ => rfl
  have n_h_al : h ≠ al := neM hc_h hc_al (by simp)
  have n_al_h : al ≠ h := neM hc_al hc_h (by simp)
  have hK_f : Ke f f := Ke.rf
  refine lv_aload_n hx hb dX10_accepts_0 rfl (lv_at hl 0 rfl) ?_
  refine lv_iload_n hx hb dX10_accepts_1 rfl (lv_at hl 1 rfl) ?_
  refine goI hK hH (runV (As := [.int bi]) (rest := []) hC hK hH (c_X10_isBill hc_h hn_h hc_al hn_al ht_mt ht_pa ht_li (by exact hR_f)) mlX10_116 (rcvM hK hH hc_h rfl) ⟨⟨Nat.le_of_ble_eq_true rfl, Nat.le_of_ble_eq_true rfl⟩, Nat.le_of_ble_eq_true rfl, Nat.le_of_ble_eq_true rfl⟩ rfl hl.1 rfl (Nat.le_of_ble_eq_true rfl) dX10_accepts_2) (fun rq3_ Mq1_ Tq2_ Hq_ lcq_ hP hz hH => ?_)
  try dsimp only at hP
  obtain ⟨(⟨cq4_, er_rq3_⟩ | er_rq3_), eT, eM⟩ := hP
  · skip
    have eT := eT.symm; subst eT
    have er_rq3_ := er_rq3_.symm; subst er_rq3_
    have eM := eM.symm; subst eM
    have cq4_ : 0 ≤ bi.toInt ∧ bi.toInt ≤ 3 := cq4_
    refine jif_ne (tgt := 11) hx hb dX10_accepts_5 (by decide) (fun cq5_ => ?_) (fun cq5_ => absurd cq5_ (by decide))
    refine lv_iconst (v := 0) hx hb dX10_accepts_11 (by decide) ?_
    refine lv_iload_n hx hb dX10_accepts_12 rfl (lv_at hl 1 rfl) ?_
    obtain ⟨nq6_, hn_nq6_⟩ : ∃ n : Nat, bi.toInt = (n : Int) := ⟨(bi.toInt).toNat, by omega⟩
    refine goI hK hH (runS (As := [.int 0, .int bi]) (rest := []) hC hK hH (c_X10_at (by decide) (by omega)) mlX10_109 ⟨⟨Nat.le_of_ble_eq_true rfl, Nat.le_of_ble_eq_true rfl⟩, Nat.le_of_ble_eq_true rfl, Nat.le_of_ble_eq_true rfl⟩ rfl hl.1 rfl (Nat.le_of_ble_eq_true rfl) dX10_accepts_13) (fun rq9_ Mq7_ Tq8_ Hq_ lcq_ hP hz hH => ?_)
    try dsimp only at hP
    obtain ⟨(⟨cq10_, ⟨l_rq9_, g_rq9_⟩⟩), eT, eM⟩ := hP
    have eT := eT.symm; subst eT
    have eM := eM.symm; subst eM
    have cq10_ : rq9_.toInt = (0 : Int) + 20 + 280 * bi.toInt := cq10_
    obtain ⟨nq11_, hn_nq11_⟩ : ∃ n : Nat, n = 1140 * 0 + 20 + 280 * nq6_ := ⟨_, rfl⟩
    have hx_rq9_ : rq9_.toInt = (nq11_ : Int) := by have : (0 : Int32).toInt = 0 := rfl; omega
    refine lv_istore_n (lv' := [(2, .int rq9_), (0, .ref h), (1, .int bi)]) hx hb dX10_accepts_16 rfl hl (by decide) rfl (fun ls hl => ?_)
    refine lv_aload_n hx hb dX10_accepts_17 rfl (lv_at hl 1 rfl) ?_
    refine xg hC hK hH flX10_7 hc_h rfl dX10_accepts_18 ?_
    refine lv_iload_n hx hb dX10_accepts_21 rfl (lv_at hl 0 rfl) ?_
    refine lv_bipush (v := 6) hx hb dX10_accepts_22 (by decide) ?_
    refine lv_iadd hx hb dX10_accepts_24 ?_
    refine lv_topi (fun zq12_ e_zq12_ => ?_)
    have h_zq12_ : zq12_.toInt = rq9_.toInt + 6 := by rw [e_zq12_, iAdd (by have := iRg rq9_; have : (6 : Int32).toInt = 6 := rfl; omega) (by have := iRg rq9_; have : (6 : Int32).toInt = 6 := rfl; omega)]; rfl
    refine xild hC hK hH hc_al (iIn (by omega) (by omega)) dX10_accepts_25 ?_
    refine lv_topi (fun xq13_ e_xq13_ => ?_)
    have k_xq13_ : xq13_ = f (nq11_ + 6) := by rw [e_xq13_, clE (n := nq11_ + 6) (by omega)]
    have kt_xq13_ : xq13_.toInt = (f (nq11_ + 6)).toInt := by rw [k_xq13_]
    refine lv_iconst (v := 1) hx hb dX10_accepts_26 (by decide) ?_
    refine jic_eq (tgt := 56) hx hb dX10_accepts_27 (by decide) (fun cq14_ => ?_) (fun cq14_ => ?_)
    · skip
      have cq14_ : xq13_.toInt = 1 := cq14_
      refine lv_bipush (v := 31) hx hb dX10_accepts_56 (by decide) ?_
      exact ret_i hC hr hlk hK hH (⟨f, ⟨hR_f, hK_f⟩, hc_al, rfl, hF⟩) (Nat.le_of_ble_eq_true rfl) (Nat.le_of_ble_eq_true rfl) dX10_accepts_58
    · skip
      have cq14_ : xq13_.toInt ≠ 1 := cq14_
      refine lv_aload_n hx hb dX10_accepts_30 rfl (lv_at hl 1 rfl) ?_
      refine xg hC hK hH flX10_7 hc_h rfl dX10_accepts_31 ?_
      refine lv_iload_n hx hb dX10_accepts_34 rfl (lv_at hl 0 rfl) ?_
      refine lv_bipush (v := 9) hx hb dX10_accepts_35 (by decide) ?_
      refine lv_iadd hx hb dX10_accepts_37 ?_
      refine lv_topi (fun zq15_ e_zq15_ => ?_)
      have h_zq15_ : zq15_.toInt = rq9_.toInt + 9 := by rw [e_zq15_, iAdd (by have := iRg rq9_; have : (9 : Int32).toInt = 9 := rfl; omega) (by have := iRg rq9_; have : (9 : Int32).toInt = 9 := rfl; omega)]; rfl
      refine xild hC hK hH hc_al (iIn (by omega) (by omega)) dX10_accepts_38 ?_
      refine lv_topi (fun xq16_ e_xq16_ => ?_)
      have k_xq16_ : xq16_ = f (nq11_ + 9) := by rw [e_xq16_, clE (n := nq11_ + 9) (by omega)]
      have kt_xq16_ : xq16_.toInt = (f (nq11_ + 9)).toInt := by rw [k_xq16_]
      refine lv_iconst (v := -1) hx hb dX10_accepts_39 (by decide) ?_
      refine jic_ne (tgt := 56) hx hb dX10_accepts_40 (by decide) (fun cq17_ => ?_) (fun cq17_ => ?_)
      · skip
        have cq17_ : xq16_.toInt ≠ (-1) := cq17_
        refine lv_bipush (v := 31) hx hb dX10_accepts_56 (by decide) ?_
        exact ret_i hC hr hlk hK hH (⟨f, ⟨hR_f, hK_f⟩, hc_al, rfl, hF⟩) (Nat.le_of_ble_eq_true rfl) (Nat.le_of_ble_eq_true rfl) dX10_accepts_58
      · skip
        have cq17_ : xq16_.toInt = (-1) := cq17_
        refine lv_aload_n hx hb dX10_accepts_43 rfl (lv_at hl 1 rfl) ?_
        refine xg hC hK hH flX10_7 hc_h rfl dX10_accepts_44 ?_
        refine lv_iload_n hx hb dX10_accepts_47 rfl (lv_at hl 0 rfl) ?_
        refine lv_bipush (v := 10) hx hb dX10_accepts_48 (by decide) ?_
        refine lv_iadd hx hb dX10_accepts_50 ?_
        refine lv_topi (fun zq18_ e_zq18_ => ?_)
        have h_zq18_ : zq18_.toInt = rq9_.toInt + 10 := by rw [e_zq18_, iAdd (by have := iRg rq9_; have : (10 : Int32).toInt = 10 := rfl; omega) (by have := iRg rq9_; have : (10 : Int32).toInt = 10 := rfl; omega)]; rfl
        refine xild hC hK hH hc_al (iIn (by omega) (by omega)) dX10_accepts_51 ?_
        refine lv_topi (fun xq19_ e_xq19_ => ?_)
        have k_xq19_ : xq19_ = f (nq11_ + 10) := by rw [e_xq19_, clE (n := nq11_ + 10) (by omega)]
        have kt_xq19_ : xq19_.toInt = (f (nq11_ + 10)).toInt := by rw [k_xq19_]
        refine lv_iconst (v := 1) hx hb dX10_accepts_52 (by decide) ?_
        refine jic_ne (tgt := 59) hx hb dX10_accepts_53 (by decide) (fun cq20_ => ?_) (fun cq20_ => ?_)
        · skip
          have cq20_ : xq19_.toInt ≠ 1 := cq20_
          refine lv_aload_n hx hb dX10_accepts_59 rfl (lv_at hl 1 rfl) ?_
          refine xg hC hK hH flX10_7 hc_h rfl dX10_accepts_60 ?_
          refine lv_iload_n hx hb dX10_accepts_63 rfl (lv_at hl 0 rfl) ?_
          refine lv_bipush (v := 6) hx hb dX10_accepts_64 (by decide) ?_
          refine lv_iadd hx hb dX10_accepts_66 ?_
          refine lv_cst (v := zq12_) e_zq12_.symm ?_
          refine lv_iconst (v := 1) hx hb dX10_accepts_67 (by decide) ?_
          refine yist (x := 1) hC hK hH hc_al (noT hn_al) (iIn (by omega) (by omega)) dX10_accepts_68 (fun Hq_ lcq_ Mq21_ hc_al hfr hH => ?_)
          have hc_al : Mq21_ al = some (.inl (kA 0, 7506, .inl (upd f (Int32.toNatClampNeg zq12_) 1))) := hc_al
          have hc_h : Mq21_ h = some (.inr (8, [.ref al, .ref mt, .ref ii, .int ta, .int fpm, .ref pa, .int sm, .int nx, .int tk, .int pl, .int ln, .long va, .int wr, .ref li])) := (hfr h n_h_al).trans hc_h
          have hF : ∀ q, FrK T q → q ≠ al → Mq21_ q = M q := fun q hq h0 => (hfr q h0).trans (hF q hq h0)
          obtain ⟨gq22_, e_gq22_⟩ : ∃ g : Nat → Int32, g = upd f (Int32.toNatClampNeg zq12_) 1 := ⟨_, rfl⟩
          rw [← e_gq22_] at hc_al
          have hR_gq22_ : Rng gq22_ := by rw [e_gq22_]; exact hR_f.uX (t := 0) (b := nq6_) (xn := nq11_) (by omega) (by omega) (by omega) (by have := iCl (x := zq12_) (by omega); omega) (by have := iCl (x := zq12_) (by omega); omega) (by have := iCl (x := zq12_) (by omega); omega)
          have hK_gq22_ : Ke f gq22_ := by rw [e_gq22_]; exact hK_f.up (by have := iCl (x := zq12_) (by omega); omega)
          refine lv_iconst (v := 0) hx hb dX10_accepts_69 (by decide) ?_
          exact ret_i hC hr hlk hK hH (⟨gq22_, ⟨hR_gq22_, hK_gq22_⟩, hc_al, rfl, hF⟩) (Nat.le_of_ble_eq_true rfl) (Nat.le_of_ble_eq_true rfl) dX10_accepts_70
        · skip
          have cq20_ : xq19_.toInt = 1 := cq20_
          refine lv_bipush (v := 31) hx hb dX10_accepts_56 (by decide) ?_
          exact ret_i hC hr hlk hK hH (⟨f, ⟨hR_f, hK_f⟩, hc_al, rfl, hF⟩) (Nat.le_of_ble_eq_true rfl) (Nat.le_of_ble_eq_true rfl) dX10_accepts_58
  · skip
    have eT := eT.symm; subst eT
    have er_rq3_ := er_rq3_.symm; subst er_rq3_
    have eM := eM.symm; subst eM
    refine jif_ne (tgt := 11) hx hb dX10_accepts_5 (by decide) (fun cq23_ => absurd cq23_ (by decide)) (fun cq23_ => ?_)
    refine lv_bipush (v := 30) hx hb dX10_accepts_8 (by decide) ?_
    exact ret_i hC hr hlk hK hH (⟨f, ⟨hR_f, hK_f⟩, hc_al, rfl, hF⟩) (Nat.le_of_ble_eq_true rfl) (Nat.le_of_ble_eq_true rfl) dX10_accepts_10
set_option maxHeartbeats 4000000 in
set_option maxRecDepth 100000 in
theorem c_X10_stepReason {l : Launch} {D : va_G} {kA : Nat → ClassId} {M : mM} {T : mT} {sz : Nat} {h al mt ii pa li : Nat} {ta fpm sm nx tk pl ln wr : Int32} {va : Int64} {f : Nat → Int32} {bi to va_ : Int32} (hc_h : M h = some (.inr (8, [.ref al, .ref mt, .ref ii, .int ta, .int fpm, .ref pa, .int sm, .int nx, .int tk, .int pl, .int ln, .long va, .int wr, .ref li]))) (hn_h : T h = none) (hc_al : M al = some (.inl (kA 0, 7506, .inl f))) (hn_al : T al = none) (ht_mt : T mt = some 11) (ht_pa : T pa = some 13) (ht_li : T li = some 14) (hR_f : Rng f) : mCi l yX10_stepReason cX10_stepReason 5 (some .int) 2 0 0 D kA M T sz [.ref h, .int bi, .int to, .int va_] (fun r u => (((0 ≤ bi.toInt ∧ bi.toInt ≤ 3 ∧ 0 ≤ to.toInt ∧ to.toInt ≤ 7 ∧ (f (20 + 280 * (bi.toInt).toNat + 8)).toInt ≤ 11) ∧ r = 0) ∨ (r = 30) ∨ (r = 31)) ∧ u.2 = T ∧ u.1 = M) := by
  unfold mCi
  refine start_W (by decide) (Nat.le_of_ble_eq_true rfl) ?_
  intro p e s m below meth c ls hC hr hlk hnm hK hH hsz hl
  have hx := hC.1
  have hb := hC.2.1
  have hl : lv_has ls 5 [(0, .ref h), (1, .int bi), (2, .int to), (3, .int va_)] := hl
  have n_h_al : h ≠ al := neM hc_h hc_al (by simp)
  have n_al_h : al ≠ h := neM hc_al hc_h (by simp)
  have hK_f : Ke f f := Ke.rf
  refine lv_aload_n hx hb dX10_stepReason_0 rfl (lv_at hl 0 rfl) ?_
  refine lv_iload_n hx hb dX10_stepReason_1 rfl (lv_at hl 1 rfl) ?_
  refine goI hK hH (runV (As := [.int bi]) (rest := []) hC hK hH (c_X10_isBill hc_h hn_h hc_al hn_al ht_mt ht_pa ht_li (by exact hR_f)) mlX10_116 (rcvM hK hH hc_h rfl) ⟨⟨Nat.le_of_ble_eq_true rfl, Nat.le_of_ble_eq_true rfl⟩, Nat.le_of_ble_eq_true rfl, Nat.le_of_ble_eq_true rfl⟩ rfl hl.1 rfl (Nat.le_of_ble_eq_true rfl) dX10_stepReason_2) (fun rq3_ Mq1_ Tq2_ Hq_ lcq_ hP hz hH => ?_)
  try dsimp only at hP
  obtain ⟨(⟨cq4_, er_rq3_⟩ | er_rq3_), eT, eM⟩ := hP
  · skip
    have eT := eT.symm; subst eT
    have er_rq3_ := er_rq3_.symm; subst er_rq3_
    have eM := eM.symm; subst eM
    have cq4_ : 0 ≤ bi.toInt ∧ bi.toInt ≤ 3 := cq4_
    refine jif_eq (tgt := 26) hx hb dX10_stepReason_5 (by decide) (fun cq5_ => absurd cq5_ (by decide)) (fun cq5_ => ?_)
    refine lv_iload_n hx hb dX10_stepReason_8 rfl (lv_at hl 2 rfl) ?_
    refine goI hK hH (runS (As := [.int to]) (rest := []) hC hK hH (c_X10_isPerson) mlX10_100 ⟨⟨Nat.le_of_ble_eq_true rfl, Nat.le_of_ble_eq_true rfl⟩, Nat.le_of_ble_eq_true rfl, Nat.le_of_ble_eq_true rfl⟩ rfl hl.1 rfl (Nat.le_of_ble_eq_true rfl) dX10_stepReason_9) (fun rq8_ Mq6_ Tq7_ Hq_ lcq_ hP hz hH => ?_)
    try dsimp only at hP
    obtain ⟨(⟨cq9_, er_rq8_⟩ | ⟨cq10_, er_rq8_⟩), eT, eM⟩ := hP
    · skip
      have eT := eT.symm; subst eT
      have er_rq8_ := er_rq8_.symm; subst er_rq8_
      have eM := eM.symm; subst eM
      have cq9_ : 0 ≤ to.toInt ∧ to.toInt ≤ 7 := cq9_
      refine jif_eq (tgt := 26) hx hb dX10_stepReason_12 (by decide) (fun cq11_ => absurd cq11_ (by decide)) (fun cq11_ => ?_)
      refine lv_iload_n hx hb dX10_stepReason_15 rfl (lv_at hl 3 rfl) ?_
      refine lv_iconst (v := 0) hx hb dX10_stepReason_16 (by decide) ?_
      refine lv_sipush (v := 999) hx hb dX10_stepReason_17 (by decide) ?_
      refine goI hK hH (runS (As := [.int va_, .int 0, .int 999]) (rest := []) hC hK hH (c_X10_isIn) mlX10_33 ⟨⟨Nat.le_of_ble_eq_true rfl, Nat.le_of_ble_eq_true rfl⟩, Nat.le_of_ble_eq_true rfl, Nat.le_of_ble_eq_true rfl⟩ rfl hl.1 rfl (Nat.le_of_ble_eq_true rfl) dX10_stepReason_20) (fun rq14_ Mq12_ Tq13_ Hq_ lcq_ hP hz hH => ?_)
      try dsimp only at hP
      obtain ⟨(⟨cq15_, er_rq14_⟩ | ⟨cq16_, er_rq14_⟩), eT, eM⟩ := hP
      · skip
        have eT := eT.symm; subst eT
        have er_rq14_ := er_rq14_.symm; subst er_rq14_
        have eM := eM.symm; subst eM
        have cq15_ : (0 : Int) ≤ va_.toInt ∧ va_.toInt ≤ (999 : Int) := cq15_
        refine jif_ne (tgt := 29) hx hb dX10_stepReason_23 (by decide) (fun cq17_ => ?_) (fun cq17_ => absurd cq17_ (by decide))
        refine lv_iconst (v := 0) hx hb dX10_stepReason_29 (by decide) ?_
        refine lv_iload_n hx hb dX10_stepReason_30 rfl (lv_at hl 1 rfl) ?_
        obtain ⟨nq18_, hn_nq18_⟩ : ∃ n : Nat, bi.toInt = (n : Int) := ⟨(bi.toInt).toNat, by omega⟩
        refine goI hK hH (runS (As := [.int 0, .int bi]) (rest := []) hC hK hH (c_X10_at (by decide) (by omega)) mlX10_109 ⟨⟨Nat.le_of_ble_eq_true rfl, Nat.le_of_ble_eq_true rfl⟩, Nat.le_of_ble_eq_true rfl, Nat.le_of_ble_eq_true rfl⟩ rfl hl.1 rfl (Nat.le_of_ble_eq_true rfl) dX10_stepReason_31) (fun rq21_ Mq19_ Tq20_ Hq_ lcq_ hP hz hH => ?_)
        try dsimp only at hP
        obtain ⟨(⟨cq22_, ⟨l_rq21_, g_rq21_⟩⟩), eT, eM⟩ := hP
        have eT := eT.symm; subst eT
        have eM := eM.symm; subst eM
        have cq22_ : rq21_.toInt = (0 : Int) + 20 + 280 * bi.toInt := cq22_
        obtain ⟨nq23_, hn_nq23_⟩ : ∃ n : Nat, n = 1140 * 0 + 20 + 280 * nq18_ := ⟨_, rfl⟩
        have hx_rq21_ : rq21_.toInt = (nq23_ : Int) := by have : (0 : Int32).toInt = 0 := rfl; omega
        refine lv_istore (lv' := [(4, .int rq21_), (0, .ref h), (1, .int bi), (2, .int to), (3, .int va_)]) hx hb dX10_stepReason_34 hl (by decide) rfl (fun ls hl => ?_)
        refine lv_iload_n hx hb dX10_stepReason_36 rfl (lv_at hl 3 rfl) ?_
        refine lv_aload_n hx hb dX10_stepReason_37 rfl (lv_at hl 1 rfl) ?_
        refine xg hC hK hH flX10_7 hc_h rfl dX10_stepReason_38 ?_
        refine lv_iload hx hb dX10_stepReason_41 (lv_at hl 0 rfl) ?_
        refine lv_bipush (v := 7) hx hb dX10_stepReason_43 (by decide) ?_
        refine lv_iadd hx hb dX10_stepReason_45 ?_
        refine lv_topi (fun zq24_ e_zq24_ => ?_)
        have h_zq24_ : zq24_.toInt = rq21_.toInt + 7 := by rw [e_zq24_, iAdd (by have := iRg rq21_; have : (7 : Int32).toInt = 7 := rfl; omega) (by have := iRg rq21_; have : (7 : Int32).toInt = 7 := rfl; omega)]; rfl
        refine xild hC hK hH hc_al (iIn (by omega) (by omega)) dX10_stepReason_46 ?_
        refine lv_topi (fun xq25_ e_xq25_ => ?_)
        have k_xq25_ : xq25_ = f (nq23_ + 7) := by rw [e_xq25_, clE (n := nq23_ + 7) (by omega)]
        have kt_xq25_ : xq25_.toInt = (f (nq23_ + 7)).toInt := by rw [k_xq25_]
        have rr_xq25_ : (0 : Int) ≤ (f (nq23_ + 7)).toInt ∧ (f (nq23_ + 7)).toInt ≤ 7 := hR_f.rO 7 (t := 0) (b := nq18_) (xn := nq23_) (by omega) (by omega) (by omega) (by decide) rfl
        have l_xq25_ : (0 : Int) ≤ xq25_.toInt := by rw [kt_xq25_, show nq23_ + 7 = nq23_ + 7 from by omega]; exact rr_xq25_.1
        have g_xq25_ : xq25_.toInt ≤ 7 := by rw [kt_xq25_, show nq23_ + 7 = nq23_ + 7 from by omega]; exact rr_xq25_.2
        refine jic_eq (tgt := 65) hx hb dX10_stepReason_47 (by decide) (fun cq26_ => ?_) (fun cq26_ => ?_)
        · skip
          have cq26_ : to.toInt = xq25_.toInt := cq26_
          refine lv_bipush (v := 30) hx hb dX10_stepReason_65 (by decide) ?_
          exact ret_i hC hr hlk hK hH (⟨Or.inr (Or.inl (rfl)), rfl, rfl⟩) (Nat.le_of_ble_eq_true rfl) (Nat.le_of_ble_eq_true rfl) dX10_stepReason_67
        · skip
          have cq26_ : to.toInt ≠ xq25_.toInt := cq26_
          refine lv_aload_n hx hb dX10_stepReason_50 rfl (lv_at hl 1 rfl) ?_
          refine xg hC hK hH flX10_7 hc_h rfl dX10_stepReason_51 ?_
          refine lv_iload hx hb dX10_stepReason_54 (lv_at hl 0 rfl) ?_
          refine lv_bipush (v := 8) hx hb dX10_stepReason_56 (by decide) ?_
          refine lv_iadd hx hb dX10_stepReason_58 ?_
          refine lv_topi (fun zq27_ e_zq27_ => ?_)
          have h_zq27_ : zq27_.toInt = rq21_.toInt + 8 := by rw [e_zq27_, iAdd (by have := iRg rq21_; have : (8 : Int32).toInt = 8 := rfl; omega) (by have := iRg rq21_; have : (8 : Int32).toInt = 8 := rfl; omega)]; rfl
          refine xild hC hK hH hc_al (iIn (by omega) (by omega)) dX10_stepReason_59 ?_
          refine lv_topi (fun xq28_ e_xq28_ => ?_)
          have k_xq28_ : xq28_ = f (nq23_ + 8) := by rw [e_xq28_, clE (n := nq23_ + 8) (by omega)]
          have kt_xq28_ : xq28_.toInt = (f (nq23_ + 8)).toInt := by rw [k_xq28_]
          have rr_xq28_ : (0 : Int) ≤ (f (nq23_ + 8)).toInt ∧ (f (nq23_ + 8)).toInt ≤ 12 := hR_f.rO 8 (t := 0) (b := nq18_) (xn := nq23_) (by omega) (by omega) (by omega) (by decide) rfl
          have l_xq28_ : (0 : Int) ≤ xq28_.toInt := by rw [kt_xq28_, show nq23_ + 8 = nq23_ + 8 from by omega]; exact rr_xq28_.1
          have g_xq28_ : xq28_.toInt ≤ 12 := by rw [kt_xq28_, show nq23_ + 8 = nq23_ + 8 from by omega]; exact rr_xq28_.2
          refine lv_bipush (v := 12) hx hb dX10_stepReason_60 (by decide) ?_
          refine jic_ne (tgt := 68) hx hb dX10_stepReason_62 (by decide) (fun cq29_ => ?_) (fun cq29_ => ?_)
          · skip
            have cq29_ : xq28_.toInt ≠ 12 := cq29_
            refine lv_aload_n hx hb dX10_stepReason_68 rfl (lv_at hl 1 rfl) ?_
            refine xg hC hK hH flX10_7 hc_h rfl dX10_stepReason_69 ?_
            refine lv_iload hx hb dX10_stepReason_72 (lv_at hl 0 rfl) ?_
            refine lv_bipush (v := 10) hx hb dX10_stepReason_74 (by decide) ?_
            refine lv_iadd hx hb dX10_stepReason_76 ?_
            refine lv_topi (fun zq30_ e_zq30_ => ?_)
            have h_zq30_ : zq30_.toInt = rq21_.toInt + 10 := by rw [e_zq30_, iAdd (by have := iRg rq21_; have : (10 : Int32).toInt = 10 := rfl; omega) (by have := iRg rq21_; have : (10 : Int32).toInt = 10 := rfl; omega)]; rfl
            refine xild hC hK hH hc_al (iIn (by omega) (by omega)) dX10_stepReason_77 ?_
            refine lv_topi (fun xq31_ e_xq31_ => ?_)
            have k_xq31_ : xq31_ = f (nq23_ + 10) := by rw [e_xq31_, clE (n := nq23_ + 10) (by omega)]
            have kt_xq31_ : xq31_.toInt = (f (nq23_ + 10)).toInt := by rw [k_xq31_]
            refine lv_iconst (v := 1) hx hb dX10_stepReason_78 (by decide) ?_
            refine jic_ne (tgt := 87) hx hb dX10_stepReason_79 (by decide) (fun cq32_ => ?_) (fun cq32_ => ?_)
            · skip
              have cq32_ : xq31_.toInt ≠ 1 := cq32_
              refine lv_iconst (v := 0) hx hb dX10_stepReason_87 (by decide) ?_
              exact ret_i hC hr hlk hK hH (⟨Or.inl (⟨by rw [show 20 + 280 * (bi.toInt).toNat + 8 = nq23_ + 8 from by omega]; omega, rfl⟩), rfl, rfl⟩) (Nat.le_of_ble_eq_true rfl) (Nat.le_of_ble_eq_true rfl) dX10_stepReason_88
            · skip
              have cq32_ : xq31_.toInt = 1 := cq32_
              refine lv_bipush (v := 31) hx hb dX10_stepReason_82 (by decide) ?_
              refine lv_goto (tgt := 88) hx hb dX10_stepReason_84 (by decide) ?_
              exact ret_i hC hr hlk hK hH (⟨Or.inr (Or.inr (rfl)), rfl, rfl⟩) (Nat.le_of_ble_eq_true rfl) (Nat.le_of_ble_eq_true rfl) dX10_stepReason_88
          · skip
            have cq29_ : xq28_.toInt = 12 := cq29_
            refine lv_bipush (v := 30) hx hb dX10_stepReason_65 (by decide) ?_
            exact ret_i hC hr hlk hK hH (⟨Or.inr (Or.inl (rfl)), rfl, rfl⟩) (Nat.le_of_ble_eq_true rfl) (Nat.le_of_ble_eq_true rfl) dX10_stepReason_67
      · skip
        have eT := eT.symm; subst eT
        have er_rq14_ := er_rq14_.symm; subst er_rq14_
        have eM := eM.symm; subst eM
        have cq16_ : ¬ ((0 : Int) ≤ va_.toInt ∧ va_.toInt ≤ (999 : Int)) := cq16_
        refine jif_ne (tgt := 29) hx hb dX10_stepReason_23 (by decide) (fun cq33_ => absurd cq33_ (by decide)) (fun cq33_ => ?_)
        refine lv_bipush (v := 30) hx hb dX10_stepReason_26 (by decide) ?_
        exact ret_i hC hr hlk hK hH (⟨Or.inr (Or.inl (rfl)), rfl, rfl⟩) (Nat.le_of_ble_eq_true rfl) (Nat.le_of_ble_eq_true rfl) dX10_stepReason_28
    · skip
      have eT := eT.symm; subst eT
      have er_rq8_ := er_rq8_.symm; subst er_rq8_
      have eM := eM.symm; subst eM
      have cq10_ : ¬ (0 ≤ to.toInt ∧ to.toInt ≤ 7) := cq10_
      refine jif_eq (tgt := 26) hx hb dX10_stepReason_12 (by decide) (fun cq34_ => ?_) (fun cq34_ => absurd cq34_ (by decide))
      refine lv_bipush (v := 30) hx hb dX10_stepReason_26 (by decide) ?_
      exact ret_i hC hr hlk hK hH (⟨Or.inr (Or.inl (rfl)), rfl, rfl⟩) (Nat.le_of_ble_eq_true rfl) (Nat.le_of_ble_eq_true rfl) dX10_stepReason_28
  · skip
    have eT := eT.symm; subst eT
    have er_rq3_ := er_rq3_.symm; subst er_rq3_
    have eM := eM.symm; subst eM
    refine jif_eq (tgt := 26) hx hb dX10_stepReason_5 (by decide) (fun cq35_ => ?_) (fun cq35_ => absurd cq35_ (by decide))
    refine lv_bipush (v := 30) hx hb dX10_stepReason_26 (by decide) ?_
    exact ret_i hC hr hlk hK hH (⟨Or.inr (Or.inl (rfl)), rfl, rfl⟩) (Nat.le_of_ble_eq_true rfl) (Nat.le_of_ble_eq_true rfl) dX10_stepReason_28
set_option maxHeartbeats 4000000 in
set_option maxRecDepth 100000 in
theorem c_X10_passes {l : Launch} {D : va_G} {kA : Nat → ClassId} {M : mM} {T : mT} {sz : Nat} {h al mt ii pa li : Nat} {ta fpm sm nx tk pl ln wr : Int32} {va : Int64} {f : Nat → Int32} {bi so wi to va_ no : Int32} (hc_h : M h = some (.inr (8, [.ref al, .ref mt, .ref ii, .int ta, .int fpm, .ref pa, .int sm, .int nx, .int tk, .int pl, .int ln, .long va, .int wr, .ref li]))) (hn_h : T h = none) (hc_al : M al = some (.inl (kA 0, 7506, .inl f))) (hn_al : T al = none) (ht_mt : T mt = some 11) (ht_pa : T pa = some 13) (ht_li : T li = some 14) (hR_f : Rng f) : mCi l yX10_passes cX10_passes 9 (some .int) 5 0 0 D kA M T sz [.ref h, .int bi, .int so, .int wi, .int to, .int va_, .int no] (fun r u => ∃ g : Nat → Int32, (Rng g ∧ Ke f g) ∧ (u.1 al = some (.inl (kA 0, 7506, .inl g))) ∧ u.2 = T ∧ (∀ q, FrK T q → q ≠ al → u.1 q = M q)) := by
  unfold mCi
  refine start_W (by decide) (Nat.le_of_ble_eq_true rfl) ?_
  intro p e s m below meth c ls hC hr hlk hnm hK hH hsz hl
  have hx := hC.1
  have hb := hC.2.1
  have hl : lv_has ls 9 [(0, .ref h), (1, .int bi), (2, .int so), (3, .int wi), (4, .int to), (5, .int va_), (6, .int no)] := hl
  have hF : ∀ q, FrK T q → q ≠ al → M q = M q := fun q _ _ => rfl
  have n_h_al : h ≠ al := neM hc_h hc_al (by simp)
  have n_al_h : al ≠ h := neM hc_al hc_h (by simp)
  have hK_f : Ke f f := Ke.rf
  refine lv_iload_n hx hb dX10_passes_0 rfl (lv_at hl 2 rfl) ?_
  refine lv_iconst (v := 0) hx hb dX10_passes_1 (by decide) ?_
  refine lv_iconst (v := 3) hx hb dX10_passes_2 (by decide) ?_
  refine goI hK hH (runS (As := [.int so, .int 0, .int 3]) (rest := []) hC hK hH (c_X10_isIn) mlX10_33 ⟨⟨Nat.le_of_ble_eq_true rfl, Nat.le_of_ble_eq_true rfl⟩, Nat.le_of_ble_eq_true rfl, Nat.le_of_ble_eq_true rfl⟩ rfl hl.1 rfl (Nat.le_of_ble_eq_true rfl) dX10_passes_3) (fun rq3_ Mq1_ Tq2_ Hq_ lcq_ hP hz hH => ?_)
  try dsimp only at hP
  obtain ⟨(⟨cq4_, er_rq3_⟩ | ⟨cq5_, er_rq3_⟩), eT, eM⟩ := hP
  · skip
    have eT := eT.symm; subst eT
    have er_rq3_ := er_rq3_.symm; subst er_rq3_
    have eM := eM.symm; subst eM
    have cq4_ : (0 : Int) ≤ so.toInt ∧ so.toInt ≤ (3 : Int) := cq4_
    refine jif_eq (tgt := 18) hx hb dX10_passes_6 (by decide) (fun cq6_ => absurd cq6_ (by decide)) (fun cq6_ => ?_)
    refine lv_iload_n hx hb dX10_passes_9 rfl (lv_at hl 3 rfl) ?_
    refine jif_eq (tgt := 21) hx hb dX10_passes_10 (by decide) (fun cq7_ => ?_) (fun cq7_ => ?_)
    · skip
      have cq7_ : wi.toInt = 0 := cq7_
      refine lv_aload_n hx hb dX10_passes_21 rfl (lv_at hl 0 rfl) ?_
      refine lv_iload_n hx hb dX10_passes_22 rfl (lv_at hl 1 rfl) ?_
      refine lv_iload hx hb dX10_passes_23 (lv_at hl 4 rfl) ?_
      refine lv_iload hx hb dX10_passes_25 (lv_at hl 5 rfl) ?_
      refine goI hK hH (runV (As := [.int bi, .int to, .int va_]) (rest := []) hC hK hH (c_X10_stepReason hc_h hn_h hc_al hn_al ht_mt ht_pa ht_li (by exact hR_f)) mlX10_122 (rcvM hK hH hc_h rfl) ⟨⟨Nat.le_of_ble_eq_true rfl, Nat.le_of_ble_eq_true rfl⟩, Nat.le_of_ble_eq_true rfl, Nat.le_of_ble_eq_true rfl⟩ rfl hl.1 rfl (Nat.le_of_ble_eq_true rfl) dX10_passes_27) (fun rq10_ Mq8_ Tq9_ Hq_ lcq_ hP hz hH => ?_)
      try dsimp only at hP
      obtain ⟨(⟨cq11_, er_rq10_⟩ | er_rq10_ | er_rq10_), eT, eM⟩ := hP
      · skip
        have eT := eT.symm; subst eT
        have er_rq10_ := er_rq10_.symm; subst er_rq10_
        have eM := eM.symm; subst eM
        have cq11_ : 0 ≤ bi.toInt ∧ bi.toInt ≤ 3 ∧ 0 ≤ to.toInt ∧ to.toInt ≤ 7 ∧ (f (20 + 280 * (bi.toInt).toNat + 8)).toInt ≤ 11 := cq11_
        refine lv_istore (lv' := [(7, .int 0), (0, .ref h), (1, .int bi), (2, .int so), (3, .int wi), (4, .int to), (5, .int va_), (6, .int no)]) hx hb dX10_passes_30 hl (by decide) rfl (fun ls hl => ?_)
        refine lv_iload hx hb dX10_passes_32 (lv_at hl 0 rfl) ?_
        refine jif_le (tgt := 40) hx hb dX10_passes_34 (by decide) (fun cq12_ => ?_) (fun cq12_ => absurd cq12_ (by decide))
        refine lv_iconst (v := 0) hx hb dX10_passes_40 (by decide) ?_
        refine lv_iload_n hx hb dX10_passes_41 rfl (lv_at hl 2 rfl) ?_
        obtain ⟨nq13_, hn_nq13_⟩ : ∃ n : Nat, bi.toInt = (n : Int) := ⟨(bi.toInt).toNat, by omega⟩
        refine goI hK hH (runS (As := [.int 0, .int bi]) (rest := []) hC hK hH (c_X10_at (by decide) (by omega)) mlX10_109 ⟨⟨Nat.le_of_ble_eq_true rfl, Nat.le_of_ble_eq_true rfl⟩, Nat.le_of_ble_eq_true rfl, Nat.le_of_ble_eq_true rfl⟩ rfl hl.1 rfl (Nat.le_of_ble_eq_true rfl) dX10_passes_42) (fun rq16_ Mq14_ Tq15_ Hq_ lcq_ hP hz hH => ?_)
        try dsimp only at hP
        obtain ⟨(⟨cq17_, ⟨l_rq16_, g_rq16_⟩⟩), eT, eM⟩ := hP
        have eT := eT.symm; subst eT
        have eM := eM.symm; subst eM
        have cq17_ : rq16_.toInt = (0 : Int) + 20 + 280 * bi.toInt := cq17_
        obtain ⟨nq18_, hn_nq18_⟩ : ∃ n : Nat, n = 1140 * 0 + 20 + 280 * nq13_ := ⟨_, rfl⟩
        have hx_rq16_ : rq16_.toInt = (nq18_ : Int) := by have : (0 : Int32).toInt = 0 := rfl; omega
        refine lv_istore (lv' := [(8, .int rq16_), (7, .int 0), (0, .ref h), (1, .int bi), (2, .int so), (3, .int wi), (4, .int to), (5, .int va_), (6, .int no)]) hx hb dX10_passes_45 hl (by decide) rfl (fun ls hl => ?_)
        refine lv_aload_n hx hb dX10_passes_47 rfl (lv_at hl 2 rfl) ?_
        refine lv_iconst (v := 0) hx hb dX10_passes_48 (by decide) ?_
        refine lv_iload hx hb dX10_passes_49 (lv_at hl 0 rfl) ?_
        refine lv_iload_n hx hb dX10_passes_51 rfl (lv_at hl 4 rfl) ?_
        refine lv_aload_n hx hb dX10_passes_52 rfl (lv_at hl 2 rfl) ?_
        refine xg hC hK hH flX10_7 hc_h rfl dX10_passes_53 ?_
        refine lv_iload hx hb dX10_passes_56 (lv_at hl 0 rfl) ?_
        refine lv_bipush (v := 7) hx hb dX10_passes_58 (by decide) ?_
        refine lv_iadd hx hb dX10_passes_60 ?_
        refine lv_topi (fun zq19_ e_zq19_ => ?_)
        have h_zq19_ : zq19_.toInt = rq16_.toInt + 7 := by rw [e_zq19_, iAdd (by have := iRg rq16_; have : (7 : Int32).toInt = 7 := rfl; omega) (by have := iRg rq16_; have : (7 : Int32).toInt = 7 := rfl; omega)]; rfl
        refine xild hC hK hH hc_al (iIn (by omega) (by omega)) dX10_passes_61 ?_
        refine lv_topi (fun xq20_ e_xq20_ => ?_)
        have k_xq20_ : xq20_ = f (nq18_ + 7) := by rw [e_xq20_, clE (n := nq18_ + 7) (by omega)]
        have kt_xq20_ : xq20_.toInt = (f (nq18_ + 7)).toInt := by rw [k_xq20_]
        have rr_xq20_ : (0 : Int) ≤ (f (nq18_ + 7)).toInt ∧ (f (nq18_ + 7)).toInt ≤ 7 := hR_f.rO 7 (t := 0) (b := nq13_) (xn := nq18_) (by omega) (by omega) (by omega) (by decide) rfl
        have l_xq20_ : (0 : Int) ≤ xq20_.toInt := by rw [kt_xq20_, show nq18_ + 7 = nq18_ + 7 from by omega]; exact rr_xq20_.1
        have g_xq20_ : xq20_.toInt ≤ 7 := by rw [kt_xq20_, show nq18_ + 7 = nq18_ + 7 from by omega]; exact rr_xq20_.2
        refine lv_iload_n hx hb dX10_passes_62 rfl (lv_at hl 4 rfl) ?_
        refine lv_iconst (v := 3) hx hb dX10_passes_63 (by decide) ?_
        refine jic_ne (tgt := 71) hx hb dX10_passes_64 (by decide) (fun cq21_ => ?_) (fun cq21_ => ?_)
        · skip
          have cq21_ : so.toInt ≠ 3 := cq21_
          refine lv_aload_n hx hb dX10_passes_71 rfl (lv_at hl 2 rfl) ?_
          refine xg hC hK hH flX10_7 hc_h rfl dX10_passes_72 ?_
          refine lv_iload hx hb dX10_passes_75 (lv_at hl 0 rfl) ?_
          refine lv_bipush (v := 7) hx hb dX10_passes_77 (by decide) ?_
          refine lv_iadd hx hb dX10_passes_79 ?_
          refine lv_cst (v := zq19_) e_zq19_.symm ?_
          refine xild hC hK hH hc_al (iIn (by omega) (by omega)) dX10_passes_80 ?_
          refine lv_topi (fun xq22_ e_xq22_ => ?_)
          have k_xq22_ : xq22_ = f (nq18_ + 7) := by rw [e_xq22_, clE (n := nq18_ + 7) (by omega)]
          have kt_xq22_ : xq22_.toInt = (f (nq18_ + 7)).toInt := by rw [k_xq22_]
          have rr_xq22_ : (0 : Int) ≤ (f (nq18_ + 7)).toInt ∧ (f (nq18_ + 7)).toInt ≤ 7 := hR_f.rO 7 (t := 0) (b := nq13_) (xn := nq18_) (by omega) (by omega) (by omega) (by decide) rfl
          have l_xq22_ : (0 : Int) ≤ xq22_.toInt := by rw [kt_xq22_, show nq18_ + 7 = nq18_ + 7 from by omega]; exact rr_xq22_.1
          have g_xq22_ : xq22_.toInt ≤ 7 := by rw [kt_xq22_, show nq18_ + 7 = nq18_ + 7 from by omega]; exact rr_xq22_.2
          refine lv_iload hx hb dX10_passes_81 (lv_at hl 6 rfl) ?_
          refine lv_iload hx hb dX10_passes_83 (lv_at hl 7 rfl) ?_
          refine lv_iload hx hb dX10_passes_85 (lv_at hl 8 rfl) ?_
          refine lv_iload_n hx hb dX10_passes_87 rfl (lv_at hl 5 rfl) ?_
          refine goI hK hH (runV (As := [.int 0, .int rq16_, .int so, .int xq20_, .int xq22_, .int to, .int va_, .int no, .int wi]) (rest := []) hC hK hH (c_X10_steps (xn := nq18_) (t := 0) (b := nq13_) hc_h hn_h hc_al hn_al ht_mt ht_pa ht_li (by exact hR_f) (by decide) (by omega) (by have : (0 : Int32).toInt = 0 := rfl; omega) (by omega) (by decide) (by omega) (by omega) (by rw [show nq18_ + 8 = 20 + 280 * (bi.toInt).toNat + 8 from by omega]; omega)) mlX10_125 (rcvM hK hH hc_h rfl) ⟨⟨Nat.le_of_ble_eq_true rfl, Nat.le_of_ble_eq_true rfl⟩, Nat.le_of_ble_eq_true rfl, Nat.le_of_ble_eq_true rfl⟩ rfl hl.1 rfl (Nat.le_of_ble_eq_true rfl) dX10_passes_88) (fun rq25_ Mq23_ Tq24_ Hq_ lcq_ hP hz hH => ?_)
          try dsimp only at hP
          obtain ⟨gq26_, h_gq26_, (⟨er_rq25_, hx_al⟩), eT, hfr⟩ := hP
          have eT := eT.symm; subst eT
          have er_rq25_ := er_rq25_.symm; subst er_rq25_
          have hc_h : Mq23_ h = some (.inr (8, [.ref al, .ref mt, .ref ii, .int ta, .int fpm, .ref pa, .int sm, .int nx, .int tk, .int pl, .int ln, .long va, .int wr, .ref li])) := (hfr h (Or.inl hn_h) n_h_al).trans hc_h
          have hc_al : Mq23_ al = some (.inl (kA 0, 7506, .inl gq26_)) := hx_al
          have hF : ∀ q, FrK T q → q ≠ al → Mq23_ q = M q := fun q hq h0 => (hfr q hq  h0).trans (hF q hq h0)
          have hR_gq26_ : Rng gq26_ := h_gq26_.1
          have hK_gq26_ : Ke f gq26_ := hK_f.tr h_gq26_.2
          exact ret_i hC hr hlk hK hH (⟨gq26_, ⟨hR_gq26_, hK_gq26_⟩, hc_al, rfl, hF⟩) (Nat.le_of_ble_eq_true rfl) (Nat.le_of_ble_eq_true rfl) dX10_passes_91
        · skip
          have cq21_ : so.toInt = 3 := cq21_
          refine lv_iconst (v := -1) hx hb dX10_passes_67 (by decide) ?_
          refine lv_goto (tgt := 81) hx hb dX10_passes_68 (by decide) ?_
          refine lv_iload hx hb dX10_passes_81 (lv_at hl 6 rfl) ?_
          refine lv_iload hx hb dX10_passes_83 (lv_at hl 7 rfl) ?_
          refine lv_iload hx hb dX10_passes_85 (lv_at hl 8 rfl) ?_
          refine lv_iload_n hx hb dX10_passes_87 rfl (lv_at hl 5 rfl) ?_
          refine goI hK hH (runV (As := [.int 0, .int rq16_, .int so, .int xq20_, .int (-1), .int to, .int va_, .int no, .int wi]) (rest := []) hC hK hH (c_X10_steps (xn := nq18_) (t := 0) (b := nq13_) hc_h hn_h hc_al hn_al ht_mt ht_pa ht_li (by exact hR_f) (by decide) (by omega) (by have : (0 : Int32).toInt = 0 := rfl; omega) (by omega) (by decide) (by decide) (by omega) (by rw [show nq18_ + 8 = 20 + 280 * (bi.toInt).toNat + 8 from by omega]; omega)) mlX10_125 (rcvM hK hH hc_h rfl) ⟨⟨Nat.le_of_ble_eq_true rfl, Nat.le_of_ble_eq_true rfl⟩, Nat.le_of_ble_eq_true rfl, Nat.le_of_ble_eq_true rfl⟩ rfl hl.1 rfl (Nat.le_of_ble_eq_true rfl) dX10_passes_88) (fun rq29_ Mq27_ Tq28_ Hq_ lcq_ hP hz hH => ?_)
          try dsimp only at hP
          obtain ⟨gq30_, h_gq30_, (⟨er_rq29_, hx_al⟩), eT, hfr⟩ := hP
          have eT := eT.symm; subst eT
          have er_rq29_ := er_rq29_.symm; subst er_rq29_
          have hc_h : Mq27_ h = some (.inr (8, [.ref al, .ref mt, .ref ii, .int ta, .int fpm, .ref pa, .int sm, .int nx, .int tk, .int pl, .int ln, .long va, .int wr, .ref li])) := (hfr h (Or.inl hn_h) n_h_al).trans hc_h
          have hc_al : Mq27_ al = some (.inl (kA 0, 7506, .inl gq30_)) := hx_al
          have hF : ∀ q, FrK T q → q ≠ al → Mq27_ q = M q := fun q hq h0 => (hfr q hq  h0).trans (hF q hq h0)
          have hR_gq30_ : Rng gq30_ := h_gq30_.1
          have hK_gq30_ : Ke f gq30_ := hK_f.tr h_gq30_.2
          exact ret_i hC hr hlk hK hH (⟨gq30_, ⟨hR_gq30_, hK_gq30_⟩, hc_al, rfl, hF⟩) (Nat.le_of_ble_eq_true rfl) (Nat.le_of_ble_eq_true rfl) dX10_passes_91
      · skip
        have eT := eT.symm; subst eT
        have er_rq10_ := er_rq10_.symm; subst er_rq10_
        have eM := eM.symm; subst eM
        refine lv_istore (lv' := [(7, .int 30), (0, .ref h), (1, .int bi), (2, .int so), (3, .int wi), (4, .int to), (5, .int va_), (6, .int no)]) hx hb dX10_passes_30 hl (by decide) rfl (fun ls hl => ?_)
        refine lv_iload hx hb dX10_passes_32 (lv_at hl 0 rfl) ?_
        refine jif_le (tgt := 40) hx hb dX10_passes_34 (by decide) (fun cq31_ => absurd cq31_ (by decide)) (fun cq31_ => ?_)
        refine lv_iload hx hb dX10_passes_37 (lv_at hl 0 rfl) ?_
        exact ret_i hC hr hlk hK hH (⟨f, ⟨hR_f, hK_f⟩, hc_al, rfl, hF⟩) (Nat.le_of_ble_eq_true rfl) (Nat.le_of_ble_eq_true rfl) dX10_passes_39
      · skip
        have eT := eT.symm; subst eT
        have er_rq10_ := er_rq10_.symm; subst er_rq10_
        have eM := eM.symm; subst eM
        refine lv_istore (lv' := [(7, .int 31), (0, .ref h), (1, .int bi), (2, .int so), (3, .int wi), (4, .int to), (5, .int va_), (6, .int no)]) hx hb dX10_passes_30 hl (by decide) rfl (fun ls hl => ?_)
        refine lv_iload hx hb dX10_passes_32 (lv_at hl 0 rfl) ?_
        refine jif_le (tgt := 40) hx hb dX10_passes_34 (by decide) (fun cq32_ => absurd cq32_ (by decide)) (fun cq32_ => ?_)
        refine lv_iload hx hb dX10_passes_37 (lv_at hl 0 rfl) ?_
        exact ret_i hC hr hlk hK hH (⟨f, ⟨hR_f, hK_f⟩, hc_al, rfl, hF⟩) (Nat.le_of_ble_eq_true rfl) (Nat.le_of_ble_eq_true rfl) dX10_passes_39
    · skip
      have cq7_ : wi.toInt ≠ 0 := cq7_
      refine lv_iload_n hx hb dX10_passes_13 rfl (lv_at hl 2 rfl) ?_
      refine lv_iconst (v := 3) hx hb dX10_passes_14 (by decide) ?_
      refine jic_ne (tgt := 21) hx hb dX10_passes_15 (by decide) (fun cq33_ => ?_) (fun cq33_ => ?_)
      · skip
        have cq33_ : so.toInt ≠ 3 := cq33_
        refine lv_aload_n hx hb dX10_passes_21 rfl (lv_at hl 0 rfl) ?_
        refine lv_iload_n hx hb dX10_passes_22 rfl (lv_at hl 1 rfl) ?_
        refine lv_iload hx hb dX10_passes_23 (lv_at hl 4 rfl) ?_
        refine lv_iload hx hb dX10_passes_25 (lv_at hl 5 rfl) ?_
        refine goI hK hH (runV (As := [.int bi, .int to, .int va_]) (rest := []) hC hK hH (c_X10_stepReason hc_h hn_h hc_al hn_al ht_mt ht_pa ht_li (by exact hR_f)) mlX10_122 (rcvM hK hH hc_h rfl) ⟨⟨Nat.le_of_ble_eq_true rfl, Nat.le_of_ble_eq_true rfl⟩, Nat.le_of_ble_eq_true rfl, Nat.le_of_ble_eq_true rfl⟩ rfl hl.1 rfl (Nat.le_of_ble_eq_true rfl) dX10_passes_27) (fun rq36_ Mq34_ Tq35_ Hq_ lcq_ hP hz hH => ?_)
        try dsimp only at hP
        obtain ⟨(⟨cq37_, er_rq36_⟩ | er_rq36_ | er_rq36_), eT, eM⟩ := hP
        · skip
          have eT := eT.symm; subst eT
          have er_rq36_ := er_rq36_.symm; subst er_rq36_
          have eM := eM.symm; subst eM
          have cq37_ : 0 ≤ bi.toInt ∧ bi.toInt ≤ 3 ∧ 0 ≤ to.toInt ∧ to.toInt ≤ 7 ∧ (f (20 + 280 * (bi.toInt).toNat + 8)).toInt ≤ 11 := cq37_
          refine lv_istore (lv' := [(7, .int 0), (0, .ref h), (1, .int bi), (2, .int so), (3, .int wi), (4, .int to), (5, .int va_), (6, .int no)]) hx hb dX10_passes_30 hl (by decide) rfl (fun ls hl => ?_)
          refine lv_iload hx hb dX10_passes_32 (lv_at hl 0 rfl) ?_
          refine jif_le (tgt := 40) hx hb dX10_passes_34 (by decide) (fun cq38_ => ?_) (fun cq38_ => absurd cq38_ (by decide))
          refine lv_iconst (v := 0) hx hb dX10_passes_40 (by decide) ?_
          refine lv_iload_n hx hb dX10_passes_41 rfl (lv_at hl 2 rfl) ?_
          obtain ⟨nq39_, hn_nq39_⟩ : ∃ n : Nat, bi.toInt = (n : Int) := ⟨(bi.toInt).toNat, by omega⟩
          refine goI hK hH (runS (As := [.int 0, .int bi]) (rest := []) hC hK hH (c_X10_at (by decide) (by omega)) mlX10_109 ⟨⟨Nat.le_of_ble_eq_true rfl, Nat.le_of_ble_eq_true rfl⟩, Nat.le_of_ble_eq_true rfl, Nat.le_of_ble_eq_true rfl⟩ rfl hl.1 rfl (Nat.le_of_ble_eq_true rfl) dX10_passes_42) (fun rq42_ Mq40_ Tq41_ Hq_ lcq_ hP hz hH => ?_)
          try dsimp only at hP
          obtain ⟨(⟨cq43_, ⟨l_rq42_, g_rq42_⟩⟩), eT, eM⟩ := hP
          have eT := eT.symm; subst eT
          have eM := eM.symm; subst eM
          have cq43_ : rq42_.toInt = (0 : Int) + 20 + 280 * bi.toInt := cq43_
          obtain ⟨nq44_, hn_nq44_⟩ : ∃ n : Nat, n = 1140 * 0 + 20 + 280 * nq39_ := ⟨_, rfl⟩
          have hx_rq42_ : rq42_.toInt = (nq44_ : Int) := by have : (0 : Int32).toInt = 0 := rfl; omega
          refine lv_istore (lv' := [(8, .int rq42_), (7, .int 0), (0, .ref h), (1, .int bi), (2, .int so), (3, .int wi), (4, .int to), (5, .int va_), (6, .int no)]) hx hb dX10_passes_45 hl (by decide) rfl (fun ls hl => ?_)
          refine lv_aload_n hx hb dX10_passes_47 rfl (lv_at hl 2 rfl) ?_
          refine lv_iconst (v := 0) hx hb dX10_passes_48 (by decide) ?_
          refine lv_iload hx hb dX10_passes_49 (lv_at hl 0 rfl) ?_
          refine lv_iload_n hx hb dX10_passes_51 rfl (lv_at hl 4 rfl) ?_
          refine lv_aload_n hx hb dX10_passes_52 rfl (lv_at hl 2 rfl) ?_
          refine xg hC hK hH flX10_7 hc_h rfl dX10_passes_53 ?_
          refine lv_iload hx hb dX10_passes_56 (lv_at hl 0 rfl) ?_
          refine lv_bipush (v := 7) hx hb dX10_passes_58 (by decide) ?_
          refine lv_iadd hx hb dX10_passes_60 ?_
          refine lv_topi (fun zq45_ e_zq45_ => ?_)
          have h_zq45_ : zq45_.toInt = rq42_.toInt + 7 := by rw [e_zq45_, iAdd (by have := iRg rq42_; have : (7 : Int32).toInt = 7 := rfl; omega) (by have := iRg rq42_; have : (7 : Int32).toInt = 7 := rfl; omega)]; rfl
          refine xild hC hK hH hc_al (iIn (by omega) (by omega)) dX10_passes_61 ?_
          refine lv_topi (fun xq46_ e_xq46_ => ?_)
          have k_xq46_ : xq46_ = f (nq44_ + 7) := by rw [e_xq46_, clE (n := nq44_ + 7) (by omega)]
          have kt_xq46_ : xq46_.toInt = (f (nq44_ + 7)).toInt := by rw [k_xq46_]
          have rr_xq46_ : (0 : Int) ≤ (f (nq44_ + 7)).toInt ∧ (f (nq44_ + 7)).toInt ≤ 7 := hR_f.rO 7 (t := 0) (b := nq39_) (xn := nq44_) (by omega) (by omega) (by omega) (by decide) rfl
          have l_xq46_ : (0 : Int) ≤ xq46_.toInt := by rw [kt_xq46_, show nq44_ + 7 = nq44_ + 7 from by omega]; exact rr_xq46_.1
          have g_xq46_ : xq46_.toInt ≤ 7 := by rw [kt_xq46_, show nq44_ + 7 = nq44_ + 7 from by omega]; exact rr_xq46_.2
          refine lv_iload_n hx hb dX10_passes_62 rfl (lv_at hl 4 rfl) ?_
          refine lv_iconst (v := 3) hx hb dX10_passes_63 (by decide) ?_
          refine jic_ne (tgt := 71) hx hb dX10_passes_64 (by decide) (fun cq47_ => ?_) (fun cq47_ => absurd cq47_ (by have := iRg so; have : (3 : Int32).toInt = 3 := rfl; omega))
          have cq47_ : so.toInt ≠ 3 := cq47_
          refine lv_aload_n hx hb dX10_passes_71 rfl (lv_at hl 2 rfl) ?_
          refine xg hC hK hH flX10_7 hc_h rfl dX10_passes_72 ?_
          refine lv_iload hx hb dX10_passes_75 (lv_at hl 0 rfl) ?_
          refine lv_bipush (v := 7) hx hb dX10_passes_77 (by decide) ?_
          refine lv_iadd hx hb dX10_passes_79 ?_
          refine lv_cst (v := zq45_) e_zq45_.symm ?_
          refine xild hC hK hH hc_al (iIn (by omega) (by omega)) dX10_passes_80 ?_
          refine lv_topi (fun xq48_ e_xq48_ => ?_)
          have k_xq48_ : xq48_ = f (nq44_ + 7) := by rw [e_xq48_, clE (n := nq44_ + 7) (by omega)]
          have kt_xq48_ : xq48_.toInt = (f (nq44_ + 7)).toInt := by rw [k_xq48_]
          have rr_xq48_ : (0 : Int) ≤ (f (nq44_ + 7)).toInt ∧ (f (nq44_ + 7)).toInt ≤ 7 := hR_f.rO 7 (t := 0) (b := nq39_) (xn := nq44_) (by omega) (by omega) (by omega) (by decide) rfl
          have l_xq48_ : (0 : Int) ≤ xq48_.toInt := by rw [kt_xq48_, show nq44_ + 7 = nq44_ + 7 from by omega]; exact rr_xq48_.1
          have g_xq48_ : xq48_.toInt ≤ 7 := by rw [kt_xq48_, show nq44_ + 7 = nq44_ + 7 from by omega]; exact rr_xq48_.2
          refine lv_iload hx hb dX10_passes_81 (lv_at hl 6 rfl) ?_
          refine lv_iload hx hb dX10_passes_83 (lv_at hl 7 rfl) ?_
          refine lv_iload hx hb dX10_passes_85 (lv_at hl 8 rfl) ?_
          refine lv_iload_n hx hb dX10_passes_87 rfl (lv_at hl 5 rfl) ?_
          refine goI hK hH (runV (As := [.int 0, .int rq42_, .int so, .int xq46_, .int xq48_, .int to, .int va_, .int no, .int wi]) (rest := []) hC hK hH (c_X10_steps (xn := nq44_) (t := 0) (b := nq39_) hc_h hn_h hc_al hn_al ht_mt ht_pa ht_li (by exact hR_f) (by decide) (by omega) (by have : (0 : Int32).toInt = 0 := rfl; omega) (by omega) (by decide) (by omega) (by omega) (by rw [show nq44_ + 8 = 20 + 280 * (bi.toInt).toNat + 8 from by omega]; omega)) mlX10_125 (rcvM hK hH hc_h rfl) ⟨⟨Nat.le_of_ble_eq_true rfl, Nat.le_of_ble_eq_true rfl⟩, Nat.le_of_ble_eq_true rfl, Nat.le_of_ble_eq_true rfl⟩ rfl hl.1 rfl (Nat.le_of_ble_eq_true rfl) dX10_passes_88) (fun rq51_ Mq49_ Tq50_ Hq_ lcq_ hP hz hH => ?_)
          try dsimp only at hP
          obtain ⟨gq52_, h_gq52_, (⟨er_rq51_, hx_al⟩), eT, hfr⟩ := hP
          have eT := eT.symm; subst eT
          have er_rq51_ := er_rq51_.symm; subst er_rq51_
          have hc_h : Mq49_ h = some (.inr (8, [.ref al, .ref mt, .ref ii, .int ta, .int fpm, .ref pa, .int sm, .int nx, .int tk, .int pl, .int ln, .long va, .int wr, .ref li])) := (hfr h (Or.inl hn_h) n_h_al).trans hc_h
          have hc_al : Mq49_ al = some (.inl (kA 0, 7506, .inl gq52_)) := hx_al
          have hF : ∀ q, FrK T q → q ≠ al → Mq49_ q = M q := fun q hq h0 => (hfr q hq  h0).trans (hF q hq h0)
          have hR_gq52_ : Rng gq52_ := h_gq52_.1
          have hK_gq52_ : Ke f gq52_ := hK_f.tr h_gq52_.2
          exact ret_i hC hr hlk hK hH (⟨gq52_, ⟨hR_gq52_, hK_gq52_⟩, hc_al, rfl, hF⟩) (Nat.le_of_ble_eq_true rfl) (Nat.le_of_ble_eq_true rfl) dX10_passes_91
        · skip
          have eT := eT.symm; subst eT
          have er_rq36_ := er_rq36_.symm; subst er_rq36_
          have eM := eM.symm; subst eM
          refine lv_istore (lv' := [(7, .int 30), (0, .ref h), (1, .int bi), (2, .int so), (3, .int wi), (4, .int to), (5, .int va_), (6, .int no)]) hx hb dX10_passes_30 hl (by decide) rfl (fun ls hl => ?_)
          refine lv_iload hx hb dX10_passes_32 (lv_at hl 0 rfl) ?_
          refine jif_le (tgt := 40) hx hb dX10_passes_34 (by decide) (fun cq53_ => absurd cq53_ (by decide)) (fun cq53_ => ?_)
          refine lv_iload hx hb dX10_passes_37 (lv_at hl 0 rfl) ?_
          exact ret_i hC hr hlk hK hH (⟨f, ⟨hR_f, hK_f⟩, hc_al, rfl, hF⟩) (Nat.le_of_ble_eq_true rfl) (Nat.le_of_ble_eq_true rfl) dX10_passes_39
        · skip
          have eT := eT.symm; subst eT
          have er_rq36_ := er_rq36_.symm; subst er_rq36_
          have eM := eM.symm; subst eM
          refine lv_istore (lv' := [(7, .int 31), (0, .ref h), (1, .int bi), (2, .int so), (3, .int wi), (4, .int to), (5, .int va_), (6, .int no)]) hx hb dX10_passes_30 hl (by decide) rfl (fun ls hl => ?_)
          refine lv_iload hx hb dX10_passes_32 (lv_at hl 0 rfl) ?_
          refine jif_le (tgt := 40) hx hb dX10_passes_34 (by decide) (fun cq54_ => absurd cq54_ (by decide)) (fun cq54_ => ?_)
          refine lv_iload hx hb dX10_passes_37 (lv_at hl 0 rfl) ?_
          exact ret_i hC hr hlk hK hH (⟨f, ⟨hR_f, hK_f⟩, hc_al, rfl, hF⟩) (Nat.le_of_ble_eq_true rfl) (Nat.le_of_ble_eq_true rfl) dX10_passes_39
      · skip
        have cq33_ : so.toInt = 3 := cq33_
        refine lv_bipush (v := 30) hx hb dX10_passes_18 (by decide) ?_
        exact ret_i hC hr hlk hK hH (⟨f, ⟨hR_f, hK_f⟩, hc_al, rfl, hF⟩) (Nat.le_of_ble_eq_true rfl) (Nat.le_of_ble_eq_true rfl) dX10_passes_20
  · skip
    have eT := eT.symm; subst eT
    have er_rq3_ := er_rq3_.symm; subst er_rq3_
    have eM := eM.symm; subst eM
    have cq5_ : ¬ ((0 : Int) ≤ so.toInt ∧ so.toInt ≤ (3 : Int)) := cq5_
    refine jif_eq (tgt := 18) hx hb dX10_passes_6 (by decide) (fun cq55_ => ?_) (fun cq55_ => absurd cq55_ (by decide))
    refine lv_bipush (v := 30) hx hb dX10_passes_18 (by decide) ?_
    exact ret_i hC hr hlk hK hH (⟨f, ⟨hR_f, hK_f⟩, hc_al, rfl, hF⟩) (Nat.le_of_ble_eq_true rfl) (Nat.le_of_ble_eq_true rfl) dX10_passes_20
set_option maxHeartbeats 4000000 in
set_option maxRecDepth 100000 in
theorem c_X10_forges {l : Launch} {D : va_G} {kA : Nat → ClassId} {M : mM} {T : mT} {sz : Nat} {h al mt ii pa li : Nat} {ta fpm sm nx tk pl ln wr : Int32} {va : Int64} {f : Nat → Int32} {bi nm to va_ no : Int32} (hc_h : M h = some (.inr (8, [.ref al, .ref mt, .ref ii, .int ta, .int fpm, .ref pa, .int sm, .int nx, .int tk, .int pl, .int ln, .long va, .int wr, .ref li]))) (hn_h : T h = none) (hc_al : M al = some (.inl (kA 0, 7506, .inl f))) (hn_al : T al = none) (ht_mt : T mt = some 11) (ht_pa : T pa = some 13) (ht_li : T li = some 14) (hR_f : Rng f) : mCi l yX10_forges cX10_forges 8 (some .int) 5 0 0 D kA M T sz [.ref h, .int bi, .int nm, .int to, .int va_, .int no] (fun r u => ∃ g : Nat → Int32, (Rng g ∧ Ke f g) ∧ (u.1 al = some (.inl (kA 0, 7506, .inl g))) ∧ u.2 = T ∧ (∀ q, FrK T q → q ≠ al → u.1 q = M q)) := by
  unfold mCi
  refine start_W (by decide) (Nat.le_of_ble_eq_true rfl) ?_
  intro p e s m below meth c ls hC hr hlk hnm hK hH hsz hl
  have hx := hC.1
  have hb := hC.2.1
  have hl : lv_has ls 8 [(0, .ref h), (1, .int bi), (2, .int nm), (3, .int to), (4, .int va_), (5, .int no)] := hl
  have hF : ∀ q, FrK T q → q ≠ al → M q = M q := fun q _ _ => rfl
  have n_h_al : h ≠ al := neM hc_h hc_al (by simp)
  have n_al_h : al ≠ h := neM hc_al hc_h (by simp)
  have hK_f : Ke f f := Ke.rf
  refine lv_aload_n hx hb dX10_forges_0 rfl (lv_at hl 0 rfl) ?_
  refine lv_iload_n hx hb dX10_forges_1 rfl (lv_at hl 1 rfl) ?_
  refine goI hK hH (runV (As := [.int bi]) (rest := []) hC hK hH (c_X10_isBill hc_h hn_h hc_al hn_al ht_mt ht_pa ht_li (by exact hR_f)) mlX10_116 (rcvM hK hH hc_h rfl) ⟨⟨Nat.le_of_ble_eq_true rfl, Nat.le_of_ble_eq_true rfl⟩, Nat.le_of_ble_eq_true rfl, Nat.le_of_ble_eq_true rfl⟩ rfl hl.1 rfl (Nat.le_of_ble_eq_true rfl) dX10_forges_2) (fun rq3_ Mq1_ Tq2_ Hq_ lcq_ hP hz hH => ?_)
  try dsimp only at hP
  obtain ⟨(⟨cq4_, er_rq3_⟩ | er_rq3_), eT, eM⟩ := hP
  · skip
    have eT := eT.symm; subst eT
    have er_rq3_ := er_rq3_.symm; subst er_rq3_
    have eM := eM.symm; subst eM
    have cq4_ : 0 ≤ bi.toInt ∧ bi.toInt ≤ 3 := cq4_
    refine jif_eq (tgt := 32) hx hb dX10_forges_5 (by decide) (fun cq5_ => absurd cq5_ (by decide)) (fun cq5_ => ?_)
    refine lv_iload_n hx hb dX10_forges_8 rfl (lv_at hl 2 rfl) ?_
    refine goI hK hH (runS (As := [.int nm]) (rest := []) hC hK hH (c_X10_isPerson) mlX10_100 ⟨⟨Nat.le_of_ble_eq_true rfl, Nat.le_of_ble_eq_true rfl⟩, Nat.le_of_ble_eq_true rfl, Nat.le_of_ble_eq_true rfl⟩ rfl hl.1 rfl (Nat.le_of_ble_eq_true rfl) dX10_forges_9) (fun rq8_ Mq6_ Tq7_ Hq_ lcq_ hP hz hH => ?_)
    try dsimp only at hP
    obtain ⟨(⟨cq9_, er_rq8_⟩ | ⟨cq10_, er_rq8_⟩), eT, eM⟩ := hP
    · skip
      have eT := eT.symm; subst eT
      have er_rq8_ := er_rq8_.symm; subst er_rq8_
      have eM := eM.symm; subst eM
      have cq9_ : 0 ≤ nm.toInt ∧ nm.toInt ≤ 7 := cq9_
      refine jif_eq (tgt := 32) hx hb dX10_forges_12 (by decide) (fun cq11_ => absurd cq11_ (by decide)) (fun cq11_ => ?_)
      refine lv_iload_n hx hb dX10_forges_15 rfl (lv_at hl 2 rfl) ?_
      refine lv_aload_n hx hb dX10_forges_16 rfl (lv_at hl 0 rfl) ?_
      refine xg hC hK hH flX10_7 hc_h rfl dX10_forges_17 ?_
      refine lv_iconst (v := 0) hx hb dX10_forges_20 (by decide) ?_
      refine lv_iload_n hx hb dX10_forges_21 rfl (lv_at hl 1 rfl) ?_
      obtain ⟨nq12_, hn_nq12_⟩ : ∃ n : Nat, bi.toInt = (n : Int) := ⟨(bi.toInt).toNat, by omega⟩
      refine goI hK hH (runS (As := [.int 0, .int bi]) (rest := [.ref al, .int nm]) hC hK hH (c_X10_at (by decide) (by omega)) mlX10_109 ⟨⟨Nat.le_of_ble_eq_true rfl, Nat.le_of_ble_eq_true rfl⟩, Nat.le_of_ble_eq_true rfl, Nat.le_of_ble_eq_true rfl⟩ rfl hl.1 rfl (Nat.le_of_ble_eq_true rfl) dX10_forges_22) (fun rq15_ Mq13_ Tq14_ Hq_ lcq_ hP hz hH => ?_)
      try dsimp only at hP
      obtain ⟨(⟨cq16_, ⟨l_rq15_, g_rq15_⟩⟩), eT, eM⟩ := hP
      have eT := eT.symm; subst eT
      have eM := eM.symm; subst eM
      have cq16_ : rq15_.toInt = (0 : Int) + 20 + 280 * bi.toInt := cq16_
      obtain ⟨nq17_, hn_nq17_⟩ : ∃ n : Nat, n = 1140 * 0 + 20 + 280 * nq12_ := ⟨_, rfl⟩
      have hx_rq15_ : rq15_.toInt = (nq17_ : Int) := by have : (0 : Int32).toInt = 0 := rfl; omega
      refine lv_bipush (v := 7) hx hb dX10_forges_25 (by decide) ?_
      refine lv_iadd hx hb dX10_forges_27 ?_
      refine lv_topi (fun zq18_ e_zq18_ => ?_)
      have h_zq18_ : zq18_.toInt = rq15_.toInt + 7 := by rw [e_zq18_, iAdd (by have := iRg rq15_; have : (7 : Int32).toInt = 7 := rfl; omega) (by have := iRg rq15_; have : (7 : Int32).toInt = 7 := rfl; omega)]; rfl
      refine xild hC hK hH hc_al (iIn (by omega) (by omega)) dX10_forges_28 ?_
      refine lv_topi (fun xq19_ e_xq19_ => ?_)
      have k_xq19_ : xq19_ = f (nq17_ + 7) := by rw [e_xq19_, clE (n := nq17_ + 7) (by omega)]
      have kt_xq19_ : xq19_.toInt = (f (nq17_ + 7)).toInt := by rw [k_xq19_]
      have rr_xq19_ : (0 : Int) ≤ (f (nq17_ + 7)).toInt ∧ (f (nq17_ + 7)).toInt ≤ 7 := hR_f.rO 7 (t := 0) (b := nq12_) (xn := nq17_) (by omega) (by omega) (by omega) (by decide) rfl
      have l_xq19_ : (0 : Int) ≤ xq19_.toInt := by rw [kt_xq19_, show nq17_ + 7 = nq17_ + 7 from by omega]; exact rr_xq19_.1
      have g_xq19_ : xq19_.toInt ≤ 7 := by rw [kt_xq19_, show nq17_ + 7 = nq17_ + 7 from by omega]; exact rr_xq19_.2
      refine jic_ne (tgt := 35) hx hb dX10_forges_29 (by decide) (fun cq20_ => ?_) (fun cq20_ => ?_)
      · skip
        have cq20_ : nm.toInt ≠ xq19_.toInt := cq20_
        refine lv_aload_n hx hb dX10_forges_35 rfl (lv_at hl 0 rfl) ?_
        refine lv_iload_n hx hb dX10_forges_36 rfl (lv_at hl 1 rfl) ?_
        refine lv_iload_n hx hb dX10_forges_37 rfl (lv_at hl 3 rfl) ?_
        refine lv_iload hx hb dX10_forges_38 (lv_at hl 4 rfl) ?_
        refine goI hK hH (runV (As := [.int bi, .int to, .int va_]) (rest := []) hC hK hH (c_X10_stepReason hc_h hn_h hc_al hn_al ht_mt ht_pa ht_li (by exact hR_f)) mlX10_122 (rcvM hK hH hc_h rfl) ⟨⟨Nat.le_of_ble_eq_true rfl, Nat.le_of_ble_eq_true rfl⟩, Nat.le_of_ble_eq_true rfl, Nat.le_of_ble_eq_true rfl⟩ rfl hl.1 rfl (Nat.le_of_ble_eq_true rfl) dX10_forges_40) (fun rq23_ Mq21_ Tq22_ Hq_ lcq_ hP hz hH => ?_)
        try dsimp only at hP
        obtain ⟨(⟨cq24_, er_rq23_⟩ | er_rq23_ | er_rq23_), eT, eM⟩ := hP
        · skip
          have eT := eT.symm; subst eT
          have er_rq23_ := er_rq23_.symm; subst er_rq23_
          have eM := eM.symm; subst eM
          have cq24_ : 0 ≤ bi.toInt ∧ bi.toInt ≤ 3 ∧ 0 ≤ to.toInt ∧ to.toInt ≤ 7 ∧ (f (20 + 280 * (bi.toInt).toNat + 8)).toInt ≤ 11 := cq24_
          refine lv_istore (lv' := [(6, .int 0), (0, .ref h), (1, .int bi), (2, .int nm), (3, .int to), (4, .int va_), (5, .int no)]) hx hb dX10_forges_43 hl (by decide) rfl (fun ls hl => ?_)
          refine lv_iload hx hb dX10_forges_45 (lv_at hl 0 rfl) ?_
          refine jif_le (tgt := 53) hx hb dX10_forges_47 (by decide) (fun cq25_ => ?_) (fun cq25_ => absurd cq25_ (by decide))
          refine lv_iconst (v := 0) hx hb dX10_forges_53 (by decide) ?_
          refine lv_iload_n hx hb dX10_forges_54 rfl (lv_at hl 2 rfl) ?_
          refine goI hK hH (runS (As := [.int 0, .int bi]) (rest := []) hC hK hH (c_X10_at (by decide) (by omega)) mlX10_109 ⟨⟨Nat.le_of_ble_eq_true rfl, Nat.le_of_ble_eq_true rfl⟩, Nat.le_of_ble_eq_true rfl, Nat.le_of_ble_eq_true rfl⟩ rfl hl.1 rfl (Nat.le_of_ble_eq_true rfl) dX10_forges_55) (fun rq28_ Mq26_ Tq27_ Hq_ lcq_ hP hz hH => ?_)
          try dsimp only at hP
          obtain ⟨(⟨cq29_, ⟨l_rq28_, g_rq28_⟩⟩), eT, eM⟩ := hP
          have eT := eT.symm; subst eT
          have eM := eM.symm; subst eM
          have cq29_ : rq28_.toInt = (0 : Int) + 20 + 280 * bi.toInt := cq29_
          obtain ⟨nq30_, hn_nq30_⟩ : ∃ n : Nat, n = 1140 * 0 + 20 + 280 * nq12_ := ⟨_, rfl⟩
          have hx_rq28_ : rq28_.toInt = (nq30_ : Int) := by have : (0 : Int32).toInt = 0 := rfl; omega
          refine lv_istore (lv' := [(7, .int rq28_), (6, .int 0), (0, .ref h), (1, .int bi), (2, .int nm), (3, .int to), (4, .int va_), (5, .int no)]) hx hb dX10_forges_58 hl (by decide) rfl (fun ls hl => ?_)
          refine lv_aload_n hx hb dX10_forges_60 rfl (lv_at hl 2 rfl) ?_
          refine lv_iconst (v := 0) hx hb dX10_forges_61 (by decide) ?_
          refine lv_iload hx hb dX10_forges_62 (lv_at hl 0 rfl) ?_
          refine lv_iconst (v := 1) hx hb dX10_forges_64 (by decide) ?_
          refine lv_aload_n hx hb dX10_forges_65 rfl (lv_at hl 2 rfl) ?_
          refine xg hC hK hH flX10_7 hc_h rfl dX10_forges_66 ?_
          refine lv_iload hx hb dX10_forges_69 (lv_at hl 0 rfl) ?_
          refine lv_bipush (v := 7) hx hb dX10_forges_71 (by decide) ?_
          refine lv_iadd hx hb dX10_forges_73 ?_
          refine lv_topi (fun zq31_ e_zq31_ => ?_)
          have h_zq31_ : zq31_.toInt = rq28_.toInt + 7 := by rw [e_zq31_, iAdd (by have := iRg rq28_; have : (7 : Int32).toInt = 7 := rfl; omega) (by have := iRg rq28_; have : (7 : Int32).toInt = 7 := rfl; omega)]; rfl
          refine xild hC hK hH hc_al (iIn (by omega) (by omega)) dX10_forges_74 ?_
          refine lv_topi (fun xq32_ e_xq32_ => ?_)
          have k_xq32_ : xq32_ = f (nq30_ + 7) := by rw [e_xq32_, clE (n := nq30_ + 7) (by omega)]
          have kt_xq32_ : xq32_.toInt = (f (nq30_ + 7)).toInt := by rw [k_xq32_]
          have rr_xq32_ : (0 : Int) ≤ (f (nq30_ + 7)).toInt ∧ (f (nq30_ + 7)).toInt ≤ 7 := hR_f.rO 7 (t := 0) (b := nq12_) (xn := nq30_) (by omega) (by omega) (by omega) (by decide) rfl
          have l_xq32_ : (0 : Int) ≤ xq32_.toInt := by rw [kt_xq32_, show nq30_ + 7 = nq30_ + 7 from by omega]; exact rr_xq32_.1
          have g_xq32_ : xq32_.toInt ≤ 7 := by rw [kt_xq32_, show nq30_ + 7 = nq30_ + 7 from by omega]; exact rr_xq32_.2
          refine lv_iload_n hx hb dX10_forges_75 rfl (lv_at hl 4 rfl) ?_
          refine lv_iload_n hx hb dX10_forges_76 rfl (lv_at hl 5 rfl) ?_
          refine lv_iload hx hb dX10_forges_77 (lv_at hl 6 rfl) ?_
          refine lv_iload hx hb dX10_forges_79 (lv_at hl 7 rfl) ?_
          refine lv_iconst (v := 0) hx hb dX10_forges_81 (by decide) ?_
          refine goI hK hH (runV (As := [.int 0, .int rq28_, .int 1, .int xq32_, .int nm, .int to, .int va_, .int no, .int 0]) (rest := []) hC hK hH (c_X10_steps (xn := nq30_) (t := 0) (b := nq12_) hc_h hn_h hc_al hn_al ht_mt ht_pa ht_li (by exact hR_f) (by decide) (by omega) (by have : (0 : Int32).toInt = 0 := rfl; omega) (by omega) (by decide) (by omega) (by omega) (by rw [show nq30_ + 8 = 20 + 280 * (bi.toInt).toNat + 8 from by omega]; omega)) mlX10_125 (rcvM hK hH hc_h rfl) ⟨⟨Nat.le_of_ble_eq_true rfl, Nat.le_of_ble_eq_true rfl⟩, Nat.le_of_ble_eq_true rfl, Nat.le_of_ble_eq_true rfl⟩ rfl hl.1 rfl (Nat.le_of_ble_eq_true rfl) dX10_forges_82) (fun rq35_ Mq33_ Tq34_ Hq_ lcq_ hP hz hH => ?_)
          try dsimp only at hP
          obtain ⟨gq36_, h_gq36_, (⟨er_rq35_, hx_al⟩), eT, hfr⟩ := hP
          have eT := eT.symm; subst eT
          have er_rq35_ := er_rq35_.symm; subst er_rq35_
          have hc_h : Mq33_ h = some (.inr (8, [.ref al, .ref mt, .ref ii, .int ta, .int fpm, .ref pa, .int sm, .int nx, .int tk, .int pl, .int ln, .long va, .int wr, .ref li])) := (hfr h (Or.inl hn_h) n_h_al).trans hc_h
          have hc_al : Mq33_ al = some (.inl (kA 0, 7506, .inl gq36_)) := hx_al
          have hF : ∀ q, FrK T q → q ≠ al → Mq33_ q = M q := fun q hq h0 => (hfr q hq  h0).trans (hF q hq h0)
          have hR_gq36_ : Rng gq36_ := h_gq36_.1
          have hK_gq36_ : Ke f gq36_ := hK_f.tr h_gq36_.2
          exact ret_i hC hr hlk hK hH (⟨gq36_, ⟨hR_gq36_, hK_gq36_⟩, hc_al, rfl, hF⟩) (Nat.le_of_ble_eq_true rfl) (Nat.le_of_ble_eq_true rfl) dX10_forges_85
        · skip
          have eT := eT.symm; subst eT
          have er_rq23_ := er_rq23_.symm; subst er_rq23_
          have eM := eM.symm; subst eM
          refine lv_istore (lv' := [(6, .int 30), (0, .ref h), (1, .int bi), (2, .int nm), (3, .int to), (4, .int va_), (5, .int no)]) hx hb dX10_forges_43 hl (by decide) rfl (fun ls hl => ?_)
          refine lv_iload hx hb dX10_forges_45 (lv_at hl 0 rfl) ?_
          refine jif_le (tgt := 53) hx hb dX10_forges_47 (by decide) (fun cq37_ => absurd cq37_ (by decide)) (fun cq37_ => ?_)
          refine lv_iload hx hb dX10_forges_50 (lv_at hl 0 rfl) ?_
          exact ret_i hC hr hlk hK hH (⟨f, ⟨hR_f, hK_f⟩, hc_al, rfl, hF⟩) (Nat.le_of_ble_eq_true rfl) (Nat.le_of_ble_eq_true rfl) dX10_forges_52
        · skip
          have eT := eT.symm; subst eT
          have er_rq23_ := er_rq23_.symm; subst er_rq23_
          have eM := eM.symm; subst eM
          refine lv_istore (lv' := [(6, .int 31), (0, .ref h), (1, .int bi), (2, .int nm), (3, .int to), (4, .int va_), (5, .int no)]) hx hb dX10_forges_43 hl (by decide) rfl (fun ls hl => ?_)
          refine lv_iload hx hb dX10_forges_45 (lv_at hl 0 rfl) ?_
          refine jif_le (tgt := 53) hx hb dX10_forges_47 (by decide) (fun cq38_ => absurd cq38_ (by decide)) (fun cq38_ => ?_)
          refine lv_iload hx hb dX10_forges_50 (lv_at hl 0 rfl) ?_
          exact ret_i hC hr hlk hK hH (⟨f, ⟨hR_f, hK_f⟩, hc_al, rfl, hF⟩) (Nat.le_of_ble_eq_true rfl) (Nat.le_of_ble_eq_true rfl) dX10_forges_52
      · skip
        have cq20_ : nm.toInt = xq19_.toInt := cq20_
        refine lv_bipush (v := 30) hx hb dX10_forges_32 (by decide) ?_
        exact ret_i hC hr hlk hK hH (⟨f, ⟨hR_f, hK_f⟩, hc_al, rfl, hF⟩) (Nat.le_of_ble_eq_true rfl) (Nat.le_of_ble_eq_true rfl) dX10_forges_34
    · skip
      have eT := eT.symm; subst eT
      have er_rq8_ := er_rq8_.symm; subst er_rq8_
      have eM := eM.symm; subst eM
      have cq10_ : ¬ (0 ≤ nm.toInt ∧ nm.toInt ≤ 7) := cq10_
      refine jif_eq (tgt := 32) hx hb dX10_forges_12 (by decide) (fun cq39_ => ?_) (fun cq39_ => absurd cq39_ (by decide))
      refine lv_bipush (v := 30) hx hb dX10_forges_32 (by decide) ?_
      exact ret_i hC hr hlk hK hH (⟨f, ⟨hR_f, hK_f⟩, hc_al, rfl, hF⟩) (Nat.le_of_ble_eq_true rfl) (Nat.le_of_ble_eq_true rfl) dX10_forges_34
  · skip
    have eT := eT.symm; subst eT
    have er_rq3_ := er_rq3_.symm; subst er_rq3_
    have eM := eM.symm; subst eM
    refine jif_eq (tgt := 32) hx hb dX10_forges_5 (by decide) (fun cq40_ => ?_) (fun cq40_ => absurd cq40_ (by decide))
    refine lv_bipush (v := 30) hx hb dX10_forges_32 (by decide) ?_
    exact ret_i hC hr hlk hK hH (⟨f, ⟨hR_f, hK_f⟩, hc_al, rfl, hF⟩) (Nat.le_of_ble_eq_true rfl) (Nat.le_of_ble_eq_true rfl) dX10_forges_34
set_option maxHeartbeats 4000000 in
set_option maxRecDepth 100000 in
theorem c_X10_finds {l : Launch} {D : va_G} {kA : Nat → ClassId} {M : mM} {T : mT} {sz : Nat} {h al mt ii pa li : Nat} {ta fpm sm nx tk pl ln wr : Int32} {va : Int64} {f : Nat → Int32} {bi to : Int32} (hc_h : M h = some (.inr (8, [.ref al, .ref mt, .ref ii, .int ta, .int fpm, .ref pa, .int sm, .int nx, .int tk, .int pl, .int ln, .long va, .int wr, .ref li]))) (hn_h : T h = none) (hc_al : M al = some (.inl (kA 0, 7506, .inl f))) (hn_al : T al = none) (ht_mt : T mt = some 11) (ht_pa : T pa = some 13) (ht_li : T li = some 14) (hR_f : Rng f) : mCi l yX10_finds cX10_finds 4 (some .int) 5 0 0 D kA M T sz [.ref h, .int bi, .int to] (fun r u => ∃ g : Nat → Int32, (Rng g ∧ Ke f g) ∧ (u.1 al = some (.inl (kA 0, 7506, .inl g))) ∧ u.2 = T ∧ (∀ q, FrK T q → q ≠ al → u.1 q = M q)) := by
  unfold mCi
  refine start_W (by decide) (Nat.le_of_ble_eq_true rfl) ?_
  intro p e s m below meth c ls hC hr hlk hnm hK hH hsz hl
  have hx := hC.1
  have hb := hC.2.1
  have hl : lv_has ls 4 [(0, .ref h), (1, .int bi), (2, .int to)] := hl
  have hF : ∀ q, FrK T q → q ≠ al → M q = M q := fun q _ _ => rfl
  have n_h_al : h ≠ al := neM hc_h hc_al (by simp)
  have n_al_h : al ≠ h := neM hc_al hc_h (by simp)
  have hK_f : Ke f f := Ke.rf
  refine lv_aload_n hx hb dX10_finds_0 rfl (lv_at hl 0 rfl) ?_
  refine lv_iload_n hx hb dX10_finds_1 rfl (lv_at hl 1 rfl) ?_
  refine lv_iload_n hx hb dX10_finds_2 rfl (lv_at hl 2 rfl) ?_
  refine lv_iconst (v := 0) hx hb dX10_finds_3 (by decide) ?_
  refine goI hK hH (runV (As := [.int bi, .int to, .int 0]) (rest := []) hC hK hH (c_X10_stepReason hc_h hn_h hc_al hn_al ht_mt ht_pa ht_li (by exact hR_f)) mlX10_122 (rcvM hK hH hc_h rfl) ⟨⟨Nat.le_of_ble_eq_true rfl, Nat.le_of_ble_eq_true rfl⟩, Nat.le_of_ble_eq_true rfl, Nat.le_of_ble_eq_true rfl⟩ rfl hl.1 rfl (Nat.le_of_ble_eq_true rfl) dX10_finds_4) (fun rq3_ Mq1_ Tq2_ Hq_ lcq_ hP hz hH => ?_)
  try dsimp only at hP
  obtain ⟨(⟨cq4_, er_rq3_⟩ | er_rq3_ | er_rq3_), eT, eM⟩ := hP
  · skip
    have eT := eT.symm; subst eT
    have er_rq3_ := er_rq3_.symm; subst er_rq3_
    have eM := eM.symm; subst eM
    have cq4_ : 0 ≤ bi.toInt ∧ bi.toInt ≤ 3 ∧ 0 ≤ to.toInt ∧ to.toInt ≤ 7 ∧ (f (20 + 280 * (bi.toInt).toNat + 8)).toInt ≤ 11 := cq4_
    refine lv_istore_n (lv' := [(3, .int 0), (0, .ref h), (1, .int bi), (2, .int to)]) hx hb dX10_finds_7 rfl hl (by decide) rfl (fun ls hl => ?_)
    refine lv_iload_n hx hb dX10_finds_8 rfl (lv_at hl 0 rfl) ?_
    refine jif_le (tgt := 16) hx hb dX10_finds_9 (by decide) (fun cq5_ => ?_) (fun cq5_ => absurd cq5_ (by decide))
    refine lv_aload_n hx hb dX10_finds_16 rfl (lv_at hl 1 rfl) ?_
    refine lv_iconst (v := 0) hx hb dX10_finds_17 (by decide) ?_
    refine lv_iconst (v := 0) hx hb dX10_finds_18 (by decide) ?_
    refine lv_iload_n hx hb dX10_finds_19 rfl (lv_at hl 2 rfl) ?_
    obtain ⟨nq6_, hn_nq6_⟩ : ∃ n : Nat, bi.toInt = (n : Int) := ⟨(bi.toInt).toNat, by omega⟩
    refine goI hK hH (runS (As := [.int 0, .int bi]) (rest := [.int 0, .ref h]) hC hK hH (c_X10_at (by decide) (by omega)) mlX10_109 ⟨⟨Nat.le_of_ble_eq_true rfl, Nat.le_of_ble_eq_true rfl⟩, Nat.le_of_ble_eq_true rfl, Nat.le_of_ble_eq_true rfl⟩ rfl hl.1 rfl (Nat.le_of_ble_eq_true rfl) dX10_finds_20) (fun rq9_ Mq7_ Tq8_ Hq_ lcq_ hP hz hH => ?_)
    try dsimp only at hP
    obtain ⟨(⟨cq10_, ⟨l_rq9_, g_rq9_⟩⟩), eT, eM⟩ := hP
    have eT := eT.symm; subst eT
    have eM := eM.symm; subst eM
    have cq10_ : rq9_.toInt = (0 : Int) + 20 + 280 * bi.toInt := cq10_
    obtain ⟨nq11_, hn_nq11_⟩ : ∃ n : Nat, n = 1140 * 0 + 20 + 280 * nq6_ := ⟨_, rfl⟩
    have hx_rq9_ : rq9_.toInt = (nq11_ : Int) := by have : (0 : Int32).toInt = 0 := rfl; omega
    refine lv_iconst (v := 4) hx hb dX10_finds_23 (by decide) ?_
    refine lv_iconst (v := -1) hx hb dX10_finds_24 (by decide) ?_
    refine lv_iconst (v := -1) hx hb dX10_finds_25 (by decide) ?_
    refine lv_iload_n hx hb dX10_finds_26 rfl (lv_at hl 3 rfl) ?_
    refine lv_iconst (v := 0) hx hb dX10_finds_27 (by decide) ?_
    refine lv_iconst (v := 0) hx hb dX10_finds_28 (by decide) ?_
    refine lv_iconst (v := 0) hx hb dX10_finds_29 (by decide) ?_
    refine goI hK hH (runV (As := [.int 0, .int rq9_, .int 4, .int (-1), .int (-1), .int to, .int 0, .int 0, .int 0]) (rest := []) hC hK hH (c_X10_steps (xn := nq11_) (t := 0) (b := nq6_) hc_h hn_h hc_al hn_al ht_mt ht_pa ht_li (by exact hR_f) (by decide) (by omega) (by have : (0 : Int32).toInt = 0 := rfl; omega) (by omega) (by decide) (by decide) (by omega) (by rw [show nq11_ + 8 = 20 + 280 * (bi.toInt).toNat + 8 from by omega]; omega)) mlX10_125 (rcvM hK hH hc_h rfl) ⟨⟨Nat.le_of_ble_eq_true rfl, Nat.le_of_ble_eq_true rfl⟩, Nat.le_of_ble_eq_true rfl, Nat.le_of_ble_eq_true rfl⟩ rfl hl.1 rfl (Nat.le_of_ble_eq_true rfl) dX10_finds_30) (fun rq14_ Mq12_ Tq13_ Hq_ lcq_ hP hz hH => ?_)
    try dsimp only at hP
    obtain ⟨gq15_, h_gq15_, (⟨er_rq14_, hx_al⟩), eT, hfr⟩ := hP
    have eT := eT.symm; subst eT
    have er_rq14_ := er_rq14_.symm; subst er_rq14_
    have hc_h : Mq12_ h = some (.inr (8, [.ref al, .ref mt, .ref ii, .int ta, .int fpm, .ref pa, .int sm, .int nx, .int tk, .int pl, .int ln, .long va, .int wr, .ref li])) := (hfr h (Or.inl hn_h) n_h_al).trans hc_h
    have hc_al : Mq12_ al = some (.inl (kA 0, 7506, .inl gq15_)) := hx_al
    have hF : ∀ q, FrK T q → q ≠ al → Mq12_ q = M q := fun q hq h0 => (hfr q hq  h0).trans (hF q hq h0)
    have hR_gq15_ : Rng gq15_ := h_gq15_.1
    have hK_gq15_ : Ke f gq15_ := hK_f.tr h_gq15_.2
    exact ret_i hC hr hlk hK hH (⟨gq15_, ⟨hR_gq15_, hK_gq15_⟩, hc_al, rfl, hF⟩) (Nat.le_of_ble_eq_true rfl) (Nat.le_of_ble_eq_true rfl) dX10_finds_33
  · skip
    have eT := eT.symm; subst eT
    have er_rq3_ := er_rq3_.symm; subst er_rq3_
    have eM := eM.symm; subst eM
    refine lv_istore_n (lv' := [(3, .int 30), (0, .ref h), (1, .int bi), (2, .int to)]) hx hb dX10_finds_7 rfl hl (by decide) rfl (fun ls hl => ?_)
    refine lv_iload_n hx hb dX10_finds_8 rfl (lv_at hl 0 rfl) ?_
    refine jif_le (tgt := 16) hx hb dX10_finds_9 (by decide) (fun cq16_ => absurd cq16_ (by decide)) (fun cq16_ => ?_)
    refine lv_iload_n hx hb dX10_finds_12 rfl (lv_at hl 0 rfl) ?_
    refine lv_goto (tgt := 33) hx hb dX10_finds_13 (by decide) ?_
    exact ret_i hC hr hlk hK hH (⟨f, ⟨hR_f, hK_f⟩, hc_al, rfl, hF⟩) (Nat.le_of_ble_eq_true rfl) (Nat.le_of_ble_eq_true rfl) dX10_finds_33
  · skip
    have eT := eT.symm; subst eT
    have er_rq3_ := er_rq3_.symm; subst er_rq3_
    have eM := eM.symm; subst eM
    refine lv_istore_n (lv' := [(3, .int 31), (0, .ref h), (1, .int bi), (2, .int to)]) hx hb dX10_finds_7 rfl hl (by decide) rfl (fun ls hl => ?_)
    refine lv_iload_n hx hb dX10_finds_8 rfl (lv_at hl 0 rfl) ?_
    refine jif_le (tgt := 16) hx hb dX10_finds_9 (by decide) (fun cq17_ => absurd cq17_ (by decide)) (fun cq17_ => ?_)
    refine lv_iload_n hx hb dX10_finds_12 rfl (lv_at hl 0 rfl) ?_
    refine lv_goto (tgt := 33) hx hb dX10_finds_13 (by decide) ?_
    exact ret_i hC hr hlk hK hH (⟨f, ⟨hR_f, hK_f⟩, hc_al, rfl, hF⟩) (Nat.le_of_ble_eq_true rfl) (Nat.le_of_ble_eq_true rfl) dX10_finds_33
set_option maxHeartbeats 4000000 in
set_option maxRecDepth 100000 in
theorem c_X10_isSigned {l : Launch} {D : va_G} {kA : Nat → ClassId} {M : mM} {T : mT} {sz : Nat} {h al mt ii pa li : Nat} {ta fpm sm nx tk pl ln wr : Int32} {va : Int64} {f : Nat → Int32} {bi pt : Int32} (hc_h : M h = some (.inr (8, [.ref al, .ref mt, .ref ii, .int ta, .int fpm, .ref pa, .int sm, .int nx, .int tk, .int pl, .int ln, .long va, .int wr, .ref li]))) (hn_h : T h = none) (hc_al : M al = some (.inl (kA 0, 7506, .inl f))) (hn_al : T al = none) (ht_mt : T mt = some 11) (ht_pa : T pa = some 13) (ht_li : T li = some 14) (hR_f : Rng f) : mCi l yX10_isSigned cX10_isSigned 3 (some .boolean) 3 0 0 D kA M T sz [.ref h, .int bi, .int pt] (fun r u => (((0 ≤ bi.toInt ∧ bi.toInt ≤ 3 ∧ 0 ≤ pt.toInt ∧ pt.toInt ≤ 13) ∧ r = 1) ∨ (r = 0)) ∧ u.2 = T ∧ u.1 = M) := by
  unfold mCi
  refine start_W (by decide) (Nat.le_of_ble_eq_true rfl) ?_
  intro p e s m below meth c ls hC hr hlk hnm hK hH hsz hl
  have hx := hC.1
  have hb := hC.2.1
  have hl : lv_has ls 3 [(0, .ref h), (1, .int bi), (2, .int pt)] := hl
  have n_h_al : h ≠ al := neM hc_h hc_al (by simp)
  have n_al_h : al ≠ h := neM hc_al hc_h (by simp)
  have hK_f : Ke f f := Ke.rf
  refine lv_aload_n hx hb dX10_isSigned_0 rfl (lv_at hl 0 rfl) ?_
  refine lv_iload_n hx hb dX10_isSigned_1 rfl (lv_at hl 1 rfl) ?_
  refine goI hK hH (runV (As := [.int bi]) (rest := []) hC hK hH (c_X10_isBill hc_h hn_h hc_al hn_al ht_mt ht_pa ht_li (by exact hR_f)) mlX10_116 (rcvM hK hH hc_h rfl) ⟨⟨Nat.le_of_ble_eq_true rfl, Nat.le_of_ble_eq_true rfl⟩, Nat.le_of_ble_eq_true rfl, Nat.le_of_ble_eq_true rfl⟩ rfl hl.1 rfl (Nat.le_of_ble_eq_true rfl) dX10_isSigned_2) (fun rq3_ Mq1_ Tq2_ Hq_ lcq_ hP hz hH => ?_)
  try dsimp only at hP
  obtain ⟨(⟨cq4_, er_rq3_⟩ | er_rq3_), eT, eM⟩ := hP
  · skip
    have eT := eT.symm; subst eT
    have er_rq3_ := er_rq3_.symm; subst er_rq3_
    have eM := eM.symm; subst eM
    have cq4_ : 0 ≤ bi.toInt ∧ bi.toInt ≤ 3 := cq4_
    refine jif_eq (tgt := 38) hx hb dX10_isSigned_5 (by decide) (fun cq5_ => absurd cq5_ (by decide)) (fun cq5_ => ?_)
    refine lv_aload_n hx hb dX10_isSigned_8 rfl (lv_at hl 0 rfl) ?_
    refine lv_iconst (v := 0) hx hb dX10_isSigned_9 (by decide) ?_
    refine lv_iload_n hx hb dX10_isSigned_10 rfl (lv_at hl 1 rfl) ?_
    obtain ⟨nq6_, hn_nq6_⟩ : ∃ n : Nat, bi.toInt = (n : Int) := ⟨(bi.toInt).toNat, by omega⟩
    refine goI hK hH (runS (As := [.int 0, .int bi]) (rest := [.ref h]) hC hK hH (c_X10_at (by decide) (by omega)) mlX10_109 ⟨⟨Nat.le_of_ble_eq_true rfl, Nat.le_of_ble_eq_true rfl⟩, Nat.le_of_ble_eq_true rfl, Nat.le_of_ble_eq_true rfl⟩ rfl hl.1 rfl (Nat.le_of_ble_eq_true rfl) dX10_isSigned_11) (fun rq9_ Mq7_ Tq8_ Hq_ lcq_ hP hz hH => ?_)
    try dsimp only at hP
    obtain ⟨(⟨cq10_, ⟨l_rq9_, g_rq9_⟩⟩), eT, eM⟩ := hP
    have eT := eT.symm; subst eT
    have eM := eM.symm; subst eM
    have cq10_ : rq9_.toInt = (0 : Int) + 20 + 280 * bi.toInt := cq10_
    obtain ⟨nq11_, hn_nq11_⟩ : ∃ n : Nat, n = 1140 * 0 + 20 + 280 * nq6_ := ⟨_, rfl⟩
    have hx_rq9_ : rq9_.toInt = (nq11_ : Int) := by have : (0 : Int32).toInt = 0 := rfl; omega
    refine lv_iload_n hx hb dX10_isSigned_14 rfl (lv_at hl 2 rfl) ?_
    refine goI hK hH (runV (As := [.int rq9_, .int pt]) (rest := []) hC hK hH (c_X10_isParty (xn := nq11_) (t := 0) (b := nq6_) hc_h hn_h hc_al hn_al ht_mt ht_pa ht_li (by exact hR_f) (by decide) (by omega) (by have : (0 : Int32).toInt = 0 := rfl; omega) (by omega)) mlX10_140 (rcvM hK hH hc_h rfl) ⟨⟨Nat.le_of_ble_eq_true rfl, Nat.le_of_ble_eq_true rfl⟩, Nat.le_of_ble_eq_true rfl, Nat.le_of_ble_eq_true rfl⟩ rfl hl.1 rfl (Nat.le_of_ble_eq_true rfl) dX10_isSigned_15) (fun rq14_ Mq12_ Tq13_ Hq_ lcq_ hP hz hH => ?_)
    try dsimp only at hP
    obtain ⟨(⟨cq15_, er_rq14_⟩ | er_rq14_), eT, eM⟩ := hP
    · skip
      have eT := eT.symm; subst eT
      have er_rq14_ := er_rq14_.symm; subst er_rq14_
      have eM := eM.symm; subst eM
      have cq15_ : 0 ≤ pt.toInt ∧ pt.toInt ≤ 1 + (f (nq11_ + 8)).toInt ∧ pt.toInt ≤ 13 := cq15_
      refine jif_eq (tgt := 38) hx hb dX10_isSigned_18 (by decide) (fun cq16_ => absurd cq16_ (by decide)) (fun cq16_ => ?_)
      refine lv_aload_n hx hb dX10_isSigned_21 rfl (lv_at hl 0 rfl) ?_
      refine lv_iconst (v := 0) hx hb dX10_isSigned_22 (by decide) ?_
      refine lv_iload_n hx hb dX10_isSigned_23 rfl (lv_at hl 1 rfl) ?_
      refine goI hK hH (runS (As := [.int 0, .int bi]) (rest := [.ref h]) hC hK hH (c_X10_at (by decide) (by omega)) mlX10_109 ⟨⟨Nat.le_of_ble_eq_true rfl, Nat.le_of_ble_eq_true rfl⟩, Nat.le_of_ble_eq_true rfl, Nat.le_of_ble_eq_true rfl⟩ rfl hl.1 rfl (Nat.le_of_ble_eq_true rfl) dX10_isSigned_24) (fun rq19_ Mq17_ Tq18_ Hq_ lcq_ hP hz hH => ?_)
      try dsimp only at hP
      obtain ⟨(⟨cq20_, ⟨l_rq19_, g_rq19_⟩⟩), eT, eM⟩ := hP
      have eT := eT.symm; subst eT
      have eM := eM.symm; subst eM
      have cq20_ : rq19_.toInt = (0 : Int) + 20 + 280 * bi.toInt := cq20_
      obtain ⟨nq21_, hn_nq21_⟩ : ∃ n : Nat, n = 1140 * 0 + 20 + 280 * nq6_ := ⟨_, rfl⟩
      have hx_rq19_ : rq19_.toInt = (nq21_ : Int) := by have : (0 : Int32).toInt = 0 := rfl; omega
      refine lv_iload_n hx hb dX10_isSigned_27 rfl (lv_at hl 2 rfl) ?_
      obtain ⟨nq22_, hn_nq22_⟩ : ∃ n : Nat, pt.toInt = (n : Int) := ⟨(pt.toInt).toNat, by omega⟩
      refine goI hK hH (runV (As := [.int rq19_, .int pt]) (rest := []) hC hK hH (c_X10_hasSigned (xn := nq21_) (t := 0) (b := nq6_) (ptn := nq22_) hc_h hn_h hc_al hn_al ht_mt ht_pa ht_li (by exact hR_f) (by decide) (by omega) (by have : (0 : Int32).toInt = 0 := rfl; omega) (by omega) (by omega) (by omega)) mlX10_66 (rcvM hK hH hc_h rfl) ⟨⟨Nat.le_of_ble_eq_true rfl, Nat.le_of_ble_eq_true rfl⟩, Nat.le_of_ble_eq_true rfl, Nat.le_of_ble_eq_true rfl⟩ rfl hl.1 rfl (Nat.le_of_ble_eq_true rfl) dX10_isSigned_28) (fun rq25_ Mq23_ Tq24_ Hq_ lcq_ hP hz hH => ?_)
      try dsimp only at hP
      obtain ⟨(⟨cq26_, er_rq25_⟩ | ⟨cq27_, er_rq25_⟩), eT, eM⟩ := hP
      · skip
        have eT := eT.symm; subst eT
        have er_rq25_ := er_rq25_.symm; subst er_rq25_
        have eM := eM.symm; subst eM
        have cq26_ : sgnF f nq21_ nq22_ := cq26_
        refine jif_eq (tgt := 38) hx hb dX10_isSigned_31 (by decide) (fun cq28_ => absurd cq28_ (by decide)) (fun cq28_ => ?_)
        refine lv_iconst (v := 1) hx hb dX10_isSigned_34 (by decide) ?_
        refine lv_goto (tgt := 39) hx hb dX10_isSigned_35 (by decide) ?_
        exact ret_z hC hr hlk hK hH (by first | exact Or.inl rfl | exact Or.inr rfl | assumption) (⟨Or.inl (⟨by omega, rfl⟩), rfl, rfl⟩) (Nat.le_of_ble_eq_true rfl) (Nat.le_of_ble_eq_true rfl) dX10_isSigned_39
      · skip
        have eT := eT.symm; subst eT
        have er_rq25_ := er_rq25_.symm; subst er_rq25_
        have eM := eM.symm; subst eM
        have cq27_ : ¬ sgnF f nq21_ nq22_ := cq27_
        refine jif_eq (tgt := 38) hx hb dX10_isSigned_31 (by decide) (fun cq29_ => ?_) (fun cq29_ => absurd cq29_ (by decide))
        refine lv_iconst (v := 0) hx hb dX10_isSigned_38 (by decide) ?_
        exact ret_z hC hr hlk hK hH (by first | exact Or.inl rfl | exact Or.inr rfl | assumption) (⟨Or.inr (rfl), rfl, rfl⟩) (Nat.le_of_ble_eq_true rfl) (Nat.le_of_ble_eq_true rfl) dX10_isSigned_39
    · skip
      have eT := eT.symm; subst eT
      have er_rq14_ := er_rq14_.symm; subst er_rq14_
      have eM := eM.symm; subst eM
      refine jif_eq (tgt := 38) hx hb dX10_isSigned_18 (by decide) (fun cq30_ => ?_) (fun cq30_ => absurd cq30_ (by decide))
      refine lv_iconst (v := 0) hx hb dX10_isSigned_38 (by decide) ?_
      exact ret_z hC hr hlk hK hH (by first | exact Or.inl rfl | exact Or.inr rfl | assumption) (⟨Or.inr (rfl), rfl, rfl⟩) (Nat.le_of_ble_eq_true rfl) (Nat.le_of_ble_eq_true rfl) dX10_isSigned_39
  · skip
    have eT := eT.symm; subst eT
    have er_rq3_ := er_rq3_.symm; subst er_rq3_
    have eM := eM.symm; subst eM
    refine jif_eq (tgt := 38) hx hb dX10_isSigned_5 (by decide) (fun cq31_ => ?_) (fun cq31_ => absurd cq31_ (by decide))
    refine lv_iconst (v := 0) hx hb dX10_isSigned_38 (by decide) ?_
    exact ret_z hC hr hlk hK hH (by first | exact Or.inl rfl | exact Or.inr rfl | assumption) (⟨Or.inr (rfl), rfl, rfl⟩) (Nat.le_of_ble_eq_true rfl) (Nat.le_of_ble_eq_true rfl) dX10_isSigned_39
set_option maxHeartbeats 4000000 in
set_option maxRecDepth 100000 in
theorem c_X10_defends {l : Launch} {D : va_G} {kA : Nat → ClassId} {M : mM} {T : mT} {sz : Nat} {h al mt ii pa li : Nat} {ta fpm sm nx tk pl ln wr : Int32} {va : Int64} {f : Nat → Int32} {bi pt re : Int32} (hc_h : M h = some (.inr (8, [.ref al, .ref mt, .ref ii, .int ta, .int fpm, .ref pa, .int sm, .int nx, .int tk, .int pl, .int ln, .long va, .int wr, .ref li]))) (hn_h : T h = none) (hc_al : M al = some (.inl (kA 0, 7506, .inl f))) (hn_al : T al = none) (ht_mt : T mt = some 11) (ht_pa : T pa = some 13) (ht_li : T li = some 14) (hR_f : Rng f) : mCi l yX10_defends cX10_defends 6 (some .int) 4 0 0 D kA M T sz [.ref h, .int bi, .int pt, .int re] (fun r u => ∃ g : Nat → Int32, (Rng g ∧ Ke f g) ∧ (u.1 al = some (.inl (kA 0, 7506, .inl g))) ∧ u.2 = T ∧ (∀ q, FrK T q → q ≠ al → u.1 q = M q)) := by
  unfold mCi
  refine start_W (by decide) (Nat.le_of_ble_eq_true rfl) ?_
  intro p e s m below meth c ls hC hr hlk hnm hK hH hsz hl
  have hx := hC.1
  have hb := hC.2.1
  have hl : lv_has ls 6 [(0, .ref h), (1, .int bi), (2, .int pt), (3, .int re)] := hl
  have hF : ∀ q, FrK T q → q ≠ al → M q = M q := fun q _ _ => rfl
  have n_h_al : h ≠ al := neM hc_h hc_al (by simp)
  have n_al_h : al ≠ h := neM hc_al hc_h (by simp)
  have hK_f : Ke f f := Ke.rf
  refine lv_aload_n hx hb dX10_defends_0 rfl (lv_at hl 0 rfl) ?_
  refine lv_iload_n hx hb dX10_defends_1 rfl (lv_at hl 1 rfl) ?_
  refine lv_iload_n hx hb dX10_defends_2 rfl (lv_at hl 2 rfl) ?_
  refine goI hK hH (runV (As := [.int bi, .int pt]) (rest := []) hC hK hH (c_X10_isSigned hc_h hn_h hc_al hn_al ht_mt ht_pa ht_li (by exact hR_f)) mlX10_143 (rcvM hK hH hc_h rfl) ⟨⟨Nat.le_of_ble_eq_true rfl, Nat.le_of_ble_eq_true rfl⟩, Nat.le_of_ble_eq_true rfl, Nat.le_of_ble_eq_true rfl⟩ rfl hl.1 rfl (Nat.le_of_ble_eq_true rfl) dX10_defends_3) (fun rq3_ Mq1_ Tq2_ Hq_ lcq_ hP hz hH => ?_)
  try dsimp only at hP
  obtain ⟨(⟨cq4_, er_rq3_⟩ | er_rq3_), eT, eM⟩ := hP
  · skip
    have eT := eT.symm; subst eT
    have er_rq3_ := er_rq3_.symm; subst er_rq3_
    have eM := eM.symm; subst eM
    have cq4_ : 0 ≤ bi.toInt ∧ bi.toInt ≤ 3 ∧ 0 ≤ pt.toInt ∧ pt.toInt ≤ 13 := cq4_
    refine jif_ne (tgt := 12) hx hb dX10_defends_6 (by decide) (fun cq5_ => ?_) (fun cq5_ => absurd cq5_ (by decide))
    refine lv_iconst (v := 0) hx hb dX10_defends_12 (by decide) ?_
    refine lv_iload_n hx hb dX10_defends_13 rfl (lv_at hl 1 rfl) ?_
    obtain ⟨nq6_, hn_nq6_⟩ : ∃ n : Nat, bi.toInt = (n : Int) := ⟨(bi.toInt).toNat, by omega⟩
    refine goI hK hH (runS (As := [.int 0, .int bi]) (rest := []) hC hK hH (c_X10_at (by decide) (by omega)) mlX10_109 ⟨⟨Nat.le_of_ble_eq_true rfl, Nat.le_of_ble_eq_true rfl⟩, Nat.le_of_ble_eq_true rfl, Nat.le_of_ble_eq_true rfl⟩ rfl hl.1 rfl (Nat.le_of_ble_eq_true rfl) dX10_defends_14) (fun rq9_ Mq7_ Tq8_ Hq_ lcq_ hP hz hH => ?_)
    try dsimp only at hP
    obtain ⟨(⟨cq10_, ⟨l_rq9_, g_rq9_⟩⟩), eT, eM⟩ := hP
    have eT := eT.symm; subst eT
    have eM := eM.symm; subst eM
    have cq10_ : rq9_.toInt = (0 : Int) + 20 + 280 * bi.toInt := cq10_
    obtain ⟨nq11_, hn_nq11_⟩ : ∃ n : Nat, n = 1140 * 0 + 20 + 280 * nq6_ := ⟨_, rfl⟩
    have hx_rq9_ : rq9_.toInt = (nq11_ : Int) := by have : (0 : Int32).toInt = 0 := rfl; omega
    refine lv_iload_n hx hb dX10_defends_17 rfl (lv_at hl 2 rfl) ?_
    obtain ⟨nq12_, hn_nq12_⟩ : ∃ n : Nat, pt.toInt = (n : Int) := ⟨(pt.toInt).toNat, by omega⟩
    refine goI hK hH (runS (As := [.int rq9_, .int pt]) (rest := []) hC hK hH (c_X10_partyAt (by omega) (by omega)) mlX10_56 ⟨⟨Nat.le_of_ble_eq_true rfl, Nat.le_of_ble_eq_true rfl⟩, Nat.le_of_ble_eq_true rfl, Nat.le_of_ble_eq_true rfl⟩ rfl hl.1 rfl (Nat.le_of_ble_eq_true rfl) dX10_defends_18) (fun rq15_ Mq13_ Tq14_ Hq_ lcq_ hP hz hH => ?_)
    try dsimp only at hP
    obtain ⟨(⟨cq16_, ⟨l_rq15_, g_rq15_⟩⟩), eT, eM⟩ := hP
    have eT := eT.symm; subst eT
    have eM := eM.symm; subst eM
    have cq16_ : rq15_.toInt = rq9_.toInt + 184 + 6 * pt.toInt := cq16_
    have hx_rq15_ : rq15_.toInt = ((nq11_ + 184 + 6 * nq12_ : Nat) : Int) := by omega
    refine lv_istore (lv' := [(4, .int rq15_), (0, .ref h), (1, .int bi), (2, .int pt), (3, .int re)]) hx hb dX10_defends_21 hl (by decide) rfl (fun ls hl => ?_)
    refine lv_iload_n hx hb dX10_defends_23 rfl (lv_at hl 4 rfl) ?_
    refine jif_eq (tgt := 31) hx hb dX10_defends_24 (by decide) (fun cq17_ => ?_) (fun cq17_ => ?_)
    · skip
      have cq17_ : re.toInt = 0 := cq17_
      refine lv_iconst (v := 2) hx hb dX10_defends_31 (by decide) ?_
      refine lv_istore (lv' := [(5, .int 2), (4, .int rq15_), (0, .ref h), (1, .int bi), (2, .int pt), (3, .int re)]) hx hb dX10_defends_32 hl (by decide) rfl (fun ls hl => ?_)
      refine lv_aload_n hx hb dX10_defends_34 rfl (lv_at hl 2 rfl) ?_
      refine xg hC hK hH flX10_7 hc_h rfl dX10_defends_35 ?_
      refine lv_iload hx hb dX10_defends_38 (lv_at hl 1 rfl) ?_
      refine lv_iconst (v := 3) hx hb dX10_defends_40 (by decide) ?_
      refine lv_iadd hx hb dX10_defends_41 ?_
      refine lv_topi (fun zq18_ e_zq18_ => ?_)
      have h_zq18_ : zq18_.toInt = rq15_.toInt + 3 := by rw [e_zq18_, iAdd (by have := iRg rq15_; have : (3 : Int32).toInt = 3 := rfl; omega) (by have := iRg rq15_; have : (3 : Int32).toInt = 3 := rfl; omega)]; rfl
      refine xild hC hK hH hc_al (iIn (by omega) (by omega)) dX10_defends_42 ?_
      refine lv_topi (fun xq19_ e_xq19_ => ?_)
      have k_xq19_ : xq19_ = f (nq11_ + 184 + 6 * nq12_ + 3) := by rw [e_xq19_, clE (n := nq11_ + 184 + 6 * nq12_ + 3) (by omega)]
      have kt_xq19_ : xq19_.toInt = (f (nq11_ + 184 + 6 * nq12_ + 3)).toInt := by rw [k_xq19_]
      refine lv_iload hx hb dX10_defends_43 (lv_at hl 0 rfl) ?_
      refine lv_iand hx hb dX10_defends_45 ?_
      refine lv_topi (fun zq20_ e_zq20_ => ?_)
      have kt_zq20_ : zq20_.toInt = (f (nq11_ + 184 + 6 * nq12_ + 3) &&& 2).toInt := by rw [e_zq20_, k_xq19_]
      refine jif_le (tgt := 52) hx hb dX10_defends_46 (by decide) (fun cq21_ => ?_) (fun cq21_ => ?_)
      · skip
        have cq21_ : zq20_.toInt ≤ 0 := cq21_
        refine lv_aload_n hx hb dX10_defends_52 rfl (lv_at hl 2 rfl) ?_
        refine xg hC hK hH flX10_7 hc_h rfl dX10_defends_53 ?_
        refine lv_iload hx hb dX10_defends_56 (lv_at hl 1 rfl) ?_
        refine lv_iconst (v := 3) hx hb dX10_defends_58 (by decide) ?_
        refine lv_iadd hx hb dX10_defends_59 ?_
        refine lv_cst (v := zq18_) e_zq18_.symm ?_
        refine lv_dup2_11 hx hb dX10_defends_60 rfl rfl ?_
        refine xild hC hK hH hc_al (iIn (by omega) (by omega)) dX10_defends_61 ?_
        refine lv_topi (fun xq22_ e_xq22_ => ?_)
        have k_xq22_ : xq22_ = f (nq11_ + 184 + 6 * nq12_ + 3) := by rw [e_xq22_, clE (n := nq11_ + 184 + 6 * nq12_ + 3) (by omega)]
        have kt_xq22_ : xq22_.toInt = (f (nq11_ + 184 + 6 * nq12_ + 3)).toInt := by rw [k_xq22_]
        refine lv_iload hx hb dX10_defends_62 (lv_at hl 0 rfl) ?_
        refine lv_ior hx hb dX10_defends_64 ?_
        refine lv_topi (fun zq23_ e_zq23_ => ?_)
        refine yist (x := zq23_) hC hK hH hc_al (noT hn_al) (iIn (by omega) (by omega)) dX10_defends_65 (fun Hq_ lcq_ Mq24_ hc_al hfr hH => ?_)
        have hc_al : Mq24_ al = some (.inl (kA 0, 7506, .inl (upd f (Int32.toNatClampNeg zq18_) zq23_))) := hc_al
        have hc_h : Mq24_ h = some (.inr (8, [.ref al, .ref mt, .ref ii, .int ta, .int fpm, .ref pa, .int sm, .int nx, .int tk, .int pl, .int ln, .long va, .int wr, .ref li])) := (hfr h n_h_al).trans hc_h
        have hF : ∀ q, FrK T q → q ≠ al → Mq24_ q = M q := fun q hq h0 => (hfr q h0).trans (hF q hq h0)
        obtain ⟨gq25_, e_gq25_⟩ : ∃ g : Nat → Int32, g = upd f (Int32.toNatClampNeg zq18_) zq23_ := ⟨_, rfl⟩
        rw [← e_gq25_] at hc_al
        have hR_gq25_ : Rng gq25_ := by rw [e_gq25_]; exact hR_f.uX (t := 0) (b := nq6_) (xn := nq11_) (by omega) (by omega) (by omega) (by have := iCl (x := zq18_) (by omega); omega) (by have := iCl (x := zq18_) (by omega); omega) (by have := iCl (x := zq18_) (by omega); omega)
        have hK_gq25_ : Ke f gq25_ := by rw [e_gq25_]; exact hK_f.up (by have := iCl (x := zq18_) (by omega); omega)
        refine lv_iconst (v := 0) hx hb dX10_defends_66 (by decide) ?_
        exact ret_i hC hr hlk hK hH (⟨gq25_, ⟨hR_gq25_, hK_gq25_⟩, hc_al, rfl, hF⟩) (Nat.le_of_ble_eq_true rfl) (Nat.le_of_ble_eq_true rfl) dX10_defends_67
      · skip
        have cq21_ : 0 < zq20_.toInt := cq21_
        refine lv_bipush (v := 31) hx hb dX10_defends_49 (by decide) ?_
        exact ret_i hC hr hlk hK hH (⟨f, ⟨hR_f, hK_f⟩, hc_al, rfl, hF⟩) (Nat.le_of_ble_eq_true rfl) (Nat.le_of_ble_eq_true rfl) dX10_defends_51
    · skip
      have cq17_ : re.toInt ≠ 0 := cq17_
      refine lv_iconst (v := 1) hx hb dX10_defends_27 (by decide) ?_
      refine lv_goto (tgt := 32) hx hb dX10_defends_28 (by decide) ?_
      refine lv_istore (lv' := [(5, .int 1), (4, .int rq15_), (0, .ref h), (1, .int bi), (2, .int pt), (3, .int re)]) hx hb dX10_defends_32 hl (by decide) rfl (fun ls hl => ?_)
      refine lv_aload_n hx hb dX10_defends_34 rfl (lv_at hl 2 rfl) ?_
      refine xg hC hK hH flX10_7 hc_h rfl dX10_defends_35 ?_
      refine lv_iload hx hb dX10_defends_38 (lv_at hl 1 rfl) ?_
      refine lv_iconst (v := 3) hx hb dX10_defends_40 (by decide) ?_
      refine lv_iadd hx hb dX10_defends_41 ?_
      refine lv_topi (fun zq26_ e_zq26_ => ?_)
      have h_zq26_ : zq26_.toInt = rq15_.toInt + 3 := by rw [e_zq26_, iAdd (by have := iRg rq15_; have : (3 : Int32).toInt = 3 := rfl; omega) (by have := iRg rq15_; have : (3 : Int32).toInt = 3 := rfl; omega)]; rfl
      refine xild hC hK hH hc_al (iIn (by omega) (by omega)) dX10_defends_42 ?_
      refine lv_topi (fun xq27_ e_xq27_ => ?_)
      have k_xq27_ : xq27_ = f (nq11_ + 184 + 6 * nq12_ + 3) := by rw [e_xq27_, clE (n := nq11_ + 184 + 6 * nq12_ + 3) (by omega)]
      have kt_xq27_ : xq27_.toInt = (f (nq11_ + 184 + 6 * nq12_ + 3)).toInt := by rw [k_xq27_]
      refine lv_iload hx hb dX10_defends_43 (lv_at hl 0 rfl) ?_
      refine lv_iand hx hb dX10_defends_45 ?_
      refine lv_topi (fun zq28_ e_zq28_ => ?_)
      have kt_zq28_ : zq28_.toInt = (f (nq11_ + 184 + 6 * nq12_ + 3) &&& 1).toInt := by rw [e_zq28_, k_xq27_]
      refine jif_le (tgt := 52) hx hb dX10_defends_46 (by decide) (fun cq29_ => ?_) (fun cq29_ => ?_)
      · skip
        have cq29_ : zq28_.toInt ≤ 0 := cq29_
        refine lv_aload_n hx hb dX10_defends_52 rfl (lv_at hl 2 rfl) ?_
        refine xg hC hK hH flX10_7 hc_h rfl dX10_defends_53 ?_
        refine lv_iload hx hb dX10_defends_56 (lv_at hl 1 rfl) ?_
        refine lv_iconst (v := 3) hx hb dX10_defends_58 (by decide) ?_
        refine lv_iadd hx hb dX10_defends_59 ?_
        refine lv_cst (v := zq26_) e_zq26_.symm ?_
        refine lv_dup2_11 hx hb dX10_defends_60 rfl rfl ?_
        refine xild hC hK hH hc_al (iIn (by omega) (by omega)) dX10_defends_61 ?_
        refine lv_topi (fun xq30_ e_xq30_ => ?_)
        have k_xq30_ : xq30_ = f (nq11_ + 184 + 6 * nq12_ + 3) := by rw [e_xq30_, clE (n := nq11_ + 184 + 6 * nq12_ + 3) (by omega)]
        have kt_xq30_ : xq30_.toInt = (f (nq11_ + 184 + 6 * nq12_ + 3)).toInt := by rw [k_xq30_]
        refine lv_iload hx hb dX10_defends_62 (lv_at hl 0 rfl) ?_
        refine lv_ior hx hb dX10_defends_64 ?_
        refine lv_topi (fun zq31_ e_zq31_ => ?_)
        refine yist (x := zq31_) hC hK hH hc_al (noT hn_al) (iIn (by omega) (by omega)) dX10_defends_65 (fun Hq_ lcq_ Mq32_ hc_al hfr hH => ?_)
        have hc_al : Mq32_ al = some (.inl (kA 0, 7506, .inl (upd f (Int32.toNatClampNeg zq26_) zq31_))) := hc_al
        have hc_h : Mq32_ h = some (.inr (8, [.ref al, .ref mt, .ref ii, .int ta, .int fpm, .ref pa, .int sm, .int nx, .int tk, .int pl, .int ln, .long va, .int wr, .ref li])) := (hfr h n_h_al).trans hc_h
        have hF : ∀ q, FrK T q → q ≠ al → Mq32_ q = M q := fun q hq h0 => (hfr q h0).trans (hF q hq h0)
        obtain ⟨gq33_, e_gq33_⟩ : ∃ g : Nat → Int32, g = upd f (Int32.toNatClampNeg zq26_) zq31_ := ⟨_, rfl⟩
        rw [← e_gq33_] at hc_al
        have hR_gq33_ : Rng gq33_ := by rw [e_gq33_]; exact hR_f.uX (t := 0) (b := nq6_) (xn := nq11_) (by omega) (by omega) (by omega) (by have := iCl (x := zq26_) (by omega); omega) (by have := iCl (x := zq26_) (by omega); omega) (by have := iCl (x := zq26_) (by omega); omega)
        have hK_gq33_ : Ke f gq33_ := by rw [e_gq33_]; exact hK_f.up (by have := iCl (x := zq26_) (by omega); omega)
        refine lv_iconst (v := 0) hx hb dX10_defends_66 (by decide) ?_
        exact ret_i hC hr hlk hK hH (⟨gq33_, ⟨hR_gq33_, hK_gq33_⟩, hc_al, rfl, hF⟩) (Nat.le_of_ble_eq_true rfl) (Nat.le_of_ble_eq_true rfl) dX10_defends_67
      · skip
        have cq29_ : 0 < zq28_.toInt := cq29_
        refine lv_bipush (v := 31) hx hb dX10_defends_49 (by decide) ?_
        exact ret_i hC hr hlk hK hH (⟨f, ⟨hR_f, hK_f⟩, hc_al, rfl, hF⟩) (Nat.le_of_ble_eq_true rfl) (Nat.le_of_ble_eq_true rfl) dX10_defends_51
  · skip
    have eT := eT.symm; subst eT
    have er_rq3_ := er_rq3_.symm; subst er_rq3_
    have eM := eM.symm; subst eM
    refine jif_ne (tgt := 12) hx hb dX10_defends_6 (by decide) (fun cq34_ => absurd cq34_ (by decide)) (fun cq34_ => ?_)
    refine lv_bipush (v := 30) hx hb dX10_defends_9 (by decide) ?_
    exact ret_i hC hr hlk hK hH (⟨f, ⟨hR_f, hK_f⟩, hc_al, rfl, hF⟩) (Nat.le_of_ble_eq_true rfl) (Nat.le_of_ble_eq_true rfl) dX10_defends_11
set_option maxHeartbeats 4000000 in
set_option maxRecDepth 100000 in
theorem c_X10_presents {l : Launch} {D : va_G} {kA : Nat → ClassId} {M : mM} {T : mT} {sz : Nat} {h al mt ii pa li : Nat} {ta fpm sm nx tk pl ln wr : Int32} {va : Int64} {f : Nat → Int32} {bi : Int32} (hc_h : M h = some (.inr (8, [.ref al, .ref mt, .ref ii, .int ta, .int fpm, .ref pa, .int sm, .int nx, .int tk, .int pl, .int ln, .long va, .int wr, .ref li]))) (hn_h : T h = none) (hc_al : M al = some (.inl (kA 0, 7506, .inl f))) (hn_al : T al = none) (ht_mt : T mt = some 11) (ht_pa : T pa = some 13) (ht_li : T li = some 14) (hR_f : Rng f) : mCi l yX10_presents cX10_presents 3 (some .int) 6 0 0 D kA M T sz [.ref h, .int bi] (fun r u => ∃ g : Nat → Int32, (Rng g ∧ Ke f g) ∧ (u.1 al = some (.inl (kA 0, 7506, .inl g))) ∧ u.2 = T ∧ (∀ q, FrK T q → q ≠ al → u.1 q = M q)) := by
  unfold mCi
  refine start_W (by decide) (Nat.le_of_ble_eq_true rfl) ?_
  intro p e s m below meth c ls hC hr hlk hnm hK hH hsz hl
  have hx := hC.1
  have hb := hC.2.1
  have hl : lv_has ls 3 [(0, .ref h), (1, .int bi)] := hl
  have hF : ∀ q, FrK T q → q ≠ al → M q = M q := fun q _ _ => rfl
  have n_h_al : h ≠ al := neM hc_h hc_al (by simp)
  have n_al_h : al ≠ h := neM hc_al hc_h (by simp)
  have hK_f : Ke f f := Ke.rf
  refine lv_aload_n hx hb dX10_presents_0 rfl (lv_at hl 0 rfl) ?_
  refine lv_iload_n hx hb dX10_presents_1 rfl (lv_at hl 1 rfl) ?_
  refine goI hK hH (runV (As := [.int bi]) (rest := []) hC hK hH (c_X10_isBill hc_h hn_h hc_al hn_al ht_mt ht_pa ht_li (by exact hR_f)) mlX10_116 (rcvM hK hH hc_h rfl) ⟨⟨Nat.le_of_ble_eq_true rfl, Nat.le_of_ble_eq_true rfl⟩, Nat.le_of_ble_eq_true rfl, Nat.le_of_ble_eq_true rfl⟩ rfl hl.1 rfl (Nat.le_of_ble_eq_true rfl) dX10_presents_2) (fun rq3_ Mq1_ Tq2_ Hq_ lcq_ hP hz hH => ?_)
  try dsimp only at hP
  obtain ⟨(⟨cq4_, er_rq3_⟩ | er_rq3_), eT, eM⟩ := hP
  · skip
    have eT := eT.symm; subst eT
    have er_rq3_ := er_rq3_.symm; subst er_rq3_
    have eM := eM.symm; subst eM
    have cq4_ : 0 ≤ bi.toInt ∧ bi.toInt ≤ 3 := cq4_
    refine jif_ne (tgt := 11) hx hb dX10_presents_5 (by decide) (fun cq5_ => ?_) (fun cq5_ => absurd cq5_ (by decide))
    refine lv_iconst (v := 0) hx hb dX10_presents_11 (by decide) ?_
    refine lv_iload_n hx hb dX10_presents_12 rfl (lv_at hl 1 rfl) ?_
    obtain ⟨nq6_, hn_nq6_⟩ : ∃ n : Nat, bi.toInt = (n : Int) := ⟨(bi.toInt).toNat, by omega⟩
    refine goI hK hH (runS (As := [.int 0, .int bi]) (rest := []) hC hK hH (c_X10_at (by decide) (by omega)) mlX10_109 ⟨⟨Nat.le_of_ble_eq_true rfl, Nat.le_of_ble_eq_true rfl⟩, Nat.le_of_ble_eq_true rfl, Nat.le_of_ble_eq_true rfl⟩ rfl hl.1 rfl (Nat.le_of_ble_eq_true rfl) dX10_presents_13) (fun rq9_ Mq7_ Tq8_ Hq_ lcq_ hP hz hH => ?_)
    try dsimp only at hP
    obtain ⟨(⟨cq10_, ⟨l_rq9_, g_rq9_⟩⟩), eT, eM⟩ := hP
    have eT := eT.symm; subst eT
    have eM := eM.symm; subst eM
    have cq10_ : rq9_.toInt = (0 : Int) + 20 + 280 * bi.toInt := cq10_
    obtain ⟨nq11_, hn_nq11_⟩ : ∃ n : Nat, n = 1140 * 0 + 20 + 280 * nq6_ := ⟨_, rfl⟩
    have hx_rq9_ : rq9_.toInt = (nq11_ : Int) := by have : (0 : Int32).toInt = 0 := rfl; omega
    refine lv_istore_n (lv' := [(2, .int rq9_), (0, .ref h), (1, .int bi)]) hx hb dX10_presents_16 rfl hl (by decide) rfl (fun ls hl => ?_)
    refine lv_aload_n hx hb dX10_presents_17 rfl (lv_at hl 1 rfl) ?_
    refine xg hC hK hH flX10_7 hc_h rfl dX10_presents_18 ?_
    refine lv_iconst (v := 0) hx hb dX10_presents_21 (by decide) ?_
    refine xild hC hK hH hc_al (iIn (by decide) (by decide)) dX10_presents_22 ?_
    refine lv_topi (fun xq12_ e_xq12_ => ?_)
    have kt_xq12_ : xq12_.toInt = (f 0).toInt := by rw [e_xq12_]; rfl
    refine lv_aload_n hx hb dX10_presents_23 rfl (lv_at hl 1 rfl) ?_
    refine xg hC hK hH flX10_7 hc_h rfl dX10_presents_24 ?_
    refine lv_iload_n hx hb dX10_presents_27 rfl (lv_at hl 0 rfl) ?_
    refine lv_iconst (v := 4) hx hb dX10_presents_28 (by decide) ?_
    refine lv_iadd hx hb dX10_presents_29 ?_
    refine lv_topi (fun zq13_ e_zq13_ => ?_)
    have h_zq13_ : zq13_.toInt = rq9_.toInt + 4 := by rw [e_zq13_, iAdd (by have := iRg rq9_; have : (4 : Int32).toInt = 4 := rfl; omega) (by have := iRg rq9_; have : (4 : Int32).toInt = 4 := rfl; omega)]; rfl
    refine xild hC hK hH hc_al (iIn (by omega) (by omega)) dX10_presents_30 ?_
    refine lv_topi (fun xq14_ e_xq14_ => ?_)
    have k_xq14_ : xq14_ = f (nq11_ + 4) := by rw [e_xq14_, clE (n := nq11_ + 4) (by omega)]
    have kt_xq14_ : xq14_.toInt = (f (nq11_ + 4)).toInt := by rw [k_xq14_]
    refine jic_lt (tgt := 68) hx hb dX10_presents_31 (by decide) (fun cq15_ => ?_) (fun cq15_ => ?_)
    · skip
      have cq15_ : xq12_.toInt < xq14_.toInt := cq15_
      refine lv_bipush (v := 31) hx hb dX10_presents_68 (by decide) ?_
      exact ret_i hC hr hlk hK hH (⟨f, ⟨hR_f, hK_f⟩, hc_al, rfl, hF⟩) (Nat.le_of_ble_eq_true rfl) (Nat.le_of_ble_eq_true rfl) dX10_presents_70
    · skip
      have cq15_ : xq14_.toInt ≤ xq12_.toInt := cq15_
      refine lv_aload_n hx hb dX10_presents_34 rfl (lv_at hl 1 rfl) ?_
      refine xg hC hK hH flX10_7 hc_h rfl dX10_presents_35 ?_
      refine lv_iload_n hx hb dX10_presents_38 rfl (lv_at hl 0 rfl) ?_
      refine lv_bipush (v := 10) hx hb dX10_presents_39 (by decide) ?_
      refine lv_iadd hx hb dX10_presents_41 ?_
      refine lv_topi (fun zq16_ e_zq16_ => ?_)
      have h_zq16_ : zq16_.toInt = rq9_.toInt + 10 := by rw [e_zq16_, iAdd (by have := iRg rq9_; have : (10 : Int32).toInt = 10 := rfl; omega) (by have := iRg rq9_; have : (10 : Int32).toInt = 10 := rfl; omega)]; rfl
      refine xild hC hK hH hc_al (iIn (by omega) (by omega)) dX10_presents_42 ?_
      refine lv_topi (fun xq17_ e_xq17_ => ?_)
      have k_xq17_ : xq17_ = f (nq11_ + 10) := by rw [e_xq17_, clE (n := nq11_ + 10) (by omega)]
      have kt_xq17_ : xq17_.toInt = (f (nq11_ + 10)).toInt := by rw [k_xq17_]
      refine lv_iconst (v := 1) hx hb dX10_presents_43 (by decide) ?_
      refine jic_eq (tgt := 68) hx hb dX10_presents_44 (by decide) (fun cq18_ => ?_) (fun cq18_ => ?_)
      · skip
        have cq18_ : xq17_.toInt = 1 := cq18_
        refine lv_bipush (v := 31) hx hb dX10_presents_68 (by decide) ?_
        exact ret_i hC hr hlk hK hH (⟨f, ⟨hR_f, hK_f⟩, hc_al, rfl, hF⟩) (Nat.le_of_ble_eq_true rfl) (Nat.le_of_ble_eq_true rfl) dX10_presents_70
      · skip
        have cq18_ : xq17_.toInt ≠ 1 := cq18_
        refine lv_aload_n hx hb dX10_presents_47 rfl (lv_at hl 1 rfl) ?_
        refine xg hC hK hH flX10_7 hc_h rfl dX10_presents_48 ?_
        refine lv_iload_n hx hb dX10_presents_51 rfl (lv_at hl 0 rfl) ?_
        refine lv_bipush (v := 9) hx hb dX10_presents_52 (by decide) ?_
        refine lv_iadd hx hb dX10_presents_54 ?_
        refine lv_topi (fun zq19_ e_zq19_ => ?_)
        have h_zq19_ : zq19_.toInt = rq9_.toInt + 9 := by rw [e_zq19_, iAdd (by have := iRg rq9_; have : (9 : Int32).toInt = 9 := rfl; omega) (by have := iRg rq9_; have : (9 : Int32).toInt = 9 := rfl; omega)]; rfl
        refine xild hC hK hH hc_al (iIn (by omega) (by omega)) dX10_presents_55 ?_
        refine lv_topi (fun xq20_ e_xq20_ => ?_)
        have k_xq20_ : xq20_ = f (nq11_ + 9) := by rw [e_xq20_, clE (n := nq11_ + 9) (by omega)]
        have kt_xq20_ : xq20_.toInt = (f (nq11_ + 9)).toInt := by rw [k_xq20_]
        refine lv_iconst (v := -1) hx hb dX10_presents_56 (by decide) ?_
        refine jic_ne (tgt := 68) hx hb dX10_presents_57 (by decide) (fun cq21_ => ?_) (fun cq21_ => ?_)
        · skip
          have cq21_ : xq20_.toInt ≠ (-1) := cq21_
          refine lv_bipush (v := 31) hx hb dX10_presents_68 (by decide) ?_
          exact ret_i hC hr hlk hK hH (⟨f, ⟨hR_f, hK_f⟩, hc_al, rfl, hF⟩) (Nat.le_of_ble_eq_true rfl) (Nat.le_of_ble_eq_true rfl) dX10_presents_70
        · skip
          have cq21_ : xq20_.toInt = (-1) := cq21_
          refine lv_aload_n hx hb dX10_presents_60 rfl (lv_at hl 1 rfl) ?_
          refine lv_iload_n hx hb dX10_presents_61 rfl (lv_at hl 0 rfl) ?_
          refine goI hK hH (runV (As := [.int rq9_]) (rest := []) hC hK hH (c_X10_hasTitle (xn := nq11_) (t := 0) (b := nq6_) hc_h hn_h hc_al hn_al ht_mt ht_pa ht_li (by exact hR_f) (by decide) (by omega) (by have : (0 : Int32).toInt = 0 := rfl; omega) (by omega)) mlX10_70 (rcvM hK hH hc_h rfl) ⟨⟨Nat.le_of_ble_eq_true rfl, Nat.le_of_ble_eq_true rfl⟩, Nat.le_of_ble_eq_true rfl, Nat.le_of_ble_eq_true rfl⟩ rfl hl.1 rfl (Nat.le_of_ble_eq_true rfl) dX10_presents_62) (fun rq24_ Mq22_ Tq23_ Hq_ lcq_ hP hz hH => ?_)
          try dsimp only at hP
          obtain ⟨(⟨cq25_, er_rq24_⟩ | ⟨cq26_, er_rq24_⟩), eT, eM⟩ := hP
          · skip
            have eT := eT.symm; subst eT
            have er_rq24_ := er_rq24_.symm; subst er_rq24_
            have eM := eM.symm; subst eM
            have cq25_ : titF f nq11_ := cq25_
            refine jif_ne (tgt := 71) hx hb dX10_presents_65 (by decide) (fun cq27_ => ?_) (fun cq27_ => absurd cq27_ (by decide))
            refine lv_aload_n hx hb dX10_presents_71 rfl (lv_at hl 1 rfl) ?_
            refine lv_iconst (v := 0) hx hb dX10_presents_72 (by decide) ?_
            refine lv_iload_n hx hb dX10_presents_73 rfl (lv_at hl 0 rfl) ?_
            refine lv_iconst (v := 0) hx hb dX10_presents_74 (by decide) ?_
            refine goI hK hH (runV (As := [.int 0, .int rq9_, .int 0]) (rest := []) hC hK hH (c_X10_pays (xn := nq11_) (t := 0) (b := nq6_) (ptn := 0) hc_h hn_h hc_al hn_al ht_mt ht_pa ht_li (by exact hR_f) (by decide) (by omega) (by have : (0 : Int32).toInt = 0 := rfl; omega) (by omega) (by decide) (by decide) (by decide)) mlX10_150 (rcvM hK hH hc_h rfl) ⟨⟨Nat.le_of_ble_eq_true rfl, Nat.le_of_ble_eq_true rfl⟩, Nat.le_of_ble_eq_true rfl, Nat.le_of_ble_eq_true rfl⟩ rfl hl.1 rfl (Nat.le_of_ble_eq_true rfl) dX10_presents_75) (fun rq30_ Mq28_ Tq29_ Hq_ lcq_ hP hz hH => ?_)
            try dsimp only at hP
            obtain ⟨gq33_, h_gq33_, (⟨cq31_, er_rq30_, hx_al⟩ | ⟨cq32_, ⟨l_rq30_, g_rq30_⟩, hx_al⟩), eT, hfr⟩ := hP
            · skip
              have eT := eT.symm; subst eT
              have er_rq30_ := er_rq30_.symm; subst er_rq30_
              have hc_h : Mq28_ h = some (.inr (8, [.ref al, .ref mt, .ref ii, .int ta, .int fpm, .ref pa, .int sm, .int nx, .int tk, .int pl, .int ln, .long va, .int wr, .ref li])) := (hfr h (Or.inl hn_h) n_h_al).trans hc_h
              have hc_al : Mq28_ al = some (.inl (kA 0, 7506, .inl gq33_)) := hx_al
              have hF : ∀ q, FrK T q → q ≠ al → Mq28_ q = M q := fun q hq h0 => (hfr q hq  h0).trans (hF q hq h0)
              have hR_gq33_ : Rng gq33_ := h_gq33_.1
              have hK_gq33_ : Ke f gq33_ := hK_f.tr h_gq33_.2.1
              have hE_gq33_ : (Lia f 0 nq11_ 0 → CshF f 0 nq11_ 0 → PayP f gq33_ nq11_ 0) := h_gq33_.2.2
              have cq31_ : Lia f 0 nq11_ 0 ∧ CshF f 0 nq11_ 0 := cq31_
              refine jif_ne (tgt := 83) hx hb dX10_presents_78 (by decide) (fun cq34_ => absurd cq34_ (by decide)) (fun cq34_ => ?_)
              refine lv_iconst (v := 0) hx hb dX10_presents_81 (by decide) ?_
              exact ret_i hC hr hlk hK hH (⟨gq33_, ⟨hR_gq33_, hK_gq33_⟩, hc_al, rfl, hF⟩) (Nat.le_of_ble_eq_true rfl) (Nat.le_of_ble_eq_true rfl) dX10_presents_82
            · skip
              have eT := eT.symm; subst eT
              have hc_h : Mq28_ h = some (.inr (8, [.ref al, .ref mt, .ref ii, .int ta, .int fpm, .ref pa, .int sm, .int nx, .int tk, .int pl, .int ln, .long va, .int wr, .ref li])) := (hfr h (Or.inl hn_h) n_h_al).trans hc_h
              have hc_al : Mq28_ al = some (.inl (kA 0, 7506, .inl gq33_)) := hx_al
              have hF : ∀ q, FrK T q → q ≠ al → Mq28_ q = M q := fun q hq h0 => (hfr q hq  h0).trans (hF q hq h0)
              have hR_gq33_ : Rng gq33_ := h_gq33_.1
              have hK_gq33_ : Ke f gq33_ := hK_f.tr h_gq33_.2.1
              have hE_gq33_ : (Lia f 0 nq11_ 0 → CshF f 0 nq11_ 0 → PayP f gq33_ nq11_ 0) := h_gq33_.2.2
              have cq32_ : ¬ (Lia f 0 nq11_ 0 ∧ CshF f 0 nq11_ 0) := cq32_
              refine jif_ne (tgt := 83) hx hb dX10_presents_78 (by decide) (fun cq35_ => ?_) (fun cq35_ => absurd cq35_ (by have := iRg rq30_; have : (0 : Int32).toInt = 0 := rfl; omega))
              have cq35_ : rq30_.toInt ≠ 0 := cq35_
              refine lv_aload_n hx hb dX10_presents_83 rfl (lv_at hl 1 rfl) ?_
              refine xg hC hK hH flX10_7 hc_h rfl dX10_presents_84 ?_
              refine lv_iload_n hx hb dX10_presents_87 rfl (lv_at hl 0 rfl) ?_
              refine lv_bipush (v := 9) hx hb dX10_presents_88 (by decide) ?_
              refine lv_iadd hx hb dX10_presents_90 ?_
              refine lv_cst (v := zq19_) e_zq19_.symm ?_
              refine lv_aload_n hx hb dX10_presents_91 rfl (lv_at hl 1 rfl) ?_
              refine xg hC hK hH flX10_7 hc_h rfl dX10_presents_92 ?_
              refine lv_iconst (v := 0) hx hb dX10_presents_95 (by decide) ?_
              refine xild hC hK hH hc_al (iIn (by decide) (by decide)) dX10_presents_96 ?_
              refine lv_topi (fun xq36_ e_xq36_ => ?_)
              have kt_xq36_ : xq36_.toInt = (gq33_ 0).toInt := by rw [e_xq36_]; rfl
              refine yist (x := xq36_) hC hK hH hc_al (noT hn_al) (iIn (by omega) (by omega)) dX10_presents_97 (fun Hq_ lcq_ Mq37_ hc_al hfr hH => ?_)
              have hc_al : Mq37_ al = some (.inl (kA 0, 7506, .inl (upd gq33_ (Int32.toNatClampNeg zq19_) xq36_))) := hc_al
              have hc_h : Mq37_ h = some (.inr (8, [.ref al, .ref mt, .ref ii, .int ta, .int fpm, .ref pa, .int sm, .int nx, .int tk, .int pl, .int ln, .long va, .int wr, .ref li])) := (hfr h n_h_al).trans hc_h
              have hF : ∀ q, FrK T q → q ≠ al → Mq37_ q = M q := fun q hq h0 => (hfr q h0).trans (hF q hq h0)
              obtain ⟨gq38_, e_gq38_⟩ : ∃ g : Nat → Int32, g = upd gq33_ (Int32.toNatClampNeg zq19_) xq36_ := ⟨_, rfl⟩
              rw [← e_gq38_] at hc_al
              have hR_gq38_ : Rng gq38_ := by rw [e_gq38_]; exact hR_gq33_.uX (t := 0) (b := nq6_) (xn := nq11_) (by omega) (by omega) (by omega) (by have := iCl (x := zq19_) (by omega); omega) (by have := iCl (x := zq19_) (by omega); omega) (by have := iCl (x := zq19_) (by omega); omega)
              have hK_gq38_ : Ke f gq38_ := by rw [e_gq38_]; exact hK_gq33_.up (by have := iCl (x := zq19_) (by omega); omega)
              refine lv_iconst (v := 1) hx hb dX10_presents_98 (by decide) ?_
              exact ret_i hC hr hlk hK hH (⟨gq38_, ⟨hR_gq38_, hK_gq38_⟩, hc_al, rfl, hF⟩) (Nat.le_of_ble_eq_true rfl) (Nat.le_of_ble_eq_true rfl) dX10_presents_99
          · skip
            have eT := eT.symm; subst eT
            have er_rq24_ := er_rq24_.symm; subst er_rq24_
            have eM := eM.symm; subst eM
            have cq26_ : ¬ titF f nq11_ := cq26_
            refine jif_ne (tgt := 71) hx hb dX10_presents_65 (by decide) (fun cq39_ => absurd cq39_ (by decide)) (fun cq39_ => ?_)
            refine lv_bipush (v := 31) hx hb dX10_presents_68 (by decide) ?_
            exact ret_i hC hr hlk hK hH (⟨f, ⟨hR_f, hK_f⟩, hc_al, rfl, hF⟩) (Nat.le_of_ble_eq_true rfl) (Nat.le_of_ble_eq_true rfl) dX10_presents_70
  · skip
    have eT := eT.symm; subst eT
    have er_rq3_ := er_rq3_.symm; subst er_rq3_
    have eM := eM.symm; subst eM
    refine jif_ne (tgt := 11) hx hb dX10_presents_5 (by decide) (fun cq40_ => absurd cq40_ (by decide)) (fun cq40_ => ?_)
    refine lv_bipush (v := 30) hx hb dX10_presents_8 (by decide) ?_
    exact ret_i hC hr hlk hK hH (⟨f, ⟨hR_f, hK_f⟩, hc_al, rfl, hF⟩) (Nat.le_of_ble_eq_true rfl) (Nat.le_of_ble_eq_true rfl) dX10_presents_10
set_option maxHeartbeats 4000000 in
set_option maxRecDepth 100000 in
theorem c_X10_notifies {l : Launch} {D : va_G} {kA : Nat → ClassId} {M : mM} {T : mT} {sz : Nat} {h al mt ii pa li : Nat} {ta fpm sm nx tk pl ln wr : Int32} {va : Int64} {f : Nat → Int32} {bi fr to : Int32} (hc_h : M h = some (.inr (8, [.ref al, .ref mt, .ref ii, .int ta, .int fpm, .ref pa, .int sm, .int nx, .int tk, .int pl, .int ln, .long va, .int wr, .ref li]))) (hn_h : T h = none) (hc_al : M al = some (.inl (kA 0, 7506, .inl f))) (hn_al : T al = none) (ht_mt : T mt = some 11) (ht_pa : T pa = some 13) (ht_li : T li = some 14) (hR_f : Rng f) : mCi l yX10_notifies cX10_notifies 6 (some .int) 4 0 0 D kA M T sz [.ref h, .int bi, .int fr, .int to] (fun r u => ∃ g : Nat → Int32, (Rng g ∧ Ke f g) ∧ (u.1 al = some (.inl (kA 0, 7506, .inl g))) ∧ u.2 = T ∧ (∀ q, FrK T q → q ≠ al → u.1 q = M q)) := by
  unfold mCi
  refine start_W (by decide) (Nat.le_of_ble_eq_true rfl) ?_
  intro p e s m below meth c ls hC hr hlk hnm hK hH hsz hl
  have hx := hC.1
  have hb := hC.2.1
  have hl : lv_has ls 6 [(0, .ref h), (1, .int bi), (2, .int fr), (3, .int to)] := hl
  have hF : ∀ q, FrK T q → q ≠ al → M q = M q := fun q _ _ => rfl
  have n_h_al : h ≠ al := neM hc_h hc_al (by simp)
  have n_al_h : al ≠ h := neM hc_al hc_h (by simp)
  have hK_f : Ke f f := Ke.rf
  refine lv_aload_n hx hb dX10_notifies_0 rfl (lv_at hl 0 rfl) ?_
  refine lv_iload_n hx hb dX10_notifies_1 rfl (lv_at hl 1 rfl) ?_
  refine lv_iload_n hx hb dX10_notifies_2 rfl (lv_at hl 3 rfl) ?_
  refine goI hK hH (runV (As := [.int bi, .int to]) (rest := []) hC hK hH (c_X10_isSigned hc_h hn_h hc_al hn_al ht_mt ht_pa ht_li (by exact hR_f)) mlX10_143 (rcvM hK hH hc_h rfl) ⟨⟨Nat.le_of_ble_eq_true rfl, Nat.le_of_ble_eq_true rfl⟩, Nat.le_of_ble_eq_true rfl, Nat.le_of_ble_eq_true rfl⟩ rfl hl.1 rfl (Nat.le_of_ble_eq_true rfl) dX10_notifies_3) (fun rq3_ Mq1_ Tq2_ Hq_ lcq_ hP hz hH => ?_)
  try dsimp only at hP
  obtain ⟨(⟨cq4_, er_rq3_⟩ | er_rq3_), eT, eM⟩ := hP
  · skip
    have eT := eT.symm; subst eT
    have er_rq3_ := er_rq3_.symm; subst er_rq3_
    have eM := eM.symm; subst eM
    have cq4_ : 0 ≤ bi.toInt ∧ bi.toInt ≤ 3 ∧ 0 ≤ to.toInt ∧ to.toInt ≤ 13 := cq4_
    refine jif_eq (tgt := 13) hx hb dX10_notifies_6 (by decide) (fun cq5_ => absurd cq5_ (by decide)) (fun cq5_ => ?_)
    refine lv_iload_n hx hb dX10_notifies_9 rfl (lv_at hl 3 rfl) ?_
    refine jif_ne (tgt := 16) hx hb dX10_notifies_10 (by decide) (fun cq6_ => ?_) (fun cq6_ => ?_)
    · skip
      have cq6_ : to.toInt ≠ 0 := cq6_
      refine lv_iconst (v := 0) hx hb dX10_notifies_16 (by decide) ?_
      refine lv_iload_n hx hb dX10_notifies_17 rfl (lv_at hl 1 rfl) ?_
      obtain ⟨nq7_, hn_nq7_⟩ : ∃ n : Nat, bi.toInt = (n : Int) := ⟨(bi.toInt).toNat, by omega⟩
      refine goI hK hH (runS (As := [.int 0, .int bi]) (rest := []) hC hK hH (c_X10_at (by decide) (by omega)) mlX10_109 ⟨⟨Nat.le_of_ble_eq_true rfl, Nat.le_of_ble_eq_true rfl⟩, Nat.le_of_ble_eq_true rfl, Nat.le_of_ble_eq_true rfl⟩ rfl hl.1 rfl (Nat.le_of_ble_eq_true rfl) dX10_notifies_18) (fun rq10_ Mq8_ Tq9_ Hq_ lcq_ hP hz hH => ?_)
      try dsimp only at hP
      obtain ⟨(⟨cq11_, ⟨l_rq10_, g_rq10_⟩⟩), eT, eM⟩ := hP
      have eT := eT.symm; subst eT
      have eM := eM.symm; subst eM
      have cq11_ : rq10_.toInt = (0 : Int) + 20 + 280 * bi.toInt := cq11_
      obtain ⟨nq12_, hn_nq12_⟩ : ∃ n : Nat, n = 1140 * 0 + 20 + 280 * nq7_ := ⟨_, rfl⟩
      have hx_rq10_ : rq10_.toInt = (nq12_ : Int) := by have : (0 : Int32).toInt = 0 := rfl; omega
      refine lv_istore (lv' := [(4, .int rq10_), (0, .ref h), (1, .int bi), (2, .int fr), (3, .int to)]) hx hb dX10_notifies_21 hl (by decide) rfl (fun ls hl => ?_)
      refine lv_iload_n hx hb dX10_notifies_23 rfl (lv_at hl 3 rfl) ?_
      refine lv_iconst (v := -1) hx hb dX10_notifies_24 (by decide) ?_
      refine jic_eq (tgt := 42) hx hb dX10_notifies_25 (by decide) (fun cq13_ => ?_) (fun cq13_ => ?_)
      · skip
        have cq13_ : fr.toInt = (-1) := cq13_
        refine lv_iload_n hx hb dX10_notifies_42 rfl (lv_at hl 4 rfl) ?_
        refine lv_iload_n hx hb dX10_notifies_43 rfl (lv_at hl 3 rfl) ?_
        refine lv_iconst (v := -1) hx hb dX10_notifies_44 (by decide) ?_
        refine jic_ne (tgt := 57) hx hb dX10_notifies_45 (by decide) (fun cq14_ => absurd cq14_ (by have := iRg fr; have : (-1 : Int32).toInt = -1 := rfl; omega)) (fun cq14_ => ?_)
        have cq14_ : fr.toInt = (-1) := cq14_
        refine lv_aload_n hx hb dX10_notifies_48 rfl (lv_at hl 1 rfl) ?_
        refine lv_iload hx hb dX10_notifies_49 (lv_at hl 0 rfl) ?_
        refine goI hK hH (runV (As := [.int rq10_]) (rest := [.int to]) hC hK hH (c_X10_rank (xn := nq12_) (t := 0) (b := nq7_) hc_h hn_h hc_al hn_al ht_mt ht_pa ht_li (by exact hR_f) (by decide) (by omega) (by have : (0 : Int32).toInt = 0 := rfl; omega) (by omega)) mlX10_77 (rcvM hK hH hc_h rfl) ⟨⟨Nat.le_of_ble_eq_true rfl, Nat.le_of_ble_eq_true rfl⟩, Nat.le_of_ble_eq_true rfl, Nat.le_of_ble_eq_true rfl⟩ rfl hl.1 rfl (Nat.le_of_ble_eq_true rfl) dX10_notifies_51) (fun rq17_ Mq15_ Tq16_ Hq_ lcq_ hP hz hH => ?_)
        try dsimp only at hP
        obtain ⟨(⟨cq18_, ⟨l_rq17_, g_rq17_⟩⟩), eT, eM⟩ := hP
        have eT := eT.symm; subst eT
        have eM := eM.symm; subst eM
        have cq18_ : rq17_.toInt = (rankF f nq12_ : Int) := cq18_
        refine lv_goto (tgt := 58) hx hb dX10_notifies_54 (by decide) ?_
        refine jic_lt (tgt := 64) hx hb dX10_notifies_58 (by decide) (fun cq19_ => ?_) (fun cq19_ => ?_)
        · skip
          have cq19_ : to.toInt < rq17_.toInt := cq19_
          refine lv_aload_n hx hb dX10_notifies_64 rfl (lv_at hl 1 rfl) ?_
          refine xg hC hK hH flX10_7 hc_h rfl dX10_notifies_65 ?_
          refine lv_iload hx hb dX10_notifies_68 (lv_at hl 0 rfl) ?_
          refine lv_bipush (v := 9) hx hb dX10_notifies_70 (by decide) ?_
          refine lv_iadd hx hb dX10_notifies_72 ?_
          refine lv_topi (fun zq20_ e_zq20_ => ?_)
          have h_zq20_ : zq20_.toInt = rq10_.toInt + 9 := by rw [e_zq20_, iAdd (by have := iRg rq10_; have : (9 : Int32).toInt = 9 := rfl; omega) (by have := iRg rq10_; have : (9 : Int32).toInt = 9 := rfl; omega)]; rfl
          refine xild hC hK hH hc_al (iIn (by omega) (by omega)) dX10_notifies_73 ?_
          refine lv_topi (fun xq21_ e_xq21_ => ?_)
          have k_xq21_ : xq21_ = f (nq12_ + 9) := by rw [e_xq21_, clE (n := nq12_ + 9) (by omega)]
          have kt_xq21_ : xq21_.toInt = (f (nq12_ + 9)).toInt := by rw [k_xq21_]
          refine lv_iconst (v := -1) hx hb dX10_notifies_74 (by decide) ?_
          refine jic_eq (tgt := 95) hx hb dX10_notifies_75 (by decide) (fun cq22_ => ?_) (fun cq22_ => ?_)
          · skip
            have cq22_ : xq21_.toInt = (-1) := cq22_
            refine lv_bipush (v := 31) hx hb dX10_notifies_95 (by decide) ?_
            exact ret_i hC hr hlk hK hH (⟨f, ⟨hR_f, hK_f⟩, hc_al, rfl, hF⟩) (Nat.le_of_ble_eq_true rfl) (Nat.le_of_ble_eq_true rfl) dX10_notifies_97
          · skip
            have cq22_ : xq21_.toInt ≠ (-1) := cq22_
            refine lv_aload_n hx hb dX10_notifies_78 rfl (lv_at hl 1 rfl) ?_
            refine xg hC hK hH flX10_7 hc_h rfl dX10_notifies_79 ?_
            refine lv_iload hx hb dX10_notifies_82 (lv_at hl 0 rfl) ?_
            refine lv_iload_n hx hb dX10_notifies_84 rfl (lv_at hl 4 rfl) ?_
            obtain ⟨nq23_, hn_nq23_⟩ : ∃ n : Nat, to.toInt = (n : Int) := ⟨(to.toInt).toNat, by omega⟩
            refine goI hK hH (runS (As := [.int rq10_, .int to]) (rest := [.ref al]) hC hK hH (c_X10_partyAt (by omega) (by omega)) mlX10_56 ⟨⟨Nat.le_of_ble_eq_true rfl, Nat.le_of_ble_eq_true rfl⟩, Nat.le_of_ble_eq_true rfl, Nat.le_of_ble_eq_true rfl⟩ rfl hl.1 rfl (Nat.le_of_ble_eq_true rfl) dX10_notifies_85) (fun rq26_ Mq24_ Tq25_ Hq_ lcq_ hP hz hH => ?_)
            try dsimp only at hP
            obtain ⟨(⟨cq27_, ⟨l_rq26_, g_rq26_⟩⟩), eT, eM⟩ := hP
            have eT := eT.symm; subst eT
            have eM := eM.symm; subst eM
            have cq27_ : rq26_.toInt = rq10_.toInt + 184 + 6 * to.toInt := cq27_
            have hx_rq26_ : rq26_.toInt = ((nq12_ + 184 + 6 * nq23_ : Nat) : Int) := by omega
            refine lv_iconst (v := 0) hx hb dX10_notifies_88 (by decide) ?_
            refine lv_iadd hx hb dX10_notifies_89 ?_
            refine lv_topi (fun zq28_ e_zq28_ => ?_)
            have h_zq28_ : zq28_.toInt = rq26_.toInt + 0 := by rw [e_zq28_, iAdd (by have := iRg rq26_; have : (0 : Int32).toInt = 0 := rfl; omega) (by have := iRg rq26_; have : (0 : Int32).toInt = 0 := rfl; omega)]; rfl
            refine xild hC hK hH hc_al (iIn (by omega) (by omega)) dX10_notifies_90 ?_
            refine lv_topi (fun xq29_ e_xq29_ => ?_)
            have k_xq29_ : xq29_ = f (nq12_ + 184 + 6 * nq23_) := by rw [e_xq29_, clE (n := nq12_ + 184 + 6 * nq23_) (by omega)]
            have kt_xq29_ : xq29_.toInt = (f (nq12_ + 184 + 6 * nq23_)).toInt := by rw [k_xq29_]
            refine lv_iconst (v := -1) hx hb dX10_notifies_91 (by decide) ?_
            refine jic_eq (tgt := 98) hx hb dX10_notifies_92 (by decide) (fun cq30_ => ?_) (fun cq30_ => ?_)
            · skip
              have cq30_ : xq29_.toInt = (-1) := cq30_
              refine lv_iload_n hx hb dX10_notifies_98 rfl (lv_at hl 3 rfl) ?_
              refine lv_iconst (v := -1) hx hb dX10_notifies_99 (by decide) ?_
              refine jic_ne (tgt := 116) hx hb dX10_notifies_100 (by decide) (fun cq31_ => absurd cq31_ (by have := iRg fr; have : (-1 : Int32).toInt = -1 := rfl; omega)) (fun cq31_ => ?_)
              have cq31_ : fr.toInt = (-1) := cq31_
              refine lv_aload_n hx hb dX10_notifies_103 rfl (lv_at hl 1 rfl) ?_
              refine xg hC hK hH flX10_7 hc_h rfl dX10_notifies_104 ?_
              refine lv_iload hx hb dX10_notifies_107 (lv_at hl 0 rfl) ?_
              refine lv_bipush (v := 9) hx hb dX10_notifies_109 (by decide) ?_
              refine lv_iadd hx hb dX10_notifies_111 ?_
              refine lv_cst (v := zq20_) e_zq20_.symm ?_
              refine xild hC hK hH hc_al (iIn (by omega) (by omega)) dX10_notifies_112 ?_
              refine lv_topi (fun xq32_ e_xq32_ => ?_)
              have k_xq32_ : xq32_ = f (nq12_ + 9) := by rw [e_xq32_, clE (n := nq12_ + 9) (by omega)]
              have kt_xq32_ : xq32_.toInt = (f (nq12_ + 9)).toInt := by rw [k_xq32_]
              refine lv_goto (tgt := 129) hx hb dX10_notifies_113 (by decide) ?_
              refine lv_istore (lv' := [(5, .int xq32_), (4, .int rq10_), (0, .ref h), (1, .int bi), (2, .int fr), (3, .int to)]) hx hb dX10_notifies_129 hl (by decide) rfl (fun ls hl => ?_)
              refine lv_iload hx hb dX10_notifies_131 (lv_at hl 0 rfl) ?_
              refine lv_iconst (v := -1) hx hb dX10_notifies_133 (by decide) ?_
              refine jic_eq (tgt := 161) hx hb dX10_notifies_134 (by decide) (fun cq33_ => ?_) (fun cq33_ => ?_)
              · skip
                have cq33_ : xq32_.toInt = (-1) := cq33_
                refine lv_bipush (v := 31) hx hb dX10_notifies_161 (by decide) ?_
                exact ret_i hC hr hlk hK hH (⟨f, ⟨hR_f, hK_f⟩, hc_al, rfl, hF⟩) (Nat.le_of_ble_eq_true rfl) (Nat.le_of_ble_eq_true rfl) dX10_notifies_163
              · skip
                have cq33_ : xq32_.toInt ≠ (-1) := cq33_
                refine lv_iload_n hx hb dX10_notifies_137 rfl (lv_at hl 4 rfl) ?_
                refine lv_iconst (v := -1) hx hb dX10_notifies_138 (by decide) ?_
                refine jic_ne (tgt := 151) hx hb dX10_notifies_139 (by decide) (fun cq34_ => absurd cq34_ (by have := iRg fr; have : (-1 : Int32).toInt = -1 := rfl; omega)) (fun cq34_ => ?_)
                have cq34_ : fr.toInt = (-1) := cq34_
                refine lv_aload_n hx hb dX10_notifies_142 rfl (lv_at hl 2 rfl) ?_
                refine lv_iload hx hb dX10_notifies_143 (lv_at hl 1 rfl) ?_
                refine goI hK hH (runV (As := [.int rq10_]) (rest := []) hC hK hH (c_X10_hasTitle (xn := nq12_) (t := 0) (b := nq7_) hc_h hn_h hc_al hn_al ht_mt ht_pa ht_li (by exact hR_f) (by decide) (by omega) (by have : (0 : Int32).toInt = 0 := rfl; omega) (by omega)) mlX10_70 (rcvM hK hH hc_h rfl) ⟨⟨Nat.le_of_ble_eq_true rfl, Nat.le_of_ble_eq_true rfl⟩, Nat.le_of_ble_eq_true rfl, Nat.le_of_ble_eq_true rfl⟩ rfl hl.1 rfl (Nat.le_of_ble_eq_true rfl) dX10_notifies_145) (fun rq37_ Mq35_ Tq36_ Hq_ lcq_ hP hz hH => ?_)
                try dsimp only at hP
                obtain ⟨(⟨cq38_, er_rq37_⟩ | ⟨cq39_, er_rq37_⟩), eT, eM⟩ := hP
                · skip
                  have eT := eT.symm; subst eT
                  have er_rq37_ := er_rq37_.symm; subst er_rq37_
                  have eM := eM.symm; subst eM
                  have cq38_ : titF f nq12_ := cq38_
                  refine jif_eq (tgt := 161) hx hb dX10_notifies_148 (by decide) (fun cq40_ => absurd cq40_ (by decide)) (fun cq40_ => ?_)
                  refine lv_aload_n hx hb dX10_notifies_151 rfl (lv_at hl 2 rfl) ?_
                  refine lv_iconst (v := 0) hx hb dX10_notifies_152 (by decide) ?_
                  refine lv_iload hx hb dX10_notifies_153 (lv_at hl 0 rfl) ?_
                  refine goI hK hH (runV (As := [.int 0, .int xq32_]) (rest := []) hC hK hH (c_X10_isInTime (t := 0) hc_h hn_h hc_al hn_al ht_mt ht_pa ht_li (by exact hR_f) (by decide) (by decide)) mlX10_74 (rcvM hK hH hc_h rfl) ⟨⟨Nat.le_of_ble_eq_true rfl, Nat.le_of_ble_eq_true rfl⟩, Nat.le_of_ble_eq_true rfl, Nat.le_of_ble_eq_true rfl⟩ rfl hl.1 rfl (Nat.le_of_ble_eq_true rfl) dX10_notifies_155) (fun rq43_ Mq41_ Tq42_ Hq_ lcq_ hP hz hH => ?_)
                  try dsimp only at hP
                  obtain ⟨(er_rq43_ | er_rq43_), eT, eM⟩ := hP
                  · skip
                    have eT := eT.symm; subst eT
                    have er_rq43_ := er_rq43_.symm; subst er_rq43_
                    have eM := eM.symm; subst eM
                    refine jif_ne (tgt := 164) hx hb dX10_notifies_158 (by decide) (fun cq44_ => ?_) (fun cq44_ => absurd cq44_ (by decide))
                    refine lv_aload_n hx hb dX10_notifies_164 rfl (lv_at hl 2 rfl) ?_
                    refine xg hC hK hH flX10_7 hc_h rfl dX10_notifies_165 ?_
                    refine lv_iload hx hb dX10_notifies_168 (lv_at hl 1 rfl) ?_
                    refine lv_iload_n hx hb dX10_notifies_170 rfl (lv_at hl 5 rfl) ?_
                    refine goI hK hH (runS (As := [.int rq10_, .int to]) (rest := [.ref al]) hC hK hH (c_X10_partyAt (by omega) (by omega)) mlX10_56 ⟨⟨Nat.le_of_ble_eq_true rfl, Nat.le_of_ble_eq_true rfl⟩, Nat.le_of_ble_eq_true rfl, Nat.le_of_ble_eq_true rfl⟩ rfl hl.1 rfl (Nat.le_of_ble_eq_true rfl) dX10_notifies_171) (fun rq47_ Mq45_ Tq46_ Hq_ lcq_ hP hz hH => ?_)
                    try dsimp only at hP
                    obtain ⟨(⟨cq48_, ⟨l_rq47_, g_rq47_⟩⟩), eT, eM⟩ := hP
                    have eT := eT.symm; subst eT
                    have eM := eM.symm; subst eM
                    have cq48_ : rq47_.toInt = rq10_.toInt + 184 + 6 * to.toInt := cq48_
                    have hx_rq47_ : rq47_.toInt = ((nq12_ + 184 + 6 * nq23_ : Nat) : Int) := by omega
                    refine lv_iconst (v := 0) hx hb dX10_notifies_174 (by decide) ?_
                    refine lv_iadd hx hb dX10_notifies_175 ?_
                    refine lv_topi (fun zq49_ e_zq49_ => ?_)
                    have h_zq49_ : zq49_.toInt = rq47_.toInt + 0 := by rw [e_zq49_, iAdd (by have := iRg rq47_; have : (0 : Int32).toInt = 0 := rfl; omega) (by have := iRg rq47_; have : (0 : Int32).toInt = 0 := rfl; omega)]; rfl
                    refine lv_aload_n hx hb dX10_notifies_176 rfl (lv_at hl 2 rfl) ?_
                    refine xg hC hK hH flX10_7 hc_h rfl dX10_notifies_177 ?_
                    refine lv_iconst (v := 0) hx hb dX10_notifies_180 (by decide) ?_
                    refine xild hC hK hH hc_al (iIn (by decide) (by decide)) dX10_notifies_181 ?_
                    refine lv_topi (fun xq50_ e_xq50_ => ?_)
                    have kt_xq50_ : xq50_.toInt = (f 0).toInt := by rw [e_xq50_]; rfl
                    refine yist (x := xq50_) hC hK hH hc_al (noT hn_al) (iIn (by omega) (by omega)) dX10_notifies_182 (fun Hq_ lcq_ Mq51_ hc_al hfr hH => ?_)
                    have hc_al : Mq51_ al = some (.inl (kA 0, 7506, .inl (upd f (Int32.toNatClampNeg zq49_) xq50_))) := hc_al
                    have hc_h : Mq51_ h = some (.inr (8, [.ref al, .ref mt, .ref ii, .int ta, .int fpm, .ref pa, .int sm, .int nx, .int tk, .int pl, .int ln, .long va, .int wr, .ref li])) := (hfr h n_h_al).trans hc_h
                    have hF : ∀ q, FrK T q → q ≠ al → Mq51_ q = M q := fun q hq h0 => (hfr q h0).trans (hF q hq h0)
                    obtain ⟨gq52_, e_gq52_⟩ : ∃ g : Nat → Int32, g = upd f (Int32.toNatClampNeg zq49_) xq50_ := ⟨_, rfl⟩
                    rw [← e_gq52_] at hc_al
                    have hR_gq52_ : Rng gq52_ := by rw [e_gq52_]; exact hR_f.uX (t := 0) (b := nq7_) (xn := nq12_) (by omega) (by omega) (by omega) (by have := iCl (x := zq49_) (by omega); omega) (by have := iCl (x := zq49_) (by omega); omega) (by have := iCl (x := zq49_) (by omega); omega)
                    have hK_gq52_ : Ke f gq52_ := by rw [e_gq52_]; exact hK_f.up (by have := iCl (x := zq49_) (by omega); omega)
                    refine lv_iconst (v := 0) hx hb dX10_notifies_183 (by decide) ?_
                    exact ret_i hC hr hlk hK hH (⟨gq52_, ⟨hR_gq52_, hK_gq52_⟩, hc_al, rfl, hF⟩) (Nat.le_of_ble_eq_true rfl) (Nat.le_of_ble_eq_true rfl) dX10_notifies_184
                  · skip
                    have eT := eT.symm; subst eT
                    have er_rq43_ := er_rq43_.symm; subst er_rq43_
                    have eM := eM.symm; subst eM
                    refine jif_ne (tgt := 164) hx hb dX10_notifies_158 (by decide) (fun cq53_ => absurd cq53_ (by decide)) (fun cq53_ => ?_)
                    refine lv_bipush (v := 31) hx hb dX10_notifies_161 (by decide) ?_
                    exact ret_i hC hr hlk hK hH (⟨f, ⟨hR_f, hK_f⟩, hc_al, rfl, hF⟩) (Nat.le_of_ble_eq_true rfl) (Nat.le_of_ble_eq_true rfl) dX10_notifies_163
                · skip
                  have eT := eT.symm; subst eT
                  have er_rq37_ := er_rq37_.symm; subst er_rq37_
                  have eM := eM.symm; subst eM
                  have cq39_ : ¬ titF f nq12_ := cq39_
                  refine jif_eq (tgt := 161) hx hb dX10_notifies_148 (by decide) (fun cq54_ => ?_) (fun cq54_ => absurd cq54_ (by decide))
                  refine lv_bipush (v := 31) hx hb dX10_notifies_161 (by decide) ?_
                  exact ret_i hC hr hlk hK hH (⟨f, ⟨hR_f, hK_f⟩, hc_al, rfl, hF⟩) (Nat.le_of_ble_eq_true rfl) (Nat.le_of_ble_eq_true rfl) dX10_notifies_163
            · skip
              have cq30_ : xq29_.toInt ≠ (-1) := cq30_
              refine lv_bipush (v := 31) hx hb dX10_notifies_95 (by decide) ?_
              exact ret_i hC hr hlk hK hH (⟨f, ⟨hR_f, hK_f⟩, hc_al, rfl, hF⟩) (Nat.le_of_ble_eq_true rfl) (Nat.le_of_ble_eq_true rfl) dX10_notifies_97
        · skip
          have cq19_ : rq17_.toInt ≤ to.toInt := cq19_
          refine lv_bipush (v := 30) hx hb dX10_notifies_61 (by decide) ?_
          exact ret_i hC hr hlk hK hH (⟨f, ⟨hR_f, hK_f⟩, hc_al, rfl, hF⟩) (Nat.le_of_ble_eq_true rfl) (Nat.le_of_ble_eq_true rfl) dX10_notifies_63
      · skip
        have cq13_ : fr.toInt ≠ (-1) := cq13_
        refine lv_aload_n hx hb dX10_notifies_28 rfl (lv_at hl 1 rfl) ?_
        refine lv_iload hx hb dX10_notifies_29 (lv_at hl 0 rfl) ?_
        refine lv_iload_n hx hb dX10_notifies_31 rfl (lv_at hl 3 rfl) ?_
        refine goI hK hH (runV (As := [.int rq10_, .int fr]) (rest := []) hC hK hH (c_X10_isParty (xn := nq12_) (t := 0) (b := nq7_) hc_h hn_h hc_al hn_al ht_mt ht_pa ht_li (by exact hR_f) (by decide) (by omega) (by have : (0 : Int32).toInt = 0 := rfl; omega) (by omega)) mlX10_140 (rcvM hK hH hc_h rfl) ⟨⟨Nat.le_of_ble_eq_true rfl, Nat.le_of_ble_eq_true rfl⟩, Nat.le_of_ble_eq_true rfl, Nat.le_of_ble_eq_true rfl⟩ rfl hl.1 rfl (Nat.le_of_ble_eq_true rfl) dX10_notifies_32) (fun rq57_ Mq55_ Tq56_ Hq_ lcq_ hP hz hH => ?_)
        try dsimp only at hP
        obtain ⟨(⟨cq58_, er_rq57_⟩ | er_rq57_), eT, eM⟩ := hP
        · skip
          have eT := eT.symm; subst eT
          have er_rq57_ := er_rq57_.symm; subst er_rq57_
          have eM := eM.symm; subst eM
          have cq58_ : 0 ≤ fr.toInt ∧ fr.toInt ≤ 1 + (f (nq12_ + 8)).toInt ∧ fr.toInt ≤ 13 := cq58_
          refine jif_eq (tgt := 61) hx hb dX10_notifies_35 (by decide) (fun cq59_ => absurd cq59_ (by decide)) (fun cq59_ => ?_)
          refine lv_iload_n hx hb dX10_notifies_38 rfl (lv_at hl 3 rfl) ?_
          refine jif_eq (tgt := 61) hx hb dX10_notifies_39 (by decide) (fun cq60_ => ?_) (fun cq60_ => ?_)
          · skip
            have cq60_ : fr.toInt = 0 := cq60_
            refine lv_bipush (v := 30) hx hb dX10_notifies_61 (by decide) ?_
            exact ret_i hC hr hlk hK hH (⟨f, ⟨hR_f, hK_f⟩, hc_al, rfl, hF⟩) (Nat.le_of_ble_eq_true rfl) (Nat.le_of_ble_eq_true rfl) dX10_notifies_63
          · skip
            have cq60_ : fr.toInt ≠ 0 := cq60_
            refine lv_iload_n hx hb dX10_notifies_42 rfl (lv_at hl 4 rfl) ?_
            refine lv_iload_n hx hb dX10_notifies_43 rfl (lv_at hl 3 rfl) ?_
            refine lv_iconst (v := -1) hx hb dX10_notifies_44 (by decide) ?_
            refine jic_ne (tgt := 57) hx hb dX10_notifies_45 (by decide) (fun cq61_ => ?_) (fun cq61_ => absurd cq61_ (by have := iRg fr; have : (-1 : Int32).toInt = -1 := rfl; omega))
            have cq61_ : fr.toInt ≠ (-1) := cq61_
            refine lv_iload_n hx hb dX10_notifies_57 rfl (lv_at hl 3 rfl) ?_
            refine jic_lt (tgt := 64) hx hb dX10_notifies_58 (by decide) (fun cq62_ => ?_) (fun cq62_ => ?_)
            · skip
              have cq62_ : to.toInt < fr.toInt := cq62_
              refine lv_aload_n hx hb dX10_notifies_64 rfl (lv_at hl 1 rfl) ?_
              refine xg hC hK hH flX10_7 hc_h rfl dX10_notifies_65 ?_
              refine lv_iload hx hb dX10_notifies_68 (lv_at hl 0 rfl) ?_
              refine lv_bipush (v := 9) hx hb dX10_notifies_70 (by decide) ?_
              refine lv_iadd hx hb dX10_notifies_72 ?_
              refine lv_topi (fun zq63_ e_zq63_ => ?_)
              have h_zq63_ : zq63_.toInt = rq10_.toInt + 9 := by rw [e_zq63_, iAdd (by have := iRg rq10_; have : (9 : Int32).toInt = 9 := rfl; omega) (by have := iRg rq10_; have : (9 : Int32).toInt = 9 := rfl; omega)]; rfl
              refine xild hC hK hH hc_al (iIn (by omega) (by omega)) dX10_notifies_73 ?_
              refine lv_topi (fun xq64_ e_xq64_ => ?_)
              have k_xq64_ : xq64_ = f (nq12_ + 9) := by rw [e_xq64_, clE (n := nq12_ + 9) (by omega)]
              have kt_xq64_ : xq64_.toInt = (f (nq12_ + 9)).toInt := by rw [k_xq64_]
              refine lv_iconst (v := -1) hx hb dX10_notifies_74 (by decide) ?_
              refine jic_eq (tgt := 95) hx hb dX10_notifies_75 (by decide) (fun cq65_ => ?_) (fun cq65_ => ?_)
              · skip
                have cq65_ : xq64_.toInt = (-1) := cq65_
                refine lv_bipush (v := 31) hx hb dX10_notifies_95 (by decide) ?_
                exact ret_i hC hr hlk hK hH (⟨f, ⟨hR_f, hK_f⟩, hc_al, rfl, hF⟩) (Nat.le_of_ble_eq_true rfl) (Nat.le_of_ble_eq_true rfl) dX10_notifies_97
              · skip
                have cq65_ : xq64_.toInt ≠ (-1) := cq65_
                refine lv_aload_n hx hb dX10_notifies_78 rfl (lv_at hl 1 rfl) ?_
                refine xg hC hK hH flX10_7 hc_h rfl dX10_notifies_79 ?_
                refine lv_iload hx hb dX10_notifies_82 (lv_at hl 0 rfl) ?_
                refine lv_iload_n hx hb dX10_notifies_84 rfl (lv_at hl 4 rfl) ?_
                obtain ⟨nq66_, hn_nq66_⟩ : ∃ n : Nat, to.toInt = (n : Int) := ⟨(to.toInt).toNat, by omega⟩
                refine goI hK hH (runS (As := [.int rq10_, .int to]) (rest := [.ref al]) hC hK hH (c_X10_partyAt (by omega) (by omega)) mlX10_56 ⟨⟨Nat.le_of_ble_eq_true rfl, Nat.le_of_ble_eq_true rfl⟩, Nat.le_of_ble_eq_true rfl, Nat.le_of_ble_eq_true rfl⟩ rfl hl.1 rfl (Nat.le_of_ble_eq_true rfl) dX10_notifies_85) (fun rq69_ Mq67_ Tq68_ Hq_ lcq_ hP hz hH => ?_)
                try dsimp only at hP
                obtain ⟨(⟨cq70_, ⟨l_rq69_, g_rq69_⟩⟩), eT, eM⟩ := hP
                have eT := eT.symm; subst eT
                have eM := eM.symm; subst eM
                have cq70_ : rq69_.toInt = rq10_.toInt + 184 + 6 * to.toInt := cq70_
                have hx_rq69_ : rq69_.toInt = ((nq12_ + 184 + 6 * nq66_ : Nat) : Int) := by omega
                refine lv_iconst (v := 0) hx hb dX10_notifies_88 (by decide) ?_
                refine lv_iadd hx hb dX10_notifies_89 ?_
                refine lv_topi (fun zq71_ e_zq71_ => ?_)
                have h_zq71_ : zq71_.toInt = rq69_.toInt + 0 := by rw [e_zq71_, iAdd (by have := iRg rq69_; have : (0 : Int32).toInt = 0 := rfl; omega) (by have := iRg rq69_; have : (0 : Int32).toInt = 0 := rfl; omega)]; rfl
                refine xild hC hK hH hc_al (iIn (by omega) (by omega)) dX10_notifies_90 ?_
                refine lv_topi (fun xq72_ e_xq72_ => ?_)
                have k_xq72_ : xq72_ = f (nq12_ + 184 + 6 * nq66_) := by rw [e_xq72_, clE (n := nq12_ + 184 + 6 * nq66_) (by omega)]
                have kt_xq72_ : xq72_.toInt = (f (nq12_ + 184 + 6 * nq66_)).toInt := by rw [k_xq72_]
                refine lv_iconst (v := -1) hx hb dX10_notifies_91 (by decide) ?_
                refine jic_eq (tgt := 98) hx hb dX10_notifies_92 (by decide) (fun cq73_ => ?_) (fun cq73_ => ?_)
                · skip
                  have cq73_ : xq72_.toInt = (-1) := cq73_
                  refine lv_iload_n hx hb dX10_notifies_98 rfl (lv_at hl 3 rfl) ?_
                  refine lv_iconst (v := -1) hx hb dX10_notifies_99 (by decide) ?_
                  refine jic_ne (tgt := 116) hx hb dX10_notifies_100 (by decide) (fun cq74_ => ?_) (fun cq74_ => absurd cq74_ (by have := iRg fr; have : (-1 : Int32).toInt = -1 := rfl; omega))
                  have cq74_ : fr.toInt ≠ (-1) := cq74_
                  refine lv_aload_n hx hb dX10_notifies_116 rfl (lv_at hl 1 rfl) ?_
                  refine xg hC hK hH flX10_7 hc_h rfl dX10_notifies_117 ?_
                  refine lv_iload hx hb dX10_notifies_120 (lv_at hl 0 rfl) ?_
                  refine lv_iload_n hx hb dX10_notifies_122 rfl (lv_at hl 3 rfl) ?_
                  obtain ⟨nq75_, hn_nq75_⟩ : ∃ n : Nat, fr.toInt = (n : Int) := ⟨(fr.toInt).toNat, by omega⟩
                  refine goI hK hH (runS (As := [.int rq10_, .int fr]) (rest := [.ref al]) hC hK hH (c_X10_partyAt (by omega) (by omega)) mlX10_56 ⟨⟨Nat.le_of_ble_eq_true rfl, Nat.le_of_ble_eq_true rfl⟩, Nat.le_of_ble_eq_true rfl, Nat.le_of_ble_eq_true rfl⟩ rfl hl.1 rfl (Nat.le_of_ble_eq_true rfl) dX10_notifies_123) (fun rq78_ Mq76_ Tq77_ Hq_ lcq_ hP hz hH => ?_)
                  try dsimp only at hP
                  obtain ⟨(⟨cq79_, ⟨l_rq78_, g_rq78_⟩⟩), eT, eM⟩ := hP
                  have eT := eT.symm; subst eT
                  have eM := eM.symm; subst eM
                  have cq79_ : rq78_.toInt = rq10_.toInt + 184 + 6 * fr.toInt := cq79_
                  have hx_rq78_ : rq78_.toInt = ((nq12_ + 184 + 6 * nq75_ : Nat) : Int) := by omega
                  refine lv_iconst (v := 0) hx hb dX10_notifies_126 (by decide) ?_
                  refine lv_iadd hx hb dX10_notifies_127 ?_
                  refine lv_topi (fun zq80_ e_zq80_ => ?_)
                  have h_zq80_ : zq80_.toInt = rq78_.toInt + 0 := by rw [e_zq80_, iAdd (by have := iRg rq78_; have : (0 : Int32).toInt = 0 := rfl; omega) (by have := iRg rq78_; have : (0 : Int32).toInt = 0 := rfl; omega)]; rfl
                  refine xild hC hK hH hc_al (iIn (by omega) (by omega)) dX10_notifies_128 ?_
                  refine lv_topi (fun xq81_ e_xq81_ => ?_)
                  have k_xq81_ : xq81_ = f (nq12_ + 184 + 6 * nq75_) := by rw [e_xq81_, clE (n := nq12_ + 184 + 6 * nq75_) (by omega)]
                  have kt_xq81_ : xq81_.toInt = (f (nq12_ + 184 + 6 * nq75_)).toInt := by rw [k_xq81_]
                  refine lv_istore (lv' := [(5, .int xq81_), (4, .int rq10_), (0, .ref h), (1, .int bi), (2, .int fr), (3, .int to)]) hx hb dX10_notifies_129 hl (by decide) rfl (fun ls hl => ?_)
                  refine lv_iload hx hb dX10_notifies_131 (lv_at hl 0 rfl) ?_
                  refine lv_iconst (v := -1) hx hb dX10_notifies_133 (by decide) ?_
                  refine jic_eq (tgt := 161) hx hb dX10_notifies_134 (by decide) (fun cq82_ => ?_) (fun cq82_ => ?_)
                  · skip
                    have cq82_ : xq81_.toInt = (-1) := cq82_
                    refine lv_bipush (v := 31) hx hb dX10_notifies_161 (by decide) ?_
                    exact ret_i hC hr hlk hK hH (⟨f, ⟨hR_f, hK_f⟩, hc_al, rfl, hF⟩) (Nat.le_of_ble_eq_true rfl) (Nat.le_of_ble_eq_true rfl) dX10_notifies_163
                  · skip
                    have cq82_ : xq81_.toInt ≠ (-1) := cq82_
                    refine lv_iload_n hx hb dX10_notifies_137 rfl (lv_at hl 4 rfl) ?_
                    refine lv_iconst (v := -1) hx hb dX10_notifies_138 (by decide) ?_
                    refine jic_ne (tgt := 151) hx hb dX10_notifies_139 (by decide) (fun cq83_ => ?_) (fun cq83_ => absurd cq83_ (by have := iRg fr; have : (-1 : Int32).toInt = -1 := rfl; omega))
                    have cq83_ : fr.toInt ≠ (-1) := cq83_
                    refine lv_aload_n hx hb dX10_notifies_151 rfl (lv_at hl 2 rfl) ?_
                    refine lv_iconst (v := 0) hx hb dX10_notifies_152 (by decide) ?_
                    refine lv_iload hx hb dX10_notifies_153 (lv_at hl 0 rfl) ?_
                    refine goI hK hH (runV (As := [.int 0, .int xq81_]) (rest := []) hC hK hH (c_X10_isInTime (t := 0) hc_h hn_h hc_al hn_al ht_mt ht_pa ht_li (by exact hR_f) (by decide) (by decide)) mlX10_74 (rcvM hK hH hc_h rfl) ⟨⟨Nat.le_of_ble_eq_true rfl, Nat.le_of_ble_eq_true rfl⟩, Nat.le_of_ble_eq_true rfl, Nat.le_of_ble_eq_true rfl⟩ rfl hl.1 rfl (Nat.le_of_ble_eq_true rfl) dX10_notifies_155) (fun rq86_ Mq84_ Tq85_ Hq_ lcq_ hP hz hH => ?_)
                    try dsimp only at hP
                    obtain ⟨(er_rq86_ | er_rq86_), eT, eM⟩ := hP
                    · skip
                      have eT := eT.symm; subst eT
                      have er_rq86_ := er_rq86_.symm; subst er_rq86_
                      have eM := eM.symm; subst eM
                      refine jif_ne (tgt := 164) hx hb dX10_notifies_158 (by decide) (fun cq87_ => ?_) (fun cq87_ => absurd cq87_ (by decide))
                      refine lv_aload_n hx hb dX10_notifies_164 rfl (lv_at hl 2 rfl) ?_
                      refine xg hC hK hH flX10_7 hc_h rfl dX10_notifies_165 ?_
                      refine lv_iload hx hb dX10_notifies_168 (lv_at hl 1 rfl) ?_
                      refine lv_iload_n hx hb dX10_notifies_170 rfl (lv_at hl 5 rfl) ?_
                      refine goI hK hH (runS (As := [.int rq10_, .int to]) (rest := [.ref al]) hC hK hH (c_X10_partyAt (by omega) (by omega)) mlX10_56 ⟨⟨Nat.le_of_ble_eq_true rfl, Nat.le_of_ble_eq_true rfl⟩, Nat.le_of_ble_eq_true rfl, Nat.le_of_ble_eq_true rfl⟩ rfl hl.1 rfl (Nat.le_of_ble_eq_true rfl) dX10_notifies_171) (fun rq90_ Mq88_ Tq89_ Hq_ lcq_ hP hz hH => ?_)
                      try dsimp only at hP
                      obtain ⟨(⟨cq91_, ⟨l_rq90_, g_rq90_⟩⟩), eT, eM⟩ := hP
                      have eT := eT.symm; subst eT
                      have eM := eM.symm; subst eM
                      have cq91_ : rq90_.toInt = rq10_.toInt + 184 + 6 * to.toInt := cq91_
                      have hx_rq90_ : rq90_.toInt = ((nq12_ + 184 + 6 * nq66_ : Nat) : Int) := by omega
                      refine lv_iconst (v := 0) hx hb dX10_notifies_174 (by decide) ?_
                      refine lv_iadd hx hb dX10_notifies_175 ?_
                      refine lv_topi (fun zq92_ e_zq92_ => ?_)
                      have h_zq92_ : zq92_.toInt = rq90_.toInt + 0 := by rw [e_zq92_, iAdd (by have := iRg rq90_; have : (0 : Int32).toInt = 0 := rfl; omega) (by have := iRg rq90_; have : (0 : Int32).toInt = 0 := rfl; omega)]; rfl
                      refine lv_aload_n hx hb dX10_notifies_176 rfl (lv_at hl 2 rfl) ?_
                      refine xg hC hK hH flX10_7 hc_h rfl dX10_notifies_177 ?_
                      refine lv_iconst (v := 0) hx hb dX10_notifies_180 (by decide) ?_
                      refine xild hC hK hH hc_al (iIn (by decide) (by decide)) dX10_notifies_181 ?_
                      refine lv_topi (fun xq93_ e_xq93_ => ?_)
                      have kt_xq93_ : xq93_.toInt = (f 0).toInt := by rw [e_xq93_]; rfl
                      refine yist (x := xq93_) hC hK hH hc_al (noT hn_al) (iIn (by omega) (by omega)) dX10_notifies_182 (fun Hq_ lcq_ Mq94_ hc_al hfr hH => ?_)
                      have hc_al : Mq94_ al = some (.inl (kA 0, 7506, .inl (upd f (Int32.toNatClampNeg zq92_) xq93_))) := hc_al
                      have hc_h : Mq94_ h = some (.inr (8, [.ref al, .ref mt, .ref ii, .int ta, .int fpm, .ref pa, .int sm, .int nx, .int tk, .int pl, .int ln, .long va, .int wr, .ref li])) := (hfr h n_h_al).trans hc_h
                      have hF : ∀ q, FrK T q → q ≠ al → Mq94_ q = M q := fun q hq h0 => (hfr q h0).trans (hF q hq h0)
                      obtain ⟨gq95_, e_gq95_⟩ : ∃ g : Nat → Int32, g = upd f (Int32.toNatClampNeg zq92_) xq93_ := ⟨_, rfl⟩
                      rw [← e_gq95_] at hc_al
                      have hR_gq95_ : Rng gq95_ := by rw [e_gq95_]; exact hR_f.uX (t := 0) (b := nq7_) (xn := nq12_) (by omega) (by omega) (by omega) (by have := iCl (x := zq92_) (by omega); omega) (by have := iCl (x := zq92_) (by omega); omega) (by have := iCl (x := zq92_) (by omega); omega)
                      have hK_gq95_ : Ke f gq95_ := by rw [e_gq95_]; exact hK_f.up (by have := iCl (x := zq92_) (by omega); omega)
                      refine lv_iconst (v := 0) hx hb dX10_notifies_183 (by decide) ?_
                      exact ret_i hC hr hlk hK hH (⟨gq95_, ⟨hR_gq95_, hK_gq95_⟩, hc_al, rfl, hF⟩) (Nat.le_of_ble_eq_true rfl) (Nat.le_of_ble_eq_true rfl) dX10_notifies_184
                    · skip
                      have eT := eT.symm; subst eT
                      have er_rq86_ := er_rq86_.symm; subst er_rq86_
                      have eM := eM.symm; subst eM
                      refine jif_ne (tgt := 164) hx hb dX10_notifies_158 (by decide) (fun cq96_ => absurd cq96_ (by decide)) (fun cq96_ => ?_)
                      refine lv_bipush (v := 31) hx hb dX10_notifies_161 (by decide) ?_
                      exact ret_i hC hr hlk hK hH (⟨f, ⟨hR_f, hK_f⟩, hc_al, rfl, hF⟩) (Nat.le_of_ble_eq_true rfl) (Nat.le_of_ble_eq_true rfl) dX10_notifies_163
                · skip
                  have cq73_ : xq72_.toInt ≠ (-1) := cq73_
                  refine lv_bipush (v := 31) hx hb dX10_notifies_95 (by decide) ?_
                  exact ret_i hC hr hlk hK hH (⟨f, ⟨hR_f, hK_f⟩, hc_al, rfl, hF⟩) (Nat.le_of_ble_eq_true rfl) (Nat.le_of_ble_eq_true rfl) dX10_notifies_97
            · skip
              have cq62_ : fr.toInt ≤ to.toInt := cq62_
              refine lv_bipush (v := 30) hx hb dX10_notifies_61 (by decide) ?_
              exact ret_i hC hr hlk hK hH (⟨f, ⟨hR_f, hK_f⟩, hc_al, rfl, hF⟩) (Nat.le_of_ble_eq_true rfl) (Nat.le_of_ble_eq_true rfl) dX10_notifies_63
        · skip
          have eT := eT.symm; subst eT
          have er_rq57_ := er_rq57_.symm; subst er_rq57_
          have eM := eM.symm; subst eM
          refine jif_eq (tgt := 61) hx hb dX10_notifies_35 (by decide) (fun cq97_ => ?_) (fun cq97_ => absurd cq97_ (by decide))
          refine lv_bipush (v := 30) hx hb dX10_notifies_61 (by decide) ?_
          exact ret_i hC hr hlk hK hH (⟨f, ⟨hR_f, hK_f⟩, hc_al, rfl, hF⟩) (Nat.le_of_ble_eq_true rfl) (Nat.le_of_ble_eq_true rfl) dX10_notifies_63
    · skip
      have cq6_ : to.toInt = 0 := cq6_
      refine lv_bipush (v := 30) hx hb dX10_notifies_13 (by decide) ?_
      exact ret_i hC hr hlk hK hH (⟨f, ⟨hR_f, hK_f⟩, hc_al, rfl, hF⟩) (Nat.le_of_ble_eq_true rfl) (Nat.le_of_ble_eq_true rfl) dX10_notifies_15
  · skip
    have eT := eT.symm; subst eT
    have er_rq3_ := er_rq3_.symm; subst er_rq3_
    have eM := eM.symm; subst eM
    refine jif_eq (tgt := 13) hx hb dX10_notifies_6 (by decide) (fun cq98_ => ?_) (fun cq98_ => absurd cq98_ (by decide))
    refine lv_bipush (v := 30) hx hb dX10_notifies_13 (by decide) ?_
    exact ret_i hC hr hlk hK hH (⟨f, ⟨hR_f, hK_f⟩, hc_al, rfl, hF⟩) (Nat.le_of_ble_eq_true rfl) (Nat.le_of_ble_eq_true rfl) dX10_notifies_15
set_option maxHeartbeats 4000000 in
set_option maxRecDepth 100000 in
theorem c_X10_releases {l : Launch} {D : va_G} {kA : Nat → ClassId} {M : mM} {T : mT} {sz : Nat} {h al mt ii pa li : Nat} {ta fpm sm nx tk pl ln wr : Int32} {va : Int64} {f : Nat → Int32} {bi pt : Int32} (hc_h : M h = some (.inr (8, [.ref al, .ref mt, .ref ii, .int ta, .int fpm, .ref pa, .int sm, .int nx, .int tk, .int pl, .int ln, .long va, .int wr, .ref li]))) (hn_h : T h = none) (hc_al : M al = some (.inl (kA 0, 7506, .inl f))) (hn_al : T al = none) (ht_mt : T mt = some 11) (ht_pa : T pa = some 13) (ht_li : T li = some 14) (hR_f : Rng f) : mCi l yX10_releases cX10_releases 4 (some .int) 4 0 0 D kA M T sz [.ref h, .int bi, .int pt] (fun r u => ∃ g : Nat → Int32, (Rng g ∧ Ke f g) ∧ (u.1 al = some (.inl (kA 0, 7506, .inl g))) ∧ u.2 = T ∧ (∀ q, FrK T q → q ≠ al → u.1 q = M q)) := by
  unfold mCi
  refine start_W (by decide) (Nat.le_of_ble_eq_true rfl) ?_
  intro p e s m below meth c ls hC hr hlk hnm hK hH hsz hl
  have hx := hC.1
  have hb := hC.2.1
  have hl : lv_has ls 4 [(0, .ref h), (1, .int bi), (2, .int pt)] := hl
  have hF : ∀ q, FrK T q → q ≠ al → M q = M q := fun q _ _ => rfl
  have n_h_al : h ≠ al := neM hc_h hc_al (by simp)
  have n_al_h : al ≠ h := neM hc_al hc_h (by simp)
  have hK_f : Ke f f := Ke.rf
  refine lv_aload_n hx hb dX10_releases_0 rfl (lv_at hl 0 rfl) ?_
  refine lv_iload_n hx hb dX10_releases_1 rfl (lv_at hl 1 rfl) ?_
  refine lv_iload_n hx hb dX10_releases_2 rfl (lv_at hl 2 rfl) ?_
  refine goI hK hH (runV (As := [.int bi, .int pt]) (rest := []) hC hK hH (c_X10_isSigned hc_h hn_h hc_al hn_al ht_mt ht_pa ht_li (by exact hR_f)) mlX10_143 (rcvM hK hH hc_h rfl) ⟨⟨Nat.le_of_ble_eq_true rfl, Nat.le_of_ble_eq_true rfl⟩, Nat.le_of_ble_eq_true rfl, Nat.le_of_ble_eq_true rfl⟩ rfl hl.1 rfl (Nat.le_of_ble_eq_true rfl) dX10_releases_3) (fun rq3_ Mq1_ Tq2_ Hq_ lcq_ hP hz hH => ?_)
  try dsimp only at hP
  obtain ⟨(⟨cq4_, er_rq3_⟩ | er_rq3_), eT, eM⟩ := hP
  · skip
    have eT := eT.symm; subst eT
    have er_rq3_ := er_rq3_.symm; subst er_rq3_
    have eM := eM.symm; subst eM
    have cq4_ : 0 ≤ bi.toInt ∧ bi.toInt ≤ 3 ∧ 0 ≤ pt.toInt ∧ pt.toInt ≤ 13 := cq4_
    refine jif_ne (tgt := 12) hx hb dX10_releases_6 (by decide) (fun cq5_ => ?_) (fun cq5_ => absurd cq5_ (by decide))
    refine lv_iconst (v := 0) hx hb dX10_releases_12 (by decide) ?_
    refine lv_iload_n hx hb dX10_releases_13 rfl (lv_at hl 1 rfl) ?_
    obtain ⟨nq6_, hn_nq6_⟩ : ∃ n : Nat, bi.toInt = (n : Int) := ⟨(bi.toInt).toNat, by omega⟩
    refine goI hK hH (runS (As := [.int 0, .int bi]) (rest := []) hC hK hH (c_X10_at (by decide) (by omega)) mlX10_109 ⟨⟨Nat.le_of_ble_eq_true rfl, Nat.le_of_ble_eq_true rfl⟩, Nat.le_of_ble_eq_true rfl, Nat.le_of_ble_eq_true rfl⟩ rfl hl.1 rfl (Nat.le_of_ble_eq_true rfl) dX10_releases_14) (fun rq9_ Mq7_ Tq8_ Hq_ lcq_ hP hz hH => ?_)
    try dsimp only at hP
    obtain ⟨(⟨cq10_, ⟨l_rq9_, g_rq9_⟩⟩), eT, eM⟩ := hP
    have eT := eT.symm; subst eT
    have eM := eM.symm; subst eM
    have cq10_ : rq9_.toInt = (0 : Int) + 20 + 280 * bi.toInt := cq10_
    obtain ⟨nq11_, hn_nq11_⟩ : ∃ n : Nat, n = 1140 * 0 + 20 + 280 * nq6_ := ⟨_, rfl⟩
    have hx_rq9_ : rq9_.toInt = (nq11_ : Int) := by have : (0 : Int32).toInt = 0 := rfl; omega
    refine lv_istore_n (lv' := [(3, .int rq9_), (0, .ref h), (1, .int bi), (2, .int pt)]) hx hb dX10_releases_17 rfl hl (by decide) rfl (fun ls hl => ?_)
    refine lv_aload_n hx hb dX10_releases_18 rfl (lv_at hl 1 rfl) ?_
    refine lv_iload_n hx hb dX10_releases_19 rfl (lv_at hl 0 rfl) ?_
    refine goI hK hH (runV (As := [.int rq9_]) (rest := []) hC hK hH (c_X10_hasTitle (xn := nq11_) (t := 0) (b := nq6_) hc_h hn_h hc_al hn_al ht_mt ht_pa ht_li (by exact hR_f) (by decide) (by omega) (by have : (0 : Int32).toInt = 0 := rfl; omega) (by omega)) mlX10_70 (rcvM hK hH hc_h rfl) ⟨⟨Nat.le_of_ble_eq_true rfl, Nat.le_of_ble_eq_true rfl⟩, Nat.le_of_ble_eq_true rfl, Nat.le_of_ble_eq_true rfl⟩ rfl hl.1 rfl (Nat.le_of_ble_eq_true rfl) dX10_releases_20) (fun rq14_ Mq12_ Tq13_ Hq_ lcq_ hP hz hH => ?_)
    try dsimp only at hP
    obtain ⟨(⟨cq15_, er_rq14_⟩ | ⟨cq16_, er_rq14_⟩), eT, eM⟩ := hP
    · skip
      have eT := eT.symm; subst eT
      have er_rq14_ := er_rq14_.symm; subst er_rq14_
      have eM := eM.symm; subst eM
      have cq15_ : titF f nq11_ := cq15_
      refine jif_eq (tgt := 54) hx hb dX10_releases_23 (by decide) (fun cq17_ => absurd cq17_ (by decide)) (fun cq17_ => ?_)
      refine lv_aload_n hx hb dX10_releases_26 rfl (lv_at hl 1 rfl) ?_
      refine xg hC hK hH flX10_7 hc_h rfl dX10_releases_27 ?_
      refine lv_iload_n hx hb dX10_releases_30 rfl (lv_at hl 0 rfl) ?_
      refine lv_iload_n hx hb dX10_releases_31 rfl (lv_at hl 3 rfl) ?_
      obtain ⟨nq18_, hn_nq18_⟩ : ∃ n : Nat, pt.toInt = (n : Int) := ⟨(pt.toInt).toNat, by omega⟩
      refine goI hK hH (runS (As := [.int rq9_, .int pt]) (rest := [.ref al]) hC hK hH (c_X10_partyAt (by omega) (by omega)) mlX10_56 ⟨⟨Nat.le_of_ble_eq_true rfl, Nat.le_of_ble_eq_true rfl⟩, Nat.le_of_ble_eq_true rfl, Nat.le_of_ble_eq_true rfl⟩ rfl hl.1 rfl (Nat.le_of_ble_eq_true rfl) dX10_releases_32) (fun rq21_ Mq19_ Tq20_ Hq_ lcq_ hP hz hH => ?_)
      try dsimp only at hP
      obtain ⟨(⟨cq22_, ⟨l_rq21_, g_rq21_⟩⟩), eT, eM⟩ := hP
      have eT := eT.symm; subst eT
      have eM := eM.symm; subst eM
      have cq22_ : rq21_.toInt = rq9_.toInt + 184 + 6 * pt.toInt := cq22_
      have hx_rq21_ : rq21_.toInt = ((nq11_ + 184 + 6 * nq18_ : Nat) : Int) := by omega
      refine lv_iconst (v := 1) hx hb dX10_releases_35 (by decide) ?_
      refine lv_iadd hx hb dX10_releases_36 ?_
      refine lv_topi (fun zq23_ e_zq23_ => ?_)
      have h_zq23_ : zq23_.toInt = rq21_.toInt + 1 := by rw [e_zq23_, iAdd (by have := iRg rq21_; have : (1 : Int32).toInt = 1 := rfl; omega) (by have := iRg rq21_; have : (1 : Int32).toInt = 1 := rfl; omega)]; rfl
      refine xild hC hK hH hc_al (iIn (by omega) (by omega)) dX10_releases_37 ?_
      refine lv_topi (fun xq24_ e_xq24_ => ?_)
      have k_xq24_ : xq24_ = f (nq11_ + 184 + 6 * nq18_ + 1) := by rw [e_xq24_, clE (n := nq11_ + 184 + 6 * nq18_ + 1) (by omega)]
      have kt_xq24_ : xq24_.toInt = (f (nq11_ + 184 + 6 * nq18_ + 1)).toInt := by rw [k_xq24_]
      refine jif_gt (tgt := 54) hx hb dX10_releases_38 (by decide) (fun cq25_ => ?_) (fun cq25_ => ?_)
      · skip
        have cq25_ : 0 < xq24_.toInt := cq25_
        refine lv_bipush (v := 31) hx hb dX10_releases_54 (by decide) ?_
        exact ret_i hC hr hlk hK hH (⟨f, ⟨hR_f, hK_f⟩, hc_al, rfl, hF⟩) (Nat.le_of_ble_eq_true rfl) (Nat.le_of_ble_eq_true rfl) dX10_releases_56
      · skip
        have cq25_ : xq24_.toInt ≤ 0 := cq25_
        refine lv_aload_n hx hb dX10_releases_41 rfl (lv_at hl 1 rfl) ?_
        refine xg hC hK hH flX10_7 hc_h rfl dX10_releases_42 ?_
        refine lv_iload_n hx hb dX10_releases_45 rfl (lv_at hl 0 rfl) ?_
        refine lv_bipush (v := 10) hx hb dX10_releases_46 (by decide) ?_
        refine lv_iadd hx hb dX10_releases_48 ?_
        refine lv_topi (fun zq26_ e_zq26_ => ?_)
        have h_zq26_ : zq26_.toInt = rq9_.toInt + 10 := by rw [e_zq26_, iAdd (by have := iRg rq9_; have : (10 : Int32).toInt = 10 := rfl; omega) (by have := iRg rq9_; have : (10 : Int32).toInt = 10 := rfl; omega)]; rfl
        refine xild hC hK hH hc_al (iIn (by omega) (by omega)) dX10_releases_49 ?_
        refine lv_topi (fun xq27_ e_xq27_ => ?_)
        have k_xq27_ : xq27_ = f (nq11_ + 10) := by rw [e_xq27_, clE (n := nq11_ + 10) (by omega)]
        have kt_xq27_ : xq27_.toInt = (f (nq11_ + 10)).toInt := by rw [k_xq27_]
        refine lv_iconst (v := 1) hx hb dX10_releases_50 (by decide) ?_
        refine jic_ne (tgt := 57) hx hb dX10_releases_51 (by decide) (fun cq28_ => ?_) (fun cq28_ => ?_)
        · skip
          have cq28_ : xq27_.toInt ≠ 1 := cq28_
          refine lv_aload_n hx hb dX10_releases_57 rfl (lv_at hl 1 rfl) ?_
          refine lv_iload_n hx hb dX10_releases_58 rfl (lv_at hl 0 rfl) ?_
          refine lv_iload_n hx hb dX10_releases_59 rfl (lv_at hl 3 rfl) ?_
          refine lv_bipush (v := 15) hx hb dX10_releases_60 (by decide) ?_
          refine goV hK hH (runV (As := [.int rq9_, .int pt, .int 15]) (rest := []) hC hK hH (c_X10_frees (xn := nq11_) (t := 0) (b := nq6_) (ptn := nq18_) hc_h hn_h hc_al hn_al ht_mt ht_pa ht_li (by exact hR_f) (by decide) (by omega) (by have : (0 : Int32).toInt = 0 := rfl; omega) (by omega) (by omega) (by omega) (by decide)) mlX10_88 (rcvM hK hH hc_h rfl) ⟨⟨Nat.le_of_ble_eq_true rfl, Nat.le_of_ble_eq_true rfl⟩, Nat.le_of_ble_eq_true rfl, Nat.le_of_ble_eq_true rfl⟩ rfl hl.1 rfl (Nat.le_of_ble_eq_true rfl) dX10_releases_62) (fun Mq29_ Tq30_ Hq_ lcq_ hP hz hH => ?_)
          try dsimp only at hP
          obtain ⟨gq32_, h_gq32_, (hx_al), eT, hfr⟩ := hP
          have eT := eT.symm; subst eT
          have hc_h : Mq29_ h = some (.inr (8, [.ref al, .ref mt, .ref ii, .int ta, .int fpm, .ref pa, .int sm, .int nx, .int tk, .int pl, .int ln, .long va, .int wr, .ref li])) := (hfr h (Or.inl hn_h) n_h_al).trans hc_h
          have hc_al : Mq29_ al = some (.inl (kA 0, 7506, .inl gq32_)) := hx_al
          have hF : ∀ q, FrK T q → q ≠ al → Mq29_ q = M q := fun q hq h0 => (hfr q hq  h0).trans (hF q hq h0)
          have hR_gq32_ : Rng gq32_ := h_gq32_.1
          have hK_gq32_ : Ke f gq32_ := hK_f.tr h_gq32_.2.1
          have hE_gq32_ : (gq32_ (nq11_ + 8) = f (nq11_ + 8) ∧ ∀ q, nq18_ ≤ q → (q : Int) ≤ 1 + (f (nq11_ + 8)).toInt → 0 < (gq32_ (nq11_ + 184 + 6 * q + 1)).toInt) := h_gq32_.2.2
          refine lv_iconst (v := 0) hx hb dX10_releases_65 (by decide) ?_
          exact ret_i hC hr hlk hK hH (⟨gq32_, ⟨hR_gq32_, hK_gq32_⟩, hc_al, rfl, hF⟩) (Nat.le_of_ble_eq_true rfl) (Nat.le_of_ble_eq_true rfl) dX10_releases_66
        · skip
          have cq28_ : xq27_.toInt = 1 := cq28_
          refine lv_bipush (v := 31) hx hb dX10_releases_54 (by decide) ?_
          exact ret_i hC hr hlk hK hH (⟨f, ⟨hR_f, hK_f⟩, hc_al, rfl, hF⟩) (Nat.le_of_ble_eq_true rfl) (Nat.le_of_ble_eq_true rfl) dX10_releases_56
    · skip
      have eT := eT.symm; subst eT
      have er_rq14_ := er_rq14_.symm; subst er_rq14_
      have eM := eM.symm; subst eM
      have cq16_ : ¬ titF f nq11_ := cq16_
      refine jif_eq (tgt := 54) hx hb dX10_releases_23 (by decide) (fun cq33_ => ?_) (fun cq33_ => absurd cq33_ (by decide))
      refine lv_bipush (v := 31) hx hb dX10_releases_54 (by decide) ?_
      exact ret_i hC hr hlk hK hH (⟨f, ⟨hR_f, hK_f⟩, hc_al, rfl, hF⟩) (Nat.le_of_ble_eq_true rfl) (Nat.le_of_ble_eq_true rfl) dX10_releases_56
  · skip
    have eT := eT.symm; subst eT
    have er_rq3_ := er_rq3_.symm; subst er_rq3_
    have eM := eM.symm; subst eM
    refine jif_ne (tgt := 12) hx hb dX10_releases_6 (by decide) (fun cq34_ => absurd cq34_ (by decide)) (fun cq34_ => ?_)
    refine lv_bipush (v := 30) hx hb dX10_releases_9 (by decide) ?_
    exact ret_i hC hr hlk hK hH (⟨f, ⟨hR_f, hK_f⟩, hc_al, rfl, hF⟩) (Nat.le_of_ble_eq_true rfl) (Nat.le_of_ble_eq_true rfl) dX10_releases_11
set_option maxHeartbeats 4000000 in
set_option maxRecDepth 100000 in
theorem c_X10_paysNow {l : Launch} {D : va_G} {kA : Nat → ClassId} {M : mM} {T : mT} {sz : Nat} {h al mt ii pa li : Nat} {ta fpm sm nx tk pl ln wr : Int32} {va : Int64} {f : Nat → Int32} {bi pt : Int32} (hc_h : M h = some (.inr (8, [.ref al, .ref mt, .ref ii, .int ta, .int fpm, .ref pa, .int sm, .int nx, .int tk, .int pl, .int ln, .long va, .int wr, .ref li]))) (hn_h : T h = none) (hc_al : M al = some (.inl (kA 0, 7506, .inl f))) (hn_al : T al = none) (ht_mt : T mt = some 11) (ht_pa : T pa = some 13) (ht_li : T li = some 14) (hR_f : Rng f) : mCi l yX10_paysNow cX10_paysNow 3 (some .int) 6 0 0 D kA M T sz [.ref h, .int bi, .int pt] (fun r u => ∃ g : Nat → Int32, (Rng g ∧ Ke f g) ∧ (u.1 al = some (.inl (kA 0, 7506, .inl g))) ∧ u.2 = T ∧ (∀ q, FrK T q → q ≠ al → u.1 q = M q)) := by
  unfold mCi
  refine start_W (by decide) (Nat.le_of_ble_eq_true rfl) ?_
  intro p e s m below meth c ls hC hr hlk hnm hK hH hsz hl
  have hx := hC.1
  have hb := hC.2.1
  have hl : lv_has ls 3 [(0, .ref h), (1, .int bi), (2, .int pt)] := hl
  have hF : ∀ q, FrK T q → q ≠ al → M q = M q := fun q _ _ => rfl
  have n_h_al : h ≠ al := neM hc_h hc_al (by simp)
  have n_al_h : al ≠ h := neM hc_al hc_h (by simp)
  have hK_f : Ke f f := Ke.rf
  refine lv_aload_n hx hb dX10_paysNow_0 rfl (lv_at hl 0 rfl) ?_
  refine lv_iload_n hx hb dX10_paysNow_1 rfl (lv_at hl 1 rfl) ?_
  refine goI hK hH (runV (As := [.int bi]) (rest := []) hC hK hH (c_X10_isBill hc_h hn_h hc_al hn_al ht_mt ht_pa ht_li (by exact hR_f)) mlX10_116 (rcvM hK hH hc_h rfl) ⟨⟨Nat.le_of_ble_eq_true rfl, Nat.le_of_ble_eq_true rfl⟩, Nat.le_of_ble_eq_true rfl, Nat.le_of_ble_eq_true rfl⟩ rfl hl.1 rfl (Nat.le_of_ble_eq_true rfl) dX10_paysNow_2) (fun rq3_ Mq1_ Tq2_ Hq_ lcq_ hP hz hH => ?_)
  try dsimp only at hP
  obtain ⟨(⟨cq4_, er_rq3_⟩ | er_rq3_), eT, eM⟩ := hP
  · skip
    have eT := eT.symm; subst eT
    have er_rq3_ := er_rq3_.symm; subst er_rq3_
    have eM := eM.symm; subst eM
    have cq4_ : 0 ≤ bi.toInt ∧ bi.toInt ≤ 3 := cq4_
    refine jif_eq (tgt := 35) hx hb dX10_paysNow_5 (by decide) (fun cq5_ => absurd cq5_ (by decide)) (fun cq5_ => ?_)
    refine lv_aload_n hx hb dX10_paysNow_8 rfl (lv_at hl 0 rfl) ?_
    refine lv_iconst (v := 0) hx hb dX10_paysNow_9 (by decide) ?_
    refine lv_iload_n hx hb dX10_paysNow_10 rfl (lv_at hl 1 rfl) ?_
    obtain ⟨nq6_, hn_nq6_⟩ : ∃ n : Nat, bi.toInt = (n : Int) := ⟨(bi.toInt).toNat, by omega⟩
    refine goI hK hH (runS (As := [.int 0, .int bi]) (rest := [.ref h]) hC hK hH (c_X10_at (by decide) (by omega)) mlX10_109 ⟨⟨Nat.le_of_ble_eq_true rfl, Nat.le_of_ble_eq_true rfl⟩, Nat.le_of_ble_eq_true rfl, Nat.le_of_ble_eq_true rfl⟩ rfl hl.1 rfl (Nat.le_of_ble_eq_true rfl) dX10_paysNow_11) (fun rq9_ Mq7_ Tq8_ Hq_ lcq_ hP hz hH => ?_)
    try dsimp only at hP
    obtain ⟨(⟨cq10_, ⟨l_rq9_, g_rq9_⟩⟩), eT, eM⟩ := hP
    have eT := eT.symm; subst eT
    have eM := eM.symm; subst eM
    have cq10_ : rq9_.toInt = (0 : Int) + 20 + 280 * bi.toInt := cq10_
    obtain ⟨nq11_, hn_nq11_⟩ : ∃ n : Nat, n = 1140 * 0 + 20 + 280 * nq6_ := ⟨_, rfl⟩
    have hx_rq9_ : rq9_.toInt = (nq11_ : Int) := by have : (0 : Int32).toInt = 0 := rfl; omega
    refine lv_iload_n hx hb dX10_paysNow_14 rfl (lv_at hl 2 rfl) ?_
    refine goI hK hH (runV (As := [.int rq9_, .int pt]) (rest := []) hC hK hH (c_X10_isParty (xn := nq11_) (t := 0) (b := nq6_) hc_h hn_h hc_al hn_al ht_mt ht_pa ht_li (by exact hR_f) (by decide) (by omega) (by have : (0 : Int32).toInt = 0 := rfl; omega) (by omega)) mlX10_140 (rcvM hK hH hc_h rfl) ⟨⟨Nat.le_of_ble_eq_true rfl, Nat.le_of_ble_eq_true rfl⟩, Nat.le_of_ble_eq_true rfl, Nat.le_of_ble_eq_true rfl⟩ rfl hl.1 rfl (Nat.le_of_ble_eq_true rfl) dX10_paysNow_15) (fun rq14_ Mq12_ Tq13_ Hq_ lcq_ hP hz hH => ?_)
    try dsimp only at hP
    obtain ⟨(⟨cq15_, er_rq14_⟩ | er_rq14_), eT, eM⟩ := hP
    · skip
      have eT := eT.symm; subst eT
      have er_rq14_ := er_rq14_.symm; subst er_rq14_
      have eM := eM.symm; subst eM
      have cq15_ : 0 ≤ pt.toInt ∧ pt.toInt ≤ 1 + (f (nq11_ + 8)).toInt ∧ pt.toInt ≤ 13 := cq15_
      refine jif_eq (tgt := 35) hx hb dX10_paysNow_18 (by decide) (fun cq16_ => absurd cq16_ (by decide)) (fun cq16_ => ?_)
      refine lv_aload_n hx hb dX10_paysNow_21 rfl (lv_at hl 0 rfl) ?_
      refine lv_iconst (v := 0) hx hb dX10_paysNow_22 (by decide) ?_
      refine lv_iconst (v := 0) hx hb dX10_paysNow_23 (by decide) ?_
      refine lv_iload_n hx hb dX10_paysNow_24 rfl (lv_at hl 1 rfl) ?_
      refine goI hK hH (runS (As := [.int 0, .int bi]) (rest := [.int 0, .ref h]) hC hK hH (c_X10_at (by decide) (by omega)) mlX10_109 ⟨⟨Nat.le_of_ble_eq_true rfl, Nat.le_of_ble_eq_true rfl⟩, Nat.le_of_ble_eq_true rfl, Nat.le_of_ble_eq_true rfl⟩ rfl hl.1 rfl (Nat.le_of_ble_eq_true rfl) dX10_paysNow_25) (fun rq19_ Mq17_ Tq18_ Hq_ lcq_ hP hz hH => ?_)
      try dsimp only at hP
      obtain ⟨(⟨cq20_, ⟨l_rq19_, g_rq19_⟩⟩), eT, eM⟩ := hP
      have eT := eT.symm; subst eT
      have eM := eM.symm; subst eM
      have cq20_ : rq19_.toInt = (0 : Int) + 20 + 280 * bi.toInt := cq20_
      obtain ⟨nq21_, hn_nq21_⟩ : ∃ n : Nat, n = 1140 * 0 + 20 + 280 * nq6_ := ⟨_, rfl⟩
      have hx_rq19_ : rq19_.toInt = (nq21_ : Int) := by have : (0 : Int32).toInt = 0 := rfl; omega
      refine lv_iload_n hx hb dX10_paysNow_28 rfl (lv_at hl 2 rfl) ?_
      obtain ⟨nq22_, hn_nq22_⟩ : ∃ n : Nat, pt.toInt = (n : Int) := ⟨(pt.toInt).toNat, by omega⟩
      refine goI hK hH (runV (As := [.int 0, .int rq19_, .int pt]) (rest := []) hC hK hH (c_X10_pays (xn := nq21_) (t := 0) (b := nq6_) (ptn := nq22_) hc_h hn_h hc_al hn_al ht_mt ht_pa ht_li (by exact hR_f) (by decide) (by omega) (by have : (0 : Int32).toInt = 0 := rfl; omega) (by omega) (by decide) (by omega) (by omega)) mlX10_150 (rcvM hK hH hc_h rfl) ⟨⟨Nat.le_of_ble_eq_true rfl, Nat.le_of_ble_eq_true rfl⟩, Nat.le_of_ble_eq_true rfl, Nat.le_of_ble_eq_true rfl⟩ rfl hl.1 rfl (Nat.le_of_ble_eq_true rfl) dX10_paysNow_29) (fun rq25_ Mq23_ Tq24_ Hq_ lcq_ hP hz hH => ?_)
      try dsimp only at hP
      obtain ⟨gq28_, h_gq28_, (⟨cq26_, er_rq25_, hx_al⟩ | ⟨cq27_, ⟨l_rq25_, g_rq25_⟩, hx_al⟩), eT, hfr⟩ := hP
      · skip
        have eT := eT.symm; subst eT
        have er_rq25_ := er_rq25_.symm; subst er_rq25_
        have hc_h : Mq23_ h = some (.inr (8, [.ref al, .ref mt, .ref ii, .int ta, .int fpm, .ref pa, .int sm, .int nx, .int tk, .int pl, .int ln, .long va, .int wr, .ref li])) := (hfr h (Or.inl hn_h) n_h_al).trans hc_h
        have hc_al : Mq23_ al = some (.inl (kA 0, 7506, .inl gq28_)) := hx_al
        have hF : ∀ q, FrK T q → q ≠ al → Mq23_ q = M q := fun q hq h0 => (hfr q hq  h0).trans (hF q hq h0)
        have hR_gq28_ : Rng gq28_ := h_gq28_.1
        have hK_gq28_ : Ke f gq28_ := hK_f.tr h_gq28_.2.1
        have hE_gq28_ : (Lia f 0 nq21_ nq22_ → CshF f 0 nq21_ nq22_ → PayP f gq28_ nq21_ nq22_) := h_gq28_.2.2
        have cq26_ : Lia f 0 nq21_ nq22_ ∧ CshF f 0 nq21_ nq22_ := cq26_
        refine lv_goto (tgt := 37) hx hb dX10_paysNow_32 (by decide) ?_
        exact ret_i hC hr hlk hK hH (⟨gq28_, ⟨hR_gq28_, hK_gq28_⟩, hc_al, rfl, hF⟩) (Nat.le_of_ble_eq_true rfl) (Nat.le_of_ble_eq_true rfl) dX10_paysNow_37
      · skip
        have eT := eT.symm; subst eT
        have hc_h : Mq23_ h = some (.inr (8, [.ref al, .ref mt, .ref ii, .int ta, .int fpm, .ref pa, .int sm, .int nx, .int tk, .int pl, .int ln, .long va, .int wr, .ref li])) := (hfr h (Or.inl hn_h) n_h_al).trans hc_h
        have hc_al : Mq23_ al = some (.inl (kA 0, 7506, .inl gq28_)) := hx_al
        have hF : ∀ q, FrK T q → q ≠ al → Mq23_ q = M q := fun q hq h0 => (hfr q hq  h0).trans (hF q hq h0)
        have hR_gq28_ : Rng gq28_ := h_gq28_.1
        have hK_gq28_ : Ke f gq28_ := hK_f.tr h_gq28_.2.1
        have hE_gq28_ : (Lia f 0 nq21_ nq22_ → CshF f 0 nq21_ nq22_ → PayP f gq28_ nq21_ nq22_) := h_gq28_.2.2
        have cq27_ : ¬ (Lia f 0 nq21_ nq22_ ∧ CshF f 0 nq21_ nq22_) := cq27_
        refine lv_goto (tgt := 37) hx hb dX10_paysNow_32 (by decide) ?_
        exact ret_i hC hr hlk hK hH (⟨gq28_, ⟨hR_gq28_, hK_gq28_⟩, hc_al, rfl, hF⟩) (Nat.le_of_ble_eq_true rfl) (Nat.le_of_ble_eq_true rfl) dX10_paysNow_37
    · skip
      have eT := eT.symm; subst eT
      have er_rq14_ := er_rq14_.symm; subst er_rq14_
      have eM := eM.symm; subst eM
      refine jif_eq (tgt := 35) hx hb dX10_paysNow_18 (by decide) (fun cq29_ => ?_) (fun cq29_ => absurd cq29_ (by decide))
      refine lv_bipush (v := 30) hx hb dX10_paysNow_35 (by decide) ?_
      exact ret_i hC hr hlk hK hH (⟨f, ⟨hR_f, hK_f⟩, hc_al, rfl, hF⟩) (Nat.le_of_ble_eq_true rfl) (Nat.le_of_ble_eq_true rfl) dX10_paysNow_37
  · skip
    have eT := eT.symm; subst eT
    have er_rq3_ := er_rq3_.symm; subst er_rq3_
    have eM := eM.symm; subst eM
    refine jif_eq (tgt := 35) hx hb dX10_paysNow_5 (by decide) (fun cq30_ => ?_) (fun cq30_ => absurd cq30_ (by decide))
    refine lv_bipush (v := 30) hx hb dX10_paysNow_35 (by decide) ?_
    exact ret_i hC hr hlk hK hH (⟨f, ⟨hR_f, hK_f⟩, hc_al, rfl, hF⟩) (Nat.le_of_ble_eq_true rfl) (Nat.le_of_ble_eq_true rfl) dX10_paysNow_37
