set_option maxHeartbeats 4000000 in
set_option maxRecDepth 100000 in
theorem c_X10_done {l : Launch} {D : va_G} {kA : Nat → ClassId} {M : mM} {T : mT} {sz : Nat} {h al mt ii pa li : Nat} {ta fpm sm nx tk pl ln wr : Int32} {va : Int64} {f : Nat → Int32} {at_ : Int32} (hc_h : M h = some (.inr (8, [.ref al, .ref mt, .ref ii, .int ta, .int fpm, .ref pa, .int sm, .int nx, .int tk, .int pl, .int ln, .long va, .int wr, .ref li]))) (hn_h : T h = none) (hc_al : M al = some (.inl (kA 0, 7506, .inl f))) (hn_al : T al = none) (ht_mt : T mt = some 11) (ht_pa : T pa = some 13) (ht_li : T li = some 14) (hR_f : Rng f) (hat : 0 ≤ at_.toInt ∧ at_.toInt ≤ 1208) : mCi l yX10_done cX10_done 7 (some .int) 7 0 0 D kA M T sz [.ref h, .int at_] (fun r u => ∃ g : Nat → Int32, (Rng g ∧ Ke f g) ∧ (u.1 al = some (.inl (kA 0, 7506, .inl g))) ∧ u.2 = T ∧ (∀ q, FrK T q → q ≠ al → u.1 q = M q)) := by
  unfold mCi
  refine start_W (by decide) (Nat.le_of_ble_eq_true rfl) ?_
  intro p e s m below meth c ls hC hr hlk hnm hK hH hsz hl
  have hx := hC.1
  have hb := hC.2.1
  have hl : lv_has ls 7 [(0, .ref h), (1, .int at_)] := hl
  have hF : ∀ q, FrK T q → q ≠ al → M q = M q := fun q _ _ => rfl
  have n_h_al : h ≠ al := neM hc_h hc_al (by simp)
  have n_al_h : al ≠ h := neM hc_al hc_h (by simp)
  have hK_f : Ke f f := Ke.rf
  refine lv_aload_n hx hb dX10_done_0 rfl (lv_at hl 0 rfl) ?_
  refine xg hC hK hH flX10_27 hc_h rfl dX10_done_1 ?_
  refine lv_iload_n hx hb dX10_done_4 rfl (lv_at hl 1 rfl) ?_
  refine lv_iconst (v := 1) hx hb dX10_done_5 (by decide) ?_
  refine lv_iadd hx hb dX10_done_6 ?_
  refine lv_topi (fun zq1_ e_zq1_ => ?_)
  have h_zq1_ : zq1_.toInt = at_.toInt + 1 := by rw [e_zq1_, iAdd (by have := iRg at_; have : (1 : Int32).toInt = 1 := rfl; omega) (by have := iRg at_; have : (1 : Int32).toInt = 1 := rfl; omega)]; rfl
  refine tild hC hK hH ht_li rfl (iIn (by omega) (by omega)) dX10_done_7 (fun xq2_ l_xq2_ g_xq2_ => ?_)
  refine lv_istore_n (lv' := [(2, .int xq2_), (0, .ref h), (1, .int at_)]) hx hb dX10_done_8 rfl hl (by decide) rfl (fun ls hl => ?_)
  refine lv_aload_n hx hb dX10_done_9 rfl (lv_at hl 1 rfl) ?_
  refine xg hC hK hH flX10_27 hc_h rfl dX10_done_10 ?_
  refine lv_iload_n hx hb dX10_done_13 rfl (lv_at hl 2 rfl) ?_
  refine lv_iconst (v := 2) hx hb dX10_done_14 (by decide) ?_
  refine lv_iadd hx hb dX10_done_15 ?_
  refine lv_topi (fun zq3_ e_zq3_ => ?_)
  have h_zq3_ : zq3_.toInt = at_.toInt + 2 := by rw [e_zq3_, iAdd (by have := iRg at_; have : (2 : Int32).toInt = 2 := rfl; omega) (by have := iRg at_; have : (2 : Int32).toInt = 2 := rfl; omega)]; rfl
  refine tild hC hK hH ht_li rfl (iIn (by omega) (by omega)) dX10_done_16 (fun xq4_ l_xq4_ g_xq4_ => ?_)
  refine lv_istore_n (lv' := [(3, .int xq4_), (2, .int xq2_), (0, .ref h), (1, .int at_)]) hx hb dX10_done_17 rfl hl (by decide) rfl (fun ls hl => ?_)
  refine lv_aload_n hx hb dX10_done_18 rfl (lv_at hl 2 rfl) ?_
  refine xg hC hK hH flX10_27 hc_h rfl dX10_done_19 ?_
  refine lv_iload_n hx hb dX10_done_22 rfl (lv_at hl 3 rfl) ?_
  refine lv_iconst (v := 3) hx hb dX10_done_23 (by decide) ?_
  refine lv_iadd hx hb dX10_done_24 ?_
  refine lv_topi (fun zq5_ e_zq5_ => ?_)
  have h_zq5_ : zq5_.toInt = at_.toInt + 3 := by rw [e_zq5_, iAdd (by have := iRg at_; have : (3 : Int32).toInt = 3 := rfl; omega) (by have := iRg at_; have : (3 : Int32).toInt = 3 := rfl; omega)]; rfl
  refine tild hC hK hH ht_li rfl (iIn (by omega) (by omega)) dX10_done_25 (fun xq6_ l_xq6_ g_xq6_ => ?_)
  refine lv_istore (lv' := [(4, .int xq6_), (3, .int xq4_), (2, .int xq2_), (0, .ref h), (1, .int at_)]) hx hb dX10_done_26 hl (by decide) rfl (fun ls hl => ?_)
  refine lv_aload_n hx hb dX10_done_28 rfl (lv_at hl 3 rfl) ?_
  refine xg hC hK hH flX10_27 hc_h rfl dX10_done_29 ?_
  refine lv_iload_n hx hb dX10_done_32 rfl (lv_at hl 4 rfl) ?_
  refine lv_bipush (v := 6) hx hb dX10_done_33 (by decide) ?_
  refine lv_iadd hx hb dX10_done_35 ?_
  refine lv_topi (fun zq7_ e_zq7_ => ?_)
  have h_zq7_ : zq7_.toInt = at_.toInt + 6 := by rw [e_zq7_, iAdd (by have := iRg at_; have : (6 : Int32).toInt = 6 := rfl; omega) (by have := iRg at_; have : (6 : Int32).toInt = 6 := rfl; omega)]; rfl
  refine tild hC hK hH ht_li rfl (iIn (by omega) (by omega)) dX10_done_36 (fun xq8_ l_xq8_ g_xq8_ => ?_)
  refine lv_iconst (v := 1) hx hb dX10_done_37 (by decide) ?_
  refine jic_ne (tgt := 45) hx hb dX10_done_38 (by decide) (fun cq9_ => ?_) (fun cq9_ => ?_)
  · skip
    have cq9_ : xq8_.toInt ≠ 1 := cq9_
    refine lv_iconst (v := 0) hx hb dX10_done_45 (by decide) ?_
    refine lv_istore (lv' := [(5, .int 0), (4, .int xq6_), (3, .int xq4_), (2, .int xq2_), (0, .ref h), (1, .int at_)]) hx hb dX10_done_46 hl (by decide) rfl (fun ls hl => ?_)
    refine lv_aload_n hx hb dX10_done_48 rfl (lv_at hl 4 rfl) ?_
    refine xg hC hK hH flX10_27 hc_h rfl dX10_done_49 ?_
    refine lv_iload_n hx hb dX10_done_52 rfl (lv_at hl 5 rfl) ?_
    refine tild hC hK hH ht_li rfl (iIn (by omega) (by omega)) dX10_done_53 (fun xq10_ l_xq10_ g_xq10_ => ?_)
    rcases (show xq10_.toInt < 0 ∨ 17 < xq10_.toInt ∨ xq10_.toInt = 0 ∨ xq10_.toInt = 1 ∨ xq10_.toInt = 2 ∨ xq10_.toInt = 3 ∨ xq10_.toInt = 4 ∨ xq10_.toInt = 5 ∨ xq10_.toInt = 6 ∨ xq10_.toInt = 7 ∨ xq10_.toInt = 8 ∨ xq10_.toInt = 9 ∨ xq10_.toInt = 10 ∨ xq10_.toInt = 11 ∨ xq10_.toInt = 12 ∨ xq10_.toInt = 13 ∨ xq10_.toInt = 14 ∨ xq10_.toInt = 15 ∨ xq10_.toInt = 16 ∨ xq10_.toInt = 17 by omega) with cq11_ | cq11_ | cq11_ | cq11_ | cq11_ | cq11_ | cq11_ | cq11_ | cq11_ | cq11_ | cq11_ | cq11_ | cq11_ | cq11_ | cq11_ | cq11_ | cq11_ | cq11_ | cq11_ | cq11_
    · skip
      refine lv_tableOut (tgt := 423) hx hb dX10_done_54 (Or.inl cq11_) (by decide) ?_
      refine lv_aload_n hx hb dX10_done_423 rfl (lv_at hl 4 rfl) ?_
      refine lv_iload_n hx hb dX10_done_424 rfl (lv_at hl 3 rfl) ?_
      refine lv_iload_n hx hb dX10_done_425 rfl (lv_at hl 2 rfl) ?_
      refine goI hK hH (runV (As := [.int xq2_, .int xq4_]) (rest := []) hC hK hH (c_X10_paysNow hc_h hn_h hc_al hn_al ht_mt ht_pa ht_li (by exact hR_f)) mlX10_162 (rcvM hK hH hc_h rfl) ⟨⟨Nat.le_of_ble_eq_true rfl, Nat.le_of_ble_eq_true rfl⟩, Nat.le_of_ble_eq_true rfl, Nat.le_of_ble_eq_true rfl⟩ rfl hl.1 rfl (Nat.le_of_ble_eq_true rfl) dX10_done_426) (fun rq14_ Mq12_ Tq13_ Hq_ lcq_ hP hz hH => ?_)
      try dsimp only at hP
      obtain ⟨gq15_, h_gq15_, (hx_al), eT, hfr⟩ := hP
      have eT := eT.symm; subst eT
      have hc_h : Mq12_ h = some (.inr (8, [.ref al, .ref mt, .ref ii, .int ta, .int fpm, .ref pa, .int sm, .int nx, .int tk, .int pl, .int ln, .long va, .int wr, .ref li])) := (hfr h (Or.inl hn_h) n_h_al).trans hc_h
      have hc_al : Mq12_ al = some (.inl (kA 0, 7506, .inl gq15_)) := hx_al
      have hF : ∀ q, FrK T q → q ≠ al → Mq12_ q = M q := fun q hq h0 => (hfr q hq h0).trans (hF q hq h0)
      have hR_gq15_ : Rng gq15_ := h_gq15_.1
      have hK_gq15_ : Ke f gq15_ := hK_f.tr h_gq15_.2
      exact ret_i hC hr hlk hK hH (⟨gq15_, ⟨hR_gq15_, hK_gq15_⟩, hc_al, rfl, hF⟩) (Nat.le_of_ble_eq_true rfl) (Nat.le_of_ble_eq_true rfl) dX10_done_429
    · skip
      refine lv_tableOut (tgt := 423) hx hb dX10_done_54 (Or.inr cq11_) (by decide) ?_
      refine lv_aload_n hx hb dX10_done_423 rfl (lv_at hl 4 rfl) ?_
      refine lv_iload_n hx hb dX10_done_424 rfl (lv_at hl 3 rfl) ?_
      refine lv_iload_n hx hb dX10_done_425 rfl (lv_at hl 2 rfl) ?_
      refine goI hK hH (runV (As := [.int xq2_, .int xq4_]) (rest := []) hC hK hH (c_X10_paysNow hc_h hn_h hc_al hn_al ht_mt ht_pa ht_li (by exact hR_f)) mlX10_162 (rcvM hK hH hc_h rfl) ⟨⟨Nat.le_of_ble_eq_true rfl, Nat.le_of_ble_eq_true rfl⟩, Nat.le_of_ble_eq_true rfl, Nat.le_of_ble_eq_true rfl⟩ rfl hl.1 rfl (Nat.le_of_ble_eq_true rfl) dX10_done_426) (fun rq18_ Mq16_ Tq17_ Hq_ lcq_ hP hz hH => ?_)
      try dsimp only at hP
      obtain ⟨gq19_, h_gq19_, (hx_al), eT, hfr⟩ := hP
      have eT := eT.symm; subst eT
      have hc_h : Mq16_ h = some (.inr (8, [.ref al, .ref mt, .ref ii, .int ta, .int fpm, .ref pa, .int sm, .int nx, .int tk, .int pl, .int ln, .long va, .int wr, .ref li])) := (hfr h (Or.inl hn_h) n_h_al).trans hc_h
      have hc_al : Mq16_ al = some (.inl (kA 0, 7506, .inl gq19_)) := hx_al
      have hF : ∀ q, FrK T q → q ≠ al → Mq16_ q = M q := fun q hq h0 => (hfr q hq h0).trans (hF q hq h0)
      have hR_gq19_ : Rng gq19_ := h_gq19_.1
      have hK_gq19_ : Ke f gq19_ := hK_f.tr h_gq19_.2
      exact ret_i hC hr hlk hK hH (⟨gq19_, ⟨hR_gq19_, hK_gq19_⟩, hc_al, rfl, hF⟩) (Nat.le_of_ble_eq_true rfl) (Nat.le_of_ble_eq_true rfl) dX10_done_429
    · skip
      refine lv_tableIn (off := 86) (tgt := 140) hx hb dX10_done_54 (by omega) (by omega) (by rw [cq11_]; rfl) (by decide) ?_
      refine lv_aload_n hx hb dX10_done_140 rfl (lv_at hl 4 rfl) ?_
      refine lv_iload_n hx hb dX10_done_141 rfl (lv_at hl 3 rfl) ?_
      refine goI hK hH (runV (As := [.int xq2_]) (rest := []) hC hK hH (c_X10_days hc_h hn_h hc_al hn_al ht_mt ht_pa ht_li (by exact hR_f)) mlX10_94 (rcvM hK hH hc_h rfl) ⟨⟨Nat.le_of_ble_eq_true rfl, Nat.le_of_ble_eq_true rfl⟩, Nat.le_of_ble_eq_true rfl, Nat.le_of_ble_eq_true rfl⟩ rfl hl.1 rfl (Nat.le_of_ble_eq_true rfl) dX10_done_142) (fun rq22_ Mq20_ Tq21_ Hq_ lcq_ hP hz hH => ?_)
      try dsimp only at hP
      obtain ⟨gq23_, h_gq23_, (hx_al), eT, hfr⟩ := hP
      have eT := eT.symm; subst eT
      have hc_h : Mq20_ h = some (.inr (8, [.ref al, .ref mt, .ref ii, .int ta, .int fpm, .ref pa, .int sm, .int nx, .int tk, .int pl, .int ln, .long va, .int wr, .ref li])) := (hfr h (Or.inl hn_h) n_h_al).trans hc_h
      have hc_al : Mq20_ al = some (.inl (kA 0, 7506, .inl gq23_)) := hx_al
      have hF : ∀ q, FrK T q → q ≠ al → Mq20_ q = M q := fun q hq h0 => (hfr q hq h0).trans (hF q hq h0)
      have hR_gq23_ : Rng gq23_ := h_gq23_.1
      have hK_gq23_ : Ke f gq23_ := hK_f.tr h_gq23_.2
      exact ret_i hC hr hlk hK hH (⟨gq23_, ⟨hR_gq23_, hK_gq23_⟩, hc_al, rfl, hF⟩) (Nat.le_of_ble_eq_true rfl) (Nat.le_of_ble_eq_true rfl) dX10_done_145
    · skip
      refine lv_tableIn (off := 92) (tgt := 146) hx hb dX10_done_54 (by omega) (by omega) (by rw [cq11_]; rfl) (by decide) ?_
      refine lv_aload_n hx hb dX10_done_146 rfl (lv_at hl 4 rfl) ?_
      refine lv_iload_n hx hb dX10_done_147 rfl (lv_at hl 3 rfl) ?_
      refine lv_iload_n hx hb dX10_done_148 rfl (lv_at hl 2 rfl) ?_
      refine goI hK hH (runV (As := [.int xq2_, .int xq4_]) (rest := []) hC hK hH (c_X10_hasNow hc_h hn_h hc_al hn_al ht_mt ht_pa ht_li (by exact hR_f)) mlX10_103 (rcvM hK hH hc_h rfl) ⟨⟨Nat.le_of_ble_eq_true rfl, Nat.le_of_ble_eq_true rfl⟩, Nat.le_of_ble_eq_true rfl, Nat.le_of_ble_eq_true rfl⟩ rfl hl.1 rfl (Nat.le_of_ble_eq_true rfl) dX10_done_149) (fun rq26_ Mq24_ Tq25_ Hq_ lcq_ hP hz hH => ?_)
      try dsimp only at hP
      obtain ⟨gq29_, h_gq29_, (⟨cq27_, er_rq26_, hx_al⟩ | ⟨cq28_, er_rq26_, hx_al⟩), eT, hfr⟩ := hP
      · skip
        have eT := eT.symm; subst eT
        have er_rq26_ := er_rq26_.symm; subst er_rq26_
        have hc_h : Mq24_ h = some (.inr (8, [.ref al, .ref mt, .ref ii, .int ta, .int fpm, .ref pa, .int sm, .int nx, .int tk, .int pl, .int ln, .long va, .int wr, .ref li])) := (hfr h (Or.inl hn_h) n_h_al).trans hc_h
        have hc_al : Mq24_ al = some (.inl (kA 0, 7506, .inl gq29_)) := hx_al
        have hF : ∀ q, FrK T q → q ≠ al → Mq24_ q = M q := fun q hq h0 => (hfr q hq h0).trans (hF q hq h0)
        have hR_gq29_ : Rng gq29_ := h_gq29_.1
        have hK_gq29_ : Ke f gq29_ := hK_f.tr h_gq29_.2
        have cq27_ : 0 ≤ xq2_.toInt ∧ xq2_.toInt ≤ 7 ∧ 0 ≤ xq4_.toInt ∧ xq4_.toInt ≤ 9999 := cq27_
        exact ret_i hC hr hlk hK hH (⟨gq29_, ⟨hR_gq29_, hK_gq29_⟩, hc_al, rfl, hF⟩) (Nat.le_of_ble_eq_true rfl) (Nat.le_of_ble_eq_true rfl) dX10_done_152
      · skip
        have eT := eT.symm; subst eT
        have er_rq26_ := er_rq26_.symm; subst er_rq26_
        have hc_h : Mq24_ h = some (.inr (8, [.ref al, .ref mt, .ref ii, .int ta, .int fpm, .ref pa, .int sm, .int nx, .int tk, .int pl, .int ln, .long va, .int wr, .ref li])) := (hfr h (Or.inl hn_h) n_h_al).trans hc_h
        have hc_al : Mq24_ al = some (.inl (kA 0, 7506, .inl gq29_)) := hx_al
        have hF : ∀ q, FrK T q → q ≠ al → Mq24_ q = M q := fun q hq h0 => (hfr q hq h0).trans (hF q hq h0)
        have hR_gq29_ : Rng gq29_ := h_gq29_.1
        have hK_gq29_ : Ke f gq29_ := hK_f.tr h_gq29_.2
        have cq28_ : ¬ (0 ≤ xq2_.toInt ∧ xq2_.toInt ≤ 7 ∧ 0 ≤ xq4_.toInt ∧ xq4_.toInt ≤ 9999) := cq28_
        exact ret_i hC hr hlk hK hH (⟨gq29_, ⟨hR_gq29_, hK_gq29_⟩, hc_al, rfl, hF⟩) (Nat.le_of_ble_eq_true rfl) (Nat.le_of_ble_eq_true rfl) dX10_done_152
    · skip
      refine lv_tableIn (off := 99) (tgt := 153) hx hb dX10_done_54 (by omega) (by omega) (by rw [cq11_]; rfl) (by decide) ?_
      refine lv_aload_n hx hb dX10_done_153 rfl (lv_at hl 4 rfl) ?_
      refine lv_iload_n hx hb dX10_done_154 rfl (lv_at hl 3 rfl) ?_
      refine goI hK hH (runV (As := [.int xq2_]) (rest := []) hC hK hH (c_X10_graces hc_h hn_h hc_al hn_al ht_mt ht_pa ht_li (by exact hR_f)) mlX10_106 (rcvM hK hH hc_h rfl) ⟨⟨Nat.le_of_ble_eq_true rfl, Nat.le_of_ble_eq_true rfl⟩, Nat.le_of_ble_eq_true rfl, Nat.le_of_ble_eq_true rfl⟩ rfl hl.1 rfl (Nat.le_of_ble_eq_true rfl) dX10_done_155) (fun rq32_ Mq30_ Tq31_ Hq_ lcq_ hP hz hH => ?_)
      try dsimp only at hP
      obtain ⟨gq35_, h_gq35_, (⟨cq33_, er_rq32_, hx_al⟩ | ⟨cq34_, er_rq32_, hx_al⟩), eT, hfr⟩ := hP
      · skip
        have eT := eT.symm; subst eT
        have er_rq32_ := er_rq32_.symm; subst er_rq32_
        have hc_h : Mq30_ h = some (.inr (8, [.ref al, .ref mt, .ref ii, .int ta, .int fpm, .ref pa, .int sm, .int nx, .int tk, .int pl, .int ln, .long va, .int wr, .ref li])) := (hfr h (Or.inl hn_h) n_h_al).trans hc_h
        have hc_al : Mq30_ al = some (.inl (kA 0, 7506, .inl gq35_)) := hx_al
        have hF : ∀ q, FrK T q → q ≠ al → Mq30_ q = M q := fun q hq h0 => (hfr q hq h0).trans (hF q hq h0)
        have hR_gq35_ : Rng gq35_ := h_gq35_.1
        have hK_gq35_ : Ke f gq35_ := hK_f.tr h_gq35_.2
        have cq33_ : 1 ≤ xq2_.toInt ∧ xq2_.toInt ≤ 9 := cq33_
        exact ret_i hC hr hlk hK hH (⟨gq35_, ⟨hR_gq35_, hK_gq35_⟩, hc_al, rfl, hF⟩) (Nat.le_of_ble_eq_true rfl) (Nat.le_of_ble_eq_true rfl) dX10_done_158
      · skip
        have eT := eT.symm; subst eT
        have er_rq32_ := er_rq32_.symm; subst er_rq32_
        have hc_h : Mq30_ h = some (.inr (8, [.ref al, .ref mt, .ref ii, .int ta, .int fpm, .ref pa, .int sm, .int nx, .int tk, .int pl, .int ln, .long va, .int wr, .ref li])) := (hfr h (Or.inl hn_h) n_h_al).trans hc_h
        have hc_al : Mq30_ al = some (.inl (kA 0, 7506, .inl gq35_)) := hx_al
        have hF : ∀ q, FrK T q → q ≠ al → Mq30_ q = M q := fun q hq h0 => (hfr q hq h0).trans (hF q hq h0)
        have hR_gq35_ : Rng gq35_ := h_gq35_.1
        have hK_gq35_ : Ke f gq35_ := hK_f.tr h_gq35_.2
        have cq34_ : ¬ (1 ≤ xq2_.toInt ∧ xq2_.toInt ≤ 9) := cq34_
        exact ret_i hC hr hlk hK hH (⟨gq35_, ⟨hR_gq35_, hK_gq35_⟩, hc_al, rfl, hF⟩) (Nat.le_of_ble_eq_true rfl) (Nat.le_of_ble_eq_true rfl) dX10_done_158
    · skip
      refine lv_tableIn (off := 105) (tgt := 159) hx hb dX10_done_54 (by omega) (by omega) (by rw [cq11_]; rfl) (by decide) ?_
      refine lv_aload_n hx hb dX10_done_159 rfl (lv_at hl 4 rfl) ?_
      refine lv_iload_n hx hb dX10_done_160 rfl (lv_at hl 3 rfl) ?_
      refine lv_iload_n hx hb dX10_done_161 rfl (lv_at hl 2 rfl) ?_
      refine lv_iload hx hb dX10_done_162 (lv_at hl 1 rfl) ?_
      refine lv_iconst (v := 0) hx hb dX10_done_164 (by decide) ?_
      refine lv_aload_n hx hb dX10_done_165 rfl (lv_at hl 4 rfl) ?_
      refine xg hC hK hH flX10_27 hc_h rfl dX10_done_166 ?_
      refine lv_iload_n hx hb dX10_done_169 rfl (lv_at hl 5 rfl) ?_
      refine lv_iconst (v := 4) hx hb dX10_done_170 (by decide) ?_
      refine lv_iadd hx hb dX10_done_171 ?_
      refine lv_topi (fun zq36_ e_zq36_ => ?_)
      have h_zq36_ : zq36_.toInt = at_.toInt + 4 := by rw [e_zq36_, iAdd (by have := iRg at_; have : (4 : Int32).toInt = 4 := rfl; omega) (by have := iRg at_; have : (4 : Int32).toInt = 4 := rfl; omega)]; rfl
      refine tild hC hK hH ht_li rfl (iIn (by omega) (by omega)) dX10_done_172 (fun xq37_ l_xq37_ g_xq37_ => ?_)
      refine lv_aload_n hx hb dX10_done_173 rfl (lv_at hl 4 rfl) ?_
      refine xg hC hK hH flX10_27 hc_h rfl dX10_done_174 ?_
      refine lv_iload_n hx hb dX10_done_177 rfl (lv_at hl 5 rfl) ?_
      refine lv_iconst (v := 5) hx hb dX10_done_178 (by decide) ?_
      refine lv_iadd hx hb dX10_done_179 ?_
      refine lv_topi (fun zq38_ e_zq38_ => ?_)
      have h_zq38_ : zq38_.toInt = at_.toInt + 5 := by rw [e_zq38_, iAdd (by have := iRg at_; have : (5 : Int32).toInt = 5 := rfl; omega) (by have := iRg at_; have : (5 : Int32).toInt = 5 := rfl; omega)]; rfl
      refine tild hC hK hH ht_li rfl (iIn (by omega) (by omega)) dX10_done_180 (fun xq39_ l_xq39_ g_xq39_ => ?_)
      refine goI hK hH (runV (As := [.int xq2_, .int xq4_, .int xq6_, .int 0, .int xq37_, .int xq39_]) (rest := []) hC hK hH (c_X10_draws hc_h hn_h hc_al hn_al ht_mt ht_pa ht_li (by exact hR_f)) mlX10_112 (rcvM hK hH hc_h rfl) ⟨⟨Nat.le_of_ble_eq_true rfl, Nat.le_of_ble_eq_true rfl⟩, Nat.le_of_ble_eq_true rfl, Nat.le_of_ble_eq_true rfl⟩ rfl hl.1 rfl (Nat.le_of_ble_eq_true rfl) dX10_done_181) (fun rq42_ Mq40_ Tq41_ Hq_ lcq_ hP hz hH => ?_)
      try dsimp only at hP
      obtain ⟨gq43_, h_gq43_, (hx_al), eT, hfr⟩ := hP
      have eT := eT.symm; subst eT
      have hc_h : Mq40_ h = some (.inr (8, [.ref al, .ref mt, .ref ii, .int ta, .int fpm, .ref pa, .int sm, .int nx, .int tk, .int pl, .int ln, .long va, .int wr, .ref li])) := (hfr h (Or.inl hn_h) n_h_al).trans hc_h
      have hc_al : Mq40_ al = some (.inl (kA 0, 7506, .inl gq43_)) := hx_al
      have hF : ∀ q, FrK T q → q ≠ al → Mq40_ q = M q := fun q hq h0 => (hfr q hq h0).trans (hF q hq h0)
      have hR_gq43_ : Rng gq43_ := h_gq43_.1
      have hK_gq43_ : Ke f gq43_ := hK_f.tr h_gq43_.2
      exact ret_i hC hr hlk hK hH (⟨gq43_, ⟨hR_gq43_, hK_gq43_⟩, hc_al, rfl, hF⟩) (Nat.le_of_ble_eq_true rfl) (Nat.le_of_ble_eq_true rfl) dX10_done_184
    · skip
      refine lv_tableIn (off := 131) (tgt := 185) hx hb dX10_done_54 (by omega) (by omega) (by rw [cq11_]; rfl) (by decide) ?_
      refine lv_aload_n hx hb dX10_done_185 rfl (lv_at hl 4 rfl) ?_
      refine lv_iload_n hx hb dX10_done_186 rfl (lv_at hl 3 rfl) ?_
      refine lv_iload_n hx hb dX10_done_187 rfl (lv_at hl 2 rfl) ?_
      refine lv_iload hx hb dX10_done_188 (lv_at hl 1 rfl) ?_
      refine lv_iconst (v := 1) hx hb dX10_done_190 (by decide) ?_
      refine lv_aload_n hx hb dX10_done_191 rfl (lv_at hl 4 rfl) ?_
      refine xg hC hK hH flX10_27 hc_h rfl dX10_done_192 ?_
      refine lv_iload_n hx hb dX10_done_195 rfl (lv_at hl 5 rfl) ?_
      refine lv_iconst (v := 4) hx hb dX10_done_196 (by decide) ?_
      refine lv_iadd hx hb dX10_done_197 ?_
      refine lv_topi (fun zq44_ e_zq44_ => ?_)
      have h_zq44_ : zq44_.toInt = at_.toInt + 4 := by rw [e_zq44_, iAdd (by have := iRg at_; have : (4 : Int32).toInt = 4 := rfl; omega) (by have := iRg at_; have : (4 : Int32).toInt = 4 := rfl; omega)]; rfl
      refine tild hC hK hH ht_li rfl (iIn (by omega) (by omega)) dX10_done_198 (fun xq45_ l_xq45_ g_xq45_ => ?_)
      refine lv_aload_n hx hb dX10_done_199 rfl (lv_at hl 4 rfl) ?_
      refine xg hC hK hH flX10_27 hc_h rfl dX10_done_200 ?_
      refine lv_iload_n hx hb dX10_done_203 rfl (lv_at hl 5 rfl) ?_
      refine lv_iconst (v := 5) hx hb dX10_done_204 (by decide) ?_
      refine lv_iadd hx hb dX10_done_205 ?_
      refine lv_topi (fun zq46_ e_zq46_ => ?_)
      have h_zq46_ : zq46_.toInt = at_.toInt + 5 := by rw [e_zq46_, iAdd (by have := iRg at_; have : (5 : Int32).toInt = 5 := rfl; omega) (by have := iRg at_; have : (5 : Int32).toInt = 5 := rfl; omega)]; rfl
      refine tild hC hK hH ht_li rfl (iIn (by omega) (by omega)) dX10_done_206 (fun xq47_ l_xq47_ g_xq47_ => ?_)
      refine goI hK hH (runV (As := [.int xq2_, .int xq4_, .int xq6_, .int 1, .int xq45_, .int xq47_]) (rest := []) hC hK hH (c_X10_draws hc_h hn_h hc_al hn_al ht_mt ht_pa ht_li (by exact hR_f)) mlX10_112 (rcvM hK hH hc_h rfl) ⟨⟨Nat.le_of_ble_eq_true rfl, Nat.le_of_ble_eq_true rfl⟩, Nat.le_of_ble_eq_true rfl, Nat.le_of_ble_eq_true rfl⟩ rfl hl.1 rfl (Nat.le_of_ble_eq_true rfl) dX10_done_207) (fun rq50_ Mq48_ Tq49_ Hq_ lcq_ hP hz hH => ?_)
      try dsimp only at hP
      obtain ⟨gq51_, h_gq51_, (hx_al), eT, hfr⟩ := hP
      have eT := eT.symm; subst eT
      have hc_h : Mq48_ h = some (.inr (8, [.ref al, .ref mt, .ref ii, .int ta, .int fpm, .ref pa, .int sm, .int nx, .int tk, .int pl, .int ln, .long va, .int wr, .ref li])) := (hfr h (Or.inl hn_h) n_h_al).trans hc_h
      have hc_al : Mq48_ al = some (.inl (kA 0, 7506, .inl gq51_)) := hx_al
      have hF : ∀ q, FrK T q → q ≠ al → Mq48_ q = M q := fun q hq h0 => (hfr q hq h0).trans (hF q hq h0)
      have hR_gq51_ : Rng gq51_ := h_gq51_.1
      have hK_gq51_ : Ke f gq51_ := hK_f.tr h_gq51_.2
      exact ret_i hC hr hlk hK hH (⟨gq51_, ⟨hR_gq51_, hK_gq51_⟩, hc_al, rfl, hF⟩) (Nat.le_of_ble_eq_true rfl) (Nat.le_of_ble_eq_true rfl) dX10_done_210
    · skip
      refine lv_tableIn (off := 157) (tgt := 211) hx hb dX10_done_54 (by omega) (by omega) (by rw [cq11_]; rfl) (by decide) ?_
      refine lv_aload_n hx hb dX10_done_211 rfl (lv_at hl 4 rfl) ?_
      refine lv_iload_n hx hb dX10_done_212 rfl (lv_at hl 3 rfl) ?_
      refine goI hK hH (runV (As := [.int xq2_]) (rest := []) hC hK hH (c_X10_accepts hc_h hn_h hc_al hn_al ht_mt ht_pa ht_li (by exact hR_f)) mlX10_119 (rcvM hK hH hc_h rfl) ⟨⟨Nat.le_of_ble_eq_true rfl, Nat.le_of_ble_eq_true rfl⟩, Nat.le_of_ble_eq_true rfl, Nat.le_of_ble_eq_true rfl⟩ rfl hl.1 rfl (Nat.le_of_ble_eq_true rfl) dX10_done_213) (fun rq54_ Mq52_ Tq53_ Hq_ lcq_ hP hz hH => ?_)
      try dsimp only at hP
      obtain ⟨gq55_, h_gq55_, (hx_al), eT, hfr⟩ := hP
      have eT := eT.symm; subst eT
      have hc_h : Mq52_ h = some (.inr (8, [.ref al, .ref mt, .ref ii, .int ta, .int fpm, .ref pa, .int sm, .int nx, .int tk, .int pl, .int ln, .long va, .int wr, .ref li])) := (hfr h (Or.inl hn_h) n_h_al).trans hc_h
      have hc_al : Mq52_ al = some (.inl (kA 0, 7506, .inl gq55_)) := hx_al
      have hF : ∀ q, FrK T q → q ≠ al → Mq52_ q = M q := fun q hq h0 => (hfr q hq h0).trans (hF q hq h0)
      have hR_gq55_ : Rng gq55_ := h_gq55_.1
      have hK_gq55_ : Ke f gq55_ := hK_f.tr h_gq55_.2
      exact ret_i hC hr hlk hK hH (⟨gq55_, ⟨hR_gq55_, hK_gq55_⟩, hc_al, rfl, hF⟩) (Nat.le_of_ble_eq_true rfl) (Nat.le_of_ble_eq_true rfl) dX10_done_216
    · skip
      refine lv_tableIn (off := 163) (tgt := 217) hx hb dX10_done_54 (by omega) (by omega) (by rw [cq11_]; rfl) (by decide) ?_
      refine lv_aload_n hx hb dX10_done_217 rfl (lv_at hl 4 rfl) ?_
      refine lv_iload_n hx hb dX10_done_218 rfl (lv_at hl 3 rfl) ?_
      refine lv_iconst (v := 0) hx hb dX10_done_219 (by decide) ?_
      refine lv_aload_n hx hb dX10_done_220 rfl (lv_at hl 4 rfl) ?_
      refine xg hC hK hH flX10_27 hc_h rfl dX10_done_221 ?_
      refine lv_iload_n hx hb dX10_done_224 rfl (lv_at hl 5 rfl) ?_
      refine lv_bipush (v := 7) hx hb dX10_done_225 (by decide) ?_
      refine lv_iadd hx hb dX10_done_227 ?_
      refine lv_topi (fun zq56_ e_zq56_ => ?_)
      have h_zq56_ : zq56_.toInt = at_.toInt + 7 := by rw [e_zq56_, iAdd (by have := iRg at_; have : (7 : Int32).toInt = 7 := rfl; omega) (by have := iRg at_; have : (7 : Int32).toInt = 7 := rfl; omega)]; rfl
      refine tild hC hK hH ht_li rfl (iIn (by omega) (by omega)) dX10_done_228 (fun xq57_ l_xq57_ g_xq57_ => ?_)
      refine lv_iconst (v := 1) hx hb dX10_done_229 (by decide) ?_
      refine jic_ne (tgt := 237) hx hb dX10_done_230 (by decide) (fun cq58_ => ?_) (fun cq58_ => ?_)
      · skip
        have cq58_ : xq57_.toInt ≠ 1 := cq58_
        refine lv_iconst (v := 0) hx hb dX10_done_237 (by decide) ?_
        refine lv_iload_n hx hb dX10_done_238 rfl (lv_at hl 2 rfl) ?_
        refine lv_iload hx hb dX10_done_239 (lv_at hl 1 rfl) ?_
        refine lv_iload hx hb dX10_done_241 (lv_at hl 0 rfl) ?_
        refine goI hK hH (runV (As := [.int xq2_, .int 0, .int 0, .int xq4_, .int xq6_, .int 0]) (rest := []) hC hK hH (c_X10_passes hc_h hn_h hc_al hn_al ht_mt ht_pa ht_li (by exact hR_f)) mlX10_129 (rcvM hK hH hc_h rfl) ⟨⟨Nat.le_of_ble_eq_true rfl, Nat.le_of_ble_eq_true rfl⟩, Nat.le_of_ble_eq_true rfl, Nat.le_of_ble_eq_true rfl⟩ rfl hl.1 rfl (Nat.le_of_ble_eq_true rfl) dX10_done_243) (fun rq61_ Mq59_ Tq60_ Hq_ lcq_ hP hz hH => ?_)
        try dsimp only at hP
        obtain ⟨gq62_, h_gq62_, (hx_al), eT, hfr⟩ := hP
        have eT := eT.symm; subst eT
        have hc_h : Mq59_ h = some (.inr (8, [.ref al, .ref mt, .ref ii, .int ta, .int fpm, .ref pa, .int sm, .int nx, .int tk, .int pl, .int ln, .long va, .int wr, .ref li])) := (hfr h (Or.inl hn_h) n_h_al).trans hc_h
        have hc_al : Mq59_ al = some (.inl (kA 0, 7506, .inl gq62_)) := hx_al
        have hF : ∀ q, FrK T q → q ≠ al → Mq59_ q = M q := fun q hq h0 => (hfr q hq h0).trans (hF q hq h0)
        have hR_gq62_ : Rng gq62_ := h_gq62_.1
        have hK_gq62_ : Ke f gq62_ := hK_f.tr h_gq62_.2
        exact ret_i hC hr hlk hK hH (⟨gq62_, ⟨hR_gq62_, hK_gq62_⟩, hc_al, rfl, hF⟩) (Nat.le_of_ble_eq_true rfl) (Nat.le_of_ble_eq_true rfl) dX10_done_246
      · skip
        have cq58_ : xq57_.toInt = 1 := cq58_
        refine lv_iconst (v := 1) hx hb dX10_done_233 (by decide) ?_
        refine lv_goto (tgt := 238) hx hb dX10_done_234 (by decide) ?_
        refine lv_iload_n hx hb dX10_done_238 rfl (lv_at hl 2 rfl) ?_
        refine lv_iload hx hb dX10_done_239 (lv_at hl 1 rfl) ?_
        refine lv_iload hx hb dX10_done_241 (lv_at hl 0 rfl) ?_
        refine goI hK hH (runV (As := [.int xq2_, .int 0, .int 1, .int xq4_, .int xq6_, .int 0]) (rest := []) hC hK hH (c_X10_passes hc_h hn_h hc_al hn_al ht_mt ht_pa ht_li (by exact hR_f)) mlX10_129 (rcvM hK hH hc_h rfl) ⟨⟨Nat.le_of_ble_eq_true rfl, Nat.le_of_ble_eq_true rfl⟩, Nat.le_of_ble_eq_true rfl, Nat.le_of_ble_eq_true rfl⟩ rfl hl.1 rfl (Nat.le_of_ble_eq_true rfl) dX10_done_243) (fun rq65_ Mq63_ Tq64_ Hq_ lcq_ hP hz hH => ?_)
        try dsimp only at hP
        obtain ⟨gq66_, h_gq66_, (hx_al), eT, hfr⟩ := hP
        have eT := eT.symm; subst eT
        have hc_h : Mq63_ h = some (.inr (8, [.ref al, .ref mt, .ref ii, .int ta, .int fpm, .ref pa, .int sm, .int nx, .int tk, .int pl, .int ln, .long va, .int wr, .ref li])) := (hfr h (Or.inl hn_h) n_h_al).trans hc_h
        have hc_al : Mq63_ al = some (.inl (kA 0, 7506, .inl gq66_)) := hx_al
        have hF : ∀ q, FrK T q → q ≠ al → Mq63_ q = M q := fun q hq h0 => (hfr q hq h0).trans (hF q hq h0)
        have hR_gq66_ : Rng gq66_ := h_gq66_.1
        have hK_gq66_ : Ke f gq66_ := hK_f.tr h_gq66_.2
        exact ret_i hC hr hlk hK hH (⟨gq66_, ⟨hR_gq66_, hK_gq66_⟩, hc_al, rfl, hF⟩) (Nat.le_of_ble_eq_true rfl) (Nat.le_of_ble_eq_true rfl) dX10_done_246
    · skip
      refine lv_tableIn (off := 193) (tgt := 247) hx hb dX10_done_54 (by omega) (by omega) (by rw [cq11_]; rfl) (by decide) ?_
      refine lv_aload_n hx hb dX10_done_247 rfl (lv_at hl 4 rfl) ?_
      refine lv_iload_n hx hb dX10_done_248 rfl (lv_at hl 3 rfl) ?_
      refine lv_iconst (v := 1) hx hb dX10_done_249 (by decide) ?_
      refine lv_aload_n hx hb dX10_done_250 rfl (lv_at hl 4 rfl) ?_
      refine xg hC hK hH flX10_27 hc_h rfl dX10_done_251 ?_
      refine lv_iload_n hx hb dX10_done_254 rfl (lv_at hl 5 rfl) ?_
      refine lv_bipush (v := 7) hx hb dX10_done_255 (by decide) ?_
      refine lv_iadd hx hb dX10_done_257 ?_
      refine lv_topi (fun zq67_ e_zq67_ => ?_)
      have h_zq67_ : zq67_.toInt = at_.toInt + 7 := by rw [e_zq67_, iAdd (by have := iRg at_; have : (7 : Int32).toInt = 7 := rfl; omega) (by have := iRg at_; have : (7 : Int32).toInt = 7 := rfl; omega)]; rfl
      refine tild hC hK hH ht_li rfl (iIn (by omega) (by omega)) dX10_done_258 (fun xq68_ l_xq68_ g_xq68_ => ?_)
      refine lv_iconst (v := 1) hx hb dX10_done_259 (by decide) ?_
      refine jic_ne (tgt := 267) hx hb dX10_done_260 (by decide) (fun cq69_ => ?_) (fun cq69_ => ?_)
      · skip
        have cq69_ : xq68_.toInt ≠ 1 := cq69_
        refine lv_iconst (v := 0) hx hb dX10_done_267 (by decide) ?_
        refine lv_iload_n hx hb dX10_done_268 rfl (lv_at hl 2 rfl) ?_
        refine lv_iload hx hb dX10_done_269 (lv_at hl 1 rfl) ?_
        refine lv_iload hx hb dX10_done_271 (lv_at hl 0 rfl) ?_
        refine goI hK hH (runV (As := [.int xq2_, .int 1, .int 0, .int xq4_, .int xq6_, .int 0]) (rest := []) hC hK hH (c_X10_passes hc_h hn_h hc_al hn_al ht_mt ht_pa ht_li (by exact hR_f)) mlX10_129 (rcvM hK hH hc_h rfl) ⟨⟨Nat.le_of_ble_eq_true rfl, Nat.le_of_ble_eq_true rfl⟩, Nat.le_of_ble_eq_true rfl, Nat.le_of_ble_eq_true rfl⟩ rfl hl.1 rfl (Nat.le_of_ble_eq_true rfl) dX10_done_273) (fun rq72_ Mq70_ Tq71_ Hq_ lcq_ hP hz hH => ?_)
        try dsimp only at hP
        obtain ⟨gq73_, h_gq73_, (hx_al), eT, hfr⟩ := hP
        have eT := eT.symm; subst eT
        have hc_h : Mq70_ h = some (.inr (8, [.ref al, .ref mt, .ref ii, .int ta, .int fpm, .ref pa, .int sm, .int nx, .int tk, .int pl, .int ln, .long va, .int wr, .ref li])) := (hfr h (Or.inl hn_h) n_h_al).trans hc_h
        have hc_al : Mq70_ al = some (.inl (kA 0, 7506, .inl gq73_)) := hx_al
        have hF : ∀ q, FrK T q → q ≠ al → Mq70_ q = M q := fun q hq h0 => (hfr q hq h0).trans (hF q hq h0)
        have hR_gq73_ : Rng gq73_ := h_gq73_.1
        have hK_gq73_ : Ke f gq73_ := hK_f.tr h_gq73_.2
        exact ret_i hC hr hlk hK hH (⟨gq73_, ⟨hR_gq73_, hK_gq73_⟩, hc_al, rfl, hF⟩) (Nat.le_of_ble_eq_true rfl) (Nat.le_of_ble_eq_true rfl) dX10_done_276
      · skip
        have cq69_ : xq68_.toInt = 1 := cq69_
        refine lv_iconst (v := 1) hx hb dX10_done_263 (by decide) ?_
        refine lv_goto (tgt := 268) hx hb dX10_done_264 (by decide) ?_
        refine lv_iload_n hx hb dX10_done_268 rfl (lv_at hl 2 rfl) ?_
        refine lv_iload hx hb dX10_done_269 (lv_at hl 1 rfl) ?_
        refine lv_iload hx hb dX10_done_271 (lv_at hl 0 rfl) ?_
        refine goI hK hH (runV (As := [.int xq2_, .int 1, .int 1, .int xq4_, .int xq6_, .int 0]) (rest := []) hC hK hH (c_X10_passes hc_h hn_h hc_al hn_al ht_mt ht_pa ht_li (by exact hR_f)) mlX10_129 (rcvM hK hH hc_h rfl) ⟨⟨Nat.le_of_ble_eq_true rfl, Nat.le_of_ble_eq_true rfl⟩, Nat.le_of_ble_eq_true rfl, Nat.le_of_ble_eq_true rfl⟩ rfl hl.1 rfl (Nat.le_of_ble_eq_true rfl) dX10_done_273) (fun rq76_ Mq74_ Tq75_ Hq_ lcq_ hP hz hH => ?_)
        try dsimp only at hP
        obtain ⟨gq77_, h_gq77_, (hx_al), eT, hfr⟩ := hP
        have eT := eT.symm; subst eT
        have hc_h : Mq74_ h = some (.inr (8, [.ref al, .ref mt, .ref ii, .int ta, .int fpm, .ref pa, .int sm, .int nx, .int tk, .int pl, .int ln, .long va, .int wr, .ref li])) := (hfr h (Or.inl hn_h) n_h_al).trans hc_h
        have hc_al : Mq74_ al = some (.inl (kA 0, 7506, .inl gq77_)) := hx_al
        have hF : ∀ q, FrK T q → q ≠ al → Mq74_ q = M q := fun q hq h0 => (hfr q hq h0).trans (hF q hq h0)
        have hR_gq77_ : Rng gq77_ := h_gq77_.1
        have hK_gq77_ : Ke f gq77_ := hK_f.tr h_gq77_.2
        exact ret_i hC hr hlk hK hH (⟨gq77_, ⟨hR_gq77_, hK_gq77_⟩, hc_al, rfl, hF⟩) (Nat.le_of_ble_eq_true rfl) (Nat.le_of_ble_eq_true rfl) dX10_done_276
    · skip
      refine lv_tableIn (off := 223) (tgt := 277) hx hb dX10_done_54 (by omega) (by omega) (by rw [cq11_]; rfl) (by decide) ?_
      refine lv_aload_n hx hb dX10_done_277 rfl (lv_at hl 4 rfl) ?_
      refine lv_iload_n hx hb dX10_done_278 rfl (lv_at hl 3 rfl) ?_
      refine lv_iconst (v := 2) hx hb dX10_done_279 (by decide) ?_
      refine lv_aload_n hx hb dX10_done_280 rfl (lv_at hl 4 rfl) ?_
      refine xg hC hK hH flX10_27 hc_h rfl dX10_done_281 ?_
      refine lv_iload_n hx hb dX10_done_284 rfl (lv_at hl 5 rfl) ?_
      refine lv_bipush (v := 7) hx hb dX10_done_285 (by decide) ?_
      refine lv_iadd hx hb dX10_done_287 ?_
      refine lv_topi (fun zq78_ e_zq78_ => ?_)
      have h_zq78_ : zq78_.toInt = at_.toInt + 7 := by rw [e_zq78_, iAdd (by have := iRg at_; have : (7 : Int32).toInt = 7 := rfl; omega) (by have := iRg at_; have : (7 : Int32).toInt = 7 := rfl; omega)]; rfl
      refine tild hC hK hH ht_li rfl (iIn (by omega) (by omega)) dX10_done_288 (fun xq79_ l_xq79_ g_xq79_ => ?_)
      refine lv_iconst (v := 1) hx hb dX10_done_289 (by decide) ?_
      refine jic_ne (tgt := 297) hx hb dX10_done_290 (by decide) (fun cq80_ => ?_) (fun cq80_ => ?_)
      · skip
        have cq80_ : xq79_.toInt ≠ 1 := cq80_
        refine lv_iconst (v := 0) hx hb dX10_done_297 (by decide) ?_
        refine lv_iload_n hx hb dX10_done_298 rfl (lv_at hl 2 rfl) ?_
        refine lv_iload hx hb dX10_done_299 (lv_at hl 1 rfl) ?_
        refine lv_iload hx hb dX10_done_301 (lv_at hl 0 rfl) ?_
        refine goI hK hH (runV (As := [.int xq2_, .int 2, .int 0, .int xq4_, .int xq6_, .int 0]) (rest := []) hC hK hH (c_X10_passes hc_h hn_h hc_al hn_al ht_mt ht_pa ht_li (by exact hR_f)) mlX10_129 (rcvM hK hH hc_h rfl) ⟨⟨Nat.le_of_ble_eq_true rfl, Nat.le_of_ble_eq_true rfl⟩, Nat.le_of_ble_eq_true rfl, Nat.le_of_ble_eq_true rfl⟩ rfl hl.1 rfl (Nat.le_of_ble_eq_true rfl) dX10_done_303) (fun rq83_ Mq81_ Tq82_ Hq_ lcq_ hP hz hH => ?_)
        try dsimp only at hP
        obtain ⟨gq84_, h_gq84_, (hx_al), eT, hfr⟩ := hP
        have eT := eT.symm; subst eT
        have hc_h : Mq81_ h = some (.inr (8, [.ref al, .ref mt, .ref ii, .int ta, .int fpm, .ref pa, .int sm, .int nx, .int tk, .int pl, .int ln, .long va, .int wr, .ref li])) := (hfr h (Or.inl hn_h) n_h_al).trans hc_h
        have hc_al : Mq81_ al = some (.inl (kA 0, 7506, .inl gq84_)) := hx_al
        have hF : ∀ q, FrK T q → q ≠ al → Mq81_ q = M q := fun q hq h0 => (hfr q hq h0).trans (hF q hq h0)
        have hR_gq84_ : Rng gq84_ := h_gq84_.1
        have hK_gq84_ : Ke f gq84_ := hK_f.tr h_gq84_.2
        exact ret_i hC hr hlk hK hH (⟨gq84_, ⟨hR_gq84_, hK_gq84_⟩, hc_al, rfl, hF⟩) (Nat.le_of_ble_eq_true rfl) (Nat.le_of_ble_eq_true rfl) dX10_done_306
      · skip
        have cq80_ : xq79_.toInt = 1 := cq80_
        refine lv_iconst (v := 1) hx hb dX10_done_293 (by decide) ?_
        refine lv_goto (tgt := 298) hx hb dX10_done_294 (by decide) ?_
        refine lv_iload_n hx hb dX10_done_298 rfl (lv_at hl 2 rfl) ?_
        refine lv_iload hx hb dX10_done_299 (lv_at hl 1 rfl) ?_
        refine lv_iload hx hb dX10_done_301 (lv_at hl 0 rfl) ?_
        refine goI hK hH (runV (As := [.int xq2_, .int 2, .int 1, .int xq4_, .int xq6_, .int 0]) (rest := []) hC hK hH (c_X10_passes hc_h hn_h hc_al hn_al ht_mt ht_pa ht_li (by exact hR_f)) mlX10_129 (rcvM hK hH hc_h rfl) ⟨⟨Nat.le_of_ble_eq_true rfl, Nat.le_of_ble_eq_true rfl⟩, Nat.le_of_ble_eq_true rfl, Nat.le_of_ble_eq_true rfl⟩ rfl hl.1 rfl (Nat.le_of_ble_eq_true rfl) dX10_done_303) (fun rq87_ Mq85_ Tq86_ Hq_ lcq_ hP hz hH => ?_)
        try dsimp only at hP
        obtain ⟨gq88_, h_gq88_, (hx_al), eT, hfr⟩ := hP
        have eT := eT.symm; subst eT
        have hc_h : Mq85_ h = some (.inr (8, [.ref al, .ref mt, .ref ii, .int ta, .int fpm, .ref pa, .int sm, .int nx, .int tk, .int pl, .int ln, .long va, .int wr, .ref li])) := (hfr h (Or.inl hn_h) n_h_al).trans hc_h
        have hc_al : Mq85_ al = some (.inl (kA 0, 7506, .inl gq88_)) := hx_al
        have hF : ∀ q, FrK T q → q ≠ al → Mq85_ q = M q := fun q hq h0 => (hfr q hq h0).trans (hF q hq h0)
        have hR_gq88_ : Rng gq88_ := h_gq88_.1
        have hK_gq88_ : Ke f gq88_ := hK_f.tr h_gq88_.2
        exact ret_i hC hr hlk hK hH (⟨gq88_, ⟨hR_gq88_, hK_gq88_⟩, hc_al, rfl, hF⟩) (Nat.le_of_ble_eq_true rfl) (Nat.le_of_ble_eq_true rfl) dX10_done_306
    · skip
      refine lv_tableIn (off := 253) (tgt := 307) hx hb dX10_done_54 (by omega) (by omega) (by rw [cq11_]; rfl) (by decide) ?_
      refine lv_aload_n hx hb dX10_done_307 rfl (lv_at hl 4 rfl) ?_
      refine lv_iload_n hx hb dX10_done_308 rfl (lv_at hl 3 rfl) ?_
      refine lv_iconst (v := 3) hx hb dX10_done_309 (by decide) ?_
      refine lv_aload_n hx hb dX10_done_310 rfl (lv_at hl 4 rfl) ?_
      refine xg hC hK hH flX10_27 hc_h rfl dX10_done_311 ?_
      refine lv_iload_n hx hb dX10_done_314 rfl (lv_at hl 5 rfl) ?_
      refine lv_bipush (v := 7) hx hb dX10_done_315 (by decide) ?_
      refine lv_iadd hx hb dX10_done_317 ?_
      refine lv_topi (fun zq89_ e_zq89_ => ?_)
      have h_zq89_ : zq89_.toInt = at_.toInt + 7 := by rw [e_zq89_, iAdd (by have := iRg at_; have : (7 : Int32).toInt = 7 := rfl; omega) (by have := iRg at_; have : (7 : Int32).toInt = 7 := rfl; omega)]; rfl
      refine tild hC hK hH ht_li rfl (iIn (by omega) (by omega)) dX10_done_318 (fun xq90_ l_xq90_ g_xq90_ => ?_)
      refine lv_iconst (v := 1) hx hb dX10_done_319 (by decide) ?_
      refine jic_ne (tgt := 327) hx hb dX10_done_320 (by decide) (fun cq91_ => ?_) (fun cq91_ => ?_)
      · skip
        have cq91_ : xq90_.toInt ≠ 1 := cq91_
        refine lv_iconst (v := 0) hx hb dX10_done_327 (by decide) ?_
        refine lv_iload_n hx hb dX10_done_328 rfl (lv_at hl 2 rfl) ?_
        refine lv_iload hx hb dX10_done_329 (lv_at hl 1 rfl) ?_
        refine lv_iload hx hb dX10_done_331 (lv_at hl 0 rfl) ?_
        refine goI hK hH (runV (As := [.int xq2_, .int 3, .int 0, .int xq4_, .int xq6_, .int 0]) (rest := []) hC hK hH (c_X10_passes hc_h hn_h hc_al hn_al ht_mt ht_pa ht_li (by exact hR_f)) mlX10_129 (rcvM hK hH hc_h rfl) ⟨⟨Nat.le_of_ble_eq_true rfl, Nat.le_of_ble_eq_true rfl⟩, Nat.le_of_ble_eq_true rfl, Nat.le_of_ble_eq_true rfl⟩ rfl hl.1 rfl (Nat.le_of_ble_eq_true rfl) dX10_done_333) (fun rq94_ Mq92_ Tq93_ Hq_ lcq_ hP hz hH => ?_)
        try dsimp only at hP
        obtain ⟨gq95_, h_gq95_, (hx_al), eT, hfr⟩ := hP
        have eT := eT.symm; subst eT
        have hc_h : Mq92_ h = some (.inr (8, [.ref al, .ref mt, .ref ii, .int ta, .int fpm, .ref pa, .int sm, .int nx, .int tk, .int pl, .int ln, .long va, .int wr, .ref li])) := (hfr h (Or.inl hn_h) n_h_al).trans hc_h
        have hc_al : Mq92_ al = some (.inl (kA 0, 7506, .inl gq95_)) := hx_al
        have hF : ∀ q, FrK T q → q ≠ al → Mq92_ q = M q := fun q hq h0 => (hfr q hq h0).trans (hF q hq h0)
        have hR_gq95_ : Rng gq95_ := h_gq95_.1
        have hK_gq95_ : Ke f gq95_ := hK_f.tr h_gq95_.2
        exact ret_i hC hr hlk hK hH (⟨gq95_, ⟨hR_gq95_, hK_gq95_⟩, hc_al, rfl, hF⟩) (Nat.le_of_ble_eq_true rfl) (Nat.le_of_ble_eq_true rfl) dX10_done_336
      · skip
        have cq91_ : xq90_.toInt = 1 := cq91_
        refine lv_iconst (v := 1) hx hb dX10_done_323 (by decide) ?_
        refine lv_goto (tgt := 328) hx hb dX10_done_324 (by decide) ?_
        refine lv_iload_n hx hb dX10_done_328 rfl (lv_at hl 2 rfl) ?_
        refine lv_iload hx hb dX10_done_329 (lv_at hl 1 rfl) ?_
        refine lv_iload hx hb dX10_done_331 (lv_at hl 0 rfl) ?_
        refine goI hK hH (runV (As := [.int xq2_, .int 3, .int 1, .int xq4_, .int xq6_, .int 0]) (rest := []) hC hK hH (c_X10_passes hc_h hn_h hc_al hn_al ht_mt ht_pa ht_li (by exact hR_f)) mlX10_129 (rcvM hK hH hc_h rfl) ⟨⟨Nat.le_of_ble_eq_true rfl, Nat.le_of_ble_eq_true rfl⟩, Nat.le_of_ble_eq_true rfl, Nat.le_of_ble_eq_true rfl⟩ rfl hl.1 rfl (Nat.le_of_ble_eq_true rfl) dX10_done_333) (fun rq98_ Mq96_ Tq97_ Hq_ lcq_ hP hz hH => ?_)
        try dsimp only at hP
        obtain ⟨gq99_, h_gq99_, (hx_al), eT, hfr⟩ := hP
        have eT := eT.symm; subst eT
        have hc_h : Mq96_ h = some (.inr (8, [.ref al, .ref mt, .ref ii, .int ta, .int fpm, .ref pa, .int sm, .int nx, .int tk, .int pl, .int ln, .long va, .int wr, .ref li])) := (hfr h (Or.inl hn_h) n_h_al).trans hc_h
        have hc_al : Mq96_ al = some (.inl (kA 0, 7506, .inl gq99_)) := hx_al
        have hF : ∀ q, FrK T q → q ≠ al → Mq96_ q = M q := fun q hq h0 => (hfr q hq h0).trans (hF q hq h0)
        have hR_gq99_ : Rng gq99_ := h_gq99_.1
        have hK_gq99_ : Ke f gq99_ := hK_f.tr h_gq99_.2
        exact ret_i hC hr hlk hK hH (⟨gq99_, ⟨hR_gq99_, hK_gq99_⟩, hc_al, rfl, hF⟩) (Nat.le_of_ble_eq_true rfl) (Nat.le_of_ble_eq_true rfl) dX10_done_336
    · skip
      refine lv_tableIn (off := 283) (tgt := 337) hx hb dX10_done_54 (by omega) (by omega) (by rw [cq11_]; rfl) (by decide) ?_
      refine lv_aload_n hx hb dX10_done_337 rfl (lv_at hl 4 rfl) ?_
      refine lv_iload_n hx hb dX10_done_338 rfl (lv_at hl 3 rfl) ?_
      refine lv_iload_n hx hb dX10_done_339 rfl (lv_at hl 2 rfl) ?_
      refine lv_iload hx hb dX10_done_340 (lv_at hl 1 rfl) ?_
      refine lv_aload_n hx hb dX10_done_342 rfl (lv_at hl 4 rfl) ?_
      refine xg hC hK hH flX10_27 hc_h rfl dX10_done_343 ?_
      refine lv_iload_n hx hb dX10_done_346 rfl (lv_at hl 5 rfl) ?_
      refine lv_iconst (v := 4) hx hb dX10_done_347 (by decide) ?_
      refine lv_iadd hx hb dX10_done_348 ?_
      refine lv_topi (fun zq100_ e_zq100_ => ?_)
      have h_zq100_ : zq100_.toInt = at_.toInt + 4 := by rw [e_zq100_, iAdd (by have := iRg at_; have : (4 : Int32).toInt = 4 := rfl; omega) (by have := iRg at_; have : (4 : Int32).toInt = 4 := rfl; omega)]; rfl
      refine tild hC hK hH ht_li rfl (iIn (by omega) (by omega)) dX10_done_349 (fun xq101_ l_xq101_ g_xq101_ => ?_)
      refine lv_iload hx hb dX10_done_350 (lv_at hl 0 rfl) ?_
      refine goI hK hH (runV (As := [.int xq2_, .int xq4_, .int xq6_, .int xq101_, .int 0]) (rest := []) hC hK hH (c_X10_forges hc_h hn_h hc_al hn_al ht_mt ht_pa ht_li (by exact hR_f)) mlX10_133 (rcvM hK hH hc_h rfl) ⟨⟨Nat.le_of_ble_eq_true rfl, Nat.le_of_ble_eq_true rfl⟩, Nat.le_of_ble_eq_true rfl, Nat.le_of_ble_eq_true rfl⟩ rfl hl.1 rfl (Nat.le_of_ble_eq_true rfl) dX10_done_352) (fun rq104_ Mq102_ Tq103_ Hq_ lcq_ hP hz hH => ?_)
      try dsimp only at hP
      obtain ⟨gq105_, h_gq105_, (hx_al), eT, hfr⟩ := hP
      have eT := eT.symm; subst eT
      have hc_h : Mq102_ h = some (.inr (8, [.ref al, .ref mt, .ref ii, .int ta, .int fpm, .ref pa, .int sm, .int nx, .int tk, .int pl, .int ln, .long va, .int wr, .ref li])) := (hfr h (Or.inl hn_h) n_h_al).trans hc_h
      have hc_al : Mq102_ al = some (.inl (kA 0, 7506, .inl gq105_)) := hx_al
      have hF : ∀ q, FrK T q → q ≠ al → Mq102_ q = M q := fun q hq h0 => (hfr q hq h0).trans (hF q hq h0)
      have hR_gq105_ : Rng gq105_ := h_gq105_.1
      have hK_gq105_ : Ke f gq105_ := hK_f.tr h_gq105_.2
      exact ret_i hC hr hlk hK hH (⟨gq105_, ⟨hR_gq105_, hK_gq105_⟩, hc_al, rfl, hF⟩) (Nat.le_of_ble_eq_true rfl) (Nat.le_of_ble_eq_true rfl) dX10_done_355
    · skip
      refine lv_tableIn (off := 302) (tgt := 356) hx hb dX10_done_54 (by omega) (by omega) (by rw [cq11_]; rfl) (by decide) ?_
      refine lv_aload_n hx hb dX10_done_356 rfl (lv_at hl 4 rfl) ?_
      refine lv_iload_n hx hb dX10_done_357 rfl (lv_at hl 3 rfl) ?_
      refine lv_iload_n hx hb dX10_done_358 rfl (lv_at hl 2 rfl) ?_
      refine goI hK hH (runV (As := [.int xq2_, .int xq4_]) (rest := []) hC hK hH (c_X10_finds hc_h hn_h hc_al hn_al ht_mt ht_pa ht_li (by exact hR_f)) mlX10_137 (rcvM hK hH hc_h rfl) ⟨⟨Nat.le_of_ble_eq_true rfl, Nat.le_of_ble_eq_true rfl⟩, Nat.le_of_ble_eq_true rfl, Nat.le_of_ble_eq_true rfl⟩ rfl hl.1 rfl (Nat.le_of_ble_eq_true rfl) dX10_done_359) (fun rq108_ Mq106_ Tq107_ Hq_ lcq_ hP hz hH => ?_)
      try dsimp only at hP
      obtain ⟨gq109_, h_gq109_, (hx_al), eT, hfr⟩ := hP
      have eT := eT.symm; subst eT
      have hc_h : Mq106_ h = some (.inr (8, [.ref al, .ref mt, .ref ii, .int ta, .int fpm, .ref pa, .int sm, .int nx, .int tk, .int pl, .int ln, .long va, .int wr, .ref li])) := (hfr h (Or.inl hn_h) n_h_al).trans hc_h
      have hc_al : Mq106_ al = some (.inl (kA 0, 7506, .inl gq109_)) := hx_al
      have hF : ∀ q, FrK T q → q ≠ al → Mq106_ q = M q := fun q hq h0 => (hfr q hq h0).trans (hF q hq h0)
      have hR_gq109_ : Rng gq109_ := h_gq109_.1
      have hK_gq109_ : Ke f gq109_ := hK_f.tr h_gq109_.2
      exact ret_i hC hr hlk hK hH (⟨gq109_, ⟨hR_gq109_, hK_gq109_⟩, hc_al, rfl, hF⟩) (Nat.le_of_ble_eq_true rfl) (Nat.le_of_ble_eq_true rfl) dX10_done_362
    · skip
      refine lv_tableIn (off := 309) (tgt := 363) hx hb dX10_done_54 (by omega) (by omega) (by rw [cq11_]; rfl) (by decide) ?_
      refine lv_aload_n hx hb dX10_done_363 rfl (lv_at hl 4 rfl) ?_
      refine lv_iload_n hx hb dX10_done_364 rfl (lv_at hl 3 rfl) ?_
      refine lv_iload_n hx hb dX10_done_365 rfl (lv_at hl 2 rfl) ?_
      refine lv_iconst (v := 1) hx hb dX10_done_366 (by decide) ?_
      refine goI hK hH (runV (As := [.int xq2_, .int xq4_, .int 1]) (rest := []) hC hK hH (c_X10_defends hc_h hn_h hc_al hn_al ht_mt ht_pa ht_li (by exact hR_f)) mlX10_146 (rcvM hK hH hc_h rfl) ⟨⟨Nat.le_of_ble_eq_true rfl, Nat.le_of_ble_eq_true rfl⟩, Nat.le_of_ble_eq_true rfl, Nat.le_of_ble_eq_true rfl⟩ rfl hl.1 rfl (Nat.le_of_ble_eq_true rfl) dX10_done_367) (fun rq112_ Mq110_ Tq111_ Hq_ lcq_ hP hz hH => ?_)
      try dsimp only at hP
      obtain ⟨gq113_, h_gq113_, (hx_al), eT, hfr⟩ := hP
      have eT := eT.symm; subst eT
      have hc_h : Mq110_ h = some (.inr (8, [.ref al, .ref mt, .ref ii, .int ta, .int fpm, .ref pa, .int sm, .int nx, .int tk, .int pl, .int ln, .long va, .int wr, .ref li])) := (hfr h (Or.inl hn_h) n_h_al).trans hc_h
      have hc_al : Mq110_ al = some (.inl (kA 0, 7506, .inl gq113_)) := hx_al
      have hF : ∀ q, FrK T q → q ≠ al → Mq110_ q = M q := fun q hq h0 => (hfr q hq h0).trans (hF q hq h0)
      have hR_gq113_ : Rng gq113_ := h_gq113_.1
      have hK_gq113_ : Ke f gq113_ := hK_f.tr h_gq113_.2
      exact ret_i hC hr hlk hK hH (⟨gq113_, ⟨hR_gq113_, hK_gq113_⟩, hc_al, rfl, hF⟩) (Nat.le_of_ble_eq_true rfl) (Nat.le_of_ble_eq_true rfl) dX10_done_370
    · skip
      refine lv_tableIn (off := 317) (tgt := 371) hx hb dX10_done_54 (by omega) (by omega) (by rw [cq11_]; rfl) (by decide) ?_
      refine lv_aload_n hx hb dX10_done_371 rfl (lv_at hl 4 rfl) ?_
      refine lv_iload_n hx hb dX10_done_372 rfl (lv_at hl 3 rfl) ?_
      refine lv_iload_n hx hb dX10_done_373 rfl (lv_at hl 2 rfl) ?_
      refine lv_iconst (v := 0) hx hb dX10_done_374 (by decide) ?_
      refine goI hK hH (runV (As := [.int xq2_, .int xq4_, .int 0]) (rest := []) hC hK hH (c_X10_defends hc_h hn_h hc_al hn_al ht_mt ht_pa ht_li (by exact hR_f)) mlX10_146 (rcvM hK hH hc_h rfl) ⟨⟨Nat.le_of_ble_eq_true rfl, Nat.le_of_ble_eq_true rfl⟩, Nat.le_of_ble_eq_true rfl, Nat.le_of_ble_eq_true rfl⟩ rfl hl.1 rfl (Nat.le_of_ble_eq_true rfl) dX10_done_375) (fun rq116_ Mq114_ Tq115_ Hq_ lcq_ hP hz hH => ?_)
      try dsimp only at hP
      obtain ⟨gq117_, h_gq117_, (hx_al), eT, hfr⟩ := hP
      have eT := eT.symm; subst eT
      have hc_h : Mq114_ h = some (.inr (8, [.ref al, .ref mt, .ref ii, .int ta, .int fpm, .ref pa, .int sm, .int nx, .int tk, .int pl, .int ln, .long va, .int wr, .ref li])) := (hfr h (Or.inl hn_h) n_h_al).trans hc_h
      have hc_al : Mq114_ al = some (.inl (kA 0, 7506, .inl gq117_)) := hx_al
      have hF : ∀ q, FrK T q → q ≠ al → Mq114_ q = M q := fun q hq h0 => (hfr q hq h0).trans (hF q hq h0)
      have hR_gq117_ : Rng gq117_ := h_gq117_.1
      have hK_gq117_ : Ke f gq117_ := hK_f.tr h_gq117_.2
      exact ret_i hC hr hlk hK hH (⟨gq117_, ⟨hR_gq117_, hK_gq117_⟩, hc_al, rfl, hF⟩) (Nat.le_of_ble_eq_true rfl) (Nat.le_of_ble_eq_true rfl) dX10_done_378
    · skip
      refine lv_tableIn (off := 325) (tgt := 379) hx hb dX10_done_54 (by omega) (by omega) (by rw [cq11_]; rfl) (by decide) ?_
      refine lv_aload_n hx hb dX10_done_379 rfl (lv_at hl 4 rfl) ?_
      refine lv_iload_n hx hb dX10_done_380 rfl (lv_at hl 3 rfl) ?_
      refine goI hK hH (runV (As := [.int xq2_]) (rest := []) hC hK hH (c_X10_presents hc_h hn_h hc_al hn_al ht_mt ht_pa ht_li (by exact hR_f)) mlX10_153 (rcvM hK hH hc_h rfl) ⟨⟨Nat.le_of_ble_eq_true rfl, Nat.le_of_ble_eq_true rfl⟩, Nat.le_of_ble_eq_true rfl, Nat.le_of_ble_eq_true rfl⟩ rfl hl.1 rfl (Nat.le_of_ble_eq_true rfl) dX10_done_381) (fun rq120_ Mq118_ Tq119_ Hq_ lcq_ hP hz hH => ?_)
      try dsimp only at hP
      obtain ⟨gq121_, h_gq121_, (hx_al), eT, hfr⟩ := hP
      have eT := eT.symm; subst eT
      have hc_h : Mq118_ h = some (.inr (8, [.ref al, .ref mt, .ref ii, .int ta, .int fpm, .ref pa, .int sm, .int nx, .int tk, .int pl, .int ln, .long va, .int wr, .ref li])) := (hfr h (Or.inl hn_h) n_h_al).trans hc_h
      have hc_al : Mq118_ al = some (.inl (kA 0, 7506, .inl gq121_)) := hx_al
      have hF : ∀ q, FrK T q → q ≠ al → Mq118_ q = M q := fun q hq h0 => (hfr q hq h0).trans (hF q hq h0)
      have hR_gq121_ : Rng gq121_ := h_gq121_.1
      have hK_gq121_ : Ke f gq121_ := hK_f.tr h_gq121_.2
      refine lv_istore (lv' := [(6, .int rq120_), (5, .int 0), (4, .int xq6_), (3, .int xq4_), (2, .int xq2_), (0, .ref h), (1, .int at_)]) hx hb dX10_done_384 hl (by decide) rfl (fun ls hl => ?_)
      refine lv_iload hx hb dX10_done_386 (lv_at hl 0 rfl) ?_
      refine lv_iconst (v := 1) hx hb dX10_done_388 (by decide) ?_
      refine jic_le (tgt := 397) hx hb dX10_done_389 (by decide) (fun cq122_ => ?_) (fun cq122_ => ?_)
      · skip
        have cq122_ : rq120_.toInt ≤ 1 := cq122_
        refine lv_iconst (v := 0) hx hb dX10_done_397 (by decide) ?_
        exact ret_i hC hr hlk hK hH (⟨gq121_, ⟨hR_gq121_, hK_gq121_⟩, hc_al, rfl, hF⟩) (Nat.le_of_ble_eq_true rfl) (Nat.le_of_ble_eq_true rfl) dX10_done_398
      · skip
        have cq122_ : 1 < rq120_.toInt := cq122_
        refine lv_iload hx hb dX10_done_392 (lv_at hl 0 rfl) ?_
        refine lv_goto (tgt := 398) hx hb dX10_done_394 (by decide) ?_
        exact ret_i hC hr hlk hK hH (⟨gq121_, ⟨hR_gq121_, hK_gq121_⟩, hc_al, rfl, hF⟩) (Nat.le_of_ble_eq_true rfl) (Nat.le_of_ble_eq_true rfl) dX10_done_398
    · skip
      refine lv_tableIn (off := 345) (tgt := 399) hx hb dX10_done_54 (by omega) (by omega) (by rw [cq11_]; rfl) (by decide) ?_
      refine lv_aload_n hx hb dX10_done_399 rfl (lv_at hl 4 rfl) ?_
      refine lv_iload_n hx hb dX10_done_400 rfl (lv_at hl 3 rfl) ?_
      refine lv_iconst (v := -1) hx hb dX10_done_401 (by decide) ?_
      refine lv_iload_n hx hb dX10_done_402 rfl (lv_at hl 2 rfl) ?_
      refine goI hK hH (runV (As := [.int xq2_, .int (-1), .int xq4_]) (rest := []) hC hK hH (c_X10_notifies hc_h hn_h hc_al hn_al ht_mt ht_pa ht_li (by exact hR_f)) mlX10_156 (rcvM hK hH hc_h rfl) ⟨⟨Nat.le_of_ble_eq_true rfl, Nat.le_of_ble_eq_true rfl⟩, Nat.le_of_ble_eq_true rfl, Nat.le_of_ble_eq_true rfl⟩ rfl hl.1 rfl (Nat.le_of_ble_eq_true rfl) dX10_done_403) (fun rq125_ Mq123_ Tq124_ Hq_ lcq_ hP hz hH => ?_)
      try dsimp only at hP
      obtain ⟨gq126_, h_gq126_, (hx_al), eT, hfr⟩ := hP
      have eT := eT.symm; subst eT
      have hc_h : Mq123_ h = some (.inr (8, [.ref al, .ref mt, .ref ii, .int ta, .int fpm, .ref pa, .int sm, .int nx, .int tk, .int pl, .int ln, .long va, .int wr, .ref li])) := (hfr h (Or.inl hn_h) n_h_al).trans hc_h
      have hc_al : Mq123_ al = some (.inl (kA 0, 7506, .inl gq126_)) := hx_al
      have hF : ∀ q, FrK T q → q ≠ al → Mq123_ q = M q := fun q hq h0 => (hfr q hq h0).trans (hF q hq h0)
      have hR_gq126_ : Rng gq126_ := h_gq126_.1
      have hK_gq126_ : Ke f gq126_ := hK_f.tr h_gq126_.2
      exact ret_i hC hr hlk hK hH (⟨gq126_, ⟨hR_gq126_, hK_gq126_⟩, hc_al, rfl, hF⟩) (Nat.le_of_ble_eq_true rfl) (Nat.le_of_ble_eq_true rfl) dX10_done_406
    · skip
      refine lv_tableIn (off := 353) (tgt := 407) hx hb dX10_done_54 (by omega) (by omega) (by rw [cq11_]; rfl) (by decide) ?_
      refine lv_aload_n hx hb dX10_done_407 rfl (lv_at hl 4 rfl) ?_
      refine lv_iload_n hx hb dX10_done_408 rfl (lv_at hl 3 rfl) ?_
      refine lv_iload_n hx hb dX10_done_409 rfl (lv_at hl 2 rfl) ?_
      refine lv_iload hx hb dX10_done_410 (lv_at hl 1 rfl) ?_
      refine goI hK hH (runV (As := [.int xq2_, .int xq4_, .int xq6_]) (rest := []) hC hK hH (c_X10_notifies hc_h hn_h hc_al hn_al ht_mt ht_pa ht_li (by exact hR_f)) mlX10_156 (rcvM hK hH hc_h rfl) ⟨⟨Nat.le_of_ble_eq_true rfl, Nat.le_of_ble_eq_true rfl⟩, Nat.le_of_ble_eq_true rfl, Nat.le_of_ble_eq_true rfl⟩ rfl hl.1 rfl (Nat.le_of_ble_eq_true rfl) dX10_done_412) (fun rq129_ Mq127_ Tq128_ Hq_ lcq_ hP hz hH => ?_)
      try dsimp only at hP
      obtain ⟨gq130_, h_gq130_, (hx_al), eT, hfr⟩ := hP
      have eT := eT.symm; subst eT
      have hc_h : Mq127_ h = some (.inr (8, [.ref al, .ref mt, .ref ii, .int ta, .int fpm, .ref pa, .int sm, .int nx, .int tk, .int pl, .int ln, .long va, .int wr, .ref li])) := (hfr h (Or.inl hn_h) n_h_al).trans hc_h
      have hc_al : Mq127_ al = some (.inl (kA 0, 7506, .inl gq130_)) := hx_al
      have hF : ∀ q, FrK T q → q ≠ al → Mq127_ q = M q := fun q hq h0 => (hfr q hq h0).trans (hF q hq h0)
      have hR_gq130_ : Rng gq130_ := h_gq130_.1
      have hK_gq130_ : Ke f gq130_ := hK_f.tr h_gq130_.2
      exact ret_i hC hr hlk hK hH (⟨gq130_, ⟨hR_gq130_, hK_gq130_⟩, hc_al, rfl, hF⟩) (Nat.le_of_ble_eq_true rfl) (Nat.le_of_ble_eq_true rfl) dX10_done_415
    · skip
      refine lv_tableIn (off := 362) (tgt := 416) hx hb dX10_done_54 (by omega) (by omega) (by rw [cq11_]; rfl) (by decide) ?_
      refine lv_aload_n hx hb dX10_done_416 rfl (lv_at hl 4 rfl) ?_
      refine lv_iload_n hx hb dX10_done_417 rfl (lv_at hl 3 rfl) ?_
      refine lv_iload_n hx hb dX10_done_418 rfl (lv_at hl 2 rfl) ?_
      refine goI hK hH (runV (As := [.int xq2_, .int xq4_]) (rest := []) hC hK hH (c_X10_releases hc_h hn_h hc_al hn_al ht_mt ht_pa ht_li (by exact hR_f)) mlX10_159 (rcvM hK hH hc_h rfl) ⟨⟨Nat.le_of_ble_eq_true rfl, Nat.le_of_ble_eq_true rfl⟩, Nat.le_of_ble_eq_true rfl, Nat.le_of_ble_eq_true rfl⟩ rfl hl.1 rfl (Nat.le_of_ble_eq_true rfl) dX10_done_419) (fun rq133_ Mq131_ Tq132_ Hq_ lcq_ hP hz hH => ?_)
      try dsimp only at hP
      obtain ⟨gq134_, h_gq134_, (hx_al), eT, hfr⟩ := hP
      have eT := eT.symm; subst eT
      have hc_h : Mq131_ h = some (.inr (8, [.ref al, .ref mt, .ref ii, .int ta, .int fpm, .ref pa, .int sm, .int nx, .int tk, .int pl, .int ln, .long va, .int wr, .ref li])) := (hfr h (Or.inl hn_h) n_h_al).trans hc_h
      have hc_al : Mq131_ al = some (.inl (kA 0, 7506, .inl gq134_)) := hx_al
      have hF : ∀ q, FrK T q → q ≠ al → Mq131_ q = M q := fun q hq h0 => (hfr q hq h0).trans (hF q hq h0)
      have hR_gq134_ : Rng gq134_ := h_gq134_.1
      have hK_gq134_ : Ke f gq134_ := hK_f.tr h_gq134_.2
      exact ret_i hC hr hlk hK hH (⟨gq134_, ⟨hR_gq134_, hK_gq134_⟩, hc_al, rfl, hF⟩) (Nat.le_of_ble_eq_true rfl) (Nat.le_of_ble_eq_true rfl) dX10_done_422
  · skip
    have cq9_ : xq8_.toInt = 1 := cq9_
    refine lv_iconst (v := 1) hx hb dX10_done_41 (by decide) ?_
    refine lv_goto (tgt := 46) hx hb dX10_done_42 (by decide) ?_
    refine lv_istore (lv' := [(5, .int 1), (4, .int xq6_), (3, .int xq4_), (2, .int xq2_), (0, .ref h), (1, .int at_)]) hx hb dX10_done_46 hl (by decide) rfl (fun ls hl => ?_)
    refine lv_aload_n hx hb dX10_done_48 rfl (lv_at hl 4 rfl) ?_
    refine xg hC hK hH flX10_27 hc_h rfl dX10_done_49 ?_
    refine lv_iload_n hx hb dX10_done_52 rfl (lv_at hl 5 rfl) ?_
    refine tild hC hK hH ht_li rfl (iIn (by omega) (by omega)) dX10_done_53 (fun xq135_ l_xq135_ g_xq135_ => ?_)
    rcases (show xq135_.toInt < 0 ∨ 17 < xq135_.toInt ∨ xq135_.toInt = 0 ∨ xq135_.toInt = 1 ∨ xq135_.toInt = 2 ∨ xq135_.toInt = 3 ∨ xq135_.toInt = 4 ∨ xq135_.toInt = 5 ∨ xq135_.toInt = 6 ∨ xq135_.toInt = 7 ∨ xq135_.toInt = 8 ∨ xq135_.toInt = 9 ∨ xq135_.toInt = 10 ∨ xq135_.toInt = 11 ∨ xq135_.toInt = 12 ∨ xq135_.toInt = 13 ∨ xq135_.toInt = 14 ∨ xq135_.toInt = 15 ∨ xq135_.toInt = 16 ∨ xq135_.toInt = 17 by omega) with cq136_ | cq136_ | cq136_ | cq136_ | cq136_ | cq136_ | cq136_ | cq136_ | cq136_ | cq136_ | cq136_ | cq136_ | cq136_ | cq136_ | cq136_ | cq136_ | cq136_ | cq136_ | cq136_ | cq136_
    · skip
      refine lv_tableOut (tgt := 423) hx hb dX10_done_54 (Or.inl cq136_) (by decide) ?_
      refine lv_aload_n hx hb dX10_done_423 rfl (lv_at hl 4 rfl) ?_
      refine lv_iload_n hx hb dX10_done_424 rfl (lv_at hl 3 rfl) ?_
      refine lv_iload_n hx hb dX10_done_425 rfl (lv_at hl 2 rfl) ?_
      refine goI hK hH (runV (As := [.int xq2_, .int xq4_]) (rest := []) hC hK hH (c_X10_paysNow hc_h hn_h hc_al hn_al ht_mt ht_pa ht_li (by exact hR_f)) mlX10_162 (rcvM hK hH hc_h rfl) ⟨⟨Nat.le_of_ble_eq_true rfl, Nat.le_of_ble_eq_true rfl⟩, Nat.le_of_ble_eq_true rfl, Nat.le_of_ble_eq_true rfl⟩ rfl hl.1 rfl (Nat.le_of_ble_eq_true rfl) dX10_done_426) (fun rq139_ Mq137_ Tq138_ Hq_ lcq_ hP hz hH => ?_)
      try dsimp only at hP
      obtain ⟨gq140_, h_gq140_, (hx_al), eT, hfr⟩ := hP
      have eT := eT.symm; subst eT
      have hc_h : Mq137_ h = some (.inr (8, [.ref al, .ref mt, .ref ii, .int ta, .int fpm, .ref pa, .int sm, .int nx, .int tk, .int pl, .int ln, .long va, .int wr, .ref li])) := (hfr h (Or.inl hn_h) n_h_al).trans hc_h
      have hc_al : Mq137_ al = some (.inl (kA 0, 7506, .inl gq140_)) := hx_al
      have hF : ∀ q, FrK T q → q ≠ al → Mq137_ q = M q := fun q hq h0 => (hfr q hq h0).trans (hF q hq h0)
      have hR_gq140_ : Rng gq140_ := h_gq140_.1
      have hK_gq140_ : Ke f gq140_ := hK_f.tr h_gq140_.2
      exact ret_i hC hr hlk hK hH (⟨gq140_, ⟨hR_gq140_, hK_gq140_⟩, hc_al, rfl, hF⟩) (Nat.le_of_ble_eq_true rfl) (Nat.le_of_ble_eq_true rfl) dX10_done_429
    · skip
      refine lv_tableOut (tgt := 423) hx hb dX10_done_54 (Or.inr cq136_) (by decide) ?_
      refine lv_aload_n hx hb dX10_done_423 rfl (lv_at hl 4 rfl) ?_
      refine lv_iload_n hx hb dX10_done_424 rfl (lv_at hl 3 rfl) ?_
      refine lv_iload_n hx hb dX10_done_425 rfl (lv_at hl 2 rfl) ?_
      refine goI hK hH (runV (As := [.int xq2_, .int xq4_]) (rest := []) hC hK hH (c_X10_paysNow hc_h hn_h hc_al hn_al ht_mt ht_pa ht_li (by exact hR_f)) mlX10_162 (rcvM hK hH hc_h rfl) ⟨⟨Nat.le_of_ble_eq_true rfl, Nat.le_of_ble_eq_true rfl⟩, Nat.le_of_ble_eq_true rfl, Nat.le_of_ble_eq_true rfl⟩ rfl hl.1 rfl (Nat.le_of_ble_eq_true rfl) dX10_done_426) (fun rq143_ Mq141_ Tq142_ Hq_ lcq_ hP hz hH => ?_)
      try dsimp only at hP
      obtain ⟨gq144_, h_gq144_, (hx_al), eT, hfr⟩ := hP
      have eT := eT.symm; subst eT
      have hc_h : Mq141_ h = some (.inr (8, [.ref al, .ref mt, .ref ii, .int ta, .int fpm, .ref pa, .int sm, .int nx, .int tk, .int pl, .int ln, .long va, .int wr, .ref li])) := (hfr h (Or.inl hn_h) n_h_al).trans hc_h
      have hc_al : Mq141_ al = some (.inl (kA 0, 7506, .inl gq144_)) := hx_al
      have hF : ∀ q, FrK T q → q ≠ al → Mq141_ q = M q := fun q hq h0 => (hfr q hq h0).trans (hF q hq h0)
      have hR_gq144_ : Rng gq144_ := h_gq144_.1
      have hK_gq144_ : Ke f gq144_ := hK_f.tr h_gq144_.2
      exact ret_i hC hr hlk hK hH (⟨gq144_, ⟨hR_gq144_, hK_gq144_⟩, hc_al, rfl, hF⟩) (Nat.le_of_ble_eq_true rfl) (Nat.le_of_ble_eq_true rfl) dX10_done_429
    · skip
      refine lv_tableIn (off := 86) (tgt := 140) hx hb dX10_done_54 (by omega) (by omega) (by rw [cq136_]; rfl) (by decide) ?_
      refine lv_aload_n hx hb dX10_done_140 rfl (lv_at hl 4 rfl) ?_
      refine lv_iload_n hx hb dX10_done_141 rfl (lv_at hl 3 rfl) ?_
      refine goI hK hH (runV (As := [.int xq2_]) (rest := []) hC hK hH (c_X10_days hc_h hn_h hc_al hn_al ht_mt ht_pa ht_li (by exact hR_f)) mlX10_94 (rcvM hK hH hc_h rfl) ⟨⟨Nat.le_of_ble_eq_true rfl, Nat.le_of_ble_eq_true rfl⟩, Nat.le_of_ble_eq_true rfl, Nat.le_of_ble_eq_true rfl⟩ rfl hl.1 rfl (Nat.le_of_ble_eq_true rfl) dX10_done_142) (fun rq147_ Mq145_ Tq146_ Hq_ lcq_ hP hz hH => ?_)
      try dsimp only at hP
      obtain ⟨gq148_, h_gq148_, (hx_al), eT, hfr⟩ := hP
      have eT := eT.symm; subst eT
      have hc_h : Mq145_ h = some (.inr (8, [.ref al, .ref mt, .ref ii, .int ta, .int fpm, .ref pa, .int sm, .int nx, .int tk, .int pl, .int ln, .long va, .int wr, .ref li])) := (hfr h (Or.inl hn_h) n_h_al).trans hc_h
      have hc_al : Mq145_ al = some (.inl (kA 0, 7506, .inl gq148_)) := hx_al
      have hF : ∀ q, FrK T q → q ≠ al → Mq145_ q = M q := fun q hq h0 => (hfr q hq h0).trans (hF q hq h0)
      have hR_gq148_ : Rng gq148_ := h_gq148_.1
      have hK_gq148_ : Ke f gq148_ := hK_f.tr h_gq148_.2
      exact ret_i hC hr hlk hK hH (⟨gq148_, ⟨hR_gq148_, hK_gq148_⟩, hc_al, rfl, hF⟩) (Nat.le_of_ble_eq_true rfl) (Nat.le_of_ble_eq_true rfl) dX10_done_145
    · skip
      refine lv_tableIn (off := 92) (tgt := 146) hx hb dX10_done_54 (by omega) (by omega) (by rw [cq136_]; rfl) (by decide) ?_
      refine lv_aload_n hx hb dX10_done_146 rfl (lv_at hl 4 rfl) ?_
      refine lv_iload_n hx hb dX10_done_147 rfl (lv_at hl 3 rfl) ?_
      refine lv_iload_n hx hb dX10_done_148 rfl (lv_at hl 2 rfl) ?_
      refine goI hK hH (runV (As := [.int xq2_, .int xq4_]) (rest := []) hC hK hH (c_X10_hasNow hc_h hn_h hc_al hn_al ht_mt ht_pa ht_li (by exact hR_f)) mlX10_103 (rcvM hK hH hc_h rfl) ⟨⟨Nat.le_of_ble_eq_true rfl, Nat.le_of_ble_eq_true rfl⟩, Nat.le_of_ble_eq_true rfl, Nat.le_of_ble_eq_true rfl⟩ rfl hl.1 rfl (Nat.le_of_ble_eq_true rfl) dX10_done_149) (fun rq151_ Mq149_ Tq150_ Hq_ lcq_ hP hz hH => ?_)
      try dsimp only at hP
      obtain ⟨gq154_, h_gq154_, (⟨cq152_, er_rq151_, hx_al⟩ | ⟨cq153_, er_rq151_, hx_al⟩), eT, hfr⟩ := hP
      · skip
        have eT := eT.symm; subst eT
        have er_rq151_ := er_rq151_.symm; subst er_rq151_
        have hc_h : Mq149_ h = some (.inr (8, [.ref al, .ref mt, .ref ii, .int ta, .int fpm, .ref pa, .int sm, .int nx, .int tk, .int pl, .int ln, .long va, .int wr, .ref li])) := (hfr h (Or.inl hn_h) n_h_al).trans hc_h
        have hc_al : Mq149_ al = some (.inl (kA 0, 7506, .inl gq154_)) := hx_al
        have hF : ∀ q, FrK T q → q ≠ al → Mq149_ q = M q := fun q hq h0 => (hfr q hq h0).trans (hF q hq h0)
        have hR_gq154_ : Rng gq154_ := h_gq154_.1
        have hK_gq154_ : Ke f gq154_ := hK_f.tr h_gq154_.2
        have cq152_ : 0 ≤ xq2_.toInt ∧ xq2_.toInt ≤ 7 ∧ 0 ≤ xq4_.toInt ∧ xq4_.toInt ≤ 9999 := cq152_
        exact ret_i hC hr hlk hK hH (⟨gq154_, ⟨hR_gq154_, hK_gq154_⟩, hc_al, rfl, hF⟩) (Nat.le_of_ble_eq_true rfl) (Nat.le_of_ble_eq_true rfl) dX10_done_152
      · skip
        have eT := eT.symm; subst eT
        have er_rq151_ := er_rq151_.symm; subst er_rq151_
        have hc_h : Mq149_ h = some (.inr (8, [.ref al, .ref mt, .ref ii, .int ta, .int fpm, .ref pa, .int sm, .int nx, .int tk, .int pl, .int ln, .long va, .int wr, .ref li])) := (hfr h (Or.inl hn_h) n_h_al).trans hc_h
        have hc_al : Mq149_ al = some (.inl (kA 0, 7506, .inl gq154_)) := hx_al
        have hF : ∀ q, FrK T q → q ≠ al → Mq149_ q = M q := fun q hq h0 => (hfr q hq h0).trans (hF q hq h0)
        have hR_gq154_ : Rng gq154_ := h_gq154_.1
        have hK_gq154_ : Ke f gq154_ := hK_f.tr h_gq154_.2
        have cq153_ : ¬ (0 ≤ xq2_.toInt ∧ xq2_.toInt ≤ 7 ∧ 0 ≤ xq4_.toInt ∧ xq4_.toInt ≤ 9999) := cq153_
        exact ret_i hC hr hlk hK hH (⟨gq154_, ⟨hR_gq154_, hK_gq154_⟩, hc_al, rfl, hF⟩) (Nat.le_of_ble_eq_true rfl) (Nat.le_of_ble_eq_true rfl) dX10_done_152
    · skip
      refine lv_tableIn (off := 99) (tgt := 153) hx hb dX10_done_54 (by omega) (by omega) (by rw [cq136_]; rfl) (by decide) ?_
      refine lv_aload_n hx hb dX10_done_153 rfl (lv_at hl 4 rfl) ?_
      refine lv_iload_n hx hb dX10_done_154 rfl (lv_at hl 3 rfl) ?_
      refine goI hK hH (runV (As := [.int xq2_]) (rest := []) hC hK hH (c_X10_graces hc_h hn_h hc_al hn_al ht_mt ht_pa ht_li (by exact hR_f)) mlX10_106 (rcvM hK hH hc_h rfl) ⟨⟨Nat.le_of_ble_eq_true rfl, Nat.le_of_ble_eq_true rfl⟩, Nat.le_of_ble_eq_true rfl, Nat.le_of_ble_eq_true rfl⟩ rfl hl.1 rfl (Nat.le_of_ble_eq_true rfl) dX10_done_155) (fun rq157_ Mq155_ Tq156_ Hq_ lcq_ hP hz hH => ?_)
      try dsimp only at hP
      obtain ⟨gq160_, h_gq160_, (⟨cq158_, er_rq157_, hx_al⟩ | ⟨cq159_, er_rq157_, hx_al⟩), eT, hfr⟩ := hP
      · skip
        have eT := eT.symm; subst eT
        have er_rq157_ := er_rq157_.symm; subst er_rq157_
        have hc_h : Mq155_ h = some (.inr (8, [.ref al, .ref mt, .ref ii, .int ta, .int fpm, .ref pa, .int sm, .int nx, .int tk, .int pl, .int ln, .long va, .int wr, .ref li])) := (hfr h (Or.inl hn_h) n_h_al).trans hc_h
        have hc_al : Mq155_ al = some (.inl (kA 0, 7506, .inl gq160_)) := hx_al
        have hF : ∀ q, FrK T q → q ≠ al → Mq155_ q = M q := fun q hq h0 => (hfr q hq h0).trans (hF q hq h0)
        have hR_gq160_ : Rng gq160_ := h_gq160_.1
        have hK_gq160_ : Ke f gq160_ := hK_f.tr h_gq160_.2
        have cq158_ : 1 ≤ xq2_.toInt ∧ xq2_.toInt ≤ 9 := cq158_
        exact ret_i hC hr hlk hK hH (⟨gq160_, ⟨hR_gq160_, hK_gq160_⟩, hc_al, rfl, hF⟩) (Nat.le_of_ble_eq_true rfl) (Nat.le_of_ble_eq_true rfl) dX10_done_158
      · skip
        have eT := eT.symm; subst eT
        have er_rq157_ := er_rq157_.symm; subst er_rq157_
        have hc_h : Mq155_ h = some (.inr (8, [.ref al, .ref mt, .ref ii, .int ta, .int fpm, .ref pa, .int sm, .int nx, .int tk, .int pl, .int ln, .long va, .int wr, .ref li])) := (hfr h (Or.inl hn_h) n_h_al).trans hc_h
        have hc_al : Mq155_ al = some (.inl (kA 0, 7506, .inl gq160_)) := hx_al
        have hF : ∀ q, FrK T q → q ≠ al → Mq155_ q = M q := fun q hq h0 => (hfr q hq h0).trans (hF q hq h0)
        have hR_gq160_ : Rng gq160_ := h_gq160_.1
        have hK_gq160_ : Ke f gq160_ := hK_f.tr h_gq160_.2
        have cq159_ : ¬ (1 ≤ xq2_.toInt ∧ xq2_.toInt ≤ 9) := cq159_
        exact ret_i hC hr hlk hK hH (⟨gq160_, ⟨hR_gq160_, hK_gq160_⟩, hc_al, rfl, hF⟩) (Nat.le_of_ble_eq_true rfl) (Nat.le_of_ble_eq_true rfl) dX10_done_158
    · skip
      refine lv_tableIn (off := 105) (tgt := 159) hx hb dX10_done_54 (by omega) (by omega) (by rw [cq136_]; rfl) (by decide) ?_
      refine lv_aload_n hx hb dX10_done_159 rfl (lv_at hl 4 rfl) ?_
      refine lv_iload_n hx hb dX10_done_160 rfl (lv_at hl 3 rfl) ?_
      refine lv_iload_n hx hb dX10_done_161 rfl (lv_at hl 2 rfl) ?_
      refine lv_iload hx hb dX10_done_162 (lv_at hl 1 rfl) ?_
      refine lv_iconst (v := 0) hx hb dX10_done_164 (by decide) ?_
      refine lv_aload_n hx hb dX10_done_165 rfl (lv_at hl 4 rfl) ?_
      refine xg hC hK hH flX10_27 hc_h rfl dX10_done_166 ?_
      refine lv_iload_n hx hb dX10_done_169 rfl (lv_at hl 5 rfl) ?_
      refine lv_iconst (v := 4) hx hb dX10_done_170 (by decide) ?_
      refine lv_iadd hx hb dX10_done_171 ?_
      refine lv_topi (fun zq161_ e_zq161_ => ?_)
      have h_zq161_ : zq161_.toInt = at_.toInt + 4 := by rw [e_zq161_, iAdd (by have := iRg at_; have : (4 : Int32).toInt = 4 := rfl; omega) (by have := iRg at_; have : (4 : Int32).toInt = 4 := rfl; omega)]; rfl
      refine tild hC hK hH ht_li rfl (iIn (by omega) (by omega)) dX10_done_172 (fun xq162_ l_xq162_ g_xq162_ => ?_)
      refine lv_aload_n hx hb dX10_done_173 rfl (lv_at hl 4 rfl) ?_
      refine xg hC hK hH flX10_27 hc_h rfl dX10_done_174 ?_
      refine lv_iload_n hx hb dX10_done_177 rfl (lv_at hl 5 rfl) ?_
      refine lv_iconst (v := 5) hx hb dX10_done_178 (by decide) ?_
      refine lv_iadd hx hb dX10_done_179 ?_
      refine lv_topi (fun zq163_ e_zq163_ => ?_)
      have h_zq163_ : zq163_.toInt = at_.toInt + 5 := by rw [e_zq163_, iAdd (by have := iRg at_; have : (5 : Int32).toInt = 5 := rfl; omega) (by have := iRg at_; have : (5 : Int32).toInt = 5 := rfl; omega)]; rfl
      refine tild hC hK hH ht_li rfl (iIn (by omega) (by omega)) dX10_done_180 (fun xq164_ l_xq164_ g_xq164_ => ?_)
      refine goI hK hH (runV (As := [.int xq2_, .int xq4_, .int xq6_, .int 0, .int xq162_, .int xq164_]) (rest := []) hC hK hH (c_X10_draws hc_h hn_h hc_al hn_al ht_mt ht_pa ht_li (by exact hR_f)) mlX10_112 (rcvM hK hH hc_h rfl) ⟨⟨Nat.le_of_ble_eq_true rfl, Nat.le_of_ble_eq_true rfl⟩, Nat.le_of_ble_eq_true rfl, Nat.le_of_ble_eq_true rfl⟩ rfl hl.1 rfl (Nat.le_of_ble_eq_true rfl) dX10_done_181) (fun rq167_ Mq165_ Tq166_ Hq_ lcq_ hP hz hH => ?_)
      try dsimp only at hP
      obtain ⟨gq168_, h_gq168_, (hx_al), eT, hfr⟩ := hP
      have eT := eT.symm; subst eT
      have hc_h : Mq165_ h = some (.inr (8, [.ref al, .ref mt, .ref ii, .int ta, .int fpm, .ref pa, .int sm, .int nx, .int tk, .int pl, .int ln, .long va, .int wr, .ref li])) := (hfr h (Or.inl hn_h) n_h_al).trans hc_h
      have hc_al : Mq165_ al = some (.inl (kA 0, 7506, .inl gq168_)) := hx_al
      have hF : ∀ q, FrK T q → q ≠ al → Mq165_ q = M q := fun q hq h0 => (hfr q hq h0).trans (hF q hq h0)
      have hR_gq168_ : Rng gq168_ := h_gq168_.1
      have hK_gq168_ : Ke f gq168_ := hK_f.tr h_gq168_.2
      exact ret_i hC hr hlk hK hH (⟨gq168_, ⟨hR_gq168_, hK_gq168_⟩, hc_al, rfl, hF⟩) (Nat.le_of_ble_eq_true rfl) (Nat.le_of_ble_eq_true rfl) dX10_done_184
    · skip
      refine lv_tableIn (off := 131) (tgt := 185) hx hb dX10_done_54 (by omega) (by omega) (by rw [cq136_]; rfl) (by decide) ?_
      refine lv_aload_n hx hb dX10_done_185 rfl (lv_at hl 4 rfl) ?_
      refine lv_iload_n hx hb dX10_done_186 rfl (lv_at hl 3 rfl) ?_
      refine lv_iload_n hx hb dX10_done_187 rfl (lv_at hl 2 rfl) ?_
      refine lv_iload hx hb dX10_done_188 (lv_at hl 1 rfl) ?_
      refine lv_iconst (v := 1) hx hb dX10_done_190 (by decide) ?_
      refine lv_aload_n hx hb dX10_done_191 rfl (lv_at hl 4 rfl) ?_
      refine xg hC hK hH flX10_27 hc_h rfl dX10_done_192 ?_
      refine lv_iload_n hx hb dX10_done_195 rfl (lv_at hl 5 rfl) ?_
      refine lv_iconst (v := 4) hx hb dX10_done_196 (by decide) ?_
      refine lv_iadd hx hb dX10_done_197 ?_
      refine lv_topi (fun zq169_ e_zq169_ => ?_)
      have h_zq169_ : zq169_.toInt = at_.toInt + 4 := by rw [e_zq169_, iAdd (by have := iRg at_; have : (4 : Int32).toInt = 4 := rfl; omega) (by have := iRg at_; have : (4 : Int32).toInt = 4 := rfl; omega)]; rfl
      refine tild hC hK hH ht_li rfl (iIn (by omega) (by omega)) dX10_done_198 (fun xq170_ l_xq170_ g_xq170_ => ?_)
      refine lv_aload_n hx hb dX10_done_199 rfl (lv_at hl 4 rfl) ?_
      refine xg hC hK hH flX10_27 hc_h rfl dX10_done_200 ?_
      refine lv_iload_n hx hb dX10_done_203 rfl (lv_at hl 5 rfl) ?_
      refine lv_iconst (v := 5) hx hb dX10_done_204 (by decide) ?_
      refine lv_iadd hx hb dX10_done_205 ?_
      refine lv_topi (fun zq171_ e_zq171_ => ?_)
      have h_zq171_ : zq171_.toInt = at_.toInt + 5 := by rw [e_zq171_, iAdd (by have := iRg at_; have : (5 : Int32).toInt = 5 := rfl; omega) (by have := iRg at_; have : (5 : Int32).toInt = 5 := rfl; omega)]; rfl
      refine tild hC hK hH ht_li rfl (iIn (by omega) (by omega)) dX10_done_206 (fun xq172_ l_xq172_ g_xq172_ => ?_)
      refine goI hK hH (runV (As := [.int xq2_, .int xq4_, .int xq6_, .int 1, .int xq170_, .int xq172_]) (rest := []) hC hK hH (c_X10_draws hc_h hn_h hc_al hn_al ht_mt ht_pa ht_li (by exact hR_f)) mlX10_112 (rcvM hK hH hc_h rfl) ⟨⟨Nat.le_of_ble_eq_true rfl, Nat.le_of_ble_eq_true rfl⟩, Nat.le_of_ble_eq_true rfl, Nat.le_of_ble_eq_true rfl⟩ rfl hl.1 rfl (Nat.le_of_ble_eq_true rfl) dX10_done_207) (fun rq175_ Mq173_ Tq174_ Hq_ lcq_ hP hz hH => ?_)
      try dsimp only at hP
      obtain ⟨gq176_, h_gq176_, (hx_al), eT, hfr⟩ := hP
      have eT := eT.symm; subst eT
      have hc_h : Mq173_ h = some (.inr (8, [.ref al, .ref mt, .ref ii, .int ta, .int fpm, .ref pa, .int sm, .int nx, .int tk, .int pl, .int ln, .long va, .int wr, .ref li])) := (hfr h (Or.inl hn_h) n_h_al).trans hc_h
      have hc_al : Mq173_ al = some (.inl (kA 0, 7506, .inl gq176_)) := hx_al
      have hF : ∀ q, FrK T q → q ≠ al → Mq173_ q = M q := fun q hq h0 => (hfr q hq h0).trans (hF q hq h0)
      have hR_gq176_ : Rng gq176_ := h_gq176_.1
      have hK_gq176_ : Ke f gq176_ := hK_f.tr h_gq176_.2
      exact ret_i hC hr hlk hK hH (⟨gq176_, ⟨hR_gq176_, hK_gq176_⟩, hc_al, rfl, hF⟩) (Nat.le_of_ble_eq_true rfl) (Nat.le_of_ble_eq_true rfl) dX10_done_210
    · skip
      refine lv_tableIn (off := 157) (tgt := 211) hx hb dX10_done_54 (by omega) (by omega) (by rw [cq136_]; rfl) (by decide) ?_
      refine lv_aload_n hx hb dX10_done_211 rfl (lv_at hl 4 rfl) ?_
      refine lv_iload_n hx hb dX10_done_212 rfl (lv_at hl 3 rfl) ?_
      refine goI hK hH (runV (As := [.int xq2_]) (rest := []) hC hK hH (c_X10_accepts hc_h hn_h hc_al hn_al ht_mt ht_pa ht_li (by exact hR_f)) mlX10_119 (rcvM hK hH hc_h rfl) ⟨⟨Nat.le_of_ble_eq_true rfl, Nat.le_of_ble_eq_true rfl⟩, Nat.le_of_ble_eq_true rfl, Nat.le_of_ble_eq_true rfl⟩ rfl hl.1 rfl (Nat.le_of_ble_eq_true rfl) dX10_done_213) (fun rq179_ Mq177_ Tq178_ Hq_ lcq_ hP hz hH => ?_)
      try dsimp only at hP
      obtain ⟨gq180_, h_gq180_, (hx_al), eT, hfr⟩ := hP
      have eT := eT.symm; subst eT
      have hc_h : Mq177_ h = some (.inr (8, [.ref al, .ref mt, .ref ii, .int ta, .int fpm, .ref pa, .int sm, .int nx, .int tk, .int pl, .int ln, .long va, .int wr, .ref li])) := (hfr h (Or.inl hn_h) n_h_al).trans hc_h
      have hc_al : Mq177_ al = some (.inl (kA 0, 7506, .inl gq180_)) := hx_al
      have hF : ∀ q, FrK T q → q ≠ al → Mq177_ q = M q := fun q hq h0 => (hfr q hq h0).trans (hF q hq h0)
      have hR_gq180_ : Rng gq180_ := h_gq180_.1
      have hK_gq180_ : Ke f gq180_ := hK_f.tr h_gq180_.2
      exact ret_i hC hr hlk hK hH (⟨gq180_, ⟨hR_gq180_, hK_gq180_⟩, hc_al, rfl, hF⟩) (Nat.le_of_ble_eq_true rfl) (Nat.le_of_ble_eq_true rfl) dX10_done_216
    · skip
      refine lv_tableIn (off := 163) (tgt := 217) hx hb dX10_done_54 (by omega) (by omega) (by rw [cq136_]; rfl) (by decide) ?_
      refine lv_aload_n hx hb dX10_done_217 rfl (lv_at hl 4 rfl) ?_
      refine lv_iload_n hx hb dX10_done_218 rfl (lv_at hl 3 rfl) ?_
      refine lv_iconst (v := 0) hx hb dX10_done_219 (by decide) ?_
      refine lv_aload_n hx hb dX10_done_220 rfl (lv_at hl 4 rfl) ?_
      refine xg hC hK hH flX10_27 hc_h rfl dX10_done_221 ?_
      refine lv_iload_n hx hb dX10_done_224 rfl (lv_at hl 5 rfl) ?_
      refine lv_bipush (v := 7) hx hb dX10_done_225 (by decide) ?_
      refine lv_iadd hx hb dX10_done_227 ?_
      refine lv_topi (fun zq181_ e_zq181_ => ?_)
      have h_zq181_ : zq181_.toInt = at_.toInt + 7 := by rw [e_zq181_, iAdd (by have := iRg at_; have : (7 : Int32).toInt = 7 := rfl; omega) (by have := iRg at_; have : (7 : Int32).toInt = 7 := rfl; omega)]; rfl
      refine tild hC hK hH ht_li rfl (iIn (by omega) (by omega)) dX10_done_228 (fun xq182_ l_xq182_ g_xq182_ => ?_)
      refine lv_iconst (v := 1) hx hb dX10_done_229 (by decide) ?_
      refine jic_ne (tgt := 237) hx hb dX10_done_230 (by decide) (fun cq183_ => ?_) (fun cq183_ => ?_)
      · skip
        have cq183_ : xq182_.toInt ≠ 1 := cq183_
        refine lv_iconst (v := 0) hx hb dX10_done_237 (by decide) ?_
        refine lv_iload_n hx hb dX10_done_238 rfl (lv_at hl 2 rfl) ?_
        refine lv_iload hx hb dX10_done_239 (lv_at hl 1 rfl) ?_
        refine lv_iload hx hb dX10_done_241 (lv_at hl 0 rfl) ?_
        refine goI hK hH (runV (As := [.int xq2_, .int 0, .int 0, .int xq4_, .int xq6_, .int 1]) (rest := []) hC hK hH (c_X10_passes hc_h hn_h hc_al hn_al ht_mt ht_pa ht_li (by exact hR_f)) mlX10_129 (rcvM hK hH hc_h rfl) ⟨⟨Nat.le_of_ble_eq_true rfl, Nat.le_of_ble_eq_true rfl⟩, Nat.le_of_ble_eq_true rfl, Nat.le_of_ble_eq_true rfl⟩ rfl hl.1 rfl (Nat.le_of_ble_eq_true rfl) dX10_done_243) (fun rq186_ Mq184_ Tq185_ Hq_ lcq_ hP hz hH => ?_)
        try dsimp only at hP
        obtain ⟨gq187_, h_gq187_, (hx_al), eT, hfr⟩ := hP
        have eT := eT.symm; subst eT
        have hc_h : Mq184_ h = some (.inr (8, [.ref al, .ref mt, .ref ii, .int ta, .int fpm, .ref pa, .int sm, .int nx, .int tk, .int pl, .int ln, .long va, .int wr, .ref li])) := (hfr h (Or.inl hn_h) n_h_al).trans hc_h
        have hc_al : Mq184_ al = some (.inl (kA 0, 7506, .inl gq187_)) := hx_al
        have hF : ∀ q, FrK T q → q ≠ al → Mq184_ q = M q := fun q hq h0 => (hfr q hq h0).trans (hF q hq h0)
        have hR_gq187_ : Rng gq187_ := h_gq187_.1
        have hK_gq187_ : Ke f gq187_ := hK_f.tr h_gq187_.2
        exact ret_i hC hr hlk hK hH (⟨gq187_, ⟨hR_gq187_, hK_gq187_⟩, hc_al, rfl, hF⟩) (Nat.le_of_ble_eq_true rfl) (Nat.le_of_ble_eq_true rfl) dX10_done_246
      · skip
        have cq183_ : xq182_.toInt = 1 := cq183_
        refine lv_iconst (v := 1) hx hb dX10_done_233 (by decide) ?_
        refine lv_goto (tgt := 238) hx hb dX10_done_234 (by decide) ?_
        refine lv_iload_n hx hb dX10_done_238 rfl (lv_at hl 2 rfl) ?_
        refine lv_iload hx hb dX10_done_239 (lv_at hl 1 rfl) ?_
        refine lv_iload hx hb dX10_done_241 (lv_at hl 0 rfl) ?_
        refine goI hK hH (runV (As := [.int xq2_, .int 0, .int 1, .int xq4_, .int xq6_, .int 1]) (rest := []) hC hK hH (c_X10_passes hc_h hn_h hc_al hn_al ht_mt ht_pa ht_li (by exact hR_f)) mlX10_129 (rcvM hK hH hc_h rfl) ⟨⟨Nat.le_of_ble_eq_true rfl, Nat.le_of_ble_eq_true rfl⟩, Nat.le_of_ble_eq_true rfl, Nat.le_of_ble_eq_true rfl⟩ rfl hl.1 rfl (Nat.le_of_ble_eq_true rfl) dX10_done_243) (fun rq190_ Mq188_ Tq189_ Hq_ lcq_ hP hz hH => ?_)
        try dsimp only at hP
        obtain ⟨gq191_, h_gq191_, (hx_al), eT, hfr⟩ := hP
        have eT := eT.symm; subst eT
        have hc_h : Mq188_ h = some (.inr (8, [.ref al, .ref mt, .ref ii, .int ta, .int fpm, .ref pa, .int sm, .int nx, .int tk, .int pl, .int ln, .long va, .int wr, .ref li])) := (hfr h (Or.inl hn_h) n_h_al).trans hc_h
        have hc_al : Mq188_ al = some (.inl (kA 0, 7506, .inl gq191_)) := hx_al
        have hF : ∀ q, FrK T q → q ≠ al → Mq188_ q = M q := fun q hq h0 => (hfr q hq h0).trans (hF q hq h0)
        have hR_gq191_ : Rng gq191_ := h_gq191_.1
        have hK_gq191_ : Ke f gq191_ := hK_f.tr h_gq191_.2
        exact ret_i hC hr hlk hK hH (⟨gq191_, ⟨hR_gq191_, hK_gq191_⟩, hc_al, rfl, hF⟩) (Nat.le_of_ble_eq_true rfl) (Nat.le_of_ble_eq_true rfl) dX10_done_246
    · skip
      refine lv_tableIn (off := 193) (tgt := 247) hx hb dX10_done_54 (by omega) (by omega) (by rw [cq136_]; rfl) (by decide) ?_
      refine lv_aload_n hx hb dX10_done_247 rfl (lv_at hl 4 rfl) ?_
      refine lv_iload_n hx hb dX10_done_248 rfl (lv_at hl 3 rfl) ?_
      refine lv_iconst (v := 1) hx hb dX10_done_249 (by decide) ?_
      refine lv_aload_n hx hb dX10_done_250 rfl (lv_at hl 4 rfl) ?_
      refine xg hC hK hH flX10_27 hc_h rfl dX10_done_251 ?_
      refine lv_iload_n hx hb dX10_done_254 rfl (lv_at hl 5 rfl) ?_
      refine lv_bipush (v := 7) hx hb dX10_done_255 (by decide) ?_
      refine lv_iadd hx hb dX10_done_257 ?_
      refine lv_topi (fun zq192_ e_zq192_ => ?_)
      have h_zq192_ : zq192_.toInt = at_.toInt + 7 := by rw [e_zq192_, iAdd (by have := iRg at_; have : (7 : Int32).toInt = 7 := rfl; omega) (by have := iRg at_; have : (7 : Int32).toInt = 7 := rfl; omega)]; rfl
      refine tild hC hK hH ht_li rfl (iIn (by omega) (by omega)) dX10_done_258 (fun xq193_ l_xq193_ g_xq193_ => ?_)
      refine lv_iconst (v := 1) hx hb dX10_done_259 (by decide) ?_
      refine jic_ne (tgt := 267) hx hb dX10_done_260 (by decide) (fun cq194_ => ?_) (fun cq194_ => ?_)
      · skip
        have cq194_ : xq193_.toInt ≠ 1 := cq194_
        refine lv_iconst (v := 0) hx hb dX10_done_267 (by decide) ?_
        refine lv_iload_n hx hb dX10_done_268 rfl (lv_at hl 2 rfl) ?_
        refine lv_iload hx hb dX10_done_269 (lv_at hl 1 rfl) ?_
        refine lv_iload hx hb dX10_done_271 (lv_at hl 0 rfl) ?_
        refine goI hK hH (runV (As := [.int xq2_, .int 1, .int 0, .int xq4_, .int xq6_, .int 1]) (rest := []) hC hK hH (c_X10_passes hc_h hn_h hc_al hn_al ht_mt ht_pa ht_li (by exact hR_f)) mlX10_129 (rcvM hK hH hc_h rfl) ⟨⟨Nat.le_of_ble_eq_true rfl, Nat.le_of_ble_eq_true rfl⟩, Nat.le_of_ble_eq_true rfl, Nat.le_of_ble_eq_true rfl⟩ rfl hl.1 rfl (Nat.le_of_ble_eq_true rfl) dX10_done_273) (fun rq197_ Mq195_ Tq196_ Hq_ lcq_ hP hz hH => ?_)
        try dsimp only at hP
        obtain ⟨gq198_, h_gq198_, (hx_al), eT, hfr⟩ := hP
        have eT := eT.symm; subst eT
        have hc_h : Mq195_ h = some (.inr (8, [.ref al, .ref mt, .ref ii, .int ta, .int fpm, .ref pa, .int sm, .int nx, .int tk, .int pl, .int ln, .long va, .int wr, .ref li])) := (hfr h (Or.inl hn_h) n_h_al).trans hc_h
        have hc_al : Mq195_ al = some (.inl (kA 0, 7506, .inl gq198_)) := hx_al
        have hF : ∀ q, FrK T q → q ≠ al → Mq195_ q = M q := fun q hq h0 => (hfr q hq h0).trans (hF q hq h0)
        have hR_gq198_ : Rng gq198_ := h_gq198_.1
        have hK_gq198_ : Ke f gq198_ := hK_f.tr h_gq198_.2
        exact ret_i hC hr hlk hK hH (⟨gq198_, ⟨hR_gq198_, hK_gq198_⟩, hc_al, rfl, hF⟩) (Nat.le_of_ble_eq_true rfl) (Nat.le_of_ble_eq_true rfl) dX10_done_276
      · skip
        have cq194_ : xq193_.toInt = 1 := cq194_
        refine lv_iconst (v := 1) hx hb dX10_done_263 (by decide) ?_
        refine lv_goto (tgt := 268) hx hb dX10_done_264 (by decide) ?_
        refine lv_iload_n hx hb dX10_done_268 rfl (lv_at hl 2 rfl) ?_
        refine lv_iload hx hb dX10_done_269 (lv_at hl 1 rfl) ?_
        refine lv_iload hx hb dX10_done_271 (lv_at hl 0 rfl) ?_
        refine goI hK hH (runV (As := [.int xq2_, .int 1, .int 1, .int xq4_, .int xq6_, .int 1]) (rest := []) hC hK hH (c_X10_passes hc_h hn_h hc_al hn_al ht_mt ht_pa ht_li (by exact hR_f)) mlX10_129 (rcvM hK hH hc_h rfl) ⟨⟨Nat.le_of_ble_eq_true rfl, Nat.le_of_ble_eq_true rfl⟩, Nat.le_of_ble_eq_true rfl, Nat.le_of_ble_eq_true rfl⟩ rfl hl.1 rfl (Nat.le_of_ble_eq_true rfl) dX10_done_273) (fun rq201_ Mq199_ Tq200_ Hq_ lcq_ hP hz hH => ?_)
        try dsimp only at hP
        obtain ⟨gq202_, h_gq202_, (hx_al), eT, hfr⟩ := hP
        have eT := eT.symm; subst eT
        have hc_h : Mq199_ h = some (.inr (8, [.ref al, .ref mt, .ref ii, .int ta, .int fpm, .ref pa, .int sm, .int nx, .int tk, .int pl, .int ln, .long va, .int wr, .ref li])) := (hfr h (Or.inl hn_h) n_h_al).trans hc_h
        have hc_al : Mq199_ al = some (.inl (kA 0, 7506, .inl gq202_)) := hx_al
        have hF : ∀ q, FrK T q → q ≠ al → Mq199_ q = M q := fun q hq h0 => (hfr q hq h0).trans (hF q hq h0)
        have hR_gq202_ : Rng gq202_ := h_gq202_.1
        have hK_gq202_ : Ke f gq202_ := hK_f.tr h_gq202_.2
        exact ret_i hC hr hlk hK hH (⟨gq202_, ⟨hR_gq202_, hK_gq202_⟩, hc_al, rfl, hF⟩) (Nat.le_of_ble_eq_true rfl) (Nat.le_of_ble_eq_true rfl) dX10_done_276
    · skip
      refine lv_tableIn (off := 223) (tgt := 277) hx hb dX10_done_54 (by omega) (by omega) (by rw [cq136_]; rfl) (by decide) ?_
      refine lv_aload_n hx hb dX10_done_277 rfl (lv_at hl 4 rfl) ?_
      refine lv_iload_n hx hb dX10_done_278 rfl (lv_at hl 3 rfl) ?_
      refine lv_iconst (v := 2) hx hb dX10_done_279 (by decide) ?_
      refine lv_aload_n hx hb dX10_done_280 rfl (lv_at hl 4 rfl) ?_
      refine xg hC hK hH flX10_27 hc_h rfl dX10_done_281 ?_
      refine lv_iload_n hx hb dX10_done_284 rfl (lv_at hl 5 rfl) ?_
      refine lv_bipush (v := 7) hx hb dX10_done_285 (by decide) ?_
      refine lv_iadd hx hb dX10_done_287 ?_
      refine lv_topi (fun zq203_ e_zq203_ => ?_)
      have h_zq203_ : zq203_.toInt = at_.toInt + 7 := by rw [e_zq203_, iAdd (by have := iRg at_; have : (7 : Int32).toInt = 7 := rfl; omega) (by have := iRg at_; have : (7 : Int32).toInt = 7 := rfl; omega)]; rfl
      refine tild hC hK hH ht_li rfl (iIn (by omega) (by omega)) dX10_done_288 (fun xq204_ l_xq204_ g_xq204_ => ?_)
      refine lv_iconst (v := 1) hx hb dX10_done_289 (by decide) ?_
      refine jic_ne (tgt := 297) hx hb dX10_done_290 (by decide) (fun cq205_ => ?_) (fun cq205_ => ?_)
      · skip
        have cq205_ : xq204_.toInt ≠ 1 := cq205_
        refine lv_iconst (v := 0) hx hb dX10_done_297 (by decide) ?_
        refine lv_iload_n hx hb dX10_done_298 rfl (lv_at hl 2 rfl) ?_
        refine lv_iload hx hb dX10_done_299 (lv_at hl 1 rfl) ?_
        refine lv_iload hx hb dX10_done_301 (lv_at hl 0 rfl) ?_
        refine goI hK hH (runV (As := [.int xq2_, .int 2, .int 0, .int xq4_, .int xq6_, .int 1]) (rest := []) hC hK hH (c_X10_passes hc_h hn_h hc_al hn_al ht_mt ht_pa ht_li (by exact hR_f)) mlX10_129 (rcvM hK hH hc_h rfl) ⟨⟨Nat.le_of_ble_eq_true rfl, Nat.le_of_ble_eq_true rfl⟩, Nat.le_of_ble_eq_true rfl, Nat.le_of_ble_eq_true rfl⟩ rfl hl.1 rfl (Nat.le_of_ble_eq_true rfl) dX10_done_303) (fun rq208_ Mq206_ Tq207_ Hq_ lcq_ hP hz hH => ?_)
        try dsimp only at hP
        obtain ⟨gq209_, h_gq209_, (hx_al), eT, hfr⟩ := hP
        have eT := eT.symm; subst eT
        have hc_h : Mq206_ h = some (.inr (8, [.ref al, .ref mt, .ref ii, .int ta, .int fpm, .ref pa, .int sm, .int nx, .int tk, .int pl, .int ln, .long va, .int wr, .ref li])) := (hfr h (Or.inl hn_h) n_h_al).trans hc_h
        have hc_al : Mq206_ al = some (.inl (kA 0, 7506, .inl gq209_)) := hx_al
        have hF : ∀ q, FrK T q → q ≠ al → Mq206_ q = M q := fun q hq h0 => (hfr q hq h0).trans (hF q hq h0)
        have hR_gq209_ : Rng gq209_ := h_gq209_.1
        have hK_gq209_ : Ke f gq209_ := hK_f.tr h_gq209_.2
        exact ret_i hC hr hlk hK hH (⟨gq209_, ⟨hR_gq209_, hK_gq209_⟩, hc_al, rfl, hF⟩) (Nat.le_of_ble_eq_true rfl) (Nat.le_of_ble_eq_true rfl) dX10_done_306
      · skip
        have cq205_ : xq204_.toInt = 1 := cq205_
        refine lv_iconst (v := 1) hx hb dX10_done_293 (by decide) ?_
        refine lv_goto (tgt := 298) hx hb dX10_done_294 (by decide) ?_
        refine lv_iload_n hx hb dX10_done_298 rfl (lv_at hl 2 rfl) ?_
        refine lv_iload hx hb dX10_done_299 (lv_at hl 1 rfl) ?_
        refine lv_iload hx hb dX10_done_301 (lv_at hl 0 rfl) ?_
        refine goI hK hH (runV (As := [.int xq2_, .int 2, .int 1, .int xq4_, .int xq6_, .int 1]) (rest := []) hC hK hH (c_X10_passes hc_h hn_h hc_al hn_al ht_mt ht_pa ht_li (by exact hR_f)) mlX10_129 (rcvM hK hH hc_h rfl) ⟨⟨Nat.le_of_ble_eq_true rfl, Nat.le_of_ble_eq_true rfl⟩, Nat.le_of_ble_eq_true rfl, Nat.le_of_ble_eq_true rfl⟩ rfl hl.1 rfl (Nat.le_of_ble_eq_true rfl) dX10_done_303) (fun rq212_ Mq210_ Tq211_ Hq_ lcq_ hP hz hH => ?_)
        try dsimp only at hP
        obtain ⟨gq213_, h_gq213_, (hx_al), eT, hfr⟩ := hP
        have eT := eT.symm; subst eT
        have hc_h : Mq210_ h = some (.inr (8, [.ref al, .ref mt, .ref ii, .int ta, .int fpm, .ref pa, .int sm, .int nx, .int tk, .int pl, .int ln, .long va, .int wr, .ref li])) := (hfr h (Or.inl hn_h) n_h_al).trans hc_h
        have hc_al : Mq210_ al = some (.inl (kA 0, 7506, .inl gq213_)) := hx_al
        have hF : ∀ q, FrK T q → q ≠ al → Mq210_ q = M q := fun q hq h0 => (hfr q hq h0).trans (hF q hq h0)
        have hR_gq213_ : Rng gq213_ := h_gq213_.1
        have hK_gq213_ : Ke f gq213_ := hK_f.tr h_gq213_.2
        exact ret_i hC hr hlk hK hH (⟨gq213_, ⟨hR_gq213_, hK_gq213_⟩, hc_al, rfl, hF⟩) (Nat.le_of_ble_eq_true rfl) (Nat.le_of_ble_eq_true rfl) dX10_done_306
    · skip
      refine lv_tableIn (off := 253) (tgt := 307) hx hb dX10_done_54 (by omega) (by omega) (by rw [cq136_]; rfl) (by decide) ?_
      refine lv_aload_n hx hb dX10_done_307 rfl (lv_at hl 4 rfl) ?_
      refine lv_iload_n hx hb dX10_done_308 rfl (lv_at hl 3 rfl) ?_
      refine lv_iconst (v := 3) hx hb dX10_done_309 (by decide) ?_
      refine lv_aload_n hx hb dX10_done_310 rfl (lv_at hl 4 rfl) ?_
      refine xg hC hK hH flX10_27 hc_h rfl dX10_done_311 ?_
      refine lv_iload_n hx hb dX10_done_314 rfl (lv_at hl 5 rfl) ?_
      refine lv_bipush (v := 7) hx hb dX10_done_315 (by decide) ?_
      refine lv_iadd hx hb dX10_done_317 ?_
      refine lv_topi (fun zq214_ e_zq214_ => ?_)
      have h_zq214_ : zq214_.toInt = at_.toInt + 7 := by rw [e_zq214_, iAdd (by have := iRg at_; have : (7 : Int32).toInt = 7 := rfl; omega) (by have := iRg at_; have : (7 : Int32).toInt = 7 := rfl; omega)]; rfl
      refine tild hC hK hH ht_li rfl (iIn (by omega) (by omega)) dX10_done_318 (fun xq215_ l_xq215_ g_xq215_ => ?_)
      refine lv_iconst (v := 1) hx hb dX10_done_319 (by decide) ?_
      refine jic_ne (tgt := 327) hx hb dX10_done_320 (by decide) (fun cq216_ => ?_) (fun cq216_ => ?_)
      · skip
        have cq216_ : xq215_.toInt ≠ 1 := cq216_
        refine lv_iconst (v := 0) hx hb dX10_done_327 (by decide) ?_
        refine lv_iload_n hx hb dX10_done_328 rfl (lv_at hl 2 rfl) ?_
        refine lv_iload hx hb dX10_done_329 (lv_at hl 1 rfl) ?_
        refine lv_iload hx hb dX10_done_331 (lv_at hl 0 rfl) ?_
        refine goI hK hH (runV (As := [.int xq2_, .int 3, .int 0, .int xq4_, .int xq6_, .int 1]) (rest := []) hC hK hH (c_X10_passes hc_h hn_h hc_al hn_al ht_mt ht_pa ht_li (by exact hR_f)) mlX10_129 (rcvM hK hH hc_h rfl) ⟨⟨Nat.le_of_ble_eq_true rfl, Nat.le_of_ble_eq_true rfl⟩, Nat.le_of_ble_eq_true rfl, Nat.le_of_ble_eq_true rfl⟩ rfl hl.1 rfl (Nat.le_of_ble_eq_true rfl) dX10_done_333) (fun rq219_ Mq217_ Tq218_ Hq_ lcq_ hP hz hH => ?_)
        try dsimp only at hP
        obtain ⟨gq220_, h_gq220_, (hx_al), eT, hfr⟩ := hP
        have eT := eT.symm; subst eT
        have hc_h : Mq217_ h = some (.inr (8, [.ref al, .ref mt, .ref ii, .int ta, .int fpm, .ref pa, .int sm, .int nx, .int tk, .int pl, .int ln, .long va, .int wr, .ref li])) := (hfr h (Or.inl hn_h) n_h_al).trans hc_h
        have hc_al : Mq217_ al = some (.inl (kA 0, 7506, .inl gq220_)) := hx_al
        have hF : ∀ q, FrK T q → q ≠ al → Mq217_ q = M q := fun q hq h0 => (hfr q hq h0).trans (hF q hq h0)
        have hR_gq220_ : Rng gq220_ := h_gq220_.1
        have hK_gq220_ : Ke f gq220_ := hK_f.tr h_gq220_.2
        exact ret_i hC hr hlk hK hH (⟨gq220_, ⟨hR_gq220_, hK_gq220_⟩, hc_al, rfl, hF⟩) (Nat.le_of_ble_eq_true rfl) (Nat.le_of_ble_eq_true rfl) dX10_done_336
      · skip
        have cq216_ : xq215_.toInt = 1 := cq216_
        refine lv_iconst (v := 1) hx hb dX10_done_323 (by decide) ?_
        refine lv_goto (tgt := 328) hx hb dX10_done_324 (by decide) ?_
        refine lv_iload_n hx hb dX10_done_328 rfl (lv_at hl 2 rfl) ?_
        refine lv_iload hx hb dX10_done_329 (lv_at hl 1 rfl) ?_
        refine lv_iload hx hb dX10_done_331 (lv_at hl 0 rfl) ?_
        refine goI hK hH (runV (As := [.int xq2_, .int 3, .int 1, .int xq4_, .int xq6_, .int 1]) (rest := []) hC hK hH (c_X10_passes hc_h hn_h hc_al hn_al ht_mt ht_pa ht_li (by exact hR_f)) mlX10_129 (rcvM hK hH hc_h rfl) ⟨⟨Nat.le_of_ble_eq_true rfl, Nat.le_of_ble_eq_true rfl⟩, Nat.le_of_ble_eq_true rfl, Nat.le_of_ble_eq_true rfl⟩ rfl hl.1 rfl (Nat.le_of_ble_eq_true rfl) dX10_done_333) (fun rq223_ Mq221_ Tq222_ Hq_ lcq_ hP hz hH => ?_)
        try dsimp only at hP
        obtain ⟨gq224_, h_gq224_, (hx_al), eT, hfr⟩ := hP
        have eT := eT.symm; subst eT
        have hc_h : Mq221_ h = some (.inr (8, [.ref al, .ref mt, .ref ii, .int ta, .int fpm, .ref pa, .int sm, .int nx, .int tk, .int pl, .int ln, .long va, .int wr, .ref li])) := (hfr h (Or.inl hn_h) n_h_al).trans hc_h
        have hc_al : Mq221_ al = some (.inl (kA 0, 7506, .inl gq224_)) := hx_al
        have hF : ∀ q, FrK T q → q ≠ al → Mq221_ q = M q := fun q hq h0 => (hfr q hq h0).trans (hF q hq h0)
        have hR_gq224_ : Rng gq224_ := h_gq224_.1
        have hK_gq224_ : Ke f gq224_ := hK_f.tr h_gq224_.2
        exact ret_i hC hr hlk hK hH (⟨gq224_, ⟨hR_gq224_, hK_gq224_⟩, hc_al, rfl, hF⟩) (Nat.le_of_ble_eq_true rfl) (Nat.le_of_ble_eq_true rfl) dX10_done_336
    · skip
      refine lv_tableIn (off := 283) (tgt := 337) hx hb dX10_done_54 (by omega) (by omega) (by rw [cq136_]; rfl) (by decide) ?_
      refine lv_aload_n hx hb dX10_done_337 rfl (lv_at hl 4 rfl) ?_
      refine lv_iload_n hx hb dX10_done_338 rfl (lv_at hl 3 rfl) ?_
      refine lv_iload_n hx hb dX10_done_339 rfl (lv_at hl 2 rfl) ?_
      refine lv_iload hx hb dX10_done_340 (lv_at hl 1 rfl) ?_
      refine lv_aload_n hx hb dX10_done_342 rfl (lv_at hl 4 rfl) ?_
      refine xg hC hK hH flX10_27 hc_h rfl dX10_done_343 ?_
      refine lv_iload_n hx hb dX10_done_346 rfl (lv_at hl 5 rfl) ?_
      refine lv_iconst (v := 4) hx hb dX10_done_347 (by decide) ?_
      refine lv_iadd hx hb dX10_done_348 ?_
      refine lv_topi (fun zq225_ e_zq225_ => ?_)
      have h_zq225_ : zq225_.toInt = at_.toInt + 4 := by rw [e_zq225_, iAdd (by have := iRg at_; have : (4 : Int32).toInt = 4 := rfl; omega) (by have := iRg at_; have : (4 : Int32).toInt = 4 := rfl; omega)]; rfl
      refine tild hC hK hH ht_li rfl (iIn (by omega) (by omega)) dX10_done_349 (fun xq226_ l_xq226_ g_xq226_ => ?_)
      refine lv_iload hx hb dX10_done_350 (lv_at hl 0 rfl) ?_
      refine goI hK hH (runV (As := [.int xq2_, .int xq4_, .int xq6_, .int xq226_, .int 1]) (rest := []) hC hK hH (c_X10_forges hc_h hn_h hc_al hn_al ht_mt ht_pa ht_li (by exact hR_f)) mlX10_133 (rcvM hK hH hc_h rfl) ⟨⟨Nat.le_of_ble_eq_true rfl, Nat.le_of_ble_eq_true rfl⟩, Nat.le_of_ble_eq_true rfl, Nat.le_of_ble_eq_true rfl⟩ rfl hl.1 rfl (Nat.le_of_ble_eq_true rfl) dX10_done_352) (fun rq229_ Mq227_ Tq228_ Hq_ lcq_ hP hz hH => ?_)
      try dsimp only at hP
      obtain ⟨gq230_, h_gq230_, (hx_al), eT, hfr⟩ := hP
      have eT := eT.symm; subst eT
      have hc_h : Mq227_ h = some (.inr (8, [.ref al, .ref mt, .ref ii, .int ta, .int fpm, .ref pa, .int sm, .int nx, .int tk, .int pl, .int ln, .long va, .int wr, .ref li])) := (hfr h (Or.inl hn_h) n_h_al).trans hc_h
      have hc_al : Mq227_ al = some (.inl (kA 0, 7506, .inl gq230_)) := hx_al
      have hF : ∀ q, FrK T q → q ≠ al → Mq227_ q = M q := fun q hq h0 => (hfr q hq h0).trans (hF q hq h0)
      have hR_gq230_ : Rng gq230_ := h_gq230_.1
      have hK_gq230_ : Ke f gq230_ := hK_f.tr h_gq230_.2
      exact ret_i hC hr hlk hK hH (⟨gq230_, ⟨hR_gq230_, hK_gq230_⟩, hc_al, rfl, hF⟩) (Nat.le_of_ble_eq_true rfl) (Nat.le_of_ble_eq_true rfl) dX10_done_355
    · skip
      refine lv_tableIn (off := 302) (tgt := 356) hx hb dX10_done_54 (by omega) (by omega) (by rw [cq136_]; rfl) (by decide) ?_
      refine lv_aload_n hx hb dX10_done_356 rfl (lv_at hl 4 rfl) ?_
      refine lv_iload_n hx hb dX10_done_357 rfl (lv_at hl 3 rfl) ?_
      refine lv_iload_n hx hb dX10_done_358 rfl (lv_at hl 2 rfl) ?_
      refine goI hK hH (runV (As := [.int xq2_, .int xq4_]) (rest := []) hC hK hH (c_X10_finds hc_h hn_h hc_al hn_al ht_mt ht_pa ht_li (by exact hR_f)) mlX10_137 (rcvM hK hH hc_h rfl) ⟨⟨Nat.le_of_ble_eq_true rfl, Nat.le_of_ble_eq_true rfl⟩, Nat.le_of_ble_eq_true rfl, Nat.le_of_ble_eq_true rfl⟩ rfl hl.1 rfl (Nat.le_of_ble_eq_true rfl) dX10_done_359) (fun rq233_ Mq231_ Tq232_ Hq_ lcq_ hP hz hH => ?_)
      try dsimp only at hP
      obtain ⟨gq234_, h_gq234_, (hx_al), eT, hfr⟩ := hP
      have eT := eT.symm; subst eT
      have hc_h : Mq231_ h = some (.inr (8, [.ref al, .ref mt, .ref ii, .int ta, .int fpm, .ref pa, .int sm, .int nx, .int tk, .int pl, .int ln, .long va, .int wr, .ref li])) := (hfr h (Or.inl hn_h) n_h_al).trans hc_h
      have hc_al : Mq231_ al = some (.inl (kA 0, 7506, .inl gq234_)) := hx_al
      have hF : ∀ q, FrK T q → q ≠ al → Mq231_ q = M q := fun q hq h0 => (hfr q hq h0).trans (hF q hq h0)
      have hR_gq234_ : Rng gq234_ := h_gq234_.1
      have hK_gq234_ : Ke f gq234_ := hK_f.tr h_gq234_.2
      exact ret_i hC hr hlk hK hH (⟨gq234_, ⟨hR_gq234_, hK_gq234_⟩, hc_al, rfl, hF⟩) (Nat.le_of_ble_eq_true rfl) (Nat.le_of_ble_eq_true rfl) dX10_done_362
    · skip
      refine lv_tableIn (off := 309) (tgt := 363) hx hb dX10_done_54 (by omega) (by omega) (by rw [cq136_]; rfl) (by decide) ?_
      refine lv_aload_n hx hb dX10_done_363 rfl (lv_at hl 4 rfl) ?_
      refine lv_iload_n hx hb dX10_done_364 rfl (lv_at hl 3 rfl) ?_
      refine lv_iload_n hx hb dX10_done_365 rfl (lv_at hl 2 rfl) ?_
      refine lv_iconst (v := 1) hx hb dX10_done_366 (by decide) ?_
      refine goI hK hH (runV (As := [.int xq2_, .int xq4_, .int 1]) (rest := []) hC hK hH (c_X10_defends hc_h hn_h hc_al hn_al ht_mt ht_pa ht_li (by exact hR_f)) mlX10_146 (rcvM hK hH hc_h rfl) ⟨⟨Nat.le_of_ble_eq_true rfl, Nat.le_of_ble_eq_true rfl⟩, Nat.le_of_ble_eq_true rfl, Nat.le_of_ble_eq_true rfl⟩ rfl hl.1 rfl (Nat.le_of_ble_eq_true rfl) dX10_done_367) (fun rq237_ Mq235_ Tq236_ Hq_ lcq_ hP hz hH => ?_)
      try dsimp only at hP
      obtain ⟨gq238_, h_gq238_, (hx_al), eT, hfr⟩ := hP
      have eT := eT.symm; subst eT
      have hc_h : Mq235_ h = some (.inr (8, [.ref al, .ref mt, .ref ii, .int ta, .int fpm, .ref pa, .int sm, .int nx, .int tk, .int pl, .int ln, .long va, .int wr, .ref li])) := (hfr h (Or.inl hn_h) n_h_al).trans hc_h
      have hc_al : Mq235_ al = some (.inl (kA 0, 7506, .inl gq238_)) := hx_al
      have hF : ∀ q, FrK T q → q ≠ al → Mq235_ q = M q := fun q hq h0 => (hfr q hq h0).trans (hF q hq h0)
      have hR_gq238_ : Rng gq238_ := h_gq238_.1
      have hK_gq238_ : Ke f gq238_ := hK_f.tr h_gq238_.2
      exact ret_i hC hr hlk hK hH (⟨gq238_, ⟨hR_gq238_, hK_gq238_⟩, hc_al, rfl, hF⟩) (Nat.le_of_ble_eq_true rfl) (Nat.le_of_ble_eq_true rfl) dX10_done_370
    · skip
      refine lv_tableIn (off := 317) (tgt := 371) hx hb dX10_done_54 (by omega) (by omega) (by rw [cq136_]; rfl) (by decide) ?_
      refine lv_aload_n hx hb dX10_done_371 rfl (lv_at hl 4 rfl) ?_
      refine lv_iload_n hx hb dX10_done_372 rfl (lv_at hl 3 rfl) ?_
      refine lv_iload_n hx hb dX10_done_373 rfl (lv_at hl 2 rfl) ?_
      refine lv_iconst (v := 0) hx hb dX10_done_374 (by decide) ?_
      refine goI hK hH (runV (As := [.int xq2_, .int xq4_, .int 0]) (rest := []) hC hK hH (c_X10_defends hc_h hn_h hc_al hn_al ht_mt ht_pa ht_li (by exact hR_f)) mlX10_146 (rcvM hK hH hc_h rfl) ⟨⟨Nat.le_of_ble_eq_true rfl, Nat.le_of_ble_eq_true rfl⟩, Nat.le_of_ble_eq_true rfl, Nat.le_of_ble_eq_true rfl⟩ rfl hl.1 rfl (Nat.le_of_ble_eq_true rfl) dX10_done_375) (fun rq241_ Mq239_ Tq240_ Hq_ lcq_ hP hz hH => ?_)
      try dsimp only at hP
      obtain ⟨gq242_, h_gq242_, (hx_al), eT, hfr⟩ := hP
      have eT := eT.symm; subst eT
      have hc_h : Mq239_ h = some (.inr (8, [.ref al, .ref mt, .ref ii, .int ta, .int fpm, .ref pa, .int sm, .int nx, .int tk, .int pl, .int ln, .long va, .int wr, .ref li])) := (hfr h (Or.inl hn_h) n_h_al).trans hc_h
      have hc_al : Mq239_ al = some (.inl (kA 0, 7506, .inl gq242_)) := hx_al
      have hF : ∀ q, FrK T q → q ≠ al → Mq239_ q = M q := fun q hq h0 => (hfr q hq h0).trans (hF q hq h0)
      have hR_gq242_ : Rng gq242_ := h_gq242_.1
      have hK_gq242_ : Ke f gq242_ := hK_f.tr h_gq242_.2
      exact ret_i hC hr hlk hK hH (⟨gq242_, ⟨hR_gq242_, hK_gq242_⟩, hc_al, rfl, hF⟩) (Nat.le_of_ble_eq_true rfl) (Nat.le_of_ble_eq_true rfl) dX10_done_378
    · skip
      refine lv_tableIn (off := 325) (tgt := 379) hx hb dX10_done_54 (by omega) (by omega) (by rw [cq136_]; rfl) (by decide) ?_
      refine lv_aload_n hx hb dX10_done_379 rfl (lv_at hl 4 rfl) ?_
      refine lv_iload_n hx hb dX10_done_380 rfl (lv_at hl 3 rfl) ?_
      refine goI hK hH (runV (As := [.int xq2_]) (rest := []) hC hK hH (c_X10_presents hc_h hn_h hc_al hn_al ht_mt ht_pa ht_li (by exact hR_f)) mlX10_153 (rcvM hK hH hc_h rfl) ⟨⟨Nat.le_of_ble_eq_true rfl, Nat.le_of_ble_eq_true rfl⟩, Nat.le_of_ble_eq_true rfl, Nat.le_of_ble_eq_true rfl⟩ rfl hl.1 rfl (Nat.le_of_ble_eq_true rfl) dX10_done_381) (fun rq245_ Mq243_ Tq244_ Hq_ lcq_ hP hz hH => ?_)
      try dsimp only at hP
      obtain ⟨gq246_, h_gq246_, (hx_al), eT, hfr⟩ := hP
      have eT := eT.symm; subst eT
      have hc_h : Mq243_ h = some (.inr (8, [.ref al, .ref mt, .ref ii, .int ta, .int fpm, .ref pa, .int sm, .int nx, .int tk, .int pl, .int ln, .long va, .int wr, .ref li])) := (hfr h (Or.inl hn_h) n_h_al).trans hc_h
      have hc_al : Mq243_ al = some (.inl (kA 0, 7506, .inl gq246_)) := hx_al
      have hF : ∀ q, FrK T q → q ≠ al → Mq243_ q = M q := fun q hq h0 => (hfr q hq h0).trans (hF q hq h0)
      have hR_gq246_ : Rng gq246_ := h_gq246_.1
      have hK_gq246_ : Ke f gq246_ := hK_f.tr h_gq246_.2
      refine lv_istore (lv' := [(6, .int rq245_), (5, .int 1), (4, .int xq6_), (3, .int xq4_), (2, .int xq2_), (0, .ref h), (1, .int at_)]) hx hb dX10_done_384 hl (by decide) rfl (fun ls hl => ?_)
      refine lv_iload hx hb dX10_done_386 (lv_at hl 0 rfl) ?_
      refine lv_iconst (v := 1) hx hb dX10_done_388 (by decide) ?_
      refine jic_le (tgt := 397) hx hb dX10_done_389 (by decide) (fun cq247_ => ?_) (fun cq247_ => ?_)
      · skip
        have cq247_ : rq245_.toInt ≤ 1 := cq247_
        refine lv_iconst (v := 0) hx hb dX10_done_397 (by decide) ?_
        exact ret_i hC hr hlk hK hH (⟨gq246_, ⟨hR_gq246_, hK_gq246_⟩, hc_al, rfl, hF⟩) (Nat.le_of_ble_eq_true rfl) (Nat.le_of_ble_eq_true rfl) dX10_done_398
      · skip
        have cq247_ : 1 < rq245_.toInt := cq247_
        refine lv_iload hx hb dX10_done_392 (lv_at hl 0 rfl) ?_
        refine lv_goto (tgt := 398) hx hb dX10_done_394 (by decide) ?_
        exact ret_i hC hr hlk hK hH (⟨gq246_, ⟨hR_gq246_, hK_gq246_⟩, hc_al, rfl, hF⟩) (Nat.le_of_ble_eq_true rfl) (Nat.le_of_ble_eq_true rfl) dX10_done_398
    · skip
      refine lv_tableIn (off := 345) (tgt := 399) hx hb dX10_done_54 (by omega) (by omega) (by rw [cq136_]; rfl) (by decide) ?_
      refine lv_aload_n hx hb dX10_done_399 rfl (lv_at hl 4 rfl) ?_
      refine lv_iload_n hx hb dX10_done_400 rfl (lv_at hl 3 rfl) ?_
      refine lv_iconst (v := -1) hx hb dX10_done_401 (by decide) ?_
      refine lv_iload_n hx hb dX10_done_402 rfl (lv_at hl 2 rfl) ?_
      refine goI hK hH (runV (As := [.int xq2_, .int (-1), .int xq4_]) (rest := []) hC hK hH (c_X10_notifies hc_h hn_h hc_al hn_al ht_mt ht_pa ht_li (by exact hR_f)) mlX10_156 (rcvM hK hH hc_h rfl) ⟨⟨Nat.le_of_ble_eq_true rfl, Nat.le_of_ble_eq_true rfl⟩, Nat.le_of_ble_eq_true rfl, Nat.le_of_ble_eq_true rfl⟩ rfl hl.1 rfl (Nat.le_of_ble_eq_true rfl) dX10_done_403) (fun rq250_ Mq248_ Tq249_ Hq_ lcq_ hP hz hH => ?_)
      try dsimp only at hP
      obtain ⟨gq251_, h_gq251_, (hx_al), eT, hfr⟩ := hP
      have eT := eT.symm; subst eT
      have hc_h : Mq248_ h = some (.inr (8, [.ref al, .ref mt, .ref ii, .int ta, .int fpm, .ref pa, .int sm, .int nx, .int tk, .int pl, .int ln, .long va, .int wr, .ref li])) := (hfr h (Or.inl hn_h) n_h_al).trans hc_h
      have hc_al : Mq248_ al = some (.inl (kA 0, 7506, .inl gq251_)) := hx_al
      have hF : ∀ q, FrK T q → q ≠ al → Mq248_ q = M q := fun q hq h0 => (hfr q hq h0).trans (hF q hq h0)
      have hR_gq251_ : Rng gq251_ := h_gq251_.1
      have hK_gq251_ : Ke f gq251_ := hK_f.tr h_gq251_.2
      exact ret_i hC hr hlk hK hH (⟨gq251_, ⟨hR_gq251_, hK_gq251_⟩, hc_al, rfl, hF⟩) (Nat.le_of_ble_eq_true rfl) (Nat.le_of_ble_eq_true rfl) dX10_done_406
    · skip
      refine lv_tableIn (off := 353) (tgt := 407) hx hb dX10_done_54 (by omega) (by omega) (by rw [cq136_]; rfl) (by decide) ?_
      refine lv_aload_n hx hb dX10_done_407 rfl (lv_at hl 4 rfl) ?_
      refine lv_iload_n hx hb dX10_done_408 rfl (lv_at hl 3 rfl) ?_
      refine lv_iload_n hx hb dX10_done_409 rfl (lv_at hl 2 rfl) ?_
      refine lv_iload hx hb dX10_done_410 (lv_at hl 1 rfl) ?_
      refine goI hK hH (runV (As := [.int xq2_, .int xq4_, .int xq6_]) (rest := []) hC hK hH (c_X10_notifies hc_h hn_h hc_al hn_al ht_mt ht_pa ht_li (by exact hR_f)) mlX10_156 (rcvM hK hH hc_h rfl) ⟨⟨Nat.le_of_ble_eq_true rfl, Nat.le_of_ble_eq_true rfl⟩, Nat.le_of_ble_eq_true rfl, Nat.le_of_ble_eq_true rfl⟩ rfl hl.1 rfl (Nat.le_of_ble_eq_true rfl) dX10_done_412) (fun rq254_ Mq252_ Tq253_ Hq_ lcq_ hP hz hH => ?_)
      try dsimp only at hP
      obtain ⟨gq255_, h_gq255_, (hx_al), eT, hfr⟩ := hP
      have eT := eT.symm; subst eT
      have hc_h : Mq252_ h = some (.inr (8, [.ref al, .ref mt, .ref ii, .int ta, .int fpm, .ref pa, .int sm, .int nx, .int tk, .int pl, .int ln, .long va, .int wr, .ref li])) := (hfr h (Or.inl hn_h) n_h_al).trans hc_h
      have hc_al : Mq252_ al = some (.inl (kA 0, 7506, .inl gq255_)) := hx_al
      have hF : ∀ q, FrK T q → q ≠ al → Mq252_ q = M q := fun q hq h0 => (hfr q hq h0).trans (hF q hq h0)
      have hR_gq255_ : Rng gq255_ := h_gq255_.1
      have hK_gq255_ : Ke f gq255_ := hK_f.tr h_gq255_.2
      exact ret_i hC hr hlk hK hH (⟨gq255_, ⟨hR_gq255_, hK_gq255_⟩, hc_al, rfl, hF⟩) (Nat.le_of_ble_eq_true rfl) (Nat.le_of_ble_eq_true rfl) dX10_done_415
    · skip
      refine lv_tableIn (off := 362) (tgt := 416) hx hb dX10_done_54 (by omega) (by omega) (by rw [cq136_]; rfl) (by decide) ?_
      refine lv_aload_n hx hb dX10_done_416 rfl (lv_at hl 4 rfl) ?_
      refine lv_iload_n hx hb dX10_done_417 rfl (lv_at hl 3 rfl) ?_
      refine lv_iload_n hx hb dX10_done_418 rfl (lv_at hl 2 rfl) ?_
      refine goI hK hH (runV (As := [.int xq2_, .int xq4_]) (rest := []) hC hK hH (c_X10_releases hc_h hn_h hc_al hn_al ht_mt ht_pa ht_li (by exact hR_f)) mlX10_159 (rcvM hK hH hc_h rfl) ⟨⟨Nat.le_of_ble_eq_true rfl, Nat.le_of_ble_eq_true rfl⟩, Nat.le_of_ble_eq_true rfl, Nat.le_of_ble_eq_true rfl⟩ rfl hl.1 rfl (Nat.le_of_ble_eq_true rfl) dX10_done_419) (fun rq258_ Mq256_ Tq257_ Hq_ lcq_ hP hz hH => ?_)
      try dsimp only at hP
      obtain ⟨gq259_, h_gq259_, (hx_al), eT, hfr⟩ := hP
      have eT := eT.symm; subst eT
      have hc_h : Mq256_ h = some (.inr (8, [.ref al, .ref mt, .ref ii, .int ta, .int fpm, .ref pa, .int sm, .int nx, .int tk, .int pl, .int ln, .long va, .int wr, .ref li])) := (hfr h (Or.inl hn_h) n_h_al).trans hc_h
      have hc_al : Mq256_ al = some (.inl (kA 0, 7506, .inl gq259_)) := hx_al
      have hF : ∀ q, FrK T q → q ≠ al → Mq256_ q = M q := fun q hq h0 => (hfr q hq h0).trans (hF q hq h0)
      have hR_gq259_ : Rng gq259_ := h_gq259_.1
      have hK_gq259_ : Ke f gq259_ := hK_f.tr h_gq259_.2
      exact ret_i hC hr hlk hK hH (⟨gq259_, ⟨hR_gq259_, hK_gq259_⟩, hc_al, rfl, hF⟩) (Nat.le_of_ble_eq_true rfl) (Nat.le_of_ble_eq_true rfl) dX10_done_422
