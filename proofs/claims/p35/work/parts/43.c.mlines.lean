set_option maxHeartbeats 4000000 in
set_option maxRecDepth 100000 in
theorem c_X10_fails {l : Launch} {D : va_G} {kA : Nat → ClassId} {M : mM} {T : mT} {sz : Nat} {h al mt ii pa li : Nat} {ta fpm sm nx tk pl ln wr : Int32} {va : Int64} {ft : Nat → Int32} (hc_h : M h = some (.inr (8, [.ref al, .ref mt, .ref ii, .int ta, .int fpm, .ref pa, .int sm, .int nx, .int tk, .int pl, .int ln, .long va, .int wr, .ref li]))) (hn_h : T h = none) (hc_mt : M mt = some (.inl (kA 0, 600, .inl ft))) (ht_mt : T mt = some 11) (ht_pa : T pa = some 13) (ht_li : T li = some 14) (hwr : 0 ≤ wr.toInt ∧ wr.toInt ≤ 1) : mCv l yX10_fails cX10_fails 1 0 0 0 D kA M T sz [.ref h] (fun u => ∃ wr2 : Int32, ((0 : Int) ≤ wr2.toInt ∧ wr2.toInt ≤ 1) ∧ ∃ fpm2 : Int32, ((-2147483648 : Int) ≤ fpm2.toInt ∧ fpm2.toInt ≤ 2147483647) ∧ (wr2.toInt = 1 ∧ u.1 h = some (.inr (8, [.ref al, .ref mt, .ref ii, .int ta, .int fpm2, .ref pa, .int sm, .int nx, .int tk, .int pl, .int ln, .long va, .int wr2, .ref li])) ∧ u.1 mt = some (.inl (kA 0, 600, .inl ft))) ∧ u.2 = T ∧ (∀ q, FrK T q → q ≠ h → q ≠ mt → u.1 q = M q)) := by
  unfold mCv
  refine start_W (by decide) (Nat.le_of_ble_eq_true rfl) ?_
  intro p e s m below meth c ls hC hr hlk hnm hK hH hsz hl
  have hx := hC.1
  have hb := hC.2.1
  have hl : lv_has ls 1 [(0, .ref h)] := hl
  have hF : ∀ q, FrK T q → q ≠ h → q ≠ mt → M q = M q := fun q _ _ _ => rfl
  have n_h_mt : h ≠ mt := neM hc_h hc_mt (by simp)
  have n_mt_h : mt ≠ h := neM hc_mt hc_h (by simp)
  refine lv_aload_n hx hb dX10_fails_0 rfl (lv_at hl 0 rfl) ?_
  refine xg hC hK hH flX10_234 hc_h rfl dX10_fails_1 ?_
  refine jif_eq (tgt := 8) hx hb dX10_fails_4 (by decide) (fun cq1_ => ?_) (fun cq1_ => ?_)
  · skip
    have cq1_ : wr.toInt = 0 := cq1_
    refine lv_aload_n hx hb dX10_fails_8 rfl (lv_at hl 0 rfl) ?_
    refine lv_iconst (v := 1) hx hb dX10_fails_9 (by decide) ?_
    refine yp (v := .int 1) hC hK hH flX10_234 hc_h (noT hn_h) rfl rfl (Nat.le_of_ble_eq_true rfl) dX10_fails_10 (fun Hq_ lcq_ Mq2_ hc_h hfr hH => ?_)
    have hc_h : Mq2_ h = some (.inr (8, [.ref al, .ref mt, .ref ii, .int ta, .int fpm, .ref pa, .int sm, .int nx, .int tk, .int pl, .int ln, .long va, .int 1, .ref li])) := hc_h
    have hc_mt : Mq2_ mt = some (.inl (kA 0, 600, .inl ft)) := (hfr mt n_mt_h).trans hc_mt
    have hF : ∀ q, FrK T q → q ≠ h → q ≠ mt → Mq2_ q = M q := fun q hq h0 h1 => (hfr q h0).trans (hF q hq h0 h1)
    refine lv_aload_n hx hb dX10_fails_13 rfl (lv_at hl 0 rfl) ?_
    refine lv_aload_n hx hb dX10_fails_14 rfl (lv_at hl 0 rfl) ?_
    refine xg hC hK hH flX10_210 hc_h rfl dX10_fails_15 ?_
    refine yp (v := .int pl) hC hK hH flX10_20 hc_h (noT hn_h) rfl rfl (Nat.le_of_ble_eq_true rfl) dX10_fails_18 (fun Hq_ lcq_ Mq3_ hc_h hfr hH => ?_)
    have hc_h : Mq3_ h = some (.inr (8, [.ref al, .ref mt, .ref ii, .int ta, .int pl, .ref pa, .int sm, .int nx, .int tk, .int pl, .int ln, .long va, .int 1, .ref li])) := hc_h
    have hc_mt : Mq3_ mt = some (.inl (kA 0, 600, .inl ft)) := (hfr mt n_mt_h).trans hc_mt
    have hF : ∀ q, FrK T q → q ≠ h → q ≠ mt → Mq3_ q = M q := fun q hq h0 h1 => (hfr q h0).trans (hF q hq h0 h1)
    exact ret_v hC hr hlk hK hH (⟨1, ⟨by decide, by decide⟩, pl, iRg _, ⟨by have : (1 : Int32).toInt = 1 := rfl; omega, hc_h, hc_mt⟩, rfl, hF⟩) (Nat.le_of_ble_eq_true rfl) (Nat.le_of_ble_eq_true rfl) dX10_fails_21
  · skip
    have cq1_ : wr.toInt ≠ 0 := cq1_
    exact ret_v hC hr hlk hK hH (⟨wr, ⟨by omega, by omega⟩, fpm, iRg _, ⟨by omega, hc_h, hc_mt⟩, rfl, hF⟩) (Nat.le_of_ble_eq_true rfl) (Nat.le_of_ble_eq_true rfl) dX10_fails_7
set_option maxHeartbeats 4000000 in
set_option maxRecDepth 100000 in
theorem c_X10_hasWord {l : Launch} {D : va_G} {kA : Nat → ClassId} {M : mM} {T : mT} {sz : Nat} {h al mt ii pa li : Nat} {ta fpm sm nx tk pl ln wr : Int32} {va : Int64} {lw : Int64} {ft : Nat → Int32} (hc_h : M h = some (.inr (8, [.ref al, .ref mt, .ref ii, .int ta, .int fpm, .ref pa, .int sm, .int nx, .int tk, .int pl, .int ln, .long va, .int wr, .ref li]))) (hn_h : T h = none) (hc_mt : M mt = some (.inl (kA 0, 600, .inl ft))) (ht_mt : T mt = some 11) (ht_pa : T pa = some 13) (ht_li : T li = some 14) (hsm : 0 ≤ sm.toInt ∧ sm.toInt ≤ 600) (hpl : 0 ≤ pl.toInt) (htk : 0 ≤ tk.toInt ∧ tk.toInt ≤ 4) (htok : pl.toInt ≤ nx.toInt ∧ nx.toInt ≤ sm.toInt ∧ (tk.toInt = 0 ∨ pl.toInt < nx.toInt) ∧ (tk.toInt ≠ 1 ∨ nx.toInt ≠ pl.toInt + 1 ∨ va.toInt ≤ 26)) (hwr : 0 ≤ wr.toInt ∧ wr.toInt ≤ 1) (hlw : 26 < lw.toInt) : mCi l yX10_hasWord cX10_hasWord 4 (some .boolean) 2 0 0 D kA M T sz [.ref h, .long lw] (fun r u => ∃ va2 : Int64, ∃ nx2 : Int32, ((0 : Int) ≤ nx2.toInt ∧ nx2.toInt ≤ 600) ∧ ∃ tk2 : Int32, ((0 : Int) ≤ tk2.toInt ∧ tk2.toInt ≤ 4) ∧ ∃ pl2 : Int32, ((0 : Int) ≤ pl2.toInt ∧ pl2.toInt ≤ 600) ∧ (((wr.toInt = 0 ∧ pl.toInt + 2 ≤ pl2.toInt ∧ pl2.toInt ≤ nx2.toInt ∧ nx2.toInt ≤ sm.toInt ∧ (tk2.toInt = 0 ∨ pl2.toInt < nx2.toInt) ∧ (tk2.toInt ≠ 1 ∨ nx2.toInt ≠ pl2.toInt + 1 ∨ va2.toInt ≤ 26)) ∧ r = 1 ∧ u.1 h = some (.inr (8, [.ref al, .ref mt, .ref ii, .int ta, .int fpm, .ref pa, .int sm, .int nx2, .int tk2, .int pl2, .int ln, .long va2, .int wr, .ref li])) ∧ u.1 mt = some (.inl (kA 0, 600, .inl ft))) ∨ (r = 0 ∧ u.1 h = some (.inr (8, [.ref al, .ref mt, .ref ii, .int ta, .int fpm, .ref pa, .int sm, .int nx, .int tk, .int pl, .int ln, .long va, .int wr, .ref li])) ∧ u.1 mt = some (.inl (kA 0, 600, .inl ft)))) ∧ u.2 = T ∧ (∀ q, FrK T q → q ≠ h → q ≠ mt → u.1 q = M q)) := by
  unfold mCi
  refine start_W (by decide) (Nat.le_of_ble_eq_true rfl) ?_
  intro p e s m below meth c ls hC hr hlk hnm hK hH hsz hl
  have hx := hC.1
  have hb := hC.2.1
  have hl : lv_has ls 4 [(0, .ref h), (1, .long lw)] := hl
  have hF : ∀ q, FrK T q → q ≠ h → q ≠ mt → M q = M q := fun q _ _ _ => rfl
  have n_h_mt : h ≠ mt := neM hc_h hc_mt (by simp)
  have n_mt_h : mt ≠ h := neM hc_mt hc_h (by simp)
  refine lv_aload_n hx hb dX10_hasWord_0 rfl (lv_at hl 0 rfl) ?_
  refine xg hC hK hH flX10_234 hc_h rfl dX10_hasWord_1 ?_
  refine jif_ne (tgt := 28) hx hb dX10_hasWord_4 (by decide) (fun cq1_ => ?_) (fun cq1_ => ?_)
  · skip
    have cq1_ : wr.toInt ≠ 0 := cq1_
    refine lv_iconst (v := 0) hx hb dX10_hasWord_28 (by decide) ?_
    refine lv_istore_n (lv' := [(3, .int 0), (0, .ref h), (1, .long lw)]) hx hb dX10_hasWord_29 rfl hl (by decide) rfl (fun ls hl => ?_)
    refine lv_iload_n hx hb dX10_hasWord_30 rfl (lv_at hl 0 rfl) ?_
    refine jif_eq (tgt := 38) hx hb dX10_hasWord_31 (by decide) (fun cq2_ => ?_) (fun cq2_ => absurd cq2_ (by decide))
    refine lv_iload_n hx hb dX10_hasWord_38 rfl (lv_at hl 0 rfl) ?_
    exact ret_z hC hr hlk hK hH (by first | exact Or.inl rfl | exact Or.inr rfl | assumption) (⟨va, nx, ⟨by omega, by omega⟩, tk, ⟨by omega, by omega⟩, pl, ⟨by omega, by omega⟩, Or.inr (⟨rfl, hc_h, hc_mt⟩), rfl, hF⟩) (Nat.le_of_ble_eq_true rfl) (Nat.le_of_ble_eq_true rfl) dX10_hasWord_39
  · skip
    have cq1_ : wr.toInt = 0 := cq1_
    refine lv_aload_n hx hb dX10_hasWord_7 rfl (lv_at hl 0 rfl) ?_
    refine xg hC hK hH flX10_217 hc_h rfl dX10_hasWord_8 ?_
    refine lv_iconst (v := 1) hx hb dX10_hasWord_11 (by decide) ?_
    refine jic_ne (tgt := 28) hx hb dX10_hasWord_12 (by decide) (fun cq3_ => ?_) (fun cq3_ => ?_)
    · skip
      have cq3_ : tk.toInt ≠ 1 := cq3_
      refine lv_iconst (v := 0) hx hb dX10_hasWord_28 (by decide) ?_
      refine lv_istore_n (lv' := [(3, .int 0), (0, .ref h), (1, .long lw)]) hx hb dX10_hasWord_29 rfl hl (by decide) rfl (fun ls hl => ?_)
      refine lv_iload_n hx hb dX10_hasWord_30 rfl (lv_at hl 0 rfl) ?_
      refine jif_eq (tgt := 38) hx hb dX10_hasWord_31 (by decide) (fun cq4_ => ?_) (fun cq4_ => absurd cq4_ (by decide))
      refine lv_iload_n hx hb dX10_hasWord_38 rfl (lv_at hl 0 rfl) ?_
      exact ret_z hC hr hlk hK hH (by first | exact Or.inl rfl | exact Or.inr rfl | assumption) (⟨va, nx, ⟨by omega, by omega⟩, tk, ⟨by omega, by omega⟩, pl, ⟨by omega, by omega⟩, Or.inr (⟨rfl, hc_h, hc_mt⟩), rfl, hF⟩) (Nat.le_of_ble_eq_true rfl) (Nat.le_of_ble_eq_true rfl) dX10_hasWord_39
    · skip
      have cq3_ : tk.toInt = 1 := cq3_
      refine lv_aload_n hx hb dX10_hasWord_15 rfl (lv_at hl 0 rfl) ?_
      refine xg hC hK hH flX10_213 hc_h rfl dX10_hasWord_16 ?_
      refine lv_lload_n hx hb dX10_hasWord_19 rfl (lv_at hl 1 rfl) ?_
      refine W.lcmp hx hb dX10_hasWord_20 ?_
      refine lv_topi (fun zq5_ e_zq5_ => ?_)
      have hl_zq5_ := lcE e_zq5_
      refine jif_ne (tgt := 28) hx hb dX10_hasWord_21 (by decide) (fun cq6_ => ?_) (fun cq6_ => ?_)
      · skip
        have cq6_ : zq5_.toInt ≠ 0 := cq6_
        refine lv_iconst (v := 0) hx hb dX10_hasWord_28 (by decide) ?_
        refine lv_istore_n (lv' := [(3, .int 0), (0, .ref h), (1, .long lw)]) hx hb dX10_hasWord_29 rfl hl (by decide) rfl (fun ls hl => ?_)
        refine lv_iload_n hx hb dX10_hasWord_30 rfl (lv_at hl 0 rfl) ?_
        refine jif_eq (tgt := 38) hx hb dX10_hasWord_31 (by decide) (fun cq7_ => ?_) (fun cq7_ => absurd cq7_ (by decide))
        refine lv_iload_n hx hb dX10_hasWord_38 rfl (lv_at hl 0 rfl) ?_
        exact ret_z hC hr hlk hK hH (by first | exact Or.inl rfl | exact Or.inr rfl | assumption) (⟨va, nx, ⟨by omega, by omega⟩, tk, ⟨by omega, by omega⟩, pl, ⟨by omega, by omega⟩, Or.inr (⟨rfl, hc_h, hc_mt⟩), rfl, hF⟩) (Nat.le_of_ble_eq_true rfl) (Nat.le_of_ble_eq_true rfl) dX10_hasWord_39
      · skip
        have cq6_ : zq5_.toInt = 0 := cq6_
        refine lv_iconst (v := 1) hx hb dX10_hasWord_24 (by decide) ?_
        refine lv_goto (tgt := 29) hx hb dX10_hasWord_25 (by decide) ?_
        refine lv_istore_n (lv' := [(3, .int 1), (0, .ref h), (1, .long lw)]) hx hb dX10_hasWord_29 rfl hl (by decide) rfl (fun ls hl => ?_)
        refine lv_iload_n hx hb dX10_hasWord_30 rfl (lv_at hl 0 rfl) ?_
        refine jif_eq (tgt := 38) hx hb dX10_hasWord_31 (by decide) (fun cq8_ => absurd cq8_ (by decide)) (fun cq8_ => ?_)
        refine lv_aload_n hx hb dX10_hasWord_34 rfl (lv_at hl 1 rfl) ?_
        refine goV hK hH (runV (As := []) (rest := []) hC hK hH (c_X10_takes hc_h hn_h hc_mt ht_mt ht_pa ht_li (by omega) (by omega)) mlX10_238 (rcvM hK hH hc_h rfl) ⟨⟨Nat.le_of_ble_eq_true rfl, Nat.le_of_ble_eq_true rfl⟩, Nat.le_of_ble_eq_true rfl, Nat.le_of_ble_eq_true rfl⟩ rfl hl.1 rfl (Nat.le_of_ble_eq_true rfl) dX10_hasWord_35) (fun Mq10_ Tq11_ Hq_ lcq_ hP hz hH => ?_)
        try dsimp only at hP
        obtain ⟨xq9_, xq14_, ⟨l_xq14_, g_xq14_⟩, xq15_, ⟨l_xq15_, g_xq15_⟩, xq16_, ⟨l_xq16_, g_xq16_⟩, (⟨cq13_, hx_h, hx_mt⟩), eT, hfr⟩ := hP
        have eT := eT.symm; subst eT
        have hc_h : Mq10_ h = some (.inr (8, [.ref al, .ref mt, .ref ii, .int ta, .int fpm, .ref pa, .int sm, .int xq14_, .int xq15_, .int xq16_, .int ln, .long xq9_, .int wr, .ref li])) := hx_h
        have hc_mt : Mq10_ mt = some (.inl (kA 0, 600, .inl ft)) := hx_mt
        have hF : ∀ q, FrK T q → q ≠ h → q ≠ mt → Mq10_ q = M q := fun q hq h0 h1 => (hfr q hq h0 h1).trans (hF q hq h0 h1)
        have cq13_ : nx.toInt ≤ xq16_.toInt ∧ xq16_.toInt ≤ xq14_.toInt ∧ xq14_.toInt ≤ sm.toInt ∧ (xq15_.toInt = 0 ∨ xq16_.toInt < xq14_.toInt) ∧ (xq15_.toInt ≠ 1 ∨ xq14_.toInt ≠ xq16_.toInt + 1 ∨ xq9_.toInt ≤ 26) := cq13_
        refine lv_iload_n hx hb dX10_hasWord_38 rfl (lv_at hl 0 rfl) ?_
        exact ret_z hC hr hlk hK hH (by first | exact Or.inl rfl | exact Or.inr rfl | assumption) (⟨xq9_, xq14_, ⟨by omega, by omega⟩, xq15_, ⟨by omega, by omega⟩, xq16_, ⟨by omega, by omega⟩, Or.inl (⟨by omega, rfl, hc_h, hc_mt⟩), rfl, hF⟩) (Nat.le_of_ble_eq_true rfl) (Nat.le_of_ble_eq_true rfl) dX10_hasWord_39
set_option maxHeartbeats 4000000 in
set_option maxRecDepth 100000 in
theorem c_X10_isLine {l : Launch} {D : va_G} {kA : Nat → ClassId} {M : mM} {T : mT} {sz : Nat} {h al mt ii pa li : Nat} {ta fpm sm nx tk pl ln wr : Int32} {va : Int64} {lw : Int64} {nu mo_ : Int32} {ft : Nat → Int32} (hc_h : M h = some (.inr (8, [.ref al, .ref mt, .ref ii, .int ta, .int fpm, .ref pa, .int sm, .int nx, .int tk, .int pl, .int ln, .long va, .int wr, .ref li]))) (hn_h : T h = none) (hc_mt : M mt = some (.inl (kA 0, 600, .inl ft))) (ht_mt : T mt = some 11) (ht_pa : T pa = some 13) (ht_li : T li = some 14) (hsm : 0 ≤ sm.toInt ∧ sm.toInt ≤ 600) (hpl : 0 ≤ pl.toInt) (htk : 0 ≤ tk.toInt ∧ tk.toInt ≤ 4) (htok : pl.toInt ≤ nx.toInt ∧ nx.toInt ≤ sm.toInt ∧ (tk.toInt = 0 ∨ pl.toInt < nx.toInt) ∧ (tk.toInt ≠ 1 ∨ nx.toInt ≠ pl.toInt + 1 ∨ va.toInt ≤ 26)) (hln : 0 ≤ ln.toInt ∧ ln.toInt ≤ 150) (hw0 : wr.toInt = 0) (hnu : 1 ≤ nu.toInt ∧ nu.toInt ≤ 5) (hlw : 26 < lw.toInt) : mCi l yX10_isLine cX10_isLine 7 (some .boolean) 3 0 0 D kA M T sz [.ref h, .long lw, .int nu, .int mo_] (fun r u => ∃ va2 : Int64, ∃ nx2 : Int32, ((0 : Int) ≤ nx2.toInt ∧ nx2.toInt ≤ 600) ∧ ∃ tk2 : Int32, ((0 : Int) ≤ tk2.toInt ∧ tk2.toInt ≤ 4) ∧ ∃ pl2 : Int32, ((0 : Int) ≤ pl2.toInt ∧ pl2.toInt ≤ 600) ∧ ∃ wr2 : Int32, ((0 : Int) ≤ wr2.toInt ∧ wr2.toInt ≤ 1) ∧ ∃ fpm2 : Int32, ((-2147483648 : Int) ≤ fpm2.toInt ∧ fpm2.toInt ≤ 2147483647) ∧ ((r = 0 ∧ u.1 h = some (.inr (8, [.ref al, .ref mt, .ref ii, .int ta, .int fpm, .ref pa, .int sm, .int nx, .int tk, .int pl, .int ln, .long va, .int wr, .ref li])) ∧ u.1 mt = some (.inl (kA 0, 600, .inl ft))) ∨ ((pl.toInt ≤ pl2.toInt ∧ pl2.toInt ≤ nx2.toInt ∧ nx2.toInt ≤ sm.toInt ∧ (tk2.toInt = 0 ∨ pl2.toInt < nx2.toInt) ∧ (tk2.toInt ≠ 1 ∨ nx2.toInt ≠ pl2.toInt + 1 ∨ va2.toInt ≤ 26) ∧ (wr2.toInt = 1 ∨ pl.toInt + 3 ≤ pl2.toInt)) ∧ r = 1 ∧ u.1 h = some (.inr (8, [.ref al, .ref mt, .ref ii, .int ta, .int fpm2, .ref pa, .int sm, .int nx2, .int tk2, .int pl2, .int ln, .long va2, .int wr2, .ref li])) ∧ u.1 mt = some (.inl (kA 0, 600, .inl ft)))) ∧ u.2 = T ∧ (∀ q, FrK T q → q ≠ h → q ≠ mt → u.1 q = M q)) := by
  unfold mCi
  refine start_W (by decide) (Nat.le_of_ble_eq_true rfl) ?_
  intro p e s m below meth c ls hC hr hlk hnm hK hH hsz hl
  have hx := hC.1
  have hb := hC.2.1
  have hl : lv_has ls 7 [(0, .ref h), (1, .long lw), (3, .int nu), (4, .int mo_)] := hl
  have hF : ∀ q, FrK T q → q ≠ h → q ≠ mt → M q = M q := fun q _ _ _ => rfl
  have n_h_mt : h ≠ mt := neM hc_h hc_mt (by simp)
  have n_mt_h : mt ≠ h := neM hc_mt hc_h (by simp)
  refine lv_aload_n hx hb dX10_isLine_0 rfl (lv_at hl 0 rfl) ?_
  refine lv_lload_n hx hb dX10_isLine_1 rfl (lv_at hl 1 rfl) ?_
  refine goI hK hH (runV (As := [.long lw]) (rest := []) hC hK hH (c_X10_hasWord hc_h hn_h hc_mt ht_mt ht_pa ht_li (by omega) (by omega) (by omega) (by omega) (by omega) (by omega)) mlX10_241 (rcvM hK hH hc_h rfl) ⟨⟨Nat.le_of_ble_eq_true rfl, Nat.le_of_ble_eq_true rfl⟩, Nat.le_of_ble_eq_true rfl, Nat.le_of_ble_eq_true rfl⟩ rfl hl.1 rfl (Nat.le_of_ble_eq_true rfl) dX10_isLine_2) (fun rq4_ Mq2_ Tq3_ Hq_ lcq_ hP hz hH => ?_)
  try dsimp only at hP
  obtain ⟨xq1_, xq6_, ⟨l_xq6_, g_xq6_⟩, xq7_, ⟨l_xq7_, g_xq7_⟩, xq8_, ⟨l_xq8_, g_xq8_⟩, (⟨cq5_, er_rq4_, hx_h, hx_mt⟩ | ⟨er_rq4_, hx_h, hx_mt⟩), eT, hfr⟩ := hP
  · skip
    have eT := eT.symm; subst eT
    have er_rq4_ := er_rq4_.symm; subst er_rq4_
    have hc_h : Mq2_ h = some (.inr (8, [.ref al, .ref mt, .ref ii, .int ta, .int fpm, .ref pa, .int sm, .int xq6_, .int xq7_, .int xq8_, .int ln, .long xq1_, .int wr, .ref li])) := hx_h
    have hc_mt : Mq2_ mt = some (.inl (kA 0, 600, .inl ft)) := hx_mt
    have hF : ∀ q, FrK T q → q ≠ h → q ≠ mt → Mq2_ q = M q := fun q hq h0 h1 => (hfr q hq h0 h1).trans (hF q hq h0 h1)
    have cq5_ : wr.toInt = 0 ∧ pl.toInt + 2 ≤ xq8_.toInt ∧ xq8_.toInt ≤ xq6_.toInt ∧ xq6_.toInt ≤ sm.toInt ∧ (xq7_.toInt = 0 ∨ xq8_.toInt < xq6_.toInt) ∧ (xq7_.toInt ≠ 1 ∨ xq6_.toInt ≠ xq8_.toInt + 1 ∨ xq1_.toInt ≤ 26) := cq5_
    refine jif_ne (tgt := 10) hx hb dX10_isLine_5 (by decide) (fun cq9_ => ?_) (fun cq9_ => absurd cq9_ (by decide))
    refine lv_bipush (v := 8) hx hb dX10_isLine_10 (by decide) ?_
    refine lv_aload_n hx hb dX10_isLine_12 rfl (lv_at hl 0 rfl) ?_
    refine xg hC hK hH flX10_245 hc_h rfl dX10_isLine_13 ?_
    refine lv_imul hx hb dX10_isLine_16 ?_
    refine lv_topi (fun zq10_ e_zq10_ => ?_)
    have h_zq10_ : zq10_.toInt = 8 * ln.toInt := by rw [e_zq10_, iMul (by show (-2147483648 : Int) ≤ 8 * ln.toInt; omega) (by show 8 * ln.toInt ≤ (2147483647 : Int); omega)]; rfl
    refine lv_istore (lv' := [(5, .int zq10_), (0, .ref h), (1, .long lw), (3, .int nu), (4, .int mo_)]) hx hb dX10_isLine_17 hl (by decide) rfl (fun ls hl => ?_)
    refine lv_iconst (v := 0) hx hb dX10_isLine_19 (by decide) ?_
    refine lv_istore (lv' := [(6, .int 0), (5, .int zq10_), (0, .ref h), (1, .long lw), (3, .int nu), (4, .int mo_)]) hx hb dX10_isLine_20 hl (by decide) rfl (fun ls hl => ?_)
    have loop : ∀ (n : Nat) (yq11_ : Int32) (yq12_ : Int32) (yq13_ : Int32) (yq14_ : Int32) (yq15_ : Int64) (Hq_ : Heap) (lcq_ : List Loc) (Mq16_ : mM) (ls : Array Slot), nu.toInt - yq11_.toInt + 1 ≤ (n : Int) → (0 : Int) ≤ yq11_.toInt → yq11_.toInt ≤ 5 → (0 : Int) ≤ yq12_.toInt → yq12_.toInt ≤ 600 → (0 : Int) ≤ yq13_.toInt → yq13_.toInt ≤ 4 → (0 : Int) ≤ yq14_.toInt → yq14_.toInt ≤ 600 → (yq14_.toInt ≤ yq12_.toInt) → (yq12_.toInt ≤ sm.toInt) → (yq13_.toInt = 0 ∨ yq14_.toInt < yq12_.toInt) → (yq13_.toInt ≠ 1 ∨ yq12_.toInt ≠ yq14_.toInt + 1 ∨ yq15_.toInt ≤ 26) → (pl.toInt + 2 + yq11_.toInt ≤ yq14_.toInt) → (yq11_.toInt ≤ nu.toInt) → Mq16_ h = some (.inr (8, [.ref al, .ref mt, .ref ii, .int ta, .int fpm, .ref pa, .int sm, .int yq12_, .int yq13_, .int yq14_, .int ln, .long yq15_, .int wr, .ref li])) → Mq16_ mt = some (.inl (kA 0, 600, .inl ft)) → (∀ q, FrK T q → q ≠ h → q ≠ mt → Mq16_ q = M q) → mS D kA Mq16_ T (mA M T sz) s.heap Hq_ lcq_ → lv_has ls 7 [(6, .int yq11_), (5, .int zq10_), (0, .ref h), (1, .long lw), (3, .int nu), (4, .int mo_)] → W p l e (rmL 3 0 0) s m ([.ref h, .long lw, .int nu, .int mo_] : List Value).toArray below meth c Hq_ lcq_ 0 0 (MQ below (va_Qi (fun r u => ∃ va2 : Int64, ∃ nx2 : Int32, ((0 : Int) ≤ nx2.toInt ∧ nx2.toInt ≤ 600) ∧ ∃ tk2 : Int32, ((0 : Int) ≤ tk2.toInt ∧ tk2.toInt ≤ 4) ∧ ∃ pl2 : Int32, ((0 : Int) ≤ pl2.toInt ∧ pl2.toInt ≤ 600) ∧ ∃ wr2 : Int32, ((0 : Int) ≤ wr2.toInt ∧ wr2.toInt ≤ 1) ∧ ∃ fpm2 : Int32, ((-2147483648 : Int) ≤ fpm2.toInt ∧ fpm2.toInt ≤ 2147483647) ∧ ((r = 0 ∧ u.1 h = some (.inr (8, [.ref al, .ref mt, .ref ii, .int ta, .int fpm, .ref pa, .int sm, .int nx, .int tk, .int pl, .int ln, .long va, .int wr, .ref li])) ∧ u.1 mt = some (.inl (kA 0, 600, .inl ft))) ∨ ((pl.toInt ≤ pl2.toInt ∧ pl2.toInt ≤ nx2.toInt ∧ nx2.toInt ≤ sm.toInt ∧ (tk2.toInt = 0 ∨ pl2.toInt < nx2.toInt) ∧ (tk2.toInt ≠ 1 ∨ nx2.toInt ≠ pl2.toInt + 1 ∨ va2.toInt ≤ 26) ∧ (wr2.toInt = 1 ∨ pl.toInt + 3 ≤ pl2.toInt)) ∧ r = 1 ∧ u.1 h = some (.inr (8, [.ref al, .ref mt, .ref ii, .int ta, .int fpm2, .ref pa, .int sm, .int nx2, .int tk2, .int pl2, .int ln, .long va2, .int wr2, .ref li])) ∧ u.1 mt = some (.inl (kA 0, 600, .inl ft)))) ∧ u.2 = T ∧ (∀ q, FrK T q → q ≠ h → q ≠ mt → u.1 q = M q)) (mB D kA M T sz) (mA M T sz)) ([.ref h, .long lw, .int nu, .int mo_] : List Value).toArray s 0 0 (mA M T sz)) (F0 m 22 ls []) := by
      intro n
      induction n with
      | zero =>
        intro yq11_ yq12_ yq13_ yq14_ yq15_ Hq_ lcq_ Mq16_ ls hme l_yq11_ g_yq11_ l_yq12_ g_yq12_ l_yq13_ g_yq13_ l_yq14_ g_yq14_ hv0_yq11_ hv1_yq11_ hv2_yq11_ hv3_yq11_ hv4_yq11_ hv5_yq11_ hc_h hc_mt hF hH hl
        exfalso; omega
      | succ n ih =>
        intro yq11_ yq12_ yq13_ yq14_ yq15_ Hq_ lcq_ Mq16_ ls hme l_yq11_ g_yq11_ l_yq12_ g_yq12_ l_yq13_ g_yq13_ l_yq14_ g_yq14_ hv0_yq11_ hv1_yq11_ hv2_yq11_ hv3_yq11_ hv4_yq11_ hv5_yq11_ hc_h hc_mt hF hH hl
        refine lv_iload hx hb dX10_isLine_22 (lv_at hl 0 rfl) ?_
        refine lv_iload_n hx hb dX10_isLine_24 rfl (lv_at hl 4 rfl) ?_
        refine jic_ge (tgt := 83) hx hb dX10_isLine_25 (by decide) (fun cq17_ => ?_) (fun cq17_ => ?_)
        · skip
          have cq17_ : nu.toInt ≤ yq11_.toInt := cq17_
          refine lv_aload_n hx hb dX10_isLine_83 rfl (lv_at hl 2 rfl) ?_
          refine xg hC hK hH flX10_27 hc_h rfl dX10_isLine_84 ?_
          refine lv_iload hx hb dX10_isLine_87 (lv_at hl 1 rfl) ?_
          refine lv_bipush (v := 6) hx hb dX10_isLine_89 (by decide) ?_
          refine lv_iadd hx hb dX10_isLine_91 ?_
          refine lv_topi (fun zq18_ e_zq18_ => ?_)
          have h_zq18_ : zq18_.toInt = zq10_.toInt + 6 := by rw [e_zq18_, iAdd (by have := iRg zq10_; have : (6 : Int32).toInt = 6 := rfl; omega) (by have := iRg zq10_; have : (6 : Int32).toInt = 6 := rfl; omega)]; rfl
          refine lv_iload hx hb dX10_isLine_92 (lv_at hl 5 rfl) ?_
          refine jif_le (tgt := 111) hx hb dX10_isLine_94 (by decide) (fun cq19_ => ?_) (fun cq19_ => ?_)
          · skip
            have cq19_ : mo_.toInt ≤ 0 := cq19_
            refine lv_iconst (v := 0) hx hb dX10_isLine_111 (by decide) ?_
            refine tist (x := 0) hC hK hH ht_li rfl (iIn (by omega) (by omega)) (iRg _).1 (iRg _).2 dX10_isLine_112 (fun Hq_ lcq_ Mq20_ _ hfr hH => ?_)
            have hc_h : Mq20_ h = some (.inr (8, [.ref al, .ref mt, .ref ii, .int ta, .int fpm, .ref pa, .int sm, .int yq12_, .int yq13_, .int yq14_, .int ln, .long yq15_, .int wr, .ref li])) := (hfr h (neF (Or.inl hn_h) ht_li (by decide))).trans hc_h
            have hc_mt : Mq20_ mt = some (.inl (kA 0, 600, .inl ft)) := (hfr mt (neTT ht_mt ht_li (by decide))).trans hc_mt
            have hF : ∀ q, FrK T q → q ≠ h → q ≠ mt → Mq20_ q = M q := fun q hq h0 h1 => (hfr q (neF hq ht_li (by decide))).trans (hF q hq h0 h1)
            refine lv_aload_n hx hb dX10_isLine_113 rfl (lv_at hl 2 rfl) ?_
            refine xg hC hK hH flX10_27 hc_h rfl dX10_isLine_114 ?_
            refine lv_iload hx hb dX10_isLine_117 (lv_at hl 1 rfl) ?_
            refine lv_bipush (v := 7) hx hb dX10_isLine_119 (by decide) ?_
            refine lv_iadd hx hb dX10_isLine_121 ?_
            refine lv_topi (fun zq21_ e_zq21_ => ?_)
            have h_zq21_ : zq21_.toInt = zq10_.toInt + 7 := by rw [e_zq21_, iAdd (by have := iRg zq10_; have : (7 : Int32).toInt = 7 := rfl; omega) (by have := iRg zq10_; have : (7 : Int32).toInt = 7 := rfl; omega)]; rfl
            refine lv_iload hx hb dX10_isLine_122 (lv_at hl 5 rfl) ?_
            refine lv_iconst (v := 1) hx hb dX10_isLine_124 (by decide) ?_
            refine jic_le (tgt := 142) hx hb dX10_isLine_125 (by decide) (fun cq22_ => ?_) (fun cq22_ => absurd cq22_ (by have := iRg mo_; have : (1 : Int32).toInt = 1 := rfl; omega))
            have cq22_ : mo_.toInt ≤ 1 := cq22_
            refine lv_iconst (v := 0) hx hb dX10_isLine_142 (by decide) ?_
            refine tist (x := 0) hC hK hH ht_li rfl (iIn (by omega) (by omega)) (iRg _).1 (iRg _).2 dX10_isLine_143 (fun Hq_ lcq_ Mq23_ _ hfr hH => ?_)
            have hc_h : Mq23_ h = some (.inr (8, [.ref al, .ref mt, .ref ii, .int ta, .int fpm, .ref pa, .int sm, .int yq12_, .int yq13_, .int yq14_, .int ln, .long yq15_, .int wr, .ref li])) := (hfr h (neF (Or.inl hn_h) ht_li (by decide))).trans hc_h
            have hc_mt : Mq23_ mt = some (.inl (kA 0, 600, .inl ft)) := (hfr mt (neTT ht_mt ht_li (by decide))).trans hc_mt
            have hF : ∀ q, FrK T q → q ≠ h → q ≠ mt → Mq23_ q = M q := fun q hq h0 h1 => (hfr q (neF hq ht_li (by decide))).trans (hF q hq h0 h1)
            refine lv_iconst (v := 1) hx hb dX10_isLine_144 (by decide) ?_
            exact ret_z hC hr hlk hK hH (by first | exact Or.inl rfl | exact Or.inr rfl | assumption) (⟨yq15_, yq12_, ⟨by omega, by omega⟩, yq13_, ⟨by omega, by omega⟩, yq14_, ⟨by omega, by omega⟩, wr, ⟨by omega, by omega⟩, fpm, iRg _, Or.inr (⟨by omega, rfl, hc_h, hc_mt⟩), rfl, hF⟩) (Nat.le_of_ble_eq_true rfl) (Nat.le_of_ble_eq_true rfl) dX10_isLine_145
          · skip
            have cq19_ : 0 < mo_.toInt := cq19_
            refine lv_aload_n hx hb dX10_isLine_97 rfl (lv_at hl 2 rfl) ?_
            refine lv_ldc2 (v := 209256620) hx hb hC.2.2.2.1 (hC.2.2.2.2 _ wkX10_251) dX10_isLine_98 ?_
            have wl_209256620 : (26 : Int) < (209256620 : Int64).toInt := by decide
            refine goI hK hH (runV (As := [.long 209256620]) (rest := [.int zq18_, .ref li]) hC hK hH (c_X10_hasWord hc_h hn_h hc_mt ht_mt ht_pa ht_li (by omega) (by omega) (by omega) (by omega) (by omega) (by decide)) mlX10_241 (rcvM hK hH hc_h rfl) ⟨⟨Nat.le_of_ble_eq_true rfl, Nat.le_of_ble_eq_true rfl⟩, Nat.le_of_ble_eq_true rfl, Nat.le_of_ble_eq_true rfl⟩ rfl hl.1 rfl (Nat.le_of_ble_eq_true rfl) dX10_isLine_101) (fun rq27_ Mq25_ Tq26_ Hq_ lcq_ hP hz hH => ?_)
            try dsimp only at hP
            obtain ⟨xq24_, xq29_, ⟨l_xq29_, g_xq29_⟩, xq30_, ⟨l_xq30_, g_xq30_⟩, xq31_, ⟨l_xq31_, g_xq31_⟩, (⟨cq28_, er_rq27_, hx_h, hx_mt⟩ | ⟨er_rq27_, hx_h, hx_mt⟩), eT, hfr⟩ := hP
            · skip
              have eT := eT.symm; subst eT
              have er_rq27_ := er_rq27_.symm; subst er_rq27_
              have hc_h : Mq25_ h = some (.inr (8, [.ref al, .ref mt, .ref ii, .int ta, .int fpm, .ref pa, .int sm, .int xq29_, .int xq30_, .int xq31_, .int ln, .long xq24_, .int wr, .ref li])) := hx_h
              have hc_mt : Mq25_ mt = some (.inl (kA 0, 600, .inl ft)) := hx_mt
              have hF : ∀ q, FrK T q → q ≠ h → q ≠ mt → Mq25_ q = M q := fun q hq h0 h1 => (hfr q hq h0 h1).trans (hF q hq h0 h1)
              have cq28_ : wr.toInt = 0 ∧ yq14_.toInt + 2 ≤ xq31_.toInt ∧ xq31_.toInt ≤ xq29_.toInt ∧ xq29_.toInt ≤ sm.toInt ∧ (xq30_.toInt = 0 ∨ xq31_.toInt < xq29_.toInt) ∧ (xq30_.toInt ≠ 1 ∨ xq29_.toInt ≠ xq31_.toInt + 1 ∨ xq24_.toInt ≤ 26) := cq28_
              refine jif_eq (tgt := 111) hx hb dX10_isLine_104 (by decide) (fun cq32_ => absurd cq32_ (by decide)) (fun cq32_ => ?_)
              refine lv_iconst (v := 1) hx hb dX10_isLine_107 (by decide) ?_
              refine lv_goto (tgt := 112) hx hb dX10_isLine_108 (by decide) ?_
              refine tist (x := 1) hC hK hH ht_li rfl (iIn (by omega) (by omega)) (iRg _).1 (iRg _).2 dX10_isLine_112 (fun Hq_ lcq_ Mq33_ _ hfr hH => ?_)
              have hc_h : Mq33_ h = some (.inr (8, [.ref al, .ref mt, .ref ii, .int ta, .int fpm, .ref pa, .int sm, .int xq29_, .int xq30_, .int xq31_, .int ln, .long xq24_, .int wr, .ref li])) := (hfr h (neF (Or.inl hn_h) ht_li (by decide))).trans hc_h
              have hc_mt : Mq33_ mt = some (.inl (kA 0, 600, .inl ft)) := (hfr mt (neTT ht_mt ht_li (by decide))).trans hc_mt
              have hF : ∀ q, FrK T q → q ≠ h → q ≠ mt → Mq33_ q = M q := fun q hq h0 h1 => (hfr q (neF hq ht_li (by decide))).trans (hF q hq h0 h1)
              refine lv_aload_n hx hb dX10_isLine_113 rfl (lv_at hl 2 rfl) ?_
              refine xg hC hK hH flX10_27 hc_h rfl dX10_isLine_114 ?_
              refine lv_iload hx hb dX10_isLine_117 (lv_at hl 1 rfl) ?_
              refine lv_bipush (v := 7) hx hb dX10_isLine_119 (by decide) ?_
              refine lv_iadd hx hb dX10_isLine_121 ?_
              refine lv_topi (fun zq34_ e_zq34_ => ?_)
              have h_zq34_ : zq34_.toInt = zq10_.toInt + 7 := by rw [e_zq34_, iAdd (by have := iRg zq10_; have : (7 : Int32).toInt = 7 := rfl; omega) (by have := iRg zq10_; have : (7 : Int32).toInt = 7 := rfl; omega)]; rfl
              refine lv_iload hx hb dX10_isLine_122 (lv_at hl 5 rfl) ?_
              refine lv_iconst (v := 1) hx hb dX10_isLine_124 (by decide) ?_
              refine jic_le (tgt := 142) hx hb dX10_isLine_125 (by decide) (fun cq35_ => ?_) (fun cq35_ => ?_)
              · skip
                have cq35_ : mo_.toInt ≤ 1 := cq35_
                refine lv_iconst (v := 0) hx hb dX10_isLine_142 (by decide) ?_
                refine tist (x := 0) hC hK hH ht_li rfl (iIn (by omega) (by omega)) (iRg _).1 (iRg _).2 dX10_isLine_143 (fun Hq_ lcq_ Mq36_ _ hfr hH => ?_)
                have hc_h : Mq36_ h = some (.inr (8, [.ref al, .ref mt, .ref ii, .int ta, .int fpm, .ref pa, .int sm, .int xq29_, .int xq30_, .int xq31_, .int ln, .long xq24_, .int wr, .ref li])) := (hfr h (neF (Or.inl hn_h) ht_li (by decide))).trans hc_h
                have hc_mt : Mq36_ mt = some (.inl (kA 0, 600, .inl ft)) := (hfr mt (neTT ht_mt ht_li (by decide))).trans hc_mt
                have hF : ∀ q, FrK T q → q ≠ h → q ≠ mt → Mq36_ q = M q := fun q hq h0 h1 => (hfr q (neF hq ht_li (by decide))).trans (hF q hq h0 h1)
                refine lv_iconst (v := 1) hx hb dX10_isLine_144 (by decide) ?_
                exact ret_z hC hr hlk hK hH (by first | exact Or.inl rfl | exact Or.inr rfl | assumption) (⟨xq24_, xq29_, ⟨by omega, by omega⟩, xq30_, ⟨by omega, by omega⟩, xq31_, ⟨by omega, by omega⟩, wr, ⟨by omega, by omega⟩, fpm, iRg _, Or.inr (⟨by omega, rfl, hc_h, hc_mt⟩), rfl, hF⟩) (Nat.le_of_ble_eq_true rfl) (Nat.le_of_ble_eq_true rfl) dX10_isLine_145
              · skip
                have cq35_ : 1 < mo_.toInt := cq35_
                refine lv_aload_n hx hb dX10_isLine_128 rfl (lv_at hl 2 rfl) ?_
                refine lv_ldc2 (v := 9050609216) hx hb hC.2.2.2.1 (hC.2.2.2.2 _ wkX10_253) dX10_isLine_129 ?_
                have wl_9050609216 : (26 : Int) < (9050609216 : Int64).toInt := by decide
                refine goI hK hH (runV (As := [.long 9050609216]) (rest := [.int zq34_, .ref li]) hC hK hH (c_X10_hasWord hc_h hn_h hc_mt ht_mt ht_pa ht_li (by omega) (by omega) (by omega) (by omega) (by omega) (by decide)) mlX10_241 (rcvM hK hH hc_h rfl) ⟨⟨Nat.le_of_ble_eq_true rfl, Nat.le_of_ble_eq_true rfl⟩, Nat.le_of_ble_eq_true rfl, Nat.le_of_ble_eq_true rfl⟩ rfl hl.1 rfl (Nat.le_of_ble_eq_true rfl) dX10_isLine_132) (fun rq40_ Mq38_ Tq39_ Hq_ lcq_ hP hz hH => ?_)
                try dsimp only at hP
                obtain ⟨xq37_, xq42_, ⟨l_xq42_, g_xq42_⟩, xq43_, ⟨l_xq43_, g_xq43_⟩, xq44_, ⟨l_xq44_, g_xq44_⟩, (⟨cq41_, er_rq40_, hx_h, hx_mt⟩ | ⟨er_rq40_, hx_h, hx_mt⟩), eT, hfr⟩ := hP
                · skip
                  have eT := eT.symm; subst eT
                  have er_rq40_ := er_rq40_.symm; subst er_rq40_
                  have hc_h : Mq38_ h = some (.inr (8, [.ref al, .ref mt, .ref ii, .int ta, .int fpm, .ref pa, .int sm, .int xq42_, .int xq43_, .int xq44_, .int ln, .long xq37_, .int wr, .ref li])) := hx_h
                  have hc_mt : Mq38_ mt = some (.inl (kA 0, 600, .inl ft)) := hx_mt
                  have hF : ∀ q, FrK T q → q ≠ h → q ≠ mt → Mq38_ q = M q := fun q hq h0 h1 => (hfr q hq h0 h1).trans (hF q hq h0 h1)
                  have cq41_ : wr.toInt = 0 ∧ xq31_.toInt + 2 ≤ xq44_.toInt ∧ xq44_.toInt ≤ xq42_.toInt ∧ xq42_.toInt ≤ sm.toInt ∧ (xq43_.toInt = 0 ∨ xq44_.toInt < xq42_.toInt) ∧ (xq43_.toInt ≠ 1 ∨ xq42_.toInt ≠ xq44_.toInt + 1 ∨ xq37_.toInt ≤ 26) := cq41_
                  refine jif_eq (tgt := 142) hx hb dX10_isLine_135 (by decide) (fun cq45_ => absurd cq45_ (by decide)) (fun cq45_ => ?_)
                  refine lv_iconst (v := 1) hx hb dX10_isLine_138 (by decide) ?_
                  refine lv_goto (tgt := 143) hx hb dX10_isLine_139 (by decide) ?_
                  refine tist (x := 1) hC hK hH ht_li rfl (iIn (by omega) (by omega)) (iRg _).1 (iRg _).2 dX10_isLine_143 (fun Hq_ lcq_ Mq46_ _ hfr hH => ?_)
                  have hc_h : Mq46_ h = some (.inr (8, [.ref al, .ref mt, .ref ii, .int ta, .int fpm, .ref pa, .int sm, .int xq42_, .int xq43_, .int xq44_, .int ln, .long xq37_, .int wr, .ref li])) := (hfr h (neF (Or.inl hn_h) ht_li (by decide))).trans hc_h
                  have hc_mt : Mq46_ mt = some (.inl (kA 0, 600, .inl ft)) := (hfr mt (neTT ht_mt ht_li (by decide))).trans hc_mt
                  have hF : ∀ q, FrK T q → q ≠ h → q ≠ mt → Mq46_ q = M q := fun q hq h0 h1 => (hfr q (neF hq ht_li (by decide))).trans (hF q hq h0 h1)
                  refine lv_iconst (v := 1) hx hb dX10_isLine_144 (by decide) ?_
                  exact ret_z hC hr hlk hK hH (by first | exact Or.inl rfl | exact Or.inr rfl | assumption) (⟨xq37_, xq42_, ⟨by omega, by omega⟩, xq43_, ⟨by omega, by omega⟩, xq44_, ⟨by omega, by omega⟩, wr, ⟨by omega, by omega⟩, fpm, iRg _, Or.inr (⟨by omega, rfl, hc_h, hc_mt⟩), rfl, hF⟩) (Nat.le_of_ble_eq_true rfl) (Nat.le_of_ble_eq_true rfl) dX10_isLine_145
                · skip
                  have eT := eT.symm; subst eT
                  have er_rq40_ := er_rq40_.symm; subst er_rq40_
                  have hc_h : Mq38_ h = some (.inr (8, [.ref al, .ref mt, .ref ii, .int ta, .int fpm, .ref pa, .int sm, .int xq29_, .int xq30_, .int xq31_, .int ln, .long xq24_, .int wr, .ref li])) := hx_h
                  have hc_mt : Mq38_ mt = some (.inl (kA 0, 600, .inl ft)) := hx_mt
                  have hF : ∀ q, FrK T q → q ≠ h → q ≠ mt → Mq38_ q = M q := fun q hq h0 h1 => (hfr q hq h0 h1).trans (hF q hq h0 h1)
                  refine jif_eq (tgt := 142) hx hb dX10_isLine_135 (by decide) (fun cq47_ => ?_) (fun cq47_ => absurd cq47_ (by decide))
                  refine lv_iconst (v := 0) hx hb dX10_isLine_142 (by decide) ?_
                  refine tist (x := 0) hC hK hH ht_li rfl (iIn (by omega) (by omega)) (iRg _).1 (iRg _).2 dX10_isLine_143 (fun Hq_ lcq_ Mq48_ _ hfr hH => ?_)
                  have hc_h : Mq48_ h = some (.inr (8, [.ref al, .ref mt, .ref ii, .int ta, .int fpm, .ref pa, .int sm, .int xq29_, .int xq30_, .int xq31_, .int ln, .long xq24_, .int wr, .ref li])) := (hfr h (neF (Or.inl hn_h) ht_li (by decide))).trans hc_h
                  have hc_mt : Mq48_ mt = some (.inl (kA 0, 600, .inl ft)) := (hfr mt (neTT ht_mt ht_li (by decide))).trans hc_mt
                  have hF : ∀ q, FrK T q → q ≠ h → q ≠ mt → Mq48_ q = M q := fun q hq h0 h1 => (hfr q (neF hq ht_li (by decide))).trans (hF q hq h0 h1)
                  refine lv_iconst (v := 1) hx hb dX10_isLine_144 (by decide) ?_
                  exact ret_z hC hr hlk hK hH (by first | exact Or.inl rfl | exact Or.inr rfl | assumption) (⟨xq24_, xq29_, ⟨by omega, by omega⟩, xq30_, ⟨by omega, by omega⟩, xq31_, ⟨by omega, by omega⟩, wr, ⟨by omega, by omega⟩, fpm, iRg _, Or.inr (⟨by omega, rfl, hc_h, hc_mt⟩), rfl, hF⟩) (Nat.le_of_ble_eq_true rfl) (Nat.le_of_ble_eq_true rfl) dX10_isLine_145
            · skip
              have eT := eT.symm; subst eT
              have er_rq27_ := er_rq27_.symm; subst er_rq27_
              have hc_h : Mq25_ h = some (.inr (8, [.ref al, .ref mt, .ref ii, .int ta, .int fpm, .ref pa, .int sm, .int yq12_, .int yq13_, .int yq14_, .int ln, .long yq15_, .int wr, .ref li])) := hx_h
              have hc_mt : Mq25_ mt = some (.inl (kA 0, 600, .inl ft)) := hx_mt
              have hF : ∀ q, FrK T q → q ≠ h → q ≠ mt → Mq25_ q = M q := fun q hq h0 h1 => (hfr q hq h0 h1).trans (hF q hq h0 h1)
              refine jif_eq (tgt := 111) hx hb dX10_isLine_104 (by decide) (fun cq49_ => ?_) (fun cq49_ => absurd cq49_ (by decide))
              refine lv_iconst (v := 0) hx hb dX10_isLine_111 (by decide) ?_
              refine tist (x := 0) hC hK hH ht_li rfl (iIn (by omega) (by omega)) (iRg _).1 (iRg _).2 dX10_isLine_112 (fun Hq_ lcq_ Mq50_ _ hfr hH => ?_)
              have hc_h : Mq50_ h = some (.inr (8, [.ref al, .ref mt, .ref ii, .int ta, .int fpm, .ref pa, .int sm, .int yq12_, .int yq13_, .int yq14_, .int ln, .long yq15_, .int wr, .ref li])) := (hfr h (neF (Or.inl hn_h) ht_li (by decide))).trans hc_h
              have hc_mt : Mq50_ mt = some (.inl (kA 0, 600, .inl ft)) := (hfr mt (neTT ht_mt ht_li (by decide))).trans hc_mt
              have hF : ∀ q, FrK T q → q ≠ h → q ≠ mt → Mq50_ q = M q := fun q hq h0 h1 => (hfr q (neF hq ht_li (by decide))).trans (hF q hq h0 h1)
              refine lv_aload_n hx hb dX10_isLine_113 rfl (lv_at hl 2 rfl) ?_
              refine xg hC hK hH flX10_27 hc_h rfl dX10_isLine_114 ?_
              refine lv_iload hx hb dX10_isLine_117 (lv_at hl 1 rfl) ?_
              refine lv_bipush (v := 7) hx hb dX10_isLine_119 (by decide) ?_
              refine lv_iadd hx hb dX10_isLine_121 ?_
              refine lv_topi (fun zq51_ e_zq51_ => ?_)
              have h_zq51_ : zq51_.toInt = zq10_.toInt + 7 := by rw [e_zq51_, iAdd (by have := iRg zq10_; have : (7 : Int32).toInt = 7 := rfl; omega) (by have := iRg zq10_; have : (7 : Int32).toInt = 7 := rfl; omega)]; rfl
              refine lv_iload hx hb dX10_isLine_122 (lv_at hl 5 rfl) ?_
              refine lv_iconst (v := 1) hx hb dX10_isLine_124 (by decide) ?_
              refine jic_le (tgt := 142) hx hb dX10_isLine_125 (by decide) (fun cq52_ => ?_) (fun cq52_ => ?_)
              · skip
                have cq52_ : mo_.toInt ≤ 1 := cq52_
                refine lv_iconst (v := 0) hx hb dX10_isLine_142 (by decide) ?_
                refine tist (x := 0) hC hK hH ht_li rfl (iIn (by omega) (by omega)) (iRg _).1 (iRg _).2 dX10_isLine_143 (fun Hq_ lcq_ Mq53_ _ hfr hH => ?_)
                have hc_h : Mq53_ h = some (.inr (8, [.ref al, .ref mt, .ref ii, .int ta, .int fpm, .ref pa, .int sm, .int yq12_, .int yq13_, .int yq14_, .int ln, .long yq15_, .int wr, .ref li])) := (hfr h (neF (Or.inl hn_h) ht_li (by decide))).trans hc_h
                have hc_mt : Mq53_ mt = some (.inl (kA 0, 600, .inl ft)) := (hfr mt (neTT ht_mt ht_li (by decide))).trans hc_mt
                have hF : ∀ q, FrK T q → q ≠ h → q ≠ mt → Mq53_ q = M q := fun q hq h0 h1 => (hfr q (neF hq ht_li (by decide))).trans (hF q hq h0 h1)
                refine lv_iconst (v := 1) hx hb dX10_isLine_144 (by decide) ?_
                exact ret_z hC hr hlk hK hH (by first | exact Or.inl rfl | exact Or.inr rfl | assumption) (⟨yq15_, yq12_, ⟨by omega, by omega⟩, yq13_, ⟨by omega, by omega⟩, yq14_, ⟨by omega, by omega⟩, wr, ⟨by omega, by omega⟩, fpm, iRg _, Or.inr (⟨by omega, rfl, hc_h, hc_mt⟩), rfl, hF⟩) (Nat.le_of_ble_eq_true rfl) (Nat.le_of_ble_eq_true rfl) dX10_isLine_145
              · skip
                have cq52_ : 1 < mo_.toInt := cq52_
                refine lv_aload_n hx hb dX10_isLine_128 rfl (lv_at hl 2 rfl) ?_
                refine lv_ldc2 (v := 9050609216) hx hb hC.2.2.2.1 (hC.2.2.2.2 _ wkX10_253) dX10_isLine_129 ?_
                have wl_9050609216 : (26 : Int) < (9050609216 : Int64).toInt := by decide
                refine goI hK hH (runV (As := [.long 9050609216]) (rest := [.int zq51_, .ref li]) hC hK hH (c_X10_hasWord hc_h hn_h hc_mt ht_mt ht_pa ht_li (by omega) (by omega) (by omega) (by omega) (by omega) (by decide)) mlX10_241 (rcvM hK hH hc_h rfl) ⟨⟨Nat.le_of_ble_eq_true rfl, Nat.le_of_ble_eq_true rfl⟩, Nat.le_of_ble_eq_true rfl, Nat.le_of_ble_eq_true rfl⟩ rfl hl.1 rfl (Nat.le_of_ble_eq_true rfl) dX10_isLine_132) (fun rq57_ Mq55_ Tq56_ Hq_ lcq_ hP hz hH => ?_)
                try dsimp only at hP
                obtain ⟨xq54_, xq59_, ⟨l_xq59_, g_xq59_⟩, xq60_, ⟨l_xq60_, g_xq60_⟩, xq61_, ⟨l_xq61_, g_xq61_⟩, (⟨cq58_, er_rq57_, hx_h, hx_mt⟩ | ⟨er_rq57_, hx_h, hx_mt⟩), eT, hfr⟩ := hP
                · skip
                  have eT := eT.symm; subst eT
                  have er_rq57_ := er_rq57_.symm; subst er_rq57_
                  have hc_h : Mq55_ h = some (.inr (8, [.ref al, .ref mt, .ref ii, .int ta, .int fpm, .ref pa, .int sm, .int xq59_, .int xq60_, .int xq61_, .int ln, .long xq54_, .int wr, .ref li])) := hx_h
                  have hc_mt : Mq55_ mt = some (.inl (kA 0, 600, .inl ft)) := hx_mt
                  have hF : ∀ q, FrK T q → q ≠ h → q ≠ mt → Mq55_ q = M q := fun q hq h0 h1 => (hfr q hq h0 h1).trans (hF q hq h0 h1)
                  have cq58_ : wr.toInt = 0 ∧ yq14_.toInt + 2 ≤ xq61_.toInt ∧ xq61_.toInt ≤ xq59_.toInt ∧ xq59_.toInt ≤ sm.toInt ∧ (xq60_.toInt = 0 ∨ xq61_.toInt < xq59_.toInt) ∧ (xq60_.toInt ≠ 1 ∨ xq59_.toInt ≠ xq61_.toInt + 1 ∨ xq54_.toInt ≤ 26) := cq58_
                  refine jif_eq (tgt := 142) hx hb dX10_isLine_135 (by decide) (fun cq62_ => absurd cq62_ (by decide)) (fun cq62_ => ?_)
                  refine lv_iconst (v := 1) hx hb dX10_isLine_138 (by decide) ?_
                  refine lv_goto (tgt := 143) hx hb dX10_isLine_139 (by decide) ?_
                  refine tist (x := 1) hC hK hH ht_li rfl (iIn (by omega) (by omega)) (iRg _).1 (iRg _).2 dX10_isLine_143 (fun Hq_ lcq_ Mq63_ _ hfr hH => ?_)
                  have hc_h : Mq63_ h = some (.inr (8, [.ref al, .ref mt, .ref ii, .int ta, .int fpm, .ref pa, .int sm, .int xq59_, .int xq60_, .int xq61_, .int ln, .long xq54_, .int wr, .ref li])) := (hfr h (neF (Or.inl hn_h) ht_li (by decide))).trans hc_h
                  have hc_mt : Mq63_ mt = some (.inl (kA 0, 600, .inl ft)) := (hfr mt (neTT ht_mt ht_li (by decide))).trans hc_mt
                  have hF : ∀ q, FrK T q → q ≠ h → q ≠ mt → Mq63_ q = M q := fun q hq h0 h1 => (hfr q (neF hq ht_li (by decide))).trans (hF q hq h0 h1)
                  refine lv_iconst (v := 1) hx hb dX10_isLine_144 (by decide) ?_
                  exact ret_z hC hr hlk hK hH (by first | exact Or.inl rfl | exact Or.inr rfl | assumption) (⟨xq54_, xq59_, ⟨by omega, by omega⟩, xq60_, ⟨by omega, by omega⟩, xq61_, ⟨by omega, by omega⟩, wr, ⟨by omega, by omega⟩, fpm, iRg _, Or.inr (⟨by omega, rfl, hc_h, hc_mt⟩), rfl, hF⟩) (Nat.le_of_ble_eq_true rfl) (Nat.le_of_ble_eq_true rfl) dX10_isLine_145
                · skip
                  have eT := eT.symm; subst eT
                  have er_rq57_ := er_rq57_.symm; subst er_rq57_
                  have hc_h : Mq55_ h = some (.inr (8, [.ref al, .ref mt, .ref ii, .int ta, .int fpm, .ref pa, .int sm, .int yq12_, .int yq13_, .int yq14_, .int ln, .long yq15_, .int wr, .ref li])) := hx_h
                  have hc_mt : Mq55_ mt = some (.inl (kA 0, 600, .inl ft)) := hx_mt
                  have hF : ∀ q, FrK T q → q ≠ h → q ≠ mt → Mq55_ q = M q := fun q hq h0 h1 => (hfr q hq h0 h1).trans (hF q hq h0 h1)
                  refine jif_eq (tgt := 142) hx hb dX10_isLine_135 (by decide) (fun cq64_ => ?_) (fun cq64_ => absurd cq64_ (by decide))
                  refine lv_iconst (v := 0) hx hb dX10_isLine_142 (by decide) ?_
                  refine tist (x := 0) hC hK hH ht_li rfl (iIn (by omega) (by omega)) (iRg _).1 (iRg _).2 dX10_isLine_143 (fun Hq_ lcq_ Mq65_ _ hfr hH => ?_)
                  have hc_h : Mq65_ h = some (.inr (8, [.ref al, .ref mt, .ref ii, .int ta, .int fpm, .ref pa, .int sm, .int yq12_, .int yq13_, .int yq14_, .int ln, .long yq15_, .int wr, .ref li])) := (hfr h (neF (Or.inl hn_h) ht_li (by decide))).trans hc_h
                  have hc_mt : Mq65_ mt = some (.inl (kA 0, 600, .inl ft)) := (hfr mt (neTT ht_mt ht_li (by decide))).trans hc_mt
                  have hF : ∀ q, FrK T q → q ≠ h → q ≠ mt → Mq65_ q = M q := fun q hq h0 h1 => (hfr q (neF hq ht_li (by decide))).trans (hF q hq h0 h1)
                  refine lv_iconst (v := 1) hx hb dX10_isLine_144 (by decide) ?_
                  exact ret_z hC hr hlk hK hH (by first | exact Or.inl rfl | exact Or.inr rfl | assumption) (⟨yq15_, yq12_, ⟨by omega, by omega⟩, yq13_, ⟨by omega, by omega⟩, yq14_, ⟨by omega, by omega⟩, wr, ⟨by omega, by omega⟩, fpm, iRg _, Or.inr (⟨by omega, rfl, hc_h, hc_mt⟩), rfl, hF⟩) (Nat.le_of_ble_eq_true rfl) (Nat.le_of_ble_eq_true rfl) dX10_isLine_145
        · skip
          have cq17_ : yq11_.toInt < nu.toInt := cq17_
          refine lv_aload_n hx hb dX10_isLine_28 rfl (lv_at hl 2 rfl) ?_
          refine xg hC hK hH flX10_234 hc_h rfl dX10_isLine_29 ?_
          refine jif_ne (tgt := 47) hx hb dX10_isLine_32 (by decide) (fun cq66_ => absurd cq66_ (by have := iRg wr; have : (0 : Int32).toInt = 0 := rfl; omega)) (fun cq66_ => ?_)
          have cq66_ : wr.toInt = 0 := cq66_
          refine lv_aload_n hx hb dX10_isLine_35 rfl (lv_at hl 2 rfl) ?_
          refine xg hC hK hH flX10_217 hc_h rfl dX10_isLine_36 ?_
          refine lv_iconst (v := 2) hx hb dX10_isLine_39 (by decide) ?_
          refine jic_eq (tgt := 47) hx hb dX10_isLine_40 (by decide) (fun cq67_ => ?_) (fun cq67_ => ?_)
          · skip
            have cq67_ : yq13_.toInt = 2 := cq67_
            refine lv_aload_n hx hb dX10_isLine_47 rfl (lv_at hl 2 rfl) ?_
            refine xg hC hK hH flX10_234 hc_h rfl dX10_isLine_48 ?_
            refine jif_eq (tgt := 56) hx hb dX10_isLine_51 (by decide) (fun cq68_ => ?_) (fun cq68_ => absurd cq68_ (by have := iRg wr; have : (0 : Int32).toInt = 0 := rfl; omega))
            have cq68_ : wr.toInt = 0 := cq68_
            refine lv_aload_n hx hb dX10_isLine_56 rfl (lv_at hl 2 rfl) ?_
            refine xg hC hK hH flX10_27 hc_h rfl dX10_isLine_57 ?_
            refine lv_iload hx hb dX10_isLine_60 (lv_at hl 1 rfl) ?_
            refine lv_iconst (v := 1) hx hb dX10_isLine_62 (by decide) ?_
            refine lv_iadd hx hb dX10_isLine_63 ?_
            refine lv_topi (fun zq69_ e_zq69_ => ?_)
            have h_zq69_ : zq69_.toInt = zq10_.toInt + 1 := by rw [e_zq69_, iAdd (by have := iRg zq10_; have : (1 : Int32).toInt = 1 := rfl; omega) (by have := iRg zq10_; have : (1 : Int32).toInt = 1 := rfl; omega)]; rfl
            refine lv_iload hx hb dX10_isLine_64 (lv_at hl 0 rfl) ?_
            refine lv_iadd hx hb dX10_isLine_66 ?_
            refine lv_topi (fun zq70_ e_zq70_ => ?_)
            have h_zq70_ : zq70_.toInt = zq69_.toInt + yq11_.toInt := by rw [e_zq70_, iAdd (by have := iRg zq69_; have := iRg yq11_; omega) (by have := iRg zq69_; have := iRg yq11_; omega)]
            refine lv_aload_n hx hb dX10_isLine_67 rfl (lv_at hl 2 rfl) ?_
            refine xg hC hK hH flX10_213 hc_h rfl dX10_isLine_68 ?_
            refine lv_l2i hx hb dX10_isLine_71 rfl ?_
            refine lv_topi (fun zq71_ e_zq71_ => ?_)
            refine tist (x := zq71_) hC hK hH ht_li rfl (iIn (by omega) (by omega)) (iRg _).1 (iRg _).2 dX10_isLine_72 (fun Hq_ lcq_ Mq72_ _ hfr hH => ?_)
            have hc_h : Mq72_ h = some (.inr (8, [.ref al, .ref mt, .ref ii, .int ta, .int fpm, .ref pa, .int sm, .int yq12_, .int yq13_, .int yq14_, .int ln, .long yq15_, .int wr, .ref li])) := (hfr h (neF (Or.inl hn_h) ht_li (by decide))).trans hc_h
            have hc_mt : Mq72_ mt = some (.inl (kA 0, 600, .inl ft)) := (hfr mt (neTT ht_mt ht_li (by decide))).trans hc_mt
            have hF : ∀ q, FrK T q → q ≠ h → q ≠ mt → Mq72_ q = M q := fun q hq h0 h1 => (hfr q (neF hq ht_li (by decide))).trans (hF q hq h0 h1)
            refine lv_aload_n hx hb dX10_isLine_73 rfl (lv_at hl 2 rfl) ?_
            refine goV hK hH (runV (As := []) (rest := []) hC hK hH (c_X10_takes hc_h hn_h hc_mt ht_mt ht_pa ht_li (by omega) (by omega)) mlX10_238 (rcvM hK hH hc_h rfl) ⟨⟨Nat.le_of_ble_eq_true rfl, Nat.le_of_ble_eq_true rfl⟩, Nat.le_of_ble_eq_true rfl, Nat.le_of_ble_eq_true rfl⟩ rfl hl.1 rfl (Nat.le_of_ble_eq_true rfl) dX10_isLine_74) (fun Mq74_ Tq75_ Hq_ lcq_ hP hz hH => ?_)
            try dsimp only at hP
            obtain ⟨xq73_, xq78_, ⟨l_xq78_, g_xq78_⟩, xq79_, ⟨l_xq79_, g_xq79_⟩, xq80_, ⟨l_xq80_, g_xq80_⟩, (⟨cq77_, hx_h, hx_mt⟩), eT, hfr⟩ := hP
            have eT := eT.symm; subst eT
            have hc_h : Mq74_ h = some (.inr (8, [.ref al, .ref mt, .ref ii, .int ta, .int fpm, .ref pa, .int sm, .int xq78_, .int xq79_, .int xq80_, .int ln, .long xq73_, .int wr, .ref li])) := hx_h
            have hc_mt : Mq74_ mt = some (.inl (kA 0, 600, .inl ft)) := hx_mt
            have hF : ∀ q, FrK T q → q ≠ h → q ≠ mt → Mq74_ q = M q := fun q hq h0 h1 => (hfr q hq h0 h1).trans (hF q hq h0 h1)
            have cq77_ : yq12_.toInt ≤ xq80_.toInt ∧ xq80_.toInt ≤ xq78_.toInt ∧ xq78_.toInt ≤ sm.toInt ∧ (xq79_.toInt = 0 ∨ xq80_.toInt < xq78_.toInt) ∧ (xq79_.toInt ≠ 1 ∨ xq78_.toInt ≠ xq80_.toInt + 1 ∨ xq73_.toInt ≤ 26) := cq77_
            obtain ⟨zq81_, e_zq81_⟩ : ∃ y : Int32, y = yq11_ + 1 := ⟨_, rfl⟩
            refine lv_iinc (v := zq81_) (lv' := [(6, .int zq81_), (5, .int zq10_), (0, .ref h), (1, .long lw), (3, .int nu), (4, .int mo_)]) hx hb dX10_isLine_77 hl (k := 0) rfl (by rw [e_zq81_]; rfl) (by decide) rfl (fun ls hl => ?_)
            have h_zq81_ : zq81_.toInt = yq11_.toInt + 1 := by rw [e_zq81_, iAdd (by have : (1 : Int32).toInt = 1 := rfl; omega) (by have : (1 : Int32).toInt = 1 := rfl; omega)]; rfl
            refine lv_goto (tgt := 22) hx hb dX10_isLine_80 (by decide) ?_
            exact ih zq81_ xq78_ xq79_ xq80_ xq73_ _ _ _ ls (by have := iRg zq81_; have := iRg xq78_; have := iRg xq79_; have := iRg xq80_; omega) (by have := iRg zq81_; have := iRg xq78_; have := iRg xq79_; have := iRg xq80_; omega) (by have := iRg zq81_; have := iRg xq78_; have := iRg xq79_; have := iRg xq80_; omega) (by have := iRg zq81_; have := iRg xq78_; have := iRg xq79_; have := iRg xq80_; omega) (by have := iRg zq81_; have := iRg xq78_; have := iRg xq79_; have := iRg xq80_; omega) (by have := iRg zq81_; have := iRg xq78_; have := iRg xq79_; have := iRg xq80_; omega) (by have := iRg zq81_; have := iRg xq78_; have := iRg xq79_; have := iRg xq80_; omega) (by have := iRg zq81_; have := iRg xq78_; have := iRg xq79_; have := iRg xq80_; omega) (by have := iRg zq81_; have := iRg xq78_; have := iRg xq79_; have := iRg xq80_; omega) (by have := iRg zq81_; have := iRg xq78_; have := iRg xq79_; have := iRg xq80_; omega) (by have := iRg zq81_; have := iRg xq78_; have := iRg xq79_; have := iRg xq80_; omega) (by have := iRg zq81_; have := iRg xq78_; have := iRg xq79_; have := iRg xq80_; omega) (by have := iRg zq81_; have := iRg xq78_; have := iRg xq79_; have := iRg xq80_; omega) (by have := iRg zq81_; have := iRg xq78_; have := iRg xq79_; have := iRg xq80_; omega) (by have := iRg zq81_; have := iRg xq78_; have := iRg xq79_; have := iRg xq80_; omega) hc_h hc_mt hF hH (lv_sub hl [0, 1, 2, 3, 4, 5] rfl)
          · skip
            have cq67_ : yq13_.toInt ≠ 2 := cq67_
            refine lv_aload_n hx hb dX10_isLine_43 rfl (lv_at hl 2 rfl) ?_
            refine goV hK hH (runV (As := []) (rest := []) hC hK hH (c_X10_fails hc_h hn_h hc_mt ht_mt ht_pa ht_li (by omega)) mlX10_248 (rcvM hK hH hc_h rfl) ⟨⟨Nat.le_of_ble_eq_true rfl, Nat.le_of_ble_eq_true rfl⟩, Nat.le_of_ble_eq_true rfl, Nat.le_of_ble_eq_true rfl⟩ rfl hl.1 rfl (Nat.le_of_ble_eq_true rfl) dX10_isLine_44) (fun Mq82_ Tq83_ Hq_ lcq_ hP hz hH => ?_)
            try dsimp only at hP
            obtain ⟨xq86_, ⟨l_xq86_, g_xq86_⟩, xq87_, ⟨l_xq87_, g_xq87_⟩, (⟨cq85_, hx_h, hx_mt⟩), eT, hfr⟩ := hP
            have eT := eT.symm; subst eT
            have hc_h : Mq82_ h = some (.inr (8, [.ref al, .ref mt, .ref ii, .int ta, .int xq87_, .ref pa, .int sm, .int yq12_, .int yq13_, .int yq14_, .int ln, .long yq15_, .int xq86_, .ref li])) := hx_h
            have hc_mt : Mq82_ mt = some (.inl (kA 0, 600, .inl ft)) := hx_mt
            have hF : ∀ q, FrK T q → q ≠ h → q ≠ mt → Mq82_ q = M q := fun q hq h0 h1 => (hfr q hq h0 h1).trans (hF q hq h0 h1)
            have cq85_ : xq86_.toInt = 1 := cq85_
            refine lv_aload_n hx hb dX10_isLine_47 rfl (lv_at hl 2 rfl) ?_
            refine xg hC hK hH flX10_234 hc_h rfl dX10_isLine_48 ?_
            refine jif_eq (tgt := 56) hx hb dX10_isLine_51 (by decide) (fun cq88_ => absurd cq88_ (by have := iRg xq86_; have : (0 : Int32).toInt = 0 := rfl; omega)) (fun cq88_ => ?_)
            have cq88_ : xq86_.toInt ≠ 0 := cq88_
            refine lv_iconst (v := 1) hx hb dX10_isLine_54 (by decide) ?_
            exact ret_z hC hr hlk hK hH (by first | exact Or.inl rfl | exact Or.inr rfl | assumption) (⟨yq15_, yq12_, ⟨by omega, by omega⟩, yq13_, ⟨by omega, by omega⟩, yq14_, ⟨by omega, by omega⟩, xq86_, ⟨by omega, by omega⟩, xq87_, iRg _, Or.inr (⟨by omega, rfl, hc_h, hc_mt⟩), rfl, hF⟩) (Nat.le_of_ble_eq_true rfl) (Nat.le_of_ble_eq_true rfl) dX10_isLine_55
    exact loop (Int.toNat (nu.toInt - 0 + 1)) 0 xq6_ xq7_ xq8_ xq1_ _ _ _ ls (by have : (0 : Int32).toInt = 0 := rfl; have := iRg xq6_; have := iRg xq7_; have := iRg xq8_; omega) (by have : (0 : Int32).toInt = 0 := rfl; have := iRg xq6_; have := iRg xq7_; have := iRg xq8_; omega) (by have : (0 : Int32).toInt = 0 := rfl; have := iRg xq6_; have := iRg xq7_; have := iRg xq8_; omega) (by have : (0 : Int32).toInt = 0 := rfl; have := iRg xq6_; have := iRg xq7_; have := iRg xq8_; omega) (by have : (0 : Int32).toInt = 0 := rfl; have := iRg xq6_; have := iRg xq7_; have := iRg xq8_; omega) (by have : (0 : Int32).toInt = 0 := rfl; have := iRg xq6_; have := iRg xq7_; have := iRg xq8_; omega) (by have : (0 : Int32).toInt = 0 := rfl; have := iRg xq6_; have := iRg xq7_; have := iRg xq8_; omega) (by have : (0 : Int32).toInt = 0 := rfl; have := iRg xq6_; have := iRg xq7_; have := iRg xq8_; omega) (by have : (0 : Int32).toInt = 0 := rfl; have := iRg xq6_; have := iRg xq7_; have := iRg xq8_; omega) (by have : (0 : Int32).toInt = 0 := rfl; have := iRg xq6_; have := iRg xq7_; have := iRg xq8_; omega) (by have : (0 : Int32).toInt = 0 := rfl; have := iRg xq6_; have := iRg xq7_; have := iRg xq8_; omega) (by have : (0 : Int32).toInt = 0 := rfl; have := iRg xq6_; have := iRg xq7_; have := iRg xq8_; omega) (by have : (0 : Int32).toInt = 0 := rfl; have := iRg xq6_; have := iRg xq7_; have := iRg xq8_; omega) (by have : (0 : Int32).toInt = 0 := rfl; have := iRg xq6_; have := iRg xq7_; have := iRg xq8_; omega) (by have : (0 : Int32).toInt = 0 := rfl; have := iRg xq6_; have := iRg xq7_; have := iRg xq8_; omega) hc_h hc_mt hF hH hl
  · skip
    have eT := eT.symm; subst eT
    have er_rq4_ := er_rq4_.symm; subst er_rq4_
    have hc_h : Mq2_ h = some (.inr (8, [.ref al, .ref mt, .ref ii, .int ta, .int fpm, .ref pa, .int sm, .int nx, .int tk, .int pl, .int ln, .long va, .int wr, .ref li])) := hx_h
    have hc_mt : Mq2_ mt = some (.inl (kA 0, 600, .inl ft)) := hx_mt
    have hF : ∀ q, FrK T q → q ≠ h → q ≠ mt → Mq2_ q = M q := fun q hq h0 h1 => (hfr q hq h0 h1).trans (hF q hq h0 h1)
    refine jif_ne (tgt := 10) hx hb dX10_isLine_5 (by decide) (fun cq89_ => absurd cq89_ (by decide)) (fun cq89_ => ?_)
    refine lv_iconst (v := 0) hx hb dX10_isLine_8 (by decide) ?_
    exact ret_z hC hr hlk hK hH (by first | exact Or.inl rfl | exact Or.inr rfl | assumption) (⟨va, nx, ⟨by omega, by omega⟩, tk, ⟨by omega, by omega⟩, pl, ⟨by omega, by omega⟩, wr, ⟨by omega, by omega⟩, fpm, iRg _, Or.inl (⟨rfl, hc_h, hc_mt⟩), rfl, hF⟩) (Nat.le_of_ble_eq_true rfl) (Nat.le_of_ble_eq_true rfl) dX10_isLine_9
set_option maxHeartbeats 4000000 in
set_option maxRecDepth 100000 in
theorem c_X10_readsLine {z : zD} {l : Launch} {D : va_G} {kA : Nat → ClassId} {M : mM} {T : mT} {sz : Nat} {h al mt ii pa li : Nat} {ta fpm sm nx tk pl ln wr : Int32} {va : Int64} {ft : Nat → Int32} (hc_h : M h = some (.inr (8, [.ref al, .ref mt, .ref ii, .int ta, .int fpm, .ref pa, .int sm, .int nx, .int tk, .int pl, .int ln, .long va, .int wr, .ref li]))) (hn_h : T h = none) (hc_mt : M mt = some (.inl (kA 0, 600, .inl ft))) (ht_mt : T mt = some 11) (ht_pa : T pa = some 13) (ht_li : T li = some 14) (hsm : 0 ≤ sm.toInt ∧ sm.toInt ≤ 600) (hpl : 0 ≤ pl.toInt) (htk : 0 ≤ tk.toInt ∧ tk.toInt ≤ 4) (htok : pl.toInt ≤ nx.toInt ∧ nx.toInt ≤ sm.toInt ∧ (tk.toInt = 0 ∨ pl.toInt < nx.toInt) ∧ (tk.toInt ≠ 1 ∨ nx.toInt ≠ pl.toInt + 1 ∨ va.toInt ≤ 26)) (hln : 0 ≤ ln.toInt ∧ ln.toInt ≤ 150) (hw0 : wr.toInt = 0) : mCvB z l yX10_readsLine cX10_readsLine 2 4 0 0 D kA M T sz [.ref h] (fun u => ∃ va2 : Int64, ∃ nx2 : Int32, ((0 : Int) ≤ nx2.toInt ∧ nx2.toInt ≤ 600) ∧ ∃ tk2 : Int32, ((0 : Int) ≤ tk2.toInt ∧ tk2.toInt ≤ 4) ∧ ∃ pl2 : Int32, ((0 : Int) ≤ pl2.toInt ∧ pl2.toInt ≤ 600) ∧ ∃ wr2 : Int32, ((0 : Int) ≤ wr2.toInt ∧ wr2.toInt ≤ 1) ∧ ∃ fpm2 : Int32, ((-2147483648 : Int) ≤ fpm2.toInt ∧ fpm2.toInt ≤ 2147483647) ∧ ∃ ln2 : Int32, ((0 : Int) ≤ ln2.toInt ∧ ln2.toInt ≤ 151) ∧ ((pl.toInt ≤ pl2.toInt ∧ pl2.toInt ≤ nx2.toInt ∧ nx2.toInt ≤ sm.toInt ∧ (tk2.toInt = 0 ∨ pl2.toInt < nx2.toInt) ∧ (tk2.toInt ≠ 1 ∨ nx2.toInt ≠ pl2.toInt + 1 ∨ va2.toInt ≤ 26) ∧ ln2.toInt ≤ ln.toInt + 1 ∧ (wr2.toInt = 1 ∨ (pl.toInt + 4 ≤ pl2.toInt ∧ ln2.toInt = ln.toInt + 1))) ∧ u.1 h = some (.inr (8, [.ref al, .ref mt, .ref ii, .int ta, .int fpm2, .ref pa, .int sm, .int nx2, .int tk2, .int pl2, .int ln2, .long va2, .int wr2, .ref li])) ∧ u.1 mt = some (.inl (kA 0, 600, .inl ft))) ∧ u.2 = T ∧ (∀ q, FrK T q → q ≠ h → q ≠ mt → u.1 q = M q)) := by
  unfold mCvB
  refine start_WB (by decide) (Nat.le_of_ble_eq_true rfl) ?_
  intro p e s m below meth c ls hC hr hlk hnm hK hH hsz hZ hl
  have hx := hC.1
  have hb := hC.2.1
  have hl : lv_has ls 2 [(0, .ref h)] := hl
  have hF : ∀ q, FrK T q → q ≠ h → q ≠ mt → M q = M q := fun q _ _ _ => rfl
  have n_h_mt : h ≠ mt := neM hc_h hc_mt (by simp)
  have n_mt_h : mt ≠ h := neM hc_mt hc_h (by simp)
  refine lv_iconst (v := 0) hx hb dX10_readsLine_0 (by decide) ?_
  refine lv_istore_n (lv' := [(1, .int 0), (0, .ref h)]) hx hb dX10_readsLine_1 rfl hl (by decide) rfl (fun ls hl => ?_)
  have loop : ∀ (n : Nat) (yq1_ : Int32) (Hq_ : Heap) (lcq_ : List Loc) (Mq2_ : mM) (ls : Array Slot), 20 - yq1_.toInt ≤ (n : Int) → (0 : Int) ≤ yq1_.toInt → yq1_.toInt ≤ 19 → Mq2_ h = some (.inr (8, [.ref al, .ref mt, .ref ii, .int ta, .int fpm, .ref pa, .int sm, .int nx, .int tk, .int pl, .int ln, .long va, .int wr, .ref li])) → Mq2_ mt = some (.inl (kA 0, 600, .inl ft)) → (∀ q, FrK T q → q ≠ h → q ≠ mt → Mq2_ q = M q) → mS D kA Mq2_ T (mA M T sz) s.heap Hq_ lcq_ → lv_has ls 2 [(1, .int yq1_), (0, .ref h)] → W p l e (rmL 4 0 0) s m ([.ref h] : List Value).toArray below meth c Hq_ lcq_ 0 0 (MQ below (va_Qv (fun u => ∃ va2 : Int64, ∃ nx2 : Int32, ((0 : Int) ≤ nx2.toInt ∧ nx2.toInt ≤ 600) ∧ ∃ tk2 : Int32, ((0 : Int) ≤ tk2.toInt ∧ tk2.toInt ≤ 4) ∧ ∃ pl2 : Int32, ((0 : Int) ≤ pl2.toInt ∧ pl2.toInt ≤ 600) ∧ ∃ wr2 : Int32, ((0 : Int) ≤ wr2.toInt ∧ wr2.toInt ≤ 1) ∧ ∃ fpm2 : Int32, ((-2147483648 : Int) ≤ fpm2.toInt ∧ fpm2.toInt ≤ 2147483647) ∧ ∃ ln2 : Int32, ((0 : Int) ≤ ln2.toInt ∧ ln2.toInt ≤ 151) ∧ ((pl.toInt ≤ pl2.toInt ∧ pl2.toInt ≤ nx2.toInt ∧ nx2.toInt ≤ sm.toInt ∧ (tk2.toInt = 0 ∨ pl2.toInt < nx2.toInt) ∧ (tk2.toInt ≠ 1 ∨ nx2.toInt ≠ pl2.toInt + 1 ∨ va2.toInt ≤ 26) ∧ ln2.toInt ≤ ln.toInt + 1 ∧ (wr2.toInt = 1 ∨ (pl.toInt + 4 ≤ pl2.toInt ∧ ln2.toInt = ln.toInt + 1))) ∧ u.1 h = some (.inr (8, [.ref al, .ref mt, .ref ii, .int ta, .int fpm2, .ref pa, .int sm, .int nx2, .int tk2, .int pl2, .int ln2, .long va2, .int wr2, .ref li])) ∧ u.1 mt = some (.inl (kA 0, 600, .inl ft))) ∧ u.2 = T ∧ (∀ q, FrK T q → q ≠ h → q ≠ mt → u.1 q = M q)) (mB D kA M T sz) (mA M T sz)) ([.ref h] : List Value).toArray s 0 0 (mA M T sz)) (F0 m 2 ls []) := by
    intro n
    induction n with
    | zero =>
      intro yq1_ Hq_ lcq_ Mq2_ ls hme l_yq1_ g_yq1_ hc_h hc_mt hF hH hl
      exfalso; omega
    | succ n ih =>
      intro yq1_ Hq_ lcq_ Mq2_ ls hme l_yq1_ g_yq1_ hc_h hc_mt hF hH hl
      refine lv_iload_n hx hb dX10_readsLine_2 rfl (lv_at hl 0 rfl) ?_
      refine lv_bipush (v := 19) hx hb dX10_readsLine_3 (by decide) ?_
      refine jic_ge (tgt := 111) hx hb dX10_readsLine_5 (by decide) (fun cq3_ => ?_) (fun cq3_ => ?_)
      · skip
        have cq3_ : 19 ≤ yq1_.toInt := cq3_
        refine lv_aload_n hx hb dX10_readsLine_111 rfl (lv_at hl 1 rfl) ?_
        refine goV hK hH (runV (As := []) (rest := []) hC hK hH (c_X10_fails hc_h hn_h hc_mt ht_mt ht_pa ht_li (by omega)) mlX10_248 (rcvM hK hH hc_h rfl) ⟨⟨Nat.le_of_ble_eq_true rfl, Nat.le_of_ble_eq_true rfl⟩, Nat.le_of_ble_eq_true rfl, Nat.le_of_ble_eq_true rfl⟩ rfl hl.1 rfl (Nat.le_of_ble_eq_true rfl) dX10_readsLine_112) (fun Mq4_ Tq5_ Hq_ lcq_ hP hz hH => ?_)
        try dsimp only at hP
        obtain ⟨xq8_, ⟨l_xq8_, g_xq8_⟩, xq9_, ⟨l_xq9_, g_xq9_⟩, (⟨cq7_, hx_h, hx_mt⟩), eT, hfr⟩ := hP
        have eT := eT.symm; subst eT
        have hc_h : Mq4_ h = some (.inr (8, [.ref al, .ref mt, .ref ii, .int ta, .int xq9_, .ref pa, .int sm, .int nx, .int tk, .int pl, .int ln, .long va, .int xq8_, .ref li])) := hx_h
        have hc_mt : Mq4_ mt = some (.inl (kA 0, 600, .inl ft)) := hx_mt
        have hF : ∀ q, FrK T q → q ≠ h → q ≠ mt → Mq4_ q = M q := fun q hq h0 h1 => (hfr q hq h0 h1).trans (hF q hq h0 h1)
        have cq7_ : xq8_.toInt = 1 := cq7_
        exact ret_v hC hr hlk hK hH (⟨va, nx, ⟨by omega, by omega⟩, tk, ⟨by omega, by omega⟩, pl, ⟨by omega, by omega⟩, xq8_, ⟨by omega, by omega⟩, xq9_, iRg _, ln, ⟨by omega, by omega⟩, ⟨by omega, hc_h, hc_mt⟩, rfl, hF⟩) (Nat.le_of_ble_eq_true rfl) (Nat.le_of_ble_eq_true rfl) dX10_readsLine_115
      · skip
        have cq3_ : yq1_.toInt < 19 := cq3_
        refine lv_aload_n hx hb dX10_readsLine_8 rfl (lv_at hl 1 rfl) ?_
        refine va_gets hx hb hZ.1.2.2.2.2.2.2.2.1.1 hH.2.1 hC.2.2.2.1 (hC.2.2.2.2 _ wsX10_255) (fun _ h => h) dX10_readsLine_9 ?_
        refine lv_iload_n hx hb dX10_readsLine_12 rfl (lv_at hl 0 rfl) ?_
        refine va_tl hx hb hZ.1.2.2.2.2.2.2.2.1.2 hH.2.1 (iIn (by omega) (by omega)) rfl dX10_readsLine_13 ?_
        refine lv_topl (fun xq10_ e_xq10_ => ?_)
        have w_xq10_ : (26 : Int) < xq10_.toInt := by rw [e_xq10_]; exact zWo_r (by have := iCl (x := yq1_) (by omega); omega)
        refine va_gets hx hb hZ.1.2.2.2.2.2.2.2.2.1 hH.2.1 hC.2.2.2.1 (hC.2.2.2.2 _ wsX10_259) (fun _ h => h) dX10_readsLine_14 ?_
        refine lv_iload_n hx hb dX10_readsLine_17 rfl (lv_at hl 0 rfl) ?_
        refine va_ti hx hb hZ.1.2.2.2.2.2.2.2.2.2 hH.2.1 (iIn (by omega) (by omega)) rfl dX10_readsLine_18 ?_
        refine lv_topi (fun xq11_ e_xq11_ => ?_)
        have l_xq11_ : 1 ≤ xq11_.toInt := by rw [e_xq11_]; exact (zNum_r (by have := iCl (x := yq1_) (by omega); omega)).1
        have g_xq11_ : xq11_.toInt ≤ 5 := by rw [e_xq11_]; exact (zNum_r (by have := iCl (x := yq1_) (by omega); omega)).2
        have Jq13_ : ∀ vq12_ : Int32, (0 : Int) ≤ vq12_.toInt → vq12_.toInt ≤ 2 → W p l e (rmL 4 0 0) s m ([.ref h] : List Value).toArray below meth c Hq_ lcq_ 0 0 (MQ below (va_Qv (fun u => ∃ va2 : Int64, ∃ nx2 : Int32, ((0 : Int) ≤ nx2.toInt ∧ nx2.toInt ≤ 600) ∧ ∃ tk2 : Int32, ((0 : Int) ≤ tk2.toInt ∧ tk2.toInt ≤ 4) ∧ ∃ pl2 : Int32, ((0 : Int) ≤ pl2.toInt ∧ pl2.toInt ≤ 600) ∧ ∃ wr2 : Int32, ((0 : Int) ≤ wr2.toInt ∧ wr2.toInt ≤ 1) ∧ ∃ fpm2 : Int32, ((-2147483648 : Int) ≤ fpm2.toInt ∧ fpm2.toInt ≤ 2147483647) ∧ ∃ ln2 : Int32, ((0 : Int) ≤ ln2.toInt ∧ ln2.toInt ≤ 151) ∧ ((pl.toInt ≤ pl2.toInt ∧ pl2.toInt ≤ nx2.toInt ∧ nx2.toInt ≤ sm.toInt ∧ (tk2.toInt = 0 ∨ pl2.toInt < nx2.toInt) ∧ (tk2.toInt ≠ 1 ∨ nx2.toInt ≠ pl2.toInt + 1 ∨ va2.toInt ≤ 26) ∧ ln2.toInt ≤ ln.toInt + 1 ∧ (wr2.toInt = 1 ∨ (pl.toInt + 4 ≤ pl2.toInt ∧ ln2.toInt = ln.toInt + 1))) ∧ u.1 h = some (.inr (8, [.ref al, .ref mt, .ref ii, .int ta, .int fpm2, .ref pa, .int sm, .int nx2, .int tk2, .int pl2, .int ln2, .long va2, .int wr2, .ref li])) ∧ u.1 mt = some (.inl (kA 0, 600, .inl ft))) ∧ u.2 = T ∧ (∀ q, FrK T q → q ≠ h → q ≠ mt → u.1 q = M q)) (mB D kA M T sz) (mA M T sz)) ([.ref h] : List Value).toArray s 0 0 (mA M T sz)) (F0 m 45 ls [.int vq12_, .int xq11_, .long xq10_, .ref h]) := by
          intro vq12_ l_vq12_ g_vq12_
          refine goI hK hH (runV (As := [.long xq10_, .int xq11_, .int vq12_]) (rest := []) hC hK hH (c_X10_isLine hc_h hn_h hc_mt ht_mt ht_pa ht_li (by omega) (by omega) (by omega) (by omega) (by omega) (by omega) (by omega) (by omega)) mlX10_262 (rcvM hK hH hc_h rfl) ⟨⟨Nat.le_of_ble_eq_true rfl, Nat.le_of_ble_eq_true rfl⟩, Nat.le_of_ble_eq_true rfl, Nat.le_of_ble_eq_true rfl⟩ rfl hl.1 rfl (Nat.le_of_ble_eq_true rfl) dX10_readsLine_45) (fun rq17_ Mq15_ Tq16_ Hq_ lcq_ hP hz hH => ?_)
          try dsimp only at hP
          obtain ⟨xq14_, xq19_, ⟨l_xq19_, g_xq19_⟩, xq20_, ⟨l_xq20_, g_xq20_⟩, xq21_, ⟨l_xq21_, g_xq21_⟩, xq22_, ⟨l_xq22_, g_xq22_⟩, xq23_, ⟨l_xq23_, g_xq23_⟩, (⟨er_rq17_, hx_h, hx_mt⟩ | ⟨cq18_, er_rq17_, hx_h, hx_mt⟩), eT, hfr⟩ := hP
          · skip
            have eT := eT.symm; subst eT
            have er_rq17_ := er_rq17_.symm; subst er_rq17_
            have hc_h : Mq15_ h = some (.inr (8, [.ref al, .ref mt, .ref ii, .int ta, .int fpm, .ref pa, .int sm, .int nx, .int tk, .int pl, .int ln, .long va, .int wr, .ref li])) := hx_h
            have hc_mt : Mq15_ mt = some (.inl (kA 0, 600, .inl ft)) := hx_mt
            have hF : ∀ q, FrK T q → q ≠ h → q ≠ mt → Mq15_ q = M q := fun q hq h0 h1 => (hfr q hq h0 h1).trans (hF q hq h0 h1)
            refine jif_ne (tgt := 54) hx hb dX10_readsLine_48 (by decide) (fun cq24_ => absurd cq24_ (by decide)) (fun cq24_ => ?_)
            refine lv_goto (tgt := 105) hx hb dX10_readsLine_51 (by decide) ?_
            obtain ⟨zq25_, e_zq25_⟩ : ∃ y : Int32, y = yq1_ + 1 := ⟨_, rfl⟩
            refine lv_iinc (v := zq25_) (lv' := [(1, .int zq25_), (0, .ref h)]) hx hb dX10_readsLine_105 hl (k := 0) rfl (by rw [e_zq25_]; rfl) (by decide) rfl (fun ls hl => ?_)
            have h_zq25_ : zq25_.toInt = yq1_.toInt + 1 := by rw [e_zq25_, iAdd (by have : (1 : Int32).toInt = 1 := rfl; omega) (by have : (1 : Int32).toInt = 1 := rfl; omega)]; rfl
            refine lv_goto (tgt := 2) hx hb dX10_readsLine_108 (by decide) ?_
            exact ih zq25_ _ _ _ ls (by have := iRg zq25_; omega) (by have := iRg zq25_; omega) (by have := iRg zq25_; omega) hc_h hc_mt hF hH (lv_sub hl [0, 1] rfl)
          · skip
            have eT := eT.symm; subst eT
            have er_rq17_ := er_rq17_.symm; subst er_rq17_
            have hc_h : Mq15_ h = some (.inr (8, [.ref al, .ref mt, .ref ii, .int ta, .int xq23_, .ref pa, .int sm, .int xq19_, .int xq20_, .int xq21_, .int ln, .long xq14_, .int xq22_, .ref li])) := hx_h
            have hc_mt : Mq15_ mt = some (.inl (kA 0, 600, .inl ft)) := hx_mt
            have hF : ∀ q, FrK T q → q ≠ h → q ≠ mt → Mq15_ q = M q := fun q hq h0 h1 => (hfr q hq h0 h1).trans (hF q hq h0 h1)
            have cq18_ : pl.toInt ≤ xq21_.toInt ∧ xq21_.toInt ≤ xq19_.toInt ∧ xq19_.toInt ≤ sm.toInt ∧ (xq20_.toInt = 0 ∨ xq21_.toInt < xq19_.toInt) ∧ (xq20_.toInt ≠ 1 ∨ xq19_.toInt ≠ xq21_.toInt + 1 ∨ xq14_.toInt ≤ 26) ∧ (xq22_.toInt = 1 ∨ pl.toInt + 3 ≤ xq21_.toInt) := cq18_
            refine jif_ne (tgt := 54) hx hb dX10_readsLine_48 (by decide) (fun cq26_ => ?_) (fun cq26_ => absurd cq26_ (by decide))
            refine lv_aload_n hx hb dX10_readsLine_54 rfl (lv_at hl 1 rfl) ?_
            refine xg hC hK hH flX10_27 hc_h rfl dX10_readsLine_55 ?_
            refine lv_bipush (v := 8) hx hb dX10_readsLine_58 (by decide) ?_
            refine lv_aload_n hx hb dX10_readsLine_60 rfl (lv_at hl 1 rfl) ?_
            refine xg hC hK hH flX10_245 hc_h rfl dX10_readsLine_61 ?_
            refine lv_imul hx hb dX10_readsLine_64 ?_
            refine lv_topi (fun zq27_ e_zq27_ => ?_)
            have h_zq27_ : zq27_.toInt = 8 * ln.toInt := by rw [e_zq27_, iMul (by show (-2147483648 : Int) ≤ 8 * ln.toInt; omega) (by show 8 * ln.toInt ≤ (2147483647 : Int); omega)]; rfl
            refine lv_iload_n hx hb dX10_readsLine_65 rfl (lv_at hl 0 rfl) ?_
            refine tist (x := yq1_) hC hK hH ht_li rfl (iIn (by omega) (by omega)) (iRg _).1 (iRg _).2 dX10_readsLine_66 (fun Hq_ lcq_ Mq28_ _ hfr hH => ?_)
            have hc_h : Mq28_ h = some (.inr (8, [.ref al, .ref mt, .ref ii, .int ta, .int xq23_, .ref pa, .int sm, .int xq19_, .int xq20_, .int xq21_, .int ln, .long xq14_, .int xq22_, .ref li])) := (hfr h (neF (Or.inl hn_h) ht_li (by decide))).trans hc_h
            have hc_mt : Mq28_ mt = some (.inl (kA 0, 600, .inl ft)) := (hfr mt (neTT ht_mt ht_li (by decide))).trans hc_mt
            have hF : ∀ q, FrK T q → q ≠ h → q ≠ mt → Mq28_ q = M q := fun q hq h0 h1 => (hfr q (neF hq ht_li (by decide))).trans (hF q hq h0 h1)
            refine lv_aload_n hx hb dX10_readsLine_67 rfl (lv_at hl 1 rfl) ?_
            refine lv_dup hx hb dX10_readsLine_68 rfl ?_
            refine xg hC hK hH flX10_245 hc_h rfl dX10_readsLine_69 ?_
            refine lv_iconst (v := 1) hx hb dX10_readsLine_72 (by decide) ?_
            refine lv_iadd hx hb dX10_readsLine_73 ?_
            refine lv_topi (fun zq29_ e_zq29_ => ?_)
            have h_zq29_ : zq29_.toInt = ln.toInt + 1 := by rw [e_zq29_, iAdd (by have := iRg ln; have : (1 : Int32).toInt = 1 := rfl; omega) (by have := iRg ln; have : (1 : Int32).toInt = 1 := rfl; omega)]; rfl
            refine yp (v := .int zq29_) hC hK hH flX10_245 hc_h (noT hn_h) rfl rfl (Nat.le_of_ble_eq_true rfl) dX10_readsLine_74 (fun Hq_ lcq_ Mq30_ hc_h hfr hH => ?_)
            have hc_h : Mq30_ h = some (.inr (8, [.ref al, .ref mt, .ref ii, .int ta, .int xq23_, .ref pa, .int sm, .int xq19_, .int xq20_, .int xq21_, .int zq29_, .long xq14_, .int xq22_, .ref li])) := hc_h
            have hc_mt : Mq30_ mt = some (.inl (kA 0, 600, .inl ft)) := (hfr mt n_mt_h).trans hc_mt
            have hF : ∀ q, FrK T q → q ≠ h → q ≠ mt → Mq30_ q = M q := fun q hq h0 h1 => (hfr q h0).trans (hF q hq h0 h1)
            refine lv_aload_n hx hb dX10_readsLine_77 rfl (lv_at hl 1 rfl) ?_
            refine xg hC hK hH flX10_234 hc_h rfl dX10_readsLine_78 ?_
            refine jif_eq (tgt := 85) hx hb dX10_readsLine_81 (by decide) (fun cq31_ => ?_) (fun cq31_ => ?_)
            · skip
              have cq31_ : xq22_.toInt = 0 := cq31_
              refine lv_aload_n hx hb dX10_readsLine_85 rfl (lv_at hl 1 rfl) ?_
              refine xg hC hK hH flX10_217 hc_h rfl dX10_readsLine_86 ?_
              refine lv_iconst (v := 3) hx hb dX10_readsLine_89 (by decide) ?_
              refine jic_ne (tgt := 100) hx hb dX10_readsLine_90 (by decide) (fun cq32_ => ?_) (fun cq32_ => ?_)
              · skip
                have cq32_ : xq20_.toInt ≠ 3 := cq32_
                refine lv_aload_n hx hb dX10_readsLine_100 rfl (lv_at hl 1 rfl) ?_
                refine goV hK hH (runV (As := []) (rest := []) hC hK hH (c_X10_fails hc_h hn_h hc_mt ht_mt ht_pa ht_li (by omega)) mlX10_248 (rcvM hK hH hc_h rfl) ⟨⟨Nat.le_of_ble_eq_true rfl, Nat.le_of_ble_eq_true rfl⟩, Nat.le_of_ble_eq_true rfl, Nat.le_of_ble_eq_true rfl⟩ rfl hl.1 rfl (Nat.le_of_ble_eq_true rfl) dX10_readsLine_101) (fun Mq33_ Tq34_ Hq_ lcq_ hP hz hH => ?_)
                try dsimp only at hP
                obtain ⟨xq37_, ⟨l_xq37_, g_xq37_⟩, xq38_, ⟨l_xq38_, g_xq38_⟩, (⟨cq36_, hx_h, hx_mt⟩), eT, hfr⟩ := hP
                have eT := eT.symm; subst eT
                have hc_h : Mq33_ h = some (.inr (8, [.ref al, .ref mt, .ref ii, .int ta, .int xq38_, .ref pa, .int sm, .int xq19_, .int xq20_, .int xq21_, .int zq29_, .long xq14_, .int xq37_, .ref li])) := hx_h
                have hc_mt : Mq33_ mt = some (.inl (kA 0, 600, .inl ft)) := hx_mt
                have hF : ∀ q, FrK T q → q ≠ h → q ≠ mt → Mq33_ q = M q := fun q hq h0 h1 => (hfr q hq h0 h1).trans (hF q hq h0 h1)
                have cq36_ : xq37_.toInt = 1 := cq36_
                exact ret_v hC hr hlk hK hH (⟨xq14_, xq19_, ⟨by omega, by omega⟩, xq20_, ⟨by omega, by omega⟩, xq21_, ⟨by omega, by omega⟩, xq37_, ⟨by omega, by omega⟩, xq38_, iRg _, zq29_, ⟨by omega, by omega⟩, ⟨by omega, hc_h, hc_mt⟩, rfl, hF⟩) (Nat.le_of_ble_eq_true rfl) (Nat.le_of_ble_eq_true rfl) dX10_readsLine_104
              · skip
                have cq32_ : xq20_.toInt = 3 := cq32_
                refine lv_aload_n hx hb dX10_readsLine_93 rfl (lv_at hl 1 rfl) ?_
                refine goV hK hH (runV (As := []) (rest := []) hC hK hH (c_X10_takes hc_h hn_h hc_mt ht_mt ht_pa ht_li (by omega) (by omega)) mlX10_238 (rcvM hK hH hc_h rfl) ⟨⟨Nat.le_of_ble_eq_true rfl, Nat.le_of_ble_eq_true rfl⟩, Nat.le_of_ble_eq_true rfl, Nat.le_of_ble_eq_true rfl⟩ rfl hl.1 rfl (Nat.le_of_ble_eq_true rfl) dX10_readsLine_94) (fun Mq40_ Tq41_ Hq_ lcq_ hP hz hH => ?_)
                try dsimp only at hP
                obtain ⟨xq39_, xq44_, ⟨l_xq44_, g_xq44_⟩, xq45_, ⟨l_xq45_, g_xq45_⟩, xq46_, ⟨l_xq46_, g_xq46_⟩, (⟨cq43_, hx_h, hx_mt⟩), eT, hfr⟩ := hP
                have eT := eT.symm; subst eT
                have hc_h : Mq40_ h = some (.inr (8, [.ref al, .ref mt, .ref ii, .int ta, .int xq23_, .ref pa, .int sm, .int xq44_, .int xq45_, .int xq46_, .int zq29_, .long xq39_, .int xq22_, .ref li])) := hx_h
                have hc_mt : Mq40_ mt = some (.inl (kA 0, 600, .inl ft)) := hx_mt
                have hF : ∀ q, FrK T q → q ≠ h → q ≠ mt → Mq40_ q = M q := fun q hq h0 h1 => (hfr q hq h0 h1).trans (hF q hq h0 h1)
                have cq43_ : xq19_.toInt ≤ xq46_.toInt ∧ xq46_.toInt ≤ xq44_.toInt ∧ xq44_.toInt ≤ sm.toInt ∧ (xq45_.toInt = 0 ∨ xq46_.toInt < xq44_.toInt) ∧ (xq45_.toInt ≠ 1 ∨ xq44_.toInt ≠ xq46_.toInt + 1 ∨ xq39_.toInt ≤ 26) := cq43_
                refine lv_goto (tgt := 104) hx hb dX10_readsLine_97 (by decide) ?_
                exact ret_v hC hr hlk hK hH (⟨xq39_, xq44_, ⟨by omega, by omega⟩, xq45_, ⟨by omega, by omega⟩, xq46_, ⟨by omega, by omega⟩, xq22_, ⟨by omega, by omega⟩, xq23_, iRg _, zq29_, ⟨by omega, by omega⟩, ⟨by omega, hc_h, hc_mt⟩, rfl, hF⟩) (Nat.le_of_ble_eq_true rfl) (Nat.le_of_ble_eq_true rfl) dX10_readsLine_104
            · skip
              have cq31_ : xq22_.toInt ≠ 0 := cq31_
              exact ret_v hC hr hlk hK hH (⟨xq14_, xq19_, ⟨by omega, by omega⟩, xq20_, ⟨by omega, by omega⟩, xq21_, ⟨by omega, by omega⟩, xq22_, ⟨by omega, by omega⟩, xq23_, iRg _, zq29_, ⟨by omega, by omega⟩, ⟨by omega, hc_h, hc_mt⟩, rfl, hF⟩) (Nat.le_of_ble_eq_true rfl) (Nat.le_of_ble_eq_true rfl) dX10_readsLine_84
        refine lv_iload_n hx hb dX10_readsLine_19 rfl (lv_at hl 0 rfl) ?_
        refine lv_iconst (v := 5) hx hb dX10_readsLine_20 (by decide) ?_
        refine jic_le (tgt := 34) hx hb dX10_readsLine_21 (by decide) (fun cq47_ => ?_) (fun cq47_ => ?_)
        · skip
          have cq47_ : yq1_.toInt ≤ 5 := cq47_
          refine lv_iload_n hx hb dX10_readsLine_34 rfl (lv_at hl 0 rfl) ?_
          refine lv_bipush (v := 10) hx hb dX10_readsLine_35 (by decide) ?_
          refine jic_ne (tgt := 44) hx hb dX10_readsLine_37 (by decide) (fun cq48_ => ?_) (fun cq48_ => absurd cq48_ (by have := iRg yq1_; have : (10 : Int32).toInt = 10 := rfl; omega))
          have cq48_ : yq1_.toInt ≠ 10 := cq48_
          refine lv_iconst (v := 0) hx hb dX10_readsLine_44 (by decide) ?_
          exact Jq13_ 0 (by decide) (by decide)
        · skip
          have cq47_ : 5 < yq1_.toInt := cq47_
          refine lv_iload_n hx hb dX10_readsLine_24 rfl (lv_at hl 0 rfl) ?_
          refine lv_bipush (v := 10) hx hb dX10_readsLine_25 (by decide) ?_
          refine jic_ge (tgt := 34) hx hb dX10_readsLine_27 (by decide) (fun cq49_ => ?_) (fun cq49_ => ?_)
          · skip
            have cq49_ : 10 ≤ yq1_.toInt := cq49_
            refine lv_iload_n hx hb dX10_readsLine_34 rfl (lv_at hl 0 rfl) ?_
            refine lv_bipush (v := 10) hx hb dX10_readsLine_35 (by decide) ?_
            refine jic_ne (tgt := 44) hx hb dX10_readsLine_37 (by decide) (fun cq50_ => ?_) (fun cq50_ => ?_)
            · skip
              have cq50_ : yq1_.toInt ≠ 10 := cq50_
              refine lv_iconst (v := 0) hx hb dX10_readsLine_44 (by decide) ?_
              exact Jq13_ 0 (by decide) (by decide)
            · skip
              have cq50_ : yq1_.toInt = 10 := cq50_
              refine lv_iconst (v := 1) hx hb dX10_readsLine_40 (by decide) ?_
              refine lv_goto (tgt := 45) hx hb dX10_readsLine_41 (by decide) ?_
              exact Jq13_ 1 (by decide) (by decide)
          · skip
            have cq49_ : yq1_.toInt < 10 := cq49_
            refine lv_iconst (v := 2) hx hb dX10_readsLine_30 (by decide) ?_
            refine lv_goto (tgt := 45) hx hb dX10_readsLine_31 (by decide) ?_
            exact Jq13_ 2 (by decide) (by decide)
  exact loop (Int.toNat (20 - 0)) 0 _ _ _ ls (by have : (0 : Int32).toInt = 0 := rfl; omega) (by have : (0 : Int32).toInt = 0 := rfl; omega) (by have : (0 : Int32).toInt = 0 := rfl; omega) hc_h hc_mt hF hH hl
