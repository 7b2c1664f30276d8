set_option maxHeartbeats 4000000 in
set_option maxRecDepth 100000 in
theorem c_X10_fails {l : Launch} {D : va_G} {kA : Nat → ClassId} {M : mM} {T : mT} {sz : Nat} {h al mt ii pa li : Nat} {ta fpm sm nx tk pl ln wr : Int32} {va : Int64} (hc_h : M h = some (.inr (8, [.ref al, .ref mt, .ref ii, .int ta, .int fpm, .ref pa, .int sm, .int nx, .int tk, .int pl, .int ln, .long va, .int wr, .ref li]))) (hn_h : T h = none) (ht_pa : T pa = some 13) (ht_li : T li = some 14) (hwr : 0 ≤ wr.toInt ∧ wr.toInt ≤ 1) : mCv l yX10_fails cX10_fails 1 0 0 0 D kA M T sz [.ref h] (fun u => ∃ wr2 : Int32, ((0 : Int) ≤ wr2.toInt ∧ wr2.toInt ≤ 1) ∧ ∃ fpm2 : Int32, ((-2147483648 : Int) ≤ fpm2.toInt ∧ fpm2.toInt ≤ 2147483647) ∧ ((wr2.toInt = 1 ∧ ((wr.toInt = 1 ∧ fpm2.toInt = fpm.toInt) ∨ (wr.toInt = 0 ∧ fpm2.toInt = pl.toInt))) ∧ u.1 h = some (.inr (8, [.ref al, .ref mt, .ref ii, .int ta, .int fpm2, .ref pa, .int sm, .int nx, .int tk, .int pl, .int ln, .long va, .int wr2, .ref li]))) ∧ u.2 = T ∧ (∀ q, FrK T q → q ≠ h → u.1 q = M q)) := by
  unfold mCv
  refine start_W (by decide) (Nat.le_of_ble_eq_true rfl) ?_
  intro p e s m below meth c ls hC hr hlk hnm hK hH hsz hl
  have hx := hC.1
  have hb := hC.2.1
  have hl : lv_has ls 1 [(0, .ref h)] := hl
  have hF : ∀ q, FrK T q → q ≠ h → M q = M q := fun q _ _ => rfl
  refine lv_aload_n hx hb dX10_fails_0 rfl (lv_at hl 0 rfl) ?_
  refine xg hC hK hH flX10_234 hc_h rfl dX10_fails_1 ?_
  refine jif_eq (tgt := 8) hx hb dX10_fails_4 (by decide) (fun cq1_ => ?_) (fun cq1_ => ?_)
  · skip
    have cq1_ : wr.toInt = 0 := cq1_
    refine lv_aload_n hx hb dX10_fails_8 rfl (lv_at hl 0 rfl) ?_
    refine lv_iconst (v := 1) hx hb dX10_fails_9 (by decide) ?_
    refine yp (v := .int 1) hC hK hH flX10_234 hc_h (noT hn_h) rfl rfl (Nat.le_of_ble_eq_true rfl) dX10_fails_10 (fun Hq_ lcq_ Mq2_ hc_h hfr hH => ?_)
    have hc_h : Mq2_ h = some (.inr (8, [.ref al, .ref mt, .ref ii, .int ta, .int fpm, .ref pa, .int sm, .int nx, .int tk, .int pl, .int ln, .long va, .int 1, .ref li])) := hc_h
    have hF : ∀ q, FrK T q → q ≠ h → Mq2_ q = M q := fun q hq h0 => (hfr q h0).trans (hF q hq h0)
    refine lv_aload_n hx hb dX10_fails_13 rfl (lv_at hl 0 rfl) ?_
    refine lv_aload_n hx hb dX10_fails_14 rfl (lv_at hl 0 rfl) ?_
    refine xg hC hK hH flX10_210 hc_h rfl dX10_fails_15 ?_
    refine yp (v := .int pl) hC hK hH flX10_20 hc_h (noT hn_h) rfl rfl (Nat.le_of_ble_eq_true rfl) dX10_fails_18 (fun Hq_ lcq_ Mq3_ hc_h hfr hH => ?_)
    have hc_h : Mq3_ h = some (.inr (8, [.ref al, .ref mt, .ref ii, .int ta, .int pl, .ref pa, .int sm, .int nx, .int tk, .int pl, .int ln, .long va, .int 1, .ref li])) := hc_h
    have hF : ∀ q, FrK T q → q ≠ h → Mq3_ q = M q := fun q hq h0 => (hfr q h0).trans (hF q hq h0)
    exact ret_v hC hr hlk hK hH (⟨1, ⟨by decide, by decide⟩, pl, iRg _, ⟨by have : (1 : Int32).toInt = 1 := rfl; omega, hc_h⟩, rfl, hF⟩) (Nat.le_of_ble_eq_true rfl) (Nat.le_of_ble_eq_true rfl) dX10_fails_21
  · skip
    have cq1_ : wr.toInt ≠ 0 := cq1_
    exact ret_v hC hr hlk hK hH (⟨wr, ⟨by omega, by omega⟩, fpm, iRg _, ⟨by omega, hc_h⟩, rfl, hF⟩) (Nat.le_of_ble_eq_true rfl) (Nat.le_of_ble_eq_true rfl) dX10_fails_7
set_option maxHeartbeats 4000000 in
set_option maxRecDepth 100000 in
theorem c_X10_hasWord {l : Launch} {D : va_G} {kA : Nat → ClassId} {M : mM} {T : mT} {sz : Nat} {h al mt ii pa li : Nat} {ta fpm sm nx tk pl ln wr : Int32} {va : Int64} {lw : Int64} {i : Nat} {ft : Nat → Int32} (hc_h : M h = some (.inr (8, [.ref al, .ref mt, .ref ii, .int ta, .int fpm, .ref pa, .int sm, .int nx, .int tk, .int pl, .int ln, .long va, .int wr, .ref li]))) (hn_h : T h = none) (hc_mt : M mt = some (.inl (kA 0, 600, .inl ft))) (hn_mt : T mt = none) (ht_pa : T pa = some 13) (ht_li : T li = some 14) (hsm : 0 ≤ sm.toInt ∧ sm.toInt ≤ 600) (hpl : 0 ≤ pl.toInt) (htk : 0 ≤ tk.toInt ∧ tk.toInt ≤ 4) (htok : pl.toInt ≤ nx.toInt ∧ nx.toInt ≤ sm.toInt ∧ (tk.toInt = 0 ∨ pl.toInt < nx.toInt) ∧ (tk.toInt ≠ 1 ∨ nx.toInt ≠ pl.toInt + 1 ∨ va.toInt ≤ 26)) (hTk : Tk ft sm tk pl nx) (hVa : Va ft tk pl nx va) (hnn : NN ft) (hwr : 0 ≤ wr.toInt ∧ wr.toInt ≤ 1) (hlw : 26 < lw.toInt) (hi21 : i < 21) (hlv : lw.toInt = zWv i) : mCi l yX10_hasWord cX10_hasWord 4 (some .boolean) 2 0 0 D kA M T sz [.ref h, .long lw] (fun r u => ∃ va2 : Int64, ∃ nx2 : Int32, ((0 : Int) ≤ nx2.toInt ∧ nx2.toInt ≤ 600) ∧ ∃ tk2 : Int32, ((0 : Int) ≤ tk2.toInt ∧ tk2.toInt ≤ 4) ∧ ∃ pl2 : Int32, ((0 : Int) ≤ pl2.toInt ∧ pl2.toInt ≤ 600) ∧ (((wr.toInt = 0 ∧ pl.toInt + 2 ≤ pl2.toInt ∧ pl2.toInt ≤ nx2.toInt ∧ nx2.toInt ≤ sm.toInt ∧ (tk2.toInt = 0 ∨ pl2.toInt < nx2.toInt) ∧ (tk2.toInt ≠ 1 ∨ nx2.toInt ≠ pl2.toInt + 1 ∨ va2.toInt ≤ 26) ∧ Tk ft sm tk2 pl2 nx2 ∧ pl2.toInt = (nxF (nC ft) sm.toInt.toNat pl.toInt.toNat : Int) ∧ (Va ft tk2 pl2 nx2 va2) ∧ wIs (nC ft) sm.toInt.toNat pl.toInt.toNat i) ∧ r = 1 ∧ u.1 h = some (.inr (8, [.ref al, .ref mt, .ref ii, .int ta, .int fpm, .ref pa, .int sm, .int nx2, .int tk2, .int pl2, .int ln, .long va2, .int wr, .ref li]))) ∨ (Ns wr (wIs (nC ft) sm.toInt.toNat pl.toInt.toNat i) ∧ r = 0 ∧ u.1 h = some (.inr (8, [.ref al, .ref mt, .ref ii, .int ta, .int fpm, .ref pa, .int sm, .int nx, .int tk, .int pl, .int ln, .long va, .int wr, .ref li])))) ∧ u.2 = T ∧ (∀ q, FrK T q → q ≠ h → u.1 q = M q)) := by
  unfold mCi
  refine start_W (by decide) (Nat.le_of_ble_eq_true rfl) ?_
  intro p e s m below meth c ls hC hr hlk hnm hK hH hsz hl
  have hx := hC.1
  have hb := hC.2.1
  have hl : lv_has ls 4 [(0, .ref h), (1, .long lw)] := hl
  have hF : ∀ q, FrK T q → q ≠ h → M q = M q := fun q _ _ => rfl
  have n_h_mt : h ≠ mt := neM hc_h hc_mt (by simp)
  have n_mt_h : mt ≠ h := neM hc_mt hc_h (by simp)
  refine lv_aload_n hx hb dX10_hasWord_0 rfl (lv_at hl 0 rfl) ?_
  refine xg hC hK hH flX10_234 hc_h rfl dX10_hasWord_1 ?_
  refine jif_ne (tgt := 28) hx hb dX10_hasWord_4 (by decide) (fun cq1_ => ?_) (fun cq1_ => ?_)
  · skip
    have cq1_ : wr.toInt ≠ 0 := cq1_
    refine lv_iconst (v := 0) hx hb dX10_hasWord_28 (by decide) ?_
    refine lv_istore_n (lv' := [(3, .int 0), (0, .ref h), (1, .long lw)]) hx hb dX10_hasWord_29 rfl hl (by decide) rfl (fun ls hl => ?_)
    refine lv_iload_n hx hb dX10_hasWord_30 rfl (lv_at hl 0 rfl) ?_
    refine jif_eq (tgt := 38) hx hb dX10_hasWord_31 (by decide) (fun cq2_ => ?_) (fun cq2_ => absurd cq2_ (by decide))
    refine lv_iload_n hx hb dX10_hasWord_38 rfl (lv_at hl 0 rfl) ?_
    exact ret_z hC hr hlk hK hH (by first | exact Or.inl rfl | exact Or.inr rfl | assumption) (⟨va, nx, ⟨by omega, by omega⟩, tk, ⟨by omega, by omega⟩, pl, ⟨by omega, by omega⟩, Or.inr (⟨by first | exact Or.inl (by omega) | exact Or.inr (fun q => by have h8 := q.1; have h9 := hTk.1; omega), rfl, hc_h⟩), rfl, hF⟩) (Nat.le_of_ble_eq_true rfl) (Nat.le_of_ble_eq_true rfl) dX10_hasWord_39
  · skip
    have cq1_ : wr.toInt = 0 := cq1_
    refine lv_aload_n hx hb dX10_hasWord_7 rfl (lv_at hl 0 rfl) ?_
    refine xg hC hK hH flX10_217 hc_h rfl dX10_hasWord_8 ?_
    refine lv_iconst (v := 1) hx hb dX10_hasWord_11 (by decide) ?_
    refine jic_ne (tgt := 28) hx hb dX10_hasWord_12 (by decide) (fun cq3_ => ?_) (fun cq3_ => ?_)
    · skip
      have cq3_ : tk.toInt ≠ 1 := cq3_
      refine lv_iconst (v := 0) hx hb dX10_hasWord_28 (by decide) ?_
      refine lv_istore_n (lv' := [(3, .int 0), (0, .ref h), (1, .long lw)]) hx hb dX10_hasWord_29 rfl hl (by decide) rfl (fun ls hl => ?_)
      refine lv_iload_n hx hb dX10_hasWord_30 rfl (lv_at hl 0 rfl) ?_
      refine jif_eq (tgt := 38) hx hb dX10_hasWord_31 (by decide) (fun cq4_ => ?_) (fun cq4_ => absurd cq4_ (by decide))
      refine lv_iload_n hx hb dX10_hasWord_38 rfl (lv_at hl 0 rfl) ?_
      exact ret_z hC hr hlk hK hH (by first | exact Or.inl rfl | exact Or.inr rfl | assumption) (⟨va, nx, ⟨by omega, by omega⟩, tk, ⟨by omega, by omega⟩, pl, ⟨by omega, by omega⟩, Or.inr (⟨by first | exact Or.inl (by omega) | exact Or.inr (fun q => by have h8 := q.1; have h9 := hTk.1; omega), rfl, hc_h⟩), rfl, hF⟩) (Nat.le_of_ble_eq_true rfl) (Nat.le_of_ble_eq_true rfl) dX10_hasWord_39
    · skip
      have cq3_ : tk.toInt = 1 := cq3_
      refine lv_aload_n hx hb dX10_hasWord_15 rfl (lv_at hl 0 rfl) ?_
      refine xg hC hK hH flX10_213 hc_h rfl dX10_hasWord_16 ?_
      refine lv_lload_n hx hb dX10_hasWord_19 rfl (lv_at hl 1 rfl) ?_
      refine W.lcmp hx hb dX10_hasWord_20 ?_
      refine lv_topi (fun zq5_ e_zq5_ => ?_)
      have hl_zq5_ := lcE e_zq5_
      refine jif_ne (tgt := 28) hx hb dX10_hasWord_21 (by decide) (fun cq6_ => ?_) (fun cq6_ => ?_)
      · skip
        have cq6_ : zq5_.toInt ≠ 0 := cq6_
        refine lv_iconst (v := 0) hx hb dX10_hasWord_28 (by decide) ?_
        refine lv_istore_n (lv' := [(3, .int 0), (0, .ref h), (1, .long lw)]) hx hb dX10_hasWord_29 rfl hl (by decide) rfl (fun ls hl => ?_)
        refine lv_iload_n hx hb dX10_hasWord_30 rfl (lv_at hl 0 rfl) ?_
        refine jif_eq (tgt := 38) hx hb dX10_hasWord_31 (by decide) (fun cq7_ => ?_) (fun cq7_ => absurd cq7_ (by decide))
        refine lv_iload_n hx hb dX10_hasWord_38 rfl (lv_at hl 0 rfl) ?_
        exact ret_z hC hr hlk hK hH (by first | exact Or.inl rfl | exact Or.inr rfl | assumption) (⟨va, nx, ⟨by omega, by omega⟩, tk, ⟨by omega, by omega⟩, pl, ⟨by omega, by omega⟩, Or.inr (⟨by first | exact Or.inl (by omega) | exact Or.inr (fun q => by have h8 := q.1; have h9 := hTk.1; omega) | exact Or.inr (fun q => lcN e_zq5_ (by omega) (by rw [hlv]; exact (wV hTk (by omega) hVa hi21).mpr q)), rfl, hc_h⟩), rfl, hF⟩) (Nat.le_of_ble_eq_true rfl) (Nat.le_of_ble_eq_true rfl) dX10_hasWord_39
      · skip
        have cq6_ : zq5_.toInt = 0 := cq6_
        refine lv_iconst (v := 1) hx hb dX10_hasWord_24 (by decide) ?_
        refine lv_goto (tgt := 29) hx hb dX10_hasWord_25 (by decide) ?_
        refine lv_istore_n (lv' := [(3, .int 1), (0, .ref h), (1, .long lw)]) hx hb dX10_hasWord_29 rfl hl (by decide) rfl (fun ls hl => ?_)
        refine lv_iload_n hx hb dX10_hasWord_30 rfl (lv_at hl 0 rfl) ?_
        refine jif_eq (tgt := 38) hx hb dX10_hasWord_31 (by decide) (fun cq8_ => absurd cq8_ (by decide)) (fun cq8_ => ?_)
        refine lv_aload_n hx hb dX10_hasWord_34 rfl (lv_at hl 1 rfl) ?_
        refine goV hK hH (runV (As := []) (rest := []) hC hK hH (c_X10_takes hc_h hn_h hc_mt hn_mt ht_pa ht_li (by omega) (by exact hnn) (by omega)) mlX10_238 (rcvM hK hH hc_h rfl) ⟨⟨Nat.le_of_ble_eq_true rfl, Nat.le_of_ble_eq_true rfl⟩, Nat.le_of_ble_eq_true rfl, Nat.le_of_ble_eq_true rfl⟩ rfl hl.1 rfl (Nat.le_of_ble_eq_true rfl) dX10_hasWord_35) (fun Mq10_ Tq11_ Hq_ lcq_ hP hz hH => ?_)
        try dsimp only at hP
        obtain ⟨xq9_, xq14_, ⟨l_xq14_, g_xq14_⟩, xq15_, ⟨l_xq15_, g_xq15_⟩, xq16_, ⟨l_xq16_, g_xq16_⟩, (⟨cq13_, hx_h⟩), eT, hfr⟩ := hP
        have eT := eT.symm; subst eT
        have hc_h : Mq10_ h = some (.inr (8, [.ref al, .ref mt, .ref ii, .int ta, .int fpm, .ref pa, .int sm, .int xq14_, .int xq15_, .int xq16_, .int ln, .long xq9_, .int wr, .ref li])) := hx_h
        have hc_mt : Mq10_ mt = some (.inl (kA 0, 600, .inl ft)) := (hfr mt (Or.inl hn_mt) n_mt_h).trans hc_mt
        have hF : ∀ q, FrK T q → q ≠ h → Mq10_ q = M q := fun q hq h0 => (hfr q hq h0).trans (hF q hq h0)
        have cq13_ : nx.toInt ≤ xq16_.toInt ∧ xq16_.toInt ≤ xq14_.toInt ∧ xq14_.toInt ≤ sm.toInt ∧ (xq15_.toInt = 0 ∨ xq16_.toInt < xq14_.toInt) ∧ (xq15_.toInt ≠ 1 ∨ xq14_.toInt ≠ xq16_.toInt + 1 ∨ xq9_.toInt ≤ 26) ∧ Tk ft sm xq15_ xq16_ xq14_ ∧ xq16_.toInt = (scE pSp (nC ft) sm.toInt.toNat nx.toInt.toNat : Int) ∧ (Va ft xq15_ xq16_ xq14_ xq9_) := cq13_
        have hnq17_ : nxF (nC ft) sm.toInt.toNat pl.toInt.toNat = xq16_.toInt.toNat := by have h8 := cq13_.2.2.2.2.2.2.1; rw [(hTk).nx] at h8; omega
        refine lv_iload_n hx hb dX10_hasWord_38 rfl (lv_at hl 0 rfl) ?_
        exact ret_z hC hr hlk hK hH (by first | exact Or.inl rfl | exact Or.inr rfl | assumption) (⟨xq9_, xq14_, ⟨by omega, by omega⟩, xq15_, ⟨by omega, by omega⟩, xq16_, ⟨by omega, by omega⟩, Or.inl (⟨⟨by omega, by omega, by omega, by omega, by omega, by omega, cq13_.2.2.2.2.2.1, by omega, cq13_.2.2.2.2.2.2.2, (wV hTk (by omega) hVa hi21).mp (by omega)⟩, rfl, hc_h⟩), rfl, hF⟩) (Nat.le_of_ble_eq_true rfl) (Nat.le_of_ble_eq_true rfl) dX10_hasWord_39
set_option maxHeartbeats 4000000 in
set_option maxRecDepth 100000 in
theorem c_X10_isLine {l : Launch} {D : va_G} {kA : Nat → ClassId} {M : mM} {T : mT} {sz : Nat} {h al mt ii pa li : Nat} {ta fpm sm nx tk pl ln wr : Int32} {va : Int64} {lw : Int64} {i : Nat} {nu mo_ : Int32} {ft : Nat → Int32} (hc_h : M h = some (.inr (8, [.ref al, .ref mt, .ref ii, .int ta, .int fpm, .ref pa, .int sm, .int nx, .int tk, .int pl, .int ln, .long va, .int wr, .ref li]))) (hn_h : T h = none) (hc_mt : M mt = some (.inl (kA 0, 600, .inl ft))) (hn_mt : T mt = none) (ht_pa : T pa = some 13) (ht_li : T li = some 14) (hsm : 0 ≤ sm.toInt ∧ sm.toInt ≤ 600) (hpl : 0 ≤ pl.toInt) (htk : 0 ≤ tk.toInt ∧ tk.toInt ≤ 4) (htok : pl.toInt ≤ nx.toInt ∧ nx.toInt ≤ sm.toInt ∧ (tk.toInt = 0 ∨ pl.toInt < nx.toInt) ∧ (tk.toInt ≠ 1 ∨ nx.toInt ≠ pl.toInt + 1 ∨ va.toInt ≤ 26)) (hTk : Tk ft sm tk pl nx) (hVa : Va ft tk pl nx va) (hnn : NN ft) (hln : 0 ≤ ln.toInt ∧ ln.toInt ≤ 150) (hw0 : wr.toInt = 0) (hnu : 1 ≤ nu.toInt ∧ nu.toInt ≤ 5) (hlw : 26 < lw.toInt) (hi21 : i < 21) (hlv : lw.toInt = zWv i) : mCi l yX10_isLine cX10_isLine 7 (some .boolean) 3 0 0 D kA M T sz [.ref h, .long lw, .int nu, .int mo_] (fun r u => ∃ va2 : Int64, ∃ nx2 : Int32, ((0 : Int) ≤ nx2.toInt ∧ nx2.toInt ≤ 600) ∧ ∃ tk2 : Int32, ((0 : Int) ≤ tk2.toInt ∧ tk2.toInt ≤ 4) ∧ ∃ pl2 : Int32, ((0 : Int) ≤ pl2.toInt ∧ pl2.toInt ≤ 600) ∧ ∃ wr2 : Int32, ((0 : Int) ≤ wr2.toInt ∧ wr2.toInt ≤ 1) ∧ ∃ fpm2 : Int32, ((-2147483648 : Int) ≤ fpm2.toInt ∧ fpm2.toInt ≤ 2147483647) ∧ ((¬ wIs (nC ft) sm.toInt.toNat pl.toInt.toNat i ∧ r = 0 ∧ u.1 h = some (.inr (8, [.ref al, .ref mt, .ref ii, .int ta, .int fpm, .ref pa, .int sm, .int nx, .int tk, .int pl, .int ln, .long va, .int wr, .ref li]))) ∨ ((wIs (nC ft) sm.toInt.toNat pl.toInt.toNat i ∧ pl.toInt ≤ pl2.toInt ∧ pl2.toInt ≤ nx2.toInt ∧ nx2.toInt ≤ sm.toInt ∧ (tk2.toInt = 0 ∨ pl2.toInt < nx2.toInt) ∧ (tk2.toInt ≠ 1 ∨ nx2.toInt ≠ pl2.toInt + 1 ∨ va2.toInt ≤ 26) ∧ (wr2.toInt = 1 ∨ pl.toInt + 3 ≤ pl2.toInt) ∧ Tk ft sm tk2 pl2 nx2 ∧ (Va ft tk2 pl2 nx2 va2) ∧ (Rs (opL (nC ft) sm.toInt.toNat (1 ≤ mo_.toInt) (2 ≤ mo_.toInt) (nmF (nC ft) sm.toInt.toNat nu.toInt.toNat (nxF (nC ft) sm.toInt.toNat pl.toInt.toNat))) wr2 fpm2 fpm pl2)) ∧ r = 1 ∧ u.1 h = some (.inr (8, [.ref al, .ref mt, .ref ii, .int ta, .int fpm2, .ref pa, .int sm, .int nx2, .int tk2, .int pl2, .int ln, .long va2, .int wr2, .ref li])))) ∧ u.2 = T ∧ (∀ q, FrK T q → q ≠ h → u.1 q = M q)) := by
  unfold mCi
  refine start_W (by decide) (Nat.le_of_ble_eq_true rfl) ?_
  intro p e s m below meth c ls hC hr hlk hnm hK hH hsz hl
  have hx := hC.1
  have hb := hC.2.1
  have hl : lv_has ls 7 [(0, .ref h), (1, .long lw), (3, .int nu), (4, .int mo_)] := hl
  have hF : ∀ q, FrK T q → q ≠ h → M q = M q := fun q _ _ => rfl
  have n_h_mt : h ≠ mt := neM hc_h hc_mt (by simp)
  have n_mt_h : mt ≠ h := neM hc_mt hc_h (by simp)
  refine lv_aload_n hx hb dX10_isLine_0 rfl (lv_at hl 0 rfl) ?_
  refine lv_lload_n hx hb dX10_isLine_1 rfl (lv_at hl 1 rfl) ?_
  refine goI hK hH (runV (As := [.long lw]) (rest := []) hC hK hH (c_X10_hasWord (i := i) hc_h hn_h hc_mt hn_mt ht_pa ht_li (by omega) (by omega) (by omega) (by omega) (by exact hTk) (by exact hVa) (by exact hnn) (by omega) (by omega) (by exact hi21) (by exact hlv)) mlX10_241 (rcvM hK hH hc_h rfl) ⟨⟨Nat.le_of_ble_eq_true rfl, Nat.le_of_ble_eq_true rfl⟩, Nat.le_of_ble_eq_true rfl, Nat.le_of_ble_eq_true rfl⟩ rfl hl.1 rfl (Nat.le_of_ble_eq_true rfl) dX10_isLine_2) (fun rq4_ Mq2_ Tq3_ Hq_ lcq_ hP hz hH => ?_)
  try dsimp only at hP
  obtain ⟨xq1_, xq7_, ⟨l_xq7_, g_xq7_⟩, xq8_, ⟨l_xq8_, g_xq8_⟩, xq9_, ⟨l_xq9_, g_xq9_⟩, (⟨cq5_, er_rq4_, hx_h⟩ | ⟨cq6_, er_rq4_, hx_h⟩), eT, hfr⟩ := hP
  · skip
    have eT := eT.symm; subst eT
    have er_rq4_ := er_rq4_.symm; subst er_rq4_
    have hc_h : Mq2_ h = some (.inr (8, [.ref al, .ref mt, .ref ii, .int ta, .int fpm, .ref pa, .int sm, .int xq7_, .int xq8_, .int xq9_, .int ln, .long xq1_, .int wr, .ref li])) := hx_h
    have hc_mt : Mq2_ mt = some (.inl (kA 0, 600, .inl ft)) := (hfr mt (Or.inl hn_mt) n_mt_h).trans hc_mt
    have hF : ∀ q, FrK T q → q ≠ h → Mq2_ q = M q := fun q hq h0 => (hfr q hq h0).trans (hF q hq h0)
    have cq5_ : wr.toInt = 0 ∧ pl.toInt + 2 ≤ xq9_.toInt ∧ xq9_.toInt ≤ xq7_.toInt ∧ xq7_.toInt ≤ sm.toInt ∧ (xq8_.toInt = 0 ∨ xq9_.toInt < xq7_.toInt) ∧ (xq8_.toInt ≠ 1 ∨ xq7_.toInt ≠ xq9_.toInt + 1 ∨ xq1_.toInt ≤ 26) ∧ Tk ft sm xq8_ xq9_ xq7_ ∧ xq9_.toInt = (nxF (nC ft) sm.toInt.toNat pl.toInt.toNat : Int) ∧ (Va ft xq8_ xq9_ xq7_ xq1_) ∧ wIs (nC ft) sm.toInt.toNat pl.toInt.toNat i := cq5_
    have hnq10_ : nxF (nC ft) sm.toInt.toNat pl.toInt.toNat = xq9_.toInt.toNat := by have h8 := cq5_.2.2.2.2.2.2.2.1; omega
    refine jif_ne (tgt := 10) hx hb dX10_isLine_5 (by decide) (fun cq11_ => ?_) (fun cq11_ => absurd cq11_ (by decide))
    refine lv_bipush (v := 8) hx hb dX10_isLine_10 (by decide) ?_
    refine lv_aload_n hx hb dX10_isLine_12 rfl (lv_at hl 0 rfl) ?_
    refine xg hC hK hH flX10_245 hc_h rfl dX10_isLine_13 ?_
    refine lv_imul hx hb dX10_isLine_16 ?_
    refine lv_topi (fun zq12_ e_zq12_ => ?_)
    have h_zq12_ : zq12_.toInt = 8 * ln.toInt := by rw [e_zq12_, iMul (by show (-2147483648 : Int) ≤ 8 * ln.toInt; omega) (by show 8 * ln.toInt ≤ (2147483647 : Int); omega)]; rfl
    refine lv_istore (lv' := [(5, .int zq12_), (0, .ref h), (1, .long lw), (3, .int nu), (4, .int mo_)]) hx hb dX10_isLine_17 hl (by decide) rfl (fun ls hl => ?_)
    refine lv_iconst (v := 0) hx hb dX10_isLine_19 (by decide) ?_
    refine lv_istore (lv' := [(6, .int 0), (5, .int zq12_), (0, .ref h), (1, .long lw), (3, .int nu), (4, .int mo_)]) hx hb dX10_isLine_20 hl (by decide) rfl (fun ls hl => ?_)
    have loop : ∀ (n : Nat) (yq13_ : Int32) (yq14_ : Int32) (yq15_ : Int32) (yq16_ : Int32) (yq17_ : Int64) (Hq_ : Heap) (lcq_ : List Loc) (Mq18_ : mM) (ls : Array Slot), nu.toInt - yq13_.toInt + 1 ≤ (n : Int) → (0 : Int) ≤ yq13_.toInt → yq13_.toInt ≤ 5 → (0 : Int) ≤ yq14_.toInt → yq14_.toInt ≤ 600 → (0 : Int) ≤ yq15_.toInt → yq15_.toInt ≤ 4 → (0 : Int) ≤ yq16_.toInt → yq16_.toInt ≤ 600 → (yq16_.toInt ≤ yq14_.toInt) → (yq14_.toInt ≤ sm.toInt) → (yq15_.toInt = 0 ∨ yq16_.toInt < yq14_.toInt) → (yq15_.toInt ≠ 1 ∨ yq14_.toInt ≠ yq16_.toInt + 1 ∨ yq17_.toInt ≤ 26) → (pl.toInt + 2 + yq13_.toInt ≤ yq16_.toInt) → (yq13_.toInt ≤ nu.toInt) → (Tk ft sm yq15_ yq16_ yq14_) → (Va ft yq15_ yq16_ yq14_ yq17_) → (nmF (nC ft) sm.toInt.toNat nu.toInt.toNat xq9_.toInt.toNat = nmF (nC ft) sm.toInt.toNat (nu.toInt.toNat - yq13_.toInt.toNat) yq16_.toInt.toNat) → Mq18_ h = some (.inr (8, [.ref al, .ref mt, .ref ii, .int ta, .int fpm, .ref pa, .int sm, .int yq14_, .int yq15_, .int yq16_, .int ln, .long yq17_, .int wr, .ref li])) → Mq18_ mt = some (.inl (kA 0, 600, .inl ft)) → (∀ q, FrK T q → q ≠ h → Mq18_ q = M q) → mS D kA Mq18_ T (mA M T sz) s.heap Hq_ lcq_ → lv_has ls 7 [(6, .int yq13_), (5, .int zq12_), (0, .ref h), (1, .long lw), (3, .int nu), (4, .int mo_)] → W p l e (rmL 3 0 0) s m ([.ref h, .long lw, .int nu, .int mo_] : List Value).toArray below meth c Hq_ lcq_ 0 0 (MQ below (va_Qi (fun r u => ∃ va2 : Int64, ∃ nx2 : Int32, ((0 : Int) ≤ nx2.toInt ∧ nx2.toInt ≤ 600) ∧ ∃ tk2 : Int32, ((0 : Int) ≤ tk2.toInt ∧ tk2.toInt ≤ 4) ∧ ∃ pl2 : Int32, ((0 : Int) ≤ pl2.toInt ∧ pl2.toInt ≤ 600) ∧ ∃ wr2 : Int32, ((0 : Int) ≤ wr2.toInt ∧ wr2.toInt ≤ 1) ∧ ∃ fpm2 : Int32, ((-2147483648 : Int) ≤ fpm2.toInt ∧ fpm2.toInt ≤ 2147483647) ∧ ((¬ wIs (nC ft) sm.toInt.toNat pl.toInt.toNat i ∧ r = 0 ∧ u.1 h = some (.inr (8, [.ref al, .ref mt, .ref ii, .int ta, .int fpm, .ref pa, .int sm, .int nx, .int tk, .int pl, .int ln, .long va, .int wr, .ref li]))) ∨ ((wIs (nC ft) sm.toInt.toNat pl.toInt.toNat i ∧ pl.toInt ≤ pl2.toInt ∧ pl2.toInt ≤ nx2.toInt ∧ nx2.toInt ≤ sm.toInt ∧ (tk2.toInt = 0 ∨ pl2.toInt < nx2.toInt) ∧ (tk2.toInt ≠ 1 ∨ nx2.toInt ≠ pl2.toInt + 1 ∨ va2.toInt ≤ 26) ∧ (wr2.toInt = 1 ∨ pl.toInt + 3 ≤ pl2.toInt) ∧ Tk ft sm tk2 pl2 nx2 ∧ (Va ft tk2 pl2 nx2 va2) ∧ (Rs (opL (nC ft) sm.toInt.toNat (1 ≤ mo_.toInt) (2 ≤ mo_.toInt) (nmF (nC ft) sm.toInt.toNat nu.toInt.toNat (nxF (nC ft) sm.toInt.toNat pl.toInt.toNat))) wr2 fpm2 fpm pl2)) ∧ r = 1 ∧ u.1 h = some (.inr (8, [.ref al, .ref mt, .ref ii, .int ta, .int fpm2, .ref pa, .int sm, .int nx2, .int tk2, .int pl2, .int ln, .long va2, .int wr2, .ref li])))) ∧ u.2 = T ∧ (∀ q, FrK T q → q ≠ h → u.1 q = M q)) (mB D kA M T sz) (mA M T sz)) ([.ref h, .long lw, .int nu, .int mo_] : List Value).toArray s 0 0 (mA M T sz)) (F0 m 22 ls []) := by
      intro n
      induction n with
      | zero =>
        intro yq13_ yq14_ yq15_ yq16_ yq17_ Hq_ lcq_ Mq18_ ls hme l_yq13_ g_yq13_ l_yq14_ g_yq14_ l_yq15_ g_yq15_ l_yq16_ g_yq16_ hv0_yq13_ hv1_yq13_ hv2_yq13_ hv3_yq13_ hv4_yq13_ hv5_yq13_ hw0_yq13_ hw1_yq13_ hw2_yq13_ hc_h hc_mt hF hH hl
        exfalso; omega
      | succ n ih =>
        intro yq13_ yq14_ yq15_ yq16_ yq17_ Hq_ lcq_ Mq18_ ls hme l_yq13_ g_yq13_ l_yq14_ g_yq14_ l_yq15_ g_yq15_ l_yq16_ g_yq16_ hv0_yq13_ hv1_yq13_ hv2_yq13_ hv3_yq13_ hv4_yq13_ hv5_yq13_ hw0_yq13_ hw1_yq13_ hw2_yq13_ hc_h hc_mt hF hH hl
        refine lv_iload hx hb dX10_isLine_22 (lv_at hl 0 rfl) ?_
        refine lv_iload_n hx hb dX10_isLine_24 rfl (lv_at hl 4 rfl) ?_
        refine jic_ge (tgt := 83) hx hb dX10_isLine_25 (by decide) (fun cq19_ => ?_) (fun cq19_ => ?_)
        · skip
          have cq19_ : nu.toInt ≤ yq13_.toInt := cq19_
          have hE : nmF (nC ft) sm.toInt.toNat nu.toInt.toNat xq9_.toInt.toNat = (true, yq16_.toInt.toNat) := by rw [hw2_yq13_, show nu.toInt.toNat - yq13_.toInt.toNat = 0 by omega]; rfl
          refine lv_aload_n hx hb dX10_isLine_83 rfl (lv_at hl 2 rfl) ?_
          refine xg hC hK hH flX10_27 hc_h rfl dX10_isLine_84 ?_
          refine lv_iload hx hb dX10_isLine_87 (lv_at hl 1 rfl) ?_
          refine lv_bipush (v := 6) hx hb dX10_isLine_89 (by decide) ?_
          refine lv_iadd hx hb dX10_isLine_91 ?_
          refine lv_topi (fun zq20_ e_zq20_ => ?_)
          have h_zq20_ : zq20_.toInt = zq12_.toInt + 6 := by rw [e_zq20_, iAdd (by have := iRg zq12_; have : (6 : Int32).toInt = 6 := rfl; omega) (by have := iRg zq12_; have : (6 : Int32).toInt = 6 := rfl; omega)]; rfl
          refine lv_iload hx hb dX10_isLine_92 (lv_at hl 5 rfl) ?_
          refine jif_le (tgt := 111) hx hb dX10_isLine_94 (by decide) (fun cq21_ => ?_) (fun cq21_ => ?_)
          · skip
            have cq21_ : mo_.toInt ≤ 0 := cq21_
            refine lv_iconst (v := 0) hx hb dX10_isLine_111 (by decide) ?_
            refine tist (x := 0) hC hK hH ht_li rfl (iIn (by omega) (by omega)) (iRg _).1 (iRg _).2 dX10_isLine_112 (fun Hq_ lcq_ Mq22_ _ hfr hH => ?_)
            have hc_h : Mq22_ h = some (.inr (8, [.ref al, .ref mt, .ref ii, .int ta, .int fpm, .ref pa, .int sm, .int yq14_, .int yq15_, .int yq16_, .int ln, .long yq17_, .int wr, .ref li])) := (hfr h (neF (Or.inl hn_h) ht_li (by decide))).trans hc_h
            have hc_mt : Mq22_ mt = some (.inl (kA 0, 600, .inl ft)) := (hfr mt (neF (Or.inl hn_mt) ht_li (by decide))).trans hc_mt
            have hF : ∀ q, FrK T q → q ≠ h → Mq22_ q = M q := fun q hq h0 => (hfr q (neF hq ht_li (by decide))).trans (hF q hq h0)
            have hOa : opF (nC ft) sm.toInt.toNat (1 ≤ mo_.toInt) 19 yq16_.toInt.toNat = yq16_.toInt.toNat := opF_n (fun h9 => by have h8 := h9.1; omega)
            refine lv_aload_n hx hb dX10_isLine_113 rfl (lv_at hl 2 rfl) ?_
            refine xg hC hK hH flX10_27 hc_h rfl dX10_isLine_114 ?_
            refine lv_iload hx hb dX10_isLine_117 (lv_at hl 1 rfl) ?_
            refine lv_bipush (v := 7) hx hb dX10_isLine_119 (by decide) ?_
            refine lv_iadd hx hb dX10_isLine_121 ?_
            refine lv_topi (fun zq23_ e_zq23_ => ?_)
            have h_zq23_ : zq23_.toInt = zq12_.toInt + 7 := by rw [e_zq23_, iAdd (by have := iRg zq12_; have : (7 : Int32).toInt = 7 := rfl; omega) (by have := iRg zq12_; have : (7 : Int32).toInt = 7 := rfl; omega)]; rfl
            refine lv_iload hx hb dX10_isLine_122 (lv_at hl 5 rfl) ?_
            refine lv_iconst (v := 1) hx hb dX10_isLine_124 (by decide) ?_
            refine jic_le (tgt := 142) hx hb dX10_isLine_125 (by decide) (fun cq24_ => ?_) (fun cq24_ => absurd cq24_ (by have := iRg mo_; have : (1 : Int32).toInt = 1 := rfl; omega))
            have cq24_ : mo_.toInt ≤ 1 := cq24_
            refine lv_iconst (v := 0) hx hb dX10_isLine_142 (by decide) ?_
            refine tist (x := 0) hC hK hH ht_li rfl (iIn (by omega) (by omega)) (iRg _).1 (iRg _).2 dX10_isLine_143 (fun Hq_ lcq_ Mq25_ _ hfr hH => ?_)
            have hc_h : Mq25_ h = some (.inr (8, [.ref al, .ref mt, .ref ii, .int ta, .int fpm, .ref pa, .int sm, .int yq14_, .int yq15_, .int yq16_, .int ln, .long yq17_, .int wr, .ref li])) := (hfr h (neF (Or.inl hn_h) ht_li (by decide))).trans hc_h
            have hc_mt : Mq25_ mt = some (.inl (kA 0, 600, .inl ft)) := (hfr mt (neF (Or.inl hn_mt) ht_li (by decide))).trans hc_mt
            have hF : ∀ q, FrK T q → q ≠ h → Mq25_ q = M q := fun q hq h0 => (hfr q (neF hq ht_li (by decide))).trans (hF q hq h0)
            have hOb : opF (nC ft) sm.toInt.toNat (2 ≤ mo_.toInt) 20 yq16_.toInt.toNat = yq16_.toInt.toNat := opF_n (fun h9 => by have h8 := h9.1; omega)
            refine lv_iconst (v := 1) hx hb dX10_isLine_144 (by decide) ?_
            exact ret_z hC hr hlk hK hH (by first | exact Or.inl rfl | exact Or.inr rfl | assumption) (⟨yq17_, yq14_, ⟨by omega, by omega⟩, yq15_, ⟨by omega, by omega⟩, yq16_, ⟨by omega, by omega⟩, wr, ⟨by omega, by omega⟩, fpm, iRg _, Or.inr (⟨⟨cq5_.2.2.2.2.2.2.2.2.2, by omega, by omega, by omega, by omega, by omega, by omega, hw0_yq13_, hw1_yq13_, Or.inr ⟨by omega, by rw [hnq10_, hE, opL_t hOa hOb], by omega⟩⟩, rfl, hc_h⟩), rfl, hF⟩) (Nat.le_of_ble_eq_true rfl) (Nat.le_of_ble_eq_true rfl) dX10_isLine_145
          · skip
            have cq21_ : 0 < mo_.toInt := cq21_
            refine lv_aload_n hx hb dX10_isLine_97 rfl (lv_at hl 2 rfl) ?_
            refine lv_ldc2 (v := 209256620) hx hb hC.2.2.2.1 (hC.2.2.2.2 _ wkX10_251) dX10_isLine_98 ?_
            refine goI hK hH (runV (As := [.long 209256620]) (rest := [.int zq20_, .ref li]) hC hK hH (c_X10_hasWord (i := 19) hc_h hn_h hc_mt hn_mt ht_pa ht_li (by omega) (by omega) (by omega) (by omega) (by exact hw0_yq13_) (by exact hw1_yq13_) (by exact hnn) (by omega) (by decide) (by decide) (by decide)) mlX10_241 (rcvM hK hH hc_h rfl) ⟨⟨Nat.le_of_ble_eq_true rfl, Nat.le_of_ble_eq_true rfl⟩, Nat.le_of_ble_eq_true rfl, Nat.le_of_ble_eq_true rfl⟩ rfl hl.1 rfl (Nat.le_of_ble_eq_true rfl) dX10_isLine_101) (fun rq29_ Mq27_ Tq28_ Hq_ lcq_ hP hz hH => ?_)
            try dsimp only at hP
            obtain ⟨xq26_, xq32_, ⟨l_xq32_, g_xq32_⟩, xq33_, ⟨l_xq33_, g_xq33_⟩, xq34_, ⟨l_xq34_, g_xq34_⟩, (⟨cq30_, er_rq29_, hx_h⟩ | ⟨cq31_, er_rq29_, hx_h⟩), eT, hfr⟩ := hP
            · skip
              have eT := eT.symm; subst eT
              have er_rq29_ := er_rq29_.symm; subst er_rq29_
              have hc_h : Mq27_ h = some (.inr (8, [.ref al, .ref mt, .ref ii, .int ta, .int fpm, .ref pa, .int sm, .int xq32_, .int xq33_, .int xq34_, .int ln, .long xq26_, .int wr, .ref li])) := hx_h
              have hc_mt : Mq27_ mt = some (.inl (kA 0, 600, .inl ft)) := (hfr mt (Or.inl hn_mt) n_mt_h).trans hc_mt
              have hF : ∀ q, FrK T q → q ≠ h → Mq27_ q = M q := fun q hq h0 => (hfr q hq h0).trans (hF q hq h0)
              have cq30_ : wr.toInt = 0 ∧ yq16_.toInt + 2 ≤ xq34_.toInt ∧ xq34_.toInt ≤ xq32_.toInt ∧ xq32_.toInt ≤ sm.toInt ∧ (xq33_.toInt = 0 ∨ xq34_.toInt < xq32_.toInt) ∧ (xq33_.toInt ≠ 1 ∨ xq32_.toInt ≠ xq34_.toInt + 1 ∨ xq26_.toInt ≤ 26) ∧ Tk ft sm xq33_ xq34_ xq32_ ∧ xq34_.toInt = (nxF (nC ft) sm.toInt.toNat yq16_.toInt.toNat : Int) ∧ (Va ft xq33_ xq34_ xq32_ xq26_) ∧ wIs (nC ft) sm.toInt.toNat yq16_.toInt.toNat 19 := cq30_
              have hnq35_ : nxF (nC ft) sm.toInt.toNat yq16_.toInt.toNat = xq34_.toInt.toNat := by have h8 := cq30_.2.2.2.2.2.2.2.1; omega
              refine jif_eq (tgt := 111) hx hb dX10_isLine_104 (by decide) (fun cq36_ => absurd cq36_ (by decide)) (fun cq36_ => ?_)
              refine lv_iconst (v := 1) hx hb dX10_isLine_107 (by decide) ?_
              refine lv_goto (tgt := 112) hx hb dX10_isLine_108 (by decide) ?_
              refine tist (x := 1) hC hK hH ht_li rfl (iIn (by omega) (by omega)) (iRg _).1 (iRg _).2 dX10_isLine_112 (fun Hq_ lcq_ Mq37_ _ hfr hH => ?_)
              have hc_h : Mq37_ h = some (.inr (8, [.ref al, .ref mt, .ref ii, .int ta, .int fpm, .ref pa, .int sm, .int xq32_, .int xq33_, .int xq34_, .int ln, .long xq26_, .int wr, .ref li])) := (hfr h (neF (Or.inl hn_h) ht_li (by decide))).trans hc_h
              have hc_mt : Mq37_ mt = some (.inl (kA 0, 600, .inl ft)) := (hfr mt (neF (Or.inl hn_mt) ht_li (by decide))).trans hc_mt
              have hF : ∀ q, FrK T q → q ≠ h → Mq37_ q = M q := fun q hq h0 => (hfr q (neF hq ht_li (by decide))).trans (hF q hq h0)
              have hOa : opF (nC ft) sm.toInt.toNat (1 ≤ mo_.toInt) 19 yq16_.toInt.toNat = xq34_.toInt.toNat := (opF_y ⟨by omega, cq30_.2.2.2.2.2.2.2.2.2⟩).trans hnq35_
              refine lv_aload_n hx hb dX10_isLine_113 rfl (lv_at hl 2 rfl) ?_
              refine xg hC hK hH flX10_27 hc_h rfl dX10_isLine_114 ?_
              refine lv_iload hx hb dX10_isLine_117 (lv_at hl 1 rfl) ?_
              refine lv_bipush (v := 7) hx hb dX10_isLine_119 (by decide) ?_
              refine lv_iadd hx hb dX10_isLine_121 ?_
              refine lv_topi (fun zq38_ e_zq38_ => ?_)
              have h_zq38_ : zq38_.toInt = zq12_.toInt + 7 := by rw [e_zq38_, iAdd (by have := iRg zq12_; have : (7 : Int32).toInt = 7 := rfl; omega) (by have := iRg zq12_; have : (7 : Int32).toInt = 7 := rfl; omega)]; rfl
              refine lv_iload hx hb dX10_isLine_122 (lv_at hl 5 rfl) ?_
              refine lv_iconst (v := 1) hx hb dX10_isLine_124 (by decide) ?_
              refine jic_le (tgt := 142) hx hb dX10_isLine_125 (by decide) (fun cq39_ => ?_) (fun cq39_ => ?_)
              · skip
                have cq39_ : mo_.toInt ≤ 1 := cq39_
                refine lv_iconst (v := 0) hx hb dX10_isLine_142 (by decide) ?_
                refine tist (x := 0) hC hK hH ht_li rfl (iIn (by omega) (by omega)) (iRg _).1 (iRg _).2 dX10_isLine_143 (fun Hq_ lcq_ Mq40_ _ hfr hH => ?_)
                have hc_h : Mq40_ h = some (.inr (8, [.ref al, .ref mt, .ref ii, .int ta, .int fpm, .ref pa, .int sm, .int xq32_, .int xq33_, .int xq34_, .int ln, .long xq26_, .int wr, .ref li])) := (hfr h (neF (Or.inl hn_h) ht_li (by decide))).trans hc_h
                have hc_mt : Mq40_ mt = some (.inl (kA 0, 600, .inl ft)) := (hfr mt (neF (Or.inl hn_mt) ht_li (by decide))).trans hc_mt
                have hF : ∀ q, FrK T q → q ≠ h → Mq40_ q = M q := fun q hq h0 => (hfr q (neF hq ht_li (by decide))).trans (hF q hq h0)
                have hOb : opF (nC ft) sm.toInt.toNat (2 ≤ mo_.toInt) 20 xq34_.toInt.toNat = xq34_.toInt.toNat := opF_n (fun h9 => by have h8 := h9.1; omega)
                refine lv_iconst (v := 1) hx hb dX10_isLine_144 (by decide) ?_
                exact ret_z hC hr hlk hK hH (by first | exact Or.inl rfl | exact Or.inr rfl | assumption) (⟨xq26_, xq32_, ⟨by omega, by omega⟩, xq33_, ⟨by omega, by omega⟩, xq34_, ⟨by omega, by omega⟩, wr, ⟨by omega, by omega⟩, fpm, iRg _, Or.inr (⟨⟨cq5_.2.2.2.2.2.2.2.2.2, by omega, by omega, by omega, by omega, by omega, by omega, cq30_.2.2.2.2.2.2.1, cq30_.2.2.2.2.2.2.2.2.1, Or.inr ⟨by omega, by rw [hnq10_, hE, opL_t hOa hOb], by omega⟩⟩, rfl, hc_h⟩), rfl, hF⟩) (Nat.le_of_ble_eq_true rfl) (Nat.le_of_ble_eq_true rfl) dX10_isLine_145
              · skip
                have cq39_ : 1 < mo_.toInt := cq39_
                refine lv_aload_n hx hb dX10_isLine_128 rfl (lv_at hl 2 rfl) ?_
                refine lv_ldc2 (v := 9050609216) hx hb hC.2.2.2.1 (hC.2.2.2.2 _ wkX10_253) dX10_isLine_129 ?_
                refine goI hK hH (runV (As := [.long 9050609216]) (rest := [.int zq38_, .ref li]) hC hK hH (c_X10_hasWord (i := 20) hc_h hn_h hc_mt hn_mt ht_pa ht_li (by omega) (by omega) (by omega) (by omega) (by exact cq30_.2.2.2.2.2.2.1) (by exact cq30_.2.2.2.2.2.2.2.2.1) (by exact hnn) (by omega) (by decide) (by decide) (by decide)) mlX10_241 (rcvM hK hH hc_h rfl) ⟨⟨Nat.le_of_ble_eq_true rfl, Nat.le_of_ble_eq_true rfl⟩, Nat.le_of_ble_eq_true rfl, Nat.le_of_ble_eq_true rfl⟩ rfl hl.1 rfl (Nat.le_of_ble_eq_true rfl) dX10_isLine_132) (fun rq44_ Mq42_ Tq43_ Hq_ lcq_ hP hz hH => ?_)
                try dsimp only at hP
                obtain ⟨xq41_, xq47_, ⟨l_xq47_, g_xq47_⟩, xq48_, ⟨l_xq48_, g_xq48_⟩, xq49_, ⟨l_xq49_, g_xq49_⟩, (⟨cq45_, er_rq44_, hx_h⟩ | ⟨cq46_, er_rq44_, hx_h⟩), eT, hfr⟩ := hP
                · skip
                  have eT := eT.symm; subst eT
                  have er_rq44_ := er_rq44_.symm; subst er_rq44_
                  have hc_h : Mq42_ h = some (.inr (8, [.ref al, .ref mt, .ref ii, .int ta, .int fpm, .ref pa, .int sm, .int xq47_, .int xq48_, .int xq49_, .int ln, .long xq41_, .int wr, .ref li])) := hx_h
                  have hc_mt : Mq42_ mt = some (.inl (kA 0, 600, .inl ft)) := (hfr mt (Or.inl hn_mt) n_mt_h).trans hc_mt
                  have hF : ∀ q, FrK T q → q ≠ h → Mq42_ q = M q := fun q hq h0 => (hfr q hq h0).trans (hF q hq h0)
                  have cq45_ : wr.toInt = 0 ∧ xq34_.toInt + 2 ≤ xq49_.toInt ∧ xq49_.toInt ≤ xq47_.toInt ∧ xq47_.toInt ≤ sm.toInt ∧ (xq48_.toInt = 0 ∨ xq49_.toInt < xq47_.toInt) ∧ (xq48_.toInt ≠ 1 ∨ xq47_.toInt ≠ xq49_.toInt + 1 ∨ xq41_.toInt ≤ 26) ∧ Tk ft sm xq48_ xq49_ xq47_ ∧ xq49_.toInt = (nxF (nC ft) sm.toInt.toNat xq34_.toInt.toNat : Int) ∧ (Va ft xq48_ xq49_ xq47_ xq41_) ∧ wIs (nC ft) sm.toInt.toNat xq34_.toInt.toNat 20 := cq45_
                  have hnq50_ : nxF (nC ft) sm.toInt.toNat xq34_.toInt.toNat = xq49_.toInt.toNat := by have h8 := cq45_.2.2.2.2.2.2.2.1; omega
                  refine jif_eq (tgt := 142) hx hb dX10_isLine_135 (by decide) (fun cq51_ => absurd cq51_ (by decide)) (fun cq51_ => ?_)
                  refine lv_iconst (v := 1) hx hb dX10_isLine_138 (by decide) ?_
                  refine lv_goto (tgt := 143) hx hb dX10_isLine_139 (by decide) ?_
                  refine tist (x := 1) hC hK hH ht_li rfl (iIn (by omega) (by omega)) (iRg _).1 (iRg _).2 dX10_isLine_143 (fun Hq_ lcq_ Mq52_ _ hfr hH => ?_)
                  have hc_h : Mq52_ h = some (.inr (8, [.ref al, .ref mt, .ref ii, .int ta, .int fpm, .ref pa, .int sm, .int xq47_, .int xq48_, .int xq49_, .int ln, .long xq41_, .int wr, .ref li])) := (hfr h (neF (Or.inl hn_h) ht_li (by decide))).trans hc_h
                  have hc_mt : Mq52_ mt = some (.inl (kA 0, 600, .inl ft)) := (hfr mt (neF (Or.inl hn_mt) ht_li (by decide))).trans hc_mt
                  have hF : ∀ q, FrK T q → q ≠ h → Mq52_ q = M q := fun q hq h0 => (hfr q (neF hq ht_li (by decide))).trans (hF q hq h0)
                  have hOb : opF (nC ft) sm.toInt.toNat (2 ≤ mo_.toInt) 20 xq34_.toInt.toNat = xq49_.toInt.toNat := (opF_y ⟨by omega, cq45_.2.2.2.2.2.2.2.2.2⟩).trans hnq50_
                  refine lv_iconst (v := 1) hx hb dX10_isLine_144 (by decide) ?_
                  exact ret_z hC hr hlk hK hH (by first | exact Or.inl rfl | exact Or.inr rfl | assumption) (⟨xq41_, xq47_, ⟨by omega, by omega⟩, xq48_, ⟨by omega, by omega⟩, xq49_, ⟨by omega, by omega⟩, wr, ⟨by omega, by omega⟩, fpm, iRg _, Or.inr (⟨⟨cq5_.2.2.2.2.2.2.2.2.2, by omega, by omega, by omega, by omega, by omega, by omega, cq45_.2.2.2.2.2.2.1, cq45_.2.2.2.2.2.2.2.2.1, Or.inr ⟨by omega, by rw [hnq10_, hE, opL_t hOa hOb], by omega⟩⟩, rfl, hc_h⟩), rfl, hF⟩) (Nat.le_of_ble_eq_true rfl) (Nat.le_of_ble_eq_true rfl) dX10_isLine_145
                · skip
                  have eT := eT.symm; subst eT
                  have er_rq44_ := er_rq44_.symm; subst er_rq44_
                  have hc_h : Mq42_ h = some (.inr (8, [.ref al, .ref mt, .ref ii, .int ta, .int fpm, .ref pa, .int sm, .int xq32_, .int xq33_, .int xq34_, .int ln, .long xq26_, .int wr, .ref li])) := hx_h
                  have hc_mt : Mq42_ mt = some (.inl (kA 0, 600, .inl ft)) := (hfr mt (Or.inl hn_mt) n_mt_h).trans hc_mt
                  have hF : ∀ q, FrK T q → q ≠ h → Mq42_ q = M q := fun q hq h0 => (hfr q hq h0).trans (hF q hq h0)
                  have cq46_ : Ns wr (wIs (nC ft) sm.toInt.toNat xq34_.toInt.toNat 20) := cq46_
                  refine jif_eq (tgt := 142) hx hb dX10_isLine_135 (by decide) (fun cq53_ => ?_) (fun cq53_ => absurd cq53_ (by decide))
                  refine lv_iconst (v := 0) hx hb dX10_isLine_142 (by decide) ?_
                  refine tist (x := 0) hC hK hH ht_li rfl (iIn (by omega) (by omega)) (iRg _).1 (iRg _).2 dX10_isLine_143 (fun Hq_ lcq_ Mq54_ _ hfr hH => ?_)
                  have hc_h : Mq54_ h = some (.inr (8, [.ref al, .ref mt, .ref ii, .int ta, .int fpm, .ref pa, .int sm, .int xq32_, .int xq33_, .int xq34_, .int ln, .long xq26_, .int wr, .ref li])) := (hfr h (neF (Or.inl hn_h) ht_li (by decide))).trans hc_h
                  have hc_mt : Mq54_ mt = some (.inl (kA 0, 600, .inl ft)) := (hfr mt (neF (Or.inl hn_mt) ht_li (by decide))).trans hc_mt
                  have hF : ∀ q, FrK T q → q ≠ h → Mq54_ q = M q := fun q hq h0 => (hfr q (neF hq ht_li (by decide))).trans (hF q hq h0)
                  have hOb : opF (nC ft) sm.toInt.toNat (2 ≤ mo_.toInt) 20 xq34_.toInt.toNat = xq34_.toInt.toNat := opF_n (fun h9 => Or.elim cq46_ (fun h8 => by omega) (fun h8 => h8 h9.2))
                  refine lv_iconst (v := 1) hx hb dX10_isLine_144 (by decide) ?_
                  exact ret_z hC hr hlk hK hH (by first | exact Or.inl rfl | exact Or.inr rfl | assumption) (⟨xq26_, xq32_, ⟨by omega, by omega⟩, xq33_, ⟨by omega, by omega⟩, xq34_, ⟨by omega, by omega⟩, wr, ⟨by omega, by omega⟩, fpm, iRg _, Or.inr (⟨⟨cq5_.2.2.2.2.2.2.2.2.2, by omega, by omega, by omega, by omega, by omega, by omega, cq30_.2.2.2.2.2.2.1, cq30_.2.2.2.2.2.2.2.2.1, Or.inr ⟨by omega, by rw [hnq10_, hE, opL_t hOa hOb], by omega⟩⟩, rfl, hc_h⟩), rfl, hF⟩) (Nat.le_of_ble_eq_true rfl) (Nat.le_of_ble_eq_true rfl) dX10_isLine_145
            · skip
              have eT := eT.symm; subst eT
              have er_rq29_ := er_rq29_.symm; subst er_rq29_
              have hc_h : Mq27_ h = some (.inr (8, [.ref al, .ref mt, .ref ii, .int ta, .int fpm, .ref pa, .int sm, .int yq14_, .int yq15_, .int yq16_, .int ln, .long yq17_, .int wr, .ref li])) := hx_h
              have hc_mt : Mq27_ mt = some (.inl (kA 0, 600, .inl ft)) := (hfr mt (Or.inl hn_mt) n_mt_h).trans hc_mt
              have hF : ∀ q, FrK T q → q ≠ h → Mq27_ q = M q := fun q hq h0 => (hfr q hq h0).trans (hF q hq h0)
              have cq31_ : Ns wr (wIs (nC ft) sm.toInt.toNat yq16_.toInt.toNat 19) := cq31_
              refine jif_eq (tgt := 111) hx hb dX10_isLine_104 (by decide) (fun cq55_ => ?_) (fun cq55_ => absurd cq55_ (by decide))
              refine lv_iconst (v := 0) hx hb dX10_isLine_111 (by decide) ?_
              refine tist (x := 0) hC hK hH ht_li rfl (iIn (by omega) (by omega)) (iRg _).1 (iRg _).2 dX10_isLine_112 (fun Hq_ lcq_ Mq56_ _ hfr hH => ?_)
              have hc_h : Mq56_ h = some (.inr (8, [.ref al, .ref mt, .ref ii, .int ta, .int fpm, .ref pa, .int sm, .int yq14_, .int yq15_, .int yq16_, .int ln, .long yq17_, .int wr, .ref li])) := (hfr h (neF (Or.inl hn_h) ht_li (by decide))).trans hc_h
              have hc_mt : Mq56_ mt = some (.inl (kA 0, 600, .inl ft)) := (hfr mt (neF (Or.inl hn_mt) ht_li (by decide))).trans hc_mt
              have hF : ∀ q, FrK T q → q ≠ h → Mq56_ q = M q := fun q hq h0 => (hfr q (neF hq ht_li (by decide))).trans (hF q hq h0)
              have hOa : opF (nC ft) sm.toInt.toNat (1 ≤ mo_.toInt) 19 yq16_.toInt.toNat = yq16_.toInt.toNat := opF_n (fun h9 => Or.elim cq31_ (fun h8 => by omega) (fun h8 => h8 h9.2))
              refine lv_aload_n hx hb dX10_isLine_113 rfl (lv_at hl 2 rfl) ?_
              refine xg hC hK hH flX10_27 hc_h rfl dX10_isLine_114 ?_
              refine lv_iload hx hb dX10_isLine_117 (lv_at hl 1 rfl) ?_
              refine lv_bipush (v := 7) hx hb dX10_isLine_119 (by decide) ?_
              refine lv_iadd hx hb dX10_isLine_121 ?_
              refine lv_topi (fun zq57_ e_zq57_ => ?_)
              have h_zq57_ : zq57_.toInt = zq12_.toInt + 7 := by rw [e_zq57_, iAdd (by have := iRg zq12_; have : (7 : Int32).toInt = 7 := rfl; omega) (by have := iRg zq12_; have : (7 : Int32).toInt = 7 := rfl; omega)]; rfl
              refine lv_iload hx hb dX10_isLine_122 (lv_at hl 5 rfl) ?_
              refine lv_iconst (v := 1) hx hb dX10_isLine_124 (by decide) ?_
              refine jic_le (tgt := 142) hx hb dX10_isLine_125 (by decide) (fun cq58_ => ?_) (fun cq58_ => ?_)
              · skip
                have cq58_ : mo_.toInt ≤ 1 := cq58_
                refine lv_iconst (v := 0) hx hb dX10_isLine_142 (by decide) ?_
                refine tist (x := 0) hC hK hH ht_li rfl (iIn (by omega) (by omega)) (iRg _).1 (iRg _).2 dX10_isLine_143 (fun Hq_ lcq_ Mq59_ _ hfr hH => ?_)
                have hc_h : Mq59_ h = some (.inr (8, [.ref al, .ref mt, .ref ii, .int ta, .int fpm, .ref pa, .int sm, .int yq14_, .int yq15_, .int yq16_, .int ln, .long yq17_, .int wr, .ref li])) := (hfr h (neF (Or.inl hn_h) ht_li (by decide))).trans hc_h
                have hc_mt : Mq59_ mt = some (.inl (kA 0, 600, .inl ft)) := (hfr mt (neF (Or.inl hn_mt) ht_li (by decide))).trans hc_mt
                have hF : ∀ q, FrK T q → q ≠ h → Mq59_ q = M q := fun q hq h0 => (hfr q (neF hq ht_li (by decide))).trans (hF q hq h0)
                have hOb : opF (nC ft) sm.toInt.toNat (2 ≤ mo_.toInt) 20 yq16_.toInt.toNat = yq16_.toInt.toNat := opF_n (fun h9 => by have h8 := h9.1; omega)
                refine lv_iconst (v := 1) hx hb dX10_isLine_144 (by decide) ?_
                exact ret_z hC hr hlk hK hH (by first | exact Or.inl rfl | exact Or.inr rfl | assumption) (⟨yq17_, yq14_, ⟨by omega, by omega⟩, yq15_, ⟨by omega, by omega⟩, yq16_, ⟨by omega, by omega⟩, wr, ⟨by omega, by omega⟩, fpm, iRg _, Or.inr (⟨⟨cq5_.2.2.2.2.2.2.2.2.2, by omega, by omega, by omega, by omega, by omega, by omega, hw0_yq13_, hw1_yq13_, Or.inr ⟨by omega, by rw [hnq10_, hE, opL_t hOa hOb], by omega⟩⟩, rfl, hc_h⟩), rfl, hF⟩) (Nat.le_of_ble_eq_true rfl) (Nat.le_of_ble_eq_true rfl) dX10_isLine_145
              · skip
                have cq58_ : 1 < mo_.toInt := cq58_
                refine lv_aload_n hx hb dX10_isLine_128 rfl (lv_at hl 2 rfl) ?_
                refine lv_ldc2 (v := 9050609216) hx hb hC.2.2.2.1 (hC.2.2.2.2 _ wkX10_253) dX10_isLine_129 ?_
                refine goI hK hH (runV (As := [.long 9050609216]) (rest := [.int zq57_, .ref li]) hC hK hH (c_X10_hasWord (i := 20) hc_h hn_h hc_mt hn_mt ht_pa ht_li (by omega) (by omega) (by omega) (by omega) (by exact hw0_yq13_) (by exact hw1_yq13_) (by exact hnn) (by omega) (by decide) (by decide) (by decide)) mlX10_241 (rcvM hK hH hc_h rfl) ⟨⟨Nat.le_of_ble_eq_true rfl, Nat.le_of_ble_eq_true rfl⟩, Nat.le_of_ble_eq_true rfl, Nat.le_of_ble_eq_true rfl⟩ rfl hl.1 rfl (Nat.le_of_ble_eq_true rfl) dX10_isLine_132) (fun rq63_ Mq61_ Tq62_ Hq_ lcq_ hP hz hH => ?_)
                try dsimp only at hP
                obtain ⟨xq60_, xq66_, ⟨l_xq66_, g_xq66_⟩, xq67_, ⟨l_xq67_, g_xq67_⟩, xq68_, ⟨l_xq68_, g_xq68_⟩, (⟨cq64_, er_rq63_, hx_h⟩ | ⟨cq65_, er_rq63_, hx_h⟩), eT, hfr⟩ := hP
                · skip
                  have eT := eT.symm; subst eT
                  have er_rq63_ := er_rq63_.symm; subst er_rq63_
                  have hc_h : Mq61_ h = some (.inr (8, [.ref al, .ref mt, .ref ii, .int ta, .int fpm, .ref pa, .int sm, .int xq66_, .int xq67_, .int xq68_, .int ln, .long xq60_, .int wr, .ref li])) := hx_h
                  have hc_mt : Mq61_ mt = some (.inl (kA 0, 600, .inl ft)) := (hfr mt (Or.inl hn_mt) n_mt_h).trans hc_mt
                  have hF : ∀ q, FrK T q → q ≠ h → Mq61_ q = M q := fun q hq h0 => (hfr q hq h0).trans (hF q hq h0)
                  have cq64_ : wr.toInt = 0 ∧ yq16_.toInt + 2 ≤ xq68_.toInt ∧ xq68_.toInt ≤ xq66_.toInt ∧ xq66_.toInt ≤ sm.toInt ∧ (xq67_.toInt = 0 ∨ xq68_.toInt < xq66_.toInt) ∧ (xq67_.toInt ≠ 1 ∨ xq66_.toInt ≠ xq68_.toInt + 1 ∨ xq60_.toInt ≤ 26) ∧ Tk ft sm xq67_ xq68_ xq66_ ∧ xq68_.toInt = (nxF (nC ft) sm.toInt.toNat yq16_.toInt.toNat : Int) ∧ (Va ft xq67_ xq68_ xq66_ xq60_) ∧ wIs (nC ft) sm.toInt.toNat yq16_.toInt.toNat 20 := cq64_
                  have hnq69_ : nxF (nC ft) sm.toInt.toNat yq16_.toInt.toNat = xq68_.toInt.toNat := by have h8 := cq64_.2.2.2.2.2.2.2.1; omega
                  refine jif_eq (tgt := 142) hx hb dX10_isLine_135 (by decide) (fun cq70_ => absurd cq70_ (by decide)) (fun cq70_ => ?_)
                  refine lv_iconst (v := 1) hx hb dX10_isLine_138 (by decide) ?_
                  refine lv_goto (tgt := 143) hx hb dX10_isLine_139 (by decide) ?_
                  refine tist (x := 1) hC hK hH ht_li rfl (iIn (by omega) (by omega)) (iRg _).1 (iRg _).2 dX10_isLine_143 (fun Hq_ lcq_ Mq71_ _ hfr hH => ?_)
                  have hc_h : Mq71_ h = some (.inr (8, [.ref al, .ref mt, .ref ii, .int ta, .int fpm, .ref pa, .int sm, .int xq66_, .int xq67_, .int xq68_, .int ln, .long xq60_, .int wr, .ref li])) := (hfr h (neF (Or.inl hn_h) ht_li (by decide))).trans hc_h
                  have hc_mt : Mq71_ mt = some (.inl (kA 0, 600, .inl ft)) := (hfr mt (neF (Or.inl hn_mt) ht_li (by decide))).trans hc_mt
                  have hF : ∀ q, FrK T q → q ≠ h → Mq71_ q = M q := fun q hq h0 => (hfr q (neF hq ht_li (by decide))).trans (hF q hq h0)
                  have hOb : opF (nC ft) sm.toInt.toNat (2 ≤ mo_.toInt) 20 yq16_.toInt.toNat = xq68_.toInt.toNat := (opF_y ⟨by omega, cq64_.2.2.2.2.2.2.2.2.2⟩).trans hnq69_
                  refine lv_iconst (v := 1) hx hb dX10_isLine_144 (by decide) ?_
                  exact ret_z hC hr hlk hK hH (by first | exact Or.inl rfl | exact Or.inr rfl | assumption) (⟨xq60_, xq66_, ⟨by omega, by omega⟩, xq67_, ⟨by omega, by omega⟩, xq68_, ⟨by omega, by omega⟩, wr, ⟨by omega, by omega⟩, fpm, iRg _, Or.inr (⟨⟨cq5_.2.2.2.2.2.2.2.2.2, by omega, by omega, by omega, by omega, by omega, by omega, cq64_.2.2.2.2.2.2.1, cq64_.2.2.2.2.2.2.2.2.1, Or.inr ⟨by omega, by rw [hnq10_, hE, opL_t hOa hOb], by omega⟩⟩, rfl, hc_h⟩), rfl, hF⟩) (Nat.le_of_ble_eq_true rfl) (Nat.le_of_ble_eq_true rfl) dX10_isLine_145
                · skip
                  have eT := eT.symm; subst eT
                  have er_rq63_ := er_rq63_.symm; subst er_rq63_
                  have hc_h : Mq61_ h = some (.inr (8, [.ref al, .ref mt, .ref ii, .int ta, .int fpm, .ref pa, .int sm, .int yq14_, .int yq15_, .int yq16_, .int ln, .long yq17_, .int wr, .ref li])) := hx_h
                  have hc_mt : Mq61_ mt = some (.inl (kA 0, 600, .inl ft)) := (hfr mt (Or.inl hn_mt) n_mt_h).trans hc_mt
                  have hF : ∀ q, FrK T q → q ≠ h → Mq61_ q = M q := fun q hq h0 => (hfr q hq h0).trans (hF q hq h0)
                  have cq65_ : Ns wr (wIs (nC ft) sm.toInt.toNat yq16_.toInt.toNat 20) := cq65_
                  refine jif_eq (tgt := 142) hx hb dX10_isLine_135 (by decide) (fun cq72_ => ?_) (fun cq72_ => absurd cq72_ (by decide))
                  refine lv_iconst (v := 0) hx hb dX10_isLine_142 (by decide) ?_
                  refine tist (x := 0) hC hK hH ht_li rfl (iIn (by omega) (by omega)) (iRg _).1 (iRg _).2 dX10_isLine_143 (fun Hq_ lcq_ Mq73_ _ hfr hH => ?_)
                  have hc_h : Mq73_ h = some (.inr (8, [.ref al, .ref mt, .ref ii, .int ta, .int fpm, .ref pa, .int sm, .int yq14_, .int yq15_, .int yq16_, .int ln, .long yq17_, .int wr, .ref li])) := (hfr h (neF (Or.inl hn_h) ht_li (by decide))).trans hc_h
                  have hc_mt : Mq73_ mt = some (.inl (kA 0, 600, .inl ft)) := (hfr mt (neF (Or.inl hn_mt) ht_li (by decide))).trans hc_mt
                  have hF : ∀ q, FrK T q → q ≠ h → Mq73_ q = M q := fun q hq h0 => (hfr q (neF hq ht_li (by decide))).trans (hF q hq h0)
                  have hOb : opF (nC ft) sm.toInt.toNat (2 ≤ mo_.toInt) 20 yq16_.toInt.toNat = yq16_.toInt.toNat := opF_n (fun h9 => Or.elim cq65_ (fun h8 => by omega) (fun h8 => h8 h9.2))
                  refine lv_iconst (v := 1) hx hb dX10_isLine_144 (by decide) ?_
                  exact ret_z hC hr hlk hK hH (by first | exact Or.inl rfl | exact Or.inr rfl | assumption) (⟨yq17_, yq14_, ⟨by omega, by omega⟩, yq15_, ⟨by omega, by omega⟩, yq16_, ⟨by omega, by omega⟩, wr, ⟨by omega, by omega⟩, fpm, iRg _, Or.inr (⟨⟨cq5_.2.2.2.2.2.2.2.2.2, by omega, by omega, by omega, by omega, by omega, by omega, hw0_yq13_, hw1_yq13_, Or.inr ⟨by omega, by rw [hnq10_, hE, opL_t hOa hOb], by omega⟩⟩, rfl, hc_h⟩), rfl, hF⟩) (Nat.le_of_ble_eq_true rfl) (Nat.le_of_ble_eq_true rfl) dX10_isLine_145
        · skip
          have cq19_ : yq13_.toInt < nu.toInt := cq19_
          refine lv_aload_n hx hb dX10_isLine_28 rfl (lv_at hl 2 rfl) ?_
          refine xg hC hK hH flX10_234 hc_h rfl dX10_isLine_29 ?_
          refine jif_ne (tgt := 47) hx hb dX10_isLine_32 (by decide) (fun cq74_ => absurd cq74_ (by have := iRg wr; have : (0 : Int32).toInt = 0 := rfl; omega)) (fun cq74_ => ?_)
          have cq74_ : wr.toInt = 0 := cq74_
          refine lv_aload_n hx hb dX10_isLine_35 rfl (lv_at hl 2 rfl) ?_
          refine xg hC hK hH flX10_217 hc_h rfl dX10_isLine_36 ?_
          refine lv_iconst (v := 2) hx hb dX10_isLine_39 (by decide) ?_
          refine jic_eq (tgt := 47) hx hb dX10_isLine_40 (by decide) (fun cq75_ => ?_) (fun cq75_ => ?_)
          · skip
            have cq75_ : yq15_.toInt = 2 := cq75_
            refine lv_aload_n hx hb dX10_isLine_47 rfl (lv_at hl 2 rfl) ?_
            refine xg hC hK hH flX10_234 hc_h rfl dX10_isLine_48 ?_
            refine jif_eq (tgt := 56) hx hb dX10_isLine_51 (by decide) (fun cq76_ => ?_) (fun cq76_ => absurd cq76_ (by have := iRg wr; have : (0 : Int32).toInt = 0 := rfl; omega))
            have cq76_ : wr.toInt = 0 := cq76_
            refine lv_aload_n hx hb dX10_isLine_56 rfl (lv_at hl 2 rfl) ?_
            refine xg hC hK hH flX10_27 hc_h rfl dX10_isLine_57 ?_
            refine lv_iload hx hb dX10_isLine_60 (lv_at hl 1 rfl) ?_
            refine lv_iconst (v := 1) hx hb dX10_isLine_62 (by decide) ?_
            refine lv_iadd hx hb dX10_isLine_63 ?_
            refine lv_topi (fun zq77_ e_zq77_ => ?_)
            have h_zq77_ : zq77_.toInt = zq12_.toInt + 1 := by rw [e_zq77_, iAdd (by have := iRg zq12_; have : (1 : Int32).toInt = 1 := rfl; omega) (by have := iRg zq12_; have : (1 : Int32).toInt = 1 := rfl; omega)]; rfl
            refine lv_iload hx hb dX10_isLine_64 (lv_at hl 0 rfl) ?_
            refine lv_iadd hx hb dX10_isLine_66 ?_
            refine lv_topi (fun zq78_ e_zq78_ => ?_)
            have h_zq78_ : zq78_.toInt = zq77_.toInt + yq13_.toInt := by rw [e_zq78_, iAdd (by have := iRg zq77_; have := iRg yq13_; omega) (by have := iRg zq77_; have := iRg yq13_; omega)]
            refine lv_aload_n hx hb dX10_isLine_67 rfl (lv_at hl 2 rfl) ?_
            refine xg hC hK hH flX10_213 hc_h rfl dX10_isLine_68 ?_
            refine lv_l2i hx hb dX10_isLine_71 rfl ?_
            refine lv_topi (fun zq79_ e_zq79_ => ?_)
            refine tist (x := zq79_) hC hK hH ht_li rfl (iIn (by omega) (by omega)) (iRg _).1 (iRg _).2 dX10_isLine_72 (fun Hq_ lcq_ Mq80_ _ hfr hH => ?_)
            have hc_h : Mq80_ h = some (.inr (8, [.ref al, .ref mt, .ref ii, .int ta, .int fpm, .ref pa, .int sm, .int yq14_, .int yq15_, .int yq16_, .int ln, .long yq17_, .int wr, .ref li])) := (hfr h (neF (Or.inl hn_h) ht_li (by decide))).trans hc_h
            have hc_mt : Mq80_ mt = some (.inl (kA 0, 600, .inl ft)) := (hfr mt (neF (Or.inl hn_mt) ht_li (by decide))).trans hc_mt
            have hF : ∀ q, FrK T q → q ≠ h → Mq80_ q = M q := fun q hq h0 => (hfr q (neF hq ht_li (by decide))).trans (hF q hq h0)
            refine lv_aload_n hx hb dX10_isLine_73 rfl (lv_at hl 2 rfl) ?_
            refine goV hK hH (runV (As := []) (rest := []) hC hK hH (c_X10_takes hc_h hn_h hc_mt hn_mt ht_pa ht_li (by omega) (by exact hnn) (by omega)) mlX10_238 (rcvM hK hH hc_h rfl) ⟨⟨Nat.le_of_ble_eq_true rfl, Nat.le_of_ble_eq_true rfl⟩, Nat.le_of_ble_eq_true rfl, Nat.le_of_ble_eq_true rfl⟩ rfl hl.1 rfl (Nat.le_of_ble_eq_true rfl) dX10_isLine_74) (fun Mq82_ Tq83_ Hq_ lcq_ hP hz hH => ?_)
            try dsimp only at hP
            obtain ⟨xq81_, xq86_, ⟨l_xq86_, g_xq86_⟩, xq87_, ⟨l_xq87_, g_xq87_⟩, xq88_, ⟨l_xq88_, g_xq88_⟩, (⟨cq85_, hx_h⟩), eT, hfr⟩ := hP
            have eT := eT.symm; subst eT
            have hc_h : Mq82_ h = some (.inr (8, [.ref al, .ref mt, .ref ii, .int ta, .int fpm, .ref pa, .int sm, .int xq86_, .int xq87_, .int xq88_, .int ln, .long xq81_, .int wr, .ref li])) := hx_h
            have hc_mt : Mq82_ mt = some (.inl (kA 0, 600, .inl ft)) := (hfr mt (Or.inl hn_mt) n_mt_h).trans hc_mt
            have hF : ∀ q, FrK T q → q ≠ h → Mq82_ q = M q := fun q hq h0 => (hfr q hq h0).trans (hF q hq h0)
            have cq85_ : yq14_.toInt ≤ xq88_.toInt ∧ xq88_.toInt ≤ xq86_.toInt ∧ xq86_.toInt ≤ sm.toInt ∧ (xq87_.toInt = 0 ∨ xq88_.toInt < xq86_.toInt) ∧ (xq87_.toInt ≠ 1 ∨ xq86_.toInt ≠ xq88_.toInt + 1 ∨ xq81_.toInt ≤ 26) ∧ Tk ft sm xq87_ xq88_ xq86_ ∧ xq88_.toInt = (scE pSp (nC ft) sm.toInt.toNat yq14_.toInt.toNat : Int) ∧ (Va ft xq87_ xq88_ xq86_ xq81_) := cq85_
            have hnq89_ : nxF (nC ft) sm.toInt.toNat yq16_.toInt.toNat = xq88_.toInt.toNat := by have h8 := cq85_.2.2.2.2.2.2.1; rw [(hw0_yq13_).nx] at h8; omega
            obtain ⟨zq90_, e_zq90_⟩ : ∃ y : Int32, y = yq13_ + 1 := ⟨_, rfl⟩
            refine lv_iinc (v := zq90_) (lv' := [(6, .int zq90_), (5, .int zq12_), (0, .ref h), (1, .long lw), (3, .int nu), (4, .int mo_)]) hx hb dX10_isLine_77 hl (k := 0) rfl (by rw [e_zq90_]; rfl) (by decide) rfl (fun ls hl => ?_)
            have h_zq90_ : zq90_.toInt = yq13_.toInt + 1 := by rw [e_zq90_, iAdd (by have : (1 : Int32).toInt = 1 := rfl; omega) (by have : (1 : Int32).toInt = 1 := rfl; omega)]; rfl
            refine lv_goto (tgt := 22) hx hb dX10_isLine_80 (by decide) ?_
            exact ih zq90_ xq86_ xq87_ xq88_ xq81_ _ _ _ ls (by have := iRg zq90_; have := iRg xq86_; have := iRg xq87_; have := iRg xq88_; omega) (by have := iRg zq90_; have := iRg xq86_; have := iRg xq87_; have := iRg xq88_; omega) (by have := iRg zq90_; have := iRg xq86_; have := iRg xq87_; have := iRg xq88_; omega) (by have := iRg zq90_; have := iRg xq86_; have := iRg xq87_; have := iRg xq88_; omega) (by have := iRg zq90_; have := iRg xq86_; have := iRg xq87_; have := iRg xq88_; omega) (by have := iRg zq90_; have := iRg xq86_; have := iRg xq87_; have := iRg xq88_; omega) (by have := iRg zq90_; have := iRg xq86_; have := iRg xq87_; have := iRg xq88_; omega) (by have := iRg zq90_; have := iRg xq86_; have := iRg xq87_; have := iRg xq88_; omega) (by have := iRg zq90_; have := iRg xq86_; have := iRg xq87_; have := iRg xq88_; omega) (by have := iRg zq90_; have := iRg xq86_; have := iRg xq87_; have := iRg xq88_; omega) (by have := iRg zq90_; have := iRg xq86_; have := iRg xq87_; have := iRg xq88_; omega) (by have := iRg zq90_; have := iRg xq86_; have := iRg xq87_; have := iRg xq88_; omega) (by have := iRg zq90_; have := iRg xq86_; have := iRg xq87_; have := iRg xq88_; omega) (by have := iRg zq90_; have := iRg xq86_; have := iRg xq87_; have := iRg xq88_; omega) (by have := iRg zq90_; have := iRg xq86_; have := iRg xq87_; have := iRg xq88_; omega) (cq85_.2.2.2.2.2.1) (cq85_.2.2.2.2.2.2.2) (by rw [hw2_yq13_, show nu.toInt.toNat - yq13_.toInt.toNat = (nu.toInt.toNat - zq90_.toInt.toNat) + 1 by omega, nmS (by have := hw0_yq13_.ki; omega), hnq89_]) hc_h hc_mt hF hH (lv_sub hl [0, 1, 2, 3, 4, 5] rfl)
          · skip
            have cq75_ : yq15_.toInt ≠ 2 := cq75_
            refine lv_aload_n hx hb dX10_isLine_43 rfl (lv_at hl 2 rfl) ?_
            refine goV hK hH (runV (As := []) (rest := []) hC hK hH (c_X10_fails hc_h hn_h ht_pa ht_li (by omega)) mlX10_248 (rcvM hK hH hc_h rfl) ⟨⟨Nat.le_of_ble_eq_true rfl, Nat.le_of_ble_eq_true rfl⟩, Nat.le_of_ble_eq_true rfl, Nat.le_of_ble_eq_true rfl⟩ rfl hl.1 rfl (Nat.le_of_ble_eq_true rfl) dX10_isLine_44) (fun Mq91_ Tq92_ Hq_ lcq_ hP hz hH => ?_)
            try dsimp only at hP
            obtain ⟨xq95_, ⟨l_xq95_, g_xq95_⟩, xq96_, ⟨l_xq96_, g_xq96_⟩, (⟨cq94_, hx_h⟩), eT, hfr⟩ := hP
            have eT := eT.symm; subst eT
            have hc_h : Mq91_ h = some (.inr (8, [.ref al, .ref mt, .ref ii, .int ta, .int xq96_, .ref pa, .int sm, .int yq14_, .int yq15_, .int yq16_, .int ln, .long yq17_, .int xq95_, .ref li])) := hx_h
            have hc_mt : Mq91_ mt = some (.inl (kA 0, 600, .inl ft)) := (hfr mt (Or.inl hn_mt) n_mt_h).trans hc_mt
            have hF : ∀ q, FrK T q → q ≠ h → Mq91_ q = M q := fun q hq h0 => (hfr q hq h0).trans (hF q hq h0)
            have cq94_ : xq95_.toInt = 1 ∧ ((wr.toInt = 1 ∧ xq96_.toInt = fpm.toInt) ∨ (wr.toInt = 0 ∧ xq96_.toInt = yq16_.toInt)) := cq94_
            refine lv_aload_n hx hb dX10_isLine_47 rfl (lv_at hl 2 rfl) ?_
            refine xg hC hK hH flX10_234 hc_h rfl dX10_isLine_48 ?_
            refine jif_eq (tgt := 56) hx hb dX10_isLine_51 (by decide) (fun cq97_ => absurd cq97_ (by have := iRg xq95_; have : (0 : Int32).toInt = 0 := rfl; omega)) (fun cq97_ => ?_)
            have cq97_ : xq95_.toInt ≠ 0 := cq97_
            refine lv_iconst (v := 1) hx hb dX10_isLine_54 (by decide) ?_
            exact ret_z hC hr hlk hK hH (by first | exact Or.inl rfl | exact Or.inr rfl | assumption) (⟨yq17_, yq14_, ⟨by omega, by omega⟩, yq15_, ⟨by omega, by omega⟩, yq16_, ⟨by omega, by omega⟩, xq95_, ⟨by omega, by omega⟩, xq96_, iRg _, Or.inr (⟨⟨cq5_.2.2.2.2.2.2.2.2.2, by omega, by omega, by omega, by omega, by omega, by omega, hw0_yq13_, hw1_yq13_, Or.inl ⟨by omega, by rw [hnq10_, hw2_yq13_, show nu.toInt.toNat - yq13_.toInt.toNat = (nu.toInt.toNat - yq13_.toInt.toNat - 1) + 1 by omega, nmN (by have := hw0_yq13_.ki; omega), opL_f], by omega⟩⟩, rfl, hc_h⟩), rfl, hF⟩) (Nat.le_of_ble_eq_true rfl) (Nat.le_of_ble_eq_true rfl) dX10_isLine_55
    exact loop (Int.toNat (nu.toInt - 0 + 1)) 0 xq7_ xq8_ xq9_ xq1_ _ _ _ ls (by have : (0 : Int32).toInt = 0 := rfl; have := iRg xq7_; have := iRg xq8_; have := iRg xq9_; omega) (by have : (0 : Int32).toInt = 0 := rfl; have := iRg xq7_; have := iRg xq8_; have := iRg xq9_; omega) (by have : (0 : Int32).toInt = 0 := rfl; have := iRg xq7_; have := iRg xq8_; have := iRg xq9_; omega) (by have : (0 : Int32).toInt = 0 := rfl; have := iRg xq7_; have := iRg xq8_; have := iRg xq9_; omega) (by have : (0 : Int32).toInt = 0 := rfl; have := iRg xq7_; have := iRg xq8_; have := iRg xq9_; omega) (by have : (0 : Int32).toInt = 0 := rfl; have := iRg xq7_; have := iRg xq8_; have := iRg xq9_; omega) (by have : (0 : Int32).toInt = 0 := rfl; have := iRg xq7_; have := iRg xq8_; have := iRg xq9_; omega) (by have : (0 : Int32).toInt = 0 := rfl; have := iRg xq7_; have := iRg xq8_; have := iRg xq9_; omega) (by have : (0 : Int32).toInt = 0 := rfl; have := iRg xq7_; have := iRg xq8_; have := iRg xq9_; omega) (by have : (0 : Int32).toInt = 0 := rfl; have := iRg xq7_; have := iRg xq8_; have := iRg xq9_; omega) (by have : (0 : Int32).toInt = 0 := rfl; have := iRg xq7_; have := iRg xq8_; have := iRg xq9_; omega) (by have : (0 : Int32).toInt = 0 := rfl; have := iRg xq7_; have := iRg xq8_; have := iRg xq9_; omega) (by have : (0 : Int32).toInt = 0 := rfl; have := iRg xq7_; have := iRg xq8_; have := iRg xq9_; omega) (by have : (0 : Int32).toInt = 0 := rfl; have := iRg xq7_; have := iRg xq8_; have := iRg xq9_; omega) (by have : (0 : Int32).toInt = 0 := rfl; have := iRg xq7_; have := iRg xq8_; have := iRg xq9_; omega) (cq5_.2.2.2.2.2.2.1) (cq5_.2.2.2.2.2.2.2.2.1) (by rw [show (0 : Int32).toInt.toNat = 0 from rfl, Nat.sub_zero]) hc_h hc_mt hF hH hl
  · skip
    have eT := eT.symm; subst eT
    have er_rq4_ := er_rq4_.symm; subst er_rq4_
    have hc_h : Mq2_ h = some (.inr (8, [.ref al, .ref mt, .ref ii, .int ta, .int fpm, .ref pa, .int sm, .int nx, .int tk, .int pl, .int ln, .long va, .int wr, .ref li])) := hx_h
    have hc_mt : Mq2_ mt = some (.inl (kA 0, 600, .inl ft)) := (hfr mt (Or.inl hn_mt) n_mt_h).trans hc_mt
    have hF : ∀ q, FrK T q → q ≠ h → Mq2_ q = M q := fun q hq h0 => (hfr q hq h0).trans (hF q hq h0)
    have cq6_ : Ns wr (wIs (nC ft) sm.toInt.toNat pl.toInt.toNat i) := cq6_
    refine jif_ne (tgt := 10) hx hb dX10_isLine_5 (by decide) (fun cq98_ => absurd cq98_ (by decide)) (fun cq98_ => ?_)
    refine lv_iconst (v := 0) hx hb dX10_isLine_8 (by decide) ?_
    exact ret_z hC hr hlk hK hH (by first | exact Or.inl rfl | exact Or.inr rfl | assumption) (⟨va, nx, ⟨by omega, by omega⟩, tk, ⟨by omega, by omega⟩, pl, ⟨by omega, by omega⟩, wr, ⟨by omega, by omega⟩, fpm, iRg _, Or.inl (⟨Or.resolve_left cq6_ (by omega), rfl, hc_h⟩), rfl, hF⟩) (Nat.le_of_ble_eq_true rfl) (Nat.le_of_ble_eq_true rfl) dX10_isLine_9
set_option maxHeartbeats 4000000 in
set_option maxRecDepth 100000 in
theorem c_X10_readsLine {z : zD} {l : Launch} {D : va_G} {kA : Nat → ClassId} {M : mM} {T : mT} {sz : Nat} {h al mt ii pa li : Nat} {ta fpm sm nx tk pl ln wr : Int32} {va : Int64} {ft : Nat → Int32} (hc_h : M h = some (.inr (8, [.ref al, .ref mt, .ref ii, .int ta, .int fpm, .ref pa, .int sm, .int nx, .int tk, .int pl, .int ln, .long va, .int wr, .ref li]))) (hn_h : T h = none) (hc_mt : M mt = some (.inl (kA 0, 600, .inl ft))) (hn_mt : T mt = none) (ht_pa : T pa = some 13) (ht_li : T li = some 14) (hsm : 0 ≤ sm.toInt ∧ sm.toInt ≤ 600) (hpl : 0 ≤ pl.toInt) (htk : 0 ≤ tk.toInt ∧ tk.toInt ≤ 4) (htok : pl.toInt ≤ nx.toInt ∧ nx.toInt ≤ sm.toInt ∧ (tk.toInt = 0 ∨ pl.toInt < nx.toInt) ∧ (tk.toInt ≠ 1 ∨ nx.toInt ≠ pl.toInt + 1 ∨ va.toInt ≤ 26)) (hTk : Tk ft sm tk pl nx) (hVa : Va ft tk pl nx va) (hnn : NN ft) (hln : 0 ≤ ln.toInt ∧ ln.toInt ≤ 150) (hw0 : wr.toInt = 0) : mCvB z l yX10_readsLine cX10_readsLine 2 4 0 0 D kA M T sz [.ref h] (fun u => ∃ va2 : Int64, ∃ nx2 : Int32, ((0 : Int) ≤ nx2.toInt ∧ nx2.toInt ≤ 600) ∧ ∃ tk2 : Int32, ((0 : Int) ≤ tk2.toInt ∧ tk2.toInt ≤ 4) ∧ ∃ pl2 : Int32, ((0 : Int) ≤ pl2.toInt ∧ pl2.toInt ≤ 600) ∧ ∃ wr2 : Int32, ((0 : Int) ≤ wr2.toInt ∧ wr2.toInt ≤ 1) ∧ ∃ fpm2 : Int32, ((-2147483648 : Int) ≤ fpm2.toInt ∧ fpm2.toInt ≤ 2147483647) ∧ ∃ ln2 : Int32, ((0 : Int) ≤ ln2.toInt ∧ ln2.toInt ≤ 151) ∧ ((pl.toInt ≤ pl2.toInt ∧ pl2.toInt ≤ nx2.toInt ∧ nx2.toInt ≤ sm.toInt ∧ (tk2.toInt = 0 ∨ pl2.toInt < nx2.toInt) ∧ (tk2.toInt ≠ 1 ∨ nx2.toInt ≠ pl2.toInt + 1 ∨ va2.toInt ≤ 26) ∧ ln2.toInt ≤ ln.toInt + 1 ∧ (wr2.toInt = 1 ∨ (pl.toInt + 4 ≤ pl2.toInt ∧ ln2.toInt = ln.toInt + 1)) ∧ Tk ft sm tk2 pl2 nx2 ∧ (Va ft tk2 pl2 nx2 va2) ∧ (Rs (lnF (nC ft) sm.toInt.toNat pl.toInt.toNat) wr2 fpm2 fpm pl2)) ∧ u.1 h = some (.inr (8, [.ref al, .ref mt, .ref ii, .int ta, .int fpm2, .ref pa, .int sm, .int nx2, .int tk2, .int pl2, .int ln2, .long va2, .int wr2, .ref li]))) ∧ u.2 = T ∧ (∀ q, FrK T q → q ≠ h → u.1 q = M q)) := by
  unfold mCvB
  refine start_WB (by decide) (Nat.le_of_ble_eq_true rfl) ?_
  intro p e s m below meth c ls hC hr hlk hnm hK hH hsz hZ hl
  have hx := hC.1
  have hb := hC.2.1
  have hl : lv_has ls 2 [(0, .ref h)] := hl
  have hF : ∀ q, FrK T q → q ≠ h → M q = M q := fun q _ _ => rfl
  have n_h_mt : h ≠ mt := neM hc_h hc_mt (by simp)
  have n_mt_h : mt ≠ h := neM hc_mt hc_h (by simp)
  refine lv_iconst (v := 0) hx hb dX10_readsLine_0 (by decide) ?_
  refine lv_istore_n (lv' := [(1, .int 0), (0, .ref h)]) hx hb dX10_readsLine_1 rfl hl (by decide) rfl (fun ls hl => ?_)
  have loop : ∀ (n : Nat) (yq1_ : Int32) (Hq_ : Heap) (lcq_ : List Loc) (Mq2_ : mM) (ls : Array Slot), 20 - yq1_.toInt ≤ (n : Int) → (0 : Int) ≤ yq1_.toInt → yq1_.toInt ≤ 19 → (vf (nC ft) sm.toInt.toNat pl.toInt.toNat (19 - yq1_.toInt.toNat) yq1_.toInt.toNat = vF (nC ft) sm.toInt.toNat pl.toInt.toNat) → Mq2_ h = some (.inr (8, [.ref al, .ref mt, .ref ii, .int ta, .int fpm, .ref pa, .int sm, .int nx, .int tk, .int pl, .int ln, .long va, .int wr, .ref li])) → Mq2_ mt = some (.inl (kA 0, 600, .inl ft)) → (∀ q, FrK T q → q ≠ h → Mq2_ q = M q) → mS D kA Mq2_ T (mA M T sz) s.heap Hq_ lcq_ → lv_has ls 2 [(1, .int yq1_), (0, .ref h)] → W p l e (rmL 4 0 0) s m ([.ref h] : List Value).toArray below meth c Hq_ lcq_ 0 0 (MQ below (va_Qv (fun u => ∃ va2 : Int64, ∃ nx2 : Int32, ((0 : Int) ≤ nx2.toInt ∧ nx2.toInt ≤ 600) ∧ ∃ tk2 : Int32, ((0 : Int) ≤ tk2.toInt ∧ tk2.toInt ≤ 4) ∧ ∃ pl2 : Int32, ((0 : Int) ≤ pl2.toInt ∧ pl2.toInt ≤ 600) ∧ ∃ wr2 : Int32, ((0 : Int) ≤ wr2.toInt ∧ wr2.toInt ≤ 1) ∧ ∃ fpm2 : Int32, ((-2147483648 : Int) ≤ fpm2.toInt ∧ fpm2.toInt ≤ 2147483647) ∧ ∃ ln2 : Int32, ((0 : Int) ≤ ln2.toInt ∧ ln2.toInt ≤ 151) ∧ ((pl.toInt ≤ pl2.toInt ∧ pl2.toInt ≤ nx2.toInt ∧ nx2.toInt ≤ sm.toInt ∧ (tk2.toInt = 0 ∨ pl2.toInt < nx2.toInt) ∧ (tk2.toInt ≠ 1 ∨ nx2.toInt ≠ pl2.toInt + 1 ∨ va2.toInt ≤ 26) ∧ ln2.toInt ≤ ln.toInt + 1 ∧ (wr2.toInt = 1 ∨ (pl.toInt + 4 ≤ pl2.toInt ∧ ln2.toInt = ln.toInt + 1)) ∧ Tk ft sm tk2 pl2 nx2 ∧ (Va ft tk2 pl2 nx2 va2) ∧ (Rs (lnF (nC ft) sm.toInt.toNat pl.toInt.toNat) wr2 fpm2 fpm pl2)) ∧ u.1 h = some (.inr (8, [.ref al, .ref mt, .ref ii, .int ta, .int fpm2, .ref pa, .int sm, .int nx2, .int tk2, .int pl2, .int ln2, .long va2, .int wr2, .ref li]))) ∧ u.2 = T ∧ (∀ q, FrK T q → q ≠ h → u.1 q = M q)) (mB D kA M T sz) (mA M T sz)) ([.ref h] : List Value).toArray s 0 0 (mA M T sz)) (F0 m 2 ls []) := by
    intro n
    induction n with
    | zero =>
      intro yq1_ Hq_ lcq_ Mq2_ ls hme l_yq1_ g_yq1_ hw0_yq1_ hc_h hc_mt hF hH hl
      exfalso; omega
    | succ n ih =>
      intro yq1_ Hq_ lcq_ Mq2_ ls hme l_yq1_ g_yq1_ hw0_yq1_ hc_h hc_mt hF hH hl
      refine lv_iload_n hx hb dX10_readsLine_2 rfl (lv_at hl 0 rfl) ?_
      refine lv_bipush (v := 19) hx hb dX10_readsLine_3 (by decide) ?_
      refine jic_ge (tgt := 111) hx hb dX10_readsLine_5 (by decide) (fun cq3_ => ?_) (fun cq3_ => ?_)
      · skip
        have cq3_ : 19 ≤ yq1_.toInt := cq3_
        refine lv_aload_n hx hb dX10_readsLine_111 rfl (lv_at hl 1 rfl) ?_
        refine goV hK hH (runV (As := []) (rest := []) hC hK hH (c_X10_fails hc_h hn_h ht_pa ht_li (by omega)) mlX10_248 (rcvM hK hH hc_h rfl) ⟨⟨Nat.le_of_ble_eq_true rfl, Nat.le_of_ble_eq_true rfl⟩, Nat.le_of_ble_eq_true rfl, Nat.le_of_ble_eq_true rfl⟩ rfl hl.1 rfl (Nat.le_of_ble_eq_true rfl) dX10_readsLine_112) (fun Mq4_ Tq5_ Hq_ lcq_ hP hz hH => ?_)
        try dsimp only at hP
        obtain ⟨xq8_, ⟨l_xq8_, g_xq8_⟩, xq9_, ⟨l_xq9_, g_xq9_⟩, (⟨cq7_, hx_h⟩), eT, hfr⟩ := hP
        have eT := eT.symm; subst eT
        have hc_h : Mq4_ h = some (.inr (8, [.ref al, .ref mt, .ref ii, .int ta, .int xq9_, .ref pa, .int sm, .int nx, .int tk, .int pl, .int ln, .long va, .int xq8_, .ref li])) := hx_h
        have hc_mt : Mq4_ mt = some (.inl (kA 0, 600, .inl ft)) := (hfr mt (Or.inl hn_mt) n_mt_h).trans hc_mt
        have hF : ∀ q, FrK T q → q ≠ h → Mq4_ q = M q := fun q hq h0 => (hfr q hq h0).trans (hF q hq h0)
        have cq7_ : xq8_.toInt = 1 ∧ ((wr.toInt = 1 ∧ xq9_.toInt = fpm.toInt) ∨ (wr.toInt = 0 ∧ xq9_.toInt = pl.toInt)) := cq7_
        exact ret_v hC hr hlk hK hH (⟨va, nx, ⟨by omega, by omega⟩, tk, ⟨by omega, by omega⟩, pl, ⟨by omega, by omega⟩, xq8_, ⟨by omega, by omega⟩, xq9_, iRg _, ln, ⟨by omega, by omega⟩, ⟨⟨by omega, by omega, by omega, by omega, by omega, by omega, by omega, hTk, hVa, Or.inl ⟨by omega, by rw [lnN (by rw [← hw0_yq1_, show 19 - yq1_.toInt.toNat = 0 by omega]; show yq1_.toInt.toNat = 19; omega)], by omega⟩⟩, hc_h⟩, rfl, hF⟩) (Nat.le_of_ble_eq_true rfl) (Nat.le_of_ble_eq_true rfl) dX10_readsLine_115
      · skip
        have cq3_ : yq1_.toInt < 19 := cq3_
        refine lv_aload_n hx hb dX10_readsLine_8 rfl (lv_at hl 1 rfl) ?_
        refine va_gets hx hb hZ.1.2.2.2.2.2.2.2.1.1 hH.2.1 hC.2.2.2.1 (hC.2.2.2.2 _ wsX10_255) (fun _ h => h) dX10_readsLine_9 ?_
        refine lv_iload_n hx hb dX10_readsLine_12 rfl (lv_at hl 0 rfl) ?_
        refine va_tl hx hb hZ.1.2.2.2.2.2.2.2.1.2 hH.2.1 (iIn (by omega) (by omega)) rfl dX10_readsLine_13 ?_
        refine lv_topl (fun xq10_ e_xq10_ => ?_)
        have w_xq10_ : (26 : Int) < xq10_.toInt := by rw [e_xq10_]; exact zWo_r (by have := iCl (x := yq1_) (by omega); omega)
        refine va_gets hx hb hZ.1.2.2.2.2.2.2.2.2.1 hH.2.1 hC.2.2.2.1 (hC.2.2.2.2 _ wsX10_259) (fun _ h => h) dX10_readsLine_14 ?_
        refine lv_iload_n hx hb dX10_readsLine_17 rfl (lv_at hl 0 rfl) ?_
        refine va_ti hx hb hZ.1.2.2.2.2.2.2.2.2.2 hH.2.1 (iIn (by omega) (by omega)) rfl dX10_readsLine_18 ?_
        refine lv_topi (fun xq11_ e_xq11_ => ?_)
        have l_xq11_ : 1 ≤ xq11_.toInt := by rw [e_xq11_]; exact (zNum_r (by have := iCl (x := yq1_) (by omega); omega)).1
        have g_xq11_ : xq11_.toInt ≤ 5 := by rw [e_xq11_]; exact (zNum_r (by have := iCl (x := yq1_) (by omega); omega)).2
        have Jq13_ : ∀ vq12_ : Int32, (0 : Int) ≤ vq12_.toInt → vq12_.toInt ≤ 2 → (vq12_.toInt = zMo yq1_.toInt.toNat) → W p l e (rmL 4 0 0) s m ([.ref h] : List Value).toArray below meth c Hq_ lcq_ 0 0 (MQ below (va_Qv (fun u => ∃ va2 : Int64, ∃ nx2 : Int32, ((0 : Int) ≤ nx2.toInt ∧ nx2.toInt ≤ 600) ∧ ∃ tk2 : Int32, ((0 : Int) ≤ tk2.toInt ∧ tk2.toInt ≤ 4) ∧ ∃ pl2 : Int32, ((0 : Int) ≤ pl2.toInt ∧ pl2.toInt ≤ 600) ∧ ∃ wr2 : Int32, ((0 : Int) ≤ wr2.toInt ∧ wr2.toInt ≤ 1) ∧ ∃ fpm2 : Int32, ((-2147483648 : Int) ≤ fpm2.toInt ∧ fpm2.toInt ≤ 2147483647) ∧ ∃ ln2 : Int32, ((0 : Int) ≤ ln2.toInt ∧ ln2.toInt ≤ 151) ∧ ((pl.toInt ≤ pl2.toInt ∧ pl2.toInt ≤ nx2.toInt ∧ nx2.toInt ≤ sm.toInt ∧ (tk2.toInt = 0 ∨ pl2.toInt < nx2.toInt) ∧ (tk2.toInt ≠ 1 ∨ nx2.toInt ≠ pl2.toInt + 1 ∨ va2.toInt ≤ 26) ∧ ln2.toInt ≤ ln.toInt + 1 ∧ (wr2.toInt = 1 ∨ (pl.toInt + 4 ≤ pl2.toInt ∧ ln2.toInt = ln.toInt + 1)) ∧ Tk ft sm tk2 pl2 nx2 ∧ (Va ft tk2 pl2 nx2 va2) ∧ (Rs (lnF (nC ft) sm.toInt.toNat pl.toInt.toNat) wr2 fpm2 fpm pl2)) ∧ u.1 h = some (.inr (8, [.ref al, .ref mt, .ref ii, .int ta, .int fpm2, .ref pa, .int sm, .int nx2, .int tk2, .int pl2, .int ln2, .long va2, .int wr2, .ref li]))) ∧ u.2 = T ∧ (∀ q, FrK T q → q ≠ h → u.1 q = M q)) (mB D kA M T sz) (mA M T sz)) ([.ref h] : List Value).toArray s 0 0 (mA M T sz)) (F0 m 45 ls [.int vq12_, .int xq11_, .long xq10_, .ref h]) := by
          intro vq12_ l_vq12_ g_vq12_ hJ_vq12_
          refine goI hK hH (runV (As := [.long xq10_, .int xq11_, .int vq12_]) (rest := []) hC hK hH (c_X10_isLine (i := (yq1_.toInt.toNat)) hc_h hn_h hc_mt hn_mt ht_pa ht_li (by omega) (by omega) (by omega) (by omega) (by exact hTk) (by exact hVa) (by exact hnn) (by omega) (by omega) (by omega) (by omega) (by omega) (by rw [e_xq10_]; exact zWo_v (i := yq1_.toInt.toNat) (by omega))) mlX10_262 (rcvM hK hH hc_h rfl) ⟨⟨Nat.le_of_ble_eq_true rfl, Nat.le_of_ble_eq_true rfl⟩, Nat.le_of_ble_eq_true rfl, Nat.le_of_ble_eq_true rfl⟩ rfl hl.1 rfl (Nat.le_of_ble_eq_true rfl) dX10_readsLine_45) (fun rq17_ Mq15_ Tq16_ Hq_ lcq_ hP hz hH => ?_)
          try dsimp only at hP
          obtain ⟨xq14_, xq20_, ⟨l_xq20_, g_xq20_⟩, xq21_, ⟨l_xq21_, g_xq21_⟩, xq22_, ⟨l_xq22_, g_xq22_⟩, xq23_, ⟨l_xq23_, g_xq23_⟩, xq24_, ⟨l_xq24_, g_xq24_⟩, (⟨cq18_, er_rq17_, hx_h⟩ | ⟨cq19_, er_rq17_, hx_h⟩), eT, hfr⟩ := hP
          · skip
            have eT := eT.symm; subst eT
            have er_rq17_ := er_rq17_.symm; subst er_rq17_
            have hc_h : Mq15_ h = some (.inr (8, [.ref al, .ref mt, .ref ii, .int ta, .int fpm, .ref pa, .int sm, .int nx, .int tk, .int pl, .int ln, .long va, .int wr, .ref li])) := hx_h
            have hc_mt : Mq15_ mt = some (.inl (kA 0, 600, .inl ft)) := (hfr mt (Or.inl hn_mt) n_mt_h).trans hc_mt
            have hF : ∀ q, FrK T q → q ≠ h → Mq15_ q = M q := fun q hq h0 => (hfr q hq h0).trans (hF q hq h0)
            have cq18_ : ¬ wIs (nC ft) sm.toInt.toNat pl.toInt.toNat (yq1_.toInt.toNat) := cq18_
            refine jif_ne (tgt := 54) hx hb dX10_readsLine_48 (by decide) (fun cq25_ => absurd cq25_ (by decide)) (fun cq25_ => ?_)
            refine lv_goto (tgt := 105) hx hb dX10_readsLine_51 (by decide) ?_
            obtain ⟨zq26_, e_zq26_⟩ : ∃ y : Int32, y = yq1_ + 1 := ⟨_, rfl⟩
            refine lv_iinc (v := zq26_) (lv' := [(1, .int zq26_), (0, .ref h)]) hx hb dX10_readsLine_105 hl (k := 0) rfl (by rw [e_zq26_]; rfl) (by decide) rfl (fun ls hl => ?_)
            have h_zq26_ : zq26_.toInt = yq1_.toInt + 1 := by rw [e_zq26_, iAdd (by have : (1 : Int32).toInt = 1 := rfl; omega) (by have : (1 : Int32).toInt = 1 := rfl; omega)]; rfl
            refine lv_goto (tgt := 2) hx hb dX10_readsLine_108 (by decide) ?_
            exact ih zq26_ _ _ _ ls (by have := iRg zq26_; omega) (by have := iRg zq26_; omega) (by have := iRg zq26_; omega) (by have h8 : zq26_.toInt.toNat = yq1_.toInt.toNat + 1 := (by omega); have h7 : 19 - yq1_.toInt.toNat = (19 - zq26_.toInt.toNat) + 1 := (by omega); rw [← hw0_yq1_, h7, vf_miss cq18_, h8]) hc_h hc_mt hF hH (lv_sub hl [0, 1] rfl)
          · skip
            have eT := eT.symm; subst eT
            have er_rq17_ := er_rq17_.symm; subst er_rq17_
            have hc_h : Mq15_ h = some (.inr (8, [.ref al, .ref mt, .ref ii, .int ta, .int xq24_, .ref pa, .int sm, .int xq20_, .int xq21_, .int xq22_, .int ln, .long xq14_, .int xq23_, .ref li])) := hx_h
            have hc_mt : Mq15_ mt = some (.inl (kA 0, 600, .inl ft)) := (hfr mt (Or.inl hn_mt) n_mt_h).trans hc_mt
            have hF : ∀ q, FrK T q → q ≠ h → Mq15_ q = M q := fun q hq h0 => (hfr q hq h0).trans (hF q hq h0)
            have cq19_ : wIs (nC ft) sm.toInt.toNat pl.toInt.toNat (yq1_.toInt.toNat) ∧ pl.toInt ≤ xq22_.toInt ∧ xq22_.toInt ≤ xq20_.toInt ∧ xq20_.toInt ≤ sm.toInt ∧ (xq21_.toInt = 0 ∨ xq22_.toInt < xq20_.toInt) ∧ (xq21_.toInt ≠ 1 ∨ xq20_.toInt ≠ xq22_.toInt + 1 ∨ xq14_.toInt ≤ 26) ∧ (xq23_.toInt = 1 ∨ pl.toInt + 3 ≤ xq22_.toInt) ∧ Tk ft sm xq21_ xq22_ xq20_ ∧ (Va ft xq21_ xq22_ xq20_ xq14_) ∧ (Rs (opL (nC ft) sm.toInt.toNat (1 ≤ vq12_.toInt) (2 ≤ vq12_.toInt) (nmF (nC ft) sm.toInt.toNat xq11_.toInt.toNat (nxF (nC ft) sm.toInt.toNat pl.toInt.toNat))) xq23_ xq24_ fpm xq22_) := cq19_
            have hvF : vF (nC ft) sm.toInt.toNat pl.toInt.toNat = yq1_.toInt.toNat := by rw [← hw0_yq1_, show 19 - yq1_.toInt.toNat = (18 - yq1_.toInt.toNat) + 1 by omega, vf_hit cq19_.1]
            have hL : lnF (nC ft) sm.toInt.toNat pl.toInt.toNat = enF (nC ft) sm.toInt.toNat yq1_.toInt.toNat (nmF (nC ft) sm.toInt.toNat (zNum yq1_.toInt.toNat).toInt.toNat (nxF (nC ft) sm.toInt.toNat pl.toInt.toNat)) := lnY hvF (by omega)
            have hR9 := cq19_.2.2.2.2.2.2.2.2.2
            rw [hJ_vq12_, zMo_n (by omega), zMo_w (by omega), show xq11_ = zNum yq1_.toInt.toNat from e_xq11_] at hR9
            refine jif_ne (tgt := 54) hx hb dX10_readsLine_48 (by decide) (fun cq27_ => ?_) (fun cq27_ => absurd cq27_ (by decide))
            refine lv_aload_n hx hb dX10_readsLine_54 rfl (lv_at hl 1 rfl) ?_
            refine xg hC hK hH flX10_27 hc_h rfl dX10_readsLine_55 ?_
            refine lv_bipush (v := 8) hx hb dX10_readsLine_58 (by decide) ?_
            refine lv_aload_n hx hb dX10_readsLine_60 rfl (lv_at hl 1 rfl) ?_
            refine xg hC hK hH flX10_245 hc_h rfl dX10_readsLine_61 ?_
            refine lv_imul hx hb dX10_readsLine_64 ?_
            refine lv_topi (fun zq28_ e_zq28_ => ?_)
            have h_zq28_ : zq28_.toInt = 8 * ln.toInt := by rw [e_zq28_, iMul (by show (-2147483648 : Int) ≤ 8 * ln.toInt; omega) (by show 8 * ln.toInt ≤ (2147483647 : Int); omega)]; rfl
            refine lv_iload_n hx hb dX10_readsLine_65 rfl (lv_at hl 0 rfl) ?_
            refine tist (x := yq1_) hC hK hH ht_li rfl (iIn (by omega) (by omega)) (iRg _).1 (iRg _).2 dX10_readsLine_66 (fun Hq_ lcq_ Mq29_ _ hfr hH => ?_)
            have hc_h : Mq29_ h = some (.inr (8, [.ref al, .ref mt, .ref ii, .int ta, .int xq24_, .ref pa, .int sm, .int xq20_, .int xq21_, .int xq22_, .int ln, .long xq14_, .int xq23_, .ref li])) := (hfr h (neF (Or.inl hn_h) ht_li (by decide))).trans hc_h
            have hc_mt : Mq29_ mt = some (.inl (kA 0, 600, .inl ft)) := (hfr mt (neF (Or.inl hn_mt) ht_li (by decide))).trans hc_mt
            have hF : ∀ q, FrK T q → q ≠ h → Mq29_ q = M q := fun q hq h0 => (hfr q (neF hq ht_li (by decide))).trans (hF q hq h0)
            refine lv_aload_n hx hb dX10_readsLine_67 rfl (lv_at hl 1 rfl) ?_
            refine lv_dup hx hb dX10_readsLine_68 rfl ?_
            refine xg hC hK hH flX10_245 hc_h rfl dX10_readsLine_69 ?_
            refine lv_iconst (v := 1) hx hb dX10_readsLine_72 (by decide) ?_
            refine lv_iadd hx hb dX10_readsLine_73 ?_
            refine lv_topi (fun zq30_ e_zq30_ => ?_)
            have h_zq30_ : zq30_.toInt = ln.toInt + 1 := by rw [e_zq30_, iAdd (by have := iRg ln; have : (1 : Int32).toInt = 1 := rfl; omega) (by have := iRg ln; have : (1 : Int32).toInt = 1 := rfl; omega)]; rfl
            refine yp (v := .int zq30_) hC hK hH flX10_245 hc_h (noT hn_h) rfl rfl (Nat.le_of_ble_eq_true rfl) dX10_readsLine_74 (fun Hq_ lcq_ Mq31_ hc_h hfr hH => ?_)
            have hc_h : Mq31_ h = some (.inr (8, [.ref al, .ref mt, .ref ii, .int ta, .int xq24_, .ref pa, .int sm, .int xq20_, .int xq21_, .int xq22_, .int zq30_, .long xq14_, .int xq23_, .ref li])) := hc_h
            have hc_mt : Mq31_ mt = some (.inl (kA 0, 600, .inl ft)) := (hfr mt n_mt_h).trans hc_mt
            have hF : ∀ q, FrK T q → q ≠ h → Mq31_ q = M q := fun q hq h0 => (hfr q h0).trans (hF q hq h0)
            refine lv_aload_n hx hb dX10_readsLine_77 rfl (lv_at hl 1 rfl) ?_
            refine xg hC hK hH flX10_234 hc_h rfl dX10_readsLine_78 ?_
            refine jif_eq (tgt := 85) hx hb dX10_readsLine_81 (by decide) (fun cq32_ => ?_) (fun cq32_ => ?_)
            · skip
              have cq32_ : xq23_.toInt = 0 := cq32_
              refine lv_aload_n hx hb dX10_readsLine_85 rfl (lv_at hl 1 rfl) ?_
              refine xg hC hK hH flX10_217 hc_h rfl dX10_readsLine_86 ?_
              refine lv_iconst (v := 3) hx hb dX10_readsLine_89 (by decide) ?_
              refine jic_ne (tgt := 100) hx hb dX10_readsLine_90 (by decide) (fun cq33_ => ?_) (fun cq33_ => ?_)
              · skip
                have cq33_ : xq21_.toInt ≠ 3 := cq33_
                refine lv_aload_n hx hb dX10_readsLine_100 rfl (lv_at hl 1 rfl) ?_
                refine goV hK hH (runV (As := []) (rest := []) hC hK hH (c_X10_fails hc_h hn_h ht_pa ht_li (by omega)) mlX10_248 (rcvM hK hH hc_h rfl) ⟨⟨Nat.le_of_ble_eq_true rfl, Nat.le_of_ble_eq_true rfl⟩, Nat.le_of_ble_eq_true rfl, Nat.le_of_ble_eq_true rfl⟩ rfl hl.1 rfl (Nat.le_of_ble_eq_true rfl) dX10_readsLine_101) (fun Mq34_ Tq35_ Hq_ lcq_ hP hz hH => ?_)
                try dsimp only at hP
                obtain ⟨xq38_, ⟨l_xq38_, g_xq38_⟩, xq39_, ⟨l_xq39_, g_xq39_⟩, (⟨cq37_, hx_h⟩), eT, hfr⟩ := hP
                have eT := eT.symm; subst eT
                have hc_h : Mq34_ h = some (.inr (8, [.ref al, .ref mt, .ref ii, .int ta, .int xq39_, .ref pa, .int sm, .int xq20_, .int xq21_, .int xq22_, .int zq30_, .long xq14_, .int xq38_, .ref li])) := hx_h
                have hc_mt : Mq34_ mt = some (.inl (kA 0, 600, .inl ft)) := (hfr mt (Or.inl hn_mt) n_mt_h).trans hc_mt
                have hF : ∀ q, FrK T q → q ≠ h → Mq34_ q = M q := fun q hq h0 => (hfr q hq h0).trans (hF q hq h0)
                have cq37_ : xq38_.toInt = 1 ∧ ((xq23_.toInt = 1 ∧ xq39_.toInt = xq24_.toInt) ∨ (xq23_.toInt = 0 ∧ xq39_.toInt = xq22_.toInt)) := cq37_
                exact ret_v hC hr hlk hK hH (⟨xq14_, xq20_, ⟨by omega, by omega⟩, xq21_, ⟨by omega, by omega⟩, xq22_, ⟨by omega, by omega⟩, xq38_, ⟨by omega, by omega⟩, xq39_, iRg _, zq30_, ⟨by omega, by omega⟩, ⟨⟨by omega, by omega, by omega, by omega, by omega, by omega, by omega, cq19_.2.2.2.2.2.2.2.1, cq19_.2.2.2.2.2.2.2.2.1, Or.inl ⟨by omega, by rw [hL]; exact enL_n (Or.resolve_left hR9 (fun h9 => by have := h9.1; omega)).2.1 (by have := (cq19_.2.2.2.2.2.2.2.1).ki; omega), by omega⟩⟩, hc_h⟩, rfl, hF⟩) (Nat.le_of_ble_eq_true rfl) (Nat.le_of_ble_eq_true rfl) dX10_readsLine_104
              · skip
                have cq33_ : xq21_.toInt = 3 := cq33_
                refine lv_aload_n hx hb dX10_readsLine_93 rfl (lv_at hl 1 rfl) ?_
                refine goV hK hH (runV (As := []) (rest := []) hC hK hH (c_X10_takes hc_h hn_h hc_mt hn_mt ht_pa ht_li (by omega) (by exact hnn) (by omega)) mlX10_238 (rcvM hK hH hc_h rfl) ⟨⟨Nat.le_of_ble_eq_true rfl, Nat.le_of_ble_eq_true rfl⟩, Nat.le_of_ble_eq_true rfl, Nat.le_of_ble_eq_true rfl⟩ rfl hl.1 rfl (Nat.le_of_ble_eq_true rfl) dX10_readsLine_94) (fun Mq41_ Tq42_ Hq_ lcq_ hP hz hH => ?_)
                try dsimp only at hP
                obtain ⟨xq40_, xq45_, ⟨l_xq45_, g_xq45_⟩, xq46_, ⟨l_xq46_, g_xq46_⟩, xq47_, ⟨l_xq47_, g_xq47_⟩, (⟨cq44_, hx_h⟩), eT, hfr⟩ := hP
                have eT := eT.symm; subst eT
                have hc_h : Mq41_ h = some (.inr (8, [.ref al, .ref mt, .ref ii, .int ta, .int xq24_, .ref pa, .int sm, .int xq45_, .int xq46_, .int xq47_, .int zq30_, .long xq40_, .int xq23_, .ref li])) := hx_h
                have hc_mt : Mq41_ mt = some (.inl (kA 0, 600, .inl ft)) := (hfr mt (Or.inl hn_mt) n_mt_h).trans hc_mt
                have hF : ∀ q, FrK T q → q ≠ h → Mq41_ q = M q := fun q hq h0 => (hfr q hq h0).trans (hF q hq h0)
                have cq44_ : xq20_.toInt ≤ xq47_.toInt ∧ xq47_.toInt ≤ xq45_.toInt ∧ xq45_.toInt ≤ sm.toInt ∧ (xq46_.toInt = 0 ∨ xq47_.toInt < xq45_.toInt) ∧ (xq46_.toInt ≠ 1 ∨ xq45_.toInt ≠ xq47_.toInt + 1 ∨ xq40_.toInt ≤ 26) ∧ Tk ft sm xq46_ xq47_ xq45_ ∧ xq47_.toInt = (scE pSp (nC ft) sm.toInt.toNat xq20_.toInt.toNat : Int) ∧ (Va ft xq46_ xq47_ xq45_ xq40_) := cq44_
                have hnq48_ : nxF (nC ft) sm.toInt.toNat xq22_.toInt.toNat = xq47_.toInt.toNat := by have h8 := cq44_.2.2.2.2.2.2.1; rw [(cq19_.2.2.2.2.2.2.2.1).nx] at h8; omega
                refine lv_goto (tgt := 104) hx hb dX10_readsLine_97 (by decide) ?_
                exact ret_v hC hr hlk hK hH (⟨xq40_, xq45_, ⟨by omega, by omega⟩, xq46_, ⟨by omega, by omega⟩, xq47_, ⟨by omega, by omega⟩, xq23_, ⟨by omega, by omega⟩, xq24_, iRg _, zq30_, ⟨by omega, by omega⟩, ⟨⟨by omega, by omega, by omega, by omega, by omega, by omega, by omega, cq44_.2.2.2.2.2.1, cq44_.2.2.2.2.2.2.2, Or.inr ⟨by omega, by rw [hL, enL_y (Or.resolve_left hR9 (fun h9 => by have := h9.1; omega)).2.1 (by have := (cq19_.2.2.2.2.2.2.2.1).ki; omega), hnq48_], by have := (Or.resolve_left hR9 (fun h9 => by have := h9.1; omega)).2.2; omega⟩⟩, hc_h⟩, rfl, hF⟩) (Nat.le_of_ble_eq_true rfl) (Nat.le_of_ble_eq_true rfl) dX10_readsLine_104
            · skip
              have cq32_ : xq23_.toInt ≠ 0 := cq32_
              exact ret_v hC hr hlk hK hH (⟨xq14_, xq20_, ⟨by omega, by omega⟩, xq21_, ⟨by omega, by omega⟩, xq22_, ⟨by omega, by omega⟩, xq23_, ⟨by omega, by omega⟩, xq24_, iRg _, zq30_, ⟨by omega, by omega⟩, ⟨⟨by omega, by omega, by omega, by omega, by omega, by omega, by omega, cq19_.2.2.2.2.2.2.2.1, cq19_.2.2.2.2.2.2.2.2.1, Or.inl ⟨by omega, by rw [hL]; exact enL_f (Or.resolve_right hR9 (fun h9 => by have := h9.1; omega)).2.1, by have := (Or.resolve_right hR9 (fun h9 => by have := h9.1; omega)).2.2; omega⟩⟩, hc_h⟩, rfl, hF⟩) (Nat.le_of_ble_eq_true rfl) (Nat.le_of_ble_eq_true rfl) dX10_readsLine_84
        refine lv_iload_n hx hb dX10_readsLine_19 rfl (lv_at hl 0 rfl) ?_
        refine lv_iconst (v := 5) hx hb dX10_readsLine_20 (by decide) ?_
        refine jic_le (tgt := 34) hx hb dX10_readsLine_21 (by decide) (fun cq49_ => ?_) (fun cq49_ => ?_)
        · skip
          have cq49_ : yq1_.toInt ≤ 5 := cq49_
          refine lv_iload_n hx hb dX10_readsLine_34 rfl (lv_at hl 0 rfl) ?_
          refine lv_bipush (v := 10) hx hb dX10_readsLine_35 (by decide) ?_
          refine jic_ne (tgt := 44) hx hb dX10_readsLine_37 (by decide) (fun cq50_ => ?_) (fun cq50_ => absurd cq50_ (by have := iRg yq1_; have : (10 : Int32).toInt = 10 := rfl; omega))
          have cq50_ : yq1_.toInt ≠ 10 := cq50_
          refine lv_iconst (v := 0) hx hb dX10_readsLine_44 (by decide) ?_
          exact Jq13_ 0 (by decide) (by decide) (by rw [zMo_0 (by omega) (by omega)]; rfl)
        · skip
          have cq49_ : 5 < yq1_.toInt := cq49_
          refine lv_iload_n hx hb dX10_readsLine_24 rfl (lv_at hl 0 rfl) ?_
          refine lv_bipush (v := 10) hx hb dX10_readsLine_25 (by decide) ?_
          refine jic_ge (tgt := 34) hx hb dX10_readsLine_27 (by decide) (fun cq51_ => ?_) (fun cq51_ => ?_)
          · skip
            have cq51_ : 10 ≤ yq1_.toInt := cq51_
            refine lv_iload_n hx hb dX10_readsLine_34 rfl (lv_at hl 0 rfl) ?_
            refine lv_bipush (v := 10) hx hb dX10_readsLine_35 (by decide) ?_
            refine jic_ne (tgt := 44) hx hb dX10_readsLine_37 (by decide) (fun cq52_ => ?_) (fun cq52_ => ?_)
            · skip
              have cq52_ : yq1_.toInt ≠ 10 := cq52_
              refine lv_iconst (v := 0) hx hb dX10_readsLine_44 (by decide) ?_
              exact Jq13_ 0 (by decide) (by decide) (by rw [zMo_0 (by omega) (by omega)]; rfl)
            · skip
              have cq52_ : yq1_.toInt = 10 := cq52_
              refine lv_iconst (v := 1) hx hb dX10_readsLine_40 (by decide) ?_
              refine lv_goto (tgt := 45) hx hb dX10_readsLine_41 (by decide) ?_
              exact Jq13_ 1 (by decide) (by decide) (by rw [zMo_1 (by omega)]; rfl)
          · skip
            have cq51_ : yq1_.toInt < 10 := cq51_
            refine lv_iconst (v := 2) hx hb dX10_readsLine_30 (by decide) ?_
            refine lv_goto (tgt := 45) hx hb dX10_readsLine_31 (by decide) ?_
            exact Jq13_ 2 (by decide) (by decide) (by rw [zMo_2 (by omega) (by omega)]; rfl)
  exact loop (Int.toNat (20 - 0)) 0 _ _ _ ls (by have : (0 : Int32).toInt = 0 := rfl; omega) (by have : (0 : Int32).toInt = 0 := rfl; omega) (by have : (0 : Int32).toInt = 0 := rfl; omega) (by unfold vF; rw [show (0 : Int32).toInt.toNat = 0 from rfl]) hc_h hc_mt hF hH hl
