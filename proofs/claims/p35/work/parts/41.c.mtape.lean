set_option maxHeartbeats 4000000 in
set_option maxRecDepth 100000 in
theorem c_X10_feed {l : Launch} {D : va_G} {kA : Nat → ClassId} {M : mM} {T : mT} {sz : Nat} {h al mt ii pa li : Nat} {ta fpm sm nx tk pl ln wr : Int32} {va : Int64} {a_ b_ c_ d_ e_ : Int32} (hc_h : M h = some (.inr (8, [.ref al, .ref mt, .ref ii, .int ta, .int fpm, .ref pa, .int sm, .int nx, .int tk, .int pl, .int ln, .long va, .int wr, .ref li]))) (hn_h : T h = none) (ht_mt : T mt = some 11) (ht_pa : T pa = some 13) (ht_li : T li = some 14) (hta : 0 ≤ ta.toInt ∧ ta.toInt ≤ 600) : mCi l yX10_feed cX10_feed 8 (some .int) 0 0 0 D kA M T sz [.ref h, .int a_, .int b_, .int c_, .int d_, .int e_] (fun r u => ∃ ta2 : Int32, ((0 : Int) ≤ ta2.toInt ∧ ta2.toInt ≤ 600) ∧ (((ta.toInt ≤ 580 ∧ r.toInt = ta.toInt + 20 ∧ ta2.toInt = ta.toInt + 20) ∧ u.1 h = some (.inr (8, [.ref al, .ref mt, .ref ii, .int ta2, .int fpm, .ref pa, .int sm, .int nx, .int tk, .int pl, .int ln, .long va, .int wr, .ref li]))) ∨ ((580 < ta.toInt ∧ r.toInt = -1 ∧ ta2.toInt = ta.toInt) ∧ u.1 h = some (.inr (8, [.ref al, .ref mt, .ref ii, .int ta2, .int fpm, .ref pa, .int sm, .int nx, .int tk, .int pl, .int ln, .long va, .int wr, .ref li])))) ∧ u.2 = T ∧ (∀ q, FrK T q → q ≠ h → u.1 q = M q)) := by
  unfold mCi
  refine start_W (by decide) (Nat.le_of_ble_eq_true rfl) ?_
  intro p e s m below meth c ls hC hr hlk hnm hK hH hsz hl
  have hx := hC.1
  have hb := hC.2.1
  have hl : lv_has ls 8 [(0, .ref h), (1, .int a_), (2, .int b_), (3, .int c_), (4, .int d_), (5, .int e_)] := hl
  have hF : ∀ q, FrK T q → q ≠ h → M q = M q := fun q _ _ => rfl
  refine lv_aload_n hx hb dX10_feed_0 rfl (lv_at hl 0 rfl) ?_
  refine xg hC hK hH flX10_180 hc_h rfl dX10_feed_1 ?_
  refine lv_bipush (v := 20) hx hb dX10_feed_4 (by decide) ?_
  refine lv_iadd hx hb dX10_feed_6 ?_
  refine lv_topi (fun zq1_ e_zq1_ => ?_)
  have h_zq1_ : zq1_.toInt = ta.toInt + 20 := by rw [e_zq1_, iAdd (by have := iRg ta; have : (20 : Int32).toInt = 20 := rfl; omega) (by have := iRg ta; have : (20 : Int32).toInt = 20 := rfl; omega)]; rfl
  refine lv_sipush (v := 600) hx hb dX10_feed_7 (by decide) ?_
  refine jic_le (tgt := 15) hx hb dX10_feed_10 (by decide) (fun cq2_ => ?_) (fun cq2_ => ?_)
  · skip
    have cq2_ : zq1_.toInt ≤ 600 := cq2_
    refine lv_iconst (v := 0) hx hb dX10_feed_15 (by decide) ?_
    refine lv_istore (lv' := [(6, .int 0), (0, .ref h), (1, .int a_), (2, .int b_), (3, .int c_), (4, .int d_), (5, .int e_)]) hx hb dX10_feed_16 hl (by decide) rfl (fun ls hl => ?_)
    have loop : ∀ (n : Nat) (yq3_ : Int32) (Hq_ : Heap) (lcq_ : List Loc) (Mq4_ : mM) (ls : Array Slot), 21 - yq3_.toInt ≤ (n : Int) → (0 : Int) ≤ yq3_.toInt → yq3_.toInt ≤ 20 → Mq4_ h = some (.inr (8, [.ref al, .ref mt, .ref ii, .int ta, .int fpm, .ref pa, .int sm, .int nx, .int tk, .int pl, .int ln, .long va, .int wr, .ref li])) → (∀ q, FrK T q → q ≠ h → Mq4_ q = M q) → mS D kA Mq4_ T (mA M T sz) s.heap Hq_ lcq_ → lv_has ls 8 [(6, .int yq3_), (0, .ref h), (1, .int a_), (2, .int b_), (3, .int c_), (4, .int d_), (5, .int e_)] → W p l e (rmL 0 0 0) s m ([.ref h, .int a_, .int b_, .int c_, .int d_, .int e_] : List Value).toArray below meth c Hq_ lcq_ 0 0 (MQ below (va_Qi (fun r u => ∃ ta2 : Int32, ((0 : Int) ≤ ta2.toInt ∧ ta2.toInt ≤ 600) ∧ (((ta.toInt ≤ 580 ∧ r.toInt = ta.toInt + 20 ∧ ta2.toInt = ta.toInt + 20) ∧ u.1 h = some (.inr (8, [.ref al, .ref mt, .ref ii, .int ta2, .int fpm, .ref pa, .int sm, .int nx, .int tk, .int pl, .int ln, .long va, .int wr, .ref li]))) ∨ ((580 < ta.toInt ∧ r.toInt = -1 ∧ ta2.toInt = ta.toInt) ∧ u.1 h = some (.inr (8, [.ref al, .ref mt, .ref ii, .int ta2, .int fpm, .ref pa, .int sm, .int nx, .int tk, .int pl, .int ln, .long va, .int wr, .ref li])))) ∧ u.2 = T ∧ (∀ q, FrK T q → q ≠ h → u.1 q = M q)) (mB D kA M T sz) (mA M T sz)) ([.ref h, .int a_, .int b_, .int c_, .int d_, .int e_] : List Value).toArray s 0 0 (mA M T sz)) (F0 m 18 ls []) := by
      intro n
      induction n with
      | zero =>
        intro yq3_ Hq_ lcq_ Mq4_ ls hme l_yq3_ g_yq3_ hc_h hF hH hl
        exfalso; omega
      | succ n ih =>
        intro yq3_ Hq_ lcq_ Mq4_ ls hme l_yq3_ g_yq3_ hc_h hF hH hl
        refine lv_iload hx hb dX10_feed_18 (lv_at hl 0 rfl) ?_
        refine lv_bipush (v := 20) hx hb dX10_feed_20 (by decide) ?_
        refine jic_ge (tgt := 108) hx hb dX10_feed_22 (by decide) (fun cq5_ => ?_) (fun cq5_ => ?_)
        · skip
          have cq5_ : 20 ≤ yq3_.toInt := cq5_
          refine lv_aload_n hx hb dX10_feed_108 rfl (lv_at hl 1 rfl) ?_
          refine lv_dup hx hb dX10_feed_109 rfl ?_
          refine xg hC hK hH flX10_180 hc_h rfl dX10_feed_110 ?_
          refine lv_bipush (v := 20) hx hb dX10_feed_113 (by decide) ?_
          refine lv_iadd hx hb dX10_feed_115 ?_
          refine lv_cst (v := zq1_) e_zq1_.symm ?_
          refine yp (v := .int zq1_) hC hK hH flX10_180 hc_h (noT hn_h) rfl rfl (Nat.le_of_ble_eq_true rfl) dX10_feed_116 (fun Hq_ lcq_ Mq6_ hc_h hfr hH => ?_)
          have hc_h : Mq6_ h = some (.inr (8, [.ref al, .ref mt, .ref ii, .int zq1_, .int fpm, .ref pa, .int sm, .int nx, .int tk, .int pl, .int ln, .long va, .int wr, .ref li])) := hc_h
          have hF : ∀ q, FrK T q → q ≠ h → Mq6_ q = M q := fun q hq h0 => (hfr q h0).trans (hF q hq h0)
          refine lv_aload_n hx hb dX10_feed_119 rfl (lv_at hl 1 rfl) ?_
          refine xg hC hK hH flX10_180 hc_h rfl dX10_feed_120 ?_
          exact ret_i hC hr hlk hK hH (⟨zq1_, ⟨by omega, by omega⟩, Or.inl (⟨by omega, hc_h⟩), rfl, hF⟩) (Nat.le_of_ble_eq_true rfl) (Nat.le_of_ble_eq_true rfl) dX10_feed_123
        · skip
          have cq5_ : yq3_.toInt < 20 := cq5_
          have Jq8_ : ∀ vq7_ : Int32, W p l e (rmL 0 0 0) s m ([.ref h, .int a_, .int b_, .int c_, .int d_, .int e_] : List Value).toArray below meth c Hq_ lcq_ 0 0 (MQ below (va_Qi (fun r u => ∃ ta2 : Int32, ((0 : Int) ≤ ta2.toInt ∧ ta2.toInt ≤ 600) ∧ (((ta.toInt ≤ 580 ∧ r.toInt = ta.toInt + 20 ∧ ta2.toInt = ta.toInt + 20) ∧ u.1 h = some (.inr (8, [.ref al, .ref mt, .ref ii, .int ta2, .int fpm, .ref pa, .int sm, .int nx, .int tk, .int pl, .int ln, .long va, .int wr, .ref li]))) ∨ ((580 < ta.toInt ∧ r.toInt = -1 ∧ ta2.toInt = ta.toInt) ∧ u.1 h = some (.inr (8, [.ref al, .ref mt, .ref ii, .int ta2, .int fpm, .ref pa, .int sm, .int nx, .int tk, .int pl, .int ln, .long va, .int wr, .ref li])))) ∧ u.2 = T ∧ (∀ q, FrK T q → q ≠ h → u.1 q = M q)) (mB D kA M T sz) (mA M T sz)) ([.ref h, .int a_, .int b_, .int c_, .int d_, .int e_] : List Value).toArray s 0 0 (mA M T sz)) (F0 m 71 ls [.int vq7_]) := by
            intro vq7_
            refine lv_istore (lv' := [(7, .int vq7_), (6, .int yq3_), (0, .ref h), (1, .int a_), (2, .int b_), (3, .int c_), (4, .int d_), (5, .int e_)]) hx hb dX10_feed_71 hl (by decide) rfl (fun ls hl => ?_)
            refine lv_aload_n hx hb dX10_feed_73 rfl (lv_at hl 2 rfl) ?_
            refine xg hC hK hH flX10_13 hc_h rfl dX10_feed_74 ?_
            refine lv_aload_n hx hb dX10_feed_77 rfl (lv_at hl 2 rfl) ?_
            refine xg hC hK hH flX10_180 hc_h rfl dX10_feed_78 ?_
            refine lv_iload hx hb dX10_feed_81 (lv_at hl 1 rfl) ?_
            refine lv_iadd hx hb dX10_feed_83 ?_
            refine lv_topi (fun zq9_ e_zq9_ => ?_)
            have h_zq9_ : zq9_.toInt = ta.toInt + yq3_.toInt := by rw [e_zq9_, iAdd (by have := iRg ta; have := iRg yq3_; omega) (by have := iRg ta; have := iRg yq3_; omega)]
            refine lv_iload hx hb dX10_feed_84 (lv_at hl 0 rfl) ?_
            refine lv_bipush (v := 24) hx hb dX10_feed_86 (by decide) ?_
            refine lv_bipush (v := 8) hx hb dX10_feed_88 (by decide) ?_
            refine lv_iload hx hb dX10_feed_90 (lv_at hl 1 rfl) ?_
            refine lv_iconst (v := 3) hx hb dX10_feed_92 (by decide) ?_
            refine lv_iand hx hb dX10_feed_93 ?_
            refine lv_topi (fun zq10_ e_zq10_ => ?_)
            refine lv_imul hx hb dX10_feed_94 ?_
            refine lv_topi (fun zq11_ e_zq11_ => ?_)
            refine lv_isub hx hb dX10_feed_95 ?_
            refine lv_topi (fun zq12_ e_zq12_ => ?_)
            refine lv_ishr hx hb dX10_feed_96 ?_
            refine lv_topi (fun zq13_ e_zq13_ => ?_)
            refine lv_sipush (v := 255) hx hb dX10_feed_97 (by decide) ?_
            refine lv_iand hx hb dX10_feed_100 ?_
            refine lv_topi (fun zq14_ e_zq14_ => ?_)
            refine tist (x := zq14_) hC hK hH ht_mt rfl (iIn (by omega) (by omega)) (iRg _).1 (iRg _).2 dX10_feed_101 (fun Hq_ lcq_ Mq15_ _ hfr hH => ?_)
            have hc_h : Mq15_ h = some (.inr (8, [.ref al, .ref mt, .ref ii, .int ta, .int fpm, .ref pa, .int sm, .int nx, .int tk, .int pl, .int ln, .long va, .int wr, .ref li])) := (hfr h (neF (Or.inl hn_h) ht_mt (by decide))).trans hc_h
            have hF : ∀ q, FrK T q → q ≠ h → Mq15_ q = M q := fun q hq h0 => (hfr q (neF hq ht_mt (by decide))).trans (hF q hq h0)
            obtain ⟨zq16_, e_zq16_⟩ : ∃ y : Int32, y = yq3_ + 1 := ⟨_, rfl⟩
            refine lv_iinc (v := zq16_) (lv' := [(6, .int zq16_), (7, .int vq7_), (0, .ref h), (1, .int a_), (2, .int b_), (3, .int c_), (4, .int d_), (5, .int e_)]) hx hb dX10_feed_102 hl (k := 1) rfl (by rw [e_zq16_]; rfl) (by decide) rfl (fun ls hl => ?_)
            have h_zq16_ : zq16_.toInt = yq3_.toInt + 1 := by rw [e_zq16_, iAdd (by have : (1 : Int32).toInt = 1 := rfl; omega) (by have : (1 : Int32).toInt = 1 := rfl; omega)]; rfl
            refine lv_goto (tgt := 18) hx hb dX10_feed_105 (by decide) ?_
            exact ih zq16_ _ _ _ ls (by have := iRg zq16_; omega) (by have := iRg zq16_; omega) (by have := iRg zq16_; omega) hc_h hF hH (lv_sub hl [0, 2, 3, 4, 5, 6, 7] rfl)
          refine lv_iload hx hb dX10_feed_25 (lv_at hl 0 rfl) ?_
          refine lv_iconst (v := 4) hx hb dX10_feed_27 (by decide) ?_
          refine jic_ge (tgt := 35) hx hb dX10_feed_28 (by decide) (fun cq17_ => ?_) (fun cq17_ => ?_)
          · skip
            have cq17_ : 4 ≤ yq3_.toInt := cq17_
            refine lv_iload hx hb dX10_feed_35 (lv_at hl 0 rfl) ?_
            refine lv_bipush (v := 8) hx hb dX10_feed_37 (by decide) ?_
            refine jic_ge (tgt := 46) hx hb dX10_feed_39 (by decide) (fun cq18_ => ?_) (fun cq18_ => ?_)
            · skip
              have cq18_ : 8 ≤ yq3_.toInt := cq18_
              refine lv_iload hx hb dX10_feed_46 (lv_at hl 0 rfl) ?_
              refine lv_bipush (v := 12) hx hb dX10_feed_48 (by decide) ?_
              refine jic_ge (tgt := 57) hx hb dX10_feed_50 (by decide) (fun cq19_ => ?_) (fun cq19_ => ?_)
              · skip
                have cq19_ : 12 ≤ yq3_.toInt := cq19_
                refine lv_iload hx hb dX10_feed_57 (lv_at hl 0 rfl) ?_
                refine lv_bipush (v := 16) hx hb dX10_feed_59 (by decide) ?_
                refine jic_ge (tgt := 69) hx hb dX10_feed_61 (by decide) (fun cq20_ => ?_) (fun cq20_ => ?_)
                · skip
                  have cq20_ : 16 ≤ yq3_.toInt := cq20_
                  refine lv_iload hx hb dX10_feed_69 (lv_at hl 6 rfl) ?_
                  exact Jq8_ e_
                · skip
                  have cq20_ : yq3_.toInt < 16 := cq20_
                  refine lv_iload hx hb dX10_feed_64 (lv_at hl 5 rfl) ?_
                  refine lv_goto (tgt := 71) hx hb dX10_feed_66 (by decide) ?_
                  exact Jq8_ d_
              · skip
                have cq19_ : yq3_.toInt < 12 := cq19_
                refine lv_iload_n hx hb dX10_feed_53 rfl (lv_at hl 4 rfl) ?_
                refine lv_goto (tgt := 71) hx hb dX10_feed_54 (by decide) ?_
                exact Jq8_ c_
            · skip
              have cq18_ : yq3_.toInt < 8 := cq18_
              refine lv_iload_n hx hb dX10_feed_42 rfl (lv_at hl 3 rfl) ?_
              refine lv_goto (tgt := 71) hx hb dX10_feed_43 (by decide) ?_
              exact Jq8_ b_
          · skip
            have cq17_ : yq3_.toInt < 4 := cq17_
            refine lv_iload_n hx hb dX10_feed_31 rfl (lv_at hl 2 rfl) ?_
            refine lv_goto (tgt := 71) hx hb dX10_feed_32 (by decide) ?_
            exact Jq8_ a_
    exact loop (Int.toNat (21 - 0)) 0 _ _ _ ls (by have : (0 : Int32).toInt = 0 := rfl; omega) (by have : (0 : Int32).toInt = 0 := rfl; omega) (by have : (0 : Int32).toInt = 0 := rfl; omega) hc_h hF hH hl
  · skip
    have cq2_ : 600 < zq1_.toInt := cq2_
    refine lv_iconst (v := -1) hx hb dX10_feed_13 (by decide) ?_
    exact ret_i hC hr hlk hK hH (⟨ta, ⟨by omega, by omega⟩, Or.inr (⟨by have : (-1 : Int32).toInt = -1 := rfl; omega, hc_h⟩), rfl, hF⟩) (Nat.le_of_ble_eq_true rfl) (Nat.le_of_ble_eq_true rfl) dX10_feed_14
set_option maxHeartbeats 4000000 in
set_option maxRecDepth 100000 in
theorem c_X10_end {l : Launch} {D : va_G} {kA : Nat → ClassId} {M : mM} {T : mT} {sz : Nat} {h al mt ii pa li : Nat} {ta fpm sm nx tk pl ln wr : Int32} {va : Int64} {n : Int32} (hc_h : M h = some (.inr (8, [.ref al, .ref mt, .ref ii, .int ta, .int fpm, .ref pa, .int sm, .int nx, .int tk, .int pl, .int ln, .long va, .int wr, .ref li]))) (hn_h : T h = none) (ht_mt : T mt = some 11) (ht_pa : T pa = some 13) (ht_li : T li = some 14) (hta : 0 ≤ ta.toInt ∧ ta.toInt ≤ 600) : mCi l yX10_end cX10_end 2 (some .int) 1 0 0 D kA M T sz [.ref h, .int n] (fun r u => ∃ ta2 : Int32, ((0 : Int) ≤ ta2.toInt ∧ ta2.toInt ≤ 600) ∧ (((0 ≤ n.toInt ∧ n.toInt ≤ ta.toInt ∧ r.toInt = n.toInt ∧ ta2.toInt = n.toInt) ∧ u.1 h = some (.inr (8, [.ref al, .ref mt, .ref ii, .int ta2, .int fpm, .ref pa, .int sm, .int nx, .int tk, .int pl, .int ln, .long va, .int wr, .ref li]))) ∨ ((¬ (0 ≤ n.toInt ∧ n.toInt ≤ ta.toInt) ∧ r.toInt = -1 ∧ ta2.toInt = ta.toInt) ∧ u.1 h = some (.inr (8, [.ref al, .ref mt, .ref ii, .int ta2, .int fpm, .ref pa, .int sm, .int nx, .int tk, .int pl, .int ln, .long va, .int wr, .ref li])))) ∧ u.2 = T ∧ (∀ q, FrK T q → q ≠ h → u.1 q = M q)) := by
  unfold mCi
  refine start_W (by decide) (Nat.le_of_ble_eq_true rfl) ?_
  intro p e s m below meth c ls hC hr hlk hnm hK hH hsz hl
  have hx := hC.1
  have hb := hC.2.1
  have hl : lv_has ls 2 [(0, .ref h), (1, .int n)] := hl
  have hF : ∀ q, FrK T q → q ≠ h → M q = M q := fun q _ _ => rfl
  refine lv_iload_n hx hb dX10_end_0 rfl (lv_at hl 1 rfl) ?_
  refine lv_iconst (v := 0) hx hb dX10_end_1 (by decide) ?_
  refine lv_aload_n hx hb dX10_end_2 rfl (lv_at hl 0 rfl) ?_
  refine xg hC hK hH flX10_180 hc_h rfl dX10_end_3 ?_
  refine goI hK hH (runS (As := [.int n, .int 0, .int ta]) (rest := []) hC hK hH (c_X10_isIn) mlX10_33 ⟨⟨Nat.le_of_ble_eq_true rfl, Nat.le_of_ble_eq_true rfl⟩, Nat.le_of_ble_eq_true rfl, Nat.le_of_ble_eq_true rfl⟩ rfl hl.1 rfl (Nat.le_of_ble_eq_true rfl) dX10_end_6) (fun rq3_ Mq1_ Tq2_ Hq_ lcq_ hP hz hH => ?_)
  try dsimp only at hP
  obtain ⟨(⟨cq4_, er_rq3_⟩ | ⟨cq5_, er_rq3_⟩), eT, eM⟩ := hP
  · skip
    have eT := eT.symm; subst eT
    have er_rq3_ := er_rq3_.symm; subst er_rq3_
    have eM := eM.symm; subst eM
    have cq4_ : (0 : Int) ≤ n.toInt ∧ n.toInt ≤ ta.toInt := cq4_
    refine jif_ne (tgt := 14) hx hb dX10_end_9 (by decide) (fun cq6_ => ?_) (fun cq6_ => absurd cq6_ (by decide))
    refine lv_aload_n hx hb dX10_end_14 rfl (lv_at hl 0 rfl) ?_
    refine lv_iload_n hx hb dX10_end_15 rfl (lv_at hl 1 rfl) ?_
    refine yp (v := .int n) hC hK hH flX10_180 hc_h (noT hn_h) rfl rfl (Nat.le_of_ble_eq_true rfl) dX10_end_16 (fun Hq_ lcq_ Mq7_ hc_h hfr hH => ?_)
    have hc_h : Mq7_ h = some (.inr (8, [.ref al, .ref mt, .ref ii, .int n, .int fpm, .ref pa, .int sm, .int nx, .int tk, .int pl, .int ln, .long va, .int wr, .ref li])) := hc_h
    have hF : ∀ q, FrK T q → q ≠ h → Mq7_ q = M q := fun q hq h0 => (hfr q h0).trans (hF q hq h0)
    refine lv_iload_n hx hb dX10_end_19 rfl (lv_at hl 1 rfl) ?_
    exact ret_i hC hr hlk hK hH (⟨n, ⟨by omega, by omega⟩, Or.inl (⟨by omega, hc_h⟩), rfl, hF⟩) (Nat.le_of_ble_eq_true rfl) (Nat.le_of_ble_eq_true rfl) dX10_end_20
  · skip
    have eT := eT.symm; subst eT
    have er_rq3_ := er_rq3_.symm; subst er_rq3_
    have eM := eM.symm; subst eM
    have cq5_ : ¬ ((0 : Int) ≤ n.toInt ∧ n.toInt ≤ ta.toInt) := cq5_
    refine jif_ne (tgt := 14) hx hb dX10_end_9 (by decide) (fun cq8_ => absurd cq8_ (by decide)) (fun cq8_ => ?_)
    refine lv_iconst (v := -1) hx hb dX10_end_12 (by decide) ?_
    exact ret_i hC hr hlk hK hH (⟨ta, ⟨by omega, by omega⟩, Or.inr (⟨by have : (-1 : Int32).toInt = -1 := rfl; omega, hc_h⟩), rfl, hF⟩) (Nat.le_of_ble_eq_true rfl) (Nat.le_of_ble_eq_true rfl) dX10_end_13
set_option maxHeartbeats 4000000 in
set_option maxRecDepth 100000 in
theorem c_X10_fault {l : Launch} {D : va_G} {kA : Nat → ClassId} {M : mM} {T : mT} {sz : Nat} {h al mt ii pa li : Nat} {ta fpm sm nx tk pl ln wr : Int32} {va : Int64} (hc_h : M h = some (.inr (8, [.ref al, .ref mt, .ref ii, .int ta, .int fpm, .ref pa, .int sm, .int nx, .int tk, .int pl, .int ln, .long va, .int wr, .ref li]))) (hn_h : T h = none) (ht_mt : T mt = some 11) (ht_pa : T pa = some 13) (ht_li : T li = some 14) : mCi l yX10_fault cX10_fault 1 (some .int) 0 0 0 D kA M T sz [.ref h] (fun r u => (True) ∧ u.2 = T ∧ u.1 = M) := by
  unfold mCi
  refine start_W (by decide) (Nat.le_of_ble_eq_true rfl) ?_
  intro p e s m below meth c ls hC hr hlk hnm hK hH hsz hl
  have hx := hC.1
  have hb := hC.2.1
  have hl : lv_has ls 1 [(0, .ref h)] := hl
  refine lv_aload_n hx hb dX10_fault_0 rfl (lv_at hl 0 rfl) ?_
  refine xg hC hK hH flX10_20 hc_h rfl dX10_fault_1 ?_
  exact ret_i hC hr hlk hK hH (⟨trivial, rfl, rfl⟩) (Nat.le_of_ble_eq_true rfl) (Nat.le_of_ble_eq_true rfl) dX10_fault_4
set_option maxHeartbeats 4000000 in
set_option maxRecDepth 100000 in
theorem c_X10_image {l : Launch} {D : va_G} {kA : Nat → ClassId} {M : mM} {T : mT} {sz : Nat} {h al mt ii pa li : Nat} {ta fpm sm nx tk pl ln wr : Int32} {va : Int64} {f : Nat → Int32} {k : Int32} {fi : Nat → Int32} (hc_h : M h = some (.inr (8, [.ref al, .ref mt, .ref ii, .int ta, .int fpm, .ref pa, .int sm, .int nx, .int tk, .int pl, .int ln, .long va, .int wr, .ref li]))) (hn_h : T h = none) (hc_al : M al = some (.inl (kA 0, 7506, .inl f))) (hn_al : T al = none) (hc_ii : M ii = some (.inl (kA 2, 3, .inl fi))) (hn_ii : T ii = none) (ht_mt : T mt = some 11) (ht_pa : T pa = some 13) (ht_li : T li = some 14) (hR_f : Rng f) : mCi l yX10_image cX10_image 4 (some .boolean) 1 0 0 D kA M T sz [.ref h, .int k] (fun r u => ∃ g : Nat → Int32, (Rng g ∧ KeR f g (2280 + 1742 * k.toInt.toNat) (2280 + 1742 * k.toInt.toNat + 1742) ∧ ((0 ≤ k.toInt ∧ k.toInt ≤ 2) → g (2280 + 1742 * k.toInt.toNat + 1740) = ta) ∧ (¬ (0 ≤ k.toInt ∧ k.toInt ≤ 2) → g = f)) ∧ ∃ fj : Nat → Int32, (((0 ≤ k.toInt ∧ k.toInt ≤ 2) → fj = upd fi k.toInt.toNat 1) ∧ (¬ (0 ≤ k.toInt ∧ k.toInt ≤ 2) → fj = fi)) ∧ (((0 ≤ k.toInt ∧ k.toInt ≤ 2) ∧ r = 1 ∧ u.1 al = some (.inl (kA 0, 7506, .inl g)) ∧ u.1 ii = some (.inl (kA 2, 3, .inl fj))) ∨ ((¬ (0 ≤ k.toInt ∧ k.toInt ≤ 2)) ∧ r = 0 ∧ u.1 al = some (.inl (kA 0, 7506, .inl g)) ∧ u.1 ii = some (.inl (kA 2, 3, .inl fj)))) ∧ u.2 = T ∧ (∀ q, FrK T q → q ≠ al → q ≠ ii → u.1 q = M q)) := by
  unfold mCi
  refine start_W (by decide) (Nat.le_of_ble_eq_true rfl) ?_
  intro p e s m below meth c ls hC hr hlk hnm hK hH hsz hl
  have hx := hC.1
  have hb := hC.2.1
  have hl : lv_has ls 4 [(0, .ref h), (1, .int k)] := hl
  have hF : ∀ q, FrK T q → q ≠ al → q ≠ ii → M q = M q := fun q _ _ _ => rfl
  have n_h_al : h ≠ al := neM hc_h hc_al (by simp)
  have n_h_ii : h ≠ ii := neM hc_h hc_ii (by simp)
  have n_al_h : al ≠ h := neM hc_al hc_h (by simp)
  have n_al_ii : al ≠ ii := neM hc_al hc_ii (by simp)
  have n_ii_h : ii ≠ h := neM hc_ii hc_h (by simp)
  have n_ii_al : ii ≠ al := neM hc_ii hc_al (by simp)
  have hK_f : KeR f f (2280 + 1742 * k.toInt.toNat) (2280 + 1742 * k.toInt.toNat + 1742) := KeR.rf
  refine lv_iload_n hx hb dX10_image_0 rfl (lv_at hl 1 rfl) ?_
  refine lv_iconst (v := 0) hx hb dX10_image_1 (by decide) ?_
  refine lv_iconst (v := 2) hx hb dX10_image_2 (by decide) ?_
  refine goI hK hH (runS (As := [.int k, .int 0, .int 2]) (rest := []) hC hK hH (c_X10_isIn) mlX10_33 ⟨⟨Nat.le_of_ble_eq_true rfl, Nat.le_of_ble_eq_true rfl⟩, Nat.le_of_ble_eq_true rfl, Nat.le_of_ble_eq_true rfl⟩ rfl hl.1 rfl (Nat.le_of_ble_eq_true rfl) dX10_image_3) (fun rq3_ Mq1_ Tq2_ Hq_ lcq_ hP hz hH => ?_)
  try dsimp only at hP
  obtain ⟨(⟨cq4_, er_rq3_⟩ | ⟨cq5_, er_rq3_⟩), eT, eM⟩ := hP
  · skip
    have eT := eT.symm; subst eT
    have er_rq3_ := er_rq3_.symm; subst er_rq3_
    have eM := eM.symm; subst eM
    have cq4_ : (0 : Int) ≤ k.toInt ∧ k.toInt ≤ (2 : Int) := cq4_
    refine jif_ne (tgt := 11) hx hb dX10_image_6 (by decide) (fun cq6_ => ?_) (fun cq6_ => absurd cq6_ (by decide))
    refine lv_sipush (v := 2280) hx hb dX10_image_11 (by decide) ?_
    refine lv_sipush (v := 1742) hx hb dX10_image_14 (by decide) ?_
    refine lv_iload_n hx hb dX10_image_17 rfl (lv_at hl 1 rfl) ?_
    refine lv_imul hx hb dX10_image_18 ?_
    refine lv_topi (fun zq7_ e_zq7_ => ?_)
    have h_zq7_ : zq7_.toInt = 1742 * k.toInt := by rw [e_zq7_, iMul (by show (-2147483648 : Int) ≤ 1742 * k.toInt; omega) (by show 1742 * k.toInt ≤ (2147483647 : Int); omega)]; rfl
    refine lv_iadd hx hb dX10_image_19 ?_
    refine lv_topi (fun zq8_ e_zq8_ => ?_)
    have h_zq8_ : zq8_.toInt = 2280 + zq7_.toInt := by rw [e_zq8_, iAdd (by have : (2280 : Int32).toInt = 2280 := rfl; have := iRg zq7_; omega) (by have : (2280 : Int32).toInt = 2280 := rfl; have := iRg zq7_; omega)]; rfl
    refine lv_istore_n (lv' := [(2, .int zq8_), (0, .ref h), (1, .int k)]) hx hb dX10_image_20 rfl hl (by decide) rfl (fun ls hl => ?_)
    refine lv_aload_n hx hb dX10_image_21 rfl (lv_at hl 1 rfl) ?_
    refine lv_iconst (v := 0) hx hb dX10_image_22 (by decide) ?_
    refine lv_iload_n hx hb dX10_image_23 rfl (lv_at hl 0 rfl) ?_
    obtain ⟨nq9_, hn_nq9_⟩ : ∃ n : Nat, zq8_.toInt = (n : Int) := ⟨(zq8_.toInt).toNat, by omega⟩
    refine goV hK hH (runV (As := [.int 0, .int zq8_]) (rest := []) hC hK hH (c_X10_copies (frn := 0) (ton := nq9_) hc_h hn_h hc_al hn_al ht_mt ht_pa ht_li (by exact hR_f) (by decide) (by omega) (by decide) (by omega)) mlX10_165 (rcvM hK hH hc_h rfl) ⟨⟨Nat.le_of_ble_eq_true rfl, Nat.le_of_ble_eq_true rfl⟩, Nat.le_of_ble_eq_true rfl, Nat.le_of_ble_eq_true rfl⟩ rfl hl.1 rfl (Nat.le_of_ble_eq_true rfl) dX10_image_24) (fun Mq10_ Tq11_ Hq_ lcq_ hP hz hH => ?_)
    try dsimp only at hP
    obtain ⟨gq13_, h_gq13_, (hx_al), eT, hfr⟩ := hP
    have eT := eT.symm; subst eT
    have hc_h : Mq10_ h = some (.inr (8, [.ref al, .ref mt, .ref ii, .int ta, .int fpm, .ref pa, .int sm, .int nx, .int tk, .int pl, .int ln, .long va, .int wr, .ref li])) := (hfr h (Or.inl hn_h) n_h_al).trans hc_h
    have hc_al : Mq10_ al = some (.inl (kA 0, 7506, .inl gq13_)) := hx_al
    have hc_ii : Mq10_ ii = some (.inl (kA 2, 3, .inl fi)) := (hfr ii (Or.inl hn_ii) n_ii_al).trans hc_ii
    have hF : ∀ q, FrK T q → q ≠ al → q ≠ ii → Mq10_ q = M q := fun q hq h0 h1 => (hfr q hq  h0).trans (hF q hq h0 h1)
    have hR_gq13_ : Rng gq13_ := h_gq13_.1
    have hK_gq13_ : KeR f gq13_ (2280 + 1742 * k.toInt.toNat) (2280 + 1742 * k.toInt.toNat + 1742) := hK_f.tr h_gq13_.2 (by omega) (by omega)
    refine lv_iconst (v := 0) hx hb dX10_image_27 (by decide) ?_
    refine lv_istore_n (lv' := [(3, .int 0), (2, .int zq8_), (0, .ref h), (1, .int k)]) hx hb dX10_image_28 rfl hl (by decide) rfl (fun ls hl => ?_)
    have loop : ∀ (n : Nat) (yq14_ : Int32) (Fq16_ : Nat → Int32) (Hq_ : Heap) (lcq_ : List Loc) (Mq15_ : mM) (ls : Array Slot), 601 - yq14_.toInt ≤ (n : Int) → (0 : Int) ≤ yq14_.toInt → yq14_.toInt ≤ 600 → Rng Fq16_ → KeR f Fq16_ (2280 + 1742 * k.toInt.toNat) (2280 + 1742 * k.toInt.toNat + 1742) → Mq15_ h = some (.inr (8, [.ref al, .ref mt, .ref ii, .int ta, .int fpm, .ref pa, .int sm, .int nx, .int tk, .int pl, .int ln, .long va, .int wr, .ref li])) → Mq15_ al = some (.inl (kA 0, 7506, .inl Fq16_)) → Mq15_ ii = some (.inl (kA 2, 3, .inl fi)) → (∀ q, FrK T q → q ≠ al → q ≠ ii → Mq15_ q = M q) → mS D kA Mq15_ T (mA M T sz) s.heap Hq_ lcq_ → lv_has ls 4 [(3, .int yq14_), (2, .int zq8_), (0, .ref h), (1, .int k)] → W p l e (rmL 1 0 0) s m ([.ref h, .int k] : List Value).toArray below meth c Hq_ lcq_ 0 0 (MQ below (va_Qi (fun r u => ∃ g : Nat → Int32, (Rng g ∧ KeR f g (2280 + 1742 * k.toInt.toNat) (2280 + 1742 * k.toInt.toNat + 1742) ∧ ((0 ≤ k.toInt ∧ k.toInt ≤ 2) → g (2280 + 1742 * k.toInt.toNat + 1740) = ta) ∧ (¬ (0 ≤ k.toInt ∧ k.toInt ≤ 2) → g = f)) ∧ ∃ fj : Nat → Int32, (((0 ≤ k.toInt ∧ k.toInt ≤ 2) → fj = upd fi k.toInt.toNat 1) ∧ (¬ (0 ≤ k.toInt ∧ k.toInt ≤ 2) → fj = fi)) ∧ (((0 ≤ k.toInt ∧ k.toInt ≤ 2) ∧ r = 1 ∧ u.1 al = some (.inl (kA 0, 7506, .inl g)) ∧ u.1 ii = some (.inl (kA 2, 3, .inl fj))) ∨ ((¬ (0 ≤ k.toInt ∧ k.toInt ≤ 2)) ∧ r = 0 ∧ u.1 al = some (.inl (kA 0, 7506, .inl g)) ∧ u.1 ii = some (.inl (kA 2, 3, .inl fj)))) ∧ u.2 = T ∧ (∀ q, FrK T q → q ≠ al → q ≠ ii → u.1 q = M q)) (mB D kA M T sz) (mA M T sz)) ([.ref h, .int k] : List Value).toArray s 0 0 (mA M T sz)) (F0 m 29 ls []) := by
      intro n
      induction n with
      | zero =>
        intro yq14_ Fq16_ Hq_ lcq_ Mq15_ ls hme l_yq14_ g_yq14_ hR_Fq16_ hK_Fq16_ hc_h hc_al hc_ii hF hH hl
        exfalso; omega
      | succ n ih =>
        intro yq14_ Fq16_ Hq_ lcq_ Mq15_ ls hme l_yq14_ g_yq14_ hR_Fq16_ hK_Fq16_ hc_h hc_al hc_ii hF hH hl
        refine lv_iload_n hx hb dX10_image_29 rfl (lv_at hl 0 rfl) ?_
        refine lv_sipush (v := 600) hx hb dX10_image_30 (by decide) ?_
        refine jic_ge (tgt := 60) hx hb dX10_image_33 (by decide) (fun cq17_ => ?_) (fun cq17_ => ?_)
        · skip
          have cq17_ : 600 ≤ yq14_.toInt := cq17_
          refine lv_aload_n hx hb dX10_image_60 rfl (lv_at hl 2 rfl) ?_
          refine xg hC hK hH flX10_7 hc_h rfl dX10_image_61 ?_
          refine lv_iload_n hx hb dX10_image_64 rfl (lv_at hl 1 rfl) ?_
          refine lv_sipush (v := 1140) hx hb dX10_image_65 (by decide) ?_
          refine lv_iadd hx hb dX10_image_68 ?_
          refine lv_topi (fun zq18_ e_zq18_ => ?_)
          have h_zq18_ : zq18_.toInt = zq8_.toInt + 1140 := by rw [e_zq18_, iAdd (by have := iRg zq8_; have : (1140 : Int32).toInt = 1140 := rfl; omega) (by have := iRg zq8_; have : (1140 : Int32).toInt = 1140 := rfl; omega)]; rfl
          refine lv_sipush (v := 600) hx hb dX10_image_69 (by decide) ?_
          refine lv_iadd hx hb dX10_image_72 ?_
          refine lv_topi (fun zq19_ e_zq19_ => ?_)
          have h_zq19_ : zq19_.toInt = zq18_.toInt + 600 := by rw [e_zq19_, iAdd (by have := iRg zq18_; have : (600 : Int32).toInt = 600 := rfl; omega) (by have := iRg zq18_; have : (600 : Int32).toInt = 600 := rfl; omega)]; rfl
          refine lv_aload_n hx hb dX10_image_73 rfl (lv_at hl 2 rfl) ?_
          refine xg hC hK hH flX10_180 hc_h rfl dX10_image_74 ?_
          refine yist (x := ta) hC hK hH hc_al (noT hn_al) (iIn (by omega) (by omega)) dX10_image_77 (fun Hq_ lcq_ Mq20_ hc_al hfr hH => ?_)
          have hc_al : Mq20_ al = some (.inl (kA 0, 7506, .inl (upd Fq16_ (Int32.toNatClampNeg zq19_) ta))) := hc_al
          have hc_h : Mq20_ h = some (.inr (8, [.ref al, .ref mt, .ref ii, .int ta, .int fpm, .ref pa, .int sm, .int nx, .int tk, .int pl, .int ln, .long va, .int wr, .ref li])) := (hfr h n_h_al).trans hc_h
          have hc_ii : Mq20_ ii = some (.inl (kA 2, 3, .inl fi)) := (hfr ii n_ii_al).trans hc_ii
          have hF : ∀ q, FrK T q → q ≠ al → q ≠ ii → Mq20_ q = M q := fun q hq h0 h1 => (hfr q h0).trans (hF q hq h0 h1)
          obtain ⟨gq21_, e_gq21_⟩ : ∃ g : Nat → Int32, g = upd Fq16_ (Int32.toNatClampNeg zq19_) ta := ⟨_, rfl⟩
          rw [← e_gq21_] at hc_al
          have hR_gq21_ : Rng gq21_ := by rw [e_gq21_]; exact hR_Fq16_.up (by rw [clE (n := 2280 + 1742 * k.toInt.toNat + 1740) (by omega), rgI (by omega) (by omega) (by omega)]; exact fu_all _)
          have hK_gq21_ : KeR f gq21_ (2280 + 1742 * k.toInt.toNat) (2280 + 1742 * k.toInt.toNat + 1742) := by rw [e_gq21_]; exact hK_Fq16_.up (by have := iCl (x := zq19_) (by omega); omega) (by have := iCl (x := zq19_) (by omega); omega)
          refine lv_aload_n hx hb dX10_image_78 rfl (lv_at hl 2 rfl) ?_
          refine xg hC hK hH flX10_7 hc_h rfl dX10_image_79 ?_
          refine lv_iload_n hx hb dX10_image_82 rfl (lv_at hl 1 rfl) ?_
          refine lv_sipush (v := 1140) hx hb dX10_image_83 (by decide) ?_
          refine lv_iadd hx hb dX10_image_86 ?_
          refine lv_cst (v := zq18_) e_zq18_.symm ?_
          refine lv_sipush (v := 600) hx hb dX10_image_87 (by decide) ?_
          refine lv_iadd hx hb dX10_image_90 ?_
          refine lv_cst (v := zq19_) e_zq19_.symm ?_
          refine lv_iconst (v := 1) hx hb dX10_image_91 (by decide) ?_
          refine lv_iadd hx hb dX10_image_92 ?_
          refine lv_topi (fun zq22_ e_zq22_ => ?_)
          have h_zq22_ : zq22_.toInt = zq19_.toInt + 1 := by rw [e_zq22_, iAdd (by have := iRg zq19_; have : (1 : Int32).toInt = 1 := rfl; omega) (by have := iRg zq19_; have : (1 : Int32).toInt = 1 := rfl; omega)]; rfl
          refine lv_aload_n hx hb dX10_image_93 rfl (lv_at hl 2 rfl) ?_
          refine xg hC hK hH flX10_20 hc_h rfl dX10_image_94 ?_
          refine yist (x := fpm) hC hK hH hc_al (noT hn_al) (iIn (by omega) (by omega)) dX10_image_97 (fun Hq_ lcq_ Mq23_ hc_al hfr hH => ?_)
          have hc_al : Mq23_ al = some (.inl (kA 0, 7506, .inl (upd gq21_ (Int32.toNatClampNeg zq22_) fpm))) := hc_al
          have hc_h : Mq23_ h = some (.inr (8, [.ref al, .ref mt, .ref ii, .int ta, .int fpm, .ref pa, .int sm, .int nx, .int tk, .int pl, .int ln, .long va, .int wr, .ref li])) := (hfr h n_h_al).trans hc_h
          have hc_ii : Mq23_ ii = some (.inl (kA 2, 3, .inl fi)) := (hfr ii n_ii_al).trans hc_ii
          have hF : ∀ q, FrK T q → q ≠ al → q ≠ ii → Mq23_ q = M q := fun q hq h0 h1 => (hfr q h0).trans (hF q hq h0 h1)
          obtain ⟨gq24_, e_gq24_⟩ : ∃ g : Nat → Int32, g = upd gq21_ (Int32.toNatClampNeg zq22_) fpm := ⟨_, rfl⟩
          rw [← e_gq24_] at hc_al
          have hR_gq24_ : Rng gq24_ := by rw [e_gq24_]; exact hR_gq21_.up (by rw [clE (n := 2280 + 1742 * k.toInt.toNat + 1741) (by omega), rgI (by omega) (by omega) (by omega)]; exact fu_all _)
          have hK_gq24_ : KeR f gq24_ (2280 + 1742 * k.toInt.toNat) (2280 + 1742 * k.toInt.toNat + 1742) := by rw [e_gq24_]; exact hK_gq21_.up (by have := iCl (x := zq22_) (by omega); omega) (by have := iCl (x := zq22_) (by omega); omega)
          refine lv_aload_n hx hb dX10_image_98 rfl (lv_at hl 2 rfl) ?_
          refine xg hC hK hH flX10_16 hc_h rfl dX10_image_99 ?_
          refine lv_iload_n hx hb dX10_image_102 rfl (lv_at hl 3 rfl) ?_
          refine lv_iconst (v := 1) hx hb dX10_image_103 (by decide) ?_
          refine yzst (x := 1) hC hK hH hc_ii (noT hn_ii) (iIn (by omega) (by omega)) dX10_image_104 (fun Hq_ lcq_ Mq25_ hc_ii hfr hH => ?_)
          have hc_ii : Mq25_ ii = some (.inl (kA 2, 3, .inl (upd fi (Int32.toNatClampNeg k) (vp_nar .boolean 1)))) := hc_ii
          have hc_h : Mq25_ h = some (.inr (8, [.ref al, .ref mt, .ref ii, .int ta, .int fpm, .ref pa, .int sm, .int nx, .int tk, .int pl, .int ln, .long va, .int wr, .ref li])) := (hfr h n_h_ii).trans hc_h
          have hc_al : Mq25_ al = some (.inl (kA 0, 7506, .inl gq24_)) := (hfr al n_al_ii).trans hc_al
          have hF : ∀ q, FrK T q → q ≠ al → q ≠ ii → Mq25_ q = M q := fun q hq h0 h1 => (hfr q h1).trans (hF q hq h0 h1)
          refine lv_iconst (v := 1) hx hb dX10_image_105 (by decide) ?_
          exact ret_z hC hr hlk hK hH (by first | exact Or.inl rfl | exact Or.inr rfl | assumption) (⟨gq24_, ⟨hR_gq24_, hK_gq24_, fun _ => by rw [e_gq24_, pk_un (by have := iCl (x := zq22_) (by omega); omega), e_gq21_, show 2280 + 1742 * k.toInt.toNat + 1740 = Int32.toNatClampNeg zq19_ from (clE (by omega)).symm]; exact pk_us, fun z => absurd (by omega) z⟩, (upd fi (Int32.toNatClampNeg k) (vp_nar .boolean 1)), ⟨fun _ => rfl, fun z => absurd (by omega) z⟩, Or.inl (⟨by omega, rfl, hc_al, hc_ii⟩), rfl, hF⟩) (Nat.le_of_ble_eq_true rfl) (Nat.le_of_ble_eq_true rfl) dX10_image_106
        · skip
          have cq17_ : yq14_.toInt < 600 := cq17_
          refine lv_aload_n hx hb dX10_image_36 rfl (lv_at hl 2 rfl) ?_
          refine xg hC hK hH flX10_7 hc_h rfl dX10_image_37 ?_
          refine lv_iload_n hx hb dX10_image_40 rfl (lv_at hl 1 rfl) ?_
          refine lv_sipush (v := 1140) hx hb dX10_image_41 (by decide) ?_
          refine lv_iadd hx hb dX10_image_44 ?_
          refine lv_topi (fun zq26_ e_zq26_ => ?_)
          have h_zq26_ : zq26_.toInt = zq8_.toInt + 1140 := by rw [e_zq26_, iAdd (by have := iRg zq8_; have : (1140 : Int32).toInt = 1140 := rfl; omega) (by have := iRg zq8_; have : (1140 : Int32).toInt = 1140 := rfl; omega)]; rfl
          refine lv_iload_n hx hb dX10_image_45 rfl (lv_at hl 0 rfl) ?_
          refine lv_iadd hx hb dX10_image_46 ?_
          refine lv_topi (fun zq27_ e_zq27_ => ?_)
          have h_zq27_ : zq27_.toInt = zq26_.toInt + yq14_.toInt := by rw [e_zq27_, iAdd (by have := iRg zq26_; have := iRg yq14_; omega) (by have := iRg zq26_; have := iRg yq14_; omega)]
          refine lv_aload_n hx hb dX10_image_47 rfl (lv_at hl 2 rfl) ?_
          refine xg hC hK hH flX10_13 hc_h rfl dX10_image_48 ?_
          refine lv_iload_n hx hb dX10_image_51 rfl (lv_at hl 0 rfl) ?_
          refine tild hC hK hH ht_mt rfl (iIn (by omega) (by omega)) dX10_image_52 (fun xq28_ l_xq28_ g_xq28_ => ?_)
          refine yist (x := xq28_) hC hK hH hc_al (noT hn_al) (iIn (by omega) (by omega)) dX10_image_53 (fun Hq_ lcq_ Mq29_ hc_al hfr hH => ?_)
          have hc_al : Mq29_ al = some (.inl (kA 0, 7506, .inl (upd Fq16_ (Int32.toNatClampNeg zq27_) xq28_))) := hc_al
          have hc_h : Mq29_ h = some (.inr (8, [.ref al, .ref mt, .ref ii, .int ta, .int fpm, .ref pa, .int sm, .int nx, .int tk, .int pl, .int ln, .long va, .int wr, .ref li])) := (hfr h n_h_al).trans hc_h
          have hc_ii : Mq29_ ii = some (.inl (kA 2, 3, .inl fi)) := (hfr ii n_ii_al).trans hc_ii
          have hF : ∀ q, FrK T q → q ≠ al → q ≠ ii → Mq29_ q = M q := fun q hq h0 h1 => (hfr q h0).trans (hF q hq h0 h1)
          obtain ⟨gq30_, e_gq30_⟩ : ∃ g : Nat → Int32, g = upd Fq16_ (Int32.toNatClampNeg zq27_) xq28_ := ⟨_, rfl⟩
          rw [← e_gq30_] at hc_al
          obtain ⟨nq31_, hn_nq31_⟩ : ∃ n : Nat, yq14_.toInt = (n : Int) := ⟨(yq14_.toInt).toNat, by omega⟩
          have hR_gq30_ : Rng gq30_ := by rw [e_gq30_]; exact hR_Fq16_.up (by rw [clE (n := 2280 + 1742 * k.toInt.toNat + (1140 + nq31_)) (by omega), rgI (by omega) (by omega) (by omega)]; exact fu_all _)
          have hK_gq30_ : KeR f gq30_ (2280 + 1742 * k.toInt.toNat) (2280 + 1742 * k.toInt.toNat + 1742) := by rw [e_gq30_]; exact hK_Fq16_.up (by have := iCl (x := zq27_) (by omega); omega) (by have := iCl (x := zq27_) (by omega); omega)
          obtain ⟨zq32_, e_zq32_⟩ : ∃ y : Int32, y = yq14_ + 1 := ⟨_, rfl⟩
          refine lv_iinc (v := zq32_) (lv' := [(3, .int zq32_), (2, .int zq8_), (0, .ref h), (1, .int k)]) hx hb dX10_image_54 hl (k := 0) rfl (by rw [e_zq32_]; rfl) (by decide) rfl (fun ls hl => ?_)
          have h_zq32_ : zq32_.toInt = yq14_.toInt + 1 := by rw [e_zq32_, iAdd (by have : (1 : Int32).toInt = 1 := rfl; omega) (by have : (1 : Int32).toInt = 1 := rfl; omega)]; rfl
          refine lv_goto (tgt := 29) hx hb dX10_image_57 (by decide) ?_
          exact ih zq32_ gq30_ _ _ _ ls (by have := iRg zq32_; omega) (by have := iRg zq32_; omega) (by have := iRg zq32_; omega) hR_gq30_ hK_gq30_ hc_h hc_al hc_ii hF hH (lv_sub hl [0, 1, 2, 3] rfl)
    exact loop (Int.toNat (601 - 0)) 0 gq13_ _ _ _ ls (by have : (0 : Int32).toInt = 0 := rfl; omega) (by have : (0 : Int32).toInt = 0 := rfl; omega) (by have : (0 : Int32).toInt = 0 := rfl; omega) hR_gq13_ hK_gq13_ hc_h hc_al hc_ii hF hH hl
  · skip
    have eT := eT.symm; subst eT
    have er_rq3_ := er_rq3_.symm; subst er_rq3_
    have eM := eM.symm; subst eM
    have cq5_ : ¬ ((0 : Int) ≤ k.toInt ∧ k.toInt ≤ (2 : Int)) := cq5_
    refine jif_ne (tgt := 11) hx hb dX10_image_6 (by decide) (fun cq33_ => absurd cq33_ (by decide)) (fun cq33_ => ?_)
    refine lv_iconst (v := 0) hx hb dX10_image_9 (by decide) ?_
    exact ret_z hC hr hlk hK hH (by first | exact Or.inl rfl | exact Or.inr rfl | assumption) (⟨f, ⟨hR_f, hK_f, fun z => absurd z (by omega), fun _ => rfl⟩, fi, ⟨fun z => absurd z (by omega), fun _ => rfl⟩, Or.inr (⟨by omega, rfl, hc_al, hc_ii⟩), rfl, hF⟩) (Nat.le_of_ble_eq_true rfl) (Nat.le_of_ble_eq_true rfl) dX10_image_10
set_option maxHeartbeats 4000000 in
set_option maxRecDepth 100000 in
theorem c_X10_again {l : Launch} {D : va_G} {kA : Nat → ClassId} {M : mM} {T : mT} {sz : Nat} {h al mt ii pa li : Nat} {ta fpm sm nx tk pl ln wr : Int32} {va : Int64} {f : Nat → Int32} {k : Int32} {fi : Nat → Int32} (hc_h : M h = some (.inr (8, [.ref al, .ref mt, .ref ii, .int ta, .int fpm, .ref pa, .int sm, .int nx, .int tk, .int pl, .int ln, .long va, .int wr, .ref li]))) (hn_h : T h = none) (hc_al : M al = some (.inl (kA 0, 7506, .inl f))) (hn_al : T al = none) (hc_ii : M ii = some (.inl (kA 2, 3, .inl fi))) (hn_ii : T ii = none) (ht_mt : T mt = some 11) (ht_pa : T pa = some 13) (ht_li : T li = some 14) (hR_f : Rng f) (hta : 0 ≤ ta.toInt ∧ ta.toInt ≤ 600) (him : ∀ j, j < 3 → (fi j).toInt ≠ 0 → 0 ≤ (f (2280 + 1742 * j + 1740)).toInt ∧ (f (2280 + 1742 * j + 1740)).toInt ≤ 600) : mCi l yX10_again cX10_again 4 (some .boolean) 1 0 0 D kA M T sz [.ref h, .int k] (fun r u => ∃ g : Nat → Int32, (Rng g ∧ Ke f g) ∧ ∃ ta2 : Int32, ((0 : Int) ≤ ta2.toInt ∧ ta2.toInt ≤ 600) ∧ ∃ fpm2 : Int32, ((-2147483648 : Int) ≤ fpm2.toInt ∧ fpm2.toInt ≤ 2147483647) ∧ ((((0 ≤ k.toInt ∧ k.toInt ≤ 2 ∧ (fi k.toInt.toNat).toInt ≠ 0) ∧ ta2 = f (2280 + 1742 * k.toInt.toNat + 1740)) ∧ r = 1 ∧ u.1 al = some (.inl (kA 0, 7506, .inl g)) ∧ u.1 h = some (.inr (8, [.ref al, .ref mt, .ref ii, .int ta2, .int fpm2, .ref pa, .int sm, .int nx, .int tk, .int pl, .int ln, .long va, .int wr, .ref li]))) ∨ ((¬ (0 ≤ k.toInt ∧ k.toInt ≤ 2 ∧ (fi k.toInt.toNat).toInt ≠ 0) ∧ ta2 = ta) ∧ r = 0 ∧ u.1 al = some (.inl (kA 0, 7506, .inl g)) ∧ u.1 h = some (.inr (8, [.ref al, .ref mt, .ref ii, .int ta2, .int fpm2, .ref pa, .int sm, .int nx, .int tk, .int pl, .int ln, .long va, .int wr, .ref li])))) ∧ u.2 = T ∧ (∀ q, FrK T q → q ≠ al → q ≠ h → u.1 q = M q)) := by
  unfold mCi
  refine start_W (by decide) (Nat.le_of_ble_eq_true rfl) ?_
  intro p e s m below meth c ls hC hr hlk hnm hK hH hsz hl
  have hx := hC.1
  have hb := hC.2.1
  have hl : lv_has ls 4 [(0, .ref h), (1, .int k)] := hl
  have hF : ∀ q, FrK T q → q ≠ al → q ≠ h → M q = M q := fun q _ _ _ => rfl
  have n_h_al : h ≠ al := neM hc_h hc_al (by simp)
  have n_h_ii : h ≠ ii := neM hc_h hc_ii (by simp)
  have n_al_h : al ≠ h := neM hc_al hc_h (by simp)
  have n_al_ii : al ≠ ii := neM hc_al hc_ii (by simp)
  have n_ii_h : ii ≠ h := neM hc_ii hc_h (by simp)
  have n_ii_al : ii ≠ al := neM hc_ii hc_al (by simp)
  have hK_f : Ke f f := Ke.rf
  refine lv_iload_n hx hb dX10_again_0 rfl (lv_at hl 1 rfl) ?_
  refine lv_iconst (v := 0) hx hb dX10_again_1 (by decide) ?_
  refine lv_iconst (v := 2) hx hb dX10_again_2 (by decide) ?_
  refine goI hK hH (runS (As := [.int k, .int 0, .int 2]) (rest := []) hC hK hH (c_X10_isIn) mlX10_33 ⟨⟨Nat.le_of_ble_eq_true rfl, Nat.le_of_ble_eq_true rfl⟩, Nat.le_of_ble_eq_true rfl, Nat.le_of_ble_eq_true rfl⟩ rfl hl.1 rfl (Nat.le_of_ble_eq_true rfl) dX10_again_3) (fun rq3_ Mq1_ Tq2_ Hq_ lcq_ hP hz hH => ?_)
  try dsimp only at hP
  obtain ⟨(⟨cq4_, er_rq3_⟩ | ⟨cq5_, er_rq3_⟩), eT, eM⟩ := hP
  · skip
    have eT := eT.symm; subst eT
    have er_rq3_ := er_rq3_.symm; subst er_rq3_
    have eM := eM.symm; subst eM
    have cq4_ : (0 : Int) ≤ k.toInt ∧ k.toInt ≤ (2 : Int) := cq4_
    refine jif_eq (tgt := 18) hx hb dX10_again_6 (by decide) (fun cq6_ => absurd cq6_ (by decide)) (fun cq6_ => ?_)
    refine lv_aload_n hx hb dX10_again_9 rfl (lv_at hl 0 rfl) ?_
    refine xg hC hK hH flX10_16 hc_h rfl dX10_again_10 ?_
    refine lv_iload_n hx hb dX10_again_13 rfl (lv_at hl 1 rfl) ?_
    refine xzld hC hK hH hc_ii (iIn (by omega) (by omega)) dX10_again_14 ?_
    refine lv_topi (fun xq7_ e_xq7_ => ?_)
    refine jif_ne (tgt := 20) hx hb dX10_again_15 (by decide) (fun cq8_ => ?_) (fun cq8_ => ?_)
    · skip
      have cq8_ : xq7_.toInt ≠ 0 := cq8_
      refine lv_sipush (v := 2280) hx hb dX10_again_20 (by decide) ?_
      refine lv_sipush (v := 1742) hx hb dX10_again_23 (by decide) ?_
      refine lv_iload_n hx hb dX10_again_26 rfl (lv_at hl 1 rfl) ?_
      refine lv_imul hx hb dX10_again_27 ?_
      refine lv_topi (fun zq9_ e_zq9_ => ?_)
      have h_zq9_ : zq9_.toInt = 1742 * k.toInt := by rw [e_zq9_, iMul (by show (-2147483648 : Int) ≤ 1742 * k.toInt; omega) (by show 1742 * k.toInt ≤ (2147483647 : Int); omega)]; rfl
      refine lv_iadd hx hb dX10_again_28 ?_
      refine lv_topi (fun zq10_ e_zq10_ => ?_)
      have h_zq10_ : zq10_.toInt = 2280 + zq9_.toInt := by rw [e_zq10_, iAdd (by have : (2280 : Int32).toInt = 2280 := rfl; have := iRg zq9_; omega) (by have : (2280 : Int32).toInt = 2280 := rfl; have := iRg zq9_; omega)]; rfl
      refine lv_istore_n (lv' := [(2, .int zq10_), (0, .ref h), (1, .int k)]) hx hb dX10_again_29 rfl hl (by decide) rfl (fun ls hl => ?_)
      refine lv_aload_n hx hb dX10_again_30 rfl (lv_at hl 1 rfl) ?_
      refine lv_iload_n hx hb dX10_again_31 rfl (lv_at hl 0 rfl) ?_
      refine lv_iconst (v := 0) hx hb dX10_again_32 (by decide) ?_
      have hfi : (fi k.toInt.toNat).toInt ≠ 0 := by have e9 : xq7_ = fi k.toInt.toNat := e_xq7_; rw [← e9]; omega
      obtain ⟨nq11_, hn_nq11_⟩ : ∃ n : Nat, zq10_.toInt = (n : Int) := ⟨(zq10_.toInt).toNat, by omega⟩
      refine goV hK hH (runV (As := [.int zq10_, .int 0]) (rest := []) hC hK hH (c_X10_copies (frn := nq11_) (ton := 0) hc_h hn_h hc_al hn_al ht_mt ht_pa ht_li (by exact hR_f) (by omega) (by decide) (by omega) (by decide)) mlX10_165 (rcvM hK hH hc_h rfl) ⟨⟨Nat.le_of_ble_eq_true rfl, Nat.le_of_ble_eq_true rfl⟩, Nat.le_of_ble_eq_true rfl, Nat.le_of_ble_eq_true rfl⟩ rfl hl.1 rfl (Nat.le_of_ble_eq_true rfl) dX10_again_33) (fun Mq12_ Tq13_ Hq_ lcq_ hP hz hH => ?_)
      try dsimp only at hP
      obtain ⟨gq15_, h_gq15_, (hx_al), eT, hfr⟩ := hP
      have eT := eT.symm; subst eT
      have hc_h : Mq12_ h = some (.inr (8, [.ref al, .ref mt, .ref ii, .int ta, .int fpm, .ref pa, .int sm, .int nx, .int tk, .int pl, .int ln, .long va, .int wr, .ref li])) := (hfr h (Or.inl hn_h) n_h_al).trans hc_h
      have hc_al : Mq12_ al = some (.inl (kA 0, 7506, .inl gq15_)) := hx_al
      have hc_ii : Mq12_ ii = some (.inl (kA 2, 3, .inl fi)) := (hfr ii (Or.inl hn_ii) n_ii_al).trans hc_ii
      have hF : ∀ q, FrK T q → q ≠ al → q ≠ h → Mq12_ q = M q := fun q hq h0 h1 => (hfr q hq  h0).trans (hF q hq h0 h1)
      have hR_gq15_ : Rng gq15_ := h_gq15_.1
      have hK_gq15_ : Ke f gq15_ := hK_f.tr (KeR.ke h_gq15_.2 (by omega))
      refine lv_iconst (v := 0) hx hb dX10_again_36 (by decide) ?_
      refine lv_istore_n (lv' := [(3, .int 0), (2, .int zq10_), (0, .ref h), (1, .int k)]) hx hb dX10_again_37 rfl hl (by decide) rfl (fun ls hl => ?_)
      have loop : ∀ (n : Nat) (yq16_ : Int32) (Fq18_ : Nat → Int32) (Hq_ : Heap) (lcq_ : List Loc) (Mq17_ : mM) (ls : Array Slot), 601 - yq16_.toInt ≤ (n : Int) → (0 : Int) ≤ yq16_.toInt → yq16_.toInt ≤ 600 → Rng Fq18_ → Ke f Fq18_ → Mq17_ h = some (.inr (8, [.ref al, .ref mt, .ref ii, .int ta, .int fpm, .ref pa, .int sm, .int nx, .int tk, .int pl, .int ln, .long va, .int wr, .ref li])) → Mq17_ al = some (.inl (kA 0, 7506, .inl Fq18_)) → Mq17_ ii = some (.inl (kA 2, 3, .inl fi)) → (∀ q, FrK T q → q ≠ al → q ≠ h → Mq17_ q = M q) → mS D kA Mq17_ T (mA M T sz) s.heap Hq_ lcq_ → lv_has ls 4 [(3, .int yq16_), (2, .int zq10_), (0, .ref h), (1, .int k)] → W p l e (rmL 1 0 0) s m ([.ref h, .int k] : List Value).toArray below meth c Hq_ lcq_ 0 0 (MQ below (va_Qi (fun r u => ∃ g : Nat → Int32, (Rng g ∧ Ke f g) ∧ ∃ ta2 : Int32, ((0 : Int) ≤ ta2.toInt ∧ ta2.toInt ≤ 600) ∧ ∃ fpm2 : Int32, ((-2147483648 : Int) ≤ fpm2.toInt ∧ fpm2.toInt ≤ 2147483647) ∧ ((((0 ≤ k.toInt ∧ k.toInt ≤ 2 ∧ (fi k.toInt.toNat).toInt ≠ 0) ∧ ta2 = f (2280 + 1742 * k.toInt.toNat + 1740)) ∧ r = 1 ∧ u.1 al = some (.inl (kA 0, 7506, .inl g)) ∧ u.1 h = some (.inr (8, [.ref al, .ref mt, .ref ii, .int ta2, .int fpm2, .ref pa, .int sm, .int nx, .int tk, .int pl, .int ln, .long va, .int wr, .ref li]))) ∨ ((¬ (0 ≤ k.toInt ∧ k.toInt ≤ 2 ∧ (fi k.toInt.toNat).toInt ≠ 0) ∧ ta2 = ta) ∧ r = 0 ∧ u.1 al = some (.inl (kA 0, 7506, .inl g)) ∧ u.1 h = some (.inr (8, [.ref al, .ref mt, .ref ii, .int ta2, .int fpm2, .ref pa, .int sm, .int nx, .int tk, .int pl, .int ln, .long va, .int wr, .ref li])))) ∧ u.2 = T ∧ (∀ q, FrK T q → q ≠ al → q ≠ h → u.1 q = M q)) (mB D kA M T sz) (mA M T sz)) ([.ref h, .int k] : List Value).toArray s 0 0 (mA M T sz)) (F0 m 38 ls []) := by
        intro n
        induction n with
        | zero =>
          intro yq16_ Fq18_ Hq_ lcq_ Mq17_ ls hme l_yq16_ g_yq16_ hR_Fq18_ hK_Fq18_ hc_h hc_al hc_ii hF hH hl
          exfalso; omega
        | succ n ih =>
          intro yq16_ Fq18_ Hq_ lcq_ Mq17_ ls hme l_yq16_ g_yq16_ hR_Fq18_ hK_Fq18_ hc_h hc_al hc_ii hF hH hl
          refine lv_iload_n hx hb dX10_again_38 rfl (lv_at hl 0 rfl) ?_
          refine lv_sipush (v := 600) hx hb dX10_again_39 (by decide) ?_
          refine jic_ge (tgt := 69) hx hb dX10_again_42 (by decide) (fun cq19_ => ?_) (fun cq19_ => ?_)
          · skip
            have cq19_ : 600 ≤ yq16_.toInt := cq19_
            refine lv_aload_n hx hb dX10_again_69 rfl (lv_at hl 2 rfl) ?_
            refine lv_aload_n hx hb dX10_again_70 rfl (lv_at hl 2 rfl) ?_
            refine xg hC hK hH flX10_7 hc_h rfl dX10_again_71 ?_
            refine lv_iload_n hx hb dX10_again_74 rfl (lv_at hl 1 rfl) ?_
            refine lv_sipush (v := 1140) hx hb dX10_again_75 (by decide) ?_
            refine lv_iadd hx hb dX10_again_78 ?_
            refine lv_topi (fun zq20_ e_zq20_ => ?_)
            have h_zq20_ : zq20_.toInt = zq10_.toInt + 1140 := by rw [e_zq20_, iAdd (by have := iRg zq10_; have : (1140 : Int32).toInt = 1140 := rfl; omega) (by have := iRg zq10_; have : (1140 : Int32).toInt = 1140 := rfl; omega)]; rfl
            refine lv_sipush (v := 600) hx hb dX10_again_79 (by decide) ?_
            refine lv_iadd hx hb dX10_again_82 ?_
            refine lv_topi (fun zq21_ e_zq21_ => ?_)
            have h_zq21_ : zq21_.toInt = zq20_.toInt + 600 := by rw [e_zq21_, iAdd (by have := iRg zq20_; have : (600 : Int32).toInt = 600 := rfl; omega) (by have := iRg zq20_; have : (600 : Int32).toInt = 600 := rfl; omega)]; rfl
            refine xild hC hK hH hc_al (iIn (by omega) (by omega)) dX10_again_83 ?_
            refine lv_topi (fun xq22_ e_xq22_ => ?_)
            have k_xq22_ : xq22_ = Fq18_ (nq11_ + 1740) := by rw [e_xq22_, clE (n := nq11_ + 1740) (by omega)]
            have kt_xq22_ : xq22_.toInt = (Fq18_ (nq11_ + 1740)).toInt := by rw [k_xq22_]
            have q_xq22_ : xq22_ = f (2280 + 1742 * k.toInt.toNat + 1740) := by rw [k_xq22_, hK_Fq18_ _ (by omega), show nq11_ + 1740 = 2280 + 1742 * k.toInt.toNat + 1740 from by omega]
            have hr_xq22_ := him k.toInt.toNat (by omega) hfi
            rw [← q_xq22_] at hr_xq22_
            refine yp (v := .int xq22_) hC hK hH flX10_180 hc_h (noT hn_h) rfl rfl (Nat.le_of_ble_eq_true rfl) dX10_again_84 (fun Hq_ lcq_ Mq23_ hc_h hfr hH => ?_)
            have hc_h : Mq23_ h = some (.inr (8, [.ref al, .ref mt, .ref ii, .int xq22_, .int fpm, .ref pa, .int sm, .int nx, .int tk, .int pl, .int ln, .long va, .int wr, .ref li])) := hc_h
            have hc_al : Mq23_ al = some (.inl (kA 0, 7506, .inl Fq18_)) := (hfr al n_al_h).trans hc_al
            have hc_ii : Mq23_ ii = some (.inl (kA 2, 3, .inl fi)) := (hfr ii n_ii_h).trans hc_ii
            have hF : ∀ q, FrK T q → q ≠ al → q ≠ h → Mq23_ q = M q := fun q hq h0 h1 => (hfr q h1).trans (hF q hq h0 h1)
            refine lv_aload_n hx hb dX10_again_87 rfl (lv_at hl 2 rfl) ?_
            refine lv_aload_n hx hb dX10_again_88 rfl (lv_at hl 2 rfl) ?_
            refine xg hC hK hH flX10_7 hc_h rfl dX10_again_89 ?_
            refine lv_iload_n hx hb dX10_again_92 rfl (lv_at hl 1 rfl) ?_
            refine lv_sipush (v := 1140) hx hb dX10_again_93 (by decide) ?_
            refine lv_iadd hx hb dX10_again_96 ?_
            refine lv_cst (v := zq20_) e_zq20_.symm ?_
            refine lv_sipush (v := 600) hx hb dX10_again_97 (by decide) ?_
            refine lv_iadd hx hb dX10_again_100 ?_
            refine lv_cst (v := zq21_) e_zq21_.symm ?_
            refine lv_iconst (v := 1) hx hb dX10_again_101 (by decide) ?_
            refine lv_iadd hx hb dX10_again_102 ?_
            refine lv_topi (fun zq24_ e_zq24_ => ?_)
            have h_zq24_ : zq24_.toInt = zq21_.toInt + 1 := by rw [e_zq24_, iAdd (by have := iRg zq21_; have : (1 : Int32).toInt = 1 := rfl; omega) (by have := iRg zq21_; have : (1 : Int32).toInt = 1 := rfl; omega)]; rfl
            refine xild hC hK hH hc_al (iIn (by omega) (by omega)) dX10_again_103 ?_
            refine lv_topi (fun xq25_ e_xq25_ => ?_)
            have k_xq25_ : xq25_ = Fq18_ (nq11_ + 1741) := by rw [e_xq25_, clE (n := nq11_ + 1741) (by omega)]
            have kt_xq25_ : xq25_.toInt = (Fq18_ (nq11_ + 1741)).toInt := by rw [k_xq25_]
            refine yp (v := .int xq25_) hC hK hH flX10_20 hc_h (noT hn_h) rfl rfl (Nat.le_of_ble_eq_true rfl) dX10_again_104 (fun Hq_ lcq_ Mq26_ hc_h hfr hH => ?_)
            have hc_h : Mq26_ h = some (.inr (8, [.ref al, .ref mt, .ref ii, .int xq22_, .int xq25_, .ref pa, .int sm, .int nx, .int tk, .int pl, .int ln, .long va, .int wr, .ref li])) := hc_h
            have hc_al : Mq26_ al = some (.inl (kA 0, 7506, .inl Fq18_)) := (hfr al n_al_h).trans hc_al
            have hc_ii : Mq26_ ii = some (.inl (kA 2, 3, .inl fi)) := (hfr ii n_ii_h).trans hc_ii
            have hF : ∀ q, FrK T q → q ≠ al → q ≠ h → Mq26_ q = M q := fun q hq h0 h1 => (hfr q h1).trans (hF q hq h0 h1)
            refine lv_iconst (v := 1) hx hb dX10_again_107 (by decide) ?_
            exact ret_z hC hr hlk hK hH (by first | exact Or.inl rfl | exact Or.inr rfl | assumption) (⟨Fq18_, ⟨hR_Fq18_, hK_Fq18_⟩, xq22_, ⟨by omega, by omega⟩, xq25_, iRg _, Or.inl (⟨⟨⟨by omega, by omega, hfi⟩, q_xq22_⟩, rfl, hc_al, hc_h⟩), rfl, hF⟩) (Nat.le_of_ble_eq_true rfl) (Nat.le_of_ble_eq_true rfl) dX10_again_108
          · skip
            have cq19_ : yq16_.toInt < 600 := cq19_
            refine lv_aload_n hx hb dX10_again_45 rfl (lv_at hl 2 rfl) ?_
            refine xg hC hK hH flX10_13 hc_h rfl dX10_again_46 ?_
            refine lv_iload_n hx hb dX10_again_49 rfl (lv_at hl 0 rfl) ?_
            refine lv_aload_n hx hb dX10_again_50 rfl (lv_at hl 2 rfl) ?_
            refine xg hC hK hH flX10_7 hc_h rfl dX10_again_51 ?_
            refine lv_iload_n hx hb dX10_again_54 rfl (lv_at hl 1 rfl) ?_
            refine lv_sipush (v := 1140) hx hb dX10_again_55 (by decide) ?_
            refine lv_iadd hx hb dX10_again_58 ?_
            refine lv_topi (fun zq27_ e_zq27_ => ?_)
            have h_zq27_ : zq27_.toInt = zq10_.toInt + 1140 := by rw [e_zq27_, iAdd (by have := iRg zq10_; have : (1140 : Int32).toInt = 1140 := rfl; omega) (by have := iRg zq10_; have : (1140 : Int32).toInt = 1140 := rfl; omega)]; rfl
            refine lv_iload_n hx hb dX10_again_59 rfl (lv_at hl 0 rfl) ?_
            refine lv_iadd hx hb dX10_again_60 ?_
            refine lv_topi (fun zq28_ e_zq28_ => ?_)
            have h_zq28_ : zq28_.toInt = zq27_.toInt + yq16_.toInt := by rw [e_zq28_, iAdd (by have := iRg zq27_; have := iRg yq16_; omega) (by have := iRg zq27_; have := iRg yq16_; omega)]
            refine xild hC hK hH hc_al (iIn (by omega) (by omega)) dX10_again_61 ?_
            refine lv_topi (fun xq29_ e_xq29_ => ?_)
            refine tist (x := xq29_) hC hK hH ht_mt rfl (iIn (by omega) (by omega)) (iRg _).1 (iRg _).2 dX10_again_62 (fun Hq_ lcq_ Mq30_ _ hfr hH => ?_)
            have hc_h : Mq30_ h = some (.inr (8, [.ref al, .ref mt, .ref ii, .int ta, .int fpm, .ref pa, .int sm, .int nx, .int tk, .int pl, .int ln, .long va, .int wr, .ref li])) := (hfr h (neF (Or.inl hn_h) ht_mt (by decide))).trans hc_h
            have hc_al : Mq30_ al = some (.inl (kA 0, 7506, .inl Fq18_)) := (hfr al (neF (Or.inl hn_al) ht_mt (by decide))).trans hc_al
            have hc_ii : Mq30_ ii = some (.inl (kA 2, 3, .inl fi)) := (hfr ii (neF (Or.inl hn_ii) ht_mt (by decide))).trans hc_ii
            have hF : ∀ q, FrK T q → q ≠ al → q ≠ h → Mq30_ q = M q := fun q hq h0 h1 => (hfr q (neF hq ht_mt (by decide))).trans (hF q hq h0 h1)
            obtain ⟨zq31_, e_zq31_⟩ : ∃ y : Int32, y = yq16_ + 1 := ⟨_, rfl⟩
            refine lv_iinc (v := zq31_) (lv' := [(3, .int zq31_), (2, .int zq10_), (0, .ref h), (1, .int k)]) hx hb dX10_again_63 hl (k := 0) rfl (by rw [e_zq31_]; rfl) (by decide) rfl (fun ls hl => ?_)
            have h_zq31_ : zq31_.toInt = yq16_.toInt + 1 := by rw [e_zq31_, iAdd (by have : (1 : Int32).toInt = 1 := rfl; omega) (by have : (1 : Int32).toInt = 1 := rfl; omega)]; rfl
            refine lv_goto (tgt := 38) hx hb dX10_again_66 (by decide) ?_
            exact ih zq31_ Fq18_ _ _ _ ls (by have := iRg zq31_; omega) (by have := iRg zq31_; omega) (by have := iRg zq31_; omega) hR_Fq18_ hK_Fq18_ hc_h hc_al hc_ii hF hH (lv_sub hl [0, 1, 2, 3] rfl)
      exact loop (Int.toNat (601 - 0)) 0 gq15_ _ _ _ ls (by have : (0 : Int32).toInt = 0 := rfl; omega) (by have : (0 : Int32).toInt = 0 := rfl; omega) (by have : (0 : Int32).toInt = 0 := rfl; omega) hR_gq15_ hK_gq15_ hc_h hc_al hc_ii hF hH hl
    · skip
      have cq8_ : xq7_.toInt = 0 := cq8_
      refine lv_iconst (v := 0) hx hb dX10_again_18 (by decide) ?_
      exact ret_z hC hr hlk hK hH (by first | exact Or.inl rfl | exact Or.inr rfl | assumption) (⟨f, ⟨hR_f, hK_f⟩, ta, ⟨by omega, by omega⟩, fpm, iRg _, Or.inr (⟨⟨fun z9 => z9.2.2 (by have e9 : xq7_ = fi k.toInt.toNat := e_xq7_; rw [← e9]; omega), rfl⟩, rfl, hc_al, hc_h⟩), rfl, hF⟩) (Nat.le_of_ble_eq_true rfl) (Nat.le_of_ble_eq_true rfl) dX10_again_19
  · skip
    have eT := eT.symm; subst eT
    have er_rq3_ := er_rq3_.symm; subst er_rq3_
    have eM := eM.symm; subst eM
    have cq5_ : ¬ ((0 : Int) ≤ k.toInt ∧ k.toInt ≤ (2 : Int)) := cq5_
    refine jif_eq (tgt := 18) hx hb dX10_again_6 (by decide) (fun cq32_ => ?_) (fun cq32_ => absurd cq32_ (by decide))
    refine lv_iconst (v := 0) hx hb dX10_again_18 (by decide) ?_
    exact ret_z hC hr hlk hK hH (by first | exact Or.inl rfl | exact Or.inr rfl | assumption) (⟨f, ⟨hR_f, hK_f⟩, ta, ⟨by omega, by omega⟩, fpm, iRg _, Or.inr (⟨⟨fun z9 => by omega, rfl⟩, rfl, hc_al, hc_h⟩), rfl, hF⟩) (Nat.le_of_ble_eq_true rfl) (Nat.le_of_ble_eq_true rfl) dX10_again_19
