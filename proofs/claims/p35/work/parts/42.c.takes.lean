set_option maxHeartbeats 4000000 in
set_option maxRecDepth 100000 in
theorem c_X10_isLetter {l : Launch} {D : va_G} {kA : Nat → ClassId} {M : mM} {T : mT} {sz : Nat} {c_ : Int32}  : mCi l yX10_isLetter cX10_isLetter 1 (some .boolean) 0 0 0 D kA M T sz [.int c_] (fun r u => (((97 ≤ c_.toInt ∧ c_.toInt ≤ 122) ∧ r = 1) ∨ ((¬ (97 ≤ c_.toInt ∧ c_.toInt ≤ 122)) ∧ r = 0)) ∧ u.2 = T ∧ u.1 = M) := by
  unfold mCi
  refine start_W (by decide) (Nat.le_of_ble_eq_true rfl) ?_
  intro p e s m below meth c ls hC hr hlk hnm hK hH hsz hl
  have hx := hC.1
  have hb := hC.2.1
  have hl : lv_has ls 1 [(0, .int c_)] := hl
  refine lv_iload_n hx hb dX10_isLetter_0 rfl (lv_at hl 0 rfl) ?_
  refine lv_bipush (v := 97) hx hb dX10_isLetter_1 (by decide) ?_
  refine jic_lt (tgt := 16) hx hb dX10_isLetter_3 (by decide) (fun cq1_ => ?_) (fun cq1_ => ?_)
  · skip
    have cq1_ : c_.toInt < 97 := cq1_
    refine lv_iconst (v := 0) hx hb dX10_isLetter_16 (by decide) ?_
    exact ret_z hC hr hlk hK hH (by first | exact Or.inl rfl | exact Or.inr rfl | assumption) (⟨Or.inr (⟨by omega, rfl⟩), rfl, rfl⟩) (Nat.le_of_ble_eq_true rfl) (Nat.le_of_ble_eq_true rfl) dX10_isLetter_17
  · skip
    have cq1_ : 97 ≤ c_.toInt := cq1_
    refine lv_iload_n hx hb dX10_isLetter_6 rfl (lv_at hl 0 rfl) ?_
    refine lv_bipush (v := 122) hx hb dX10_isLetter_7 (by decide) ?_
    refine jic_gt (tgt := 16) hx hb dX10_isLetter_9 (by decide) (fun cq2_ => ?_) (fun cq2_ => ?_)
    · skip
      have cq2_ : 122 < c_.toInt := cq2_
      refine lv_iconst (v := 0) hx hb dX10_isLetter_16 (by decide) ?_
      exact ret_z hC hr hlk hK hH (by first | exact Or.inl rfl | exact Or.inr rfl | assumption) (⟨Or.inr (⟨by omega, rfl⟩), rfl, rfl⟩) (Nat.le_of_ble_eq_true rfl) (Nat.le_of_ble_eq_true rfl) dX10_isLetter_17
    · skip
      have cq2_ : c_.toInt ≤ 122 := cq2_
      refine lv_iconst (v := 1) hx hb dX10_isLetter_12 (by decide) ?_
      refine lv_goto (tgt := 17) hx hb dX10_isLetter_13 (by decide) ?_
      exact ret_z hC hr hlk hK hH (by first | exact Or.inl rfl | exact Or.inr rfl | assumption) (⟨Or.inl (⟨by omega, rfl⟩), rfl, rfl⟩) (Nat.le_of_ble_eq_true rfl) (Nat.le_of_ble_eq_true rfl) dX10_isLetter_17
set_option maxHeartbeats 4000000 in
set_option maxRecDepth 100000 in
theorem c_X10_isDigit {l : Launch} {D : va_G} {kA : Nat → ClassId} {M : mM} {T : mT} {sz : Nat} {c_ : Int32}  : mCi l yX10_isDigit cX10_isDigit 1 (some .boolean) 0 0 0 D kA M T sz [.int c_] (fun r u => (((48 ≤ c_.toInt ∧ c_.toInt ≤ 57) ∧ r = 1) ∨ ((¬ (48 ≤ c_.toInt ∧ c_.toInt ≤ 57)) ∧ r = 0)) ∧ u.2 = T ∧ u.1 = M) := by
  unfold mCi
  refine start_W (by decide) (Nat.le_of_ble_eq_true rfl) ?_
  intro p e s m below meth c ls hC hr hlk hnm hK hH hsz hl
  have hx := hC.1
  have hb := hC.2.1
  have hl : lv_has ls 1 [(0, .int c_)] := hl
  refine lv_iload_n hx hb dX10_isDigit_0 rfl (lv_at hl 0 rfl) ?_
  refine lv_bipush (v := 48) hx hb dX10_isDigit_1 (by decide) ?_
  refine jic_lt (tgt := 16) hx hb dX10_isDigit_3 (by decide) (fun cq1_ => ?_) (fun cq1_ => ?_)
  · skip
    have cq1_ : c_.toInt < 48 := cq1_
    refine lv_iconst (v := 0) hx hb dX10_isDigit_16 (by decide) ?_
    exact ret_z hC hr hlk hK hH (by first | exact Or.inl rfl | exact Or.inr rfl | assumption) (⟨Or.inr (⟨by omega, rfl⟩), rfl, rfl⟩) (Nat.le_of_ble_eq_true rfl) (Nat.le_of_ble_eq_true rfl) dX10_isDigit_17
  · skip
    have cq1_ : 48 ≤ c_.toInt := cq1_
    refine lv_iload_n hx hb dX10_isDigit_6 rfl (lv_at hl 0 rfl) ?_
    refine lv_bipush (v := 57) hx hb dX10_isDigit_7 (by decide) ?_
    refine jic_gt (tgt := 16) hx hb dX10_isDigit_9 (by decide) (fun cq2_ => ?_) (fun cq2_ => ?_)
    · skip
      have cq2_ : 57 < c_.toInt := cq2_
      refine lv_iconst (v := 0) hx hb dX10_isDigit_16 (by decide) ?_
      exact ret_z hC hr hlk hK hH (by first | exact Or.inl rfl | exact Or.inr rfl | assumption) (⟨Or.inr (⟨by omega, rfl⟩), rfl, rfl⟩) (Nat.le_of_ble_eq_true rfl) (Nat.le_of_ble_eq_true rfl) dX10_isDigit_17
    · skip
      have cq2_ : c_.toInt ≤ 57 := cq2_
      refine lv_iconst (v := 1) hx hb dX10_isDigit_12 (by decide) ?_
      refine lv_goto (tgt := 17) hx hb dX10_isDigit_13 (by decide) ?_
      exact ret_z hC hr hlk hK hH (by first | exact Or.inl rfl | exact Or.inr rfl | assumption) (⟨Or.inl (⟨by omega, rfl⟩), rfl, rfl⟩) (Nat.le_of_ble_eq_true rfl) (Nat.le_of_ble_eq_true rfl) dX10_isDigit_17
set_option maxHeartbeats 4000000 in
set_option maxRecDepth 100000 in
theorem c_X10_byteAt {l : Launch} {D : va_G} {kA : Nat → ClassId} {M : mM} {T : mT} {sz : Nat} {h al mt ii pa li : Nat} {ta fpm sm nx tk pl ln wr : Int32} {va : Int64} {k : Int32} {ft : Nat → Int32} (hc_h : M h = some (.inr (8, [.ref al, .ref mt, .ref ii, .int ta, .int fpm, .ref pa, .int sm, .int nx, .int tk, .int pl, .int ln, .long va, .int wr, .ref li]))) (hn_h : T h = none) (hc_mt : M mt = some (.inl (kA 0, 600, .inl ft))) (ht_mt : T mt = some 11) (ht_pa : T pa = some 13) (ht_li : T li = some 14) (hsm : 0 ≤ sm.toInt ∧ sm.toInt ≤ 600) (hk0 : 0 ≤ k.toInt) : mCi l yX10_byteAt cX10_byteAt 2 (some .int) 0 0 0 D kA M T sz [.ref h, .int k] (fun r u => (((k.toInt < sm.toInt ∧ r = ft k.toInt.toNat)) ∨ (sm.toInt ≤ k.toInt ∧ r = -1)) ∧ u.2 = T ∧ u.1 = M) := by
  unfold mCi
  refine start_W (by decide) (Nat.le_of_ble_eq_true rfl) ?_
  intro p e s m below meth c ls hC hr hlk hnm hK hH hsz hl
  have hx := hC.1
  have hb := hC.2.1
  have hl : lv_has ls 2 [(0, .ref h), (1, .int k)] := hl
  have n_h_mt : h ≠ mt := neM hc_h hc_mt (by simp)
  have n_mt_h : mt ≠ h := neM hc_mt hc_h (by simp)
  refine lv_iload_n hx hb dX10_byteAt_0 rfl (lv_at hl 1 rfl) ?_
  refine lv_aload_n hx hb dX10_byteAt_1 rfl (lv_at hl 0 rfl) ?_
  refine xg hC hK hH flX10_201 hc_h rfl dX10_byteAt_2 ?_
  refine jic_ge (tgt := 17) hx hb dX10_byteAt_5 (by decide) (fun cq1_ => ?_) (fun cq1_ => ?_)
  · skip
    have cq1_ : sm.toInt ≤ k.toInt := cq1_
    refine lv_iconst (v := -1) hx hb dX10_byteAt_17 (by decide) ?_
    exact ret_i hC hr hlk hK hH (⟨Or.inr (⟨by omega, rfl⟩), rfl, rfl⟩) (Nat.le_of_ble_eq_true rfl) (Nat.le_of_ble_eq_true rfl) dX10_byteAt_18
  · skip
    have cq1_ : k.toInt < sm.toInt := cq1_
    refine lv_aload_n hx hb dX10_byteAt_8 rfl (lv_at hl 0 rfl) ?_
    refine xg hC hK hH flX10_13 hc_h rfl dX10_byteAt_9 ?_
    refine lv_iload_n hx hb dX10_byteAt_12 rfl (lv_at hl 1 rfl) ?_
    refine xild hC hK hH hc_mt (iIn (by omega) (by omega)) dX10_byteAt_13 ?_
    refine lv_topi (fun xq2_ e_xq2_ => ?_)
    refine lv_goto (tgt := 18) hx hb dX10_byteAt_14 (by decide) ?_
    exact ret_i hC hr hlk hK hH (⟨Or.inl (⟨by omega, e_xq2_⟩), rfl, rfl⟩) (Nat.le_of_ble_eq_true rfl) (Nat.le_of_ble_eq_true rfl) dX10_byteAt_18
set_option maxHeartbeats 4000000 in
set_option maxRecDepth 100000 in
theorem c_X10_takes {l : Launch} {D : va_G} {kA : Nat → ClassId} {M : mM} {T : mT} {sz : Nat} {h al mt ii pa li : Nat} {ta fpm sm nx tk pl ln wr : Int32} {va : Int64} {ft : Nat → Int32} (hc_h : M h = some (.inr (8, [.ref al, .ref mt, .ref ii, .int ta, .int fpm, .ref pa, .int sm, .int nx, .int tk, .int pl, .int ln, .long va, .int wr, .ref li]))) (hn_h : T h = none) (hc_mt : M mt = some (.inl (kA 0, 600, .inl ft))) (ht_mt : T mt = some 11) (ht_pa : T pa = some 13) (ht_li : T li = some 14) (hsm : 0 ≤ sm.toInt ∧ sm.toInt ≤ 600) (hnx : 0 ≤ nx.toInt ∧ nx.toInt ≤ sm.toInt) : mCv l yX10_takes cX10_takes 2 1 0 0 D kA M T sz [.ref h] (fun u => ∃ va2 : Int64, ∃ nx2 : Int32, ((0 : Int) ≤ nx2.toInt ∧ nx2.toInt ≤ 600) ∧ ∃ tk2 : Int32, ((0 : Int) ≤ tk2.toInt ∧ tk2.toInt ≤ 4) ∧ ∃ pl2 : Int32, ((0 : Int) ≤ pl2.toInt ∧ pl2.toInt ≤ 600) ∧ ((nx.toInt ≤ pl2.toInt ∧ pl2.toInt ≤ nx2.toInt ∧ nx2.toInt ≤ sm.toInt ∧ (tk2.toInt = 0 ∨ pl2.toInt < nx2.toInt) ∧ (tk2.toInt ≠ 1 ∨ nx2.toInt ≠ pl2.toInt + 1 ∨ va2.toInt ≤ 26)) ∧ u.1 h = some (.inr (8, [.ref al, .ref mt, .ref ii, .int ta, .int fpm, .ref pa, .int sm, .int nx2, .int tk2, .int pl2, .int ln, .long va2, .int wr, .ref li])) ∧ u.1 mt = some (.inl (kA 0, 600, .inl ft))) ∧ u.2 = T ∧ (∀ q, FrK T q → q ≠ h → q ≠ mt → u.1 q = M q)) := by
  unfold mCv
  refine start_W (by decide) (Nat.le_of_ble_eq_true rfl) ?_
  intro p e s m below meth c ls hC hr hlk hnm hK hH hsz hl
  have hx := hC.1
  have hb := hC.2.1
  have hl : lv_has ls 2 [(0, .ref h)] := hl
  have hF : ∀ q, FrK T q → q ≠ h → q ≠ mt → M q = M q := fun q _ _ _ => rfl
  have n_h_mt : h ≠ mt := neM hc_h hc_mt (by simp)
  have n_mt_h : mt ≠ h := neM hc_mt hc_h (by simp)
  have loop : ∀ (n : Nat) (yq1_ : Int32) (Hq_ : Heap) (lcq_ : List Loc) (Mq2_ : mM) (ls : Array Slot), sm.toInt - yq1_.toInt + 1 ≤ (n : Int) → (0 : Int) ≤ yq1_.toInt → yq1_.toInt ≤ 600 → (nx.toInt ≤ yq1_.toInt) → (yq1_.toInt ≤ sm.toInt) → Mq2_ h = some (.inr (8, [.ref al, .ref mt, .ref ii, .int ta, .int fpm, .ref pa, .int sm, .int yq1_, .int tk, .int pl, .int ln, .long va, .int wr, .ref li])) → Mq2_ mt = some (.inl (kA 0, 600, .inl ft)) → (∀ q, FrK T q → q ≠ h → q ≠ mt → Mq2_ q = M q) → mS D kA Mq2_ T (mA M T sz) s.heap Hq_ lcq_ → lv_has ls 2 [(0, .ref h)] → W p l e (rmL 1 0 0) s m ([.ref h] : List Value).toArray below meth c Hq_ lcq_ 0 0 (MQ below (va_Qv (fun u => ∃ va2 : Int64, ∃ nx2 : Int32, ((0 : Int) ≤ nx2.toInt ∧ nx2.toInt ≤ 600) ∧ ∃ tk2 : Int32, ((0 : Int) ≤ tk2.toInt ∧ tk2.toInt ≤ 4) ∧ ∃ pl2 : Int32, ((0 : Int) ≤ pl2.toInt ∧ pl2.toInt ≤ 600) ∧ ((nx.toInt ≤ pl2.toInt ∧ pl2.toInt ≤ nx2.toInt ∧ nx2.toInt ≤ sm.toInt ∧ (tk2.toInt = 0 ∨ pl2.toInt < nx2.toInt) ∧ (tk2.toInt ≠ 1 ∨ nx2.toInt ≠ pl2.toInt + 1 ∨ va2.toInt ≤ 26)) ∧ u.1 h = some (.inr (8, [.ref al, .ref mt, .ref ii, .int ta, .int fpm, .ref pa, .int sm, .int nx2, .int tk2, .int pl2, .int ln, .long va2, .int wr, .ref li])) ∧ u.1 mt = some (.inl (kA 0, 600, .inl ft))) ∧ u.2 = T ∧ (∀ q, FrK T q → q ≠ h → q ≠ mt → u.1 q = M q)) (mB D kA M T sz) (mA M T sz)) ([.ref h] : List Value).toArray s 0 0 (mA M T sz)) (F0 m 0 ls []) := by
    intro n
    induction n with
    | zero =>
      intro yq1_ Hq_ lcq_ Mq2_ ls hme l_yq1_ g_yq1_ hv0_yq1_ hv1_yq1_ hc_h hc_mt hF hH hl
      exfalso; omega
    | succ n ih =>
      intro yq1_ Hq_ lcq_ Mq2_ ls hme l_yq1_ g_yq1_ hv0_yq1_ hv1_yq1_ hc_h hc_mt hF hH hl
      refine lv_aload_n hx hb dX10_takes_0 rfl (lv_at hl 0 rfl) ?_
      refine lv_aload_n hx hb dX10_takes_1 rfl (lv_at hl 0 rfl) ?_
      refine xg hC hK hH flX10_204 hc_h rfl dX10_takes_2 ?_
      refine goI hK hH (runV (As := [.int yq1_]) (rest := []) hC hK hH (c_X10_byteAt hc_h hn_h hc_mt ht_mt ht_pa ht_li (by omega) (by omega)) mlX10_207 (rcvM hK hH hc_h rfl) ⟨⟨Nat.le_of_ble_eq_true rfl, Nat.le_of_ble_eq_true rfl⟩, Nat.le_of_ble_eq_true rfl, Nat.le_of_ble_eq_true rfl⟩ rfl hl.1 rfl (Nat.le_of_ble_eq_true rfl) dX10_takes_5) (fun rq5_ Mq3_ Tq4_ Hq_ lcq_ hP hz hH => ?_)
      try dsimp only at hP
      obtain ⟨(cq6_ | ⟨cq7_, er_rq5_⟩), eT, eM⟩ := hP
      · skip
        have eT := eT.symm; subst eT
        have eM := eM.symm; subst eM
        have cq6_ : yq1_.toInt < sm.toInt ∧ rq5_ = ft yq1_.toInt.toNat := cq6_
        refine lv_bipush (v := 32) hx hb dX10_takes_8 (by decide) ?_
        refine jic_eq (tgt := 26) hx hb dX10_takes_10 (by decide) (fun cq8_ => ?_) (fun cq8_ => ?_)
        · skip
          have cq8_ : rq5_.toInt = 32 := cq8_
          refine lv_aload_n hx hb dX10_takes_26 rfl (lv_at hl 0 rfl) ?_
          refine lv_dup hx hb dX10_takes_27 rfl ?_
          refine xg hC hK hH flX10_204 hc_h rfl dX10_takes_28 ?_
          refine lv_iconst (v := 1) hx hb dX10_takes_31 (by decide) ?_
          refine lv_iadd hx hb dX10_takes_32 ?_
          refine lv_topi (fun zq9_ e_zq9_ => ?_)
          have h_zq9_ : zq9_.toInt = yq1_.toInt + 1 := by rw [e_zq9_, iAdd (by have := iRg yq1_; have : (1 : Int32).toInt = 1 := rfl; omega) (by have := iRg yq1_; have : (1 : Int32).toInt = 1 := rfl; omega)]; rfl
          refine yp (v := .int zq9_) hC hK hH flX10_204 hc_h (noT hn_h) rfl rfl (Nat.le_of_ble_eq_true rfl) dX10_takes_33 (fun Hq_ lcq_ Mq10_ hc_h hfr hH => ?_)
          have hc_h : Mq10_ h = some (.inr (8, [.ref al, .ref mt, .ref ii, .int ta, .int fpm, .ref pa, .int sm, .int zq9_, .int tk, .int pl, .int ln, .long va, .int wr, .ref li])) := hc_h
          have hc_mt : Mq10_ mt = some (.inl (kA 0, 600, .inl ft)) := (hfr mt n_mt_h).trans hc_mt
          have hF : ∀ q, FrK T q → q ≠ h → q ≠ mt → Mq10_ q = M q := fun q hq h0 h1 => (hfr q h0).trans (hF q hq h0 h1)
          refine lv_goto (tgt := 0) hx hb dX10_takes_36 (by decide) ?_
          exact ih zq9_ _ _ _ ls (by have := iRg zq9_; omega) (by have := iRg zq9_; omega) (by have := iRg zq9_; omega) (by have := iRg zq9_; omega) (by have := iRg zq9_; omega) hc_h hc_mt hF hH (lv_sub hl [0] rfl)
        · skip
          have cq8_ : rq5_.toInt ≠ 32 := cq8_
          refine lv_aload_n hx hb dX10_takes_13 rfl (lv_at hl 0 rfl) ?_
          refine lv_aload_n hx hb dX10_takes_14 rfl (lv_at hl 0 rfl) ?_
          refine xg hC hK hH flX10_204 hc_h rfl dX10_takes_15 ?_
          refine goI hK hH (runV (As := [.int yq1_]) (rest := []) hC hK hH (c_X10_byteAt hc_h hn_h hc_mt ht_mt ht_pa ht_li (by omega) (by omega)) mlX10_207 (rcvM hK hH hc_h rfl) ⟨⟨Nat.le_of_ble_eq_true rfl, Nat.le_of_ble_eq_true rfl⟩, Nat.le_of_ble_eq_true rfl, Nat.le_of_ble_eq_true rfl⟩ rfl hl.1 rfl (Nat.le_of_ble_eq_true rfl) dX10_takes_18) (fun rq13_ Mq11_ Tq12_ Hq_ lcq_ hP hz hH => ?_)
          try dsimp only at hP
          obtain ⟨(cq14_ | ⟨cq15_, er_rq13_⟩), eT, eM⟩ := hP
          · skip
            have eT := eT.symm; subst eT
            have eM := eM.symm; subst eM
            have cq14_ : yq1_.toInt < sm.toInt ∧ rq13_ = ft yq1_.toInt.toNat := cq14_
            refine lv_bipush (v := 10) hx hb dX10_takes_21 (by decide) ?_
            refine jic_ne (tgt := 39) hx hb dX10_takes_23 (by decide) (fun cq16_ => ?_) (fun cq16_ => ?_)
            · skip
              have cq16_ : rq13_.toInt ≠ 10 := cq16_
              refine lv_aload_n hx hb dX10_takes_39 rfl (lv_at hl 0 rfl) ?_
              refine lv_aload_n hx hb dX10_takes_40 rfl (lv_at hl 0 rfl) ?_
              refine xg hC hK hH flX10_204 hc_h rfl dX10_takes_41 ?_
              refine yp (v := .int yq1_) hC hK hH flX10_210 hc_h (noT hn_h) rfl rfl (Nat.le_of_ble_eq_true rfl) dX10_takes_44 (fun Hq_ lcq_ Mq17_ hc_h hfr hH => ?_)
              have hc_h : Mq17_ h = some (.inr (8, [.ref al, .ref mt, .ref ii, .int ta, .int fpm, .ref pa, .int sm, .int yq1_, .int tk, .int yq1_, .int ln, .long va, .int wr, .ref li])) := hc_h
              have hc_mt : Mq17_ mt = some (.inl (kA 0, 600, .inl ft)) := (hfr mt n_mt_h).trans hc_mt
              have hF : ∀ q, FrK T q → q ≠ h → q ≠ mt → Mq17_ q = M q := fun q hq h0 h1 => (hfr q h0).trans (hF q hq h0 h1)
              refine lv_aload_n hx hb dX10_takes_47 rfl (lv_at hl 0 rfl) ?_
              refine lv_aload_n hx hb dX10_takes_48 rfl (lv_at hl 0 rfl) ?_
              refine xg hC hK hH flX10_204 hc_h rfl dX10_takes_49 ?_
              refine goI hK hH (runV (As := [.int yq1_]) (rest := []) hC hK hH (c_X10_byteAt hc_h hn_h hc_mt ht_mt ht_pa ht_li (by omega) (by omega)) mlX10_207 (rcvM hK hH hc_h rfl) ⟨⟨Nat.le_of_ble_eq_true rfl, Nat.le_of_ble_eq_true rfl⟩, Nat.le_of_ble_eq_true rfl, Nat.le_of_ble_eq_true rfl⟩ rfl hl.1 rfl (Nat.le_of_ble_eq_true rfl) dX10_takes_52) (fun rq20_ Mq18_ Tq19_ Hq_ lcq_ hP hz hH => ?_)
              try dsimp only at hP
              obtain ⟨(cq21_ | ⟨cq22_, er_rq20_⟩), eT, eM⟩ := hP
              · skip
                have eT := eT.symm; subst eT
                have eM := eM.symm; subst eM
                have cq21_ : yq1_.toInt < sm.toInt ∧ rq20_ = ft yq1_.toInt.toNat := cq21_
                refine lv_istore_n (lv' := [(1, .int rq20_), (0, .ref h)]) hx hb dX10_takes_55 rfl hl (by decide) rfl (fun ls hl => ?_)
                refine lv_aload_n hx hb dX10_takes_56 rfl (lv_at hl 1 rfl) ?_
                refine lv_lconst (v := 0) hx hb dX10_takes_57 (by decide) ?_
                refine yp (v := .long 0) hC hK hH flX10_213 hc_h (noT hn_h) rfl rfl (Nat.le_of_ble_eq_true rfl) dX10_takes_58 (fun Hq_ lcq_ Mq23_ hc_h hfr hH => ?_)
                have hc_h : Mq23_ h = some (.inr (8, [.ref al, .ref mt, .ref ii, .int ta, .int fpm, .ref pa, .int sm, .int yq1_, .int tk, .int yq1_, .int ln, .long 0, .int wr, .ref li])) := hc_h
                have hc_mt : Mq23_ mt = some (.inl (kA 0, 600, .inl ft)) := (hfr mt n_mt_h).trans hc_mt
                have hF : ∀ q, FrK T q → q ≠ h → q ≠ mt → Mq23_ q = M q := fun q hq h0 h1 => (hfr q h0).trans (hF q hq h0 h1)
                refine lv_iload_n hx hb dX10_takes_61 rfl (lv_at hl 0 rfl) ?_
                refine jif_ge (tgt := 73) hx hb dX10_takes_62 (by decide) (fun cq24_ => ?_) (fun cq24_ => ?_)
                · skip
                  have cq24_ : 0 ≤ rq20_.toInt := cq24_
                  refine lv_iload_n hx hb dX10_takes_73 rfl (lv_at hl 0 rfl) ?_
                  refine goI hK hH (runS (As := [.int rq20_]) (rest := []) hC hK hH (c_X10_isLetter) mlX10_220 ⟨⟨Nat.le_of_ble_eq_true rfl, Nat.le_of_ble_eq_true rfl⟩, Nat.le_of_ble_eq_true rfl, Nat.le_of_ble_eq_true rfl⟩ rfl hl.1 rfl (Nat.le_of_ble_eq_true rfl) dX10_takes_74) (fun rq27_ Mq25_ Tq26_ Hq_ lcq_ hP hz hH => ?_)
                  try dsimp only at hP
                  obtain ⟨(⟨cq28_, er_rq27_⟩ | ⟨cq29_, er_rq27_⟩), eT, eM⟩ := hP
                  · skip
                    have eT := eT.symm; subst eT
                    have er_rq27_ := er_rq27_.symm; subst er_rq27_
                    have eM := eM.symm; subst eM
                    have cq28_ : 97 ≤ rq20_.toInt ∧ rq20_.toInt ≤ 122 := cq28_
                    refine jif_eq (tgt := 161) hx hb dX10_takes_77 (by decide) (fun cq30_ => absurd cq30_ (by decide)) (fun cq30_ => ?_)
                    refine lv_aload_n hx hb dX10_takes_80 rfl (lv_at hl 1 rfl) ?_
                    refine lv_iconst (v := 1) hx hb dX10_takes_81 (by decide) ?_
                    refine yp (v := .int 1) hC hK hH flX10_217 hc_h (noT hn_h) rfl rfl (Nat.le_of_ble_eq_true rfl) dX10_takes_82 (fun Hq_ lcq_ Mq31_ hc_h hfr hH => ?_)
                    have hc_h : Mq31_ h = some (.inr (8, [.ref al, .ref mt, .ref ii, .int ta, .int fpm, .ref pa, .int sm, .int yq1_, .int 1, .int yq1_, .int ln, .long 0, .int wr, .ref li])) := hc_h
                    have hc_mt : Mq31_ mt = some (.inl (kA 0, 600, .inl ft)) := (hfr mt n_mt_h).trans hc_mt
                    have hF : ∀ q, FrK T q → q ≠ h → q ≠ mt → Mq31_ q = M q := fun q hq h0 h1 => (hfr q h0).trans (hF q hq h0 h1)
                    have loop : ∀ (n : Nat) (yq32_ : Int32) (yq33_ : Int64) (Hq_ : Heap) (lcq_ : List Loc) (Mq34_ : mM) (ls : Array Slot), sm.toInt - yq32_.toInt + 1 ≤ (n : Int) → (0 : Int) ≤ yq32_.toInt → yq32_.toInt ≤ 600 → (yq1_.toInt ≤ yq32_.toInt) → (yq32_.toInt ≤ sm.toInt) → (yq32_.toInt ≠ yq1_.toInt ∨ yq33_.toInt = 0) → (yq32_.toInt ≠ yq1_.toInt + 1 ∨ yq33_.toInt ≤ 26) → Mq34_ h = some (.inr (8, [.ref al, .ref mt, .ref ii, .int ta, .int fpm, .ref pa, .int sm, .int yq32_, .int 1, .int yq1_, .int ln, .long yq33_, .int wr, .ref li])) → Mq34_ mt = some (.inl (kA 0, 600, .inl ft)) → (∀ q, FrK T q → q ≠ h → q ≠ mt → Mq34_ q = M q) → mS D kA Mq34_ T (mA M T sz) s.heap Hq_ lcq_ → lv_has ls 2 [(1, .int rq20_), (0, .ref h)] → W p l e (rmL 1 0 0) s m ([.ref h] : List Value).toArray below meth c Hq_ lcq_ 0 0 (MQ below (va_Qv (fun u => ∃ va2 : Int64, ∃ nx2 : Int32, ((0 : Int) ≤ nx2.toInt ∧ nx2.toInt ≤ 600) ∧ ∃ tk2 : Int32, ((0 : Int) ≤ tk2.toInt ∧ tk2.toInt ≤ 4) ∧ ∃ pl2 : Int32, ((0 : Int) ≤ pl2.toInt ∧ pl2.toInt ≤ 600) ∧ ((nx.toInt ≤ pl2.toInt ∧ pl2.toInt ≤ nx2.toInt ∧ nx2.toInt ≤ sm.toInt ∧ (tk2.toInt = 0 ∨ pl2.toInt < nx2.toInt) ∧ (tk2.toInt ≠ 1 ∨ nx2.toInt ≠ pl2.toInt + 1 ∨ va2.toInt ≤ 26)) ∧ u.1 h = some (.inr (8, [.ref al, .ref mt, .ref ii, .int ta, .int fpm, .ref pa, .int sm, .int nx2, .int tk2, .int pl2, .int ln, .long va2, .int wr, .ref li])) ∧ u.1 mt = some (.inl (kA 0, 600, .inl ft))) ∧ u.2 = T ∧ (∀ q, FrK T q → q ≠ h → q ≠ mt → u.1 q = M q)) (mB D kA M T sz) (mA M T sz)) ([.ref h] : List Value).toArray s 0 0 (mA M T sz)) (F0 m 85 ls []) := by
                      intro n
                      induction n with
                      | zero =>
                        intro yq32_ yq33_ Hq_ lcq_ Mq34_ ls hme l_yq32_ g_yq32_ hv0_yq32_ hv1_yq32_ hv2_yq32_ hv3_yq32_ hc_h hc_mt hF hH hl
                        exfalso; omega
                      | succ n ih =>
                        intro yq32_ yq33_ Hq_ lcq_ Mq34_ ls hme l_yq32_ g_yq32_ hv0_yq32_ hv1_yq32_ hv2_yq32_ hv3_yq32_ hc_h hc_mt hF hH hl
                        refine lv_aload_n hx hb dX10_takes_85 rfl (lv_at hl 1 rfl) ?_
                        refine lv_aload_n hx hb dX10_takes_86 rfl (lv_at hl 1 rfl) ?_
                        refine xg hC hK hH flX10_204 hc_h rfl dX10_takes_87 ?_
                        refine goI hK hH (runV (As := [.int yq32_]) (rest := []) hC hK hH (c_X10_byteAt hc_h hn_h hc_mt ht_mt ht_pa ht_li (by omega) (by omega)) mlX10_207 (rcvM hK hH hc_h rfl) ⟨⟨Nat.le_of_ble_eq_true rfl, Nat.le_of_ble_eq_true rfl⟩, Nat.le_of_ble_eq_true rfl, Nat.le_of_ble_eq_true rfl⟩ rfl hl.1 rfl (Nat.le_of_ble_eq_true rfl) dX10_takes_90) (fun rq37_ Mq35_ Tq36_ Hq_ lcq_ hP hz hH => ?_)
                        try dsimp only at hP
                        obtain ⟨(cq38_ | ⟨cq39_, er_rq37_⟩), eT, eM⟩ := hP
                        · skip
                          have eT := eT.symm; subst eT
                          have eM := eM.symm; subst eM
                          have cq38_ : yq32_.toInt < sm.toInt ∧ rq37_ = ft yq32_.toInt.toNat := cq38_
                          refine goI hK hH (runS (As := [.int rq37_]) (rest := []) hC hK hH (c_X10_isLetter) mlX10_220 ⟨⟨Nat.le_of_ble_eq_true rfl, Nat.le_of_ble_eq_true rfl⟩, Nat.le_of_ble_eq_true rfl, Nat.le_of_ble_eq_true rfl⟩ rfl hl.1 rfl (Nat.le_of_ble_eq_true rfl) dX10_takes_93) (fun rq42_ Mq40_ Tq41_ Hq_ lcq_ hP hz hH => ?_)
                          try dsimp only at hP
                          obtain ⟨(⟨cq43_, er_rq42_⟩ | ⟨cq44_, er_rq42_⟩), eT, eM⟩ := hP
                          · skip
                            have eT := eT.symm; subst eT
                            have er_rq42_ := er_rq42_.symm; subst er_rq42_
                            have eM := eM.symm; subst eM
                            have cq43_ : 97 ≤ rq37_.toInt ∧ rq37_.toInt ≤ 122 := cq43_
                            refine jif_eq (tgt := 291) hx hb dX10_takes_96 (by decide) (fun cq45_ => absurd cq45_ (by decide)) (fun cq45_ => ?_)
                            refine lv_aload_n hx hb dX10_takes_99 rfl (lv_at hl 1 rfl) ?_
                            refine lv_aload_n hx hb dX10_takes_100 rfl (lv_at hl 1 rfl) ?_
                            refine xg hC hK hH flX10_204 hc_h rfl dX10_takes_101 ?_
                            refine lv_aload_n hx hb dX10_takes_104 rfl (lv_at hl 1 rfl) ?_
                            refine xg hC hK hH flX10_210 hc_h rfl dX10_takes_105 ?_
                            refine lv_isub hx hb dX10_takes_108 ?_
                            refine lv_topi (fun zq46_ e_zq46_ => ?_)
                            have h_zq46_ : zq46_.toInt = yq32_.toInt - yq1_.toInt := by rw [e_zq46_, iSub (by have := iRg yq32_; have := iRg yq1_; omega) (by have := iRg yq32_; have := iRg yq1_; omega)]
                            refine lv_bipush (v := 9) hx hb dX10_takes_109 (by decide) ?_
                            refine jic_ge (tgt := 141) hx hb dX10_takes_111 (by decide) (fun cq47_ => ?_) (fun cq47_ => ?_)
                            · skip
                              have cq47_ : 9 ≤ zq46_.toInt := cq47_
                              refine lv_aload_n hx hb dX10_takes_141 rfl (lv_at hl 1 rfl) ?_
                              refine xg hC hK hH flX10_213 hc_h rfl dX10_takes_142 ?_
                              refine yp (v := .long yq33_) hC hK hH flX10_213 hc_h (noT hn_h) rfl rfl (Nat.le_of_ble_eq_true rfl) dX10_takes_145 (fun Hq_ lcq_ Mq48_ hc_h hfr hH => ?_)
                              have hc_h : Mq48_ h = some (.inr (8, [.ref al, .ref mt, .ref ii, .int ta, .int fpm, .ref pa, .int sm, .int yq32_, .int 1, .int yq1_, .int ln, .long yq33_, .int wr, .ref li])) := hc_h
                              have hc_mt : Mq48_ mt = some (.inl (kA 0, 600, .inl ft)) := (hfr mt n_mt_h).trans hc_mt
                              have hF : ∀ q, FrK T q → q ≠ h → q ≠ mt → Mq48_ q = M q := fun q hq h0 h1 => (hfr q h0).trans (hF q hq h0 h1)
                              refine lv_aload_n hx hb dX10_takes_148 rfl (lv_at hl 1 rfl) ?_
                              refine lv_dup hx hb dX10_takes_149 rfl ?_
                              refine xg hC hK hH flX10_204 hc_h rfl dX10_takes_150 ?_
                              refine lv_iconst (v := 1) hx hb dX10_takes_153 (by decide) ?_
                              refine lv_iadd hx hb dX10_takes_154 ?_
                              refine lv_topi (fun zq49_ e_zq49_ => ?_)
                              have h_zq49_ : zq49_.toInt = yq32_.toInt + 1 := by rw [e_zq49_, iAdd (by have := iRg yq32_; have : (1 : Int32).toInt = 1 := rfl; omega) (by have := iRg yq32_; have : (1 : Int32).toInt = 1 := rfl; omega)]; rfl
                              refine yp (v := .int zq49_) hC hK hH flX10_204 hc_h (noT hn_h) rfl rfl (Nat.le_of_ble_eq_true rfl) dX10_takes_155 (fun Hq_ lcq_ Mq50_ hc_h hfr hH => ?_)
                              have hc_h : Mq50_ h = some (.inr (8, [.ref al, .ref mt, .ref ii, .int ta, .int fpm, .ref pa, .int sm, .int zq49_, .int 1, .int yq1_, .int ln, .long yq33_, .int wr, .ref li])) := hc_h
                              have hc_mt : Mq50_ mt = some (.inl (kA 0, 600, .inl ft)) := (hfr mt n_mt_h).trans hc_mt
                              have hF : ∀ q, FrK T q → q ≠ h → q ≠ mt → Mq50_ q = M q := fun q hq h0 h1 => (hfr q h0).trans (hF q hq h0 h1)
                              refine lv_goto (tgt := 85) hx hb dX10_takes_158 (by decide) ?_
                              exact ih zq49_ yq33_ _ _ _ ls (by have := iRg zq49_; omega) (by have := iRg zq49_; omega) (by have := iRg zq49_; omega) (by have := iRg zq49_; omega) (by have := iRg zq49_; omega) (by have := iRg zq49_; omega) (by have := iRg zq49_; omega) hc_h hc_mt hF hH (lv_sub hl [0, 1] rfl)
                            · skip
                              have cq47_ : zq46_.toInt < 9 := cq47_
                              refine lv_ldc2 (v := 27) hx hb hC.2.2.2.1 (hC.2.2.2.2 _ wkX10_223) dX10_takes_114 ?_
                              refine lv_aload_n hx hb dX10_takes_117 rfl (lv_at hl 1 rfl) ?_
                              refine xg hC hK hH flX10_213 hc_h rfl dX10_takes_118 ?_
                              refine lv_lmul hx hb dX10_takes_121 ?_
                              refine lv_topl (fun zq51_ e_zq51_ => ?_)
                              refine lv_aload_n hx hb dX10_takes_122 rfl (lv_at hl 1 rfl) ?_
                              refine lv_aload_n hx hb dX10_takes_123 rfl (lv_at hl 1 rfl) ?_
                              refine xg hC hK hH flX10_204 hc_h rfl dX10_takes_124 ?_
                              refine goI hK hH (runV (As := [.int yq32_]) (rest := [.long zq51_, .ref h]) hC hK hH (c_X10_byteAt hc_h hn_h hc_mt ht_mt ht_pa ht_li (by omega) (by omega)) mlX10_207 (rcvM hK hH hc_h rfl) ⟨⟨Nat.le_of_ble_eq_true rfl, Nat.le_of_ble_eq_true rfl⟩, Nat.le_of_ble_eq_true rfl, Nat.le_of_ble_eq_true rfl⟩ rfl hl.1 rfl (Nat.le_of_ble_eq_true rfl) dX10_takes_127) (fun rq54_ Mq52_ Tq53_ Hq_ lcq_ hP hz hH => ?_)
                              try dsimp only at hP
                              obtain ⟨(cq55_ | ⟨cq56_, er_rq54_⟩), eT, eM⟩ := hP
                              · skip
                                have eT := eT.symm; subst eT
                                have eM := eM.symm; subst eM
                                have cq55_ : yq32_.toInt < sm.toInt ∧ rq54_ = ft yq32_.toInt.toNat := cq55_
                                refine lv_i2l hx hb dX10_takes_130 rfl ?_
                                refine lv_topl (fun zq57_ e_zq57_ => ?_)
                                refine lv_ladd hx hb dX10_takes_131 ?_
                                refine lv_topl (fun zq58_ e_zq58_ => ?_)
                                refine lv_ldc2 (v := 97) hx hb hC.2.2.2.1 (hC.2.2.2.2 _ wkX10_225) dX10_takes_132 ?_
                                refine lv_lsub hx hb dX10_takes_135 ?_
                                refine lv_topl (fun zq59_ e_zq59_ => ?_)
                                refine lv_lconst (v := 1) hx hb dX10_takes_136 (by decide) ?_
                                refine lv_ladd hx hb dX10_takes_137 ?_
                                refine lv_topl (fun zq60_ e_zq60_ => ?_)
                                refine lv_goto (tgt := 145) hx hb dX10_takes_138 (by decide) ?_
                                have hv9 : yq32_.toInt ≠ yq1_.toInt ∨ zq60_.toInt ≤ 26 := by
                                  by_cases h9 : yq32_.toInt = yq1_.toInt
                                  · have h8 : rq54_ = rq20_ := by rw [cq55_.2, cq21_.2, h9]
                                    have h7 := l0E (x := yq33_) (by omega)
                                    refine Or.inr ?_
                                    rw [e_zq60_, e_zq59_, e_zq58_, e_zq51_, e_zq57_, h7, h8]
                                    exact lw1 (by omega) (by omega)
                                  · exact Or.inl h9
                                refine yp (v := .long zq60_) hC hK hH flX10_213 hc_h (noT hn_h) rfl rfl (Nat.le_of_ble_eq_true rfl) dX10_takes_145 (fun Hq_ lcq_ Mq61_ hc_h hfr hH => ?_)
                                have hc_h : Mq61_ h = some (.inr (8, [.ref al, .ref mt, .ref ii, .int ta, .int fpm, .ref pa, .int sm, .int yq32_, .int 1, .int yq1_, .int ln, .long zq60_, .int wr, .ref li])) := hc_h
                                have hc_mt : Mq61_ mt = some (.inl (kA 0, 600, .inl ft)) := (hfr mt n_mt_h).trans hc_mt
                                have hF : ∀ q, FrK T q → q ≠ h → q ≠ mt → Mq61_ q = M q := fun q hq h0 h1 => (hfr q h0).trans (hF q hq h0 h1)
                                refine lv_aload_n hx hb dX10_takes_148 rfl (lv_at hl 1 rfl) ?_
                                refine lv_dup hx hb dX10_takes_149 rfl ?_
                                refine xg hC hK hH flX10_204 hc_h rfl dX10_takes_150 ?_
                                refine lv_iconst (v := 1) hx hb dX10_takes_153 (by decide) ?_
                                refine lv_iadd hx hb dX10_takes_154 ?_
                                refine lv_topi (fun zq62_ e_zq62_ => ?_)
                                have h_zq62_ : zq62_.toInt = yq32_.toInt + 1 := by rw [e_zq62_, iAdd (by have := iRg yq32_; have : (1 : Int32).toInt = 1 := rfl; omega) (by have := iRg yq32_; have : (1 : Int32).toInt = 1 := rfl; omega)]; rfl
                                refine yp (v := .int zq62_) hC hK hH flX10_204 hc_h (noT hn_h) rfl rfl (Nat.le_of_ble_eq_true rfl) dX10_takes_155 (fun Hq_ lcq_ Mq63_ hc_h hfr hH => ?_)
                                have hc_h : Mq63_ h = some (.inr (8, [.ref al, .ref mt, .ref ii, .int ta, .int fpm, .ref pa, .int sm, .int zq62_, .int 1, .int yq1_, .int ln, .long zq60_, .int wr, .ref li])) := hc_h
                                have hc_mt : Mq63_ mt = some (.inl (kA 0, 600, .inl ft)) := (hfr mt n_mt_h).trans hc_mt
                                have hF : ∀ q, FrK T q → q ≠ h → q ≠ mt → Mq63_ q = M q := fun q hq h0 h1 => (hfr q h0).trans (hF q hq h0 h1)
                                refine lv_goto (tgt := 85) hx hb dX10_takes_158 (by decide) ?_
                                exact ih zq62_ zq60_ _ _ _ ls (by have := iRg zq62_; omega) (by have := iRg zq62_; omega) (by have := iRg zq62_; omega) (by have := iRg zq62_; omega) (by have := iRg zq62_; omega) (by have := iRg zq62_; omega) (by have := iRg zq62_; omega) hc_h hc_mt hF hH (lv_sub hl [0, 1] rfl)
                              · skip
                                have eT := eT.symm; subst eT
                                have er_rq54_ := er_rq54_.symm; subst er_rq54_
                                have eM := eM.symm; subst eM
                                have cq56_ : sm.toInt ≤ yq32_.toInt := cq56_
                                exfalso; omega
                          · skip
                            have eT := eT.symm; subst eT
                            have er_rq42_ := er_rq42_.symm; subst er_rq42_
                            have eM := eM.symm; subst eM
                            have cq44_ : ¬ (97 ≤ rq37_.toInt ∧ rq37_.toInt ≤ 122) := cq44_
                            have hgt : yq1_.toInt < yq32_.toInt := by
                              apply Int.not_le.mp
                              intro hge
                              have h9 : yq32_.toInt = yq1_.toInt := by omega
                              have h8 : rq37_ = rq20_ := by rw [cq38_.2, cq21_.2, h9]
                              have h7 : rq37_.toInt = rq20_.toInt := by rw [h8]
                              omega
                            refine jif_eq (tgt := 291) hx hb dX10_takes_96 (by decide) (fun cq64_ => ?_) (fun cq64_ => absurd cq64_ (by decide))
                            exact ret_v hC hr hlk hK hH (⟨yq33_, yq32_, ⟨by omega, by omega⟩, 1, ⟨by decide, by decide⟩, yq1_, ⟨by omega, by omega⟩, ⟨by have : (1 : Int32).toInt = 1 := rfl; have : (0 : Int64).toInt = 0 := rfl; omega, hc_h, hc_mt⟩, rfl, hF⟩) (Nat.le_of_ble_eq_true rfl) (Nat.le_of_ble_eq_true rfl) dX10_takes_291
                        · skip
                          have eT := eT.symm; subst eT
                          have er_rq37_ := er_rq37_.symm; subst er_rq37_
                          have eM := eM.symm; subst eM
                          have cq39_ : sm.toInt ≤ yq32_.toInt := cq39_
                          refine goI hK hH (runS (As := [.int (-1)]) (rest := []) hC hK hH (c_X10_isLetter) mlX10_220 ⟨⟨Nat.le_of_ble_eq_true rfl, Nat.le_of_ble_eq_true rfl⟩, Nat.le_of_ble_eq_true rfl, Nat.le_of_ble_eq_true rfl⟩ rfl hl.1 rfl (Nat.le_of_ble_eq_true rfl) dX10_takes_93) (fun rq67_ Mq65_ Tq66_ Hq_ lcq_ hP hz hH => ?_)
                          try dsimp only at hP
                          obtain ⟨(⟨cq68_, er_rq67_⟩ | ⟨cq69_, er_rq67_⟩), eT, eM⟩ := hP
                          · skip
                            have eT := eT.symm; subst eT
                            have er_rq67_ := er_rq67_.symm; subst er_rq67_
                            have eM := eM.symm; subst eM
                            have cq68_ : 97 ≤ (-1 : Int) ∧ (-1 : Int) ≤ 122 := cq68_
                            exact absurd cq68_ (by omega)
                          · skip
                            have eT := eT.symm; subst eT
                            have er_rq67_ := er_rq67_.symm; subst er_rq67_
                            have eM := eM.symm; subst eM
                            have cq69_ : ¬ (97 ≤ (-1 : Int) ∧ (-1 : Int) ≤ 122) := cq69_
                            refine jif_eq (tgt := 291) hx hb dX10_takes_96 (by decide) (fun cq70_ => ?_) (fun cq70_ => absurd cq70_ (by decide))
                            exact ret_v hC hr hlk hK hH (⟨yq33_, yq32_, ⟨by omega, by omega⟩, 1, ⟨by decide, by decide⟩, yq1_, ⟨by omega, by omega⟩, ⟨by have : (1 : Int32).toInt = 1 := rfl; have : (0 : Int64).toInt = 0 := rfl; omega, hc_h, hc_mt⟩, rfl, hF⟩) (Nat.le_of_ble_eq_true rfl) (Nat.le_of_ble_eq_true rfl) dX10_takes_291
                    exact loop (Int.toNat (sm.toInt - yq1_.toInt + 1)) yq1_ 0 _ _ _ ls (by have := iRg yq1_; have : (0 : Int64).toInt = 0 := rfl; omega) (by have := iRg yq1_; have : (0 : Int64).toInt = 0 := rfl; omega) (by have := iRg yq1_; have : (0 : Int64).toInt = 0 := rfl; omega) (by have := iRg yq1_; have : (0 : Int64).toInt = 0 := rfl; omega) (by have := iRg yq1_; have : (0 : Int64).toInt = 0 := rfl; omega) (by have := iRg yq1_; have : (0 : Int64).toInt = 0 := rfl; omega) (by have := iRg yq1_; have : (0 : Int64).toInt = 0 := rfl; omega) hc_h hc_mt hF hH hl
                  · skip
                    have eT := eT.symm; subst eT
                    have er_rq27_ := er_rq27_.symm; subst er_rq27_
                    have eM := eM.symm; subst eM
                    have cq29_ : ¬ (97 ≤ rq20_.toInt ∧ rq20_.toInt ≤ 122) := cq29_
                    refine jif_eq (tgt := 161) hx hb dX10_takes_77 (by decide) (fun cq71_ => ?_) (fun cq71_ => absurd cq71_ (by decide))
                    refine lv_iload_n hx hb dX10_takes_161 rfl (lv_at hl 0 rfl) ?_
                    refine goI hK hH (runS (As := [.int rq20_]) (rest := []) hC hK hH (c_X10_isDigit) mlX10_227 ⟨⟨Nat.le_of_ble_eq_true rfl, Nat.le_of_ble_eq_true rfl⟩, Nat.le_of_ble_eq_true rfl, Nat.le_of_ble_eq_true rfl⟩ rfl hl.1 rfl (Nat.le_of_ble_eq_true rfl) dX10_takes_162) (fun rq74_ Mq72_ Tq73_ Hq_ lcq_ hP hz hH => ?_)
                    try dsimp only at hP
                    obtain ⟨(⟨cq75_, er_rq74_⟩ | ⟨cq76_, er_rq74_⟩), eT, eM⟩ := hP
                    · skip
                      have eT := eT.symm; subst eT
                      have er_rq74_ := er_rq74_.symm; subst er_rq74_
                      have eM := eM.symm; subst eM
                      have cq75_ : 48 ≤ rq20_.toInt ∧ rq20_.toInt ≤ 57 := cq75_
                      refine jif_eq (tgt := 266) hx hb dX10_takes_165 (by decide) (fun cq77_ => absurd cq77_ (by decide)) (fun cq77_ => ?_)
                      have loop : ∀ (n : Nat) (yq78_ : Int32) (yq79_ : Int64) (Hq_ : Heap) (lcq_ : List Loc) (Mq80_ : mM) (ls : Array Slot), sm.toInt - yq78_.toInt + 1 ≤ (n : Int) → (0 : Int) ≤ yq78_.toInt → yq78_.toInt ≤ 600 → (yq1_.toInt ≤ yq78_.toInt) → (yq78_.toInt ≤ sm.toInt) → Mq80_ h = some (.inr (8, [.ref al, .ref mt, .ref ii, .int ta, .int fpm, .ref pa, .int sm, .int yq78_, .int tk, .int yq1_, .int ln, .long yq79_, .int wr, .ref li])) → Mq80_ mt = some (.inl (kA 0, 600, .inl ft)) → (∀ q, FrK T q → q ≠ h → q ≠ mt → Mq80_ q = M q) → mS D kA Mq80_ T (mA M T sz) s.heap Hq_ lcq_ → lv_has ls 2 [(1, .int rq20_), (0, .ref h)] → W p l e (rmL 1 0 0) s m ([.ref h] : List Value).toArray below meth c Hq_ lcq_ 0 0 (MQ below (va_Qv (fun u => ∃ va2 : Int64, ∃ nx2 : Int32, ((0 : Int) ≤ nx2.toInt ∧ nx2.toInt ≤ 600) ∧ ∃ tk2 : Int32, ((0 : Int) ≤ tk2.toInt ∧ tk2.toInt ≤ 4) ∧ ∃ pl2 : Int32, ((0 : Int) ≤ pl2.toInt ∧ pl2.toInt ≤ 600) ∧ ((nx.toInt ≤ pl2.toInt ∧ pl2.toInt ≤ nx2.toInt ∧ nx2.toInt ≤ sm.toInt ∧ (tk2.toInt = 0 ∨ pl2.toInt < nx2.toInt) ∧ (tk2.toInt ≠ 1 ∨ nx2.toInt ≠ pl2.toInt + 1 ∨ va2.toInt ≤ 26)) ∧ u.1 h = some (.inr (8, [.ref al, .ref mt, .ref ii, .int ta, .int fpm, .ref pa, .int sm, .int nx2, .int tk2, .int pl2, .int ln, .long va2, .int wr, .ref li])) ∧ u.1 mt = some (.inl (kA 0, 600, .inl ft))) ∧ u.2 = T ∧ (∀ q, FrK T q → q ≠ h → q ≠ mt → u.1 q = M q)) (mB D kA M T sz) (mA M T sz)) ([.ref h] : List Value).toArray s 0 0 (mA M T sz)) (F0 m 168 ls []) := by
                        intro n
                        induction n with
                        | zero =>
                          intro yq78_ yq79_ Hq_ lcq_ Mq80_ ls hme l_yq78_ g_yq78_ hv0_yq78_ hv1_yq78_ hc_h hc_mt hF hH hl
                          exfalso; omega
                        | succ n ih =>
                          intro yq78_ yq79_ Hq_ lcq_ Mq80_ ls hme l_yq78_ g_yq78_ hv0_yq78_ hv1_yq78_ hc_h hc_mt hF hH hl
                          refine lv_aload_n hx hb dX10_takes_168 rfl (lv_at hl 1 rfl) ?_
                          refine lv_aload_n hx hb dX10_takes_169 rfl (lv_at hl 1 rfl) ?_
                          refine xg hC hK hH flX10_204 hc_h rfl dX10_takes_170 ?_
                          refine goI hK hH (runV (As := [.int yq78_]) (rest := []) hC hK hH (c_X10_byteAt hc_h hn_h hc_mt ht_mt ht_pa ht_li (by omega) (by omega)) mlX10_207 (rcvM hK hH hc_h rfl) ⟨⟨Nat.le_of_ble_eq_true rfl, Nat.le_of_ble_eq_true rfl⟩, Nat.le_of_ble_eq_true rfl, Nat.le_of_ble_eq_true rfl⟩ rfl hl.1 rfl (Nat.le_of_ble_eq_true rfl) dX10_takes_173) (fun rq83_ Mq81_ Tq82_ Hq_ lcq_ hP hz hH => ?_)
                          try dsimp only at hP
                          obtain ⟨(cq84_ | ⟨cq85_, er_rq83_⟩), eT, eM⟩ := hP
                          · skip
                            have eT := eT.symm; subst eT
                            have eM := eM.symm; subst eM
                            have cq84_ : yq78_.toInt < sm.toInt ∧ rq83_ = ft yq78_.toInt.toNat := cq84_
                            refine goI hK hH (runS (As := [.int rq83_]) (rest := []) hC hK hH (c_X10_isDigit) mlX10_227 ⟨⟨Nat.le_of_ble_eq_true rfl, Nat.le_of_ble_eq_true rfl⟩, Nat.le_of_ble_eq_true rfl, Nat.le_of_ble_eq_true rfl⟩ rfl hl.1 rfl (Nat.le_of_ble_eq_true rfl) dX10_takes_176) (fun rq88_ Mq86_ Tq87_ Hq_ lcq_ hP hz hH => ?_)
                            try dsimp only at hP
                            obtain ⟨(⟨cq89_, er_rq88_⟩ | ⟨cq90_, er_rq88_⟩), eT, eM⟩ := hP
                            · skip
                              have eT := eT.symm; subst eT
                              have er_rq88_ := er_rq88_.symm; subst er_rq88_
                              have eM := eM.symm; subst eM
                              have cq89_ : 48 ≤ rq83_.toInt ∧ rq83_.toInt ≤ 57 := cq89_
                              refine jif_eq (tgt := 241) hx hb dX10_takes_179 (by decide) (fun cq91_ => absurd cq91_ (by decide)) (fun cq91_ => ?_)
                              refine lv_aload_n hx hb dX10_takes_182 rfl (lv_at hl 1 rfl) ?_
                              refine lv_aload_n hx hb dX10_takes_183 rfl (lv_at hl 1 rfl) ?_
                              refine xg hC hK hH flX10_204 hc_h rfl dX10_takes_184 ?_
                              refine lv_aload_n hx hb dX10_takes_187 rfl (lv_at hl 1 rfl) ?_
                              refine xg hC hK hH flX10_210 hc_h rfl dX10_takes_188 ?_
                              refine lv_isub hx hb dX10_takes_191 ?_
                              refine lv_topi (fun zq92_ e_zq92_ => ?_)
                              have h_zq92_ : zq92_.toInt = yq78_.toInt - yq1_.toInt := by rw [e_zq92_, iSub (by have := iRg yq78_; have := iRg yq1_; omega) (by have := iRg yq78_; have := iRg yq1_; omega)]
                              refine lv_iconst (v := 4) hx hb dX10_takes_192 (by decide) ?_
                              refine jic_ge (tgt := 221) hx hb dX10_takes_193 (by decide) (fun cq93_ => ?_) (fun cq93_ => ?_)
                              · skip
                                have cq93_ : 4 ≤ zq92_.toInt := cq93_
                                refine lv_aload_n hx hb dX10_takes_221 rfl (lv_at hl 1 rfl) ?_
                                refine xg hC hK hH flX10_213 hc_h rfl dX10_takes_222 ?_
                                refine yp (v := .long yq79_) hC hK hH flX10_213 hc_h (noT hn_h) rfl rfl (Nat.le_of_ble_eq_true rfl) dX10_takes_225 (fun Hq_ lcq_ Mq94_ hc_h hfr hH => ?_)
                                have hc_h : Mq94_ h = some (.inr (8, [.ref al, .ref mt, .ref ii, .int ta, .int fpm, .ref pa, .int sm, .int yq78_, .int tk, .int yq1_, .int ln, .long yq79_, .int wr, .ref li])) := hc_h
                                have hc_mt : Mq94_ mt = some (.inl (kA 0, 600, .inl ft)) := (hfr mt n_mt_h).trans hc_mt
                                have hF : ∀ q, FrK T q → q ≠ h → q ≠ mt → Mq94_ q = M q := fun q hq h0 h1 => (hfr q h0).trans (hF q hq h0 h1)
                                refine lv_aload_n hx hb dX10_takes_228 rfl (lv_at hl 1 rfl) ?_
                                refine lv_dup hx hb dX10_takes_229 rfl ?_
                                refine xg hC hK hH flX10_204 hc_h rfl dX10_takes_230 ?_
                                refine lv_iconst (v := 1) hx hb dX10_takes_233 (by decide) ?_
                                refine lv_iadd hx hb dX10_takes_234 ?_
                                refine lv_topi (fun zq95_ e_zq95_ => ?_)
                                have h_zq95_ : zq95_.toInt = yq78_.toInt + 1 := by rw [e_zq95_, iAdd (by have := iRg yq78_; have : (1 : Int32).toInt = 1 := rfl; omega) (by have := iRg yq78_; have : (1 : Int32).toInt = 1 := rfl; omega)]; rfl
                                refine yp (v := .int zq95_) hC hK hH flX10_204 hc_h (noT hn_h) rfl rfl (Nat.le_of_ble_eq_true rfl) dX10_takes_235 (fun Hq_ lcq_ Mq96_ hc_h hfr hH => ?_)
                                have hc_h : Mq96_ h = some (.inr (8, [.ref al, .ref mt, .ref ii, .int ta, .int fpm, .ref pa, .int sm, .int zq95_, .int tk, .int yq1_, .int ln, .long yq79_, .int wr, .ref li])) := hc_h
                                have hc_mt : Mq96_ mt = some (.inl (kA 0, 600, .inl ft)) := (hfr mt n_mt_h).trans hc_mt
                                have hF : ∀ q, FrK T q → q ≠ h → q ≠ mt → Mq96_ q = M q := fun q hq h0 h1 => (hfr q h0).trans (hF q hq h0 h1)
                                refine lv_goto (tgt := 168) hx hb dX10_takes_238 (by decide) ?_
                                exact ih zq95_ yq79_ _ _ _ ls (by have := iRg zq95_; omega) (by have := iRg zq95_; omega) (by have := iRg zq95_; omega) (by have := iRg zq95_; omega) (by have := iRg zq95_; omega) hc_h hc_mt hF hH (lv_sub hl [0, 1] rfl)
                              · skip
                                have cq93_ : zq92_.toInt < 4 := cq93_
                                refine lv_ldc2 (v := 10) hx hb hC.2.2.2.1 (hC.2.2.2.2 _ wkX10_230) dX10_takes_196 ?_
                                refine lv_aload_n hx hb dX10_takes_199 rfl (lv_at hl 1 rfl) ?_
                                refine xg hC hK hH flX10_213 hc_h rfl dX10_takes_200 ?_
                                refine lv_lmul hx hb dX10_takes_203 ?_
                                refine lv_topl (fun zq97_ e_zq97_ => ?_)
                                refine lv_aload_n hx hb dX10_takes_204 rfl (lv_at hl 1 rfl) ?_
                                refine lv_aload_n hx hb dX10_takes_205 rfl (lv_at hl 1 rfl) ?_
                                refine xg hC hK hH flX10_204 hc_h rfl dX10_takes_206 ?_
                                refine goI hK hH (runV (As := [.int yq78_]) (rest := [.long zq97_, .ref h]) hC hK hH (c_X10_byteAt hc_h hn_h hc_mt ht_mt ht_pa ht_li (by omega) (by omega)) mlX10_207 (rcvM hK hH hc_h rfl) ⟨⟨Nat.le_of_ble_eq_true rfl, Nat.le_of_ble_eq_true rfl⟩, Nat.le_of_ble_eq_true rfl, Nat.le_of_ble_eq_true rfl⟩ rfl hl.1 rfl (Nat.le_of_ble_eq_true rfl) dX10_takes_209) (fun rq100_ Mq98_ Tq99_ Hq_ lcq_ hP hz hH => ?_)
                                try dsimp only at hP
                                obtain ⟨(cq101_ | ⟨cq102_, er_rq100_⟩), eT, eM⟩ := hP
                                · skip
                                  have eT := eT.symm; subst eT
                                  have eM := eM.symm; subst eM
                                  have cq101_ : yq78_.toInt < sm.toInt ∧ rq100_ = ft yq78_.toInt.toNat := cq101_
                                  refine lv_i2l hx hb dX10_takes_212 rfl ?_
                                  refine lv_topl (fun zq103_ e_zq103_ => ?_)
                                  refine lv_ladd hx hb dX10_takes_213 ?_
                                  refine lv_topl (fun zq104_ e_zq104_ => ?_)
                                  refine lv_ldc2 (v := 48) hx hb hC.2.2.2.1 (hC.2.2.2.2 _ wkX10_232) dX10_takes_214 ?_
                                  refine lv_lsub hx hb dX10_takes_217 ?_
                                  refine lv_topl (fun zq105_ e_zq105_ => ?_)
                                  refine lv_goto (tgt := 225) hx hb dX10_takes_218 (by decide) ?_
                                  refine yp (v := .long zq105_) hC hK hH flX10_213 hc_h (noT hn_h) rfl rfl (Nat.le_of_ble_eq_true rfl) dX10_takes_225 (fun Hq_ lcq_ Mq106_ hc_h hfr hH => ?_)
                                  have hc_h : Mq106_ h = some (.inr (8, [.ref al, .ref mt, .ref ii, .int ta, .int fpm, .ref pa, .int sm, .int yq78_, .int tk, .int yq1_, .int ln, .long zq105_, .int wr, .ref li])) := hc_h
                                  have hc_mt : Mq106_ mt = some (.inl (kA 0, 600, .inl ft)) := (hfr mt n_mt_h).trans hc_mt
                                  have hF : ∀ q, FrK T q → q ≠ h → q ≠ mt → Mq106_ q = M q := fun q hq h0 h1 => (hfr q h0).trans (hF q hq h0 h1)
                                  refine lv_aload_n hx hb dX10_takes_228 rfl (lv_at hl 1 rfl) ?_
                                  refine lv_dup hx hb dX10_takes_229 rfl ?_
                                  refine xg hC hK hH flX10_204 hc_h rfl dX10_takes_230 ?_
                                  refine lv_iconst (v := 1) hx hb dX10_takes_233 (by decide) ?_
                                  refine lv_iadd hx hb dX10_takes_234 ?_
                                  refine lv_topi (fun zq107_ e_zq107_ => ?_)
                                  have h_zq107_ : zq107_.toInt = yq78_.toInt + 1 := by rw [e_zq107_, iAdd (by have := iRg yq78_; have : (1 : Int32).toInt = 1 := rfl; omega) (by have := iRg yq78_; have : (1 : Int32).toInt = 1 := rfl; omega)]; rfl
                                  refine yp (v := .int zq107_) hC hK hH flX10_204 hc_h (noT hn_h) rfl rfl (Nat.le_of_ble_eq_true rfl) dX10_takes_235 (fun Hq_ lcq_ Mq108_ hc_h hfr hH => ?_)
                                  have hc_h : Mq108_ h = some (.inr (8, [.ref al, .ref mt, .ref ii, .int ta, .int fpm, .ref pa, .int sm, .int zq107_, .int tk, .int yq1_, .int ln, .long zq105_, .int wr, .ref li])) := hc_h
                                  have hc_mt : Mq108_ mt = some (.inl (kA 0, 600, .inl ft)) := (hfr mt n_mt_h).trans hc_mt
                                  have hF : ∀ q, FrK T q → q ≠ h → q ≠ mt → Mq108_ q = M q := fun q hq h0 h1 => (hfr q h0).trans (hF q hq h0 h1)
                                  refine lv_goto (tgt := 168) hx hb dX10_takes_238 (by decide) ?_
                                  exact ih zq107_ zq105_ _ _ _ ls (by have := iRg zq107_; omega) (by have := iRg zq107_; omega) (by have := iRg zq107_; omega) (by have := iRg zq107_; omega) (by have := iRg zq107_; omega) hc_h hc_mt hF hH (lv_sub hl [0, 1] rfl)
                                · skip
                                  have eT := eT.symm; subst eT
                                  have er_rq100_ := er_rq100_.symm; subst er_rq100_
                                  have eM := eM.symm; subst eM
                                  have cq102_ : sm.toInt ≤ yq78_.toInt := cq102_
                                  exfalso; omega
                            · skip
                              have eT := eT.symm; subst eT
                              have er_rq88_ := er_rq88_.symm; subst er_rq88_
                              have eM := eM.symm; subst eM
                              have cq90_ : ¬ (48 ≤ rq83_.toInt ∧ rq83_.toInt ≤ 57) := cq90_
                              have hgt : yq1_.toInt < yq78_.toInt := by
                                apply Int.not_le.mp
                                intro hge
                                have h9 : yq78_.toInt = yq1_.toInt := by omega
                                have h8 : rq83_ = rq20_ := by rw [cq84_.2, cq21_.2, h9]
                                have h7 : rq83_.toInt = rq20_.toInt := by rw [h8]
                                omega
                              refine jif_eq (tgt := 241) hx hb dX10_takes_179 (by decide) (fun cq109_ => ?_) (fun cq109_ => absurd cq109_ (by decide))
                              refine lv_aload_n hx hb dX10_takes_241 rfl (lv_at hl 1 rfl) ?_
                              refine lv_aload_n hx hb dX10_takes_242 rfl (lv_at hl 1 rfl) ?_
                              refine xg hC hK hH flX10_204 hc_h rfl dX10_takes_243 ?_
                              refine lv_aload_n hx hb dX10_takes_246 rfl (lv_at hl 1 rfl) ?_
                              refine xg hC hK hH flX10_210 hc_h rfl dX10_takes_247 ?_
                              refine lv_isub hx hb dX10_takes_250 ?_
                              refine lv_topi (fun zq110_ e_zq110_ => ?_)
                              have h_zq110_ : zq110_.toInt = yq78_.toInt - yq1_.toInt := by rw [e_zq110_, iSub (by have := iRg yq78_; have := iRg yq1_; omega) (by have := iRg yq78_; have := iRg yq1_; omega)]
                              refine lv_iconst (v := 4) hx hb dX10_takes_251 (by decide) ?_
                              refine jic_le (tgt := 259) hx hb dX10_takes_252 (by decide) (fun cq111_ => ?_) (fun cq111_ => ?_)
                              · skip
                                have cq111_ : zq110_.toInt ≤ 4 := cq111_
                                refine lv_iconst (v := 2) hx hb dX10_takes_259 (by decide) ?_
                                refine yp (v := .int 2) hC hK hH flX10_217 hc_h (noT hn_h) rfl rfl (Nat.le_of_ble_eq_true rfl) dX10_takes_260 (fun Hq_ lcq_ Mq112_ hc_h hfr hH => ?_)
                                have hc_h : Mq112_ h = some (.inr (8, [.ref al, .ref mt, .ref ii, .int ta, .int fpm, .ref pa, .int sm, .int yq78_, .int 2, .int yq1_, .int ln, .long yq79_, .int wr, .ref li])) := hc_h
                                have hc_mt : Mq112_ mt = some (.inl (kA 0, 600, .inl ft)) := (hfr mt n_mt_h).trans hc_mt
                                have hF : ∀ q, FrK T q → q ≠ h → q ≠ mt → Mq112_ q = M q := fun q hq h0 h1 => (hfr q h0).trans (hF q hq h0 h1)
                                refine lv_goto (tgt := 291) hx hb dX10_takes_263 (by decide) ?_
                                exact ret_v hC hr hlk hK hH (⟨yq79_, yq78_, ⟨by omega, by omega⟩, 2, ⟨by decide, by decide⟩, yq1_, ⟨by omega, by omega⟩, ⟨by have : (2 : Int32).toInt = 2 := rfl; have : (0 : Int64).toInt = 0 := rfl; omega, hc_h, hc_mt⟩, rfl, hF⟩) (Nat.le_of_ble_eq_true rfl) (Nat.le_of_ble_eq_true rfl) dX10_takes_291
                              · skip
                                have cq111_ : 4 < zq110_.toInt := cq111_
                                refine lv_iconst (v := 4) hx hb dX10_takes_255 (by decide) ?_
                                refine lv_goto (tgt := 260) hx hb dX10_takes_256 (by decide) ?_
                                refine yp (v := .int 4) hC hK hH flX10_217 hc_h (noT hn_h) rfl rfl (Nat.le_of_ble_eq_true rfl) dX10_takes_260 (fun Hq_ lcq_ Mq113_ hc_h hfr hH => ?_)
                                have hc_h : Mq113_ h = some (.inr (8, [.ref al, .ref mt, .ref ii, .int ta, .int fpm, .ref pa, .int sm, .int yq78_, .int 4, .int yq1_, .int ln, .long yq79_, .int wr, .ref li])) := hc_h
                                have hc_mt : Mq113_ mt = some (.inl (kA 0, 600, .inl ft)) := (hfr mt n_mt_h).trans hc_mt
                                have hF : ∀ q, FrK T q → q ≠ h → q ≠ mt → Mq113_ q = M q := fun q hq h0 h1 => (hfr q h0).trans (hF q hq h0 h1)
                                refine lv_goto (tgt := 291) hx hb dX10_takes_263 (by decide) ?_
                                exact ret_v hC hr hlk hK hH (⟨yq79_, yq78_, ⟨by omega, by omega⟩, 4, ⟨by decide, by decide⟩, yq1_, ⟨by omega, by omega⟩, ⟨by have : (4 : Int32).toInt = 4 := rfl; have : (0 : Int64).toInt = 0 := rfl; omega, hc_h, hc_mt⟩, rfl, hF⟩) (Nat.le_of_ble_eq_true rfl) (Nat.le_of_ble_eq_true rfl) dX10_takes_291
                          · skip
                            have eT := eT.symm; subst eT
                            have er_rq83_ := er_rq83_.symm; subst er_rq83_
                            have eM := eM.symm; subst eM
                            have cq85_ : sm.toInt ≤ yq78_.toInt := cq85_
                            refine goI hK hH (runS (As := [.int (-1)]) (rest := []) hC hK hH (c_X10_isDigit) mlX10_227 ⟨⟨Nat.le_of_ble_eq_true rfl, Nat.le_of_ble_eq_true rfl⟩, Nat.le_of_ble_eq_true rfl, Nat.le_of_ble_eq_true rfl⟩ rfl hl.1 rfl (Nat.le_of_ble_eq_true rfl) dX10_takes_176) (fun rq116_ Mq114_ Tq115_ Hq_ lcq_ hP hz hH => ?_)
                            try dsimp only at hP
                            obtain ⟨(⟨cq117_, er_rq116_⟩ | ⟨cq118_, er_rq116_⟩), eT, eM⟩ := hP
                            · skip
                              have eT := eT.symm; subst eT
                              have er_rq116_ := er_rq116_.symm; subst er_rq116_
                              have eM := eM.symm; subst eM
                              have cq117_ : 48 ≤ (-1 : Int) ∧ (-1 : Int) ≤ 57 := cq117_
                              exact absurd cq117_ (by omega)
                            · skip
                              have eT := eT.symm; subst eT
                              have er_rq116_ := er_rq116_.symm; subst er_rq116_
                              have eM := eM.symm; subst eM
                              have cq118_ : ¬ (48 ≤ (-1 : Int) ∧ (-1 : Int) ≤ 57) := cq118_
                              refine jif_eq (tgt := 241) hx hb dX10_takes_179 (by decide) (fun cq119_ => ?_) (fun cq119_ => absurd cq119_ (by decide))
                              refine lv_aload_n hx hb dX10_takes_241 rfl (lv_at hl 1 rfl) ?_
                              refine lv_aload_n hx hb dX10_takes_242 rfl (lv_at hl 1 rfl) ?_
                              refine xg hC hK hH flX10_204 hc_h rfl dX10_takes_243 ?_
                              refine lv_aload_n hx hb dX10_takes_246 rfl (lv_at hl 1 rfl) ?_
                              refine xg hC hK hH flX10_210 hc_h rfl dX10_takes_247 ?_
                              refine lv_isub hx hb dX10_takes_250 ?_
                              refine lv_topi (fun zq120_ e_zq120_ => ?_)
                              have h_zq120_ : zq120_.toInt = yq78_.toInt - yq1_.toInt := by rw [e_zq120_, iSub (by have := iRg yq78_; have := iRg yq1_; omega) (by have := iRg yq78_; have := iRg yq1_; omega)]
                              refine lv_iconst (v := 4) hx hb dX10_takes_251 (by decide) ?_
                              refine jic_le (tgt := 259) hx hb dX10_takes_252 (by decide) (fun cq121_ => ?_) (fun cq121_ => ?_)
                              · skip
                                have cq121_ : zq120_.toInt ≤ 4 := cq121_
                                refine lv_iconst (v := 2) hx hb dX10_takes_259 (by decide) ?_
                                refine yp (v := .int 2) hC hK hH flX10_217 hc_h (noT hn_h) rfl rfl (Nat.le_of_ble_eq_true rfl) dX10_takes_260 (fun Hq_ lcq_ Mq122_ hc_h hfr hH => ?_)
                                have hc_h : Mq122_ h = some (.inr (8, [.ref al, .ref mt, .ref ii, .int ta, .int fpm, .ref pa, .int sm, .int yq78_, .int 2, .int yq1_, .int ln, .long yq79_, .int wr, .ref li])) := hc_h
                                have hc_mt : Mq122_ mt = some (.inl (kA 0, 600, .inl ft)) := (hfr mt n_mt_h).trans hc_mt
                                have hF : ∀ q, FrK T q → q ≠ h → q ≠ mt → Mq122_ q = M q := fun q hq h0 h1 => (hfr q h0).trans (hF q hq h0 h1)
                                refine lv_goto (tgt := 291) hx hb dX10_takes_263 (by decide) ?_
                                exact ret_v hC hr hlk hK hH (⟨yq79_, yq78_, ⟨by omega, by omega⟩, 2, ⟨by decide, by decide⟩, yq1_, ⟨by omega, by omega⟩, ⟨by have : (2 : Int32).toInt = 2 := rfl; have : (0 : Int64).toInt = 0 := rfl; omega, hc_h, hc_mt⟩, rfl, hF⟩) (Nat.le_of_ble_eq_true rfl) (Nat.le_of_ble_eq_true rfl) dX10_takes_291
                              · skip
                                have cq121_ : 4 < zq120_.toInt := cq121_
                                refine lv_iconst (v := 4) hx hb dX10_takes_255 (by decide) ?_
                                refine lv_goto (tgt := 260) hx hb dX10_takes_256 (by decide) ?_
                                refine yp (v := .int 4) hC hK hH flX10_217 hc_h (noT hn_h) rfl rfl (Nat.le_of_ble_eq_true rfl) dX10_takes_260 (fun Hq_ lcq_ Mq123_ hc_h hfr hH => ?_)
                                have hc_h : Mq123_ h = some (.inr (8, [.ref al, .ref mt, .ref ii, .int ta, .int fpm, .ref pa, .int sm, .int yq78_, .int 4, .int yq1_, .int ln, .long yq79_, .int wr, .ref li])) := hc_h
                                have hc_mt : Mq123_ mt = some (.inl (kA 0, 600, .inl ft)) := (hfr mt n_mt_h).trans hc_mt
                                have hF : ∀ q, FrK T q → q ≠ h → q ≠ mt → Mq123_ q = M q := fun q hq h0 h1 => (hfr q h0).trans (hF q hq h0 h1)
                                refine lv_goto (tgt := 291) hx hb dX10_takes_263 (by decide) ?_
                                exact ret_v hC hr hlk hK hH (⟨yq79_, yq78_, ⟨by omega, by omega⟩, 4, ⟨by decide, by decide⟩, yq1_, ⟨by omega, by omega⟩, ⟨by have : (4 : Int32).toInt = 4 := rfl; have : (0 : Int64).toInt = 0 := rfl; omega, hc_h, hc_mt⟩, rfl, hF⟩) (Nat.le_of_ble_eq_true rfl) (Nat.le_of_ble_eq_true rfl) dX10_takes_291
                      exact loop (Int.toNat (sm.toInt - yq1_.toInt + 1)) yq1_ 0 _ _ _ ls (by have := iRg yq1_; have : (0 : Int64).toInt = 0 := rfl; omega) (by have := iRg yq1_; have : (0 : Int64).toInt = 0 := rfl; omega) (by have := iRg yq1_; have : (0 : Int64).toInt = 0 := rfl; omega) (by have := iRg yq1_; have : (0 : Int64).toInt = 0 := rfl; omega) (by have := iRg yq1_; have : (0 : Int64).toInt = 0 := rfl; omega) hc_h hc_mt hF hH hl
                    · skip
                      have eT := eT.symm; subst eT
                      have er_rq74_ := er_rq74_.symm; subst er_rq74_
                      have eM := eM.symm; subst eM
                      have cq76_ : ¬ (48 ≤ rq20_.toInt ∧ rq20_.toInt ≤ 57) := cq76_
                      refine jif_eq (tgt := 266) hx hb dX10_takes_165 (by decide) (fun cq124_ => ?_) (fun cq124_ => absurd cq124_ (by decide))
                      refine lv_aload_n hx hb dX10_takes_266 rfl (lv_at hl 1 rfl) ?_
                      refine lv_dup hx hb dX10_takes_267 rfl ?_
                      refine xg hC hK hH flX10_204 hc_h rfl dX10_takes_268 ?_
                      refine lv_iconst (v := 1) hx hb dX10_takes_271 (by decide) ?_
                      refine lv_iadd hx hb dX10_takes_272 ?_
                      refine lv_topi (fun zq125_ e_zq125_ => ?_)
                      have h_zq125_ : zq125_.toInt = yq1_.toInt + 1 := by rw [e_zq125_, iAdd (by have := iRg yq1_; have : (1 : Int32).toInt = 1 := rfl; omega) (by have := iRg yq1_; have : (1 : Int32).toInt = 1 := rfl; omega)]; rfl
                      refine yp (v := .int zq125_) hC hK hH flX10_204 hc_h (noT hn_h) rfl rfl (Nat.le_of_ble_eq_true rfl) dX10_takes_273 (fun Hq_ lcq_ Mq126_ hc_h hfr hH => ?_)
                      have hc_h : Mq126_ h = some (.inr (8, [.ref al, .ref mt, .ref ii, .int ta, .int fpm, .ref pa, .int sm, .int zq125_, .int tk, .int yq1_, .int ln, .long 0, .int wr, .ref li])) := hc_h
                      have hc_mt : Mq126_ mt = some (.inl (kA 0, 600, .inl ft)) := (hfr mt n_mt_h).trans hc_mt
                      have hF : ∀ q, FrK T q → q ≠ h → q ≠ mt → Mq126_ q = M q := fun q hq h0 h1 => (hfr q h0).trans (hF q hq h0 h1)
                      refine lv_aload_n hx hb dX10_takes_276 rfl (lv_at hl 1 rfl) ?_
                      refine lv_iload_n hx hb dX10_takes_277 rfl (lv_at hl 0 rfl) ?_
                      refine lv_bipush (v := 59) hx hb dX10_takes_278 (by decide) ?_
                      refine jic_ne (tgt := 287) hx hb dX10_takes_280 (by decide) (fun cq127_ => ?_) (fun cq127_ => ?_)
                      · skip
                        have cq127_ : rq20_.toInt ≠ 59 := cq127_
                        refine lv_iconst (v := 4) hx hb dX10_takes_287 (by decide) ?_
                        refine yp (v := .int 4) hC hK hH flX10_217 hc_h (noT hn_h) rfl rfl (Nat.le_of_ble_eq_true rfl) dX10_takes_288 (fun Hq_ lcq_ Mq128_ hc_h hfr hH => ?_)
                        have hc_h : Mq128_ h = some (.inr (8, [.ref al, .ref mt, .ref ii, .int ta, .int fpm, .ref pa, .int sm, .int zq125_, .int 4, .int yq1_, .int ln, .long 0, .int wr, .ref li])) := hc_h
                        have hc_mt : Mq128_ mt = some (.inl (kA 0, 600, .inl ft)) := (hfr mt n_mt_h).trans hc_mt
                        have hF : ∀ q, FrK T q → q ≠ h → q ≠ mt → Mq128_ q = M q := fun q hq h0 h1 => (hfr q h0).trans (hF q hq h0 h1)
                        exact ret_v hC hr hlk hK hH (⟨0, zq125_, ⟨by omega, by omega⟩, 4, ⟨by decide, by decide⟩, yq1_, ⟨by omega, by omega⟩, ⟨by have : (4 : Int32).toInt = 4 := rfl; have : (0 : Int64).toInt = 0 := rfl; omega, hc_h, hc_mt⟩, rfl, hF⟩) (Nat.le_of_ble_eq_true rfl) (Nat.le_of_ble_eq_true rfl) dX10_takes_291
                      · skip
                        have cq127_ : rq20_.toInt = 59 := cq127_
                        refine lv_iconst (v := 3) hx hb dX10_takes_283 (by decide) ?_
                        refine lv_goto (tgt := 288) hx hb dX10_takes_284 (by decide) ?_
                        refine yp (v := .int 3) hC hK hH flX10_217 hc_h (noT hn_h) rfl rfl (Nat.le_of_ble_eq_true rfl) dX10_takes_288 (fun Hq_ lcq_ Mq129_ hc_h hfr hH => ?_)
                        have hc_h : Mq129_ h = some (.inr (8, [.ref al, .ref mt, .ref ii, .int ta, .int fpm, .ref pa, .int sm, .int zq125_, .int 3, .int yq1_, .int ln, .long 0, .int wr, .ref li])) := hc_h
                        have hc_mt : Mq129_ mt = some (.inl (kA 0, 600, .inl ft)) := (hfr mt n_mt_h).trans hc_mt
                        have hF : ∀ q, FrK T q → q ≠ h → q ≠ mt → Mq129_ q = M q := fun q hq h0 h1 => (hfr q h0).trans (hF q hq h0 h1)
                        exact ret_v hC hr hlk hK hH (⟨0, zq125_, ⟨by omega, by omega⟩, 3, ⟨by decide, by decide⟩, yq1_, ⟨by omega, by omega⟩, ⟨by have : (3 : Int32).toInt = 3 := rfl; have : (0 : Int64).toInt = 0 := rfl; omega, hc_h, hc_mt⟩, rfl, hF⟩) (Nat.le_of_ble_eq_true rfl) (Nat.le_of_ble_eq_true rfl) dX10_takes_291
                · skip
                  have cq24_ : rq20_.toInt < 0 := cq24_
                  refine lv_aload_n hx hb dX10_takes_65 rfl (lv_at hl 1 rfl) ?_
                  refine lv_iconst (v := 0) hx hb dX10_takes_66 (by decide) ?_
                  refine yp (v := .int 0) hC hK hH flX10_217 hc_h (noT hn_h) rfl rfl (Nat.le_of_ble_eq_true rfl) dX10_takes_67 (fun Hq_ lcq_ Mq130_ hc_h hfr hH => ?_)
                  have hc_h : Mq130_ h = some (.inr (8, [.ref al, .ref mt, .ref ii, .int ta, .int fpm, .ref pa, .int sm, .int yq1_, .int 0, .int yq1_, .int ln, .long 0, .int wr, .ref li])) := hc_h
                  have hc_mt : Mq130_ mt = some (.inl (kA 0, 600, .inl ft)) := (hfr mt n_mt_h).trans hc_mt
                  have hF : ∀ q, FrK T q → q ≠ h → q ≠ mt → Mq130_ q = M q := fun q hq h0 h1 => (hfr q h0).trans (hF q hq h0 h1)
                  refine lv_goto (tgt := 291) hx hb dX10_takes_70 (by decide) ?_
                  exact ret_v hC hr hlk hK hH (⟨0, yq1_, ⟨by omega, by omega⟩, 0, ⟨by decide, by decide⟩, yq1_, ⟨by omega, by omega⟩, ⟨by have : (0 : Int32).toInt = 0 := rfl; have : (0 : Int64).toInt = 0 := rfl; omega, hc_h, hc_mt⟩, rfl, hF⟩) (Nat.le_of_ble_eq_true rfl) (Nat.le_of_ble_eq_true rfl) dX10_takes_291
              · skip
                have eT := eT.symm; subst eT
                have er_rq20_ := er_rq20_.symm; subst er_rq20_
                have eM := eM.symm; subst eM
                have cq22_ : sm.toInt ≤ yq1_.toInt := cq22_
                exfalso; omega
            · skip
              have cq16_ : rq13_.toInt = 10 := cq16_
              refine lv_aload_n hx hb dX10_takes_26 rfl (lv_at hl 0 rfl) ?_
              refine lv_dup hx hb dX10_takes_27 rfl ?_
              refine xg hC hK hH flX10_204 hc_h rfl dX10_takes_28 ?_
              refine lv_iconst (v := 1) hx hb dX10_takes_31 (by decide) ?_
              refine lv_iadd hx hb dX10_takes_32 ?_
              refine lv_topi (fun zq131_ e_zq131_ => ?_)
              have h_zq131_ : zq131_.toInt = yq1_.toInt + 1 := by rw [e_zq131_, iAdd (by have := iRg yq1_; have : (1 : Int32).toInt = 1 := rfl; omega) (by have := iRg yq1_; have : (1 : Int32).toInt = 1 := rfl; omega)]; rfl
              refine yp (v := .int zq131_) hC hK hH flX10_204 hc_h (noT hn_h) rfl rfl (Nat.le_of_ble_eq_true rfl) dX10_takes_33 (fun Hq_ lcq_ Mq132_ hc_h hfr hH => ?_)
              have hc_h : Mq132_ h = some (.inr (8, [.ref al, .ref mt, .ref ii, .int ta, .int fpm, .ref pa, .int sm, .int zq131_, .int tk, .int pl, .int ln, .long va, .int wr, .ref li])) := hc_h
              have hc_mt : Mq132_ mt = some (.inl (kA 0, 600, .inl ft)) := (hfr mt n_mt_h).trans hc_mt
              have hF : ∀ q, FrK T q → q ≠ h → q ≠ mt → Mq132_ q = M q := fun q hq h0 h1 => (hfr q h0).trans (hF q hq h0 h1)
              refine lv_goto (tgt := 0) hx hb dX10_takes_36 (by decide) ?_
              exact ih zq131_ _ _ _ ls (by have := iRg zq131_; omega) (by have := iRg zq131_; omega) (by have := iRg zq131_; omega) (by have := iRg zq131_; omega) (by have := iRg zq131_; omega) hc_h hc_mt hF hH (lv_sub hl [0] rfl)
          · skip
            have eT := eT.symm; subst eT
            have er_rq13_ := er_rq13_.symm; subst er_rq13_
            have eM := eM.symm; subst eM
            have cq15_ : sm.toInt ≤ yq1_.toInt := cq15_
            exfalso; omega
      · skip
        have eT := eT.symm; subst eT
        have er_rq5_ := er_rq5_.symm; subst er_rq5_
        have eM := eM.symm; subst eM
        have cq7_ : sm.toInt ≤ yq1_.toInt := cq7_
        refine lv_bipush (v := 32) hx hb dX10_takes_8 (by decide) ?_
        refine jic_eq (tgt := 26) hx hb dX10_takes_10 (by decide) (fun cq133_ => absurd cq133_ (by decide)) (fun cq133_ => ?_)
        refine lv_aload_n hx hb dX10_takes_13 rfl (lv_at hl 0 rfl) ?_
        refine lv_aload_n hx hb dX10_takes_14 rfl (lv_at hl 0 rfl) ?_
        refine xg hC hK hH flX10_204 hc_h rfl dX10_takes_15 ?_
        refine goI hK hH (runV (As := [.int yq1_]) (rest := []) hC hK hH (c_X10_byteAt hc_h hn_h hc_mt ht_mt ht_pa ht_li (by omega) (by omega)) mlX10_207 (rcvM hK hH hc_h rfl) ⟨⟨Nat.le_of_ble_eq_true rfl, Nat.le_of_ble_eq_true rfl⟩, Nat.le_of_ble_eq_true rfl, Nat.le_of_ble_eq_true rfl⟩ rfl hl.1 rfl (Nat.le_of_ble_eq_true rfl) dX10_takes_18) (fun rq136_ Mq134_ Tq135_ Hq_ lcq_ hP hz hH => ?_)
        try dsimp only at hP
        obtain ⟨(cq137_ | ⟨cq138_, er_rq136_⟩), eT, eM⟩ := hP
        · skip
          have eT := eT.symm; subst eT
          have eM := eM.symm; subst eM
          have cq137_ : yq1_.toInt < sm.toInt ∧ rq136_ = ft yq1_.toInt.toNat := cq137_
          exfalso; omega
        · skip
          have eT := eT.symm; subst eT
          have er_rq136_ := er_rq136_.symm; subst er_rq136_
          have eM := eM.symm; subst eM
          have cq138_ : sm.toInt ≤ yq1_.toInt := cq138_
          refine lv_bipush (v := 10) hx hb dX10_takes_21 (by decide) ?_
          refine jic_ne (tgt := 39) hx hb dX10_takes_23 (by decide) (fun cq139_ => ?_) (fun cq139_ => absurd cq139_ (by decide))
          refine lv_aload_n hx hb dX10_takes_39 rfl (lv_at hl 0 rfl) ?_
          refine lv_aload_n hx hb dX10_takes_40 rfl (lv_at hl 0 rfl) ?_
          refine xg hC hK hH flX10_204 hc_h rfl dX10_takes_41 ?_
          refine yp (v := .int yq1_) hC hK hH flX10_210 hc_h (noT hn_h) rfl rfl (Nat.le_of_ble_eq_true rfl) dX10_takes_44 (fun Hq_ lcq_ Mq140_ hc_h hfr hH => ?_)
          have hc_h : Mq140_ h = some (.inr (8, [.ref al, .ref mt, .ref ii, .int ta, .int fpm, .ref pa, .int sm, .int yq1_, .int tk, .int yq1_, .int ln, .long va, .int wr, .ref li])) := hc_h
          have hc_mt : Mq140_ mt = some (.inl (kA 0, 600, .inl ft)) := (hfr mt n_mt_h).trans hc_mt
          have hF : ∀ q, FrK T q → q ≠ h → q ≠ mt → Mq140_ q = M q := fun q hq h0 h1 => (hfr q h0).trans (hF q hq h0 h1)
          refine lv_aload_n hx hb dX10_takes_47 rfl (lv_at hl 0 rfl) ?_
          refine lv_aload_n hx hb dX10_takes_48 rfl (lv_at hl 0 rfl) ?_
          refine xg hC hK hH flX10_204 hc_h rfl dX10_takes_49 ?_
          refine goI hK hH (runV (As := [.int yq1_]) (rest := []) hC hK hH (c_X10_byteAt hc_h hn_h hc_mt ht_mt ht_pa ht_li (by omega) (by omega)) mlX10_207 (rcvM hK hH hc_h rfl) ⟨⟨Nat.le_of_ble_eq_true rfl, Nat.le_of_ble_eq_true rfl⟩, Nat.le_of_ble_eq_true rfl, Nat.le_of_ble_eq_true rfl⟩ rfl hl.1 rfl (Nat.le_of_ble_eq_true rfl) dX10_takes_52) (fun rq143_ Mq141_ Tq142_ Hq_ lcq_ hP hz hH => ?_)
          try dsimp only at hP
          obtain ⟨(cq144_ | ⟨cq145_, er_rq143_⟩), eT, eM⟩ := hP
          · skip
            have eT := eT.symm; subst eT
            have eM := eM.symm; subst eM
            have cq144_ : yq1_.toInt < sm.toInt ∧ rq143_ = ft yq1_.toInt.toNat := cq144_
            exfalso; omega
          · skip
            have eT := eT.symm; subst eT
            have er_rq143_ := er_rq143_.symm; subst er_rq143_
            have eM := eM.symm; subst eM
            have cq145_ : sm.toInt ≤ yq1_.toInt := cq145_
            refine lv_istore_n (lv' := [(1, .int (-1)), (0, .ref h)]) hx hb dX10_takes_55 rfl hl (by decide) rfl (fun ls hl => ?_)
            refine lv_aload_n hx hb dX10_takes_56 rfl (lv_at hl 1 rfl) ?_
            refine lv_lconst (v := 0) hx hb dX10_takes_57 (by decide) ?_
            refine yp (v := .long 0) hC hK hH flX10_213 hc_h (noT hn_h) rfl rfl (Nat.le_of_ble_eq_true rfl) dX10_takes_58 (fun Hq_ lcq_ Mq146_ hc_h hfr hH => ?_)
            have hc_h : Mq146_ h = some (.inr (8, [.ref al, .ref mt, .ref ii, .int ta, .int fpm, .ref pa, .int sm, .int yq1_, .int tk, .int yq1_, .int ln, .long 0, .int wr, .ref li])) := hc_h
            have hc_mt : Mq146_ mt = some (.inl (kA 0, 600, .inl ft)) := (hfr mt n_mt_h).trans hc_mt
            have hF : ∀ q, FrK T q → q ≠ h → q ≠ mt → Mq146_ q = M q := fun q hq h0 h1 => (hfr q h0).trans (hF q hq h0 h1)
            refine lv_iload_n hx hb dX10_takes_61 rfl (lv_at hl 0 rfl) ?_
            refine jif_ge (tgt := 73) hx hb dX10_takes_62 (by decide) (fun cq147_ => absurd cq147_ (by decide)) (fun cq147_ => ?_)
            refine lv_aload_n hx hb dX10_takes_65 rfl (lv_at hl 1 rfl) ?_
            refine lv_iconst (v := 0) hx hb dX10_takes_66 (by decide) ?_
            refine yp (v := .int 0) hC hK hH flX10_217 hc_h (noT hn_h) rfl rfl (Nat.le_of_ble_eq_true rfl) dX10_takes_67 (fun Hq_ lcq_ Mq148_ hc_h hfr hH => ?_)
            have hc_h : Mq148_ h = some (.inr (8, [.ref al, .ref mt, .ref ii, .int ta, .int fpm, .ref pa, .int sm, .int yq1_, .int 0, .int yq1_, .int ln, .long 0, .int wr, .ref li])) := hc_h
            have hc_mt : Mq148_ mt = some (.inl (kA 0, 600, .inl ft)) := (hfr mt n_mt_h).trans hc_mt
            have hF : ∀ q, FrK T q → q ≠ h → q ≠ mt → Mq148_ q = M q := fun q hq h0 h1 => (hfr q h0).trans (hF q hq h0 h1)
            refine lv_goto (tgt := 291) hx hb dX10_takes_70 (by decide) ?_
            exact ret_v hC hr hlk hK hH (⟨0, yq1_, ⟨by omega, by omega⟩, 0, ⟨by decide, by decide⟩, yq1_, ⟨by omega, by omega⟩, ⟨by have : (0 : Int32).toInt = 0 := rfl; have : (0 : Int64).toInt = 0 := rfl; omega, hc_h, hc_mt⟩, rfl, hF⟩) (Nat.le_of_ble_eq_true rfl) (Nat.le_of_ble_eq_true rfl) dX10_takes_291
  exact loop (Int.toNat (sm.toInt - nx.toInt + 1)) nx _ _ _ ls (by have := iRg nx; omega) (by have := iRg nx; omega) (by have := iRg nx; omega) (by have := iRg nx; omega) (by have := iRg nx; omega) hc_h hc_mt hF hH hl
