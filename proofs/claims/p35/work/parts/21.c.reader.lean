set_option maxHeartbeats 4000000 in
set_option maxRecDepth 100000 in
theorem c_X4_isLetter {l : Launch} {D : va_G} {kA : Nat → ClassId} {M : mM} {T : mT} {sz : Nat} {rd nb by_ vb : Nat} {no wi le ki pl be va : Int32} {k : Int32} (hc_rd : M rd = some (.inr (3, [.ref nb, .ref vb, .int no, .int wi, .ref by_, .int le, .int ki, .int pl, .int be, .int va]))) (hn_rd : T rd = none) (ht_nb : T nb = some 12) (ht_by_ : T by_ = some 7) (hk : 0 ≤ k.toInt ∧ k.toInt ≤ 599) : mCi l yX4_isLetter cX4_isLetter 2 (some .boolean) 0 0 0 D kA M T sz [.ref rd, .int k] (fun r u => ((r = 1) ∨ (r = 0)) ∧ u.2 = T ∧ u.1 = M) := by
  unfold mCi
  refine start_W (by decide) (Nat.le_of_ble_eq_true rfl) ?_
  intro p e s m below meth c ls hC hr hlk hnm hK hH hsz hl
  have hx := hC.1
  have hb := hC.2.1
  have hl : lv_has ls 2 [(0, .ref rd), (1, .int k)] := hl
  refine lv_aload_n hx hb dX4_isLetter_0 rfl (lv_at hl 0 rfl) ?_
  refine xg hC hK hH flX4_24 hc_rd rfl dX4_isLetter_1 ?_
  refine lv_iload_n hx hb dX4_isLetter_4 rfl (lv_at hl 1 rfl) ?_
  refine tbld hC hK hH ht_by_ rfl (iIn (by omega) (by omega)) dX4_isLetter_5 (fun xq1_ l_xq1_ g_xq1_ => ?_)
  refine lv_bipush (v := 97) hx hb dX4_isLetter_6 (by decide) ?_
  refine jic_lt (tgt := 26) hx hb dX4_isLetter_8 (by decide) (fun cq2_ => ?_) (fun cq2_ => ?_)
  · skip
    have cq2_ : xq1_.toInt < 97 := cq2_
    refine lv_iconst (v := 0) hx hb dX4_isLetter_26 (by decide) ?_
    exact ret_z hC hr hlk hK hH (by first | exact Or.inl rfl | exact Or.inr rfl | assumption) (⟨Or.inr (rfl), rfl, rfl⟩) (Nat.le_of_ble_eq_true rfl) (Nat.le_of_ble_eq_true rfl) dX4_isLetter_27
  · skip
    have cq2_ : 97 ≤ xq1_.toInt := cq2_
    refine lv_aload_n hx hb dX4_isLetter_11 rfl (lv_at hl 0 rfl) ?_
    refine xg hC hK hH flX4_24 hc_rd rfl dX4_isLetter_12 ?_
    refine lv_iload_n hx hb dX4_isLetter_15 rfl (lv_at hl 1 rfl) ?_
    refine tbld hC hK hH ht_by_ rfl (iIn (by omega) (by omega)) dX4_isLetter_16 (fun xq3_ l_xq3_ g_xq3_ => ?_)
    refine lv_bipush (v := 122) hx hb dX4_isLetter_17 (by decide) ?_
    refine jic_gt (tgt := 26) hx hb dX4_isLetter_19 (by decide) (fun cq4_ => ?_) (fun cq4_ => ?_)
    · skip
      have cq4_ : 122 < xq3_.toInt := cq4_
      refine lv_iconst (v := 0) hx hb dX4_isLetter_26 (by decide) ?_
      exact ret_z hC hr hlk hK hH (by first | exact Or.inl rfl | exact Or.inr rfl | assumption) (⟨Or.inr (rfl), rfl, rfl⟩) (Nat.le_of_ble_eq_true rfl) (Nat.le_of_ble_eq_true rfl) dX4_isLetter_27
    · skip
      have cq4_ : xq3_.toInt ≤ 122 := cq4_
      refine lv_iconst (v := 1) hx hb dX4_isLetter_22 (by decide) ?_
      refine lv_goto (tgt := 27) hx hb dX4_isLetter_23 (by decide) ?_
      exact ret_z hC hr hlk hK hH (by first | exact Or.inl rfl | exact Or.inr rfl | assumption) (⟨Or.inl (rfl), rfl, rfl⟩) (Nat.le_of_ble_eq_true rfl) (Nat.le_of_ble_eq_true rfl) dX4_isLetter_27
set_option maxHeartbeats 4000000 in
set_option maxRecDepth 100000 in
theorem c_X4_isDigit {l : Launch} {D : va_G} {kA : Nat → ClassId} {M : mM} {T : mT} {sz : Nat} {rd nb by_ vb : Nat} {no wi le ki pl be va : Int32} {k : Int32} (hc_rd : M rd = some (.inr (3, [.ref nb, .ref vb, .int no, .int wi, .ref by_, .int le, .int ki, .int pl, .int be, .int va]))) (hn_rd : T rd = none) (ht_nb : T nb = some 12) (ht_by_ : T by_ = some 7) (hk : 0 ≤ k.toInt ∧ k.toInt ≤ 599) : mCi l yX4_isDigit cX4_isDigit 2 (some .boolean) 0 0 0 D kA M T sz [.ref rd, .int k] (fun r u => ((r = 1) ∨ (r = 0)) ∧ u.2 = T ∧ u.1 = M) := by
  unfold mCi
  refine start_W (by decide) (Nat.le_of_ble_eq_true rfl) ?_
  intro p e s m below meth c ls hC hr hlk hnm hK hH hsz hl
  have hx := hC.1
  have hb := hC.2.1
  have hl : lv_has ls 2 [(0, .ref rd), (1, .int k)] := hl
  refine lv_aload_n hx hb dX4_isDigit_0 rfl (lv_at hl 0 rfl) ?_
  refine xg hC hK hH flX4_24 hc_rd rfl dX4_isDigit_1 ?_
  refine lv_iload_n hx hb dX4_isDigit_4 rfl (lv_at hl 1 rfl) ?_
  refine tbld hC hK hH ht_by_ rfl (iIn (by omega) (by omega)) dX4_isDigit_5 (fun xq1_ l_xq1_ g_xq1_ => ?_)
  refine lv_bipush (v := 48) hx hb dX4_isDigit_6 (by decide) ?_
  refine jic_lt (tgt := 26) hx hb dX4_isDigit_8 (by decide) (fun cq2_ => ?_) (fun cq2_ => ?_)
  · skip
    have cq2_ : xq1_.toInt < 48 := cq2_
    refine lv_iconst (v := 0) hx hb dX4_isDigit_26 (by decide) ?_
    exact ret_z hC hr hlk hK hH (by first | exact Or.inl rfl | exact Or.inr rfl | assumption) (⟨Or.inr (rfl), rfl, rfl⟩) (Nat.le_of_ble_eq_true rfl) (Nat.le_of_ble_eq_true rfl) dX4_isDigit_27
  · skip
    have cq2_ : 48 ≤ xq1_.toInt := cq2_
    refine lv_aload_n hx hb dX4_isDigit_11 rfl (lv_at hl 0 rfl) ?_
    refine xg hC hK hH flX4_24 hc_rd rfl dX4_isDigit_12 ?_
    refine lv_iload_n hx hb dX4_isDigit_15 rfl (lv_at hl 1 rfl) ?_
    refine tbld hC hK hH ht_by_ rfl (iIn (by omega) (by omega)) dX4_isDigit_16 (fun xq3_ l_xq3_ g_xq3_ => ?_)
    refine lv_bipush (v := 57) hx hb dX4_isDigit_17 (by decide) ?_
    refine jic_gt (tgt := 26) hx hb dX4_isDigit_19 (by decide) (fun cq4_ => ?_) (fun cq4_ => ?_)
    · skip
      have cq4_ : 57 < xq3_.toInt := cq4_
      refine lv_iconst (v := 0) hx hb dX4_isDigit_26 (by decide) ?_
      exact ret_z hC hr hlk hK hH (by first | exact Or.inl rfl | exact Or.inr rfl | assumption) (⟨Or.inr (rfl), rfl, rfl⟩) (Nat.le_of_ble_eq_true rfl) (Nat.le_of_ble_eq_true rfl) dX4_isDigit_27
    · skip
      have cq4_ : xq3_.toInt ≤ 57 := cq4_
      refine lv_iconst (v := 1) hx hb dX4_isDigit_22 (by decide) ?_
      refine lv_goto (tgt := 27) hx hb dX4_isDigit_23 (by decide) ?_
      exact ret_z hC hr hlk hK hH (by first | exact Or.inl rfl | exact Or.inr rfl | assumption) (⟨Or.inl (rfl), rfl, rfl⟩) (Nat.le_of_ble_eq_true rfl) (Nat.le_of_ble_eq_true rfl) dX4_isDigit_27
set_option maxHeartbeats 4000000 in
set_option maxRecDepth 100000 in
theorem c_X4_atEnd {l : Launch} {D : va_G} {kA : Nat → ClassId} {M : mM} {T : mT} {sz : Nat} {rd nb by_ vb : Nat} {no wi le ki pl be va : Int32} (hc_rd : M rd = some (.inr (3, [.ref nb, .ref vb, .int no, .int wi, .ref by_, .int le, .int ki, .int pl, .int be, .int va]))) (hn_rd : T rd = none) (ht_nb : T nb = some 12) (ht_by_ : T by_ = some 7) : mCi l yX4_atEnd cX4_atEnd 1 (some .boolean) 0 0 0 D kA M T sz [.ref rd] (fun r u => ((r = 1) ∨ (r = 0)) ∧ u.2 = T ∧ u.1 = M) := by
  unfold mCi
  refine start_W (by decide) (Nat.le_of_ble_eq_true rfl) ?_
  intro p e s m below meth c ls hC hr hlk hnm hK hH hsz hl
  have hx := hC.1
  have hb := hC.2.1
  have hl : lv_has ls 1 [(0, .ref rd)] := hl
  refine lv_aload_n hx hb dX4_atEnd_0 rfl (lv_at hl 0 rfl) ?_
  refine xg hC hK hH flX4_44 hc_rd rfl dX4_atEnd_1 ?_
  refine jif_ne (tgt := 11) hx hb dX4_atEnd_4 (by decide) (fun cq1_ => ?_) (fun cq1_ => ?_)
  · skip
    have cq1_ : ki.toInt ≠ 0 := cq1_
    refine lv_iconst (v := 0) hx hb dX4_atEnd_11 (by decide) ?_
    exact ret_z hC hr hlk hK hH (by first | exact Or.inl rfl | exact Or.inr rfl | assumption) (⟨Or.inr (rfl), rfl, rfl⟩) (Nat.le_of_ble_eq_true rfl) (Nat.le_of_ble_eq_true rfl) dX4_atEnd_12
  · skip
    have cq1_ : ki.toInt = 0 := cq1_
    refine lv_iconst (v := 1) hx hb dX4_atEnd_7 (by decide) ?_
    refine lv_goto (tgt := 12) hx hb dX4_atEnd_8 (by decide) ?_
    exact ret_z hC hr hlk hK hH (by first | exact Or.inl rfl | exact Or.inr rfl | assumption) (⟨Or.inl (rfl), rfl, rfl⟩) (Nat.le_of_ble_eq_true rfl) (Nat.le_of_ble_eq_true rfl) dX4_atEnd_12
set_option maxHeartbeats 4000000 in
set_option maxRecDepth 100000 in
theorem c_X4_moveOverWord {l : Launch} {D : va_G} {kA : Nat → ClassId} {M : mM} {T : mT} {sz : Nat} {rd nb by_ vb : Nat} {no wi le ki pl be va : Int32} (hc_rd : M rd = some (.inr (3, [.ref nb, .ref vb, .int no, .int wi, .ref by_, .int le, .int ki, .int pl, .int be, .int va]))) (hn_rd : T rd = none) (ht_nb : T nb = some 12) (ht_by_ : T by_ = some 7) (hle : 0 ≤ le.toInt ∧ le.toInt ≤ 600) (hpl : 0 ≤ pl.toInt) (hpb : pl.toInt ≤ be.toInt) (hbe : be.toInt ≤ le.toInt) : mCv l yX4_moveOverWord cX4_moveOverWord 1 1 0 0 D kA M T sz [.ref rd] (fun u => ∃ be2 : Int32, ((0 : Int) ≤ be2.toInt ∧ be2.toInt ≤ 600) ∧ ((pl.toInt ≤ be2.toInt ∧ be2.toInt ≤ le.toInt) ∧ u.1 rd = some (.inr (3, [.ref nb, .ref vb, .int no, .int wi, .ref by_, .int le, .int 1, .int pl, .int be2, .int va]))) ∧ u.2 = T ∧ (∀ q, FrK T q → q ≠ rd → u.1 q = M q)) := by
  unfold mCv
  refine start_W (by decide) (Nat.le_of_ble_eq_true rfl) ?_
  intro p e s m below meth c ls hC hr hlk hnm hK hH hsz hl
  have hx := hC.1
  have hb := hC.2.1
  have hl : lv_has ls 1 [(0, .ref rd)] := hl
  have hF : ∀ q, FrK T q → q ≠ rd → M q = M q := fun q _ _ => rfl
  refine lv_aload_n hx hb dX4_moveOverWord_0 rfl (lv_at hl 0 rfl) ?_
  refine lv_iconst (v := 1) hx hb dX4_moveOverWord_1 (by decide) ?_
  refine yp (v := .int 1) hC hK hH flX4_44 hc_rd (noT hn_rd) rfl rfl (Nat.le_of_ble_eq_true rfl) dX4_moveOverWord_2 (fun Hq_ lcq_ Mq1_ hc_rd hfr hH => ?_)
  have hc_rd : Mq1_ rd = some (.inr (3, [.ref nb, .ref vb, .int no, .int wi, .ref by_, .int le, .int 1, .int pl, .int be, .int va])) := hc_rd
  have hF : ∀ q, FrK T q → q ≠ rd → Mq1_ q = M q := fun q hq h0 => (hfr q h0).trans (hF q hq h0)
  have loop : ∀ (n : Nat) (yq2_ : Int32) (Hq_ : Heap) (lcq_ : List Loc) (Mq3_ : mM) (ls : Array Slot), le.toInt - yq2_.toInt + 1 ≤ (n : Int) → (0 : Int) ≤ yq2_.toInt → yq2_.toInt ≤ 600 → (pl.toInt ≤ yq2_.toInt) → (yq2_.toInt ≤ le.toInt) → Mq3_ rd = some (.inr (3, [.ref nb, .ref vb, .int no, .int wi, .ref by_, .int le, .int 1, .int pl, .int yq2_, .int va])) → (∀ q, FrK T q → q ≠ rd → Mq3_ q = M q) → mS D kA Mq3_ T (mA M T sz) s.heap Hq_ lcq_ → lv_has ls 1 [(0, .ref rd)] → W p l e (rmL 1 0 0) s m ([.ref rd] : List Value).toArray below meth c Hq_ lcq_ 0 0 (MQ below (va_Qv (fun u => ∃ be2 : Int32, ((0 : Int) ≤ be2.toInt ∧ be2.toInt ≤ 600) ∧ ((pl.toInt ≤ be2.toInt ∧ be2.toInt ≤ le.toInt) ∧ u.1 rd = some (.inr (3, [.ref nb, .ref vb, .int no, .int wi, .ref by_, .int le, .int 1, .int pl, .int be2, .int va]))) ∧ u.2 = T ∧ (∀ q, FrK T q → q ≠ rd → u.1 q = M q)) (mB D kA M T sz) (mA M T sz)) ([.ref rd] : List Value).toArray s 0 0 (mA M T sz)) (F0 m 5 ls []) := by
    intro n
    induction n with
    | zero =>
      intro yq2_ Hq_ lcq_ Mq3_ ls hme l_yq2_ g_yq2_ hv0_yq2_ hv1_yq2_ hc_rd hF hH hl
      exfalso; omega
    | succ n ih =>
      intro yq2_ Hq_ lcq_ Mq3_ ls hme l_yq2_ g_yq2_ hv0_yq2_ hv1_yq2_ hc_rd hF hH hl
      refine lv_aload_n hx hb dX4_moveOverWord_5 rfl (lv_at hl 0 rfl) ?_
      refine xg hC hK hH flX4_38 hc_rd rfl dX4_moveOverWord_6 ?_
      refine lv_aload_n hx hb dX4_moveOverWord_9 rfl (lv_at hl 0 rfl) ?_
      refine xg hC hK hH flX4_34 hc_rd rfl dX4_moveOverWord_10 ?_
      refine jic_ge (tgt := 40) hx hb dX4_moveOverWord_13 (by decide) (fun cq4_ => ?_) (fun cq4_ => ?_)
      · skip
        have cq4_ : le.toInt ≤ yq2_.toInt := cq4_
        exact ret_v hC hr hlk hK hH (⟨yq2_, ⟨by omega, by omega⟩, ⟨by omega, hc_rd⟩, rfl, hF⟩) (Nat.le_of_ble_eq_true rfl) (Nat.le_of_ble_eq_true rfl) dX4_moveOverWord_40
      · skip
        have cq4_ : yq2_.toInt < le.toInt := cq4_
        refine lv_aload_n hx hb dX4_moveOverWord_16 rfl (lv_at hl 0 rfl) ?_
        refine lv_aload_n hx hb dX4_moveOverWord_17 rfl (lv_at hl 0 rfl) ?_
        refine xg hC hK hH flX4_38 hc_rd rfl dX4_moveOverWord_18 ?_
        refine goI hK hH (runV (As := [.int yq2_]) (rest := []) hC hK hH (c_X4_isLetter hc_rd hn_rd ht_nb ht_by_ (by omega)) mlX4_98 (rcvM hK hH hc_rd rfl) ⟨⟨Nat.le_of_ble_eq_true rfl, Nat.le_of_ble_eq_true rfl⟩, Nat.le_of_ble_eq_true rfl, Nat.le_of_ble_eq_true rfl⟩ rfl hl.1 rfl (Nat.le_of_ble_eq_true rfl) dX4_moveOverWord_21) (fun rq7_ Mq5_ Tq6_ Hq_ lcq_ hP hz hH => ?_)
        try dsimp only at hP
        obtain ⟨(er_rq7_ | er_rq7_), eT, eM⟩ := hP
        · skip
          have eT := eT.symm; subst eT
          have er_rq7_ := er_rq7_.symm; subst er_rq7_
          have eM := eM.symm; subst eM
          refine jif_eq (tgt := 40) hx hb dX4_moveOverWord_24 (by decide) (fun cq8_ => absurd cq8_ (by decide)) (fun cq8_ => ?_)
          refine lv_aload_n hx hb dX4_moveOverWord_27 rfl (lv_at hl 0 rfl) ?_
          refine lv_dup hx hb dX4_moveOverWord_28 rfl ?_
          refine xg hC hK hH flX4_38 hc_rd rfl dX4_moveOverWord_29 ?_
          refine lv_iconst (v := 1) hx hb dX4_moveOverWord_32 (by decide) ?_
          refine lv_iadd hx hb dX4_moveOverWord_33 ?_
          refine lv_topi (fun zq9_ e_zq9_ => ?_)
          have h_zq9_ : zq9_.toInt = yq2_.toInt + 1 := by rw [e_zq9_, iAdd (by have := iRg yq2_; have : (1 : Int32).toInt = 1 := rfl; omega) (by have := iRg yq2_; have : (1 : Int32).toInt = 1 := rfl; omega)]; rfl
          refine yp (v := .int zq9_) hC hK hH flX4_38 hc_rd (noT hn_rd) rfl rfl (Nat.le_of_ble_eq_true rfl) dX4_moveOverWord_34 (fun Hq_ lcq_ Mq10_ hc_rd hfr hH => ?_)
          have hc_rd : Mq10_ rd = some (.inr (3, [.ref nb, .ref vb, .int no, .int wi, .ref by_, .int le, .int 1, .int pl, .int zq9_, .int va])) := hc_rd
          have hF : ∀ q, FrK T q → q ≠ rd → Mq10_ q = M q := fun q hq h0 => (hfr q h0).trans (hF q hq h0)
          refine lv_goto (tgt := 5) hx hb dX4_moveOverWord_37 (by decide) ?_
          exact ih zq9_ _ _ _ ls (by have := iRg zq9_; omega) (by have := iRg zq9_; omega) (by have := iRg zq9_; omega) (by have := iRg zq9_; omega) (by have := iRg zq9_; omega) hc_rd hF hH (lv_sub hl [0] rfl)
        · skip
          have eT := eT.symm; subst eT
          have er_rq7_ := er_rq7_.symm; subst er_rq7_
          have eM := eM.symm; subst eM
          refine jif_eq (tgt := 40) hx hb dX4_moveOverWord_24 (by decide) (fun cq11_ => ?_) (fun cq11_ => absurd cq11_ (by decide))
          exact ret_v hC hr hlk hK hH (⟨yq2_, ⟨by omega, by omega⟩, ⟨by omega, hc_rd⟩, rfl, hF⟩) (Nat.le_of_ble_eq_true rfl) (Nat.le_of_ble_eq_true rfl) dX4_moveOverWord_40
  exact loop (Int.toNat (le.toInt - be.toInt + 1)) be _ _ _ ls (by have := iRg be; omega) (by have := iRg be; omega) (by have := iRg be; omega) (by have := iRg be; omega) (by have := iRg be; omega) hc_rd hF hH hl
set_option maxHeartbeats 4000000 in
set_option maxRecDepth 100000 in
theorem c_X4_moveOverNumber {l : Launch} {D : va_G} {kA : Nat → ClassId} {M : mM} {T : mT} {sz : Nat} {rd nb by_ vb : Nat} {no wi le ki pl be va : Int32} (hc_rd : M rd = some (.inr (3, [.ref nb, .ref vb, .int no, .int wi, .ref by_, .int le, .int ki, .int pl, .int be, .int va]))) (hn_rd : T rd = none) (ht_nb : T nb = some 12) (ht_by_ : T by_ = some 7) (hle : 0 ≤ le.toInt ∧ le.toInt ≤ 600) (hpl : 0 ≤ pl.toInt) (hpb : pl.toInt ≤ be.toInt) (hbe : be.toInt ≤ le.toInt) : mCv l yX4_moveOverNumber cX4_moveOverNumber 1 1 0 0 D kA M T sz [.ref rd] (fun u => ∃ ki2 : Int32, ((0 : Int) ≤ ki2.toInt ∧ ki2.toInt ≤ 4) ∧ ∃ be2 : Int32, ((0 : Int) ≤ be2.toInt ∧ be2.toInt ≤ 600) ∧ ∃ va2 : Int32, ((-2147483648 : Int) ≤ va2.toInt ∧ va2.toInt ≤ 2147483647) ∧ ((pl.toInt ≤ be2.toInt ∧ be2.toInt ≤ le.toInt) ∧ u.1 rd = some (.inr (3, [.ref nb, .ref vb, .int no, .int wi, .ref by_, .int le, .int ki2, .int pl, .int be2, .int va2]))) ∧ u.2 = T ∧ (∀ q, FrK T q → q ≠ rd → u.1 q = M q)) := by
  unfold mCv
  refine start_W (by decide) (Nat.le_of_ble_eq_true rfl) ?_
  intro p e s m below meth c ls hC hr hlk hnm hK hH hsz hl
  have hx := hC.1
  have hb := hC.2.1
  have hl : lv_has ls 1 [(0, .ref rd)] := hl
  have hF : ∀ q, FrK T q → q ≠ rd → M q = M q := fun q _ _ => rfl
  refine lv_aload_n hx hb dX4_moveOverNumber_0 rfl (lv_at hl 0 rfl) ?_
  refine lv_iconst (v := 0) hx hb dX4_moveOverNumber_1 (by decide) ?_
  refine yp (v := .int 0) hC hK hH flX4_59 hc_rd (noT hn_rd) rfl rfl (Nat.le_of_ble_eq_true rfl) dX4_moveOverNumber_2 (fun Hq_ lcq_ Mq1_ hc_rd hfr hH => ?_)
  have hc_rd : Mq1_ rd = some (.inr (3, [.ref nb, .ref vb, .int no, .int wi, .ref by_, .int le, .int ki, .int pl, .int be, .int 0])) := hc_rd
  have hF : ∀ q, FrK T q → q ≠ rd → Mq1_ q = M q := fun q hq h0 => (hfr q h0).trans (hF q hq h0)
  have loop : ∀ (n : Nat) (yq2_ : Int32) (yq3_ : Int32) (Hq_ : Heap) (lcq_ : List Loc) (Mq4_ : mM) (ls : Array Slot), le.toInt - yq2_.toInt + 1 ≤ (n : Int) → (0 : Int) ≤ yq2_.toInt → yq2_.toInt ≤ 600 → (pl.toInt ≤ yq2_.toInt) → (yq2_.toInt ≤ le.toInt) → Mq4_ rd = some (.inr (3, [.ref nb, .ref vb, .int no, .int wi, .ref by_, .int le, .int ki, .int pl, .int yq2_, .int yq3_])) → (∀ q, FrK T q → q ≠ rd → Mq4_ q = M q) → mS D kA Mq4_ T (mA M T sz) s.heap Hq_ lcq_ → lv_has ls 1 [(0, .ref rd)] → W p l e (rmL 1 0 0) s m ([.ref rd] : List Value).toArray below meth c Hq_ lcq_ 0 0 (MQ below (va_Qv (fun u => ∃ ki2 : Int32, ((0 : Int) ≤ ki2.toInt ∧ ki2.toInt ≤ 4) ∧ ∃ be2 : Int32, ((0 : Int) ≤ be2.toInt ∧ be2.toInt ≤ 600) ∧ ∃ va2 : Int32, ((-2147483648 : Int) ≤ va2.toInt ∧ va2.toInt ≤ 2147483647) ∧ ((pl.toInt ≤ be2.toInt ∧ be2.toInt ≤ le.toInt) ∧ u.1 rd = some (.inr (3, [.ref nb, .ref vb, .int no, .int wi, .ref by_, .int le, .int ki2, .int pl, .int be2, .int va2]))) ∧ u.2 = T ∧ (∀ q, FrK T q → q ≠ rd → u.1 q = M q)) (mB D kA M T sz) (mA M T sz)) ([.ref rd] : List Value).toArray s 0 0 (mA M T sz)) (F0 m 5 ls []) := by
    intro n
    induction n with
    | zero =>
      intro yq2_ yq3_ Hq_ lcq_ Mq4_ ls hme l_yq2_ g_yq2_ hv0_yq2_ hv1_yq2_ hc_rd hF hH hl
      exfalso; omega
    | succ n ih =>
      intro yq2_ yq3_ Hq_ lcq_ Mq4_ ls hme l_yq2_ g_yq2_ hv0_yq2_ hv1_yq2_ hc_rd hF hH hl
      refine lv_aload_n hx hb dX4_moveOverNumber_5 rfl (lv_at hl 0 rfl) ?_
      refine xg hC hK hH flX4_38 hc_rd rfl dX4_moveOverNumber_6 ?_
      refine lv_aload_n hx hb dX4_moveOverNumber_9 rfl (lv_at hl 0 rfl) ?_
      refine xg hC hK hH flX4_34 hc_rd rfl dX4_moveOverNumber_10 ?_
      refine jic_ge (tgt := 84) hx hb dX4_moveOverNumber_13 (by decide) (fun cq5_ => ?_) (fun cq5_ => ?_)
      · skip
        have cq5_ : le.toInt ≤ yq2_.toInt := cq5_
        refine lv_aload_n hx hb dX4_moveOverNumber_84 rfl (lv_at hl 0 rfl) ?_
        refine lv_aload_n hx hb dX4_moveOverNumber_85 rfl (lv_at hl 0 rfl) ?_
        refine xg hC hK hH flX4_38 hc_rd rfl dX4_moveOverNumber_86 ?_
        refine lv_aload_n hx hb dX4_moveOverNumber_89 rfl (lv_at hl 0 rfl) ?_
        refine xg hC hK hH flX4_51 hc_rd rfl dX4_moveOverNumber_90 ?_
        refine lv_isub hx hb dX4_moveOverNumber_93 ?_
        refine lv_topi (fun zq6_ e_zq6_ => ?_)
        have h_zq6_ : zq6_.toInt = yq2_.toInt - pl.toInt := by rw [e_zq6_, iSub (by have := iRg yq2_; have := iRg pl; omega) (by have := iRg yq2_; have := iRg pl; omega)]
        refine lv_iconst (v := 4) hx hb dX4_moveOverNumber_94 (by decide) ?_
        refine jic_gt (tgt := 102) hx hb dX4_moveOverNumber_95 (by decide) (fun cq7_ => ?_) (fun cq7_ => ?_)
        · skip
          have cq7_ : 4 < zq6_.toInt := cq7_
          refine lv_iconst (v := 4) hx hb dX4_moveOverNumber_102 (by decide) ?_
          refine yp (v := .int 4) hC hK hH flX4_44 hc_rd (noT hn_rd) rfl rfl (Nat.le_of_ble_eq_true rfl) dX4_moveOverNumber_103 (fun Hq_ lcq_ Mq8_ hc_rd hfr hH => ?_)
          have hc_rd : Mq8_ rd = some (.inr (3, [.ref nb, .ref vb, .int no, .int wi, .ref by_, .int le, .int 4, .int pl, .int yq2_, .int yq3_])) := hc_rd
          have hF : ∀ q, FrK T q → q ≠ rd → Mq8_ q = M q := fun q hq h0 => (hfr q h0).trans (hF q hq h0)
          exact ret_v hC hr hlk hK hH (⟨4, ⟨by decide, by decide⟩, yq2_, ⟨by omega, by omega⟩, yq3_, iRg _, ⟨by omega, hc_rd⟩, rfl, hF⟩) (Nat.le_of_ble_eq_true rfl) (Nat.le_of_ble_eq_true rfl) dX4_moveOverNumber_106
        · skip
          have cq7_ : zq6_.toInt ≤ 4 := cq7_
          refine lv_iconst (v := 2) hx hb dX4_moveOverNumber_98 (by decide) ?_
          refine lv_goto (tgt := 103) hx hb dX4_moveOverNumber_99 (by decide) ?_
          refine yp (v := .int 2) hC hK hH flX4_44 hc_rd (noT hn_rd) rfl rfl (Nat.le_of_ble_eq_true rfl) dX4_moveOverNumber_103 (fun Hq_ lcq_ Mq9_ hc_rd hfr hH => ?_)
          have hc_rd : Mq9_ rd = some (.inr (3, [.ref nb, .ref vb, .int no, .int wi, .ref by_, .int le, .int 2, .int pl, .int yq2_, .int yq3_])) := hc_rd
          have hF : ∀ q, FrK T q → q ≠ rd → Mq9_ q = M q := fun q hq h0 => (hfr q h0).trans (hF q hq h0)
          exact ret_v hC hr hlk hK hH (⟨2, ⟨by decide, by decide⟩, yq2_, ⟨by omega, by omega⟩, yq3_, iRg _, ⟨by omega, hc_rd⟩, rfl, hF⟩) (Nat.le_of_ble_eq_true rfl) (Nat.le_of_ble_eq_true rfl) dX4_moveOverNumber_106
      · skip
        have cq5_ : yq2_.toInt < le.toInt := cq5_
        refine lv_aload_n hx hb dX4_moveOverNumber_16 rfl (lv_at hl 0 rfl) ?_
        refine lv_aload_n hx hb dX4_moveOverNumber_17 rfl (lv_at hl 0 rfl) ?_
        refine xg hC hK hH flX4_38 hc_rd rfl dX4_moveOverNumber_18 ?_
        refine goI hK hH (runV (As := [.int yq2_]) (rest := []) hC hK hH (c_X4_isDigit hc_rd hn_rd ht_nb ht_by_ (by omega)) mlX4_105 (rcvM hK hH hc_rd rfl) ⟨⟨Nat.le_of_ble_eq_true rfl, Nat.le_of_ble_eq_true rfl⟩, Nat.le_of_ble_eq_true rfl, Nat.le_of_ble_eq_true rfl⟩ rfl hl.1 rfl (Nat.le_of_ble_eq_true rfl) dX4_moveOverNumber_21) (fun rq12_ Mq10_ Tq11_ Hq_ lcq_ hP hz hH => ?_)
        try dsimp only at hP
        obtain ⟨(er_rq12_ | er_rq12_), eT, eM⟩ := hP
        · skip
          have eT := eT.symm; subst eT
          have er_rq12_ := er_rq12_.symm; subst er_rq12_
          have eM := eM.symm; subst eM
          refine jif_eq (tgt := 84) hx hb dX4_moveOverNumber_24 (by decide) (fun cq13_ => absurd cq13_ (by decide)) (fun cq13_ => ?_)
          refine lv_aload_n hx hb dX4_moveOverNumber_27 rfl (lv_at hl 0 rfl) ?_
          refine lv_aload_n hx hb dX4_moveOverNumber_28 rfl (lv_at hl 0 rfl) ?_
          refine xg hC hK hH flX4_38 hc_rd rfl dX4_moveOverNumber_29 ?_
          refine lv_aload_n hx hb dX4_moveOverNumber_32 rfl (lv_at hl 0 rfl) ?_
          refine xg hC hK hH flX4_51 hc_rd rfl dX4_moveOverNumber_33 ?_
          refine lv_isub hx hb dX4_moveOverNumber_36 ?_
          refine lv_topi (fun zq14_ e_zq14_ => ?_)
          have h_zq14_ : zq14_.toInt = yq2_.toInt - pl.toInt := by rw [e_zq14_, iSub (by have := iRg yq2_; have := iRg pl; omega) (by have := iRg yq2_; have := iRg pl; omega)]
          refine lv_iconst (v := 4) hx hb dX4_moveOverNumber_37 (by decide) ?_
          refine jic_ge (tgt := 64) hx hb dX4_moveOverNumber_38 (by decide) (fun cq15_ => ?_) (fun cq15_ => ?_)
          · skip
            have cq15_ : 4 ≤ zq14_.toInt := cq15_
            refine lv_aload_n hx hb dX4_moveOverNumber_64 rfl (lv_at hl 0 rfl) ?_
            refine xg hC hK hH flX4_59 hc_rd rfl dX4_moveOverNumber_65 ?_
            refine yp (v := .int yq3_) hC hK hH flX4_59 hc_rd (noT hn_rd) rfl rfl (Nat.le_of_ble_eq_true rfl) dX4_moveOverNumber_68 (fun Hq_ lcq_ Mq16_ hc_rd hfr hH => ?_)
            have hc_rd : Mq16_ rd = some (.inr (3, [.ref nb, .ref vb, .int no, .int wi, .ref by_, .int le, .int ki, .int pl, .int yq2_, .int yq3_])) := hc_rd
            have hF : ∀ q, FrK T q → q ≠ rd → Mq16_ q = M q := fun q hq h0 => (hfr q h0).trans (hF q hq h0)
            refine lv_aload_n hx hb dX4_moveOverNumber_71 rfl (lv_at hl 0 rfl) ?_
            refine lv_dup hx hb dX4_moveOverNumber_72 rfl ?_
            refine xg hC hK hH flX4_38 hc_rd rfl dX4_moveOverNumber_73 ?_
            refine lv_iconst (v := 1) hx hb dX4_moveOverNumber_76 (by decide) ?_
            refine lv_iadd hx hb dX4_moveOverNumber_77 ?_
            refine lv_topi (fun zq17_ e_zq17_ => ?_)
            have h_zq17_ : zq17_.toInt = yq2_.toInt + 1 := by rw [e_zq17_, iAdd (by have := iRg yq2_; have : (1 : Int32).toInt = 1 := rfl; omega) (by have := iRg yq2_; have : (1 : Int32).toInt = 1 := rfl; omega)]; rfl
            refine yp (v := .int zq17_) hC hK hH flX4_38 hc_rd (noT hn_rd) rfl rfl (Nat.le_of_ble_eq_true rfl) dX4_moveOverNumber_78 (fun Hq_ lcq_ Mq18_ hc_rd hfr hH => ?_)
            have hc_rd : Mq18_ rd = some (.inr (3, [.ref nb, .ref vb, .int no, .int wi, .ref by_, .int le, .int ki, .int pl, .int zq17_, .int yq3_])) := hc_rd
            have hF : ∀ q, FrK T q → q ≠ rd → Mq18_ q = M q := fun q hq h0 => (hfr q h0).trans (hF q hq h0)
            refine lv_goto (tgt := 5) hx hb dX4_moveOverNumber_81 (by decide) ?_
            exact ih zq17_ yq3_ _ _ _ ls (by have := iRg zq17_; have := iRg yq3_; omega) (by have := iRg zq17_; have := iRg yq3_; omega) (by have := iRg zq17_; have := iRg yq3_; omega) (by have := iRg zq17_; have := iRg yq3_; omega) (by have := iRg zq17_; have := iRg yq3_; omega) hc_rd hF hH (lv_sub hl [0] rfl)
          · skip
            have cq15_ : zq14_.toInt < 4 := cq15_
            refine lv_bipush (v := 10) hx hb dX4_moveOverNumber_41 (by decide) ?_
            refine lv_aload_n hx hb dX4_moveOverNumber_43 rfl (lv_at hl 0 rfl) ?_
            refine xg hC hK hH flX4_59 hc_rd rfl dX4_moveOverNumber_44 ?_
            refine lv_imul hx hb dX4_moveOverNumber_47 ?_
            refine lv_topi (fun zq19_ e_zq19_ => ?_)
            refine lv_aload_n hx hb dX4_moveOverNumber_48 rfl (lv_at hl 0 rfl) ?_
            refine xg hC hK hH flX4_24 hc_rd rfl dX4_moveOverNumber_49 ?_
            refine lv_aload_n hx hb dX4_moveOverNumber_52 rfl (lv_at hl 0 rfl) ?_
            refine xg hC hK hH flX4_38 hc_rd rfl dX4_moveOverNumber_53 ?_
            refine tbld hC hK hH ht_by_ rfl (iIn (by omega) (by omega)) dX4_moveOverNumber_56 (fun xq20_ l_xq20_ g_xq20_ => ?_)
            refine lv_iadd hx hb dX4_moveOverNumber_57 ?_
            refine lv_topi (fun zq21_ e_zq21_ => ?_)
            refine lv_bipush (v := 48) hx hb dX4_moveOverNumber_58 (by decide) ?_
            refine lv_isub hx hb dX4_moveOverNumber_60 ?_
            refine lv_topi (fun zq22_ e_zq22_ => ?_)
            refine lv_goto (tgt := 68) hx hb dX4_moveOverNumber_61 (by decide) ?_
            refine yp (v := .int zq22_) hC hK hH flX4_59 hc_rd (noT hn_rd) rfl rfl (Nat.le_of_ble_eq_true rfl) dX4_moveOverNumber_68 (fun Hq_ lcq_ Mq23_ hc_rd hfr hH => ?_)
            have hc_rd : Mq23_ rd = some (.inr (3, [.ref nb, .ref vb, .int no, .int wi, .ref by_, .int le, .int ki, .int pl, .int yq2_, .int zq22_])) := hc_rd
            have hF : ∀ q, FrK T q → q ≠ rd → Mq23_ q = M q := fun q hq h0 => (hfr q h0).trans (hF q hq h0)
            refine lv_aload_n hx hb dX4_moveOverNumber_71 rfl (lv_at hl 0 rfl) ?_
            refine lv_dup hx hb dX4_moveOverNumber_72 rfl ?_
            refine xg hC hK hH flX4_38 hc_rd rfl dX4_moveOverNumber_73 ?_
            refine lv_iconst (v := 1) hx hb dX4_moveOverNumber_76 (by decide) ?_
            refine lv_iadd hx hb dX4_moveOverNumber_77 ?_
            refine lv_topi (fun zq24_ e_zq24_ => ?_)
            have h_zq24_ : zq24_.toInt = yq2_.toInt + 1 := by rw [e_zq24_, iAdd (by have := iRg yq2_; have : (1 : Int32).toInt = 1 := rfl; omega) (by have := iRg yq2_; have : (1 : Int32).toInt = 1 := rfl; omega)]; rfl
            refine yp (v := .int zq24_) hC hK hH flX4_38 hc_rd (noT hn_rd) rfl rfl (Nat.le_of_ble_eq_true rfl) dX4_moveOverNumber_78 (fun Hq_ lcq_ Mq25_ hc_rd hfr hH => ?_)
            have hc_rd : Mq25_ rd = some (.inr (3, [.ref nb, .ref vb, .int no, .int wi, .ref by_, .int le, .int ki, .int pl, .int zq24_, .int zq22_])) := hc_rd
            have hF : ∀ q, FrK T q → q ≠ rd → Mq25_ q = M q := fun q hq h0 => (hfr q h0).trans (hF q hq h0)
            refine lv_goto (tgt := 5) hx hb dX4_moveOverNumber_81 (by decide) ?_
            exact ih zq24_ zq22_ _ _ _ ls (by have := iRg zq24_; have := iRg zq22_; omega) (by have := iRg zq24_; have := iRg zq22_; omega) (by have := iRg zq24_; have := iRg zq22_; omega) (by have := iRg zq24_; have := iRg zq22_; omega) (by have := iRg zq24_; have := iRg zq22_; omega) hc_rd hF hH (lv_sub hl [0] rfl)
        · skip
          have eT := eT.symm; subst eT
          have er_rq12_ := er_rq12_.symm; subst er_rq12_
          have eM := eM.symm; subst eM
          refine jif_eq (tgt := 84) hx hb dX4_moveOverNumber_24 (by decide) (fun cq26_ => ?_) (fun cq26_ => absurd cq26_ (by decide))
          refine lv_aload_n hx hb dX4_moveOverNumber_84 rfl (lv_at hl 0 rfl) ?_
          refine lv_aload_n hx hb dX4_moveOverNumber_85 rfl (lv_at hl 0 rfl) ?_
          refine xg hC hK hH flX4_38 hc_rd rfl dX4_moveOverNumber_86 ?_
          refine lv_aload_n hx hb dX4_moveOverNumber_89 rfl (lv_at hl 0 rfl) ?_
          refine xg hC hK hH flX4_51 hc_rd rfl dX4_moveOverNumber_90 ?_
          refine lv_isub hx hb dX4_moveOverNumber_93 ?_
          refine lv_topi (fun zq27_ e_zq27_ => ?_)
          have h_zq27_ : zq27_.toInt = yq2_.toInt - pl.toInt := by rw [e_zq27_, iSub (by have := iRg yq2_; have := iRg pl; omega) (by have := iRg yq2_; have := iRg pl; omega)]
          refine lv_iconst (v := 4) hx hb dX4_moveOverNumber_94 (by decide) ?_
          refine jic_gt (tgt := 102) hx hb dX4_moveOverNumber_95 (by decide) (fun cq28_ => ?_) (fun cq28_ => ?_)
          · skip
            have cq28_ : 4 < zq27_.toInt := cq28_
            refine lv_iconst (v := 4) hx hb dX4_moveOverNumber_102 (by decide) ?_
            refine yp (v := .int 4) hC hK hH flX4_44 hc_rd (noT hn_rd) rfl rfl (Nat.le_of_ble_eq_true rfl) dX4_moveOverNumber_103 (fun Hq_ lcq_ Mq29_ hc_rd hfr hH => ?_)
            have hc_rd : Mq29_ rd = some (.inr (3, [.ref nb, .ref vb, .int no, .int wi, .ref by_, .int le, .int 4, .int pl, .int yq2_, .int yq3_])) := hc_rd
            have hF : ∀ q, FrK T q → q ≠ rd → Mq29_ q = M q := fun q hq h0 => (hfr q h0).trans (hF q hq h0)
            exact ret_v hC hr hlk hK hH (⟨4, ⟨by decide, by decide⟩, yq2_, ⟨by omega, by omega⟩, yq3_, iRg _, ⟨by omega, hc_rd⟩, rfl, hF⟩) (Nat.le_of_ble_eq_true rfl) (Nat.le_of_ble_eq_true rfl) dX4_moveOverNumber_106
          · skip
            have cq28_ : zq27_.toInt ≤ 4 := cq28_
            refine lv_iconst (v := 2) hx hb dX4_moveOverNumber_98 (by decide) ?_
            refine lv_goto (tgt := 103) hx hb dX4_moveOverNumber_99 (by decide) ?_
            refine yp (v := .int 2) hC hK hH flX4_44 hc_rd (noT hn_rd) rfl rfl (Nat.le_of_ble_eq_true rfl) dX4_moveOverNumber_103 (fun Hq_ lcq_ Mq30_ hc_rd hfr hH => ?_)
            have hc_rd : Mq30_ rd = some (.inr (3, [.ref nb, .ref vb, .int no, .int wi, .ref by_, .int le, .int 2, .int pl, .int yq2_, .int yq3_])) := hc_rd
            have hF : ∀ q, FrK T q → q ≠ rd → Mq30_ q = M q := fun q hq h0 => (hfr q h0).trans (hF q hq h0)
            exact ret_v hC hr hlk hK hH (⟨2, ⟨by decide, by decide⟩, yq2_, ⟨by omega, by omega⟩, yq3_, iRg _, ⟨by omega, hc_rd⟩, rfl, hF⟩) (Nat.le_of_ble_eq_true rfl) (Nat.le_of_ble_eq_true rfl) dX4_moveOverNumber_106
  exact loop (Int.toNat (le.toInt - be.toInt + 1)) be 0 _ _ _ ls (by have := iRg be; have : (0 : Int32).toInt = 0 := rfl; omega) (by have := iRg be; have : (0 : Int32).toInt = 0 := rfl; omega) (by have := iRg be; have : (0 : Int32).toInt = 0 := rfl; omega) (by have := iRg be; have : (0 : Int32).toInt = 0 := rfl; omega) (by have := iRg be; have : (0 : Int32).toInt = 0 := rfl; omega) hc_rd hF hH hl
set_option maxHeartbeats 4000000 in
set_option maxRecDepth 100000 in
theorem c_X4_move {l : Launch} {D : va_G} {kA : Nat → ClassId} {M : mM} {T : mT} {sz : Nat} {rd nb by_ vb : Nat} {no wi le ki pl be va : Int32} (hc_rd : M rd = some (.inr (3, [.ref nb, .ref vb, .int no, .int wi, .ref by_, .int le, .int ki, .int pl, .int be, .int va]))) (hn_rd : T rd = none) (ht_nb : T nb = some 12) (ht_by_ : T by_ = some 7) (hle : 0 ≤ le.toInt ∧ le.toInt ≤ 600) (hbe : be.toInt ≤ le.toInt) (hb0 : 0 ≤ be.toInt) : mCv l yX4_move cX4_move 1 2 0 0 D kA M T sz [.ref rd] (fun u => ∃ ki2 : Int32, ((0 : Int) ≤ ki2.toInt ∧ ki2.toInt ≤ 4) ∧ ∃ pl2 : Int32, ((0 : Int) ≤ pl2.toInt ∧ pl2.toInt ≤ 600) ∧ ∃ be2 : Int32, ((0 : Int) ≤ be2.toInt ∧ be2.toInt ≤ 600) ∧ ∃ va2 : Int32, ((-2147483648 : Int) ≤ va2.toInt ∧ va2.toInt ≤ 2147483647) ∧ ((pl2.toInt ≤ be2.toInt ∧ be2.toInt ≤ le.toInt) ∧ u.1 rd = some (.inr (3, [.ref nb, .ref vb, .int no, .int wi, .ref by_, .int le, .int ki2, .int pl2, .int be2, .int va2]))) ∧ u.2 = T ∧ (∀ q, FrK T q → q ≠ rd → u.1 q = M q)) := by
  unfold mCv
  refine start_W (by decide) (Nat.le_of_ble_eq_true rfl) ?_
  intro p e s m below meth c ls hC hr hlk hnm hK hH hsz hl
  have hx := hC.1
  have hb := hC.2.1
  have hl : lv_has ls 1 [(0, .ref rd)] := hl
  have hF : ∀ q, FrK T q → q ≠ rd → M q = M q := fun q _ _ => rfl
  refine lv_aload_n hx hb dX4_move_0 rfl (lv_at hl 0 rfl) ?_
  refine lv_aload_n hx hb dX4_move_1 rfl (lv_at hl 0 rfl) ?_
  refine xg hC hK hH flX4_38 hc_rd rfl dX4_move_2 ?_
  refine yp (v := .int be) hC hK hH flX4_51 hc_rd (noT hn_rd) rfl rfl (Nat.le_of_ble_eq_true rfl) dX4_move_5 (fun Hq_ lcq_ Mq1_ hc_rd hfr hH => ?_)
  have hc_rd : Mq1_ rd = some (.inr (3, [.ref nb, .ref vb, .int no, .int wi, .ref by_, .int le, .int ki, .int be, .int be, .int va])) := hc_rd
  have hF : ∀ q, FrK T q → q ≠ rd → Mq1_ q = M q := fun q hq h0 => (hfr q h0).trans (hF q hq h0)
  have loop : ∀ (n : Nat) (yq2_ : Int32) (Hq_ : Heap) (lcq_ : List Loc) (Mq3_ : mM) (ls : Array Slot), le.toInt - yq2_.toInt + 1 ≤ (n : Int) → (0 : Int) ≤ yq2_.toInt → yq2_.toInt ≤ 600 → (yq2_.toInt ≤ le.toInt) → Mq3_ rd = some (.inr (3, [.ref nb, .ref vb, .int no, .int wi, .ref by_, .int le, .int ki, .int yq2_, .int be, .int va])) → (∀ q, FrK T q → q ≠ rd → Mq3_ q = M q) → mS D kA Mq3_ T (mA M T sz) s.heap Hq_ lcq_ → lv_has ls 1 [(0, .ref rd)] → W p l e (rmL 2 0 0) s m ([.ref rd] : List Value).toArray below meth c Hq_ lcq_ 0 0 (MQ below (va_Qv (fun u => ∃ ki2 : Int32, ((0 : Int) ≤ ki2.toInt ∧ ki2.toInt ≤ 4) ∧ ∃ pl2 : Int32, ((0 : Int) ≤ pl2.toInt ∧ pl2.toInt ≤ 600) ∧ ∃ be2 : Int32, ((0 : Int) ≤ be2.toInt ∧ be2.toInt ≤ 600) ∧ ∃ va2 : Int32, ((-2147483648 : Int) ≤ va2.toInt ∧ va2.toInt ≤ 2147483647) ∧ ((pl2.toInt ≤ be2.toInt ∧ be2.toInt ≤ le.toInt) ∧ u.1 rd = some (.inr (3, [.ref nb, .ref vb, .int no, .int wi, .ref by_, .int le, .int ki2, .int pl2, .int be2, .int va2]))) ∧ u.2 = T ∧ (∀ q, FrK T q → q ≠ rd → u.1 q = M q)) (mB D kA M T sz) (mA M T sz)) ([.ref rd] : List Value).toArray s 0 0 (mA M T sz)) (F0 m 8 ls []) := by
    intro n
    induction n with
    | zero =>
      intro yq2_ Hq_ lcq_ Mq3_ ls hme l_yq2_ g_yq2_ hv0_yq2_ hc_rd hF hH hl
      exfalso; omega
    | succ n ih =>
      intro yq2_ Hq_ lcq_ Mq3_ ls hme l_yq2_ g_yq2_ hv0_yq2_ hc_rd hF hH hl
      refine lv_aload_n hx hb dX4_move_8 rfl (lv_at hl 0 rfl) ?_
      refine xg hC hK hH flX4_51 hc_rd rfl dX4_move_9 ?_
      refine lv_aload_n hx hb dX4_move_12 rfl (lv_at hl 0 rfl) ?_
      refine xg hC hK hH flX4_34 hc_rd rfl dX4_move_13 ?_
      refine jic_ge (tgt := 60) hx hb dX4_move_16 (by decide) (fun cq4_ => ?_) (fun cq4_ => ?_)
      · skip
        have cq4_ : le.toInt ≤ yq2_.toInt := cq4_
        refine lv_aload_n hx hb dX4_move_60 rfl (lv_at hl 0 rfl) ?_
        refine lv_aload_n hx hb dX4_move_61 rfl (lv_at hl 0 rfl) ?_
        refine xg hC hK hH flX4_51 hc_rd rfl dX4_move_62 ?_
        refine yp (v := .int yq2_) hC hK hH flX4_38 hc_rd (noT hn_rd) rfl rfl (Nat.le_of_ble_eq_true rfl) dX4_move_65 (fun Hq_ lcq_ Mq5_ hc_rd hfr hH => ?_)
        have hc_rd : Mq5_ rd = some (.inr (3, [.ref nb, .ref vb, .int no, .int wi, .ref by_, .int le, .int ki, .int yq2_, .int yq2_, .int va])) := hc_rd
        have hF : ∀ q, FrK T q → q ≠ rd → Mq5_ q = M q := fun q hq h0 => (hfr q h0).trans (hF q hq h0)
        refine lv_aload_n hx hb dX4_move_68 rfl (lv_at hl 0 rfl) ?_
        refine xg hC hK hH flX4_51 hc_rd rfl dX4_move_69 ?_
        refine lv_aload_n hx hb dX4_move_72 rfl (lv_at hl 0 rfl) ?_
        refine xg hC hK hH flX4_34 hc_rd rfl dX4_move_73 ?_
        refine jic_lt (tgt := 87) hx hb dX4_move_76 (by decide) (fun cq6_ => ?_) (fun cq6_ => ?_)
        · skip
          have cq6_ : yq2_.toInt < le.toInt := cq6_
          refine lv_aload_n hx hb dX4_move_87 rfl (lv_at hl 0 rfl) ?_
          refine lv_aload_n hx hb dX4_move_88 rfl (lv_at hl 0 rfl) ?_
          refine xg hC hK hH flX4_51 hc_rd rfl dX4_move_89 ?_
          refine goI hK hH (runV (As := [.int yq2_]) (rest := []) hC hK hH (c_X4_isLetter hc_rd hn_rd ht_nb ht_by_ (by omega)) mlX4_98 (rcvM hK hH hc_rd rfl) ⟨⟨Nat.le_of_ble_eq_true rfl, Nat.le_of_ble_eq_true rfl⟩, Nat.le_of_ble_eq_true rfl, Nat.le_of_ble_eq_true rfl⟩ rfl hl.1 rfl (Nat.le_of_ble_eq_true rfl) dX4_move_92) (fun rq9_ Mq7_ Tq8_ Hq_ lcq_ hP hz hH => ?_)
          try dsimp only at hP
          obtain ⟨(er_rq9_ | er_rq9_), eT, eM⟩ := hP
          · skip
            have eT := eT.symm; subst eT
            have er_rq9_ := er_rq9_.symm; subst er_rq9_
            have eM := eM.symm; subst eM
            refine jif_eq (tgt := 105) hx hb dX4_move_95 (by decide) (fun cq10_ => absurd cq10_ (by decide)) (fun cq10_ => ?_)
            refine lv_aload_n hx hb dX4_move_98 rfl (lv_at hl 0 rfl) ?_
            refine goV hK hH (runV (As := []) (rest := []) hC hK hH (c_X4_moveOverWord hc_rd hn_rd ht_nb ht_by_ (by omega) (by omega) (by omega) (by omega)) mlX4_102 (rcvM hK hH hc_rd rfl) ⟨⟨Nat.le_of_ble_eq_true rfl, Nat.le_of_ble_eq_true rfl⟩, Nat.le_of_ble_eq_true rfl, Nat.le_of_ble_eq_true rfl⟩ rfl hl.1 rfl (Nat.le_of_ble_eq_true rfl) dX4_move_99) (fun Mq11_ Tq12_ Hq_ lcq_ hP hz hH => ?_)
            try dsimp only at hP
            obtain ⟨xq15_, ⟨l_xq15_, g_xq15_⟩, (⟨cq14_, hx_rd⟩), eT, hfr⟩ := hP
            have eT := eT.symm; subst eT
            have hc_rd : Mq11_ rd = some (.inr (3, [.ref nb, .ref vb, .int no, .int wi, .ref by_, .int le, .int 1, .int yq2_, .int xq15_, .int va])) := hx_rd
            have hF : ∀ q, FrK T q → q ≠ rd → Mq11_ q = M q := fun q hq h0 => (hfr q hq  h0).trans (hF q hq h0)
            have cq14_ : yq2_.toInt ≤ xq15_.toInt ∧ xq15_.toInt ≤ le.toInt := cq14_
            refine lv_goto (tgt := 156) hx hb dX4_move_102 (by decide) ?_
            exact ret_v hC hr hlk hK hH (⟨1, ⟨by decide, by decide⟩, yq2_, ⟨by omega, by omega⟩, xq15_, ⟨by omega, by omega⟩, va, iRg _, ⟨by omega, hc_rd⟩, rfl, hF⟩) (Nat.le_of_ble_eq_true rfl) (Nat.le_of_ble_eq_true rfl) dX4_move_156
          · skip
            have eT := eT.symm; subst eT
            have er_rq9_ := er_rq9_.symm; subst er_rq9_
            have eM := eM.symm; subst eM
            refine jif_eq (tgt := 105) hx hb dX4_move_95 (by decide) (fun cq16_ => ?_) (fun cq16_ => absurd cq16_ (by decide))
            refine lv_aload_n hx hb dX4_move_105 rfl (lv_at hl 0 rfl) ?_
            refine lv_aload_n hx hb dX4_move_106 rfl (lv_at hl 0 rfl) ?_
            refine xg hC hK hH flX4_51 hc_rd rfl dX4_move_107 ?_
            refine goI hK hH (runV (As := [.int yq2_]) (rest := []) hC hK hH (c_X4_isDigit hc_rd hn_rd ht_nb ht_by_ (by omega)) mlX4_105 (rcvM hK hH hc_rd rfl) ⟨⟨Nat.le_of_ble_eq_true rfl, Nat.le_of_ble_eq_true rfl⟩, Nat.le_of_ble_eq_true rfl, Nat.le_of_ble_eq_true rfl⟩ rfl hl.1 rfl (Nat.le_of_ble_eq_true rfl) dX4_move_110) (fun rq19_ Mq17_ Tq18_ Hq_ lcq_ hP hz hH => ?_)
            try dsimp only at hP
            obtain ⟨(er_rq19_ | er_rq19_), eT, eM⟩ := hP
            · skip
              have eT := eT.symm; subst eT
              have er_rq19_ := er_rq19_.symm; subst er_rq19_
              have eM := eM.symm; subst eM
              refine jif_eq (tgt := 123) hx hb dX4_move_113 (by decide) (fun cq20_ => absurd cq20_ (by decide)) (fun cq20_ => ?_)
              refine lv_aload_n hx hb dX4_move_116 rfl (lv_at hl 0 rfl) ?_
              refine goV hK hH (runV (As := []) (rest := []) hC hK hH (c_X4_moveOverNumber hc_rd hn_rd ht_nb ht_by_ (by omega) (by omega) (by omega) (by omega)) mlX4_108 (rcvM hK hH hc_rd rfl) ⟨⟨Nat.le_of_ble_eq_true rfl, Nat.le_of_ble_eq_true rfl⟩, Nat.le_of_ble_eq_true rfl, Nat.le_of_ble_eq_true rfl⟩ rfl hl.1 rfl (Nat.le_of_ble_eq_true rfl) dX4_move_117) (fun Mq21_ Tq22_ Hq_ lcq_ hP hz hH => ?_)
              try dsimp only at hP
              obtain ⟨xq25_, ⟨l_xq25_, g_xq25_⟩, xq26_, ⟨l_xq26_, g_xq26_⟩, xq27_, ⟨l_xq27_, g_xq27_⟩, (⟨cq24_, hx_rd⟩), eT, hfr⟩ := hP
              have eT := eT.symm; subst eT
              have hc_rd : Mq21_ rd = some (.inr (3, [.ref nb, .ref vb, .int no, .int wi, .ref by_, .int le, .int xq25_, .int yq2_, .int xq26_, .int xq27_])) := hx_rd
              have hF : ∀ q, FrK T q → q ≠ rd → Mq21_ q = M q := fun q hq h0 => (hfr q hq  h0).trans (hF q hq h0)
              have cq24_ : yq2_.toInt ≤ xq26_.toInt ∧ xq26_.toInt ≤ le.toInt := cq24_
              refine lv_goto (tgt := 156) hx hb dX4_move_120 (by decide) ?_
              exact ret_v hC hr hlk hK hH (⟨xq25_, ⟨by omega, by omega⟩, yq2_, ⟨by omega, by omega⟩, xq26_, ⟨by omega, by omega⟩, xq27_, iRg _, ⟨by omega, hc_rd⟩, rfl, hF⟩) (Nat.le_of_ble_eq_true rfl) (Nat.le_of_ble_eq_true rfl) dX4_move_156
            · skip
              have eT := eT.symm; subst eT
              have er_rq19_ := er_rq19_.symm; subst er_rq19_
              have eM := eM.symm; subst eM
              refine jif_eq (tgt := 123) hx hb dX4_move_113 (by decide) (fun cq28_ => ?_) (fun cq28_ => absurd cq28_ (by decide))
              refine lv_aload_n hx hb dX4_move_123 rfl (lv_at hl 0 rfl) ?_
              refine lv_aload_n hx hb dX4_move_124 rfl (lv_at hl 0 rfl) ?_
              refine xg hC hK hH flX4_24 hc_rd rfl dX4_move_125 ?_
              refine lv_aload_n hx hb dX4_move_128 rfl (lv_at hl 0 rfl) ?_
              refine xg hC hK hH flX4_51 hc_rd rfl dX4_move_129 ?_
              refine tbld hC hK hH ht_by_ rfl (iIn (by omega) (by omega)) dX4_move_132 (fun xq29_ l_xq29_ g_xq29_ => ?_)
              refine lv_bipush (v := 59) hx hb dX4_move_133 (by decide) ?_
              refine jic_ne (tgt := 142) hx hb dX4_move_135 (by decide) (fun cq30_ => ?_) (fun cq30_ => ?_)
              · skip
                have cq30_ : xq29_.toInt ≠ 59 := cq30_
                refine lv_iconst (v := 4) hx hb dX4_move_142 (by decide) ?_
                refine yp (v := .int 4) hC hK hH flX4_44 hc_rd (noT hn_rd) rfl rfl (Nat.le_of_ble_eq_true rfl) dX4_move_143 (fun Hq_ lcq_ Mq31_ hc_rd hfr hH => ?_)
                have hc_rd : Mq31_ rd = some (.inr (3, [.ref nb, .ref vb, .int no, .int wi, .ref by_, .int le, .int 4, .int yq2_, .int yq2_, .int va])) := hc_rd
                have hF : ∀ q, FrK T q → q ≠ rd → Mq31_ q = M q := fun q hq h0 => (hfr q h0).trans (hF q hq h0)
                refine lv_aload_n hx hb dX4_move_146 rfl (lv_at hl 0 rfl) ?_
                refine lv_aload_n hx hb dX4_move_147 rfl (lv_at hl 0 rfl) ?_
                refine xg hC hK hH flX4_51 hc_rd rfl dX4_move_148 ?_
                refine lv_iconst (v := 1) hx hb dX4_move_151 (by decide) ?_
                refine lv_iadd hx hb dX4_move_152 ?_
                refine lv_topi (fun zq32_ e_zq32_ => ?_)
                have h_zq32_ : zq32_.toInt = yq2_.toInt + 1 := by rw [e_zq32_, iAdd (by have := iRg yq2_; have : (1 : Int32).toInt = 1 := rfl; omega) (by have := iRg yq2_; have : (1 : Int32).toInt = 1 := rfl; omega)]; rfl
                refine yp (v := .int zq32_) hC hK hH flX4_38 hc_rd (noT hn_rd) rfl rfl (Nat.le_of_ble_eq_true rfl) dX4_move_153 (fun Hq_ lcq_ Mq33_ hc_rd hfr hH => ?_)
                have hc_rd : Mq33_ rd = some (.inr (3, [.ref nb, .ref vb, .int no, .int wi, .ref by_, .int le, .int 4, .int yq2_, .int zq32_, .int va])) := hc_rd
                have hF : ∀ q, FrK T q → q ≠ rd → Mq33_ q = M q := fun q hq h0 => (hfr q h0).trans (hF q hq h0)
                exact ret_v hC hr hlk hK hH (⟨4, ⟨by decide, by decide⟩, yq2_, ⟨by omega, by omega⟩, zq32_, ⟨by omega, by omega⟩, va, iRg _, ⟨by omega, hc_rd⟩, rfl, hF⟩) (Nat.le_of_ble_eq_true rfl) (Nat.le_of_ble_eq_true rfl) dX4_move_156
              · skip
                have cq30_ : xq29_.toInt = 59 := cq30_
                refine lv_iconst (v := 3) hx hb dX4_move_138 (by decide) ?_
                refine lv_goto (tgt := 143) hx hb dX4_move_139 (by decide) ?_
                refine yp (v := .int 3) hC hK hH flX4_44 hc_rd (noT hn_rd) rfl rfl (Nat.le_of_ble_eq_true rfl) dX4_move_143 (fun Hq_ lcq_ Mq34_ hc_rd hfr hH => ?_)
                have hc_rd : Mq34_ rd = some (.inr (3, [.ref nb, .ref vb, .int no, .int wi, .ref by_, .int le, .int 3, .int yq2_, .int yq2_, .int va])) := hc_rd
                have hF : ∀ q, FrK T q → q ≠ rd → Mq34_ q = M q := fun q hq h0 => (hfr q h0).trans (hF q hq h0)
                refine lv_aload_n hx hb dX4_move_146 rfl (lv_at hl 0 rfl) ?_
                refine lv_aload_n hx hb dX4_move_147 rfl (lv_at hl 0 rfl) ?_
                refine xg hC hK hH flX4_51 hc_rd rfl dX4_move_148 ?_
                refine lv_iconst (v := 1) hx hb dX4_move_151 (by decide) ?_
                refine lv_iadd hx hb dX4_move_152 ?_
                refine lv_topi (fun zq35_ e_zq35_ => ?_)
                have h_zq35_ : zq35_.toInt = yq2_.toInt + 1 := by rw [e_zq35_, iAdd (by have := iRg yq2_; have : (1 : Int32).toInt = 1 := rfl; omega) (by have := iRg yq2_; have : (1 : Int32).toInt = 1 := rfl; omega)]; rfl
                refine yp (v := .int zq35_) hC hK hH flX4_38 hc_rd (noT hn_rd) rfl rfl (Nat.le_of_ble_eq_true rfl) dX4_move_153 (fun Hq_ lcq_ Mq36_ hc_rd hfr hH => ?_)
                have hc_rd : Mq36_ rd = some (.inr (3, [.ref nb, .ref vb, .int no, .int wi, .ref by_, .int le, .int 3, .int yq2_, .int zq35_, .int va])) := hc_rd
                have hF : ∀ q, FrK T q → q ≠ rd → Mq36_ q = M q := fun q hq h0 => (hfr q h0).trans (hF q hq h0)
                exact ret_v hC hr hlk hK hH (⟨3, ⟨by decide, by decide⟩, yq2_, ⟨by omega, by omega⟩, zq35_, ⟨by omega, by omega⟩, va, iRg _, ⟨by omega, hc_rd⟩, rfl, hF⟩) (Nat.le_of_ble_eq_true rfl) (Nat.le_of_ble_eq_true rfl) dX4_move_156
        · skip
          have cq6_ : le.toInt ≤ yq2_.toInt := cq6_
          refine lv_aload_n hx hb dX4_move_79 rfl (lv_at hl 0 rfl) ?_
          refine lv_iconst (v := 0) hx hb dX4_move_80 (by decide) ?_
          refine yp (v := .int 0) hC hK hH flX4_44 hc_rd (noT hn_rd) rfl rfl (Nat.le_of_ble_eq_true rfl) dX4_move_81 (fun Hq_ lcq_ Mq37_ hc_rd hfr hH => ?_)
          have hc_rd : Mq37_ rd = some (.inr (3, [.ref nb, .ref vb, .int no, .int wi, .ref by_, .int le, .int 0, .int yq2_, .int yq2_, .int va])) := hc_rd
          have hF : ∀ q, FrK T q → q ≠ rd → Mq37_ q = M q := fun q hq h0 => (hfr q h0).trans (hF q hq h0)
          refine lv_goto (tgt := 156) hx hb dX4_move_84 (by decide) ?_
          exact ret_v hC hr hlk hK hH (⟨0, ⟨by decide, by decide⟩, yq2_, ⟨by omega, by omega⟩, yq2_, ⟨by omega, by omega⟩, va, iRg _, ⟨by omega, hc_rd⟩, rfl, hF⟩) (Nat.le_of_ble_eq_true rfl) (Nat.le_of_ble_eq_true rfl) dX4_move_156
      · skip
        have cq4_ : yq2_.toInt < le.toInt := cq4_
        refine lv_aload_n hx hb dX4_move_19 rfl (lv_at hl 0 rfl) ?_
        refine xg hC hK hH flX4_24 hc_rd rfl dX4_move_20 ?_
        refine lv_aload_n hx hb dX4_move_23 rfl (lv_at hl 0 rfl) ?_
        refine xg hC hK hH flX4_51 hc_rd rfl dX4_move_24 ?_
        refine tbld hC hK hH ht_by_ rfl (iIn (by omega) (by omega)) dX4_move_27 (fun xq38_ l_xq38_ g_xq38_ => ?_)
        refine lv_bipush (v := 10) hx hb dX4_move_28 (by decide) ?_
        refine jic_eq (tgt := 47) hx hb dX4_move_30 (by decide) (fun cq39_ => ?_) (fun cq39_ => ?_)
        · skip
          have cq39_ : xq38_.toInt = 10 := cq39_
          refine lv_aload_n hx hb dX4_move_47 rfl (lv_at hl 0 rfl) ?_
          refine lv_dup hx hb dX4_move_48 rfl ?_
          refine xg hC hK hH flX4_51 hc_rd rfl dX4_move_49 ?_
          refine lv_iconst (v := 1) hx hb dX4_move_52 (by decide) ?_
          refine lv_iadd hx hb dX4_move_53 ?_
          refine lv_topi (fun zq40_ e_zq40_ => ?_)
          have h_zq40_ : zq40_.toInt = yq2_.toInt + 1 := by rw [e_zq40_, iAdd (by have := iRg yq2_; have : (1 : Int32).toInt = 1 := rfl; omega) (by have := iRg yq2_; have : (1 : Int32).toInt = 1 := rfl; omega)]; rfl
          refine yp (v := .int zq40_) hC hK hH flX4_51 hc_rd (noT hn_rd) rfl rfl (Nat.le_of_ble_eq_true rfl) dX4_move_54 (fun Hq_ lcq_ Mq41_ hc_rd hfr hH => ?_)
          have hc_rd : Mq41_ rd = some (.inr (3, [.ref nb, .ref vb, .int no, .int wi, .ref by_, .int le, .int ki, .int zq40_, .int be, .int va])) := hc_rd
          have hF : ∀ q, FrK T q → q ≠ rd → Mq41_ q = M q := fun q hq h0 => (hfr q h0).trans (hF q hq h0)
          refine lv_goto (tgt := 8) hx hb dX4_move_57 (by decide) ?_
          exact ih zq40_ _ _ _ ls (by have := iRg zq40_; omega) (by have := iRg zq40_; omega) (by have := iRg zq40_; omega) (by have := iRg zq40_; omega) hc_rd hF hH (lv_sub hl [0] rfl)
        · skip
          have cq39_ : xq38_.toInt ≠ 10 := cq39_
          refine lv_aload_n hx hb dX4_move_33 rfl (lv_at hl 0 rfl) ?_
          refine xg hC hK hH flX4_24 hc_rd rfl dX4_move_34 ?_
          refine lv_aload_n hx hb dX4_move_37 rfl (lv_at hl 0 rfl) ?_
          refine xg hC hK hH flX4_51 hc_rd rfl dX4_move_38 ?_
          refine tbld hC hK hH ht_by_ rfl (iIn (by omega) (by omega)) dX4_move_41 (fun xq42_ l_xq42_ g_xq42_ => ?_)
          refine lv_bipush (v := 32) hx hb dX4_move_42 (by decide) ?_
          refine jic_ne (tgt := 60) hx hb dX4_move_44 (by decide) (fun cq43_ => ?_) (fun cq43_ => ?_)
          · skip
            have cq43_ : xq42_.toInt ≠ 32 := cq43_
            refine lv_aload_n hx hb dX4_move_60 rfl (lv_at hl 0 rfl) ?_
            refine lv_aload_n hx hb dX4_move_61 rfl (lv_at hl 0 rfl) ?_
            refine xg hC hK hH flX4_51 hc_rd rfl dX4_move_62 ?_
            refine yp (v := .int yq2_) hC hK hH flX4_38 hc_rd (noT hn_rd) rfl rfl (Nat.le_of_ble_eq_true rfl) dX4_move_65 (fun Hq_ lcq_ Mq44_ hc_rd hfr hH => ?_)
            have hc_rd : Mq44_ rd = some (.inr (3, [.ref nb, .ref vb, .int no, .int wi, .ref by_, .int le, .int ki, .int yq2_, .int yq2_, .int va])) := hc_rd
            have hF : ∀ q, FrK T q → q ≠ rd → Mq44_ q = M q := fun q hq h0 => (hfr q h0).trans (hF q hq h0)
            refine lv_aload_n hx hb dX4_move_68 rfl (lv_at hl 0 rfl) ?_
            refine xg hC hK hH flX4_51 hc_rd rfl dX4_move_69 ?_
            refine lv_aload_n hx hb dX4_move_72 rfl (lv_at hl 0 rfl) ?_
            refine xg hC hK hH flX4_34 hc_rd rfl dX4_move_73 ?_
            refine jic_lt (tgt := 87) hx hb dX4_move_76 (by decide) (fun cq45_ => ?_) (fun cq45_ => ?_)
            · skip
              have cq45_ : yq2_.toInt < le.toInt := cq45_
              refine lv_aload_n hx hb dX4_move_87 rfl (lv_at hl 0 rfl) ?_
              refine lv_aload_n hx hb dX4_move_88 rfl (lv_at hl 0 rfl) ?_
              refine xg hC hK hH flX4_51 hc_rd rfl dX4_move_89 ?_
              refine goI hK hH (runV (As := [.int yq2_]) (rest := []) hC hK hH (c_X4_isLetter hc_rd hn_rd ht_nb ht_by_ (by omega)) mlX4_98 (rcvM hK hH hc_rd rfl) ⟨⟨Nat.le_of_ble_eq_true rfl, Nat.le_of_ble_eq_true rfl⟩, Nat.le_of_ble_eq_true rfl, Nat.le_of_ble_eq_true rfl⟩ rfl hl.1 rfl (Nat.le_of_ble_eq_true rfl) dX4_move_92) (fun rq48_ Mq46_ Tq47_ Hq_ lcq_ hP hz hH => ?_)
              try dsimp only at hP
              obtain ⟨(er_rq48_ | er_rq48_), eT, eM⟩ := hP
              · skip
                have eT := eT.symm; subst eT
                have er_rq48_ := er_rq48_.symm; subst er_rq48_
                have eM := eM.symm; subst eM
                refine jif_eq (tgt := 105) hx hb dX4_move_95 (by decide) (fun cq49_ => absurd cq49_ (by decide)) (fun cq49_ => ?_)
                refine lv_aload_n hx hb dX4_move_98 rfl (lv_at hl 0 rfl) ?_
                refine goV hK hH (runV (As := []) (rest := []) hC hK hH (c_X4_moveOverWord hc_rd hn_rd ht_nb ht_by_ (by omega) (by omega) (by omega) (by omega)) mlX4_102 (rcvM hK hH hc_rd rfl) ⟨⟨Nat.le_of_ble_eq_true rfl, Nat.le_of_ble_eq_true rfl⟩, Nat.le_of_ble_eq_true rfl, Nat.le_of_ble_eq_true rfl⟩ rfl hl.1 rfl (Nat.le_of_ble_eq_true rfl) dX4_move_99) (fun Mq50_ Tq51_ Hq_ lcq_ hP hz hH => ?_)
                try dsimp only at hP
                obtain ⟨xq54_, ⟨l_xq54_, g_xq54_⟩, (⟨cq53_, hx_rd⟩), eT, hfr⟩ := hP
                have eT := eT.symm; subst eT
                have hc_rd : Mq50_ rd = some (.inr (3, [.ref nb, .ref vb, .int no, .int wi, .ref by_, .int le, .int 1, .int yq2_, .int xq54_, .int va])) := hx_rd
                have hF : ∀ q, FrK T q → q ≠ rd → Mq50_ q = M q := fun q hq h0 => (hfr q hq  h0).trans (hF q hq h0)
                have cq53_ : yq2_.toInt ≤ xq54_.toInt ∧ xq54_.toInt ≤ le.toInt := cq53_
                refine lv_goto (tgt := 156) hx hb dX4_move_102 (by decide) ?_
                exact ret_v hC hr hlk hK hH (⟨1, ⟨by decide, by decide⟩, yq2_, ⟨by omega, by omega⟩, xq54_, ⟨by omega, by omega⟩, va, iRg _, ⟨by omega, hc_rd⟩, rfl, hF⟩) (Nat.le_of_ble_eq_true rfl) (Nat.le_of_ble_eq_true rfl) dX4_move_156
              · skip
                have eT := eT.symm; subst eT
                have er_rq48_ := er_rq48_.symm; subst er_rq48_
                have eM := eM.symm; subst eM
                refine jif_eq (tgt := 105) hx hb dX4_move_95 (by decide) (fun cq55_ => ?_) (fun cq55_ => absurd cq55_ (by decide))
                refine lv_aload_n hx hb dX4_move_105 rfl (lv_at hl 0 rfl) ?_
                refine lv_aload_n hx hb dX4_move_106 rfl (lv_at hl 0 rfl) ?_
                refine xg hC hK hH flX4_51 hc_rd rfl dX4_move_107 ?_
                refine goI hK hH (runV (As := [.int yq2_]) (rest := []) hC hK hH (c_X4_isDigit hc_rd hn_rd ht_nb ht_by_ (by omega)) mlX4_105 (rcvM hK hH hc_rd rfl) ⟨⟨Nat.le_of_ble_eq_true rfl, Nat.le_of_ble_eq_true rfl⟩, Nat.le_of_ble_eq_true rfl, Nat.le_of_ble_eq_true rfl⟩ rfl hl.1 rfl (Nat.le_of_ble_eq_true rfl) dX4_move_110) (fun rq58_ Mq56_ Tq57_ Hq_ lcq_ hP hz hH => ?_)
                try dsimp only at hP
                obtain ⟨(er_rq58_ | er_rq58_), eT, eM⟩ := hP
                · skip
                  have eT := eT.symm; subst eT
                  have er_rq58_ := er_rq58_.symm; subst er_rq58_
                  have eM := eM.symm; subst eM
                  refine jif_eq (tgt := 123) hx hb dX4_move_113 (by decide) (fun cq59_ => absurd cq59_ (by decide)) (fun cq59_ => ?_)
                  refine lv_aload_n hx hb dX4_move_116 rfl (lv_at hl 0 rfl) ?_
                  refine goV hK hH (runV (As := []) (rest := []) hC hK hH (c_X4_moveOverNumber hc_rd hn_rd ht_nb ht_by_ (by omega) (by omega) (by omega) (by omega)) mlX4_108 (rcvM hK hH hc_rd rfl) ⟨⟨Nat.le_of_ble_eq_true rfl, Nat.le_of_ble_eq_true rfl⟩, Nat.le_of_ble_eq_true rfl, Nat.le_of_ble_eq_true rfl⟩ rfl hl.1 rfl (Nat.le_of_ble_eq_true rfl) dX4_move_117) (fun Mq60_ Tq61_ Hq_ lcq_ hP hz hH => ?_)
                  try dsimp only at hP
                  obtain ⟨xq64_, ⟨l_xq64_, g_xq64_⟩, xq65_, ⟨l_xq65_, g_xq65_⟩, xq66_, ⟨l_xq66_, g_xq66_⟩, (⟨cq63_, hx_rd⟩), eT, hfr⟩ := hP
                  have eT := eT.symm; subst eT
                  have hc_rd : Mq60_ rd = some (.inr (3, [.ref nb, .ref vb, .int no, .int wi, .ref by_, .int le, .int xq64_, .int yq2_, .int xq65_, .int xq66_])) := hx_rd
                  have hF : ∀ q, FrK T q → q ≠ rd → Mq60_ q = M q := fun q hq h0 => (hfr q hq  h0).trans (hF q hq h0)
                  have cq63_ : yq2_.toInt ≤ xq65_.toInt ∧ xq65_.toInt ≤ le.toInt := cq63_
                  refine lv_goto (tgt := 156) hx hb dX4_move_120 (by decide) ?_
                  exact ret_v hC hr hlk hK hH (⟨xq64_, ⟨by omega, by omega⟩, yq2_, ⟨by omega, by omega⟩, xq65_, ⟨by omega, by omega⟩, xq66_, iRg _, ⟨by omega, hc_rd⟩, rfl, hF⟩) (Nat.le_of_ble_eq_true rfl) (Nat.le_of_ble_eq_true rfl) dX4_move_156
                · skip
                  have eT := eT.symm; subst eT
                  have er_rq58_ := er_rq58_.symm; subst er_rq58_
                  have eM := eM.symm; subst eM
                  refine jif_eq (tgt := 123) hx hb dX4_move_113 (by decide) (fun cq67_ => ?_) (fun cq67_ => absurd cq67_ (by decide))
                  refine lv_aload_n hx hb dX4_move_123 rfl (lv_at hl 0 rfl) ?_
                  refine lv_aload_n hx hb dX4_move_124 rfl (lv_at hl 0 rfl) ?_
                  refine xg hC hK hH flX4_24 hc_rd rfl dX4_move_125 ?_
                  refine lv_aload_n hx hb dX4_move_128 rfl (lv_at hl 0 rfl) ?_
                  refine xg hC hK hH flX4_51 hc_rd rfl dX4_move_129 ?_
                  refine tbld hC hK hH ht_by_ rfl (iIn (by omega) (by omega)) dX4_move_132 (fun xq68_ l_xq68_ g_xq68_ => ?_)
                  refine lv_bipush (v := 59) hx hb dX4_move_133 (by decide) ?_
                  refine jic_ne (tgt := 142) hx hb dX4_move_135 (by decide) (fun cq69_ => ?_) (fun cq69_ => ?_)
                  · skip
                    have cq69_ : xq68_.toInt ≠ 59 := cq69_
                    refine lv_iconst (v := 4) hx hb dX4_move_142 (by decide) ?_
                    refine yp (v := .int 4) hC hK hH flX4_44 hc_rd (noT hn_rd) rfl rfl (Nat.le_of_ble_eq_true rfl) dX4_move_143 (fun Hq_ lcq_ Mq70_ hc_rd hfr hH => ?_)
                    have hc_rd : Mq70_ rd = some (.inr (3, [.ref nb, .ref vb, .int no, .int wi, .ref by_, .int le, .int 4, .int yq2_, .int yq2_, .int va])) := hc_rd
                    have hF : ∀ q, FrK T q → q ≠ rd → Mq70_ q = M q := fun q hq h0 => (hfr q h0).trans (hF q hq h0)
                    refine lv_aload_n hx hb dX4_move_146 rfl (lv_at hl 0 rfl) ?_
                    refine lv_aload_n hx hb dX4_move_147 rfl (lv_at hl 0 rfl) ?_
                    refine xg hC hK hH flX4_51 hc_rd rfl dX4_move_148 ?_
                    refine lv_iconst (v := 1) hx hb dX4_move_151 (by decide) ?_
                    refine lv_iadd hx hb dX4_move_152 ?_
                    refine lv_topi (fun zq71_ e_zq71_ => ?_)
                    have h_zq71_ : zq71_.toInt = yq2_.toInt + 1 := by rw [e_zq71_, iAdd (by have := iRg yq2_; have : (1 : Int32).toInt = 1 := rfl; omega) (by have := iRg yq2_; have : (1 : Int32).toInt = 1 := rfl; omega)]; rfl
                    refine yp (v := .int zq71_) hC hK hH flX4_38 hc_rd (noT hn_rd) rfl rfl (Nat.le_of_ble_eq_true rfl) dX4_move_153 (fun Hq_ lcq_ Mq72_ hc_rd hfr hH => ?_)
                    have hc_rd : Mq72_ rd = some (.inr (3, [.ref nb, .ref vb, .int no, .int wi, .ref by_, .int le, .int 4, .int yq2_, .int zq71_, .int va])) := hc_rd
                    have hF : ∀ q, FrK T q → q ≠ rd → Mq72_ q = M q := fun q hq h0 => (hfr q h0).trans (hF q hq h0)
                    exact ret_v hC hr hlk hK hH (⟨4, ⟨by decide, by decide⟩, yq2_, ⟨by omega, by omega⟩, zq71_, ⟨by omega, by omega⟩, va, iRg _, ⟨by omega, hc_rd⟩, rfl, hF⟩) (Nat.le_of_ble_eq_true rfl) (Nat.le_of_ble_eq_true rfl) dX4_move_156
                  · skip
                    have cq69_ : xq68_.toInt = 59 := cq69_
                    refine lv_iconst (v := 3) hx hb dX4_move_138 (by decide) ?_
                    refine lv_goto (tgt := 143) hx hb dX4_move_139 (by decide) ?_
                    refine yp (v := .int 3) hC hK hH flX4_44 hc_rd (noT hn_rd) rfl rfl (Nat.le_of_ble_eq_true rfl) dX4_move_143 (fun Hq_ lcq_ Mq73_ hc_rd hfr hH => ?_)
                    have hc_rd : Mq73_ rd = some (.inr (3, [.ref nb, .ref vb, .int no, .int wi, .ref by_, .int le, .int 3, .int yq2_, .int yq2_, .int va])) := hc_rd
                    have hF : ∀ q, FrK T q → q ≠ rd → Mq73_ q = M q := fun q hq h0 => (hfr q h0).trans (hF q hq h0)
                    refine lv_aload_n hx hb dX4_move_146 rfl (lv_at hl 0 rfl) ?_
                    refine lv_aload_n hx hb dX4_move_147 rfl (lv_at hl 0 rfl) ?_
                    refine xg hC hK hH flX4_51 hc_rd rfl dX4_move_148 ?_
                    refine lv_iconst (v := 1) hx hb dX4_move_151 (by decide) ?_
                    refine lv_iadd hx hb dX4_move_152 ?_
                    refine lv_topi (fun zq74_ e_zq74_ => ?_)
                    have h_zq74_ : zq74_.toInt = yq2_.toInt + 1 := by rw [e_zq74_, iAdd (by have := iRg yq2_; have : (1 : Int32).toInt = 1 := rfl; omega) (by have := iRg yq2_; have : (1 : Int32).toInt = 1 := rfl; omega)]; rfl
                    refine yp (v := .int zq74_) hC hK hH flX4_38 hc_rd (noT hn_rd) rfl rfl (Nat.le_of_ble_eq_true rfl) dX4_move_153 (fun Hq_ lcq_ Mq75_ hc_rd hfr hH => ?_)
                    have hc_rd : Mq75_ rd = some (.inr (3, [.ref nb, .ref vb, .int no, .int wi, .ref by_, .int le, .int 3, .int yq2_, .int zq74_, .int va])) := hc_rd
                    have hF : ∀ q, FrK T q → q ≠ rd → Mq75_ q = M q := fun q hq h0 => (hfr q h0).trans (hF q hq h0)
                    exact ret_v hC hr hlk hK hH (⟨3, ⟨by decide, by decide⟩, yq2_, ⟨by omega, by omega⟩, zq74_, ⟨by omega, by omega⟩, va, iRg _, ⟨by omega, hc_rd⟩, rfl, hF⟩) (Nat.le_of_ble_eq_true rfl) (Nat.le_of_ble_eq_true rfl) dX4_move_156
            · skip
              have cq45_ : le.toInt ≤ yq2_.toInt := cq45_
              refine lv_aload_n hx hb dX4_move_79 rfl (lv_at hl 0 rfl) ?_
              refine lv_iconst (v := 0) hx hb dX4_move_80 (by decide) ?_
              refine yp (v := .int 0) hC hK hH flX4_44 hc_rd (noT hn_rd) rfl rfl (Nat.le_of_ble_eq_true rfl) dX4_move_81 (fun Hq_ lcq_ Mq76_ hc_rd hfr hH => ?_)
              have hc_rd : Mq76_ rd = some (.inr (3, [.ref nb, .ref vb, .int no, .int wi, .ref by_, .int le, .int 0, .int yq2_, .int yq2_, .int va])) := hc_rd
              have hF : ∀ q, FrK T q → q ≠ rd → Mq76_ q = M q := fun q hq h0 => (hfr q h0).trans (hF q hq h0)
              refine lv_goto (tgt := 156) hx hb dX4_move_84 (by decide) ?_
              exact ret_v hC hr hlk hK hH (⟨0, ⟨by decide, by decide⟩, yq2_, ⟨by omega, by omega⟩, yq2_, ⟨by omega, by omega⟩, va, iRg _, ⟨by omega, hc_rd⟩, rfl, hF⟩) (Nat.le_of_ble_eq_true rfl) (Nat.le_of_ble_eq_true rfl) dX4_move_156
          · skip
            have cq43_ : xq42_.toInt = 32 := cq43_
            refine lv_aload_n hx hb dX4_move_47 rfl (lv_at hl 0 rfl) ?_
            refine lv_dup hx hb dX4_move_48 rfl ?_
            refine xg hC hK hH flX4_51 hc_rd rfl dX4_move_49 ?_
            refine lv_iconst (v := 1) hx hb dX4_move_52 (by decide) ?_
            refine lv_iadd hx hb dX4_move_53 ?_
            refine lv_topi (fun zq77_ e_zq77_ => ?_)
            have h_zq77_ : zq77_.toInt = yq2_.toInt + 1 := by rw [e_zq77_, iAdd (by have := iRg yq2_; have : (1 : Int32).toInt = 1 := rfl; omega) (by have := iRg yq2_; have : (1 : Int32).toInt = 1 := rfl; omega)]; rfl
            refine yp (v := .int zq77_) hC hK hH flX4_51 hc_rd (noT hn_rd) rfl rfl (Nat.le_of_ble_eq_true rfl) dX4_move_54 (fun Hq_ lcq_ Mq78_ hc_rd hfr hH => ?_)
            have hc_rd : Mq78_ rd = some (.inr (3, [.ref nb, .ref vb, .int no, .int wi, .ref by_, .int le, .int ki, .int zq77_, .int be, .int va])) := hc_rd
            have hF : ∀ q, FrK T q → q ≠ rd → Mq78_ q = M q := fun q hq h0 => (hfr q h0).trans (hF q hq h0)
            refine lv_goto (tgt := 8) hx hb dX4_move_57 (by decide) ?_
            exact ih zq77_ _ _ _ ls (by have := iRg zq77_; omega) (by have := iRg zq77_; omega) (by have := iRg zq77_; omega) (by have := iRg zq77_; omega) hc_rd hF hH (lv_sub hl [0] rfl)
  exact loop (Int.toNat (le.toInt - be.toInt + 1)) be _ _ _ ls (by have := iRg be; omega) (by have := iRg be; omega) (by have := iRg be; omega) (by have := iRg be; omega) hc_rd hF hH hl
