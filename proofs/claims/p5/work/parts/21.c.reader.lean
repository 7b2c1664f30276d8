set_option maxHeartbeats 4000000 in
set_option maxRecDepth 100000 in
theorem c_X4_isLetter {l : Launch} {D : va_G} {kA : Nat → ClassId} {M : mM} {T : mT} {sz : Nat} {rd nb by_ vb : Nat} {no wi le ki pl be va : Int32} {fb : Nat → Int32} {k : Int32} (hc_rd : M rd = some (.inr (3, [.ref nb, .ref vb, .int no, .int wi, .ref by_, .int le, .int ki, .int pl, .int be, .int va]))) (hn_rd : T rd = none) (hc_by_ : M by_ = some (.inl (kA 1, 600, .inl fb))) (hn_by_ : T by_ = none) (ht_nb : T nb = some 12) (hk : 0 ≤ k.toInt ∧ k.toInt ≤ 599) : mCi l yX4_isLetter cX4_isLetter 2 (some .boolean) 0 0 0 D kA M T sz [.ref rd, .int k] (fun r u => (((97 ≤ (fb k.toInt.toNat).toInt ∧ (fb k.toInt.toNat).toInt ≤ 122) ∧ r = 1) ∨ ((¬ (97 ≤ (fb k.toInt.toNat).toInt ∧ (fb k.toInt.toNat).toInt ≤ 122)) ∧ r = 0)) ∧ u.2 = T ∧ u.1 = M) := by
  unfold mCi
  refine start_W (by decide) (Nat.le_of_ble_eq_true rfl) ?_
  intro p e s m below meth c ls hC hr hlk hnm hK hH hsz hl
  have hx := hC.1
  have hb := hC.2.1
  have hl : lv_has ls 2 [(0, .ref rd), (1, .int k)] := hl
  have n_rd_by_ : rd ≠ by_ := neM hc_rd hc_by_ (by simp)
  have n_by__rd : by_ ≠ rd := neM hc_by_ hc_rd (by simp)
  refine lv_aload_n hx hb dX4_isLetter_0 rfl (lv_at hl 0 rfl) ?_
  refine xg hC hK hH flX4_24 hc_rd rfl dX4_isLetter_1 ?_
  refine lv_iload_n hx hb dX4_isLetter_4 rfl (lv_at hl 1 rfl) ?_
  refine xbld hC hK hH hc_by_ (iIn (by omega) (by omega)) dX4_isLetter_5 ?_
  refine lv_topi (fun xq1_ e_xq1_ => ?_)
  have b_xq1_ : xq1_.toInt = (fb k.toInt.toNat).toInt := congrArg Int32.toInt e_xq1_
  refine lv_bipush (v := 97) hx hb dX4_isLetter_6 (by decide) ?_
  refine jic_lt (tgt := 26) hx hb dX4_isLetter_8 (by decide) (fun cq2_ => ?_) (fun cq2_ => ?_)
  · skip
    have cq2_ : xq1_.toInt < 97 := cq2_
    refine lv_iconst (v := 0) hx hb dX4_isLetter_26 (by decide) ?_
    exact ret_z hC hr hlk hK hH (by first | exact Or.inl rfl | exact Or.inr rfl | assumption) (⟨Or.inr (⟨by omega, rfl⟩), rfl, rfl⟩) (Nat.le_of_ble_eq_true rfl) (Nat.le_of_ble_eq_true rfl) dX4_isLetter_27
  · skip
    have cq2_ : 97 ≤ xq1_.toInt := cq2_
    refine lv_aload_n hx hb dX4_isLetter_11 rfl (lv_at hl 0 rfl) ?_
    refine xg hC hK hH flX4_24 hc_rd rfl dX4_isLetter_12 ?_
    refine lv_iload_n hx hb dX4_isLetter_15 rfl (lv_at hl 1 rfl) ?_
    refine xbld hC hK hH hc_by_ (iIn (by omega) (by omega)) dX4_isLetter_16 ?_
    refine lv_topi (fun xq3_ e_xq3_ => ?_)
    have b_xq3_ : xq3_.toInt = (fb k.toInt.toNat).toInt := congrArg Int32.toInt e_xq3_
    refine lv_bipush (v := 122) hx hb dX4_isLetter_17 (by decide) ?_
    refine jic_gt (tgt := 26) hx hb dX4_isLetter_19 (by decide) (fun cq4_ => ?_) (fun cq4_ => ?_)
    · skip
      have cq4_ : 122 < xq3_.toInt := cq4_
      refine lv_iconst (v := 0) hx hb dX4_isLetter_26 (by decide) ?_
      exact ret_z hC hr hlk hK hH (by first | exact Or.inl rfl | exact Or.inr rfl | assumption) (⟨Or.inr (⟨by omega, rfl⟩), rfl, rfl⟩) (Nat.le_of_ble_eq_true rfl) (Nat.le_of_ble_eq_true rfl) dX4_isLetter_27
    · skip
      have cq4_ : xq3_.toInt ≤ 122 := cq4_
      refine lv_iconst (v := 1) hx hb dX4_isLetter_22 (by decide) ?_
      refine lv_goto (tgt := 27) hx hb dX4_isLetter_23 (by decide) ?_
      exact ret_z hC hr hlk hK hH (by first | exact Or.inl rfl | exact Or.inr rfl | assumption) (⟨Or.inl (⟨by omega, rfl⟩), rfl, rfl⟩) (Nat.le_of_ble_eq_true rfl) (Nat.le_of_ble_eq_true rfl) dX4_isLetter_27
set_option maxHeartbeats 4000000 in
set_option maxRecDepth 100000 in
theorem c_X4_isDigit {l : Launch} {D : va_G} {kA : Nat → ClassId} {M : mM} {T : mT} {sz : Nat} {rd nb by_ vb : Nat} {no wi le ki pl be va : Int32} {fb : Nat → Int32} {k : Int32} (hc_rd : M rd = some (.inr (3, [.ref nb, .ref vb, .int no, .int wi, .ref by_, .int le, .int ki, .int pl, .int be, .int va]))) (hn_rd : T rd = none) (hc_by_ : M by_ = some (.inl (kA 1, 600, .inl fb))) (hn_by_ : T by_ = none) (ht_nb : T nb = some 12) (hk : 0 ≤ k.toInt ∧ k.toInt ≤ 599) : mCi l yX4_isDigit cX4_isDigit 2 (some .boolean) 0 0 0 D kA M T sz [.ref rd, .int k] (fun r u => (((48 ≤ (fb k.toInt.toNat).toInt ∧ (fb k.toInt.toNat).toInt ≤ 57) ∧ r = 1) ∨ ((¬ (48 ≤ (fb k.toInt.toNat).toInt ∧ (fb k.toInt.toNat).toInt ≤ 57)) ∧ r = 0)) ∧ u.2 = T ∧ u.1 = M) := by
  unfold mCi
  refine start_W (by decide) (Nat.le_of_ble_eq_true rfl) ?_
  intro p e s m below meth c ls hC hr hlk hnm hK hH hsz hl
  have hx := hC.1
  have hb := hC.2.1
  have hl : lv_has ls 2 [(0, .ref rd), (1, .int k)] := hl
  have n_rd_by_ : rd ≠ by_ := neM hc_rd hc_by_ (by simp)
  have n_by__rd : by_ ≠ rd := neM hc_by_ hc_rd (by simp)
  refine lv_aload_n hx hb dX4_isDigit_0 rfl (lv_at hl 0 rfl) ?_
  refine xg hC hK hH flX4_24 hc_rd rfl dX4_isDigit_1 ?_
  refine lv_iload_n hx hb dX4_isDigit_4 rfl (lv_at hl 1 rfl) ?_
  refine xbld hC hK hH hc_by_ (iIn (by omega) (by omega)) dX4_isDigit_5 ?_
  refine lv_topi (fun xq1_ e_xq1_ => ?_)
  have b_xq1_ : xq1_.toInt = (fb k.toInt.toNat).toInt := congrArg Int32.toInt e_xq1_
  refine lv_bipush (v := 48) hx hb dX4_isDigit_6 (by decide) ?_
  refine jic_lt (tgt := 26) hx hb dX4_isDigit_8 (by decide) (fun cq2_ => ?_) (fun cq2_ => ?_)
  · skip
    have cq2_ : xq1_.toInt < 48 := cq2_
    refine lv_iconst (v := 0) hx hb dX4_isDigit_26 (by decide) ?_
    exact ret_z hC hr hlk hK hH (by first | exact Or.inl rfl | exact Or.inr rfl | assumption) (⟨Or.inr (⟨by omega, rfl⟩), rfl, rfl⟩) (Nat.le_of_ble_eq_true rfl) (Nat.le_of_ble_eq_true rfl) dX4_isDigit_27
  · skip
    have cq2_ : 48 ≤ xq1_.toInt := cq2_
    refine lv_aload_n hx hb dX4_isDigit_11 rfl (lv_at hl 0 rfl) ?_
    refine xg hC hK hH flX4_24 hc_rd rfl dX4_isDigit_12 ?_
    refine lv_iload_n hx hb dX4_isDigit_15 rfl (lv_at hl 1 rfl) ?_
    refine xbld hC hK hH hc_by_ (iIn (by omega) (by omega)) dX4_isDigit_16 ?_
    refine lv_topi (fun xq3_ e_xq3_ => ?_)
    have b_xq3_ : xq3_.toInt = (fb k.toInt.toNat).toInt := congrArg Int32.toInt e_xq3_
    refine lv_bipush (v := 57) hx hb dX4_isDigit_17 (by decide) ?_
    refine jic_gt (tgt := 26) hx hb dX4_isDigit_19 (by decide) (fun cq4_ => ?_) (fun cq4_ => ?_)
    · skip
      have cq4_ : 57 < xq3_.toInt := cq4_
      refine lv_iconst (v := 0) hx hb dX4_isDigit_26 (by decide) ?_
      exact ret_z hC hr hlk hK hH (by first | exact Or.inl rfl | exact Or.inr rfl | assumption) (⟨Or.inr (⟨by omega, rfl⟩), rfl, rfl⟩) (Nat.le_of_ble_eq_true rfl) (Nat.le_of_ble_eq_true rfl) dX4_isDigit_27
    · skip
      have cq4_ : xq3_.toInt ≤ 57 := cq4_
      refine lv_iconst (v := 1) hx hb dX4_isDigit_22 (by decide) ?_
      refine lv_goto (tgt := 27) hx hb dX4_isDigit_23 (by decide) ?_
      exact ret_z hC hr hlk hK hH (by first | exact Or.inl rfl | exact Or.inr rfl | assumption) (⟨Or.inl (⟨by omega, rfl⟩), rfl, rfl⟩) (Nat.le_of_ble_eq_true rfl) (Nat.le_of_ble_eq_true rfl) dX4_isDigit_27
set_option maxHeartbeats 4000000 in
set_option maxRecDepth 100000 in
theorem c_X4_atEnd {l : Launch} {D : va_G} {kA : Nat → ClassId} {M : mM} {T : mT} {sz : Nat} {rd nb by_ vb : Nat} {no wi le ki pl be va : Int32} {fb : Nat → Int32} (hc_rd : M rd = some (.inr (3, [.ref nb, .ref vb, .int no, .int wi, .ref by_, .int le, .int ki, .int pl, .int be, .int va]))) (hn_rd : T rd = none) (hc_by_ : M by_ = some (.inl (kA 1, 600, .inl fb))) (hn_by_ : T by_ = none) (ht_nb : T nb = some 12) : mCi l yX4_atEnd cX4_atEnd 1 (some .boolean) 0 0 0 D kA M T sz [.ref rd] (fun r u => ((ki.toInt = 0 ∧ r = 1) ∨ (ki.toInt ≠ 0 ∧ r = 0)) ∧ u.2 = T ∧ u.1 = M) := by
  unfold mCi
  refine start_W (by decide) (Nat.le_of_ble_eq_true rfl) ?_
  intro p e s m below meth c ls hC hr hlk hnm hK hH hsz hl
  have hx := hC.1
  have hb := hC.2.1
  have hl : lv_has ls 1 [(0, .ref rd)] := hl
  have n_rd_by_ : rd ≠ by_ := neM hc_rd hc_by_ (by simp)
  have n_by__rd : by_ ≠ rd := neM hc_by_ hc_rd (by simp)
  refine lv_aload_n hx hb dX4_atEnd_0 rfl (lv_at hl 0 rfl) ?_
  refine xg hC hK hH flX4_44 hc_rd rfl dX4_atEnd_1 ?_
  refine jif_ne (tgt := 11) hx hb dX4_atEnd_4 (by decide) (fun cq1_ => ?_) (fun cq1_ => ?_)
  · skip
    have cq1_ : ki.toInt ≠ 0 := cq1_
    refine lv_iconst (v := 0) hx hb dX4_atEnd_11 (by decide) ?_
    exact ret_z hC hr hlk hK hH (by first | exact Or.inl rfl | exact Or.inr rfl | assumption) (⟨Or.inr (⟨by omega, rfl⟩), rfl, rfl⟩) (Nat.le_of_ble_eq_true rfl) (Nat.le_of_ble_eq_true rfl) dX4_atEnd_12
  · skip
    have cq1_ : ki.toInt = 0 := cq1_
    refine lv_iconst (v := 1) hx hb dX4_atEnd_7 (by decide) ?_
    refine lv_goto (tgt := 12) hx hb dX4_atEnd_8 (by decide) ?_
    exact ret_z hC hr hlk hK hH (by first | exact Or.inl rfl | exact Or.inr rfl | assumption) (⟨Or.inl (⟨by omega, rfl⟩), rfl, rfl⟩) (Nat.le_of_ble_eq_true rfl) (Nat.le_of_ble_eq_true rfl) dX4_atEnd_12
set_option maxHeartbeats 4000000 in
set_option maxRecDepth 100000 in
theorem c_X4_moveOverWord {l : Launch} {D : va_G} {kA : Nat → ClassId} {M : mM} {T : mT} {sz : Nat} {rd nb by_ vb : Nat} {no wi le ki pl be va : Int32} {fb : Nat → Int32} (hc_rd : M rd = some (.inr (3, [.ref nb, .ref vb, .int no, .int wi, .ref by_, .int le, .int ki, .int pl, .int be, .int va]))) (hn_rd : T rd = none) (hc_by_ : M by_ = some (.inl (kA 1, 600, .inl fb))) (hn_by_ : T by_ = none) (ht_nb : T nb = some 12) (hle : 0 ≤ le.toInt ∧ le.toInt ≤ 600) (hpl : 0 ≤ pl.toInt) (hpb : pl.toInt ≤ be.toInt) (hbe : be.toInt ≤ le.toInt) (hbp : be.toInt = pl.toInt) : mCv l yX4_moveOverWord cX4_moveOverWord 1 1 0 0 D kA M T sz [.ref rd] (fun u => ∃ be2 : Int32, ((0 : Int) ≤ be2.toInt ∧ be2.toInt ≤ 600) ∧ ((pl.toInt ≤ be2.toInt ∧ be2.toInt ≤ le.toInt ∧ be2.toInt = (scE pLe (nC fb) le.toInt.toNat pl.toInt.toNat : Int)) ∧ u.1 rd = some (.inr (3, [.ref nb, .ref vb, .int no, .int wi, .ref by_, .int le, .int 1, .int pl, .int be2, .int va]))) ∧ u.2 = T ∧ (∀ q, FrK T q → q ≠ rd → u.1 q = M q)) := by
  unfold mCv
  refine start_W (by decide) (Nat.le_of_ble_eq_true rfl) ?_
  intro p e s m below meth c ls hC hr hlk hnm hK hH hsz hl
  have hx := hC.1
  have hb := hC.2.1
  have hl : lv_has ls 1 [(0, .ref rd)] := hl
  have hF : ∀ q, FrK T q → q ≠ rd → M q = M q := fun q _ _ => rfl
  have n_rd_by_ : rd ≠ by_ := neM hc_rd hc_by_ (by simp)
  have n_by__rd : by_ ≠ rd := neM hc_by_ hc_rd (by simp)
  refine lv_aload_n hx hb dX4_moveOverWord_0 rfl (lv_at hl 0 rfl) ?_
  refine lv_iconst (v := 1) hx hb dX4_moveOverWord_1 (by decide) ?_
  refine yp (v := .int 1) hC hK hH flX4_44 hc_rd (noT hn_rd) rfl rfl (Nat.le_of_ble_eq_true rfl) dX4_moveOverWord_2 (fun Hq_ lcq_ Mq1_ hc_rd hfr hH => ?_)
  have hc_rd : Mq1_ rd = some (.inr (3, [.ref nb, .ref vb, .int no, .int wi, .ref by_, .int le, .int 1, .int pl, .int be, .int va])) := hc_rd
  have hc_by_ : Mq1_ by_ = some (.inl (kA 1, 600, .inl fb)) := (hfr by_ n_by__rd).trans hc_by_
  have hF : ∀ q, FrK T q → q ≠ rd → Mq1_ q = M q := fun q hq h0 => (hfr q h0).trans (hF q hq h0)
  have loop : ∀ (n : Nat) (yq2_ : Int32) (Hq_ : Heap) (lcq_ : List Loc) (Mq3_ : mM) (ls : Array Slot), le.toInt - yq2_.toInt + 1 ≤ (n : Int) → (0 : Int) ≤ yq2_.toInt → yq2_.toInt ≤ 600 → (pl.toInt ≤ yq2_.toInt) → (yq2_.toInt ≤ le.toInt) → (scE pLe (nC fb) le.toInt.toNat yq2_.toInt.toNat = scE pLe (nC fb) le.toInt.toNat pl.toInt.toNat) → Mq3_ rd = some (.inr (3, [.ref nb, .ref vb, .int no, .int wi, .ref by_, .int le, .int 1, .int pl, .int yq2_, .int va])) → Mq3_ by_ = some (.inl (kA 1, 600, .inl fb)) → (∀ q, FrK T q → q ≠ rd → Mq3_ q = M q) → mS D kA Mq3_ T (mA M T sz) s.heap Hq_ lcq_ → lv_has ls 1 [(0, .ref rd)] → W p l e (rmL 1 0 0) s m ([.ref rd] : List Value).toArray below meth c Hq_ lcq_ 0 0 (MQ below (va_Qv (fun u => ∃ be2 : Int32, ((0 : Int) ≤ be2.toInt ∧ be2.toInt ≤ 600) ∧ ((pl.toInt ≤ be2.toInt ∧ be2.toInt ≤ le.toInt ∧ be2.toInt = (scE pLe (nC fb) le.toInt.toNat pl.toInt.toNat : Int)) ∧ u.1 rd = some (.inr (3, [.ref nb, .ref vb, .int no, .int wi, .ref by_, .int le, .int 1, .int pl, .int be2, .int va]))) ∧ u.2 = T ∧ (∀ q, FrK T q → q ≠ rd → u.1 q = M q)) (mB D kA M T sz) (mA M T sz)) ([.ref rd] : List Value).toArray s 0 0 (mA M T sz)) (F0 m 5 ls []) := by
    intro n
    induction n with
    | zero =>
      intro yq2_ Hq_ lcq_ Mq3_ ls hme l_yq2_ g_yq2_ hv0_yq2_ hv1_yq2_ hw0_yq2_ hc_rd hc_by_ hF hH hl
      exfalso; omega
    | succ n ih =>
      intro yq2_ Hq_ lcq_ Mq3_ ls hme l_yq2_ g_yq2_ hv0_yq2_ hv1_yq2_ hw0_yq2_ hc_rd hc_by_ hF hH hl
      refine lv_aload_n hx hb dX4_moveOverWord_5 rfl (lv_at hl 0 rfl) ?_
      refine xg hC hK hH flX4_38 hc_rd rfl dX4_moveOverWord_6 ?_
      refine lv_aload_n hx hb dX4_moveOverWord_9 rfl (lv_at hl 0 rfl) ?_
      refine xg hC hK hH flX4_34 hc_rd rfl dX4_moveOverWord_10 ?_
      refine jic_ge (tgt := 40) hx hb dX4_moveOverWord_13 (by decide) (fun cq4_ => ?_) (fun cq4_ => ?_)
      · skip
        have cq4_ : le.toInt ≤ yq2_.toInt := cq4_
        exact ret_v hC hr hlk hK hH (⟨yq2_, ⟨by omega, by omega⟩, ⟨⟨by omega, by omega, leE (y := yq2_) (by omega) hw0_yq2_ (by omega) (by omega)⟩, hc_rd⟩, rfl, hF⟩) (Nat.le_of_ble_eq_true rfl) (Nat.le_of_ble_eq_true rfl) dX4_moveOverWord_40
      · skip
        have cq4_ : yq2_.toInt < le.toInt := cq4_
        refine lv_aload_n hx hb dX4_moveOverWord_16 rfl (lv_at hl 0 rfl) ?_
        refine lv_aload_n hx hb dX4_moveOverWord_17 rfl (lv_at hl 0 rfl) ?_
        refine xg hC hK hH flX4_38 hc_rd rfl dX4_moveOverWord_18 ?_
        refine goI hK hH (runV (As := [.int yq2_]) (rest := []) hC hK hH (c_X4_isLetter hc_rd hn_rd hc_by_ hn_by_ ht_nb (by omega)) mlX4_98 (rcvM hK hH hc_rd rfl) ⟨⟨Nat.le_of_ble_eq_true rfl, Nat.le_of_ble_eq_true rfl⟩, Nat.le_of_ble_eq_true rfl, Nat.le_of_ble_eq_true rfl⟩ rfl hl.1 rfl (Nat.le_of_ble_eq_true rfl) dX4_moveOverWord_21) (fun rq7_ Mq5_ Tq6_ Hq_ lcq_ hP hz hH => ?_)
        try dsimp only at hP
        obtain ⟨(⟨cq8_, er_rq7_⟩ | ⟨cq9_, er_rq7_⟩), eT, eM⟩ := hP
        · skip
          have eT := eT.symm; subst eT
          have er_rq7_ := er_rq7_.symm; subst er_rq7_
          have eM := eM.symm; subst eM
          have cq8_ : 97 ≤ (fb yq2_.toInt.toNat).toInt ∧ (fb yq2_.toInt.toNat).toInt ≤ 122 := cq8_
          refine jif_eq (tgt := 40) hx hb dX4_moveOverWord_24 (by decide) (fun cq10_ => absurd cq10_ (by decide)) (fun cq10_ => ?_)
          refine lv_aload_n hx hb dX4_moveOverWord_27 rfl (lv_at hl 0 rfl) ?_
          refine lv_dup hx hb dX4_moveOverWord_28 rfl ?_
          refine xg hC hK hH flX4_38 hc_rd rfl dX4_moveOverWord_29 ?_
          refine lv_iconst (v := 1) hx hb dX4_moveOverWord_32 (by decide) ?_
          refine lv_iadd hx hb dX4_moveOverWord_33 ?_
          refine lv_topi (fun zq11_ e_zq11_ => ?_)
          have h_zq11_ : zq11_.toInt = yq2_.toInt + 1 := by rw [e_zq11_, iAdd (by have := iRg yq2_; have : (1 : Int32).toInt = 1 := rfl; omega) (by have := iRg yq2_; have : (1 : Int32).toInt = 1 := rfl; omega)]; rfl
          refine yp (v := .int zq11_) hC hK hH flX4_38 hc_rd (noT hn_rd) rfl rfl (Nat.le_of_ble_eq_true rfl) dX4_moveOverWord_34 (fun Hq_ lcq_ Mq12_ hc_rd hfr hH => ?_)
          have hc_rd : Mq12_ rd = some (.inr (3, [.ref nb, .ref vb, .int no, .int wi, .ref by_, .int le, .int 1, .int pl, .int zq11_, .int va])) := hc_rd
          have hc_by_ : Mq12_ by_ = some (.inl (kA 1, 600, .inl fb)) := (hfr by_ n_by__rd).trans hc_by_
          have hF : ∀ q, FrK T q → q ≠ rd → Mq12_ q = M q := fun q hq h0 => (hfr q h0).trans (hF q hq h0)
          refine lv_goto (tgt := 5) hx hb dX4_moveOverWord_37 (by decide) ?_
          exact ih zq11_ _ _ _ ls (by have := iRg zq11_; omega) (by have := iRg zq11_; omega) (by have := iRg zq11_; omega) (by have := iRg zq11_; omega) (by have := iRg zq11_; omega) (leS (y := yq2_) (by omega) hw0_yq2_ (by omega) (by omega) (by omega) (by omega)) hc_rd hc_by_ hF hH (lv_sub hl [0] rfl)
        · skip
          have eT := eT.symm; subst eT
          have er_rq7_ := er_rq7_.symm; subst er_rq7_
          have eM := eM.symm; subst eM
          have cq9_ : ¬ (97 ≤ (fb yq2_.toInt.toNat).toInt ∧ (fb yq2_.toInt.toNat).toInt ≤ 122) := cq9_
          refine jif_eq (tgt := 40) hx hb dX4_moveOverWord_24 (by decide) (fun cq13_ => ?_) (fun cq13_ => absurd cq13_ (by decide))
          exact ret_v hC hr hlk hK hH (⟨yq2_, ⟨by omega, by omega⟩, ⟨⟨by omega, by omega, leE (y := yq2_) (by omega) hw0_yq2_ (by omega) (by omega)⟩, hc_rd⟩, rfl, hF⟩) (Nat.le_of_ble_eq_true rfl) (Nat.le_of_ble_eq_true rfl) dX4_moveOverWord_40
  exact loop (Int.toNat (le.toInt - be.toInt + 1)) be _ _ _ ls (by have := iRg be; omega) (by have := iRg be; omega) (by have := iRg be; omega) (by have := iRg be; omega) (by have := iRg be; omega) (by rw [show be.toInt.toNat = pl.toInt.toNat by omega]) hc_rd hc_by_ hF hH hl
set_option maxHeartbeats 4000000 in
set_option maxRecDepth 100000 in
theorem c_X4_moveOverNumber {l : Launch} {D : va_G} {kA : Nat → ClassId} {M : mM} {T : mT} {sz : Nat} {rd nb by_ vb : Nat} {no wi le ki pl be va : Int32} {fb : Nat → Int32} (hc_rd : M rd = some (.inr (3, [.ref nb, .ref vb, .int no, .int wi, .ref by_, .int le, .int ki, .int pl, .int be, .int va]))) (hn_rd : T rd = none) (hc_by_ : M by_ = some (.inl (kA 1, 600, .inl fb))) (hn_by_ : T by_ = none) (ht_nb : T nb = some 12) (hle : 0 ≤ le.toInt ∧ le.toInt ≤ 600) (hpl : 0 ≤ pl.toInt) (hpb : pl.toInt ≤ be.toInt) (hbe : be.toInt ≤ le.toInt) (hbp : be.toInt = pl.toInt) : mCv l yX4_moveOverNumber cX4_moveOverNumber 1 1 0 0 D kA M T sz [.ref rd] (fun u => ∃ ki2 : Int32, ((0 : Int) ≤ ki2.toInt ∧ ki2.toInt ≤ 4) ∧ ∃ be2 : Int32, ((0 : Int) ≤ be2.toInt ∧ be2.toInt ≤ 600) ∧ ∃ va2 : Int32, ((-2147483648 : Int) ≤ va2.toInt ∧ va2.toInt ≤ 2147483647) ∧ ((pl.toInt ≤ be2.toInt ∧ be2.toInt ≤ le.toInt ∧ be2.toInt = (scE pDi (nC fb) le.toInt.toNat pl.toInt.toNat : Int) ∧ ((be2.toInt ≤ pl.toInt + 4 ∧ ki2.toInt = 2) ∨ (pl.toInt + 4 < be2.toInt ∧ ki2.toInt = 4))) ∧ u.1 rd = some (.inr (3, [.ref nb, .ref vb, .int no, .int wi, .ref by_, .int le, .int ki2, .int pl, .int be2, .int va2]))) ∧ u.2 = T ∧ (∀ q, FrK T q → q ≠ rd → u.1 q = M q)) := by
  unfold mCv
  refine start_W (by decide) (Nat.le_of_ble_eq_true rfl) ?_
  intro p e s m below meth c ls hC hr hlk hnm hK hH hsz hl
  have hx := hC.1
  have hb := hC.2.1
  have hl : lv_has ls 1 [(0, .ref rd)] := hl
  have hF : ∀ q, FrK T q → q ≠ rd → M q = M q := fun q _ _ => rfl
  have n_rd_by_ : rd ≠ by_ := neM hc_rd hc_by_ (by simp)
  have n_by__rd : by_ ≠ rd := neM hc_by_ hc_rd (by simp)
  refine lv_aload_n hx hb dX4_moveOverNumber_0 rfl (lv_at hl 0 rfl) ?_
  refine lv_iconst (v := 0) hx hb dX4_moveOverNumber_1 (by decide) ?_
  refine yp (v := .int 0) hC hK hH flX4_59 hc_rd (noT hn_rd) rfl rfl (Nat.le_of_ble_eq_true rfl) dX4_moveOverNumber_2 (fun Hq_ lcq_ Mq1_ hc_rd hfr hH => ?_)
  have hc_rd : Mq1_ rd = some (.inr (3, [.ref nb, .ref vb, .int no, .int wi, .ref by_, .int le, .int ki, .int pl, .int be, .int 0])) := hc_rd
  have hc_by_ : Mq1_ by_ = some (.inl (kA 1, 600, .inl fb)) := (hfr by_ n_by__rd).trans hc_by_
  have hF : ∀ q, FrK T q → q ≠ rd → Mq1_ q = M q := fun q hq h0 => (hfr q h0).trans (hF q hq h0)
  have loop : ∀ (n : Nat) (yq2_ : Int32) (yq3_ : Int32) (Hq_ : Heap) (lcq_ : List Loc) (Mq4_ : mM) (ls : Array Slot), le.toInt - yq2_.toInt + 1 ≤ (n : Int) → (0 : Int) ≤ yq2_.toInt → yq2_.toInt ≤ 600 → (pl.toInt ≤ yq2_.toInt) → (yq2_.toInt ≤ le.toInt) → (scE pDi (nC fb) le.toInt.toNat yq2_.toInt.toNat = scE pDi (nC fb) le.toInt.toNat pl.toInt.toNat) → Mq4_ rd = some (.inr (3, [.ref nb, .ref vb, .int no, .int wi, .ref by_, .int le, .int ki, .int pl, .int yq2_, .int yq3_])) → Mq4_ by_ = some (.inl (kA 1, 600, .inl fb)) → (∀ q, FrK T q → q ≠ rd → Mq4_ q = M q) → mS D kA Mq4_ T (mA M T sz) s.heap Hq_ lcq_ → lv_has ls 1 [(0, .ref rd)] → W p l e (rmL 1 0 0) s m ([.ref rd] : List Value).toArray below meth c Hq_ lcq_ 0 0 (MQ below (va_Qv (fun u => ∃ ki2 : Int32, ((0 : Int) ≤ ki2.toInt ∧ ki2.toInt ≤ 4) ∧ ∃ be2 : Int32, ((0 : Int) ≤ be2.toInt ∧ be2.toInt ≤ 600) ∧ ∃ va2 : Int32, ((-2147483648 : Int) ≤ va2.toInt ∧ va2.toInt ≤ 2147483647) ∧ ((pl.toInt ≤ be2.toInt ∧ be2.toInt ≤ le.toInt ∧ be2.toInt = (scE pDi (nC fb) le.toInt.toNat pl.toInt.toNat : Int) ∧ ((be2.toInt ≤ pl.toInt + 4 ∧ ki2.toInt = 2) ∨ (pl.toInt + 4 < be2.toInt ∧ ki2.toInt = 4))) ∧ u.1 rd = some (.inr (3, [.ref nb, .ref vb, .int no, .int wi, .ref by_, .int le, .int ki2, .int pl, .int be2, .int va2]))) ∧ u.2 = T ∧ (∀ q, FrK T q → q ≠ rd → u.1 q = M q)) (mB D kA M T sz) (mA M T sz)) ([.ref rd] : List Value).toArray s 0 0 (mA M T sz)) (F0 m 5 ls []) := by
    intro n
    induction n with
    | zero =>
      intro yq2_ yq3_ Hq_ lcq_ Mq4_ ls hme l_yq2_ g_yq2_ hv0_yq2_ hv1_yq2_ hw0_yq2_ hc_rd hc_by_ hF hH hl
      exfalso; omega
    | succ n ih =>
      intro yq2_ yq3_ Hq_ lcq_ Mq4_ ls hme l_yq2_ g_yq2_ hv0_yq2_ hv1_yq2_ hw0_yq2_ hc_rd hc_by_ hF hH hl
      refine lv_aload_n hx hb dX4_moveOverNumber_5 rfl (lv_at hl 0 rfl) ?_
      refine xg hC hK hH flX4_38 hc_rd rfl dX4_moveOverNumber_6 ?_
      refine lv_aload_n hx hb dX4_moveOverNumber_9 rfl (lv_at hl 0 rfl) ?_
      refine xg hC hK hH flX4_34 hc_rd rfl dX4_moveOverNumber_10 ?_
      refine jic_ge (tgt := 84) hx hb dX4_moveOverNumber_13 (by decide) (fun cq5_ => ?_) (fun cq5_ => ?_)
      · skip
        have cq5_ : le.toInt ≤ yq2_.toInt := cq5_
        refine lv_aload_n hx hb dX4_moveOverNumber_84 rfl (lv_at hl 0 rfl) ?_
        refine lv_aload_n hx hb dX4_moveOverNumber_85 rfl (lv_at hl 0 rfl) ?_
        refine xg hC hK hH flX4_38 hc_rd rfl dX4_moveOverNumber_86 ?_
        refine lv_aload_n hx hb dX4_moveOverNumber_89 rfl (lv_at hl 0 rfl) ?_
        refine xg hC hK hH flX4_51 hc_rd rfl dX4_moveOverNumber_90 ?_
        refine lv_isub hx hb dX4_moveOverNumber_93 ?_
        refine lv_topi (fun zq6_ e_zq6_ => ?_)
        have h_zq6_ : zq6_.toInt = yq2_.toInt - pl.toInt := by rw [e_zq6_, iSub (by have := iRg yq2_; have := iRg pl; omega) (by have := iRg yq2_; have := iRg pl; omega)]
        refine lv_iconst (v := 4) hx hb dX4_moveOverNumber_94 (by decide) ?_
        refine jic_gt (tgt := 102) hx hb dX4_moveOverNumber_95 (by decide) (fun cq7_ => ?_) (fun cq7_ => ?_)
        · skip
          have cq7_ : 4 < zq6_.toInt := cq7_
          refine lv_iconst (v := 4) hx hb dX4_moveOverNumber_102 (by decide) ?_
          refine yp (v := .int 4) hC hK hH flX4_44 hc_rd (noT hn_rd) rfl rfl (Nat.le_of_ble_eq_true rfl) dX4_moveOverNumber_103 (fun Hq_ lcq_ Mq8_ hc_rd hfr hH => ?_)
          have hc_rd : Mq8_ rd = some (.inr (3, [.ref nb, .ref vb, .int no, .int wi, .ref by_, .int le, .int 4, .int pl, .int yq2_, .int yq3_])) := hc_rd
          have hc_by_ : Mq8_ by_ = some (.inl (kA 1, 600, .inl fb)) := (hfr by_ n_by__rd).trans hc_by_
          have hF : ∀ q, FrK T q → q ≠ rd → Mq8_ q = M q := fun q hq h0 => (hfr q h0).trans (hF q hq h0)
          exact ret_v hC hr hlk hK hH (⟨4, ⟨by decide, by decide⟩, yq2_, ⟨by omega, by omega⟩, yq3_, iRg _, ⟨⟨by omega, by omega, diE (y := yq2_) (by omega) hw0_yq2_ (by omega) (by omega), by have : (4 : Int32).toInt = 4 := rfl; omega⟩, hc_rd⟩, rfl, hF⟩) (Nat.le_of_ble_eq_true rfl) (Nat.le_of_ble_eq_true rfl) dX4_moveOverNumber_106
        · skip
          have cq7_ : zq6_.toInt ≤ 4 := cq7_
          refine lv_iconst (v := 2) hx hb dX4_moveOverNumber_98 (by decide) ?_
          refine lv_goto (tgt := 103) hx hb dX4_moveOverNumber_99 (by decide) ?_
          refine yp (v := .int 2) hC hK hH flX4_44 hc_rd (noT hn_rd) rfl rfl (Nat.le_of_ble_eq_true rfl) dX4_moveOverNumber_103 (fun Hq_ lcq_ Mq9_ hc_rd hfr hH => ?_)
          have hc_rd : Mq9_ rd = some (.inr (3, [.ref nb, .ref vb, .int no, .int wi, .ref by_, .int le, .int 2, .int pl, .int yq2_, .int yq3_])) := hc_rd
          have hc_by_ : Mq9_ by_ = some (.inl (kA 1, 600, .inl fb)) := (hfr by_ n_by__rd).trans hc_by_
          have hF : ∀ q, FrK T q → q ≠ rd → Mq9_ q = M q := fun q hq h0 => (hfr q h0).trans (hF q hq h0)
          exact ret_v hC hr hlk hK hH (⟨2, ⟨by decide, by decide⟩, yq2_, ⟨by omega, by omega⟩, yq3_, iRg _, ⟨⟨by omega, by omega, diE (y := yq2_) (by omega) hw0_yq2_ (by omega) (by omega), by have : (2 : Int32).toInt = 2 := rfl; omega⟩, hc_rd⟩, rfl, hF⟩) (Nat.le_of_ble_eq_true rfl) (Nat.le_of_ble_eq_true rfl) dX4_moveOverNumber_106
      · skip
        have cq5_ : yq2_.toInt < le.toInt := cq5_
        refine lv_aload_n hx hb dX4_moveOverNumber_16 rfl (lv_at hl 0 rfl) ?_
        refine lv_aload_n hx hb dX4_moveOverNumber_17 rfl (lv_at hl 0 rfl) ?_
        refine xg hC hK hH flX4_38 hc_rd rfl dX4_moveOverNumber_18 ?_
        refine goI hK hH (runV (As := [.int yq2_]) (rest := []) hC hK hH (c_X4_isDigit hc_rd hn_rd hc_by_ hn_by_ ht_nb (by omega)) mlX4_105 (rcvM hK hH hc_rd rfl) ⟨⟨Nat.le_of_ble_eq_true rfl, Nat.le_of_ble_eq_true rfl⟩, Nat.le_of_ble_eq_true rfl, Nat.le_of_ble_eq_true rfl⟩ rfl hl.1 rfl (Nat.le_of_ble_eq_true rfl) dX4_moveOverNumber_21) (fun rq12_ Mq10_ Tq11_ Hq_ lcq_ hP hz hH => ?_)
        try dsimp only at hP
        obtain ⟨(⟨cq13_, er_rq12_⟩ | ⟨cq14_, er_rq12_⟩), eT, eM⟩ := hP
        · skip
          have eT := eT.symm; subst eT
          have er_rq12_ := er_rq12_.symm; subst er_rq12_
          have eM := eM.symm; subst eM
          have cq13_ : 48 ≤ (fb yq2_.toInt.toNat).toInt ∧ (fb yq2_.toInt.toNat).toInt ≤ 57 := cq13_
          refine jif_eq (tgt := 84) hx hb dX4_moveOverNumber_24 (by decide) (fun cq15_ => absurd cq15_ (by decide)) (fun cq15_ => ?_)
          refine lv_aload_n hx hb dX4_moveOverNumber_27 rfl (lv_at hl 0 rfl) ?_
          refine lv_aload_n hx hb dX4_moveOverNumber_28 rfl (lv_at hl 0 rfl) ?_
          refine xg hC hK hH flX4_38 hc_rd rfl dX4_moveOverNumber_29 ?_
          refine lv_aload_n hx hb dX4_moveOverNumber_32 rfl (lv_at hl 0 rfl) ?_
          refine xg hC hK hH flX4_51 hc_rd rfl dX4_moveOverNumber_33 ?_
          refine lv_isub hx hb dX4_moveOverNumber_36 ?_
          refine lv_topi (fun zq16_ e_zq16_ => ?_)
          have h_zq16_ : zq16_.toInt = yq2_.toInt - pl.toInt := by rw [e_zq16_, iSub (by have := iRg yq2_; have := iRg pl; omega) (by have := iRg yq2_; have := iRg pl; omega)]
          refine lv_iconst (v := 4) hx hb dX4_moveOverNumber_37 (by decide) ?_
          refine jic_ge (tgt := 64) hx hb dX4_moveOverNumber_38 (by decide) (fun cq17_ => ?_) (fun cq17_ => ?_)
          · skip
            have cq17_ : 4 ≤ zq16_.toInt := cq17_
            refine lv_aload_n hx hb dX4_moveOverNumber_64 rfl (lv_at hl 0 rfl) ?_
            refine xg hC hK hH flX4_59 hc_rd rfl dX4_moveOverNumber_65 ?_
            refine yp (v := .int yq3_) hC hK hH flX4_59 hc_rd (noT hn_rd) rfl rfl (Nat.le_of_ble_eq_true rfl) dX4_moveOverNumber_68 (fun Hq_ lcq_ Mq18_ hc_rd hfr hH => ?_)
            have hc_rd : Mq18_ rd = some (.inr (3, [.ref nb, .ref vb, .int no, .int wi, .ref by_, .int le, .int ki, .int pl, .int yq2_, .int yq3_])) := hc_rd
            have hc_by_ : Mq18_ by_ = some (.inl (kA 1, 600, .inl fb)) := (hfr by_ n_by__rd).trans hc_by_
            have hF : ∀ q, FrK T q → q ≠ rd → Mq18_ q = M q := fun q hq h0 => (hfr q h0).trans (hF q hq h0)
            refine lv_aload_n hx hb dX4_moveOverNumber_71 rfl (lv_at hl 0 rfl) ?_
            refine lv_dup hx hb dX4_moveOverNumber_72 rfl ?_
            refine xg hC hK hH flX4_38 hc_rd rfl dX4_moveOverNumber_73 ?_
            refine lv_iconst (v := 1) hx hb dX4_moveOverNumber_76 (by decide) ?_
            refine lv_iadd hx hb dX4_moveOverNumber_77 ?_
            refine lv_topi (fun zq19_ e_zq19_ => ?_)
            have h_zq19_ : zq19_.toInt = yq2_.toInt + 1 := by rw [e_zq19_, iAdd (by have := iRg yq2_; have : (1 : Int32).toInt = 1 := rfl; omega) (by have := iRg yq2_; have : (1 : Int32).toInt = 1 := rfl; omega)]; rfl
            refine yp (v := .int zq19_) hC hK hH flX4_38 hc_rd (noT hn_rd) rfl rfl (Nat.le_of_ble_eq_true rfl) dX4_moveOverNumber_78 (fun Hq_ lcq_ Mq20_ hc_rd hfr hH => ?_)
            have hc_rd : Mq20_ rd = some (.inr (3, [.ref nb, .ref vb, .int no, .int wi, .ref by_, .int le, .int ki, .int pl, .int zq19_, .int yq3_])) := hc_rd
            have hc_by_ : Mq20_ by_ = some (.inl (kA 1, 600, .inl fb)) := (hfr by_ n_by__rd).trans hc_by_
            have hF : ∀ q, FrK T q → q ≠ rd → Mq20_ q = M q := fun q hq h0 => (hfr q h0).trans (hF q hq h0)
            refine lv_goto (tgt := 5) hx hb dX4_moveOverNumber_81 (by decide) ?_
            exact ih zq19_ yq3_ _ _ _ ls (by have := iRg zq19_; have := iRg yq3_; omega) (by have := iRg zq19_; have := iRg yq3_; omega) (by have := iRg zq19_; have := iRg yq3_; omega) (by have := iRg zq19_; have := iRg yq3_; omega) (by have := iRg zq19_; have := iRg yq3_; omega) (diS (y := yq2_) (by omega) hw0_yq2_ (by omega) (by omega) (by omega) (by omega)) hc_rd hc_by_ hF hH (lv_sub hl [0] rfl)
          · skip
            have cq17_ : zq16_.toInt < 4 := cq17_
            refine lv_bipush (v := 10) hx hb dX4_moveOverNumber_41 (by decide) ?_
            refine lv_aload_n hx hb dX4_moveOverNumber_43 rfl (lv_at hl 0 rfl) ?_
            refine xg hC hK hH flX4_59 hc_rd rfl dX4_moveOverNumber_44 ?_
            refine lv_imul hx hb dX4_moveOverNumber_47 ?_
            refine lv_topi (fun zq21_ e_zq21_ => ?_)
            refine lv_aload_n hx hb dX4_moveOverNumber_48 rfl (lv_at hl 0 rfl) ?_
            refine xg hC hK hH flX4_24 hc_rd rfl dX4_moveOverNumber_49 ?_
            refine lv_aload_n hx hb dX4_moveOverNumber_52 rfl (lv_at hl 0 rfl) ?_
            refine xg hC hK hH flX4_38 hc_rd rfl dX4_moveOverNumber_53 ?_
            refine xbld hC hK hH hc_by_ (iIn (by omega) (by omega)) dX4_moveOverNumber_56 ?_
            refine lv_topi (fun xq22_ e_xq22_ => ?_)
            have b_xq22_ : xq22_.toInt = (fb yq2_.toInt.toNat).toInt := congrArg Int32.toInt e_xq22_
            refine lv_iadd hx hb dX4_moveOverNumber_57 ?_
            refine lv_topi (fun zq23_ e_zq23_ => ?_)
            refine lv_bipush (v := 48) hx hb dX4_moveOverNumber_58 (by decide) ?_
            refine lv_isub hx hb dX4_moveOverNumber_60 ?_
            refine lv_topi (fun zq24_ e_zq24_ => ?_)
            refine lv_goto (tgt := 68) hx hb dX4_moveOverNumber_61 (by decide) ?_
            refine yp (v := .int zq24_) hC hK hH flX4_59 hc_rd (noT hn_rd) rfl rfl (Nat.le_of_ble_eq_true rfl) dX4_moveOverNumber_68 (fun Hq_ lcq_ Mq25_ hc_rd hfr hH => ?_)
            have hc_rd : Mq25_ rd = some (.inr (3, [.ref nb, .ref vb, .int no, .int wi, .ref by_, .int le, .int ki, .int pl, .int yq2_, .int zq24_])) := hc_rd
            have hc_by_ : Mq25_ by_ = some (.inl (kA 1, 600, .inl fb)) := (hfr by_ n_by__rd).trans hc_by_
            have hF : ∀ q, FrK T q → q ≠ rd → Mq25_ q = M q := fun q hq h0 => (hfr q h0).trans (hF q hq h0)
            refine lv_aload_n hx hb dX4_moveOverNumber_71 rfl (lv_at hl 0 rfl) ?_
            refine lv_dup hx hb dX4_moveOverNumber_72 rfl ?_
            refine xg hC hK hH flX4_38 hc_rd rfl dX4_moveOverNumber_73 ?_
            refine lv_iconst (v := 1) hx hb dX4_moveOverNumber_76 (by decide) ?_
            refine lv_iadd hx hb dX4_moveOverNumber_77 ?_
            refine lv_topi (fun zq26_ e_zq26_ => ?_)
            have h_zq26_ : zq26_.toInt = yq2_.toInt + 1 := by rw [e_zq26_, iAdd (by have := iRg yq2_; have : (1 : Int32).toInt = 1 := rfl; omega) (by have := iRg yq2_; have : (1 : Int32).toInt = 1 := rfl; omega)]; rfl
            refine yp (v := .int zq26_) hC hK hH flX4_38 hc_rd (noT hn_rd) rfl rfl (Nat.le_of_ble_eq_true rfl) dX4_moveOverNumber_78 (fun Hq_ lcq_ Mq27_ hc_rd hfr hH => ?_)
            have hc_rd : Mq27_ rd = some (.inr (3, [.ref nb, .ref vb, .int no, .int wi, .ref by_, .int le, .int ki, .int pl, .int zq26_, .int zq24_])) := hc_rd
            have hc_by_ : Mq27_ by_ = some (.inl (kA 1, 600, .inl fb)) := (hfr by_ n_by__rd).trans hc_by_
            have hF : ∀ q, FrK T q → q ≠ rd → Mq27_ q = M q := fun q hq h0 => (hfr q h0).trans (hF q hq h0)
            refine lv_goto (tgt := 5) hx hb dX4_moveOverNumber_81 (by decide) ?_
            exact ih zq26_ zq24_ _ _ _ ls (by have := iRg zq26_; have := iRg zq24_; omega) (by have := iRg zq26_; have := iRg zq24_; omega) (by have := iRg zq26_; have := iRg zq24_; omega) (by have := iRg zq26_; have := iRg zq24_; omega) (by have := iRg zq26_; have := iRg zq24_; omega) (diS (y := yq2_) (by omega) hw0_yq2_ (by omega) (by omega) (by omega) (by omega)) hc_rd hc_by_ hF hH (lv_sub hl [0] rfl)
        · skip
          have eT := eT.symm; subst eT
          have er_rq12_ := er_rq12_.symm; subst er_rq12_
          have eM := eM.symm; subst eM
          have cq14_ : ¬ (48 ≤ (fb yq2_.toInt.toNat).toInt ∧ (fb yq2_.toInt.toNat).toInt ≤ 57) := cq14_
          refine jif_eq (tgt := 84) hx hb dX4_moveOverNumber_24 (by decide) (fun cq28_ => ?_) (fun cq28_ => absurd cq28_ (by decide))
          refine lv_aload_n hx hb dX4_moveOverNumber_84 rfl (lv_at hl 0 rfl) ?_
          refine lv_aload_n hx hb dX4_moveOverNumber_85 rfl (lv_at hl 0 rfl) ?_
          refine xg hC hK hH flX4_38 hc_rd rfl dX4_moveOverNumber_86 ?_
          refine lv_aload_n hx hb dX4_moveOverNumber_89 rfl (lv_at hl 0 rfl) ?_
          refine xg hC hK hH flX4_51 hc_rd rfl dX4_moveOverNumber_90 ?_
          refine lv_isub hx hb dX4_moveOverNumber_93 ?_
          refine lv_topi (fun zq29_ e_zq29_ => ?_)
          have h_zq29_ : zq29_.toInt = yq2_.toInt - pl.toInt := by rw [e_zq29_, iSub (by have := iRg yq2_; have := iRg pl; omega) (by have := iRg yq2_; have := iRg pl; omega)]
          refine lv_iconst (v := 4) hx hb dX4_moveOverNumber_94 (by decide) ?_
          refine jic_gt (tgt := 102) hx hb dX4_moveOverNumber_95 (by decide) (fun cq30_ => ?_) (fun cq30_ => ?_)
          · skip
            have cq30_ : 4 < zq29_.toInt := cq30_
            refine lv_iconst (v := 4) hx hb dX4_moveOverNumber_102 (by decide) ?_
            refine yp (v := .int 4) hC hK hH flX4_44 hc_rd (noT hn_rd) rfl rfl (Nat.le_of_ble_eq_true rfl) dX4_moveOverNumber_103 (fun Hq_ lcq_ Mq31_ hc_rd hfr hH => ?_)
            have hc_rd : Mq31_ rd = some (.inr (3, [.ref nb, .ref vb, .int no, .int wi, .ref by_, .int le, .int 4, .int pl, .int yq2_, .int yq3_])) := hc_rd
            have hc_by_ : Mq31_ by_ = some (.inl (kA 1, 600, .inl fb)) := (hfr by_ n_by__rd).trans hc_by_
            have hF : ∀ q, FrK T q → q ≠ rd → Mq31_ q = M q := fun q hq h0 => (hfr q h0).trans (hF q hq h0)
            exact ret_v hC hr hlk hK hH (⟨4, ⟨by decide, by decide⟩, yq2_, ⟨by omega, by omega⟩, yq3_, iRg _, ⟨⟨by omega, by omega, diE (y := yq2_) (by omega) hw0_yq2_ (by omega) (by omega), by have : (4 : Int32).toInt = 4 := rfl; omega⟩, hc_rd⟩, rfl, hF⟩) (Nat.le_of_ble_eq_true rfl) (Nat.le_of_ble_eq_true rfl) dX4_moveOverNumber_106
          · skip
            have cq30_ : zq29_.toInt ≤ 4 := cq30_
            refine lv_iconst (v := 2) hx hb dX4_moveOverNumber_98 (by decide) ?_
            refine lv_goto (tgt := 103) hx hb dX4_moveOverNumber_99 (by decide) ?_
            refine yp (v := .int 2) hC hK hH flX4_44 hc_rd (noT hn_rd) rfl rfl (Nat.le_of_ble_eq_true rfl) dX4_moveOverNumber_103 (fun Hq_ lcq_ Mq32_ hc_rd hfr hH => ?_)
            have hc_rd : Mq32_ rd = some (.inr (3, [.ref nb, .ref vb, .int no, .int wi, .ref by_, .int le, .int 2, .int pl, .int yq2_, .int yq3_])) := hc_rd
            have hc_by_ : Mq32_ by_ = some (.inl (kA 1, 600, .inl fb)) := (hfr by_ n_by__rd).trans hc_by_
            have hF : ∀ q, FrK T q → q ≠ rd → Mq32_ q = M q := fun q hq h0 => (hfr q h0).trans (hF q hq h0)
            exact ret_v hC hr hlk hK hH (⟨2, ⟨by decide, by decide⟩, yq2_, ⟨by omega, by omega⟩, yq3_, iRg _, ⟨⟨by omega, by omega, diE (y := yq2_) (by omega) hw0_yq2_ (by omega) (by omega), by have : (2 : Int32).toInt = 2 := rfl; omega⟩, hc_rd⟩, rfl, hF⟩) (Nat.le_of_ble_eq_true rfl) (Nat.le_of_ble_eq_true rfl) dX4_moveOverNumber_106
  exact loop (Int.toNat (le.toInt - be.toInt + 1)) be 0 _ _ _ ls (by have := iRg be; have : (0 : Int32).toInt = 0 := rfl; omega) (by have := iRg be; have : (0 : Int32).toInt = 0 := rfl; omega) (by have := iRg be; have : (0 : Int32).toInt = 0 := rfl; omega) (by have := iRg be; have : (0 : Int32).toInt = 0 := rfl; omega) (by have := iRg be; have : (0 : Int32).toInt = 0 := rfl; omega) (by rw [show be.toInt.toNat = pl.toInt.toNat by omega]) hc_rd hc_by_ hF hH hl
set_option maxHeartbeats 4000000 in
set_option maxRecDepth 100000 in
theorem c_X4_move {l : Launch} {D : va_G} {kA : Nat → ClassId} {M : mM} {T : mT} {sz : Nat} {rd nb by_ vb : Nat} {no wi le ki pl be va : Int32} {fb : Nat → Int32} (hc_rd : M rd = some (.inr (3, [.ref nb, .ref vb, .int no, .int wi, .ref by_, .int le, .int ki, .int pl, .int be, .int va]))) (hn_rd : T rd = none) (hc_by_ : M by_ = some (.inl (kA 1, 600, .inl fb))) (hn_by_ : T by_ = none) (ht_nb : T nb = some 12) (hle : 0 ≤ le.toInt ∧ le.toInt ≤ 600) (hbe : be.toInt ≤ le.toInt) (hb0 : 0 ≤ be.toInt) : mCv l yX4_move cX4_move 1 2 0 0 D kA M T sz [.ref rd] (fun u => ∃ ki2 : Int32, ((0 : Int) ≤ ki2.toInt ∧ ki2.toInt ≤ 4) ∧ ∃ pl2 : Int32, ((0 : Int) ≤ pl2.toInt ∧ pl2.toInt ≤ 600) ∧ ∃ be2 : Int32, ((0 : Int) ≤ be2.toInt ∧ be2.toInt ≤ 600) ∧ ∃ va2 : Int32, ((-2147483648 : Int) ≤ va2.toInt ∧ va2.toInt ≤ 2147483647) ∧ ((pl2.toInt ≤ be2.toInt ∧ be2.toInt ≤ le.toInt ∧ Tk fb le ki2 pl2 be2 ∧ pl2.toInt = (scE pSp (nC fb) le.toInt.toNat be.toInt.toNat : Int)) ∧ u.1 rd = some (.inr (3, [.ref nb, .ref vb, .int no, .int wi, .ref by_, .int le, .int ki2, .int pl2, .int be2, .int va2]))) ∧ u.2 = T ∧ (∀ q, FrK T q → q ≠ rd → u.1 q = M q)) := by
  unfold mCv
  refine start_W (by decide) (Nat.le_of_ble_eq_true rfl) ?_
  intro p e s m below meth c ls hC hr hlk hnm hK hH hsz hl
  have hx := hC.1
  have hb := hC.2.1
  have hl : lv_has ls 1 [(0, .ref rd)] := hl
  have hF : ∀ q, FrK T q → q ≠ rd → M q = M q := fun q _ _ => rfl
  have n_rd_by_ : rd ≠ by_ := neM hc_rd hc_by_ (by simp)
  have n_by__rd : by_ ≠ rd := neM hc_by_ hc_rd (by simp)
  refine lv_aload_n hx hb dX4_move_0 rfl (lv_at hl 0 rfl) ?_
  refine lv_aload_n hx hb dX4_move_1 rfl (lv_at hl 0 rfl) ?_
  refine xg hC hK hH flX4_38 hc_rd rfl dX4_move_2 ?_
  refine yp (v := .int be) hC hK hH flX4_51 hc_rd (noT hn_rd) rfl rfl (Nat.le_of_ble_eq_true rfl) dX4_move_5 (fun Hq_ lcq_ Mq1_ hc_rd hfr hH => ?_)
  have hc_rd : Mq1_ rd = some (.inr (3, [.ref nb, .ref vb, .int no, .int wi, .ref by_, .int le, .int ki, .int be, .int be, .int va])) := hc_rd
  have hc_by_ : Mq1_ by_ = some (.inl (kA 1, 600, .inl fb)) := (hfr by_ n_by__rd).trans hc_by_
  have hF : ∀ q, FrK T q → q ≠ rd → Mq1_ q = M q := fun q hq h0 => (hfr q h0).trans (hF q hq h0)
  have loop : ∀ (n : Nat) (yq2_ : Int32) (Hq_ : Heap) (lcq_ : List Loc) (Mq3_ : mM) (ls : Array Slot), le.toInt - yq2_.toInt + 1 ≤ (n : Int) → (0 : Int) ≤ yq2_.toInt → yq2_.toInt ≤ 600 → (yq2_.toInt ≤ le.toInt) → (scE pSp (nC fb) le.toInt.toNat yq2_.toInt.toNat = scE pSp (nC fb) le.toInt.toNat be.toInt.toNat) → Mq3_ rd = some (.inr (3, [.ref nb, .ref vb, .int no, .int wi, .ref by_, .int le, .int ki, .int yq2_, .int be, .int va])) → Mq3_ by_ = some (.inl (kA 1, 600, .inl fb)) → (∀ q, FrK T q → q ≠ rd → Mq3_ q = M q) → mS D kA Mq3_ T (mA M T sz) s.heap Hq_ lcq_ → lv_has ls 1 [(0, .ref rd)] → W p l e (rmL 2 0 0) s m ([.ref rd] : List Value).toArray below meth c Hq_ lcq_ 0 0 (MQ below (va_Qv (fun u => ∃ ki2 : Int32, ((0 : Int) ≤ ki2.toInt ∧ ki2.toInt ≤ 4) ∧ ∃ pl2 : Int32, ((0 : Int) ≤ pl2.toInt ∧ pl2.toInt ≤ 600) ∧ ∃ be2 : Int32, ((0 : Int) ≤ be2.toInt ∧ be2.toInt ≤ 600) ∧ ∃ va2 : Int32, ((-2147483648 : Int) ≤ va2.toInt ∧ va2.toInt ≤ 2147483647) ∧ ((pl2.toInt ≤ be2.toInt ∧ be2.toInt ≤ le.toInt ∧ Tk fb le ki2 pl2 be2 ∧ pl2.toInt = (scE pSp (nC fb) le.toInt.toNat be.toInt.toNat : Int)) ∧ u.1 rd = some (.inr (3, [.ref nb, .ref vb, .int no, .int wi, .ref by_, .int le, .int ki2, .int pl2, .int be2, .int va2]))) ∧ u.2 = T ∧ (∀ q, FrK T q → q ≠ rd → u.1 q = M q)) (mB D kA M T sz) (mA M T sz)) ([.ref rd] : List Value).toArray s 0 0 (mA M T sz)) (F0 m 8 ls []) := by
    intro n
    induction n with
    | zero =>
      intro yq2_ Hq_ lcq_ Mq3_ ls hme l_yq2_ g_yq2_ hv0_yq2_ hw0_yq2_ hc_rd hc_by_ hF hH hl
      exfalso; omega
    | succ n ih =>
      intro yq2_ Hq_ lcq_ Mq3_ ls hme l_yq2_ g_yq2_ hv0_yq2_ hw0_yq2_ hc_rd hc_by_ hF hH hl
      refine lv_aload_n hx hb dX4_move_8 rfl (lv_at hl 0 rfl) ?_
      refine xg hC hK hH flX4_51 hc_rd rfl dX4_move_9 ?_
      refine lv_aload_n hx hb dX4_move_12 rfl (lv_at hl 0 rfl) ?_
      refine xg hC hK hH flX4_34 hc_rd rfl dX4_move_13 ?_
      refine jic_ge (tgt := 60) hx hb dX4_move_16 (by decide) (fun cq4_ => ?_) (fun cq4_ => ?_)
      · skip
        have cq4_ : le.toInt ≤ yq2_.toInt := cq4_
        refine lv_aload_n hx hb dX4_move_60 rfl (lv_at hl 0 rfl) ?_
        refine lv_aload_n hx hb dX4_move_61 rfl (lv_at hl 0 rfl) ?_
        refine xg hC hK hH flX4_51 hc_rd rfl dX4_move_62 ?_
        refine yp (v := .int yq2_) hC hK hH flX4_38 hc_rd (noT hn_rd) rfl rfl (Nat.le_of_ble_eq_true rfl) dX4_move_65 (fun Hq_ lcq_ Mq5_ hc_rd hfr hH => ?_)
        have hc_rd : Mq5_ rd = some (.inr (3, [.ref nb, .ref vb, .int no, .int wi, .ref by_, .int le, .int ki, .int yq2_, .int yq2_, .int va])) := hc_rd
        have hc_by_ : Mq5_ by_ = some (.inl (kA 1, 600, .inl fb)) := (hfr by_ n_by__rd).trans hc_by_
        have hF : ∀ q, FrK T q → q ≠ rd → Mq5_ q = M q := fun q hq h0 => (hfr q h0).trans (hF q hq h0)
        refine lv_aload_n hx hb dX4_move_68 rfl (lv_at hl 0 rfl) ?_
        refine xg hC hK hH flX4_51 hc_rd rfl dX4_move_69 ?_
        refine lv_aload_n hx hb dX4_move_72 rfl (lv_at hl 0 rfl) ?_
        refine xg hC hK hH flX4_34 hc_rd rfl dX4_move_73 ?_
        refine jic_lt (tgt := 87) hx hb dX4_move_76 (by decide) (fun cq6_ => ?_) (fun cq6_ => ?_)
        · skip
          have cq6_ : yq2_.toInt < le.toInt := cq6_
          refine lv_aload_n hx hb dX4_move_87 rfl (lv_at hl 0 rfl) ?_
          refine lv_aload_n hx hb dX4_move_88 rfl (lv_at hl 0 rfl) ?_
          refine xg hC hK hH flX4_51 hc_rd rfl dX4_move_89 ?_
          refine goI hK hH (runV (As := [.int yq2_]) (rest := []) hC hK hH (c_X4_isLetter hc_rd hn_rd hc_by_ hn_by_ ht_nb (by omega)) mlX4_98 (rcvM hK hH hc_rd rfl) ⟨⟨Nat.le_of_ble_eq_true rfl, Nat.le_of_ble_eq_true rfl⟩, Nat.le_of_ble_eq_true rfl, Nat.le_of_ble_eq_true rfl⟩ rfl hl.1 rfl (Nat.le_of_ble_eq_true rfl) dX4_move_92) (fun rq9_ Mq7_ Tq8_ Hq_ lcq_ hP hz hH => ?_)
          try dsimp only at hP
          obtain ⟨(⟨cq10_, er_rq9_⟩ | ⟨cq11_, er_rq9_⟩), eT, eM⟩ := hP
          · skip
            have eT := eT.symm; subst eT
            have er_rq9_ := er_rq9_.symm; subst er_rq9_
            have eM := eM.symm; subst eM
            have cq10_ : 97 ≤ (fb yq2_.toInt.toNat).toInt ∧ (fb yq2_.toInt.toNat).toInt ≤ 122 := cq10_
            refine jif_eq (tgt := 105) hx hb dX4_move_95 (by decide) (fun cq12_ => absurd cq12_ (by decide)) (fun cq12_ => ?_)
            refine lv_aload_n hx hb dX4_move_98 rfl (lv_at hl 0 rfl) ?_
            refine goV hK hH (runV (As := []) (rest := []) hC hK hH (c_X4_moveOverWord hc_rd hn_rd hc_by_ hn_by_ ht_nb (by omega) (by omega) (by omega) (by omega) (by omega)) mlX4_102 (rcvM hK hH hc_rd rfl) ⟨⟨Nat.le_of_ble_eq_true rfl, Nat.le_of_ble_eq_true rfl⟩, Nat.le_of_ble_eq_true rfl, Nat.le_of_ble_eq_true rfl⟩ rfl hl.1 rfl (Nat.le_of_ble_eq_true rfl) dX4_move_99) (fun Mq13_ Tq14_ Hq_ lcq_ hP hz hH => ?_)
            try dsimp only at hP
            obtain ⟨xq17_, ⟨l_xq17_, g_xq17_⟩, (⟨cq16_, hx_rd⟩), eT, hfr⟩ := hP
            have eT := eT.symm; subst eT
            have hc_rd : Mq13_ rd = some (.inr (3, [.ref nb, .ref vb, .int no, .int wi, .ref by_, .int le, .int 1, .int yq2_, .int xq17_, .int va])) := hx_rd
            have hc_by_ : Mq13_ by_ = some (.inl (kA 1, 600, .inl fb)) := (hfr by_ (Or.inl hn_by_) n_by__rd).trans hc_by_
            have hF : ∀ q, FrK T q → q ≠ rd → Mq13_ q = M q := fun q hq h0 => (hfr q hq  h0).trans (hF q hq h0)
            have cq16_ : yq2_.toInt ≤ xq17_.toInt ∧ xq17_.toInt ≤ le.toInt ∧ xq17_.toInt = (scE pLe (nC fb) le.toInt.toNat yq2_.toInt.toNat : Int) := cq16_
            refine lv_goto (tgt := 156) hx hb dX4_move_102 (by decide) ?_
            exact ret_v hC hr hlk hK hH (⟨1, ⟨by decide, by decide⟩, yq2_, ⟨by omega, by omega⟩, xq17_, ⟨by omega, by omega⟩, va, iRg _, ⟨⟨by omega, by omega, tkW (by omega) (by omega) (by omega) (by omega) cq16_.2.2, skE (y := yq2_) (by omega) hw0_yq2_ (by omega) (by omega)⟩, hc_rd⟩, rfl, hF⟩) (Nat.le_of_ble_eq_true rfl) (Nat.le_of_ble_eq_true rfl) dX4_move_156
          · skip
            have eT := eT.symm; subst eT
            have er_rq9_ := er_rq9_.symm; subst er_rq9_
            have eM := eM.symm; subst eM
            have cq11_ : ¬ (97 ≤ (fb yq2_.toInt.toNat).toInt ∧ (fb yq2_.toInt.toNat).toInt ≤ 122) := cq11_
            refine jif_eq (tgt := 105) hx hb dX4_move_95 (by decide) (fun cq18_ => ?_) (fun cq18_ => absurd cq18_ (by decide))
            refine lv_aload_n hx hb dX4_move_105 rfl (lv_at hl 0 rfl) ?_
            refine lv_aload_n hx hb dX4_move_106 rfl (lv_at hl 0 rfl) ?_
            refine xg hC hK hH flX4_51 hc_rd rfl dX4_move_107 ?_
            refine goI hK hH (runV (As := [.int yq2_]) (rest := []) hC hK hH (c_X4_isDigit hc_rd hn_rd hc_by_ hn_by_ ht_nb (by omega)) mlX4_105 (rcvM hK hH hc_rd rfl) ⟨⟨Nat.le_of_ble_eq_true rfl, Nat.le_of_ble_eq_true rfl⟩, Nat.le_of_ble_eq_true rfl, Nat.le_of_ble_eq_true rfl⟩ rfl hl.1 rfl (Nat.le_of_ble_eq_true rfl) dX4_move_110) (fun rq21_ Mq19_ Tq20_ Hq_ lcq_ hP hz hH => ?_)
            try dsimp only at hP
            obtain ⟨(⟨cq22_, er_rq21_⟩ | ⟨cq23_, er_rq21_⟩), eT, eM⟩ := hP
            · skip
              have eT := eT.symm; subst eT
              have er_rq21_ := er_rq21_.symm; subst er_rq21_
              have eM := eM.symm; subst eM
              have cq22_ : 48 ≤ (fb yq2_.toInt.toNat).toInt ∧ (fb yq2_.toInt.toNat).toInt ≤ 57 := cq22_
              refine jif_eq (tgt := 123) hx hb dX4_move_113 (by decide) (fun cq24_ => absurd cq24_ (by decide)) (fun cq24_ => ?_)
              refine lv_aload_n hx hb dX4_move_116 rfl (lv_at hl 0 rfl) ?_
              refine goV hK hH (runV (As := []) (rest := []) hC hK hH (c_X4_moveOverNumber hc_rd hn_rd hc_by_ hn_by_ ht_nb (by omega) (by omega) (by omega) (by omega) (by omega)) mlX4_108 (rcvM hK hH hc_rd rfl) ⟨⟨Nat.le_of_ble_eq_true rfl, Nat.le_of_ble_eq_true rfl⟩, Nat.le_of_ble_eq_true rfl, Nat.le_of_ble_eq_true rfl⟩ rfl hl.1 rfl (Nat.le_of_ble_eq_true rfl) dX4_move_117) (fun Mq25_ Tq26_ Hq_ lcq_ hP hz hH => ?_)
              try dsimp only at hP
              obtain ⟨xq29_, ⟨l_xq29_, g_xq29_⟩, xq30_, ⟨l_xq30_, g_xq30_⟩, xq31_, ⟨l_xq31_, g_xq31_⟩, (⟨cq28_, hx_rd⟩), eT, hfr⟩ := hP
              have eT := eT.symm; subst eT
              have hc_rd : Mq25_ rd = some (.inr (3, [.ref nb, .ref vb, .int no, .int wi, .ref by_, .int le, .int xq29_, .int yq2_, .int xq30_, .int xq31_])) := hx_rd
              have hc_by_ : Mq25_ by_ = some (.inl (kA 1, 600, .inl fb)) := (hfr by_ (Or.inl hn_by_) n_by__rd).trans hc_by_
              have hF : ∀ q, FrK T q → q ≠ rd → Mq25_ q = M q := fun q hq h0 => (hfr q hq  h0).trans (hF q hq h0)
              have cq28_ : yq2_.toInt ≤ xq30_.toInt ∧ xq30_.toInt ≤ le.toInt ∧ xq30_.toInt = (scE pDi (nC fb) le.toInt.toNat yq2_.toInt.toNat : Int) ∧ ((xq30_.toInt ≤ yq2_.toInt + 4 ∧ xq29_.toInt = 2) ∨ (yq2_.toInt + 4 < xq30_.toInt ∧ xq29_.toInt = 4)) := cq28_
              refine lv_goto (tgt := 156) hx hb dX4_move_120 (by decide) ?_
              exact ret_v hC hr hlk hK hH (⟨xq29_, ⟨by omega, by omega⟩, yq2_, ⟨by omega, by omega⟩, xq30_, ⟨by omega, by omega⟩, xq31_, iRg _, ⟨⟨by omega, by omega, tkD (by omega) (by omega) (by omega) (by omega) cq28_.2.2.1 (by omega), skE (y := yq2_) (by omega) hw0_yq2_ (by omega) (by omega)⟩, hc_rd⟩, rfl, hF⟩) (Nat.le_of_ble_eq_true rfl) (Nat.le_of_ble_eq_true rfl) dX4_move_156
            · skip
              have eT := eT.symm; subst eT
              have er_rq21_ := er_rq21_.symm; subst er_rq21_
              have eM := eM.symm; subst eM
              have cq23_ : ¬ (48 ≤ (fb yq2_.toInt.toNat).toInt ∧ (fb yq2_.toInt.toNat).toInt ≤ 57) := cq23_
              refine jif_eq (tgt := 123) hx hb dX4_move_113 (by decide) (fun cq32_ => ?_) (fun cq32_ => absurd cq32_ (by decide))
              refine lv_aload_n hx hb dX4_move_123 rfl (lv_at hl 0 rfl) ?_
              refine lv_aload_n hx hb dX4_move_124 rfl (lv_at hl 0 rfl) ?_
              refine xg hC hK hH flX4_24 hc_rd rfl dX4_move_125 ?_
              refine lv_aload_n hx hb dX4_move_128 rfl (lv_at hl 0 rfl) ?_
              refine xg hC hK hH flX4_51 hc_rd rfl dX4_move_129 ?_
              refine xbld hC hK hH hc_by_ (iIn (by omega) (by omega)) dX4_move_132 ?_
              refine lv_topi (fun xq33_ e_xq33_ => ?_)
              have b_xq33_ : xq33_.toInt = (fb yq2_.toInt.toNat).toInt := congrArg Int32.toInt e_xq33_
              refine lv_bipush (v := 59) hx hb dX4_move_133 (by decide) ?_
              refine jic_ne (tgt := 142) hx hb dX4_move_135 (by decide) (fun cq34_ => ?_) (fun cq34_ => ?_)
              · skip
                have cq34_ : xq33_.toInt ≠ 59 := cq34_
                refine lv_iconst (v := 4) hx hb dX4_move_142 (by decide) ?_
                refine yp (v := .int 4) hC hK hH flX4_44 hc_rd (noT hn_rd) rfl rfl (Nat.le_of_ble_eq_true rfl) dX4_move_143 (fun Hq_ lcq_ Mq35_ hc_rd hfr hH => ?_)
                have hc_rd : Mq35_ rd = some (.inr (3, [.ref nb, .ref vb, .int no, .int wi, .ref by_, .int le, .int 4, .int yq2_, .int yq2_, .int va])) := hc_rd
                have hc_by_ : Mq35_ by_ = some (.inl (kA 1, 600, .inl fb)) := (hfr by_ n_by__rd).trans hc_by_
                have hF : ∀ q, FrK T q → q ≠ rd → Mq35_ q = M q := fun q hq h0 => (hfr q h0).trans (hF q hq h0)
                refine lv_aload_n hx hb dX4_move_146 rfl (lv_at hl 0 rfl) ?_
                refine lv_aload_n hx hb dX4_move_147 rfl (lv_at hl 0 rfl) ?_
                refine xg hC hK hH flX4_51 hc_rd rfl dX4_move_148 ?_
                refine lv_iconst (v := 1) hx hb dX4_move_151 (by decide) ?_
                refine lv_iadd hx hb dX4_move_152 ?_
                refine lv_topi (fun zq36_ e_zq36_ => ?_)
                have h_zq36_ : zq36_.toInt = yq2_.toInt + 1 := by rw [e_zq36_, iAdd (by have := iRg yq2_; have : (1 : Int32).toInt = 1 := rfl; omega) (by have := iRg yq2_; have : (1 : Int32).toInt = 1 := rfl; omega)]; rfl
                refine yp (v := .int zq36_) hC hK hH flX4_38 hc_rd (noT hn_rd) rfl rfl (Nat.le_of_ble_eq_true rfl) dX4_move_153 (fun Hq_ lcq_ Mq37_ hc_rd hfr hH => ?_)
                have hc_rd : Mq37_ rd = some (.inr (3, [.ref nb, .ref vb, .int no, .int wi, .ref by_, .int le, .int 4, .int yq2_, .int zq36_, .int va])) := hc_rd
                have hc_by_ : Mq37_ by_ = some (.inl (kA 1, 600, .inl fb)) := (hfr by_ n_by__rd).trans hc_by_
                have hF : ∀ q, FrK T q → q ≠ rd → Mq37_ q = M q := fun q hq h0 => (hfr q h0).trans (hF q hq h0)
                exact ret_v hC hr hlk hK hH (⟨4, ⟨by decide, by decide⟩, yq2_, ⟨by omega, by omega⟩, zq36_, ⟨by omega, by omega⟩, va, iRg _, ⟨⟨by omega, by omega, tkX (by omega) (by omega) (by omega) (by omega) (by omega) (by omega) (by have : (4 : Int32).toInt = 4 := rfl; omega), skE (y := yq2_) (by omega) hw0_yq2_ (by omega) (by omega)⟩, hc_rd⟩, rfl, hF⟩) (Nat.le_of_ble_eq_true rfl) (Nat.le_of_ble_eq_true rfl) dX4_move_156
              · skip
                have cq34_ : xq33_.toInt = 59 := cq34_
                refine lv_iconst (v := 3) hx hb dX4_move_138 (by decide) ?_
                refine lv_goto (tgt := 143) hx hb dX4_move_139 (by decide) ?_
                refine yp (v := .int 3) hC hK hH flX4_44 hc_rd (noT hn_rd) rfl rfl (Nat.le_of_ble_eq_true rfl) dX4_move_143 (fun Hq_ lcq_ Mq38_ hc_rd hfr hH => ?_)
                have hc_rd : Mq38_ rd = some (.inr (3, [.ref nb, .ref vb, .int no, .int wi, .ref by_, .int le, .int 3, .int yq2_, .int yq2_, .int va])) := hc_rd
                have hc_by_ : Mq38_ by_ = some (.inl (kA 1, 600, .inl fb)) := (hfr by_ n_by__rd).trans hc_by_
                have hF : ∀ q, FrK T q → q ≠ rd → Mq38_ q = M q := fun q hq h0 => (hfr q h0).trans (hF q hq h0)
                refine lv_aload_n hx hb dX4_move_146 rfl (lv_at hl 0 rfl) ?_
                refine lv_aload_n hx hb dX4_move_147 rfl (lv_at hl 0 rfl) ?_
                refine xg hC hK hH flX4_51 hc_rd rfl dX4_move_148 ?_
                refine lv_iconst (v := 1) hx hb dX4_move_151 (by decide) ?_
                refine lv_iadd hx hb dX4_move_152 ?_
                refine lv_topi (fun zq39_ e_zq39_ => ?_)
                have h_zq39_ : zq39_.toInt = yq2_.toInt + 1 := by rw [e_zq39_, iAdd (by have := iRg yq2_; have : (1 : Int32).toInt = 1 := rfl; omega) (by have := iRg yq2_; have : (1 : Int32).toInt = 1 := rfl; omega)]; rfl
                refine yp (v := .int zq39_) hC hK hH flX4_38 hc_rd (noT hn_rd) rfl rfl (Nat.le_of_ble_eq_true rfl) dX4_move_153 (fun Hq_ lcq_ Mq40_ hc_rd hfr hH => ?_)
                have hc_rd : Mq40_ rd = some (.inr (3, [.ref nb, .ref vb, .int no, .int wi, .ref by_, .int le, .int 3, .int yq2_, .int zq39_, .int va])) := hc_rd
                have hc_by_ : Mq40_ by_ = some (.inl (kA 1, 600, .inl fb)) := (hfr by_ n_by__rd).trans hc_by_
                have hF : ∀ q, FrK T q → q ≠ rd → Mq40_ q = M q := fun q hq h0 => (hfr q h0).trans (hF q hq h0)
                exact ret_v hC hr hlk hK hH (⟨3, ⟨by decide, by decide⟩, yq2_, ⟨by omega, by omega⟩, zq39_, ⟨by omega, by omega⟩, va, iRg _, ⟨⟨by omega, by omega, tkX (by omega) (by omega) (by omega) (by omega) (by omega) (by omega) (by have : (3 : Int32).toInt = 3 := rfl; omega), skE (y := yq2_) (by omega) hw0_yq2_ (by omega) (by omega)⟩, hc_rd⟩, rfl, hF⟩) (Nat.le_of_ble_eq_true rfl) (Nat.le_of_ble_eq_true rfl) dX4_move_156
        · skip
          have cq6_ : le.toInt ≤ yq2_.toInt := cq6_
          refine lv_aload_n hx hb dX4_move_79 rfl (lv_at hl 0 rfl) ?_
          refine lv_iconst (v := 0) hx hb dX4_move_80 (by decide) ?_
          refine yp (v := .int 0) hC hK hH flX4_44 hc_rd (noT hn_rd) rfl rfl (Nat.le_of_ble_eq_true rfl) dX4_move_81 (fun Hq_ lcq_ Mq41_ hc_rd hfr hH => ?_)
          have hc_rd : Mq41_ rd = some (.inr (3, [.ref nb, .ref vb, .int no, .int wi, .ref by_, .int le, .int 0, .int yq2_, .int yq2_, .int va])) := hc_rd
          have hc_by_ : Mq41_ by_ = some (.inl (kA 1, 600, .inl fb)) := (hfr by_ n_by__rd).trans hc_by_
          have hF : ∀ q, FrK T q → q ≠ rd → Mq41_ q = M q := fun q hq h0 => (hfr q h0).trans (hF q hq h0)
          refine lv_goto (tgt := 156) hx hb dX4_move_84 (by decide) ?_
          exact ret_v hC hr hlk hK hH (⟨0, ⟨by decide, by decide⟩, yq2_, ⟨by omega, by omega⟩, yq2_, ⟨by omega, by omega⟩, va, iRg _, ⟨⟨by omega, by omega, tk0 (by omega) (by omega), skE (y := yq2_) (by omega) hw0_yq2_ (by omega) (by omega)⟩, hc_rd⟩, rfl, hF⟩) (Nat.le_of_ble_eq_true rfl) (Nat.le_of_ble_eq_true rfl) dX4_move_156
      · skip
        have cq4_ : yq2_.toInt < le.toInt := cq4_
        refine lv_aload_n hx hb dX4_move_19 rfl (lv_at hl 0 rfl) ?_
        refine xg hC hK hH flX4_24 hc_rd rfl dX4_move_20 ?_
        refine lv_aload_n hx hb dX4_move_23 rfl (lv_at hl 0 rfl) ?_
        refine xg hC hK hH flX4_51 hc_rd rfl dX4_move_24 ?_
        refine xbld hC hK hH hc_by_ (iIn (by omega) (by omega)) dX4_move_27 ?_
        refine lv_topi (fun xq42_ e_xq42_ => ?_)
        have b_xq42_ : xq42_.toInt = (fb yq2_.toInt.toNat).toInt := congrArg Int32.toInt e_xq42_
        refine lv_bipush (v := 10) hx hb dX4_move_28 (by decide) ?_
        refine jic_eq (tgt := 47) hx hb dX4_move_30 (by decide) (fun cq43_ => ?_) (fun cq43_ => ?_)
        · skip
          have cq43_ : xq42_.toInt = 10 := cq43_
          refine lv_aload_n hx hb dX4_move_47 rfl (lv_at hl 0 rfl) ?_
          refine lv_dup hx hb dX4_move_48 rfl ?_
          refine xg hC hK hH flX4_51 hc_rd rfl dX4_move_49 ?_
          refine lv_iconst (v := 1) hx hb dX4_move_52 (by decide) ?_
          refine lv_iadd hx hb dX4_move_53 ?_
          refine lv_topi (fun zq44_ e_zq44_ => ?_)
          have h_zq44_ : zq44_.toInt = yq2_.toInt + 1 := by rw [e_zq44_, iAdd (by have := iRg yq2_; have : (1 : Int32).toInt = 1 := rfl; omega) (by have := iRg yq2_; have : (1 : Int32).toInt = 1 := rfl; omega)]; rfl
          refine yp (v := .int zq44_) hC hK hH flX4_51 hc_rd (noT hn_rd) rfl rfl (Nat.le_of_ble_eq_true rfl) dX4_move_54 (fun Hq_ lcq_ Mq45_ hc_rd hfr hH => ?_)
          have hc_rd : Mq45_ rd = some (.inr (3, [.ref nb, .ref vb, .int no, .int wi, .ref by_, .int le, .int ki, .int zq44_, .int be, .int va])) := hc_rd
          have hc_by_ : Mq45_ by_ = some (.inl (kA 1, 600, .inl fb)) := (hfr by_ n_by__rd).trans hc_by_
          have hF : ∀ q, FrK T q → q ≠ rd → Mq45_ q = M q := fun q hq h0 => (hfr q h0).trans (hF q hq h0)
          refine lv_goto (tgt := 8) hx hb dX4_move_57 (by decide) ?_
          exact ih zq44_ _ _ _ ls (by have := iRg zq44_; omega) (by have := iRg zq44_; omega) (by have := iRg zq44_; omega) (by have := iRg zq44_; omega) (skS (y := yq2_) (by omega) hw0_yq2_ (by omega) (by omega) (by omega) (by omega)) hc_rd hc_by_ hF hH (lv_sub hl [0] rfl)
        · skip
          have cq43_ : xq42_.toInt ≠ 10 := cq43_
          refine lv_aload_n hx hb dX4_move_33 rfl (lv_at hl 0 rfl) ?_
          refine xg hC hK hH flX4_24 hc_rd rfl dX4_move_34 ?_
          refine lv_aload_n hx hb dX4_move_37 rfl (lv_at hl 0 rfl) ?_
          refine xg hC hK hH flX4_51 hc_rd rfl dX4_move_38 ?_
          refine xbld hC hK hH hc_by_ (iIn (by omega) (by omega)) dX4_move_41 ?_
          refine lv_topi (fun xq46_ e_xq46_ => ?_)
          have b_xq46_ : xq46_.toInt = (fb yq2_.toInt.toNat).toInt := congrArg Int32.toInt e_xq46_
          refine lv_bipush (v := 32) hx hb dX4_move_42 (by decide) ?_
          refine jic_ne (tgt := 60) hx hb dX4_move_44 (by decide) (fun cq47_ => ?_) (fun cq47_ => ?_)
          · skip
            have cq47_ : xq46_.toInt ≠ 32 := cq47_
            refine lv_aload_n hx hb dX4_move_60 rfl (lv_at hl 0 rfl) ?_
            refine lv_aload_n hx hb dX4_move_61 rfl (lv_at hl 0 rfl) ?_
            refine xg hC hK hH flX4_51 hc_rd rfl dX4_move_62 ?_
            refine yp (v := .int yq2_) hC hK hH flX4_38 hc_rd (noT hn_rd) rfl rfl (Nat.le_of_ble_eq_true rfl) dX4_move_65 (fun Hq_ lcq_ Mq48_ hc_rd hfr hH => ?_)
            have hc_rd : Mq48_ rd = some (.inr (3, [.ref nb, .ref vb, .int no, .int wi, .ref by_, .int le, .int ki, .int yq2_, .int yq2_, .int va])) := hc_rd
            have hc_by_ : Mq48_ by_ = some (.inl (kA 1, 600, .inl fb)) := (hfr by_ n_by__rd).trans hc_by_
            have hF : ∀ q, FrK T q → q ≠ rd → Mq48_ q = M q := fun q hq h0 => (hfr q h0).trans (hF q hq h0)
            refine lv_aload_n hx hb dX4_move_68 rfl (lv_at hl 0 rfl) ?_
            refine xg hC hK hH flX4_51 hc_rd rfl dX4_move_69 ?_
            refine lv_aload_n hx hb dX4_move_72 rfl (lv_at hl 0 rfl) ?_
            refine xg hC hK hH flX4_34 hc_rd rfl dX4_move_73 ?_
            refine jic_lt (tgt := 87) hx hb dX4_move_76 (by decide) (fun cq49_ => ?_) (fun cq49_ => ?_)
            · skip
              have cq49_ : yq2_.toInt < le.toInt := cq49_
              refine lv_aload_n hx hb dX4_move_87 rfl (lv_at hl 0 rfl) ?_
              refine lv_aload_n hx hb dX4_move_88 rfl (lv_at hl 0 rfl) ?_
              refine xg hC hK hH flX4_51 hc_rd rfl dX4_move_89 ?_
              refine goI hK hH (runV (As := [.int yq2_]) (rest := []) hC hK hH (c_X4_isLetter hc_rd hn_rd hc_by_ hn_by_ ht_nb (by omega)) mlX4_98 (rcvM hK hH hc_rd rfl) ⟨⟨Nat.le_of_ble_eq_true rfl, Nat.le_of_ble_eq_true rfl⟩, Nat.le_of_ble_eq_true rfl, Nat.le_of_ble_eq_true rfl⟩ rfl hl.1 rfl (Nat.le_of_ble_eq_true rfl) dX4_move_92) (fun rq52_ Mq50_ Tq51_ Hq_ lcq_ hP hz hH => ?_)
              try dsimp only at hP
              obtain ⟨(⟨cq53_, er_rq52_⟩ | ⟨cq54_, er_rq52_⟩), eT, eM⟩ := hP
              · skip
                have eT := eT.symm; subst eT
                have er_rq52_ := er_rq52_.symm; subst er_rq52_
                have eM := eM.symm; subst eM
                have cq53_ : 97 ≤ (fb yq2_.toInt.toNat).toInt ∧ (fb yq2_.toInt.toNat).toInt ≤ 122 := cq53_
                refine jif_eq (tgt := 105) hx hb dX4_move_95 (by decide) (fun cq55_ => absurd cq55_ (by decide)) (fun cq55_ => ?_)
                refine lv_aload_n hx hb dX4_move_98 rfl (lv_at hl 0 rfl) ?_
                refine goV hK hH (runV (As := []) (rest := []) hC hK hH (c_X4_moveOverWord hc_rd hn_rd hc_by_ hn_by_ ht_nb (by omega) (by omega) (by omega) (by omega) (by omega)) mlX4_102 (rcvM hK hH hc_rd rfl) ⟨⟨Nat.le_of_ble_eq_true rfl, Nat.le_of_ble_eq_true rfl⟩, Nat.le_of_ble_eq_true rfl, Nat.le_of_ble_eq_true rfl⟩ rfl hl.1 rfl (Nat.le_of_ble_eq_true rfl) dX4_move_99) (fun Mq56_ Tq57_ Hq_ lcq_ hP hz hH => ?_)
                try dsimp only at hP
                obtain ⟨xq60_, ⟨l_xq60_, g_xq60_⟩, (⟨cq59_, hx_rd⟩), eT, hfr⟩ := hP
                have eT := eT.symm; subst eT
                have hc_rd : Mq56_ rd = some (.inr (3, [.ref nb, .ref vb, .int no, .int wi, .ref by_, .int le, .int 1, .int yq2_, .int xq60_, .int va])) := hx_rd
                have hc_by_ : Mq56_ by_ = some (.inl (kA 1, 600, .inl fb)) := (hfr by_ (Or.inl hn_by_) n_by__rd).trans hc_by_
                have hF : ∀ q, FrK T q → q ≠ rd → Mq56_ q = M q := fun q hq h0 => (hfr q hq  h0).trans (hF q hq h0)
                have cq59_ : yq2_.toInt ≤ xq60_.toInt ∧ xq60_.toInt ≤ le.toInt ∧ xq60_.toInt = (scE pLe (nC fb) le.toInt.toNat yq2_.toInt.toNat : Int) := cq59_
                refine lv_goto (tgt := 156) hx hb dX4_move_102 (by decide) ?_
                exact ret_v hC hr hlk hK hH (⟨1, ⟨by decide, by decide⟩, yq2_, ⟨by omega, by omega⟩, xq60_, ⟨by omega, by omega⟩, va, iRg _, ⟨⟨by omega, by omega, tkW (by omega) (by omega) (by omega) (by omega) cq59_.2.2, skE (y := yq2_) (by omega) hw0_yq2_ (by omega) (by omega)⟩, hc_rd⟩, rfl, hF⟩) (Nat.le_of_ble_eq_true rfl) (Nat.le_of_ble_eq_true rfl) dX4_move_156
              · skip
                have eT := eT.symm; subst eT
                have er_rq52_ := er_rq52_.symm; subst er_rq52_
                have eM := eM.symm; subst eM
                have cq54_ : ¬ (97 ≤ (fb yq2_.toInt.toNat).toInt ∧ (fb yq2_.toInt.toNat).toInt ≤ 122) := cq54_
                refine jif_eq (tgt := 105) hx hb dX4_move_95 (by decide) (fun cq61_ => ?_) (fun cq61_ => absurd cq61_ (by decide))
                refine lv_aload_n hx hb dX4_move_105 rfl (lv_at hl 0 rfl) ?_
                refine lv_aload_n hx hb dX4_move_106 rfl (lv_at hl 0 rfl) ?_
                refine xg hC hK hH flX4_51 hc_rd rfl dX4_move_107 ?_
                refine goI hK hH (runV (As := [.int yq2_]) (rest := []) hC hK hH (c_X4_isDigit hc_rd hn_rd hc_by_ hn_by_ ht_nb (by omega)) mlX4_105 (rcvM hK hH hc_rd rfl) ⟨⟨Nat.le_of_ble_eq_true rfl, Nat.le_of_ble_eq_true rfl⟩, Nat.le_of_ble_eq_true rfl, Nat.le_of_ble_eq_true rfl⟩ rfl hl.1 rfl (Nat.le_of_ble_eq_true rfl) dX4_move_110) (fun rq64_ Mq62_ Tq63_ Hq_ lcq_ hP hz hH => ?_)
                try dsimp only at hP
                obtain ⟨(⟨cq65_, er_rq64_⟩ | ⟨cq66_, er_rq64_⟩), eT, eM⟩ := hP
                · skip
                  have eT := eT.symm; subst eT
                  have er_rq64_ := er_rq64_.symm; subst er_rq64_
                  have eM := eM.symm; subst eM
                  have cq65_ : 48 ≤ (fb yq2_.toInt.toNat).toInt ∧ (fb yq2_.toInt.toNat).toInt ≤ 57 := cq65_
                  refine jif_eq (tgt := 123) hx hb dX4_move_113 (by decide) (fun cq67_ => absurd cq67_ (by decide)) (fun cq67_ => ?_)
                  refine lv_aload_n hx hb dX4_move_116 rfl (lv_at hl 0 rfl) ?_
                  refine goV hK hH (runV (As := []) (rest := []) hC hK hH (c_X4_moveOverNumber hc_rd hn_rd hc_by_ hn_by_ ht_nb (by omega) (by omega) (by omega) (by omega) (by omega)) mlX4_108 (rcvM hK hH hc_rd rfl) ⟨⟨Nat.le_of_ble_eq_true rfl, Nat.le_of_ble_eq_true rfl⟩, Nat.le_of_ble_eq_true rfl, Nat.le_of_ble_eq_true rfl⟩ rfl hl.1 rfl (Nat.le_of_ble_eq_true rfl) dX4_move_117) (fun Mq68_ Tq69_ Hq_ lcq_ hP hz hH => ?_)
                  try dsimp only at hP
                  obtain ⟨xq72_, ⟨l_xq72_, g_xq72_⟩, xq73_, ⟨l_xq73_, g_xq73_⟩, xq74_, ⟨l_xq74_, g_xq74_⟩, (⟨cq71_, hx_rd⟩), eT, hfr⟩ := hP
                  have eT := eT.symm; subst eT
                  have hc_rd : Mq68_ rd = some (.inr (3, [.ref nb, .ref vb, .int no, .int wi, .ref by_, .int le, .int xq72_, .int yq2_, .int xq73_, .int xq74_])) := hx_rd
                  have hc_by_ : Mq68_ by_ = some (.inl (kA 1, 600, .inl fb)) := (hfr by_ (Or.inl hn_by_) n_by__rd).trans hc_by_
                  have hF : ∀ q, FrK T q → q ≠ rd → Mq68_ q = M q := fun q hq h0 => (hfr q hq  h0).trans (hF q hq h0)
                  have cq71_ : yq2_.toInt ≤ xq73_.toInt ∧ xq73_.toInt ≤ le.toInt ∧ xq73_.toInt = (scE pDi (nC fb) le.toInt.toNat yq2_.toInt.toNat : Int) ∧ ((xq73_.toInt ≤ yq2_.toInt + 4 ∧ xq72_.toInt = 2) ∨ (yq2_.toInt + 4 < xq73_.toInt ∧ xq72_.toInt = 4)) := cq71_
                  refine lv_goto (tgt := 156) hx hb dX4_move_120 (by decide) ?_
                  exact ret_v hC hr hlk hK hH (⟨xq72_, ⟨by omega, by omega⟩, yq2_, ⟨by omega, by omega⟩, xq73_, ⟨by omega, by omega⟩, xq74_, iRg _, ⟨⟨by omega, by omega, tkD (by omega) (by omega) (by omega) (by omega) cq71_.2.2.1 (by omega), skE (y := yq2_) (by omega) hw0_yq2_ (by omega) (by omega)⟩, hc_rd⟩, rfl, hF⟩) (Nat.le_of_ble_eq_true rfl) (Nat.le_of_ble_eq_true rfl) dX4_move_156
                · skip
                  have eT := eT.symm; subst eT
                  have er_rq64_ := er_rq64_.symm; subst er_rq64_
                  have eM := eM.symm; subst eM
                  have cq66_ : ¬ (48 ≤ (fb yq2_.toInt.toNat).toInt ∧ (fb yq2_.toInt.toNat).toInt ≤ 57) := cq66_
                  refine jif_eq (tgt := 123) hx hb dX4_move_113 (by decide) (fun cq75_ => ?_) (fun cq75_ => absurd cq75_ (by decide))
                  refine lv_aload_n hx hb dX4_move_123 rfl (lv_at hl 0 rfl) ?_
                  refine lv_aload_n hx hb dX4_move_124 rfl (lv_at hl 0 rfl) ?_
                  refine xg hC hK hH flX4_24 hc_rd rfl dX4_move_125 ?_
                  refine lv_aload_n hx hb dX4_move_128 rfl (lv_at hl 0 rfl) ?_
                  refine xg hC hK hH flX4_51 hc_rd rfl dX4_move_129 ?_
                  refine xbld hC hK hH hc_by_ (iIn (by omega) (by omega)) dX4_move_132 ?_
                  refine lv_topi (fun xq76_ e_xq76_ => ?_)
                  have b_xq76_ : xq76_.toInt = (fb yq2_.toInt.toNat).toInt := congrArg Int32.toInt e_xq76_
                  refine lv_bipush (v := 59) hx hb dX4_move_133 (by decide) ?_
                  refine jic_ne (tgt := 142) hx hb dX4_move_135 (by decide) (fun cq77_ => ?_) (fun cq77_ => ?_)
                  · skip
                    have cq77_ : xq76_.toInt ≠ 59 := cq77_
                    refine lv_iconst (v := 4) hx hb dX4_move_142 (by decide) ?_
                    refine yp (v := .int 4) hC hK hH flX4_44 hc_rd (noT hn_rd) rfl rfl (Nat.le_of_ble_eq_true rfl) dX4_move_143 (fun Hq_ lcq_ Mq78_ hc_rd hfr hH => ?_)
                    have hc_rd : Mq78_ rd = some (.inr (3, [.ref nb, .ref vb, .int no, .int wi, .ref by_, .int le, .int 4, .int yq2_, .int yq2_, .int va])) := hc_rd
                    have hc_by_ : Mq78_ by_ = some (.inl (kA 1, 600, .inl fb)) := (hfr by_ n_by__rd).trans hc_by_
                    have hF : ∀ q, FrK T q → q ≠ rd → Mq78_ q = M q := fun q hq h0 => (hfr q h0).trans (hF q hq h0)
                    refine lv_aload_n hx hb dX4_move_146 rfl (lv_at hl 0 rfl) ?_
                    refine lv_aload_n hx hb dX4_move_147 rfl (lv_at hl 0 rfl) ?_
                    refine xg hC hK hH flX4_51 hc_rd rfl dX4_move_148 ?_
                    refine lv_iconst (v := 1) hx hb dX4_move_151 (by decide) ?_
                    refine lv_iadd hx hb dX4_move_152 ?_
                    refine lv_topi (fun zq79_ e_zq79_ => ?_)
                    have h_zq79_ : zq79_.toInt = yq2_.toInt + 1 := by rw [e_zq79_, iAdd (by have := iRg yq2_; have : (1 : Int32).toInt = 1 := rfl; omega) (by have := iRg yq2_; have : (1 : Int32).toInt = 1 := rfl; omega)]; rfl
                    refine yp (v := .int zq79_) hC hK hH flX4_38 hc_rd (noT hn_rd) rfl rfl (Nat.le_of_ble_eq_true rfl) dX4_move_153 (fun Hq_ lcq_ Mq80_ hc_rd hfr hH => ?_)
                    have hc_rd : Mq80_ rd = some (.inr (3, [.ref nb, .ref vb, .int no, .int wi, .ref by_, .int le, .int 4, .int yq2_, .int zq79_, .int va])) := hc_rd
                    have hc_by_ : Mq80_ by_ = some (.inl (kA 1, 600, .inl fb)) := (hfr by_ n_by__rd).trans hc_by_
                    have hF : ∀ q, FrK T q → q ≠ rd → Mq80_ q = M q := fun q hq h0 => (hfr q h0).trans (hF q hq h0)
                    exact ret_v hC hr hlk hK hH (⟨4, ⟨by decide, by decide⟩, yq2_, ⟨by omega, by omega⟩, zq79_, ⟨by omega, by omega⟩, va, iRg _, ⟨⟨by omega, by omega, tkX (by omega) (by omega) (by omega) (by omega) (by omega) (by omega) (by have : (4 : Int32).toInt = 4 := rfl; omega), skE (y := yq2_) (by omega) hw0_yq2_ (by omega) (by omega)⟩, hc_rd⟩, rfl, hF⟩) (Nat.le_of_ble_eq_true rfl) (Nat.le_of_ble_eq_true rfl) dX4_move_156
                  · skip
                    have cq77_ : xq76_.toInt = 59 := cq77_
                    refine lv_iconst (v := 3) hx hb dX4_move_138 (by decide) ?_
                    refine lv_goto (tgt := 143) hx hb dX4_move_139 (by decide) ?_
                    refine yp (v := .int 3) hC hK hH flX4_44 hc_rd (noT hn_rd) rfl rfl (Nat.le_of_ble_eq_true rfl) dX4_move_143 (fun Hq_ lcq_ Mq81_ hc_rd hfr hH => ?_)
                    have hc_rd : Mq81_ rd = some (.inr (3, [.ref nb, .ref vb, .int no, .int wi, .ref by_, .int le, .int 3, .int yq2_, .int yq2_, .int va])) := hc_rd
                    have hc_by_ : Mq81_ by_ = some (.inl (kA 1, 600, .inl fb)) := (hfr by_ n_by__rd).trans hc_by_
                    have hF : ∀ q, FrK T q → q ≠ rd → Mq81_ q = M q := fun q hq h0 => (hfr q h0).trans (hF q hq h0)
                    refine lv_aload_n hx hb dX4_move_146 rfl (lv_at hl 0 rfl) ?_
                    refine lv_aload_n hx hb dX4_move_147 rfl (lv_at hl 0 rfl) ?_
                    refine xg hC hK hH flX4_51 hc_rd rfl dX4_move_148 ?_
                    refine lv_iconst (v := 1) hx hb dX4_move_151 (by decide) ?_
                    refine lv_iadd hx hb dX4_move_152 ?_
                    refine lv_topi (fun zq82_ e_zq82_ => ?_)
                    have h_zq82_ : zq82_.toInt = yq2_.toInt + 1 := by rw [e_zq82_, iAdd (by have := iRg yq2_; have : (1 : Int32).toInt = 1 := rfl; omega) (by have := iRg yq2_; have : (1 : Int32).toInt = 1 := rfl; omega)]; rfl
                    refine yp (v := .int zq82_) hC hK hH flX4_38 hc_rd (noT hn_rd) rfl rfl (Nat.le_of_ble_eq_true rfl) dX4_move_153 (fun Hq_ lcq_ Mq83_ hc_rd hfr hH => ?_)
                    have hc_rd : Mq83_ rd = some (.inr (3, [.ref nb, .ref vb, .int no, .int wi, .ref by_, .int le, .int 3, .int yq2_, .int zq82_, .int va])) := hc_rd
                    have hc_by_ : Mq83_ by_ = some (.inl (kA 1, 600, .inl fb)) := (hfr by_ n_by__rd).trans hc_by_
                    have hF : ∀ q, FrK T q → q ≠ rd → Mq83_ q = M q := fun q hq h0 => (hfr q h0).trans (hF q hq h0)
                    exact ret_v hC hr hlk hK hH (⟨3, ⟨by decide, by decide⟩, yq2_, ⟨by omega, by omega⟩, zq82_, ⟨by omega, by omega⟩, va, iRg _, ⟨⟨by omega, by omega, tkX (by omega) (by omega) (by omega) (by omega) (by omega) (by omega) (by have : (3 : Int32).toInt = 3 := rfl; omega), skE (y := yq2_) (by omega) hw0_yq2_ (by omega) (by omega)⟩, hc_rd⟩, rfl, hF⟩) (Nat.le_of_ble_eq_true rfl) (Nat.le_of_ble_eq_true rfl) dX4_move_156
            · skip
              have cq49_ : le.toInt ≤ yq2_.toInt := cq49_
              refine lv_aload_n hx hb dX4_move_79 rfl (lv_at hl 0 rfl) ?_
              refine lv_iconst (v := 0) hx hb dX4_move_80 (by decide) ?_
              refine yp (v := .int 0) hC hK hH flX4_44 hc_rd (noT hn_rd) rfl rfl (Nat.le_of_ble_eq_true rfl) dX4_move_81 (fun Hq_ lcq_ Mq84_ hc_rd hfr hH => ?_)
              have hc_rd : Mq84_ rd = some (.inr (3, [.ref nb, .ref vb, .int no, .int wi, .ref by_, .int le, .int 0, .int yq2_, .int yq2_, .int va])) := hc_rd
              have hc_by_ : Mq84_ by_ = some (.inl (kA 1, 600, .inl fb)) := (hfr by_ n_by__rd).trans hc_by_
              have hF : ∀ q, FrK T q → q ≠ rd → Mq84_ q = M q := fun q hq h0 => (hfr q h0).trans (hF q hq h0)
              refine lv_goto (tgt := 156) hx hb dX4_move_84 (by decide) ?_
              exact ret_v hC hr hlk hK hH (⟨0, ⟨by decide, by decide⟩, yq2_, ⟨by omega, by omega⟩, yq2_, ⟨by omega, by omega⟩, va, iRg _, ⟨⟨by omega, by omega, tk0 (by omega) (by omega), skE (y := yq2_) (by omega) hw0_yq2_ (by omega) (by omega)⟩, hc_rd⟩, rfl, hF⟩) (Nat.le_of_ble_eq_true rfl) (Nat.le_of_ble_eq_true rfl) dX4_move_156
          · skip
            have cq47_ : xq46_.toInt = 32 := cq47_
            refine lv_aload_n hx hb dX4_move_47 rfl (lv_at hl 0 rfl) ?_
            refine lv_dup hx hb dX4_move_48 rfl ?_
            refine xg hC hK hH flX4_51 hc_rd rfl dX4_move_49 ?_
            refine lv_iconst (v := 1) hx hb dX4_move_52 (by decide) ?_
            refine lv_iadd hx hb dX4_move_53 ?_
            refine lv_topi (fun zq85_ e_zq85_ => ?_)
            have h_zq85_ : zq85_.toInt = yq2_.toInt + 1 := by rw [e_zq85_, iAdd (by have := iRg yq2_; have : (1 : Int32).toInt = 1 := rfl; omega) (by have := iRg yq2_; have : (1 : Int32).toInt = 1 := rfl; omega)]; rfl
            refine yp (v := .int zq85_) hC hK hH flX4_51 hc_rd (noT hn_rd) rfl rfl (Nat.le_of_ble_eq_true rfl) dX4_move_54 (fun Hq_ lcq_ Mq86_ hc_rd hfr hH => ?_)
            have hc_rd : Mq86_ rd = some (.inr (3, [.ref nb, .ref vb, .int no, .int wi, .ref by_, .int le, .int ki, .int zq85_, .int be, .int va])) := hc_rd
            have hc_by_ : Mq86_ by_ = some (.inl (kA 1, 600, .inl fb)) := (hfr by_ n_by__rd).trans hc_by_
            have hF : ∀ q, FrK T q → q ≠ rd → Mq86_ q = M q := fun q hq h0 => (hfr q h0).trans (hF q hq h0)
            refine lv_goto (tgt := 8) hx hb dX4_move_57 (by decide) ?_
            exact ih zq85_ _ _ _ ls (by have := iRg zq85_; omega) (by have := iRg zq85_; omega) (by have := iRg zq85_; omega) (by have := iRg zq85_; omega) (skS (y := yq2_) (by omega) hw0_yq2_ (by omega) (by omega) (by omega) (by omega)) hc_rd hc_by_ hF hH (lv_sub hl [0] rfl)
  exact loop (Int.toNat (le.toInt - be.toInt + 1)) be _ _ _ ls (by have := iRg be; omega) (by have := iRg be; omega) (by have := iRg be; omega) (by have := iRg be; omega) (rfl) hc_rd hc_by_ hF hH hl
