theorem mmX4_28 : MML RX4 28 := ⟨TB_t 414 (by decide +kernel) rfl, TB_t 415 (by decide +kernel) rfl, TB_t 12 (by decide +kernel) rfl, TB_t 416 (by decide +kernel) rfl⟩
set_option maxHeartbeats 4000000 in
set_option maxRecDepth 100000 in
theorem c_X4_open {l : Launch} {D : va_G} {kA : Nat → ClassId} {M : mM} {T : mT} {sz : Nat} {rd nb by_ vb : Nat} {no wi le ki pl be va : Int32} {fb : Nat → Int32} {tp : Nat} {sz_ : Int32} (hc_rd : M rd = some (.inr (3, [.ref nb, .ref vb, .int no, .int wi, .ref by_, .int le, .int ki, .int pl, .int be, .int va]))) (hn_rd : T rd = none) (hc_tp : M tp = some (.inl (kA 1, 600, .inl fb))) (hn_tp : T tp = none) (ht_nb : T nb = some 12) (hsz_ : 0 ≤ sz_.toInt ∧ sz_.toInt ≤ 600) : mCv l yX4_open cX4_open 3 3 0 0 D kA M T sz [.ref rd, .ref tp, .int sz_] (fun u => ∃ ki2 : Int32, ((0 : Int) ≤ ki2.toInt ∧ ki2.toInt ≤ 4) ∧ ∃ pl2 : Int32, ((0 : Int) ≤ pl2.toInt ∧ pl2.toInt ≤ 600) ∧ ∃ be2 : Int32, ((0 : Int) ≤ be2.toInt ∧ be2.toInt ≤ 600) ∧ ∃ va2 : Int32, ((-2147483648 : Int) ≤ va2.toInt ∧ va2.toInt ≤ 2147483647) ∧ ((pl2.toInt ≤ be2.toInt ∧ be2.toInt ≤ sz_.toInt ∧ Tk fb sz_ ki2 pl2 be2 ∧ pl2.toInt = (scE pSp (nC fb) sz_.toInt.toNat 0 : Int)) ∧ u.1 rd = some (.inr (3, [.ref nb, .ref vb, .int no, .int wi, .ref tp, .int sz_, .int ki2, .int pl2, .int be2, .int va2]))) ∧ u.2 = T ∧ (∀ q, FrK T q → q ≠ rd → u.1 q = M q)) := by
  unfold mCv
  refine start_W (by decide) (Nat.le_of_ble_eq_true rfl) ?_
  intro p e s m below meth c ls hC hr hlk hnm hK hH hsz hl
  have hx := hC.1
  have hb := hC.2.1
  have hl : lv_has ls 3 [(0, .ref rd), (1, .ref tp), (2, .int sz_)] := hl
  have hF : ∀ q, FrK T q → q ≠ rd → M q = M q := fun q _ _ => rfl
  have n_rd_tp : rd ≠ tp := neM hc_rd hc_tp (by simp)
  have n_tp_rd : tp ≠ rd := neM hc_tp hc_rd (by simp)
  refine lv_aload_n hx hb dX4_open_0 rfl (lv_at hl 0 rfl) ?_
  refine lv_aload_n hx hb dX4_open_1 rfl (lv_at hl 1 rfl) ?_
  refine yp (v := .ref tp) hC hK hH flX4_24 hc_rd (noT hn_rd) rfl rfl (Nat.le_of_ble_eq_true rfl) dX4_open_2 (fun Hq_ lcq_ Mq1_ hc_rd hfr hH => ?_)
  have hc_rd : Mq1_ rd = some (.inr (3, [.ref nb, .ref vb, .int no, .int wi, .ref tp, .int le, .int ki, .int pl, .int be, .int va])) := hc_rd
  have hc_tp : Mq1_ tp = some (.inl (kA 1, 600, .inl fb)) := (hfr tp n_tp_rd).trans hc_tp
  have hF : ∀ q, FrK T q → q ≠ rd → Mq1_ q = M q := fun q hq h0 => (hfr q h0).trans (hF q hq h0)
  refine lv_aload_n hx hb dX4_open_5 rfl (lv_at hl 0 rfl) ?_
  refine lv_iload_n hx hb dX4_open_6 rfl (lv_at hl 2 rfl) ?_
  refine lv_aload_n hx hb dX4_open_7 rfl (lv_at hl 1 rfl) ?_
  refine xlen (ck := 1) (v := 600) hC hK hH rfl hc_tp rfl dX4_open_8 ?_
  refine xmin hC hl.1 mmX4_28 (Nat.le_of_ble_eq_true rfl) (Nat.le_of_ble_eq_true rfl) (Nat.le_of_ble_eq_true rfl) (Nat.le_of_ble_eq_true rfl) dX4_open_9 ?_
  refine lv_cst (v := sz_) (if_neg (by rw [iLt]; have : (600 : Int32).toInt = 600 := rfl; omega)) ?_
  refine yp (v := .int sz_) hC hK hH flX4_34 hc_rd (noT hn_rd) rfl rfl (Nat.le_of_ble_eq_true rfl) dX4_open_12 (fun Hq_ lcq_ Mq2_ hc_rd hfr hH => ?_)
  have hc_rd : Mq2_ rd = some (.inr (3, [.ref nb, .ref vb, .int no, .int wi, .ref tp, .int sz_, .int ki, .int pl, .int be, .int va])) := hc_rd
  have hc_tp : Mq2_ tp = some (.inl (kA 1, 600, .inl fb)) := (hfr tp n_tp_rd).trans hc_tp
  have hF : ∀ q, FrK T q → q ≠ rd → Mq2_ q = M q := fun q hq h0 => (hfr q h0).trans (hF q hq h0)
  refine lv_aload_n hx hb dX4_open_15 rfl (lv_at hl 0 rfl) ?_
  refine lv_iconst (v := 0) hx hb dX4_open_16 (by decide) ?_
  refine yp (v := .int 0) hC hK hH flX4_38 hc_rd (noT hn_rd) rfl rfl (Nat.le_of_ble_eq_true rfl) dX4_open_17 (fun Hq_ lcq_ Mq3_ hc_rd hfr hH => ?_)
  have hc_rd : Mq3_ rd = some (.inr (3, [.ref nb, .ref vb, .int no, .int wi, .ref tp, .int sz_, .int ki, .int pl, .int 0, .int va])) := hc_rd
  have hc_tp : Mq3_ tp = some (.inl (kA 1, 600, .inl fb)) := (hfr tp n_tp_rd).trans hc_tp
  have hF : ∀ q, FrK T q → q ≠ rd → Mq3_ q = M q := fun q hq h0 => (hfr q h0).trans (hF q hq h0)
  refine lv_aload_n hx hb dX4_open_20 rfl (lv_at hl 0 rfl) ?_
  refine goV hK hH (runV (As := []) (rest := []) hC hK hH (c_X4_move hc_rd hn_rd hc_tp hn_tp ht_nb (by omega) (by have : (0 : Int32).toInt = 0 := rfl; omega) (by decide)) mlX4_41 (rcvM hK hH hc_rd rfl) ⟨⟨Nat.le_of_ble_eq_true rfl, Nat.le_of_ble_eq_true rfl⟩, Nat.le_of_ble_eq_true rfl, Nat.le_of_ble_eq_true rfl⟩ rfl hl.1 rfl (Nat.le_of_ble_eq_true rfl) dX4_open_21) (fun Mq4_ Tq5_ Hq_ lcq_ hP hz hH => ?_)
  try dsimp only at hP
  obtain ⟨xq8_, ⟨l_xq8_, g_xq8_⟩, xq9_, ⟨l_xq9_, g_xq9_⟩, xq10_, ⟨l_xq10_, g_xq10_⟩, xq11_, ⟨l_xq11_, g_xq11_⟩, (⟨cq7_, hx_rd⟩), eT, hfr⟩ := hP
  have eT := eT.symm; subst eT
  have hc_rd : Mq4_ rd = some (.inr (3, [.ref nb, .ref vb, .int no, .int wi, .ref tp, .int sz_, .int xq8_, .int xq9_, .int xq10_, .int xq11_])) := hx_rd
  have hc_tp : Mq4_ tp = some (.inl (kA 1, 600, .inl fb)) := (hfr tp (Or.inl hn_tp) n_tp_rd).trans hc_tp
  have hF : ∀ q, FrK T q → q ≠ rd → Mq4_ q = M q := fun q hq h0 => (hfr q hq  h0).trans (hF q hq h0)
  have cq7_ : xq9_.toInt ≤ xq10_.toInt ∧ xq10_.toInt ≤ sz_.toInt ∧ Tk fb sz_ xq8_ xq9_ xq10_ ∧ xq9_.toInt = (scE pSp (nC fb) sz_.toInt.toNat (0 : Int).toNat : Int) := cq7_
  exact ret_v hC hr hlk hK hH (⟨xq8_, ⟨by omega, by omega⟩, xq9_, ⟨by omega, by omega⟩, xq10_, ⟨by omega, by omega⟩, xq11_, iRg _, ⟨cq7_, hc_rd⟩, rfl, hF⟩) (Nat.le_of_ble_eq_true rfl) (Nat.le_of_ble_eq_true rfl) dX4_open_24
set_option maxHeartbeats 4000000 in
set_option maxRecDepth 100000 in
theorem c_X4_isWord {z : zD} {l : Launch} {D : va_G} {kA : Nat → ClassId} {M : mM} {T : mT} {sz : Nat} {rd nb by_ vb : Nat} {no wi le ki pl be va : Int32} {fb : Nat → Int32}{i : Nat} (hc_rd : M rd = some (.inr (3, [.ref nb, .ref vb, .int no, .int wi, .ref by_, .int le, .int ki, .int pl, .int be, .int va]))) (hn_rd : T rd = none) (hc_by_ : M by_ = some (.inl (kA 1, 600, .inl fb))) (hn_by_ : T by_ = none) (ht_nb : T nb = some 12) (hno : 0 ≤ no.toInt ∧ no.toInt ≤ 1) (hwi : 0 ≤ wi.toInt ∧ wi.toInt ≤ 1) (hle : 0 ≤ le.toInt ∧ le.toInt ≤ 600) (hki : 0 ≤ ki.toInt ∧ ki.toInt ≤ 4) (hpl : 0 ≤ pl.toInt) (hpb : pl.toInt ≤ be.toInt) (hbe : be.toInt ≤ le.toInt) (hi : i < 21) (htk : Tk fb le ki pl be) : mCiB z l yX4_isWord cX4_isWord 3 (some .boolean) 4 0 0 D kA M T sz [.ref rd, .ref (zs z i)] (fun r u => ((wIs (nC fb) le.toInt.toNat pl.toInt.toNat i ∧ r = 1) ∨ (¬ wIs (nC fb) le.toInt.toNat pl.toInt.toNat i ∧ r = 0)) ∧ u.2 = T ∧ u.1 = M) := by
  unfold mCiB
  refine start_WB (by decide) (Nat.le_of_ble_eq_true rfl) ?_
  intro p e s m below meth c ls hC hr hlk hnm hK hH hsz hZ hl
  have hx := hC.1
  have hb := hC.2.1
  have hl : lv_has ls 3 [(0, .ref rd), (1, .ref (zs z i))] := hl
  have n_rd_by_ : rd ≠ by_ := neM hc_rd hc_by_ (by simp)
  have n_by__rd : by_ ≠ rd := neM hc_by_ hc_rd (by simp)
  refine lv_aload_n hx hb dX4_isWord_0 rfl (lv_at hl 0 rfl) ?_
  refine xg hC hK hH flX4_44 hc_rd rfl dX4_isWord_1 ?_
  refine lv_iconst (v := 1) hx hb dX4_isWord_4 (by decide) ?_
  refine jic_ne (tgt := 24) hx hb dX4_isWord_5 (by decide) (fun cq1_ => ?_) (fun cq1_ => ?_)
  · skip
    have cq1_ : ki.toInt ≠ 1 := cq1_
    refine lv_iconst (v := 0) hx hb dX4_isWord_24 (by decide) ?_
    exact ret_z hC hr hlk hK hH (by first | exact Or.inl rfl | exact Or.inr rfl | assumption) (⟨Or.inr (⟨wIs_no htk (by omega) (by omega), rfl⟩), rfl, rfl⟩) (Nat.le_of_ble_eq_true rfl) (Nat.le_of_ble_eq_true rfl) dX4_isWord_25
  · skip
    have cq1_ : ki.toInt = 1 := cq1_
    refine lv_aload_n hx hb dX4_isWord_8 rfl (lv_at hl 0 rfl) ?_
    refine xg hC hK hH flX4_38 hc_rd rfl dX4_isWord_9 ?_
    refine lv_aload_n hx hb dX4_isWord_12 rfl (lv_at hl 0 rfl) ?_
    refine xg hC hK hH flX4_51 hc_rd rfl dX4_isWord_13 ?_
    refine lv_isub hx hb dX4_isWord_16 ?_
    refine lv_topi (fun zq2_ e_zq2_ => ?_)
    have h_zq2_ : zq2_.toInt = be.toInt - pl.toInt := by rw [e_zq2_, iSub (by have := iRg be; have := iRg pl; omega) (by have := iRg be; have := iRg pl; omega)]
    refine lv_aload_n hx hb dX4_isWord_17 rfl (lv_at hl 1 rfl) ?_
    refine goI hK hH (runVB (As := []) (rest := [.int zq2_]) hC hK hH hZ (c_J0_length_8abf5 (by omega)) mlX4_89 (rcvO (hZ.1.2.2.2.1 i (by omega)).1 hH) ⟨⟨Nat.le_of_ble_eq_true rfl, Nat.le_of_ble_eq_true rfl⟩, Nat.le_of_ble_eq_true rfl, Nat.le_of_ble_eq_true rfl⟩ rfl hl.1 rfl (Nat.le_of_ble_eq_true rfl) dX4_isWord_18) (fun rq5_ Mq3_ Tq4_ Hq_ lcq_ hP hz hH => ?_)
    try dsimp only at hP
    obtain ⟨(⟨cq6_, ⟨l_rq5_, g_rq5_⟩⟩), eT, eM⟩ := hP
    have eT := eT.symm; subst eT
    have eM := eM.symm; subst eM
    have cq6_ : rq5_.toInt = (zLen i : Int) := cq6_
    refine jic_eq (tgt := 26) hx hb dX4_isWord_21 (by decide) (fun cq7_ => ?_) (fun cq7_ => ?_)
    · skip
      have cq7_ : zq2_.toInt = rq5_.toInt := cq7_
      refine lv_iconst (v := 0) hx hb dX4_isWord_26 (by decide) ?_
      refine lv_istore_n (lv' := [(2, .int 0), (0, .ref rd), (1, .ref (zs z i))]) hx hb dX4_isWord_27 rfl hl (by decide) rfl (fun ls hl => ?_)
      have loop : ∀ (n : Nat) (yq8_ : Int32) (Hq_ : Heap) (lcq_ : List Loc) (ls : Array Slot), 9 - yq8_.toInt ≤ (n : Int) → (0 : Int) ≤ yq8_.toInt → yq8_.toInt ≤ 8 → (∀ j : Nat, (j : Int) < yq8_.toInt → (fb (pl.toInt.toNat + j)).toInt = (zByt i j).toInt) → M rd = some (.inr (3, [.ref nb, .ref vb, .int no, .int wi, .ref by_, .int le, .int ki, .int pl, .int be, .int va])) → M by_ = some (.inl (kA 1, 600, .inl fb)) → mS D kA M T (mA M T sz) s.heap Hq_ lcq_ → lv_has ls 3 [(2, .int yq8_), (0, .ref rd), (1, .ref (zs z i))] → W p l e (rmL 4 0 0) s m ([.ref rd, .ref (zs z i)] : List Value).toArray below meth c Hq_ lcq_ 0 0 (MQ below (va_Qi (fun r u => ((wIs (nC fb) le.toInt.toNat pl.toInt.toNat i ∧ r = 1) ∨ (¬ wIs (nC fb) le.toInt.toNat pl.toInt.toNat i ∧ r = 0)) ∧ u.2 = T ∧ u.1 = M) (mB D kA M T sz) (mA M T sz)) ([.ref rd, .ref (zs z i)] : List Value).toArray s 0 0 (mA M T sz)) (F0 m 28 ls []) := by
        intro n
        induction n with
        | zero =>
          intro yq8_ Hq_ lcq_ ls hme l_yq8_ g_yq8_ hw0_yq8_ hc_rd hc_by_ hH hl
          exfalso; omega
        | succ n ih =>
          intro yq8_ Hq_ lcq_ ls hme l_yq8_ g_yq8_ hw0_yq8_ hc_rd hc_by_ hH hl
          refine lv_iload_n hx hb dX4_isWord_28 rfl (lv_at hl 0 rfl) ?_
          refine lv_aload_n hx hb dX4_isWord_29 rfl (lv_at hl 2 rfl) ?_
          refine goI hK hH (runVB (As := []) (rest := [.int yq8_]) hC hK hH hZ (c_J0_length_8abf5 (by omega)) mlX4_89 (rcvO (hZ.1.2.2.2.1 i (by omega)).1 hH) ⟨⟨Nat.le_of_ble_eq_true rfl, Nat.le_of_ble_eq_true rfl⟩, Nat.le_of_ble_eq_true rfl, Nat.le_of_ble_eq_true rfl⟩ rfl hl.1 rfl (Nat.le_of_ble_eq_true rfl) dX4_isWord_30) (fun rq11_ Mq9_ Tq10_ Hq_ lcq_ hP hz hH => ?_)
          try dsimp only at hP
          obtain ⟨(⟨cq12_, ⟨l_rq11_, g_rq11_⟩⟩), eT, eM⟩ := hP
          have eT := eT.symm; subst eT
          have eM := eM.symm; subst eM
          have cq12_ : rq11_.toInt = (zLen i : Int) := cq12_
          refine jic_ge (tgt := 63) hx hb dX4_isWord_33 (by decide) (fun cq13_ => ?_) (fun cq13_ => ?_)
          · skip
            have cq13_ : rq11_.toInt ≤ yq8_.toInt := cq13_
            refine lv_iconst (v := 1) hx hb dX4_isWord_63 (by decide) ?_
            exact ret_z hC hr hlk hK hH (by first | exact Or.inl rfl | exact Or.inr rfl | assumption) (⟨Or.inl (⟨wIs_ok htk (by omega) (by omega) (by omega) hi (by omega) (fun j hj => hw0_yq8_ j (by omega)), rfl⟩), rfl, rfl⟩) (Nat.le_of_ble_eq_true rfl) (Nat.le_of_ble_eq_true rfl) dX4_isWord_64
          · skip
            have cq13_ : yq8_.toInt < rq11_.toInt := cq13_
            refine lv_aload_n hx hb dX4_isWord_36 rfl (lv_at hl 1 rfl) ?_
            refine xg hC hK hH flX4_24 hc_rd rfl dX4_isWord_37 ?_
            refine lv_aload_n hx hb dX4_isWord_40 rfl (lv_at hl 1 rfl) ?_
            refine xg hC hK hH flX4_51 hc_rd rfl dX4_isWord_41 ?_
            refine lv_iload_n hx hb dX4_isWord_44 rfl (lv_at hl 0 rfl) ?_
            refine lv_iadd hx hb dX4_isWord_45 ?_
            refine lv_topi (fun zq14_ e_zq14_ => ?_)
            have h_zq14_ : zq14_.toInt = pl.toInt + yq8_.toInt := by rw [e_zq14_, iAdd (by have := iRg pl; have := iRg yq8_; omega) (by have := iRg pl; have := iRg yq8_; omega)]
            refine xbld hC hK hH hc_by_ (iIn (by omega) (by omega)) dX4_isWord_46 ?_
            refine lv_topi (fun xq15_ e_xq15_ => ?_)
            have b_xq15_ : xq15_.toInt = (fb zq14_.toInt.toNat).toInt := congrArg Int32.toInt e_xq15_
            refine lv_aload_n hx hb dX4_isWord_47 rfl (lv_at hl 2 rfl) ?_
            refine lv_iload_n hx hb dX4_isWord_48 rfl (lv_at hl 0 rfl) ?_
            refine goI hK hH (runVB (As := [.int yq8_]) (rest := [.int xq15_]) hC hK hH hZ (c_J0_charAt_5068e (by omega) (by omega)) mlX4_94 (rcvO (hZ.1.2.2.2.1 i (by omega)).1 hH) ⟨⟨Nat.le_of_ble_eq_true rfl, Nat.le_of_ble_eq_true rfl⟩, Nat.le_of_ble_eq_true rfl, Nat.le_of_ble_eq_true rfl⟩ rfl hl.1 rfl (Nat.le_of_ble_eq_true rfl) dX4_isWord_49) (fun rq18_ Mq16_ Tq17_ Hq_ lcq_ hP hz hH => ?_)
            try dsimp only at hP
            obtain ⟨(cq19_), eT, eM⟩ := hP
            have eT := eT.symm; subst eT
            have eM := eM.symm; subst eM
            have cq19_ : narrow .char (.int rq18_) = .int rq18_ ∧ rq18_ = zByt i yq8_.toInt.toNat := cq19_
            refine jic_eq (tgt := 57) hx hb dX4_isWord_52 (by decide) (fun cq20_ => ?_) (fun cq20_ => ?_)
            · skip
              have cq20_ : xq15_.toInt = rq18_.toInt := cq20_
              obtain ⟨zq21_, e_zq21_⟩ : ∃ y : Int32, y = yq8_ + 1 := ⟨_, rfl⟩
              refine lv_iinc (v := zq21_) (lv' := [(2, .int zq21_), (0, .ref rd), (1, .ref (zs z i))]) hx hb dX4_isWord_57 hl (k := 0) rfl (by rw [e_zq21_]; rfl) (by decide) rfl (fun ls hl => ?_)
              have h_zq21_ : zq21_.toInt = yq8_.toInt + 1 := by rw [e_zq21_, iAdd (by have : (1 : Int32).toInt = 1 := rfl; omega) (by have : (1 : Int32).toInt = 1 := rfl; omega)]; rfl
              refine lv_goto (tgt := 28) hx hb dX4_isWord_60 (by decide) ?_
              exact ih zq21_ _ _ ls (by have := iRg zq21_; omega) (by have := iRg zq21_; omega) (by have := iRg zq21_; omega) (fun j hj => by rcases (show (j : Int) < yq8_.toInt ∨ j = yq8_.toInt.toNat by omega) with h8 | h8; exact hw0_yq8_ j h8; have h9 := congrArg Int32.toInt cq19_.2; rw [h8, show pl.toInt.toNat + yq8_.toInt.toNat = zq14_.toInt.toNat by omega]; omega) hc_rd hc_by_ hH (lv_sub hl [0, 1, 2] rfl)
            · skip
              have cq20_ : xq15_.toInt ≠ rq18_.toInt := cq20_
              refine lv_iconst (v := 0) hx hb dX4_isWord_55 (by decide) ?_
              exact ret_z hC hr hlk hK hH (by first | exact Or.inl rfl | exact Or.inr rfl | assumption) (⟨Or.inr (⟨wIs_ch (j := yq8_.toInt.toNat) (by omega) (by omega) (by have h9 := congrArg Int32.toInt cq19_.2; rw [show pl.toInt.toNat + yq8_.toInt.toNat = zq14_.toInt.toNat by omega]; omega) (by have h9 := zByt_r hi (show yq8_.toInt.toNat < zLen i by omega); omega), rfl⟩), rfl, rfl⟩) (Nat.le_of_ble_eq_true rfl) (Nat.le_of_ble_eq_true rfl) dX4_isWord_56
      exact loop (Int.toNat (9 - 0)) 0 _ _ ls (by have : (0 : Int32).toInt = 0 := rfl; omega) (by have : (0 : Int32).toInt = 0 := rfl; omega) (by have : (0 : Int32).toInt = 0 := rfl; omega) (fun j hj => by exfalso; have : (0 : Int32).toInt = 0 := rfl; omega) hc_rd hc_by_ hH hl
    · skip
      have cq7_ : zq2_.toInt ≠ rq5_.toInt := cq7_
      refine lv_iconst (v := 0) hx hb dX4_isWord_24 (by decide) ?_
      exact ret_z hC hr hlk hK hH (by first | exact Or.inl rfl | exact Or.inr rfl | assumption) (⟨Or.inr (⟨wIs_no htk (by omega) (by omega), rfl⟩), rfl, rfl⟩) (Nat.le_of_ble_eq_true rfl) (Nat.le_of_ble_eq_true rfl) dX4_isWord_25
set_option maxHeartbeats 4000000 in
set_option maxRecDepth 100000 in
theorem c_X4_readVerb {z : zD} {l : Launch} {D : va_G} {kA : Nat → ClassId} {M : mM} {T : mT} {sz : Nat} {rd nb by_ vi : Nat} {no wi le ki pl be va : Int32} {fb : Nat → Int32} (hc_rd : M rd = some (.inr (3, [.ref nb, .ref (zv z vi), .int no, .int wi, .ref by_, .int le, .int ki, .int pl, .int be, .int va]))) (hn_rd : T rd = none) (hc_by_ : M by_ = some (.inl (kA 1, 600, .inl fb))) (hn_by_ : T by_ = none) (ht_nb : T nb = some 12) (hvi : vi < 19) (hno : 0 ≤ no.toInt ∧ no.toInt ≤ 1) (hwi : 0 ≤ wi.toInt ∧ wi.toInt ≤ 1) (hle : 0 ≤ le.toInt ∧ le.toInt ≤ 600) (hki : 0 ≤ ki.toInt ∧ ki.toInt ≤ 4) (hpl : 0 ≤ pl.toInt) (hpb : pl.toInt ≤ be.toInt) (hbe : be.toInt ≤ le.toInt) (htk : Tk fb le ki pl be) : mCiB z l yX4_readVerb cX4_readVerb 2 (some .boolean) 5 0 0 D kA M T sz [.ref rd] (fun r u => ∃ ki2 : Int32, ((0 : Int) ≤ ki2.toInt ∧ ki2.toInt ≤ 4) ∧ ∃ pl2 : Int32, ((0 : Int) ≤ pl2.toInt ∧ pl2.toInt ≤ 600) ∧ ∃ be2 : Int32, ((0 : Int) ≤ be2.toInt ∧ be2.toInt ≤ 600) ∧ ∃ va2 : Int32, ((-2147483648 : Int) ≤ va2.toInt ∧ va2.toInt ≤ 2147483647) ∧ ∃ vi2 : Nat, (vi2 < 19) ∧ (((pl2.toInt ≤ be2.toInt ∧ be2.toInt ≤ le.toInt ∧ Tk fb le ki2 pl2 be2 ∧ pl2.toInt = (nxF (nC fb) le.toInt.toNat pl.toInt.toNat : Int) ∧ vi2 = vF (nC fb) le.toInt.toNat pl.toInt.toNat) ∧ r = 1 ∧ u.1 rd = some (.inr (3, [.ref nb, .ref (zv z vi2), .int no, .int wi, .ref by_, .int le, .int ki2, .int pl2, .int be2, .int va2]))) ∨ ((pl2.toInt ≤ be2.toInt ∧ be2.toInt ≤ le.toInt ∧ Tk fb le ki2 pl2 be2 ∧ pl2 = pl ∧ vF (nC fb) le.toInt.toNat pl.toInt.toNat = 19) ∧ r = 0 ∧ u.1 rd = some (.inr (3, [.ref nb, .ref (zv z vi2), .int no, .int wi, .ref by_, .int le, .int ki2, .int pl2, .int be2, .int va2])))) ∧ u.2 = T ∧ (∀ q, FrK T q → q ≠ rd → u.1 q = M q)) := by
  unfold mCiB
  refine start_WB (by decide) (Nat.le_of_ble_eq_true rfl) ?_
  intro p e s m below meth c ls hC hr hlk hnm hK hH hsz hZ hl
  have hx := hC.1
  have hb := hC.2.1
  have hl : lv_has ls 2 [(0, .ref rd)] := hl
  have hF : ∀ q, FrK T q → q ≠ rd → M q = M q := fun q _ _ => rfl
  have n_rd_by_ : rd ≠ by_ := neM hc_rd hc_by_ (by simp)
  have n_by__rd : by_ ≠ rd := neM hc_by_ hc_rd (by simp)
  refine lv_iconst (v := 0) hx hb dX4_readVerb_0 (by decide) ?_
  refine lv_istore_n (lv' := [(1, .int 0), (0, .ref rd)]) hx hb dX4_readVerb_1 rfl hl (by decide) rfl (fun ls hl => ?_)
  have loop : ∀ (n : Nat) (yq1_ : Int32) (Hq_ : Heap) (lcq_ : List Loc) (Mq2_ : mM) (ls : Array Slot), 20 - yq1_.toInt ≤ (n : Int) → (0 : Int) ≤ yq1_.toInt → yq1_.toInt ≤ 19 → (vf (nC fb) le.toInt.toNat pl.toInt.toNat (19 - yq1_.toInt.toNat) yq1_.toInt.toNat = vF (nC fb) le.toInt.toNat pl.toInt.toNat) → Mq2_ rd = some (.inr (3, [.ref nb, .ref (zv z vi), .int no, .int wi, .ref by_, .int le, .int ki, .int pl, .int be, .int va])) → Mq2_ by_ = some (.inl (kA 1, 600, .inl fb)) → (∀ q, FrK T q → q ≠ rd → Mq2_ q = M q) → mS D kA Mq2_ T (mA M T sz) s.heap Hq_ lcq_ → lv_has ls 2 [(1, .int yq1_), (0, .ref rd)] → W p l e (rmL 5 0 0) s m ([.ref rd] : List Value).toArray below meth c Hq_ lcq_ 0 0 (MQ below (va_Qi (fun r u => ∃ ki2 : Int32, ((0 : Int) ≤ ki2.toInt ∧ ki2.toInt ≤ 4) ∧ ∃ pl2 : Int32, ((0 : Int) ≤ pl2.toInt ∧ pl2.toInt ≤ 600) ∧ ∃ be2 : Int32, ((0 : Int) ≤ be2.toInt ∧ be2.toInt ≤ 600) ∧ ∃ va2 : Int32, ((-2147483648 : Int) ≤ va2.toInt ∧ va2.toInt ≤ 2147483647) ∧ ∃ vi2 : Nat, (vi2 < 19) ∧ (((pl2.toInt ≤ be2.toInt ∧ be2.toInt ≤ le.toInt ∧ Tk fb le ki2 pl2 be2 ∧ pl2.toInt = (nxF (nC fb) le.toInt.toNat pl.toInt.toNat : Int) ∧ vi2 = vF (nC fb) le.toInt.toNat pl.toInt.toNat) ∧ r = 1 ∧ u.1 rd = some (.inr (3, [.ref nb, .ref (zv z vi2), .int no, .int wi, .ref by_, .int le, .int ki2, .int pl2, .int be2, .int va2]))) ∨ ((pl2.toInt ≤ be2.toInt ∧ be2.toInt ≤ le.toInt ∧ Tk fb le ki2 pl2 be2 ∧ pl2 = pl ∧ vF (nC fb) le.toInt.toNat pl.toInt.toNat = 19) ∧ r = 0 ∧ u.1 rd = some (.inr (3, [.ref nb, .ref (zv z vi2), .int no, .int wi, .ref by_, .int le, .int ki2, .int pl2, .int be2, .int va2])))) ∧ u.2 = T ∧ (∀ q, FrK T q → q ≠ rd → u.1 q = M q)) (mB D kA M T sz) (mA M T sz)) ([.ref rd] : List Value).toArray s 0 0 (mA M T sz)) (F0 m 2 ls []) := by
    intro n
    induction n with
    | zero =>
      intro yq1_ Hq_ lcq_ Mq2_ ls hme l_yq1_ g_yq1_ hw0_yq1_ hc_rd hc_by_ hF hH hl
      exfalso; omega
    | succ n ih =>
      intro yq1_ Hq_ lcq_ Mq2_ ls hme l_yq1_ g_yq1_ hw0_yq1_ hc_rd hc_by_ hF hH hl
      refine lv_iload_n hx hb dX4_readVerb_2 rfl (lv_at hl 0 rfl) ?_
      refine va_gets hx hb hZ.1.2.1.1 hH.2.1 hC.2.2.2.1 (hC.2.2.2.2 _ wsX4_81) (fun _ h => h) dX4_readVerb_3 ?_
      refine va_tlen (v := 19) hx hb hZ.1.2.1.2 hH.2.1 rfl dX4_readVerb_6 ?_
      refine jic_ge (tgt := 46) hx hb dX4_readVerb_7 (by decide) (fun cq3_ => ?_) (fun cq3_ => ?_)
      · skip
        have cq3_ : 19 ≤ yq1_.toInt := cq3_
        refine lv_iconst (v := 0) hx hb dX4_readVerb_46 (by decide) ?_
        exact ret_z hC hr hlk hK hH (by first | exact Or.inl rfl | exact Or.inr rfl | assumption) (⟨ki, ⟨by omega, by omega⟩, pl, ⟨by omega, by omega⟩, be, ⟨by omega, by omega⟩, va, iRg _, vi, by omega, Or.inr (⟨⟨by omega, by omega, htk, rfl, by rw [← hw0_yq1_, show 19 - yq1_.toInt.toNat = 0 by omega]; show yq1_.toInt.toNat = 19; omega⟩, rfl, hc_rd⟩), rfl, hF⟩) (Nat.le_of_ble_eq_true rfl) (Nat.le_of_ble_eq_true rfl) dX4_readVerb_47
      · skip
        have cq3_ : yq1_.toInt < 19 := cq3_
        refine lv_aload_n hx hb dX4_readVerb_10 rfl (lv_at hl 1 rfl) ?_
        refine va_gets hx hb hZ.1.2.1.1 hH.2.1 hC.2.2.2.1 (hC.2.2.2.2 _ wsX4_81) (fun _ h => h) dX4_readVerb_11 ?_
        refine lv_iload_n hx hb dX4_readVerb_14 rfl (lv_at hl 0 rfl) ?_
        obtain ⟨jq4_, e_jq4_, h_jq4_⟩ : ∃ j : Nat, j = Int32.toNatClampNeg yq1_ ∧ j < 19 := ⟨_, rfl, by have := iCl (x := yq1_) (by omega); omega⟩
        refine vb_tq (v := .ref (zv z jq4_)) hx hb hZ.1.2.1.2 hH.2.1 (iIn (by omega) (by omega)) (by rw [e_jq4_]) dX4_readVerb_15 ?_
        refine vk_getf hx hb (hZ.1.2.2.1 jq4_ (by omega)).2.1 hH.2.1 hC.2.2.2.1 (hC.2.2.2.2 _ wfX4_85) (fun _ h => h) dX4_readVerb_16 ?_
        refine goI hK hH (runVB (As := [.ref (zs z jq4_)]) (rest := []) hC hK hH hZ (c_X4_isWord hc_rd hn_rd hc_by_ hn_by_ ht_nb (by omega) (by omega) (by omega) (by omega) (by omega) (by omega) (by omega) (by omega) (by exact htk)) mlX4_68 (rcvM hK hH hc_rd rfl) ⟨⟨Nat.le_of_ble_eq_true rfl, Nat.le_of_ble_eq_true rfl⟩, Nat.le_of_ble_eq_true rfl, Nat.le_of_ble_eq_true rfl⟩ rfl hl.1 rfl (Nat.le_of_ble_eq_true rfl) dX4_readVerb_19) (fun rq7_ Mq5_ Tq6_ Hq_ lcq_ hP hz hH => ?_)
        try dsimp only at hP
        obtain ⟨(⟨cq8_, er_rq7_⟩ | ⟨cq9_, er_rq7_⟩), eT, eM⟩ := hP
        · skip
          have eT := eT.symm; subst eT
          have er_rq7_ := er_rq7_.symm; subst er_rq7_
          have eM := eM.symm; subst eM
          have cq8_ : wIs (nC fb) le.toInt.toNat pl.toInt.toNat jq4_ := cq8_
          refine jif_eq (tgt := 40) hx hb dX4_readVerb_22 (by decide) (fun cq10_ => absurd cq10_ (by decide)) (fun cq10_ => ?_)
          refine lv_aload_n hx hb dX4_readVerb_25 rfl (lv_at hl 1 rfl) ?_
          refine va_gets hx hb hZ.1.2.1.1 hH.2.1 hC.2.2.2.1 (hC.2.2.2.2 _ wsX4_81) (fun _ h => h) dX4_readVerb_26 ?_
          refine lv_iload_n hx hb dX4_readVerb_29 rfl (lv_at hl 0 rfl) ?_
          obtain ⟨jq11_, e_jq11_, h_jq11_⟩ : ∃ j : Nat, j = Int32.toNatClampNeg yq1_ ∧ j < 19 := ⟨_, rfl, by have := iCl (x := yq1_) (by omega); omega⟩
          refine vb_tq (v := .ref (zv z jq11_)) hx hb hZ.1.2.1.2 hH.2.1 (iIn (by omega) (by omega)) (by rw [e_jq11_]) dX4_readVerb_30 ?_
          refine yp (v := .ref (zv z jq11_)) hC hK hH flX4_21 hc_rd (noT hn_rd) rfl rfl (Nat.le_of_ble_eq_true rfl) dX4_readVerb_31 (fun Hq_ lcq_ Mq12_ hc_rd hfr hH => ?_)
          have hc_rd : Mq12_ rd = some (.inr (3, [.ref nb, .ref (zv z jq11_), .int no, .int wi, .ref by_, .int le, .int ki, .int pl, .int be, .int va])) := hc_rd
          have hc_by_ : Mq12_ by_ = some (.inl (kA 1, 600, .inl fb)) := (hfr by_ n_by__rd).trans hc_by_
          have hF : ∀ q, FrK T q → q ≠ rd → Mq12_ q = M q := fun q hq h0 => (hfr q h0).trans (hF q hq h0)
          refine lv_aload_n hx hb dX4_readVerb_34 rfl (lv_at hl 1 rfl) ?_
          refine goV hK hH (runV (As := []) (rest := []) hC hK hH (c_X4_move hc_rd hn_rd hc_by_ hn_by_ ht_nb (by omega) (by omega) (by omega)) mlX4_41 (rcvM hK hH hc_rd rfl) ⟨⟨Nat.le_of_ble_eq_true rfl, Nat.le_of_ble_eq_true rfl⟩, Nat.le_of_ble_eq_true rfl, Nat.le_of_ble_eq_true rfl⟩ rfl hl.1 rfl (Nat.le_of_ble_eq_true rfl) dX4_readVerb_35) (fun Mq13_ Tq14_ Hq_ lcq_ hP hz hH => ?_)
          try dsimp only at hP
          obtain ⟨xq17_, ⟨l_xq17_, g_xq17_⟩, xq18_, ⟨l_xq18_, g_xq18_⟩, xq19_, ⟨l_xq19_, g_xq19_⟩, xq20_, ⟨l_xq20_, g_xq20_⟩, (⟨cq16_, hx_rd⟩), eT, hfr⟩ := hP
          have eT := eT.symm; subst eT
          have hc_rd : Mq13_ rd = some (.inr (3, [.ref nb, .ref (zv z jq11_), .int no, .int wi, .ref by_, .int le, .int xq17_, .int xq18_, .int xq19_, .int xq20_])) := hx_rd
          have hc_by_ : Mq13_ by_ = some (.inl (kA 1, 600, .inl fb)) := (hfr by_ (Or.inl hn_by_) n_by__rd).trans hc_by_
          have hF : ∀ q, FrK T q → q ≠ rd → Mq13_ q = M q := fun q hq h0 => (hfr q hq  h0).trans (hF q hq h0)
          have cq16_ : xq18_.toInt ≤ xq19_.toInt ∧ xq19_.toInt ≤ le.toInt ∧ Tk fb le xq17_ xq18_ xq19_ ∧ xq18_.toInt = (scE pSp (nC fb) le.toInt.toNat be.toInt.toNat : Int) := cq16_
          refine lv_iconst (v := 1) hx hb dX4_readVerb_38 (by decide) ?_
          exact ret_z hC hr hlk hK hH (by first | exact Or.inl rfl | exact Or.inr rfl | assumption) (⟨xq17_, ⟨by omega, by omega⟩, xq18_, ⟨by omega, by omega⟩, xq19_, ⟨by omega, by omega⟩, xq20_, iRg _, jq11_, by omega, Or.inl (⟨⟨by omega, by omega, cq16_.2.2.1, by rw [cq16_.2.2.2, htk.nx], by rw [e_jq11_, ← hw0_yq1_, show 19 - yq1_.toInt.toNat = (18 - yq1_.toInt.toNat) + 1 by omega, vf_hit (by have h9 := cq8_; rw [e_jq4_] at h9; exact h9)]; rfl⟩, rfl, hc_rd⟩), rfl, hF⟩) (Nat.le_of_ble_eq_true rfl) (Nat.le_of_ble_eq_true rfl) dX4_readVerb_39
        · skip
          have eT := eT.symm; subst eT
          have er_rq7_ := er_rq7_.symm; subst er_rq7_
          have eM := eM.symm; subst eM
          have cq9_ : ¬ wIs (nC fb) le.toInt.toNat pl.toInt.toNat jq4_ := cq9_
          refine jif_eq (tgt := 40) hx hb dX4_readVerb_22 (by decide) (fun cq21_ => ?_) (fun cq21_ => absurd cq21_ (by decide))
          obtain ⟨zq22_, e_zq22_⟩ : ∃ y : Int32, y = yq1_ + 1 := ⟨_, rfl⟩
          refine lv_iinc (v := zq22_) (lv' := [(1, .int zq22_), (0, .ref rd)]) hx hb dX4_readVerb_40 hl (k := 0) rfl (by rw [e_zq22_]; rfl) (by decide) rfl (fun ls hl => ?_)
          have h_zq22_ : zq22_.toInt = yq1_.toInt + 1 := by rw [e_zq22_, iAdd (by have : (1 : Int32).toInt = 1 := rfl; omega) (by have : (1 : Int32).toInt = 1 := rfl; omega)]; rfl
          refine lv_goto (tgt := 2) hx hb dX4_readVerb_43 (by decide) ?_
          exact ih zq22_ _ _ _ ls (by have := iRg zq22_; omega) (by have := iRg zq22_; omega) (by have := iRg zq22_; omega) (by have h8 : zq22_.toInt.toNat = yq1_.toInt.toNat + 1 := (by omega); have h7 : 19 - yq1_.toInt.toNat = (19 - zq22_.toInt.toNat) + 1 := (by omega); rw [← hw0_yq1_, h7, vf_miss (by have h9 := cq9_; rw [e_jq4_] at h9; exact h9), h8]) hc_rd hc_by_ hF hH (lv_sub hl [0, 1] rfl)
  exact loop (Int.toNat (20 - 0)) 0 _ _ _ ls (by have : (0 : Int32).toInt = 0 := rfl; omega) (by have : (0 : Int32).toInt = 0 := rfl; omega) (by have : (0 : Int32).toInt = 0 := rfl; omega) (by unfold vF; rw [show (0 : Int32).toInt.toNat = 0 from rfl]) hc_rd hc_by_ hF hH hl
set_option maxHeartbeats 4000000 in
set_option maxRecDepth 100000 in
theorem c_X4_readLine {z : zD} {l : Launch} {D : va_G} {kA : Nat → ClassId} {M : mM} {T : mT} {sz : Nat} {rd nb by_ vi : Nat} {no wi le ki pl be va : Int32} {fb : Nat → Int32} (hc_rd : M rd = some (.inr (3, [.ref nb, .ref (zv z vi), .int no, .int wi, .ref by_, .int le, .int ki, .int pl, .int be, .int va]))) (hn_rd : T rd = none) (hc_by_ : M by_ = some (.inl (kA 1, 600, .inl fb))) (hn_by_ : T by_ = none) (ht_nb : T nb = some 12) (hvi : vi < 19) (hno : 0 ≤ no.toInt ∧ no.toInt ≤ 1) (hwi : 0 ≤ wi.toInt ∧ wi.toInt ≤ 1) (hle : 0 ≤ le.toInt ∧ le.toInt ≤ 600) (hki : 0 ≤ ki.toInt ∧ ki.toInt ≤ 4) (hpl : 0 ≤ pl.toInt) (hpb : pl.toInt ≤ be.toInt) (hbe : be.toInt ≤ le.toInt) (htk : Tk fb le ki pl be) : mCiB z l yX4_readLine cX4_readLine 2 (some .boolean) 6 0 0 D kA M T sz [.ref rd] (fun r u => ∃ ki2 : Int32, ((0 : Int) ≤ ki2.toInt ∧ ki2.toInt ≤ 4) ∧ ∃ pl2 : Int32, ((0 : Int) ≤ pl2.toInt ∧ pl2.toInt ≤ 600) ∧ ∃ be2 : Int32, ((0 : Int) ≤ be2.toInt ∧ be2.toInt ≤ 600) ∧ ∃ va2 : Int32, ((-2147483648 : Int) ≤ va2.toInt ∧ va2.toInt ≤ 2147483647) ∧ ∃ no2 : Int32, ((0 : Int) ≤ no2.toInt ∧ no2.toInt ≤ 1) ∧ ∃ wi2 : Int32, ((0 : Int) ≤ wi2.toInt ∧ wi2.toInt ≤ 1) ∧ ∃ vi2 : Nat, (vi2 < 19) ∧ (((pl2.toInt ≤ be2.toInt ∧ be2.toInt ≤ le.toInt ∧ Tk fb le ki2 pl2 be2 ∧ lnF (nC fb) le.toInt.toNat pl.toInt.toNat = (true, pl2.toInt.toNat)) ∧ r = 1 ∧ u.1 rd = some (.inr (3, [.ref nb, .ref (zv z vi2), .int no2, .int wi2, .ref by_, .int le, .int ki2, .int pl2, .int be2, .int va2]))) ∨ ((pl2.toInt ≤ be2.toInt ∧ be2.toInt ≤ le.toInt ∧ Tk fb le ki2 pl2 be2 ∧ lnF (nC fb) le.toInt.toNat pl.toInt.toNat = (false, pl2.toInt.toNat)) ∧ r = 0 ∧ u.1 rd = some (.inr (3, [.ref nb, .ref (zv z vi2), .int no2, .int wi2, .ref by_, .int le, .int ki2, .int pl2, .int be2, .int va2])))) ∧ u.2 = T ∧ (∀ q, FrK T q → q ≠ rd → u.1 q = M q)) := by
  unfold mCiB
  refine start_WB (by decide) (Nat.le_of_ble_eq_true rfl) ?_
  intro p e s m below meth c ls hC hr hlk hnm hK hH hsz hZ hl
  have hx := hC.1
  have hb := hC.2.1
  have hl : lv_has ls 2 [(0, .ref rd)] := hl
  have hF : ∀ q, FrK T q → q ≠ rd → M q = M q := fun q _ _ => rfl
  have n_rd_by_ : rd ≠ by_ := neM hc_rd hc_by_ (by simp)
  have n_by__rd : by_ ≠ rd := neM hc_by_ hc_rd (by simp)
  refine lv_aload_n hx hb dX4_readLine_0 rfl (lv_at hl 0 rfl) ?_
  refine goI hK hH (runVB (As := []) (rest := []) hC hK hH hZ (c_X4_readVerb hc_rd hn_rd hc_by_ hn_by_ ht_nb (by omega) (by omega) (by omega) (by omega) (by omega) (by omega) (by omega) (by omega) (by exact htk)) mlX4_54 (rcvM hK hH hc_rd rfl) ⟨⟨Nat.le_of_ble_eq_true rfl, Nat.le_of_ble_eq_true rfl⟩, Nat.le_of_ble_eq_true rfl, Nat.le_of_ble_eq_true rfl⟩ rfl hl.1 rfl (Nat.le_of_ble_eq_true rfl) dX4_readLine_1) (fun rq3_ Mq1_ Tq2_ Hq_ lcq_ hP hz hH => ?_)
  try dsimp only at hP
  obtain ⟨xq7_, ⟨l_xq7_, g_xq7_⟩, xq8_, ⟨l_xq8_, g_xq8_⟩, xq9_, ⟨l_xq9_, g_xq9_⟩, xq10_, ⟨l_xq10_, g_xq10_⟩, vq6_, h_vq6_, (⟨cq4_, er_rq3_, hx_rd⟩ | ⟨cq5_, er_rq3_, hx_rd⟩), eT, hfr⟩ := hP
  · skip
    have eT := eT.symm; subst eT
    have er_rq3_ := er_rq3_.symm; subst er_rq3_
    have hc_rd : Mq1_ rd = some (.inr (3, [.ref nb, .ref (zv z vq6_), .int no, .int wi, .ref by_, .int le, .int xq7_, .int xq8_, .int xq9_, .int xq10_])) := hx_rd
    have hc_by_ : Mq1_ by_ = some (.inl (kA 1, 600, .inl fb)) := (hfr by_ (Or.inl hn_by_) n_by__rd).trans hc_by_
    have hF : ∀ q, FrK T q → q ≠ rd → Mq1_ q = M q := fun q hq h0 => (hfr q hq  h0).trans (hF q hq h0)
    have cq4_ : xq8_.toInt ≤ xq9_.toInt ∧ xq9_.toInt ≤ le.toInt ∧ Tk fb le xq7_ xq8_ xq9_ ∧ xq8_.toInt = (nxF (nC fb) le.toInt.toNat pl.toInt.toNat : Int) ∧ vq6_ = vF (nC fb) le.toInt.toNat pl.toInt.toNat := cq4_
    have hL : lnF (nC fb) le.toInt.toNat pl.toInt.toNat = enF (nC fb) le.toInt.toNat vq6_ (nmF (nC fb) le.toInt.toNat (zNum vq6_).toInt.toNat xq8_.toInt.toNat) := by rw [lnY (v := vq6_) cq4_.2.2.2.2.symm (by omega), show nxF (nC fb) le.toInt.toNat pl.toInt.toNat = xq8_.toInt.toNat by have := cq4_.2.2.2.1; omega]
    refine jif_ne (tgt := 9) hx hb dX4_readLine_4 (by decide) (fun cq11_ => ?_) (fun cq11_ => absurd cq11_ (by decide))
    refine lv_iconst (v := 0) hx hb dX4_readLine_9 (by decide) ?_
    refine lv_istore_n (lv' := [(1, .int 0), (0, .ref rd)]) hx hb dX4_readLine_10 rfl hl (by decide) rfl (fun ls hl => ?_)
    have loop : ∀ (n : Nat) (yq12_ : Int32) (yq13_ : Int32) (yq14_ : Int32) (yq15_ : Int32) (yq16_ : Int32) (Hq_ : Heap) (lcq_ : List Loc) (Mq17_ : mM) (ls : Array Slot), 6 - yq12_.toInt ≤ (n : Int) → (0 : Int) ≤ yq12_.toInt → yq12_.toInt ≤ 5 → (0 : Int) ≤ yq13_.toInt → yq13_.toInt ≤ 4 → (0 : Int) ≤ yq14_.toInt → yq14_.toInt ≤ 600 → (0 : Int) ≤ yq15_.toInt → yq15_.toInt ≤ 600 → (yq14_.toInt ≤ yq15_.toInt) → (yq15_.toInt ≤ le.toInt) → (Tk fb le yq13_ yq14_ yq15_) → (nmF (nC fb) le.toInt.toNat (zNum vq6_).toInt.toNat xq8_.toInt.toNat = nmF (nC fb) le.toInt.toNat ((zNum vq6_).toInt.toNat - yq12_.toInt.toNat) yq14_.toInt.toNat) → Mq17_ rd = some (.inr (3, [.ref nb, .ref (zv z vq6_), .int no, .int wi, .ref by_, .int le, .int yq13_, .int yq14_, .int yq15_, .int yq16_])) → Mq17_ by_ = some (.inl (kA 1, 600, .inl fb)) → (∀ q, FrK T q → q ≠ rd → Mq17_ q = M q) → mS D kA Mq17_ T (mA M T sz) s.heap Hq_ lcq_ → lv_has ls 2 [(1, .int yq12_), (0, .ref rd)] → W p l e (rmL 6 0 0) s m ([.ref rd] : List Value).toArray below meth c Hq_ lcq_ 0 0 (MQ below (va_Qi (fun r u => ∃ ki2 : Int32, ((0 : Int) ≤ ki2.toInt ∧ ki2.toInt ≤ 4) ∧ ∃ pl2 : Int32, ((0 : Int) ≤ pl2.toInt ∧ pl2.toInt ≤ 600) ∧ ∃ be2 : Int32, ((0 : Int) ≤ be2.toInt ∧ be2.toInt ≤ 600) ∧ ∃ va2 : Int32, ((-2147483648 : Int) ≤ va2.toInt ∧ va2.toInt ≤ 2147483647) ∧ ∃ no2 : Int32, ((0 : Int) ≤ no2.toInt ∧ no2.toInt ≤ 1) ∧ ∃ wi2 : Int32, ((0 : Int) ≤ wi2.toInt ∧ wi2.toInt ≤ 1) ∧ ∃ vi2 : Nat, (vi2 < 19) ∧ (((pl2.toInt ≤ be2.toInt ∧ be2.toInt ≤ le.toInt ∧ Tk fb le ki2 pl2 be2 ∧ lnF (nC fb) le.toInt.toNat pl.toInt.toNat = (true, pl2.toInt.toNat)) ∧ r = 1 ∧ u.1 rd = some (.inr (3, [.ref nb, .ref (zv z vi2), .int no2, .int wi2, .ref by_, .int le, .int ki2, .int pl2, .int be2, .int va2]))) ∨ ((pl2.toInt ≤ be2.toInt ∧ be2.toInt ≤ le.toInt ∧ Tk fb le ki2 pl2 be2 ∧ lnF (nC fb) le.toInt.toNat pl.toInt.toNat = (false, pl2.toInt.toNat)) ∧ r = 0 ∧ u.1 rd = some (.inr (3, [.ref nb, .ref (zv z vi2), .int no2, .int wi2, .ref by_, .int le, .int ki2, .int pl2, .int be2, .int va2])))) ∧ u.2 = T ∧ (∀ q, FrK T q → q ≠ rd → u.1 q = M q)) (mB D kA M T sz) (mA M T sz)) ([.ref rd] : List Value).toArray s 0 0 (mA M T sz)) (F0 m 11 ls []) := by
      intro n
      induction n with
      | zero =>
        intro yq12_ yq13_ yq14_ yq15_ yq16_ Hq_ lcq_ Mq17_ ls hme l_yq12_ g_yq12_ l_yq13_ g_yq13_ l_yq14_ g_yq14_ l_yq15_ g_yq15_ hv0_yq12_ hv1_yq12_ hw0_yq12_ hw1_yq12_ hc_rd hc_by_ hF hH hl
        exfalso; omega
      | succ n ih =>
        intro yq12_ yq13_ yq14_ yq15_ yq16_ Hq_ lcq_ Mq17_ ls hme l_yq12_ g_yq12_ l_yq13_ g_yq13_ l_yq14_ g_yq14_ l_yq15_ g_yq15_ hv0_yq12_ hv1_yq12_ hw0_yq12_ hw1_yq12_ hc_rd hc_by_ hF hH hl
        refine lv_iload_n hx hb dX4_readLine_11 rfl (lv_at hl 0 rfl) ?_
        refine lv_aload_n hx hb dX4_readLine_12 rfl (lv_at hl 1 rfl) ?_
        refine xg hC hK hH flX4_21 hc_rd rfl dX4_readLine_13 ?_
        refine vk_getf hx hb (hZ.1.2.2.1 vq6_ (by omega)).2.2.1 hH.2.1 hC.2.2.2.1 (hC.2.2.2.2 _ wfX4_57) (fun _ h => h) dX4_readLine_16 ?_
        refine lv_topi (fun xq18_ e_xq18_ => ?_)
        have b_xq18_ : xq18_.toInt = (zNum vq6_).toInt := congrArg Int32.toInt e_xq18_
        have l_xq18_ : 1 ≤ xq18_.toInt := by rw [e_xq18_]; exact (zNum_r (by omega)).1
        have g_xq18_ : xq18_.toInt ≤ 5 := by rw [e_xq18_]; exact (zNum_r (by omega)).2
        refine jic_ge (tgt := 57) hx hb dX4_readLine_19 (by decide) (fun cq19_ => ?_) (fun cq19_ => ?_)
        · skip
          have cq19_ : xq18_.toInt ≤ yq12_.toInt := cq19_
          have hE : nmF (nC fb) le.toInt.toNat (zNum vq6_).toInt.toNat xq8_.toInt.toNat = (true, yq14_.toInt.toNat) := by rw [hw1_yq12_, show (zNum vq6_).toInt.toNat - yq12_.toInt.toNat = 0 by omega]; rfl
          refine lv_aload_n hx hb dX4_readLine_57 rfl (lv_at hl 1 rfl) ?_
          refine lv_aload_n hx hb dX4_readLine_58 rfl (lv_at hl 1 rfl) ?_
          refine xg hC hK hH flX4_21 hc_rd rfl dX4_readLine_59 ?_
          refine vk_getf hx hb (hZ.1.2.2.1 vq6_ (by omega)).2.2.2.1 hH.2.1 hC.2.2.2.1 (hC.2.2.2.2 _ wfX4_62) (fun _ h => h) dX4_readLine_62 ?_
          refine lv_topi (fun xq20_ e_xq20_ => ?_)
          have b_xq20_ : xq20_.toInt = (zNot vq6_).toInt := congrArg Int32.toInt e_xq20_
          refine jif_eq (tgt := 81) hx hb dX4_readLine_65 (by decide) (fun cq21_ => ?_) (fun cq21_ => ?_)
          · skip
            have cq21_ : xq20_.toInt = 0 := cq21_
            refine lv_iconst (v := 0) hx hb dX4_readLine_81 (by decide) ?_
            refine yp (v := .int 0) hC hK hH flX4_72 hc_rd (noT hn_rd) rfl rfl (Nat.le_of_ble_eq_true rfl) dX4_readLine_82 (fun Hq_ lcq_ Mq22_ hc_rd hfr hH => ?_)
            have hc_rd : Mq22_ rd = some (.inr (3, [.ref nb, .ref (zv z vq6_), .int 0, .int wi, .ref by_, .int le, .int yq13_, .int yq14_, .int yq15_, .int yq16_])) := hc_rd
            have hc_by_ : Mq22_ by_ = some (.inl (kA 1, 600, .inl fb)) := (hfr by_ n_by__rd).trans hc_by_
            have hF : ∀ q, FrK T q → q ≠ rd → Mq22_ q = M q := fun q hq h0 => (hfr q h0).trans (hF q hq h0)
            refine lv_aload_n hx hb dX4_readLine_85 rfl (lv_at hl 1 rfl) ?_
            refine xg hC hK hH flX4_72 hc_rd rfl dX4_readLine_86 ?_
            refine jif_eq (tgt := 96) hx hb dX4_readLine_89 (by decide) (fun cq23_ => ?_) (fun cq23_ => absurd cq23_ (by decide))
            have hOa : opF (nC fb) le.toInt.toNat (zNot vq6_ = 1) 19 yq14_.toInt.toNat = yq14_.toInt.toNat := opF_n (fun h9 => by have h8 := congrArg Int32.toInt h9.1; have : (1 : Int32).toInt = 1 := rfl; omega)
            refine lv_aload_n hx hb dX4_readLine_96 rfl (lv_at hl 1 rfl) ?_
            refine lv_aload_n hx hb dX4_readLine_97 rfl (lv_at hl 1 rfl) ?_
            refine xg hC hK hH flX4_21 hc_rd rfl dX4_readLine_98 ?_
            refine vk_getf hx hb (hZ.1.2.2.1 vq6_ (by omega)).2.2.2.2.1 hH.2.1 hC.2.2.2.1 (hC.2.2.2.2 _ wfX4_74) (fun _ h => h) dX4_readLine_101 ?_
            refine lv_topi (fun xq24_ e_xq24_ => ?_)
            have b_xq24_ : xq24_.toInt = (zWit vq6_).toInt := congrArg Int32.toInt e_xq24_
            refine jif_eq (tgt := 120) hx hb dX4_readLine_104 (by decide) (fun cq25_ => ?_) (fun cq25_ => ?_)
            · skip
              have cq25_ : xq24_.toInt = 0 := cq25_
              refine lv_iconst (v := 0) hx hb dX4_readLine_120 (by decide) ?_
              refine yp (v := .int 0) hC hK hH flX4_79 hc_rd (noT hn_rd) rfl rfl (Nat.le_of_ble_eq_true rfl) dX4_readLine_121 (fun Hq_ lcq_ Mq26_ hc_rd hfr hH => ?_)
              have hc_rd : Mq26_ rd = some (.inr (3, [.ref nb, .ref (zv z vq6_), .int 0, .int 0, .ref by_, .int le, .int yq13_, .int yq14_, .int yq15_, .int yq16_])) := hc_rd
              have hc_by_ : Mq26_ by_ = some (.inl (kA 1, 600, .inl fb)) := (hfr by_ n_by__rd).trans hc_by_
              have hF : ∀ q, FrK T q → q ≠ rd → Mq26_ q = M q := fun q hq h0 => (hfr q h0).trans (hF q hq h0)
              refine lv_aload_n hx hb dX4_readLine_124 rfl (lv_at hl 1 rfl) ?_
              refine xg hC hK hH flX4_79 hc_rd rfl dX4_readLine_125 ?_
              refine jif_eq (tgt := 135) hx hb dX4_readLine_128 (by decide) (fun cq27_ => ?_) (fun cq27_ => absurd cq27_ (by decide))
              have hOb : opF (nC fb) le.toInt.toNat (zWit vq6_ = 1) 20 yq14_.toInt.toNat = yq14_.toInt.toNat := opF_n (fun h9 => by have h8 := congrArg Int32.toInt h9.1; have : (1 : Int32).toInt = 1 := rfl; omega)
              refine lv_aload_n hx hb dX4_readLine_135 rfl (lv_at hl 1 rfl) ?_
              refine xg hC hK hH flX4_44 hc_rd rfl dX4_readLine_136 ?_
              refine lv_iconst (v := 3) hx hb dX4_readLine_139 (by decide) ?_
              refine jic_eq (tgt := 145) hx hb dX4_readLine_140 (by decide) (fun cq28_ => ?_) (fun cq28_ => ?_)
              · skip
                have cq28_ : yq13_.toInt = 3 := cq28_
                refine lv_aload_n hx hb dX4_readLine_145 rfl (lv_at hl 1 rfl) ?_
                refine goV hK hH (runV (As := []) (rest := []) hC hK hH (c_X4_move hc_rd hn_rd hc_by_ hn_by_ ht_nb (by omega) (by omega) (by omega)) mlX4_41 (rcvM hK hH hc_rd rfl) ⟨⟨Nat.le_of_ble_eq_true rfl, Nat.le_of_ble_eq_true rfl⟩, Nat.le_of_ble_eq_true rfl, Nat.le_of_ble_eq_true rfl⟩ rfl hl.1 rfl (Nat.le_of_ble_eq_true rfl) dX4_readLine_146) (fun Mq29_ Tq30_ Hq_ lcq_ hP hz hH => ?_)
                try dsimp only at hP
                obtain ⟨xq33_, ⟨l_xq33_, g_xq33_⟩, xq34_, ⟨l_xq34_, g_xq34_⟩, xq35_, ⟨l_xq35_, g_xq35_⟩, xq36_, ⟨l_xq36_, g_xq36_⟩, (⟨cq32_, hx_rd⟩), eT, hfr⟩ := hP
                have eT := eT.symm; subst eT
                have hc_rd : Mq29_ rd = some (.inr (3, [.ref nb, .ref (zv z vq6_), .int 0, .int 0, .ref by_, .int le, .int xq33_, .int xq34_, .int xq35_, .int xq36_])) := hx_rd
                have hc_by_ : Mq29_ by_ = some (.inl (kA 1, 600, .inl fb)) := (hfr by_ (Or.inl hn_by_) n_by__rd).trans hc_by_
                have hF : ∀ q, FrK T q → q ≠ rd → Mq29_ q = M q := fun q hq h0 => (hfr q hq  h0).trans (hF q hq h0)
                have cq32_ : xq34_.toInt ≤ xq35_.toInt ∧ xq35_.toInt ≤ le.toInt ∧ Tk fb le xq33_ xq34_ xq35_ ∧ xq34_.toInt = (scE pSp (nC fb) le.toInt.toNat yq15_.toInt.toNat : Int) := cq32_
                have hnq37_ : nxF (nC fb) le.toInt.toNat yq14_.toInt.toNat = xq34_.toInt.toNat := by have h8 := cq32_.2.2.2; rw [(hw0_yq12_).nx] at h8; omega
                refine lv_iconst (v := 1) hx hb dX4_readLine_149 (by decide) ?_
                exact ret_z hC hr hlk hK hH (by first | exact Or.inl rfl | exact Or.inr rfl | assumption) (⟨xq33_, ⟨by omega, by omega⟩, xq34_, ⟨by omega, by omega⟩, xq35_, ⟨by omega, by omega⟩, xq36_, iRg _, 0, ⟨by decide, by decide⟩, 0, ⟨by decide, by decide⟩, vq6_, by omega, Or.inl (⟨⟨by omega, by omega, cq32_.2.2.1, by rw [hL, hE, enT hOa hOb, if_pos (by have := (hw0_yq12_).ki; omega), hnq37_]⟩, rfl, hc_rd⟩), rfl, hF⟩) (Nat.le_of_ble_eq_true rfl) (Nat.le_of_ble_eq_true rfl) dX4_readLine_150
              · skip
                have cq28_ : yq13_.toInt ≠ 3 := cq28_
                refine lv_iconst (v := 0) hx hb dX4_readLine_143 (by decide) ?_
                exact ret_z hC hr hlk hK hH (by first | exact Or.inl rfl | exact Or.inr rfl | assumption) (⟨yq13_, ⟨by omega, by omega⟩, yq14_, ⟨by omega, by omega⟩, yq15_, ⟨by omega, by omega⟩, yq16_, iRg _, 0, ⟨by decide, by decide⟩, 0, ⟨by decide, by decide⟩, vq6_, by omega, Or.inr (⟨⟨by omega, by omega, hw0_yq12_, by rw [hL, hE, enT hOa hOb, if_neg (by have := (hw0_yq12_).ki; omega)]⟩, rfl, hc_rd⟩), rfl, hF⟩) (Nat.le_of_ble_eq_true rfl) (Nat.le_of_ble_eq_true rfl) dX4_readLine_144
            · skip
              have cq25_ : xq24_.toInt ≠ 0 := cq25_
              refine lv_aload_n hx hb dX4_readLine_107 rfl (lv_at hl 1 rfl) ?_
              refine va_ldcS hx hb hC.2.2.2.1 hZ.2.2 dX4_readLine_108 ?_
              refine goI hK hH (runVB (As := [.ref (zs z 20)]) (rest := [.ref rd]) hC hK hH hZ (c_X4_isWord hc_rd hn_rd hc_by_ hn_by_ ht_nb (by decide) (by omega) (by omega) (by omega) (by omega) (by omega) (by omega) (by decide) (by exact hw0_yq12_)) mlX4_68 (rcvM hK hH hc_rd rfl) ⟨⟨Nat.le_of_ble_eq_true rfl, Nat.le_of_ble_eq_true rfl⟩, Nat.le_of_ble_eq_true rfl, Nat.le_of_ble_eq_true rfl⟩ rfl hl.1 rfl (Nat.le_of_ble_eq_true rfl) dX4_readLine_110) (fun rq40_ Mq38_ Tq39_ Hq_ lcq_ hP hz hH => ?_)
              try dsimp only at hP
              obtain ⟨(⟨cq41_, er_rq40_⟩ | ⟨cq42_, er_rq40_⟩), eT, eM⟩ := hP
              · skip
                have eT := eT.symm; subst eT
                have er_rq40_ := er_rq40_.symm; subst er_rq40_
                have eM := eM.symm; subst eM
                have cq41_ : wIs (nC fb) le.toInt.toNat yq14_.toInt.toNat 20 := cq41_
                refine jif_eq (tgt := 120) hx hb dX4_readLine_113 (by decide) (fun cq43_ => absurd cq43_ (by decide)) (fun cq43_ => ?_)
                refine lv_iconst (v := 1) hx hb dX4_readLine_116 (by decide) ?_
                refine lv_goto (tgt := 121) hx hb dX4_readLine_117 (by decide) ?_
                refine yp (v := .int 1) hC hK hH flX4_79 hc_rd (noT hn_rd) rfl rfl (Nat.le_of_ble_eq_true rfl) dX4_readLine_121 (fun Hq_ lcq_ Mq44_ hc_rd hfr hH => ?_)
                have hc_rd : Mq44_ rd = some (.inr (3, [.ref nb, .ref (zv z vq6_), .int 0, .int 1, .ref by_, .int le, .int yq13_, .int yq14_, .int yq15_, .int yq16_])) := hc_rd
                have hc_by_ : Mq44_ by_ = some (.inl (kA 1, 600, .inl fb)) := (hfr by_ n_by__rd).trans hc_by_
                have hF : ∀ q, FrK T q → q ≠ rd → Mq44_ q = M q := fun q hq h0 => (hfr q h0).trans (hF q hq h0)
                refine lv_aload_n hx hb dX4_readLine_124 rfl (lv_at hl 1 rfl) ?_
                refine xg hC hK hH flX4_79 hc_rd rfl dX4_readLine_125 ?_
                refine jif_eq (tgt := 135) hx hb dX4_readLine_128 (by decide) (fun cq45_ => absurd cq45_ (by decide)) (fun cq45_ => ?_)
                refine lv_aload_n hx hb dX4_readLine_131 rfl (lv_at hl 1 rfl) ?_
                refine goV hK hH (runV (As := []) (rest := []) hC hK hH (c_X4_move hc_rd hn_rd hc_by_ hn_by_ ht_nb (by omega) (by omega) (by omega)) mlX4_41 (rcvM hK hH hc_rd rfl) ⟨⟨Nat.le_of_ble_eq_true rfl, Nat.le_of_ble_eq_true rfl⟩, Nat.le_of_ble_eq_true rfl, Nat.le_of_ble_eq_true rfl⟩ rfl hl.1 rfl (Nat.le_of_ble_eq_true rfl) dX4_readLine_132) (fun Mq46_ Tq47_ Hq_ lcq_ hP hz hH => ?_)
                try dsimp only at hP
                obtain ⟨xq50_, ⟨l_xq50_, g_xq50_⟩, xq51_, ⟨l_xq51_, g_xq51_⟩, xq52_, ⟨l_xq52_, g_xq52_⟩, xq53_, ⟨l_xq53_, g_xq53_⟩, (⟨cq49_, hx_rd⟩), eT, hfr⟩ := hP
                have eT := eT.symm; subst eT
                have hc_rd : Mq46_ rd = some (.inr (3, [.ref nb, .ref (zv z vq6_), .int 0, .int 1, .ref by_, .int le, .int xq50_, .int xq51_, .int xq52_, .int xq53_])) := hx_rd
                have hc_by_ : Mq46_ by_ = some (.inl (kA 1, 600, .inl fb)) := (hfr by_ (Or.inl hn_by_) n_by__rd).trans hc_by_
                have hF : ∀ q, FrK T q → q ≠ rd → Mq46_ q = M q := fun q hq h0 => (hfr q hq  h0).trans (hF q hq h0)
                have cq49_ : xq51_.toInt ≤ xq52_.toInt ∧ xq52_.toInt ≤ le.toInt ∧ Tk fb le xq50_ xq51_ xq52_ ∧ xq51_.toInt = (scE pSp (nC fb) le.toInt.toNat yq15_.toInt.toNat : Int) := cq49_
                have hnq54_ : nxF (nC fb) le.toInt.toNat yq14_.toInt.toNat = xq51_.toInt.toNat := by have h8 := cq49_.2.2.2; rw [(hw0_yq12_).nx] at h8; omega
                have hOb : opF (nC fb) le.toInt.toNat (zWit vq6_ = 1) 20 yq14_.toInt.toNat = xq51_.toInt.toNat := (opF_y ⟨zWit1 (by omega) (by omega), cq41_⟩).trans hnq54_
                refine lv_aload_n hx hb dX4_readLine_135 rfl (lv_at hl 1 rfl) ?_
                refine xg hC hK hH flX4_44 hc_rd rfl dX4_readLine_136 ?_
                refine lv_iconst (v := 3) hx hb dX4_readLine_139 (by decide) ?_
                refine jic_eq (tgt := 145) hx hb dX4_readLine_140 (by decide) (fun cq55_ => ?_) (fun cq55_ => ?_)
                · skip
                  have cq55_ : xq50_.toInt = 3 := cq55_
                  refine lv_aload_n hx hb dX4_readLine_145 rfl (lv_at hl 1 rfl) ?_
                  refine goV hK hH (runV (As := []) (rest := []) hC hK hH (c_X4_move hc_rd hn_rd hc_by_ hn_by_ ht_nb (by omega) (by omega) (by omega)) mlX4_41 (rcvM hK hH hc_rd rfl) ⟨⟨Nat.le_of_ble_eq_true rfl, Nat.le_of_ble_eq_true rfl⟩, Nat.le_of_ble_eq_true rfl, Nat.le_of_ble_eq_true rfl⟩ rfl hl.1 rfl (Nat.le_of_ble_eq_true rfl) dX4_readLine_146) (fun Mq56_ Tq57_ Hq_ lcq_ hP hz hH => ?_)
                  try dsimp only at hP
                  obtain ⟨xq60_, ⟨l_xq60_, g_xq60_⟩, xq61_, ⟨l_xq61_, g_xq61_⟩, xq62_, ⟨l_xq62_, g_xq62_⟩, xq63_, ⟨l_xq63_, g_xq63_⟩, (⟨cq59_, hx_rd⟩), eT, hfr⟩ := hP
                  have eT := eT.symm; subst eT
                  have hc_rd : Mq56_ rd = some (.inr (3, [.ref nb, .ref (zv z vq6_), .int 0, .int 1, .ref by_, .int le, .int xq60_, .int xq61_, .int xq62_, .int xq63_])) := hx_rd
                  have hc_by_ : Mq56_ by_ = some (.inl (kA 1, 600, .inl fb)) := (hfr by_ (Or.inl hn_by_) n_by__rd).trans hc_by_
                  have hF : ∀ q, FrK T q → q ≠ rd → Mq56_ q = M q := fun q hq h0 => (hfr q hq  h0).trans (hF q hq h0)
                  have cq59_ : xq61_.toInt ≤ xq62_.toInt ∧ xq62_.toInt ≤ le.toInt ∧ Tk fb le xq60_ xq61_ xq62_ ∧ xq61_.toInt = (scE pSp (nC fb) le.toInt.toNat xq52_.toInt.toNat : Int) := cq59_
                  have hnq64_ : nxF (nC fb) le.toInt.toNat xq51_.toInt.toNat = xq61_.toInt.toNat := by have h8 := cq59_.2.2.2; rw [(cq49_.2.2.1).nx] at h8; omega
                  refine lv_iconst (v := 1) hx hb dX4_readLine_149 (by decide) ?_
                  exact ret_z hC hr hlk hK hH (by first | exact Or.inl rfl | exact Or.inr rfl | assumption) (⟨xq60_, ⟨by omega, by omega⟩, xq61_, ⟨by omega, by omega⟩, xq62_, ⟨by omega, by omega⟩, xq63_, iRg _, 0, ⟨by decide, by decide⟩, 1, ⟨by decide, by decide⟩, vq6_, by omega, Or.inl (⟨⟨by omega, by omega, cq59_.2.2.1, by rw [hL, hE, enT hOa hOb, if_pos (by have := (cq49_.2.2.1).ki; omega), hnq64_]⟩, rfl, hc_rd⟩), rfl, hF⟩) (Nat.le_of_ble_eq_true rfl) (Nat.le_of_ble_eq_true rfl) dX4_readLine_150
                · skip
                  have cq55_ : xq50_.toInt ≠ 3 := cq55_
                  refine lv_iconst (v := 0) hx hb dX4_readLine_143 (by decide) ?_
                  exact ret_z hC hr hlk hK hH (by first | exact Or.inl rfl | exact Or.inr rfl | assumption) (⟨xq50_, ⟨by omega, by omega⟩, xq51_, ⟨by omega, by omega⟩, xq52_, ⟨by omega, by omega⟩, xq53_, iRg _, 0, ⟨by decide, by decide⟩, 1, ⟨by decide, by decide⟩, vq6_, by omega, Or.inr (⟨⟨by omega, by omega, cq49_.2.2.1, by rw [hL, hE, enT hOa hOb, if_neg (by have := (cq49_.2.2.1).ki; omega)]⟩, rfl, hc_rd⟩), rfl, hF⟩) (Nat.le_of_ble_eq_true rfl) (Nat.le_of_ble_eq_true rfl) dX4_readLine_144
              · skip
                have eT := eT.symm; subst eT
                have er_rq40_ := er_rq40_.symm; subst er_rq40_
                have eM := eM.symm; subst eM
                have cq42_ : ¬ wIs (nC fb) le.toInt.toNat yq14_.toInt.toNat 20 := cq42_
                refine jif_eq (tgt := 120) hx hb dX4_readLine_113 (by decide) (fun cq65_ => ?_) (fun cq65_ => absurd cq65_ (by decide))
                refine lv_iconst (v := 0) hx hb dX4_readLine_120 (by decide) ?_
                refine yp (v := .int 0) hC hK hH flX4_79 hc_rd (noT hn_rd) rfl rfl (Nat.le_of_ble_eq_true rfl) dX4_readLine_121 (fun Hq_ lcq_ Mq66_ hc_rd hfr hH => ?_)
                have hc_rd : Mq66_ rd = some (.inr (3, [.ref nb, .ref (zv z vq6_), .int 0, .int 0, .ref by_, .int le, .int yq13_, .int yq14_, .int yq15_, .int yq16_])) := hc_rd
                have hc_by_ : Mq66_ by_ = some (.inl (kA 1, 600, .inl fb)) := (hfr by_ n_by__rd).trans hc_by_
                have hF : ∀ q, FrK T q → q ≠ rd → Mq66_ q = M q := fun q hq h0 => (hfr q h0).trans (hF q hq h0)
                refine lv_aload_n hx hb dX4_readLine_124 rfl (lv_at hl 1 rfl) ?_
                refine xg hC hK hH flX4_79 hc_rd rfl dX4_readLine_125 ?_
                refine jif_eq (tgt := 135) hx hb dX4_readLine_128 (by decide) (fun cq67_ => ?_) (fun cq67_ => absurd cq67_ (by decide))
                have hOb : opF (nC fb) le.toInt.toNat (zWit vq6_ = 1) 20 yq14_.toInt.toNat = yq14_.toInt.toNat := opF_n (fun h9 => cq42_ h9.2)
                refine lv_aload_n hx hb dX4_readLine_135 rfl (lv_at hl 1 rfl) ?_
                refine xg hC hK hH flX4_44 hc_rd rfl dX4_readLine_136 ?_
                refine lv_iconst (v := 3) hx hb dX4_readLine_139 (by decide) ?_
                refine jic_eq (tgt := 145) hx hb dX4_readLine_140 (by decide) (fun cq68_ => ?_) (fun cq68_ => ?_)
                · skip
                  have cq68_ : yq13_.toInt = 3 := cq68_
                  refine lv_aload_n hx hb dX4_readLine_145 rfl (lv_at hl 1 rfl) ?_
                  refine goV hK hH (runV (As := []) (rest := []) hC hK hH (c_X4_move hc_rd hn_rd hc_by_ hn_by_ ht_nb (by omega) (by omega) (by omega)) mlX4_41 (rcvM hK hH hc_rd rfl) ⟨⟨Nat.le_of_ble_eq_true rfl, Nat.le_of_ble_eq_true rfl⟩, Nat.le_of_ble_eq_true rfl, Nat.le_of_ble_eq_true rfl⟩ rfl hl.1 rfl (Nat.le_of_ble_eq_true rfl) dX4_readLine_146) (fun Mq69_ Tq70_ Hq_ lcq_ hP hz hH => ?_)
                  try dsimp only at hP
                  obtain ⟨xq73_, ⟨l_xq73_, g_xq73_⟩, xq74_, ⟨l_xq74_, g_xq74_⟩, xq75_, ⟨l_xq75_, g_xq75_⟩, xq76_, ⟨l_xq76_, g_xq76_⟩, (⟨cq72_, hx_rd⟩), eT, hfr⟩ := hP
                  have eT := eT.symm; subst eT
                  have hc_rd : Mq69_ rd = some (.inr (3, [.ref nb, .ref (zv z vq6_), .int 0, .int 0, .ref by_, .int le, .int xq73_, .int xq74_, .int xq75_, .int xq76_])) := hx_rd
                  have hc_by_ : Mq69_ by_ = some (.inl (kA 1, 600, .inl fb)) := (hfr by_ (Or.inl hn_by_) n_by__rd).trans hc_by_
                  have hF : ∀ q, FrK T q → q ≠ rd → Mq69_ q = M q := fun q hq h0 => (hfr q hq  h0).trans (hF q hq h0)
                  have cq72_ : xq74_.toInt ≤ xq75_.toInt ∧ xq75_.toInt ≤ le.toInt ∧ Tk fb le xq73_ xq74_ xq75_ ∧ xq74_.toInt = (scE pSp (nC fb) le.toInt.toNat yq15_.toInt.toNat : Int) := cq72_
                  have hnq77_ : nxF (nC fb) le.toInt.toNat yq14_.toInt.toNat = xq74_.toInt.toNat := by have h8 := cq72_.2.2.2; rw [(hw0_yq12_).nx] at h8; omega
                  refine lv_iconst (v := 1) hx hb dX4_readLine_149 (by decide) ?_
                  exact ret_z hC hr hlk hK hH (by first | exact Or.inl rfl | exact Or.inr rfl | assumption) (⟨xq73_, ⟨by omega, by omega⟩, xq74_, ⟨by omega, by omega⟩, xq75_, ⟨by omega, by omega⟩, xq76_, iRg _, 0, ⟨by decide, by decide⟩, 0, ⟨by decide, by decide⟩, vq6_, by omega, Or.inl (⟨⟨by omega, by omega, cq72_.2.2.1, by rw [hL, hE, enT hOa hOb, if_pos (by have := (hw0_yq12_).ki; omega), hnq77_]⟩, rfl, hc_rd⟩), rfl, hF⟩) (Nat.le_of_ble_eq_true rfl) (Nat.le_of_ble_eq_true rfl) dX4_readLine_150
                · skip
                  have cq68_ : yq13_.toInt ≠ 3 := cq68_
                  refine lv_iconst (v := 0) hx hb dX4_readLine_143 (by decide) ?_
                  exact ret_z hC hr hlk hK hH (by first | exact Or.inl rfl | exact Or.inr rfl | assumption) (⟨yq13_, ⟨by omega, by omega⟩, yq14_, ⟨by omega, by omega⟩, yq15_, ⟨by omega, by omega⟩, yq16_, iRg _, 0, ⟨by decide, by decide⟩, 0, ⟨by decide, by decide⟩, vq6_, by omega, Or.inr (⟨⟨by omega, by omega, hw0_yq12_, by rw [hL, hE, enT hOa hOb, if_neg (by have := (hw0_yq12_).ki; omega)]⟩, rfl, hc_rd⟩), rfl, hF⟩) (Nat.le_of_ble_eq_true rfl) (Nat.le_of_ble_eq_true rfl) dX4_readLine_144
          · skip
            have cq21_ : xq20_.toInt ≠ 0 := cq21_
            refine lv_aload_n hx hb dX4_readLine_68 rfl (lv_at hl 1 rfl) ?_
            refine va_ldcS hx hb hC.2.2.2.1 hZ.2.1 dX4_readLine_69 ?_
            refine goI hK hH (runVB (As := [.ref (zs z 19)]) (rest := [.ref rd]) hC hK hH hZ (c_X4_isWord hc_rd hn_rd hc_by_ hn_by_ ht_nb (by omega) (by omega) (by omega) (by omega) (by omega) (by omega) (by omega) (by decide) (by exact hw0_yq12_)) mlX4_68 (rcvM hK hH hc_rd rfl) ⟨⟨Nat.le_of_ble_eq_true rfl, Nat.le_of_ble_eq_true rfl⟩, Nat.le_of_ble_eq_true rfl, Nat.le_of_ble_eq_true rfl⟩ rfl hl.1 rfl (Nat.le_of_ble_eq_true rfl) dX4_readLine_71) (fun rq80_ Mq78_ Tq79_ Hq_ lcq_ hP hz hH => ?_)
            try dsimp only at hP
            obtain ⟨(⟨cq81_, er_rq80_⟩ | ⟨cq82_, er_rq80_⟩), eT, eM⟩ := hP
            · skip
              have eT := eT.symm; subst eT
              have er_rq80_ := er_rq80_.symm; subst er_rq80_
              have eM := eM.symm; subst eM
              have cq81_ : wIs (nC fb) le.toInt.toNat yq14_.toInt.toNat 19 := cq81_
              refine jif_eq (tgt := 81) hx hb dX4_readLine_74 (by decide) (fun cq83_ => absurd cq83_ (by decide)) (fun cq83_ => ?_)
              refine lv_iconst (v := 1) hx hb dX4_readLine_77 (by decide) ?_
              refine lv_goto (tgt := 82) hx hb dX4_readLine_78 (by decide) ?_
              refine yp (v := .int 1) hC hK hH flX4_72 hc_rd (noT hn_rd) rfl rfl (Nat.le_of_ble_eq_true rfl) dX4_readLine_82 (fun Hq_ lcq_ Mq84_ hc_rd hfr hH => ?_)
              have hc_rd : Mq84_ rd = some (.inr (3, [.ref nb, .ref (zv z vq6_), .int 1, .int wi, .ref by_, .int le, .int yq13_, .int yq14_, .int yq15_, .int yq16_])) := hc_rd
              have hc_by_ : Mq84_ by_ = some (.inl (kA 1, 600, .inl fb)) := (hfr by_ n_by__rd).trans hc_by_
              have hF : ∀ q, FrK T q → q ≠ rd → Mq84_ q = M q := fun q hq h0 => (hfr q h0).trans (hF q hq h0)
              refine lv_aload_n hx hb dX4_readLine_85 rfl (lv_at hl 1 rfl) ?_
              refine xg hC hK hH flX4_72 hc_rd rfl dX4_readLine_86 ?_
              refine jif_eq (tgt := 96) hx hb dX4_readLine_89 (by decide) (fun cq85_ => absurd cq85_ (by decide)) (fun cq85_ => ?_)
              refine lv_aload_n hx hb dX4_readLine_92 rfl (lv_at hl 1 rfl) ?_
              refine goV hK hH (runV (As := []) (rest := []) hC hK hH (c_X4_move hc_rd hn_rd hc_by_ hn_by_ ht_nb (by omega) (by omega) (by omega)) mlX4_41 (rcvM hK hH hc_rd rfl) ⟨⟨Nat.le_of_ble_eq_true rfl, Nat.le_of_ble_eq_true rfl⟩, Nat.le_of_ble_eq_true rfl, Nat.le_of_ble_eq_true rfl⟩ rfl hl.1 rfl (Nat.le_of_ble_eq_true rfl) dX4_readLine_93) (fun Mq86_ Tq87_ Hq_ lcq_ hP hz hH => ?_)
              try dsimp only at hP
              obtain ⟨xq90_, ⟨l_xq90_, g_xq90_⟩, xq91_, ⟨l_xq91_, g_xq91_⟩, xq92_, ⟨l_xq92_, g_xq92_⟩, xq93_, ⟨l_xq93_, g_xq93_⟩, (⟨cq89_, hx_rd⟩), eT, hfr⟩ := hP
              have eT := eT.symm; subst eT
              have hc_rd : Mq86_ rd = some (.inr (3, [.ref nb, .ref (zv z vq6_), .int 1, .int wi, .ref by_, .int le, .int xq90_, .int xq91_, .int xq92_, .int xq93_])) := hx_rd
              have hc_by_ : Mq86_ by_ = some (.inl (kA 1, 600, .inl fb)) := (hfr by_ (Or.inl hn_by_) n_by__rd).trans hc_by_
              have hF : ∀ q, FrK T q → q ≠ rd → Mq86_ q = M q := fun q hq h0 => (hfr q hq  h0).trans (hF q hq h0)
              have cq89_ : xq91_.toInt ≤ xq92_.toInt ∧ xq92_.toInt ≤ le.toInt ∧ Tk fb le xq90_ xq91_ xq92_ ∧ xq91_.toInt = (scE pSp (nC fb) le.toInt.toNat yq15_.toInt.toNat : Int) := cq89_
              have hnq94_ : nxF (nC fb) le.toInt.toNat yq14_.toInt.toNat = xq91_.toInt.toNat := by have h8 := cq89_.2.2.2; rw [(hw0_yq12_).nx] at h8; omega
              have hOa : opF (nC fb) le.toInt.toNat (zNot vq6_ = 1) 19 yq14_.toInt.toNat = xq91_.toInt.toNat := (opF_y ⟨zNot1 (by omega) (by omega), cq81_⟩).trans hnq94_
              refine lv_aload_n hx hb dX4_readLine_96 rfl (lv_at hl 1 rfl) ?_
              refine lv_aload_n hx hb dX4_readLine_97 rfl (lv_at hl 1 rfl) ?_
              refine xg hC hK hH flX4_21 hc_rd rfl dX4_readLine_98 ?_
              refine vk_getf hx hb (hZ.1.2.2.1 vq6_ (by omega)).2.2.2.2.1 hH.2.1 hC.2.2.2.1 (hC.2.2.2.2 _ wfX4_74) (fun _ h => h) dX4_readLine_101 ?_
              refine lv_topi (fun xq95_ e_xq95_ => ?_)
              have b_xq95_ : xq95_.toInt = (zWit vq6_).toInt := congrArg Int32.toInt e_xq95_
              refine jif_eq (tgt := 120) hx hb dX4_readLine_104 (by decide) (fun cq96_ => ?_) (fun cq96_ => ?_)
              · skip
                have cq96_ : xq95_.toInt = 0 := cq96_
                refine lv_iconst (v := 0) hx hb dX4_readLine_120 (by decide) ?_
                refine yp (v := .int 0) hC hK hH flX4_79 hc_rd (noT hn_rd) rfl rfl (Nat.le_of_ble_eq_true rfl) dX4_readLine_121 (fun Hq_ lcq_ Mq97_ hc_rd hfr hH => ?_)
                have hc_rd : Mq97_ rd = some (.inr (3, [.ref nb, .ref (zv z vq6_), .int 1, .int 0, .ref by_, .int le, .int xq90_, .int xq91_, .int xq92_, .int xq93_])) := hc_rd
                have hc_by_ : Mq97_ by_ = some (.inl (kA 1, 600, .inl fb)) := (hfr by_ n_by__rd).trans hc_by_
                have hF : ∀ q, FrK T q → q ≠ rd → Mq97_ q = M q := fun q hq h0 => (hfr q h0).trans (hF q hq h0)
                refine lv_aload_n hx hb dX4_readLine_124 rfl (lv_at hl 1 rfl) ?_
                refine xg hC hK hH flX4_79 hc_rd rfl dX4_readLine_125 ?_
                refine jif_eq (tgt := 135) hx hb dX4_readLine_128 (by decide) (fun cq98_ => ?_) (fun cq98_ => absurd cq98_ (by decide))
                have hOb : opF (nC fb) le.toInt.toNat (zWit vq6_ = 1) 20 xq91_.toInt.toNat = xq91_.toInt.toNat := opF_n (fun h9 => by have h8 := congrArg Int32.toInt h9.1; have : (1 : Int32).toInt = 1 := rfl; omega)
                refine lv_aload_n hx hb dX4_readLine_135 rfl (lv_at hl 1 rfl) ?_
                refine xg hC hK hH flX4_44 hc_rd rfl dX4_readLine_136 ?_
                refine lv_iconst (v := 3) hx hb dX4_readLine_139 (by decide) ?_
                refine jic_eq (tgt := 145) hx hb dX4_readLine_140 (by decide) (fun cq99_ => ?_) (fun cq99_ => ?_)
                · skip
                  have cq99_ : xq90_.toInt = 3 := cq99_
                  refine lv_aload_n hx hb dX4_readLine_145 rfl (lv_at hl 1 rfl) ?_
                  refine goV hK hH (runV (As := []) (rest := []) hC hK hH (c_X4_move hc_rd hn_rd hc_by_ hn_by_ ht_nb (by omega) (by omega) (by omega)) mlX4_41 (rcvM hK hH hc_rd rfl) ⟨⟨Nat.le_of_ble_eq_true rfl, Nat.le_of_ble_eq_true rfl⟩, Nat.le_of_ble_eq_true rfl, Nat.le_of_ble_eq_true rfl⟩ rfl hl.1 rfl (Nat.le_of_ble_eq_true rfl) dX4_readLine_146) (fun Mq100_ Tq101_ Hq_ lcq_ hP hz hH => ?_)
                  try dsimp only at hP
                  obtain ⟨xq104_, ⟨l_xq104_, g_xq104_⟩, xq105_, ⟨l_xq105_, g_xq105_⟩, xq106_, ⟨l_xq106_, g_xq106_⟩, xq107_, ⟨l_xq107_, g_xq107_⟩, (⟨cq103_, hx_rd⟩), eT, hfr⟩ := hP
                  have eT := eT.symm; subst eT
                  have hc_rd : Mq100_ rd = some (.inr (3, [.ref nb, .ref (zv z vq6_), .int 1, .int 0, .ref by_, .int le, .int xq104_, .int xq105_, .int xq106_, .int xq107_])) := hx_rd
                  have hc_by_ : Mq100_ by_ = some (.inl (kA 1, 600, .inl fb)) := (hfr by_ (Or.inl hn_by_) n_by__rd).trans hc_by_
                  have hF : ∀ q, FrK T q → q ≠ rd → Mq100_ q = M q := fun q hq h0 => (hfr q hq  h0).trans (hF q hq h0)
                  have cq103_ : xq105_.toInt ≤ xq106_.toInt ∧ xq106_.toInt ≤ le.toInt ∧ Tk fb le xq104_ xq105_ xq106_ ∧ xq105_.toInt = (scE pSp (nC fb) le.toInt.toNat xq92_.toInt.toNat : Int) := cq103_
                  have hnq108_ : nxF (nC fb) le.toInt.toNat xq91_.toInt.toNat = xq105_.toInt.toNat := by have h8 := cq103_.2.2.2; rw [(cq89_.2.2.1).nx] at h8; omega
                  refine lv_iconst (v := 1) hx hb dX4_readLine_149 (by decide) ?_
                  exact ret_z hC hr hlk hK hH (by first | exact Or.inl rfl | exact Or.inr rfl | assumption) (⟨xq104_, ⟨by omega, by omega⟩, xq105_, ⟨by omega, by omega⟩, xq106_, ⟨by omega, by omega⟩, xq107_, iRg _, 1, ⟨by decide, by decide⟩, 0, ⟨by decide, by decide⟩, vq6_, by omega, Or.inl (⟨⟨by omega, by omega, cq103_.2.2.1, by rw [hL, hE, enT hOa hOb, if_pos (by have := (cq89_.2.2.1).ki; omega), hnq108_]⟩, rfl, hc_rd⟩), rfl, hF⟩) (Nat.le_of_ble_eq_true rfl) (Nat.le_of_ble_eq_true rfl) dX4_readLine_150
                · skip
                  have cq99_ : xq90_.toInt ≠ 3 := cq99_
                  refine lv_iconst (v := 0) hx hb dX4_readLine_143 (by decide) ?_
                  exact ret_z hC hr hlk hK hH (by first | exact Or.inl rfl | exact Or.inr rfl | assumption) (⟨xq90_, ⟨by omega, by omega⟩, xq91_, ⟨by omega, by omega⟩, xq92_, ⟨by omega, by omega⟩, xq93_, iRg _, 1, ⟨by decide, by decide⟩, 0, ⟨by decide, by decide⟩, vq6_, by omega, Or.inr (⟨⟨by omega, by omega, cq89_.2.2.1, by rw [hL, hE, enT hOa hOb, if_neg (by have := (cq89_.2.2.1).ki; omega)]⟩, rfl, hc_rd⟩), rfl, hF⟩) (Nat.le_of_ble_eq_true rfl) (Nat.le_of_ble_eq_true rfl) dX4_readLine_144
              · skip
                have cq96_ : xq95_.toInt ≠ 0 := cq96_
                refine lv_aload_n hx hb dX4_readLine_107 rfl (lv_at hl 1 rfl) ?_
                refine va_ldcS hx hb hC.2.2.2.1 hZ.2.2 dX4_readLine_108 ?_
                refine goI hK hH (runVB (As := [.ref (zs z 20)]) (rest := [.ref rd]) hC hK hH hZ (c_X4_isWord hc_rd hn_rd hc_by_ hn_by_ ht_nb (by decide) (by omega) (by omega) (by omega) (by omega) (by omega) (by omega) (by decide) (by exact cq89_.2.2.1)) mlX4_68 (rcvM hK hH hc_rd rfl) ⟨⟨Nat.le_of_ble_eq_true rfl, Nat.le_of_ble_eq_true rfl⟩, Nat.le_of_ble_eq_true rfl, Nat.le_of_ble_eq_true rfl⟩ rfl hl.1 rfl (Nat.le_of_ble_eq_true rfl) dX4_readLine_110) (fun rq111_ Mq109_ Tq110_ Hq_ lcq_ hP hz hH => ?_)
                try dsimp only at hP
                obtain ⟨(⟨cq112_, er_rq111_⟩ | ⟨cq113_, er_rq111_⟩), eT, eM⟩ := hP
                · skip
                  have eT := eT.symm; subst eT
                  have er_rq111_ := er_rq111_.symm; subst er_rq111_
                  have eM := eM.symm; subst eM
                  have cq112_ : wIs (nC fb) le.toInt.toNat xq91_.toInt.toNat 20 := cq112_
                  refine jif_eq (tgt := 120) hx hb dX4_readLine_113 (by decide) (fun cq114_ => absurd cq114_ (by decide)) (fun cq114_ => ?_)
                  refine lv_iconst (v := 1) hx hb dX4_readLine_116 (by decide) ?_
                  refine lv_goto (tgt := 121) hx hb dX4_readLine_117 (by decide) ?_
                  refine yp (v := .int 1) hC hK hH flX4_79 hc_rd (noT hn_rd) rfl rfl (Nat.le_of_ble_eq_true rfl) dX4_readLine_121 (fun Hq_ lcq_ Mq115_ hc_rd hfr hH => ?_)
                  have hc_rd : Mq115_ rd = some (.inr (3, [.ref nb, .ref (zv z vq6_), .int 1, .int 1, .ref by_, .int le, .int xq90_, .int xq91_, .int xq92_, .int xq93_])) := hc_rd
                  have hc_by_ : Mq115_ by_ = some (.inl (kA 1, 600, .inl fb)) := (hfr by_ n_by__rd).trans hc_by_
                  have hF : ∀ q, FrK T q → q ≠ rd → Mq115_ q = M q := fun q hq h0 => (hfr q h0).trans (hF q hq h0)
                  refine lv_aload_n hx hb dX4_readLine_124 rfl (lv_at hl 1 rfl) ?_
                  refine xg hC hK hH flX4_79 hc_rd rfl dX4_readLine_125 ?_
                  refine jif_eq (tgt := 135) hx hb dX4_readLine_128 (by decide) (fun cq116_ => absurd cq116_ (by decide)) (fun cq116_ => ?_)
                  refine lv_aload_n hx hb dX4_readLine_131 rfl (lv_at hl 1 rfl) ?_
                  refine goV hK hH (runV (As := []) (rest := []) hC hK hH (c_X4_move hc_rd hn_rd hc_by_ hn_by_ ht_nb (by omega) (by omega) (by omega)) mlX4_41 (rcvM hK hH hc_rd rfl) ⟨⟨Nat.le_of_ble_eq_true rfl, Nat.le_of_ble_eq_true rfl⟩, Nat.le_of_ble_eq_true rfl, Nat.le_of_ble_eq_true rfl⟩ rfl hl.1 rfl (Nat.le_of_ble_eq_true rfl) dX4_readLine_132) (fun Mq117_ Tq118_ Hq_ lcq_ hP hz hH => ?_)
                  try dsimp only at hP
                  obtain ⟨xq121_, ⟨l_xq121_, g_xq121_⟩, xq122_, ⟨l_xq122_, g_xq122_⟩, xq123_, ⟨l_xq123_, g_xq123_⟩, xq124_, ⟨l_xq124_, g_xq124_⟩, (⟨cq120_, hx_rd⟩), eT, hfr⟩ := hP
                  have eT := eT.symm; subst eT
                  have hc_rd : Mq117_ rd = some (.inr (3, [.ref nb, .ref (zv z vq6_), .int 1, .int 1, .ref by_, .int le, .int xq121_, .int xq122_, .int xq123_, .int xq124_])) := hx_rd
                  have hc_by_ : Mq117_ by_ = some (.inl (kA 1, 600, .inl fb)) := (hfr by_ (Or.inl hn_by_) n_by__rd).trans hc_by_
                  have hF : ∀ q, FrK T q → q ≠ rd → Mq117_ q = M q := fun q hq h0 => (hfr q hq  h0).trans (hF q hq h0)
                  have cq120_ : xq122_.toInt ≤ xq123_.toInt ∧ xq123_.toInt ≤ le.toInt ∧ Tk fb le xq121_ xq122_ xq123_ ∧ xq122_.toInt = (scE pSp (nC fb) le.toInt.toNat xq92_.toInt.toNat : Int) := cq120_
                  have hnq125_ : nxF (nC fb) le.toInt.toNat xq91_.toInt.toNat = xq122_.toInt.toNat := by have h8 := cq120_.2.2.2; rw [(cq89_.2.2.1).nx] at h8; omega
                  have hOb : opF (nC fb) le.toInt.toNat (zWit vq6_ = 1) 20 xq91_.toInt.toNat = xq122_.toInt.toNat := (opF_y ⟨zWit1 (by omega) (by omega), cq112_⟩).trans hnq125_
                  refine lv_aload_n hx hb dX4_readLine_135 rfl (lv_at hl 1 rfl) ?_
                  refine xg hC hK hH flX4_44 hc_rd rfl dX4_readLine_136 ?_
                  refine lv_iconst (v := 3) hx hb dX4_readLine_139 (by decide) ?_
                  refine jic_eq (tgt := 145) hx hb dX4_readLine_140 (by decide) (fun cq126_ => ?_) (fun cq126_ => ?_)
                  · skip
                    have cq126_ : xq121_.toInt = 3 := cq126_
                    refine lv_aload_n hx hb dX4_readLine_145 rfl (lv_at hl 1 rfl) ?_
                    refine goV hK hH (runV (As := []) (rest := []) hC hK hH (c_X4_move hc_rd hn_rd hc_by_ hn_by_ ht_nb (by omega) (by omega) (by omega)) mlX4_41 (rcvM hK hH hc_rd rfl) ⟨⟨Nat.le_of_ble_eq_true rfl, Nat.le_of_ble_eq_true rfl⟩, Nat.le_of_ble_eq_true rfl, Nat.le_of_ble_eq_true rfl⟩ rfl hl.1 rfl (Nat.le_of_ble_eq_true rfl) dX4_readLine_146) (fun Mq127_ Tq128_ Hq_ lcq_ hP hz hH => ?_)
                    try dsimp only at hP
                    obtain ⟨xq131_, ⟨l_xq131_, g_xq131_⟩, xq132_, ⟨l_xq132_, g_xq132_⟩, xq133_, ⟨l_xq133_, g_xq133_⟩, xq134_, ⟨l_xq134_, g_xq134_⟩, (⟨cq130_, hx_rd⟩), eT, hfr⟩ := hP
                    have eT := eT.symm; subst eT
                    have hc_rd : Mq127_ rd = some (.inr (3, [.ref nb, .ref (zv z vq6_), .int 1, .int 1, .ref by_, .int le, .int xq131_, .int xq132_, .int xq133_, .int xq134_])) := hx_rd
                    have hc_by_ : Mq127_ by_ = some (.inl (kA 1, 600, .inl fb)) := (hfr by_ (Or.inl hn_by_) n_by__rd).trans hc_by_
                    have hF : ∀ q, FrK T q → q ≠ rd → Mq127_ q = M q := fun q hq h0 => (hfr q hq  h0).trans (hF q hq h0)
                    have cq130_ : xq132_.toInt ≤ xq133_.toInt ∧ xq133_.toInt ≤ le.toInt ∧ Tk fb le xq131_ xq132_ xq133_ ∧ xq132_.toInt = (scE pSp (nC fb) le.toInt.toNat xq123_.toInt.toNat : Int) := cq130_
                    have hnq135_ : nxF (nC fb) le.toInt.toNat xq122_.toInt.toNat = xq132_.toInt.toNat := by have h8 := cq130_.2.2.2; rw [(cq120_.2.2.1).nx] at h8; omega
                    refine lv_iconst (v := 1) hx hb dX4_readLine_149 (by decide) ?_
                    exact ret_z hC hr hlk hK hH (by first | exact Or.inl rfl | exact Or.inr rfl | assumption) (⟨xq131_, ⟨by omega, by omega⟩, xq132_, ⟨by omega, by omega⟩, xq133_, ⟨by omega, by omega⟩, xq134_, iRg _, 1, ⟨by decide, by decide⟩, 1, ⟨by decide, by decide⟩, vq6_, by omega, Or.inl (⟨⟨by omega, by omega, cq130_.2.2.1, by rw [hL, hE, enT hOa hOb, if_pos (by have := (cq120_.2.2.1).ki; omega), hnq135_]⟩, rfl, hc_rd⟩), rfl, hF⟩) (Nat.le_of_ble_eq_true rfl) (Nat.le_of_ble_eq_true rfl) dX4_readLine_150
                  · skip
                    have cq126_ : xq121_.toInt ≠ 3 := cq126_
                    refine lv_iconst (v := 0) hx hb dX4_readLine_143 (by decide) ?_
                    exact ret_z hC hr hlk hK hH (by first | exact Or.inl rfl | exact Or.inr rfl | assumption) (⟨xq121_, ⟨by omega, by omega⟩, xq122_, ⟨by omega, by omega⟩, xq123_, ⟨by omega, by omega⟩, xq124_, iRg _, 1, ⟨by decide, by decide⟩, 1, ⟨by decide, by decide⟩, vq6_, by omega, Or.inr (⟨⟨by omega, by omega, cq120_.2.2.1, by rw [hL, hE, enT hOa hOb, if_neg (by have := (cq120_.2.2.1).ki; omega)]⟩, rfl, hc_rd⟩), rfl, hF⟩) (Nat.le_of_ble_eq_true rfl) (Nat.le_of_ble_eq_true rfl) dX4_readLine_144
                · skip
                  have eT := eT.symm; subst eT
                  have er_rq111_ := er_rq111_.symm; subst er_rq111_
                  have eM := eM.symm; subst eM
                  have cq113_ : ¬ wIs (nC fb) le.toInt.toNat xq91_.toInt.toNat 20 := cq113_
                  refine jif_eq (tgt := 120) hx hb dX4_readLine_113 (by decide) (fun cq136_ => ?_) (fun cq136_ => absurd cq136_ (by decide))
                  refine lv_iconst (v := 0) hx hb dX4_readLine_120 (by decide) ?_
                  refine yp (v := .int 0) hC hK hH flX4_79 hc_rd (noT hn_rd) rfl rfl (Nat.le_of_ble_eq_true rfl) dX4_readLine_121 (fun Hq_ lcq_ Mq137_ hc_rd hfr hH => ?_)
                  have hc_rd : Mq137_ rd = some (.inr (3, [.ref nb, .ref (zv z vq6_), .int 1, .int 0, .ref by_, .int le, .int xq90_, .int xq91_, .int xq92_, .int xq93_])) := hc_rd
                  have hc_by_ : Mq137_ by_ = some (.inl (kA 1, 600, .inl fb)) := (hfr by_ n_by__rd).trans hc_by_
                  have hF : ∀ q, FrK T q → q ≠ rd → Mq137_ q = M q := fun q hq h0 => (hfr q h0).trans (hF q hq h0)
                  refine lv_aload_n hx hb dX4_readLine_124 rfl (lv_at hl 1 rfl) ?_
                  refine xg hC hK hH flX4_79 hc_rd rfl dX4_readLine_125 ?_
                  refine jif_eq (tgt := 135) hx hb dX4_readLine_128 (by decide) (fun cq138_ => ?_) (fun cq138_ => absurd cq138_ (by decide))
                  have hOb : opF (nC fb) le.toInt.toNat (zWit vq6_ = 1) 20 xq91_.toInt.toNat = xq91_.toInt.toNat := opF_n (fun h9 => cq113_ h9.2)
                  refine lv_aload_n hx hb dX4_readLine_135 rfl (lv_at hl 1 rfl) ?_
                  refine xg hC hK hH flX4_44 hc_rd rfl dX4_readLine_136 ?_
                  refine lv_iconst (v := 3) hx hb dX4_readLine_139 (by decide) ?_
                  refine jic_eq (tgt := 145) hx hb dX4_readLine_140 (by decide) (fun cq139_ => ?_) (fun cq139_ => ?_)
                  · skip
                    have cq139_ : xq90_.toInt = 3 := cq139_
                    refine lv_aload_n hx hb dX4_readLine_145 rfl (lv_at hl 1 rfl) ?_
                    refine goV hK hH (runV (As := []) (rest := []) hC hK hH (c_X4_move hc_rd hn_rd hc_by_ hn_by_ ht_nb (by omega) (by omega) (by omega)) mlX4_41 (rcvM hK hH hc_rd rfl) ⟨⟨Nat.le_of_ble_eq_true rfl, Nat.le_of_ble_eq_true rfl⟩, Nat.le_of_ble_eq_true rfl, Nat.le_of_ble_eq_true rfl⟩ rfl hl.1 rfl (Nat.le_of_ble_eq_true rfl) dX4_readLine_146) (fun Mq140_ Tq141_ Hq_ lcq_ hP hz hH => ?_)
                    try dsimp only at hP
                    obtain ⟨xq144_, ⟨l_xq144_, g_xq144_⟩, xq145_, ⟨l_xq145_, g_xq145_⟩, xq146_, ⟨l_xq146_, g_xq146_⟩, xq147_, ⟨l_xq147_, g_xq147_⟩, (⟨cq143_, hx_rd⟩), eT, hfr⟩ := hP
                    have eT := eT.symm; subst eT
                    have hc_rd : Mq140_ rd = some (.inr (3, [.ref nb, .ref (zv z vq6_), .int 1, .int 0, .ref by_, .int le, .int xq144_, .int xq145_, .int xq146_, .int xq147_])) := hx_rd
                    have hc_by_ : Mq140_ by_ = some (.inl (kA 1, 600, .inl fb)) := (hfr by_ (Or.inl hn_by_) n_by__rd).trans hc_by_
                    have hF : ∀ q, FrK T q → q ≠ rd → Mq140_ q = M q := fun q hq h0 => (hfr q hq  h0).trans (hF q hq h0)
                    have cq143_ : xq145_.toInt ≤ xq146_.toInt ∧ xq146_.toInt ≤ le.toInt ∧ Tk fb le xq144_ xq145_ xq146_ ∧ xq145_.toInt = (scE pSp (nC fb) le.toInt.toNat xq92_.toInt.toNat : Int) := cq143_
                    have hnq148_ : nxF (nC fb) le.toInt.toNat xq91_.toInt.toNat = xq145_.toInt.toNat := by have h8 := cq143_.2.2.2; rw [(cq89_.2.2.1).nx] at h8; omega
                    refine lv_iconst (v := 1) hx hb dX4_readLine_149 (by decide) ?_
                    exact ret_z hC hr hlk hK hH (by first | exact Or.inl rfl | exact Or.inr rfl | assumption) (⟨xq144_, ⟨by omega, by omega⟩, xq145_, ⟨by omega, by omega⟩, xq146_, ⟨by omega, by omega⟩, xq147_, iRg _, 1, ⟨by decide, by decide⟩, 0, ⟨by decide, by decide⟩, vq6_, by omega, Or.inl (⟨⟨by omega, by omega, cq143_.2.2.1, by rw [hL, hE, enT hOa hOb, if_pos (by have := (cq89_.2.2.1).ki; omega), hnq148_]⟩, rfl, hc_rd⟩), rfl, hF⟩) (Nat.le_of_ble_eq_true rfl) (Nat.le_of_ble_eq_true rfl) dX4_readLine_150
                  · skip
                    have cq139_ : xq90_.toInt ≠ 3 := cq139_
                    refine lv_iconst (v := 0) hx hb dX4_readLine_143 (by decide) ?_
                    exact ret_z hC hr hlk hK hH (by first | exact Or.inl rfl | exact Or.inr rfl | assumption) (⟨xq90_, ⟨by omega, by omega⟩, xq91_, ⟨by omega, by omega⟩, xq92_, ⟨by omega, by omega⟩, xq93_, iRg _, 1, ⟨by decide, by decide⟩, 0, ⟨by decide, by decide⟩, vq6_, by omega, Or.inr (⟨⟨by omega, by omega, cq89_.2.2.1, by rw [hL, hE, enT hOa hOb, if_neg (by have := (cq89_.2.2.1).ki; omega)]⟩, rfl, hc_rd⟩), rfl, hF⟩) (Nat.le_of_ble_eq_true rfl) (Nat.le_of_ble_eq_true rfl) dX4_readLine_144
            · skip
              have eT := eT.symm; subst eT
              have er_rq80_ := er_rq80_.symm; subst er_rq80_
              have eM := eM.symm; subst eM
              have cq82_ : ¬ wIs (nC fb) le.toInt.toNat yq14_.toInt.toNat 19 := cq82_
              refine jif_eq (tgt := 81) hx hb dX4_readLine_74 (by decide) (fun cq149_ => ?_) (fun cq149_ => absurd cq149_ (by decide))
              refine lv_iconst (v := 0) hx hb dX4_readLine_81 (by decide) ?_
              refine yp (v := .int 0) hC hK hH flX4_72 hc_rd (noT hn_rd) rfl rfl (Nat.le_of_ble_eq_true rfl) dX4_readLine_82 (fun Hq_ lcq_ Mq150_ hc_rd hfr hH => ?_)
              have hc_rd : Mq150_ rd = some (.inr (3, [.ref nb, .ref (zv z vq6_), .int 0, .int wi, .ref by_, .int le, .int yq13_, .int yq14_, .int yq15_, .int yq16_])) := hc_rd
              have hc_by_ : Mq150_ by_ = some (.inl (kA 1, 600, .inl fb)) := (hfr by_ n_by__rd).trans hc_by_
              have hF : ∀ q, FrK T q → q ≠ rd → Mq150_ q = M q := fun q hq h0 => (hfr q h0).trans (hF q hq h0)
              refine lv_aload_n hx hb dX4_readLine_85 rfl (lv_at hl 1 rfl) ?_
              refine xg hC hK hH flX4_72 hc_rd rfl dX4_readLine_86 ?_
              refine jif_eq (tgt := 96) hx hb dX4_readLine_89 (by decide) (fun cq151_ => ?_) (fun cq151_ => absurd cq151_ (by decide))
              have hOa : opF (nC fb) le.toInt.toNat (zNot vq6_ = 1) 19 yq14_.toInt.toNat = yq14_.toInt.toNat := opF_n (fun h9 => cq82_ h9.2)
              refine lv_aload_n hx hb dX4_readLine_96 rfl (lv_at hl 1 rfl) ?_
              refine lv_aload_n hx hb dX4_readLine_97 rfl (lv_at hl 1 rfl) ?_
              refine xg hC hK hH flX4_21 hc_rd rfl dX4_readLine_98 ?_
              refine vk_getf hx hb (hZ.1.2.2.1 vq6_ (by omega)).2.2.2.2.1 hH.2.1 hC.2.2.2.1 (hC.2.2.2.2 _ wfX4_74) (fun _ h => h) dX4_readLine_101 ?_
              refine lv_topi (fun xq152_ e_xq152_ => ?_)
              have b_xq152_ : xq152_.toInt = (zWit vq6_).toInt := congrArg Int32.toInt e_xq152_
              refine jif_eq (tgt := 120) hx hb dX4_readLine_104 (by decide) (fun cq153_ => ?_) (fun cq153_ => ?_)
              · skip
                have cq153_ : xq152_.toInt = 0 := cq153_
                refine lv_iconst (v := 0) hx hb dX4_readLine_120 (by decide) ?_
                refine yp (v := .int 0) hC hK hH flX4_79 hc_rd (noT hn_rd) rfl rfl (Nat.le_of_ble_eq_true rfl) dX4_readLine_121 (fun Hq_ lcq_ Mq154_ hc_rd hfr hH => ?_)
                have hc_rd : Mq154_ rd = some (.inr (3, [.ref nb, .ref (zv z vq6_), .int 0, .int 0, .ref by_, .int le, .int yq13_, .int yq14_, .int yq15_, .int yq16_])) := hc_rd
                have hc_by_ : Mq154_ by_ = some (.inl (kA 1, 600, .inl fb)) := (hfr by_ n_by__rd).trans hc_by_
                have hF : ∀ q, FrK T q → q ≠ rd → Mq154_ q = M q := fun q hq h0 => (hfr q h0).trans (hF q hq h0)
                refine lv_aload_n hx hb dX4_readLine_124 rfl (lv_at hl 1 rfl) ?_
                refine xg hC hK hH flX4_79 hc_rd rfl dX4_readLine_125 ?_
                refine jif_eq (tgt := 135) hx hb dX4_readLine_128 (by decide) (fun cq155_ => ?_) (fun cq155_ => absurd cq155_ (by decide))
                have hOb : opF (nC fb) le.toInt.toNat (zWit vq6_ = 1) 20 yq14_.toInt.toNat = yq14_.toInt.toNat := opF_n (fun h9 => by have h8 := congrArg Int32.toInt h9.1; have : (1 : Int32).toInt = 1 := rfl; omega)
                refine lv_aload_n hx hb dX4_readLine_135 rfl (lv_at hl 1 rfl) ?_
                refine xg hC hK hH flX4_44 hc_rd rfl dX4_readLine_136 ?_
                refine lv_iconst (v := 3) hx hb dX4_readLine_139 (by decide) ?_
                refine jic_eq (tgt := 145) hx hb dX4_readLine_140 (by decide) (fun cq156_ => ?_) (fun cq156_ => ?_)
                · skip
                  have cq156_ : yq13_.toInt = 3 := cq156_
                  refine lv_aload_n hx hb dX4_readLine_145 rfl (lv_at hl 1 rfl) ?_
                  refine goV hK hH (runV (As := []) (rest := []) hC hK hH (c_X4_move hc_rd hn_rd hc_by_ hn_by_ ht_nb (by omega) (by omega) (by omega)) mlX4_41 (rcvM hK hH hc_rd rfl) ⟨⟨Nat.le_of_ble_eq_true rfl, Nat.le_of_ble_eq_true rfl⟩, Nat.le_of_ble_eq_true rfl, Nat.le_of_ble_eq_true rfl⟩ rfl hl.1 rfl (Nat.le_of_ble_eq_true rfl) dX4_readLine_146) (fun Mq157_ Tq158_ Hq_ lcq_ hP hz hH => ?_)
                  try dsimp only at hP
                  obtain ⟨xq161_, ⟨l_xq161_, g_xq161_⟩, xq162_, ⟨l_xq162_, g_xq162_⟩, xq163_, ⟨l_xq163_, g_xq163_⟩, xq164_, ⟨l_xq164_, g_xq164_⟩, (⟨cq160_, hx_rd⟩), eT, hfr⟩ := hP
                  have eT := eT.symm; subst eT
                  have hc_rd : Mq157_ rd = some (.inr (3, [.ref nb, .ref (zv z vq6_), .int 0, .int 0, .ref by_, .int le, .int xq161_, .int xq162_, .int xq163_, .int xq164_])) := hx_rd
                  have hc_by_ : Mq157_ by_ = some (.inl (kA 1, 600, .inl fb)) := (hfr by_ (Or.inl hn_by_) n_by__rd).trans hc_by_
                  have hF : ∀ q, FrK T q → q ≠ rd → Mq157_ q = M q := fun q hq h0 => (hfr q hq  h0).trans (hF q hq h0)
                  have cq160_ : xq162_.toInt ≤ xq163_.toInt ∧ xq163_.toInt ≤ le.toInt ∧ Tk fb le xq161_ xq162_ xq163_ ∧ xq162_.toInt = (scE pSp (nC fb) le.toInt.toNat yq15_.toInt.toNat : Int) := cq160_
                  have hnq165_ : nxF (nC fb) le.toInt.toNat yq14_.toInt.toNat = xq162_.toInt.toNat := by have h8 := cq160_.2.2.2; rw [(hw0_yq12_).nx] at h8; omega
                  refine lv_iconst (v := 1) hx hb dX4_readLine_149 (by decide) ?_
                  exact ret_z hC hr hlk hK hH (by first | exact Or.inl rfl | exact Or.inr rfl | assumption) (⟨xq161_, ⟨by omega, by omega⟩, xq162_, ⟨by omega, by omega⟩, xq163_, ⟨by omega, by omega⟩, xq164_, iRg _, 0, ⟨by decide, by decide⟩, 0, ⟨by decide, by decide⟩, vq6_, by omega, Or.inl (⟨⟨by omega, by omega, cq160_.2.2.1, by rw [hL, hE, enT hOa hOb, if_pos (by have := (hw0_yq12_).ki; omega), hnq165_]⟩, rfl, hc_rd⟩), rfl, hF⟩) (Nat.le_of_ble_eq_true rfl) (Nat.le_of_ble_eq_true rfl) dX4_readLine_150
                · skip
                  have cq156_ : yq13_.toInt ≠ 3 := cq156_
                  refine lv_iconst (v := 0) hx hb dX4_readLine_143 (by decide) ?_
                  exact ret_z hC hr hlk hK hH (by first | exact Or.inl rfl | exact Or.inr rfl | assumption) (⟨yq13_, ⟨by omega, by omega⟩, yq14_, ⟨by omega, by omega⟩, yq15_, ⟨by omega, by omega⟩, yq16_, iRg _, 0, ⟨by decide, by decide⟩, 0, ⟨by decide, by decide⟩, vq6_, by omega, Or.inr (⟨⟨by omega, by omega, hw0_yq12_, by rw [hL, hE, enT hOa hOb, if_neg (by have := (hw0_yq12_).ki; omega)]⟩, rfl, hc_rd⟩), rfl, hF⟩) (Nat.le_of_ble_eq_true rfl) (Nat.le_of_ble_eq_true rfl) dX4_readLine_144
              · skip
                have cq153_ : xq152_.toInt ≠ 0 := cq153_
                refine lv_aload_n hx hb dX4_readLine_107 rfl (lv_at hl 1 rfl) ?_
                refine va_ldcS hx hb hC.2.2.2.1 hZ.2.2 dX4_readLine_108 ?_
                refine goI hK hH (runVB (As := [.ref (zs z 20)]) (rest := [.ref rd]) hC hK hH hZ (c_X4_isWord hc_rd hn_rd hc_by_ hn_by_ ht_nb (by decide) (by omega) (by omega) (by omega) (by omega) (by omega) (by omega) (by decide) (by exact hw0_yq12_)) mlX4_68 (rcvM hK hH hc_rd rfl) ⟨⟨Nat.le_of_ble_eq_true rfl, Nat.le_of_ble_eq_true rfl⟩, Nat.le_of_ble_eq_true rfl, Nat.le_of_ble_eq_true rfl⟩ rfl hl.1 rfl (Nat.le_of_ble_eq_true rfl) dX4_readLine_110) (fun rq168_ Mq166_ Tq167_ Hq_ lcq_ hP hz hH => ?_)
                try dsimp only at hP
                obtain ⟨(⟨cq169_, er_rq168_⟩ | ⟨cq170_, er_rq168_⟩), eT, eM⟩ := hP
                · skip
                  have eT := eT.symm; subst eT
                  have er_rq168_ := er_rq168_.symm; subst er_rq168_
                  have eM := eM.symm; subst eM
                  have cq169_ : wIs (nC fb) le.toInt.toNat yq14_.toInt.toNat 20 := cq169_
                  refine jif_eq (tgt := 120) hx hb dX4_readLine_113 (by decide) (fun cq171_ => absurd cq171_ (by decide)) (fun cq171_ => ?_)
                  refine lv_iconst (v := 1) hx hb dX4_readLine_116 (by decide) ?_
                  refine lv_goto (tgt := 121) hx hb dX4_readLine_117 (by decide) ?_
                  refine yp (v := .int 1) hC hK hH flX4_79 hc_rd (noT hn_rd) rfl rfl (Nat.le_of_ble_eq_true rfl) dX4_readLine_121 (fun Hq_ lcq_ Mq172_ hc_rd hfr hH => ?_)
                  have hc_rd : Mq172_ rd = some (.inr (3, [.ref nb, .ref (zv z vq6_), .int 0, .int 1, .ref by_, .int le, .int yq13_, .int yq14_, .int yq15_, .int yq16_])) := hc_rd
                  have hc_by_ : Mq172_ by_ = some (.inl (kA 1, 600, .inl fb)) := (hfr by_ n_by__rd).trans hc_by_
                  have hF : ∀ q, FrK T q → q ≠ rd → Mq172_ q = M q := fun q hq h0 => (hfr q h0).trans (hF q hq h0)
                  refine lv_aload_n hx hb dX4_readLine_124 rfl (lv_at hl 1 rfl) ?_
                  refine xg hC hK hH flX4_79 hc_rd rfl dX4_readLine_125 ?_
                  refine jif_eq (tgt := 135) hx hb dX4_readLine_128 (by decide) (fun cq173_ => absurd cq173_ (by decide)) (fun cq173_ => ?_)
                  refine lv_aload_n hx hb dX4_readLine_131 rfl (lv_at hl 1 rfl) ?_
                  refine goV hK hH (runV (As := []) (rest := []) hC hK hH (c_X4_move hc_rd hn_rd hc_by_ hn_by_ ht_nb (by omega) (by omega) (by omega)) mlX4_41 (rcvM hK hH hc_rd rfl) ⟨⟨Nat.le_of_ble_eq_true rfl, Nat.le_of_ble_eq_true rfl⟩, Nat.le_of_ble_eq_true rfl, Nat.le_of_ble_eq_true rfl⟩ rfl hl.1 rfl (Nat.le_of_ble_eq_true rfl) dX4_readLine_132) (fun Mq174_ Tq175_ Hq_ lcq_ hP hz hH => ?_)
                  try dsimp only at hP
                  obtain ⟨xq178_, ⟨l_xq178_, g_xq178_⟩, xq179_, ⟨l_xq179_, g_xq179_⟩, xq180_, ⟨l_xq180_, g_xq180_⟩, xq181_, ⟨l_xq181_, g_xq181_⟩, (⟨cq177_, hx_rd⟩), eT, hfr⟩ := hP
                  have eT := eT.symm; subst eT
                  have hc_rd : Mq174_ rd = some (.inr (3, [.ref nb, .ref (zv z vq6_), .int 0, .int 1, .ref by_, .int le, .int xq178_, .int xq179_, .int xq180_, .int xq181_])) := hx_rd
                  have hc_by_ : Mq174_ by_ = some (.inl (kA 1, 600, .inl fb)) := (hfr by_ (Or.inl hn_by_) n_by__rd).trans hc_by_
                  have hF : ∀ q, FrK T q → q ≠ rd → Mq174_ q = M q := fun q hq h0 => (hfr q hq  h0).trans (hF q hq h0)
                  have cq177_ : xq179_.toInt ≤ xq180_.toInt ∧ xq180_.toInt ≤ le.toInt ∧ Tk fb le xq178_ xq179_ xq180_ ∧ xq179_.toInt = (scE pSp (nC fb) le.toInt.toNat yq15_.toInt.toNat : Int) := cq177_
                  have hnq182_ : nxF (nC fb) le.toInt.toNat yq14_.toInt.toNat = xq179_.toInt.toNat := by have h8 := cq177_.2.2.2; rw [(hw0_yq12_).nx] at h8; omega
                  have hOb : opF (nC fb) le.toInt.toNat (zWit vq6_ = 1) 20 yq14_.toInt.toNat = xq179_.toInt.toNat := (opF_y ⟨zWit1 (by omega) (by omega), cq169_⟩).trans hnq182_
                  refine lv_aload_n hx hb dX4_readLine_135 rfl (lv_at hl 1 rfl) ?_
                  refine xg hC hK hH flX4_44 hc_rd rfl dX4_readLine_136 ?_
                  refine lv_iconst (v := 3) hx hb dX4_readLine_139 (by decide) ?_
                  refine jic_eq (tgt := 145) hx hb dX4_readLine_140 (by decide) (fun cq183_ => ?_) (fun cq183_ => ?_)
                  · skip
                    have cq183_ : xq178_.toInt = 3 := cq183_
                    refine lv_aload_n hx hb dX4_readLine_145 rfl (lv_at hl 1 rfl) ?_
                    refine goV hK hH (runV (As := []) (rest := []) hC hK hH (c_X4_move hc_rd hn_rd hc_by_ hn_by_ ht_nb (by omega) (by omega) (by omega)) mlX4_41 (rcvM hK hH hc_rd rfl) ⟨⟨Nat.le_of_ble_eq_true rfl, Nat.le_of_ble_eq_true rfl⟩, Nat.le_of_ble_eq_true rfl, Nat.le_of_ble_eq_true rfl⟩ rfl hl.1 rfl (Nat.le_of_ble_eq_true rfl) dX4_readLine_146) (fun Mq184_ Tq185_ Hq_ lcq_ hP hz hH => ?_)
                    try dsimp only at hP
                    obtain ⟨xq188_, ⟨l_xq188_, g_xq188_⟩, xq189_, ⟨l_xq189_, g_xq189_⟩, xq190_, ⟨l_xq190_, g_xq190_⟩, xq191_, ⟨l_xq191_, g_xq191_⟩, (⟨cq187_, hx_rd⟩), eT, hfr⟩ := hP
                    have eT := eT.symm; subst eT
                    have hc_rd : Mq184_ rd = some (.inr (3, [.ref nb, .ref (zv z vq6_), .int 0, .int 1, .ref by_, .int le, .int xq188_, .int xq189_, .int xq190_, .int xq191_])) := hx_rd
                    have hc_by_ : Mq184_ by_ = some (.inl (kA 1, 600, .inl fb)) := (hfr by_ (Or.inl hn_by_) n_by__rd).trans hc_by_
                    have hF : ∀ q, FrK T q → q ≠ rd → Mq184_ q = M q := fun q hq h0 => (hfr q hq  h0).trans (hF q hq h0)
                    have cq187_ : xq189_.toInt ≤ xq190_.toInt ∧ xq190_.toInt ≤ le.toInt ∧ Tk fb le xq188_ xq189_ xq190_ ∧ xq189_.toInt = (scE pSp (nC fb) le.toInt.toNat xq180_.toInt.toNat : Int) := cq187_
                    have hnq192_ : nxF (nC fb) le.toInt.toNat xq179_.toInt.toNat = xq189_.toInt.toNat := by have h8 := cq187_.2.2.2; rw [(cq177_.2.2.1).nx] at h8; omega
                    refine lv_iconst (v := 1) hx hb dX4_readLine_149 (by decide) ?_
                    exact ret_z hC hr hlk hK hH (by first | exact Or.inl rfl | exact Or.inr rfl | assumption) (⟨xq188_, ⟨by omega, by omega⟩, xq189_, ⟨by omega, by omega⟩, xq190_, ⟨by omega, by omega⟩, xq191_, iRg _, 0, ⟨by decide, by decide⟩, 1, ⟨by decide, by decide⟩, vq6_, by omega, Or.inl (⟨⟨by omega, by omega, cq187_.2.2.1, by rw [hL, hE, enT hOa hOb, if_pos (by have := (cq177_.2.2.1).ki; omega), hnq192_]⟩, rfl, hc_rd⟩), rfl, hF⟩) (Nat.le_of_ble_eq_true rfl) (Nat.le_of_ble_eq_true rfl) dX4_readLine_150
                  · skip
                    have cq183_ : xq178_.toInt ≠ 3 := cq183_
                    refine lv_iconst (v := 0) hx hb dX4_readLine_143 (by decide) ?_
                    exact ret_z hC hr hlk hK hH (by first | exact Or.inl rfl | exact Or.inr rfl | assumption) (⟨xq178_, ⟨by omega, by omega⟩, xq179_, ⟨by omega, by omega⟩, xq180_, ⟨by omega, by omega⟩, xq181_, iRg _, 0, ⟨by decide, by decide⟩, 1, ⟨by decide, by decide⟩, vq6_, by omega, Or.inr (⟨⟨by omega, by omega, cq177_.2.2.1, by rw [hL, hE, enT hOa hOb, if_neg (by have := (cq177_.2.2.1).ki; omega)]⟩, rfl, hc_rd⟩), rfl, hF⟩) (Nat.le_of_ble_eq_true rfl) (Nat.le_of_ble_eq_true rfl) dX4_readLine_144
                · skip
                  have eT := eT.symm; subst eT
                  have er_rq168_ := er_rq168_.symm; subst er_rq168_
                  have eM := eM.symm; subst eM
                  have cq170_ : ¬ wIs (nC fb) le.toInt.toNat yq14_.toInt.toNat 20 := cq170_
                  refine jif_eq (tgt := 120) hx hb dX4_readLine_113 (by decide) (fun cq193_ => ?_) (fun cq193_ => absurd cq193_ (by decide))
                  refine lv_iconst (v := 0) hx hb dX4_readLine_120 (by decide) ?_
                  refine yp (v := .int 0) hC hK hH flX4_79 hc_rd (noT hn_rd) rfl rfl (Nat.le_of_ble_eq_true rfl) dX4_readLine_121 (fun Hq_ lcq_ Mq194_ hc_rd hfr hH => ?_)
                  have hc_rd : Mq194_ rd = some (.inr (3, [.ref nb, .ref (zv z vq6_), .int 0, .int 0, .ref by_, .int le, .int yq13_, .int yq14_, .int yq15_, .int yq16_])) := hc_rd
                  have hc_by_ : Mq194_ by_ = some (.inl (kA 1, 600, .inl fb)) := (hfr by_ n_by__rd).trans hc_by_
                  have hF : ∀ q, FrK T q → q ≠ rd → Mq194_ q = M q := fun q hq h0 => (hfr q h0).trans (hF q hq h0)
                  refine lv_aload_n hx hb dX4_readLine_124 rfl (lv_at hl 1 rfl) ?_
                  refine xg hC hK hH flX4_79 hc_rd rfl dX4_readLine_125 ?_
                  refine jif_eq (tgt := 135) hx hb dX4_readLine_128 (by decide) (fun cq195_ => ?_) (fun cq195_ => absurd cq195_ (by decide))
                  have hOb : opF (nC fb) le.toInt.toNat (zWit vq6_ = 1) 20 yq14_.toInt.toNat = yq14_.toInt.toNat := opF_n (fun h9 => cq170_ h9.2)
                  refine lv_aload_n hx hb dX4_readLine_135 rfl (lv_at hl 1 rfl) ?_
                  refine xg hC hK hH flX4_44 hc_rd rfl dX4_readLine_136 ?_
                  refine lv_iconst (v := 3) hx hb dX4_readLine_139 (by decide) ?_
                  refine jic_eq (tgt := 145) hx hb dX4_readLine_140 (by decide) (fun cq196_ => ?_) (fun cq196_ => ?_)
                  · skip
                    have cq196_ : yq13_.toInt = 3 := cq196_
                    refine lv_aload_n hx hb dX4_readLine_145 rfl (lv_at hl 1 rfl) ?_
                    refine goV hK hH (runV (As := []) (rest := []) hC hK hH (c_X4_move hc_rd hn_rd hc_by_ hn_by_ ht_nb (by omega) (by omega) (by omega)) mlX4_41 (rcvM hK hH hc_rd rfl) ⟨⟨Nat.le_of_ble_eq_true rfl, Nat.le_of_ble_eq_true rfl⟩, Nat.le_of_ble_eq_true rfl, Nat.le_of_ble_eq_true rfl⟩ rfl hl.1 rfl (Nat.le_of_ble_eq_true rfl) dX4_readLine_146) (fun Mq197_ Tq198_ Hq_ lcq_ hP hz hH => ?_)
                    try dsimp only at hP
                    obtain ⟨xq201_, ⟨l_xq201_, g_xq201_⟩, xq202_, ⟨l_xq202_, g_xq202_⟩, xq203_, ⟨l_xq203_, g_xq203_⟩, xq204_, ⟨l_xq204_, g_xq204_⟩, (⟨cq200_, hx_rd⟩), eT, hfr⟩ := hP
                    have eT := eT.symm; subst eT
                    have hc_rd : Mq197_ rd = some (.inr (3, [.ref nb, .ref (zv z vq6_), .int 0, .int 0, .ref by_, .int le, .int xq201_, .int xq202_, .int xq203_, .int xq204_])) := hx_rd
                    have hc_by_ : Mq197_ by_ = some (.inl (kA 1, 600, .inl fb)) := (hfr by_ (Or.inl hn_by_) n_by__rd).trans hc_by_
                    have hF : ∀ q, FrK T q → q ≠ rd → Mq197_ q = M q := fun q hq h0 => (hfr q hq  h0).trans (hF q hq h0)
                    have cq200_ : xq202_.toInt ≤ xq203_.toInt ∧ xq203_.toInt ≤ le.toInt ∧ Tk fb le xq201_ xq202_ xq203_ ∧ xq202_.toInt = (scE pSp (nC fb) le.toInt.toNat yq15_.toInt.toNat : Int) := cq200_
                    have hnq205_ : nxF (nC fb) le.toInt.toNat yq14_.toInt.toNat = xq202_.toInt.toNat := by have h8 := cq200_.2.2.2; rw [(hw0_yq12_).nx] at h8; omega
                    refine lv_iconst (v := 1) hx hb dX4_readLine_149 (by decide) ?_
                    exact ret_z hC hr hlk hK hH (by first | exact Or.inl rfl | exact Or.inr rfl | assumption) (⟨xq201_, ⟨by omega, by omega⟩, xq202_, ⟨by omega, by omega⟩, xq203_, ⟨by omega, by omega⟩, xq204_, iRg _, 0, ⟨by decide, by decide⟩, 0, ⟨by decide, by decide⟩, vq6_, by omega, Or.inl (⟨⟨by omega, by omega, cq200_.2.2.1, by rw [hL, hE, enT hOa hOb, if_pos (by have := (hw0_yq12_).ki; omega), hnq205_]⟩, rfl, hc_rd⟩), rfl, hF⟩) (Nat.le_of_ble_eq_true rfl) (Nat.le_of_ble_eq_true rfl) dX4_readLine_150
                  · skip
                    have cq196_ : yq13_.toInt ≠ 3 := cq196_
                    refine lv_iconst (v := 0) hx hb dX4_readLine_143 (by decide) ?_
                    exact ret_z hC hr hlk hK hH (by first | exact Or.inl rfl | exact Or.inr rfl | assumption) (⟨yq13_, ⟨by omega, by omega⟩, yq14_, ⟨by omega, by omega⟩, yq15_, ⟨by omega, by omega⟩, yq16_, iRg _, 0, ⟨by decide, by decide⟩, 0, ⟨by decide, by decide⟩, vq6_, by omega, Or.inr (⟨⟨by omega, by omega, hw0_yq12_, by rw [hL, hE, enT hOa hOb, if_neg (by have := (hw0_yq12_).ki; omega)]⟩, rfl, hc_rd⟩), rfl, hF⟩) (Nat.le_of_ble_eq_true rfl) (Nat.le_of_ble_eq_true rfl) dX4_readLine_144
        · skip
          have cq19_ : yq12_.toInt < xq18_.toInt := cq19_
          refine lv_iload_n hx hb dX4_readLine_22 rfl (lv_at hl 0 rfl) ?_
          refine lv_iconst (v := 5) hx hb dX4_readLine_23 (by decide) ?_
          refine jic_ge (tgt := 57) hx hb dX4_readLine_24 (by decide) (fun cq206_ => absurd cq206_ (by have := iRg yq12_; have : (5 : Int32).toInt = 5 := rfl; omega)) (fun cq206_ => ?_)
          have cq206_ : yq12_.toInt < 5 := cq206_
          refine lv_aload_n hx hb dX4_readLine_27 rfl (lv_at hl 1 rfl) ?_
          refine xg hC hK hH flX4_44 hc_rd rfl dX4_readLine_28 ?_
          refine lv_iconst (v := 2) hx hb dX4_readLine_31 (by decide) ?_
          refine jic_eq (tgt := 37) hx hb dX4_readLine_32 (by decide) (fun cq207_ => ?_) (fun cq207_ => ?_)
          · skip
            have cq207_ : yq13_.toInt = 2 := cq207_
            refine lv_aload_n hx hb dX4_readLine_37 rfl (lv_at hl 1 rfl) ?_
            refine xg hC hK hH flX4_9 hc_rd rfl dX4_readLine_38 ?_
            refine lv_iload_n hx hb dX4_readLine_41 rfl (lv_at hl 0 rfl) ?_
            refine lv_aload_n hx hb dX4_readLine_42 rfl (lv_at hl 1 rfl) ?_
            refine xg hC hK hH flX4_59 hc_rd rfl dX4_readLine_43 ?_
            refine tist (x := yq16_) hC hK hH ht_nb rfl (iIn (by omega) (by omega)) (iRg _).1 (iRg _).2 dX4_readLine_46 (fun Hq_ lcq_ Mq208_ _ hfr hH => ?_)
            have hc_rd : Mq208_ rd = some (.inr (3, [.ref nb, .ref (zv z vq6_), .int no, .int wi, .ref by_, .int le, .int yq13_, .int yq14_, .int yq15_, .int yq16_])) := (hfr rd (neF (Or.inl hn_rd) ht_nb (by decide))).trans hc_rd
            have hc_by_ : Mq208_ by_ = some (.inl (kA 1, 600, .inl fb)) := (hfr by_ (neF (Or.inl hn_by_) ht_nb (by decide))).trans hc_by_
            have hF : ∀ q, FrK T q → q ≠ rd → Mq208_ q = M q := fun q hq h0 => (hfr q (neF hq ht_nb (by decide))).trans (hF q hq h0)
            refine lv_aload_n hx hb dX4_readLine_47 rfl (lv_at hl 1 rfl) ?_
            refine goV hK hH (runV (As := []) (rest := []) hC hK hH (c_X4_move hc_rd hn_rd hc_by_ hn_by_ ht_nb (by omega) (by omega) (by omega)) mlX4_41 (rcvM hK hH hc_rd rfl) ⟨⟨Nat.le_of_ble_eq_true rfl, Nat.le_of_ble_eq_true rfl⟩, Nat.le_of_ble_eq_true rfl, Nat.le_of_ble_eq_true rfl⟩ rfl hl.1 rfl (Nat.le_of_ble_eq_true rfl) dX4_readLine_48) (fun Mq209_ Tq210_ Hq_ lcq_ hP hz hH => ?_)
            try dsimp only at hP
            obtain ⟨xq213_, ⟨l_xq213_, g_xq213_⟩, xq214_, ⟨l_xq214_, g_xq214_⟩, xq215_, ⟨l_xq215_, g_xq215_⟩, xq216_, ⟨l_xq216_, g_xq216_⟩, (⟨cq212_, hx_rd⟩), eT, hfr⟩ := hP
            have eT := eT.symm; subst eT
            have hc_rd : Mq209_ rd = some (.inr (3, [.ref nb, .ref (zv z vq6_), .int no, .int wi, .ref by_, .int le, .int xq213_, .int xq214_, .int xq215_, .int xq216_])) := hx_rd
            have hc_by_ : Mq209_ by_ = some (.inl (kA 1, 600, .inl fb)) := (hfr by_ (Or.inl hn_by_) n_by__rd).trans hc_by_
            have hF : ∀ q, FrK T q → q ≠ rd → Mq209_ q = M q := fun q hq h0 => (hfr q hq  h0).trans (hF q hq h0)
            have cq212_ : xq214_.toInt ≤ xq215_.toInt ∧ xq215_.toInt ≤ le.toInt ∧ Tk fb le xq213_ xq214_ xq215_ ∧ xq214_.toInt = (scE pSp (nC fb) le.toInt.toNat yq15_.toInt.toNat : Int) := cq212_
            have hnq217_ : nxF (nC fb) le.toInt.toNat yq14_.toInt.toNat = xq214_.toInt.toNat := by have h8 := cq212_.2.2.2; rw [(hw0_yq12_).nx] at h8; omega
            obtain ⟨zq218_, e_zq218_⟩ : ∃ y : Int32, y = yq12_ + 1 := ⟨_, rfl⟩
            refine lv_iinc (v := zq218_) (lv' := [(1, .int zq218_), (0, .ref rd)]) hx hb dX4_readLine_51 hl (k := 0) rfl (by rw [e_zq218_]; rfl) (by decide) rfl (fun ls hl => ?_)
            have h_zq218_ : zq218_.toInt = yq12_.toInt + 1 := by rw [e_zq218_, iAdd (by have : (1 : Int32).toInt = 1 := rfl; omega) (by have : (1 : Int32).toInt = 1 := rfl; omega)]; rfl
            refine lv_goto (tgt := 11) hx hb dX4_readLine_54 (by decide) ?_
            exact ih zq218_ xq213_ xq214_ xq215_ xq216_ _ _ _ ls (by have := iRg zq218_; have := iRg xq213_; have := iRg xq214_; have := iRg xq215_; have := iRg xq216_; omega) (by have := iRg zq218_; have := iRg xq213_; have := iRg xq214_; have := iRg xq215_; have := iRg xq216_; omega) (by have := iRg zq218_; have := iRg xq213_; have := iRg xq214_; have := iRg xq215_; have := iRg xq216_; omega) (by have := iRg zq218_; have := iRg xq213_; have := iRg xq214_; have := iRg xq215_; have := iRg xq216_; omega) (by have := iRg zq218_; have := iRg xq213_; have := iRg xq214_; have := iRg xq215_; have := iRg xq216_; omega) (by have := iRg zq218_; have := iRg xq213_; have := iRg xq214_; have := iRg xq215_; have := iRg xq216_; omega) (by have := iRg zq218_; have := iRg xq213_; have := iRg xq214_; have := iRg xq215_; have := iRg xq216_; omega) (by have := iRg zq218_; have := iRg xq213_; have := iRg xq214_; have := iRg xq215_; have := iRg xq216_; omega) (by have := iRg zq218_; have := iRg xq213_; have := iRg xq214_; have := iRg xq215_; have := iRg xq216_; omega) (by have := iRg zq218_; have := iRg xq213_; have := iRg xq214_; have := iRg xq215_; have := iRg xq216_; omega) (by have := iRg zq218_; have := iRg xq213_; have := iRg xq214_; have := iRg xq215_; have := iRg xq216_; omega) (cq212_.2.2.1) (by rw [hw1_yq12_, show (zNum vq6_).toInt.toNat - yq12_.toInt.toNat = ((zNum vq6_).toInt.toNat - zq218_.toInt.toNat) + 1 by omega, nmS (by have := hw0_yq12_.ki; omega), hnq217_]) hc_rd hc_by_ hF hH (lv_sub hl [0, 1] rfl)
          · skip
            have cq207_ : yq13_.toInt ≠ 2 := cq207_
            refine lv_iconst (v := 0) hx hb dX4_readLine_35 (by decide) ?_
            exact ret_z hC hr hlk hK hH (by first | exact Or.inl rfl | exact Or.inr rfl | assumption) (⟨yq13_, ⟨by omega, by omega⟩, yq14_, ⟨by omega, by omega⟩, yq15_, ⟨by omega, by omega⟩, yq16_, iRg _, no, ⟨by omega, by omega⟩, wi, ⟨by omega, by omega⟩, vq6_, by omega, Or.inr (⟨⟨by omega, by omega, hw0_yq12_, by rw [hL, hw1_yq12_, show (zNum vq6_).toInt.toNat - yq12_.toInt.toNat = ((zNum vq6_).toInt.toNat - yq12_.toInt.toNat - 1) + 1 by omega, nmN (by have := hw0_yq12_.ki; omega), enB]⟩, rfl, hc_rd⟩), rfl, hF⟩) (Nat.le_of_ble_eq_true rfl) (Nat.le_of_ble_eq_true rfl) dX4_readLine_36
    exact loop (Int.toNat (6 - 0)) 0 xq7_ xq8_ xq9_ xq10_ _ _ _ ls (by have : (0 : Int32).toInt = 0 := rfl; have := iRg xq7_; have := iRg xq8_; have := iRg xq9_; have := iRg xq10_; omega) (by have : (0 : Int32).toInt = 0 := rfl; have := iRg xq7_; have := iRg xq8_; have := iRg xq9_; have := iRg xq10_; omega) (by have : (0 : Int32).toInt = 0 := rfl; have := iRg xq7_; have := iRg xq8_; have := iRg xq9_; have := iRg xq10_; omega) (by have : (0 : Int32).toInt = 0 := rfl; have := iRg xq7_; have := iRg xq8_; have := iRg xq9_; have := iRg xq10_; omega) (by have : (0 : Int32).toInt = 0 := rfl; have := iRg xq7_; have := iRg xq8_; have := iRg xq9_; have := iRg xq10_; omega) (by have : (0 : Int32).toInt = 0 := rfl; have := iRg xq7_; have := iRg xq8_; have := iRg xq9_; have := iRg xq10_; omega) (by have : (0 : Int32).toInt = 0 := rfl; have := iRg xq7_; have := iRg xq8_; have := iRg xq9_; have := iRg xq10_; omega) (by have : (0 : Int32).toInt = 0 := rfl; have := iRg xq7_; have := iRg xq8_; have := iRg xq9_; have := iRg xq10_; omega) (by have : (0 : Int32).toInt = 0 := rfl; have := iRg xq7_; have := iRg xq8_; have := iRg xq9_; have := iRg xq10_; omega) (by have : (0 : Int32).toInt = 0 := rfl; have := iRg xq7_; have := iRg xq8_; have := iRg xq9_; have := iRg xq10_; omega) (by have : (0 : Int32).toInt = 0 := rfl; have := iRg xq7_; have := iRg xq8_; have := iRg xq9_; have := iRg xq10_; omega) (cq4_.2.2.1) (by rw [show (0 : Int32).toInt.toNat = 0 from rfl, Nat.sub_zero]) hc_rd hc_by_ hF hH hl
  · skip
    have eT := eT.symm; subst eT
    have er_rq3_ := er_rq3_.symm; subst er_rq3_
    have hc_rd : Mq1_ rd = some (.inr (3, [.ref nb, .ref (zv z vq6_), .int no, .int wi, .ref by_, .int le, .int xq7_, .int xq8_, .int xq9_, .int xq10_])) := hx_rd
    have hc_by_ : Mq1_ by_ = some (.inl (kA 1, 600, .inl fb)) := (hfr by_ (Or.inl hn_by_) n_by__rd).trans hc_by_
    have hF : ∀ q, FrK T q → q ≠ rd → Mq1_ q = M q := fun q hq h0 => (hfr q hq  h0).trans (hF q hq h0)
    have cq5_ : xq8_.toInt ≤ xq9_.toInt ∧ xq9_.toInt ≤ le.toInt ∧ Tk fb le xq7_ xq8_ xq9_ ∧ xq8_ = pl ∧ vF (nC fb) le.toInt.toNat pl.toInt.toNat = 19 := cq5_
    refine jif_ne (tgt := 9) hx hb dX4_readLine_4 (by decide) (fun cq219_ => absurd cq219_ (by decide)) (fun cq219_ => ?_)
    refine lv_iconst (v := 0) hx hb dX4_readLine_7 (by decide) ?_
    exact ret_z hC hr hlk hK hH (by first | exact Or.inl rfl | exact Or.inr rfl | assumption) (⟨xq7_, ⟨by omega, by omega⟩, xq8_, ⟨by omega, by omega⟩, xq9_, ⟨by omega, by omega⟩, xq10_, iRg _, no, ⟨by omega, by omega⟩, wi, ⟨by omega, by omega⟩, vq6_, by omega, Or.inr (⟨⟨by omega, by omega, cq5_.2.2.1, by rw [lnN cq5_.2.2.2.2, cq5_.2.2.2.1]⟩, rfl, hc_rd⟩), rfl, hF⟩) (Nat.le_of_ble_eq_true rfl) (Nat.le_of_ble_eq_true rfl) dX4_readLine_8
set_option maxHeartbeats 4000000 in
set_option maxRecDepth 100000 in
theorem c_X4_faultPlace {z : zD} {l : Launch} {D : va_G} {kA : Nat → ClassId} {M : mM} {T : mT} {sz : Nat} {rd nb by_ vi : Nat} {no wi le ki pl be va : Int32} {fb : Nat → Int32} (hc_rd : M rd = some (.inr (3, [.ref nb, .ref (zv z vi), .int no, .int wi, .ref by_, .int le, .int ki, .int pl, .int be, .int va]))) (hn_rd : T rd = none) (hc_by_ : M by_ = some (.inl (kA 1, 600, .inl fb))) (hn_by_ : T by_ = none) (ht_nb : T nb = some 12) (hvi : vi < 19) (hno : 0 ≤ no.toInt ∧ no.toInt ≤ 1) (hwi : 0 ≤ wi.toInt ∧ wi.toInt ≤ 1) (hle : 0 ≤ le.toInt ∧ le.toInt ≤ 600) (hki : 0 ≤ ki.toInt ∧ ki.toInt ≤ 4) (hpl : 0 ≤ pl.toInt) (hpb : pl.toInt ≤ be.toInt) (hbe : be.toInt ≤ le.toInt) (htk : Tk fb le ki pl be) : mCiB z l yX4_faultPlace cX4_faultPlace 2 (some .int) 7 0 0 D kA M T sz [.ref rd] (fun r u => ∃ ki2 : Int32, ((0 : Int) ≤ ki2.toInt ∧ ki2.toInt ≤ 4) ∧ ∃ pl2 : Int32, ((0 : Int) ≤ pl2.toInt ∧ pl2.toInt ≤ 600) ∧ ∃ be2 : Int32, ((0 : Int) ≤ be2.toInt ∧ be2.toInt ≤ 600) ∧ ∃ va2 : Int32, ((-2147483648 : Int) ≤ va2.toInt ∧ va2.toInt ≤ 2147483647) ∧ ∃ no2 : Int32, ((0 : Int) ≤ no2.toInt ∧ no2.toInt ≤ 1) ∧ ∃ wi2 : Int32, ((0 : Int) ≤ wi2.toInt ∧ wi2.toInt ≤ 1) ∧ ∃ vi2 : Nat, (vi2 < 19) ∧ ((pl2.toInt ≤ be2.toInt ∧ be2.toInt ≤ le.toInt ∧ r.toInt = ftF (nC fb) le.toInt.toNat (le.toInt.toNat + 1) pl.toInt.toNat) ∧ u.1 rd = some (.inr (3, [.ref nb, .ref (zv z vi2), .int no2, .int wi2, .ref by_, .int le, .int ki2, .int pl2, .int be2, .int va2]))) ∧ u.2 = T ∧ (∀ q, FrK T q → q ≠ rd → u.1 q = M q)) := by
  unfold mCiB
  refine start_WB (by decide) (Nat.le_of_ble_eq_true rfl) ?_
  intro p e s m below meth c ls hC hr hlk hnm hK hH hsz hZ hl
  have hx := hC.1
  have hb := hC.2.1
  have hl : lv_has ls 2 [(0, .ref rd)] := hl
  have hF : ∀ q, FrK T q → q ≠ rd → M q = M q := fun q _ _ => rfl
  have n_rd_by_ : rd ≠ by_ := neM hc_rd hc_by_ (by simp)
  have n_by__rd : by_ ≠ rd := neM hc_by_ hc_rd (by simp)
  refine lv_iconst (v := 0) hx hb dX4_faultPlace_0 (by decide) ?_
  refine lv_istore_n (lv' := [(1, .int 0), (0, .ref rd)]) hx hb dX4_faultPlace_1 rfl hl (by decide) rfl (fun ls hl => ?_)
  have loop : ∀ (n : Nat) (yq1_ : Int32) (yq2_ : Nat) (yq3_ : Int32) (yq4_ : Int32) (yq5_ : Int32) (yq6_ : Int32) (yq7_ : Int32) (yq8_ : Int32) (Hq_ : Heap) (lcq_ : List Loc) (Mq9_ : mM) (ls : Array Slot), le.toInt - yq1_.toInt + 2 ≤ (n : Int) → (0 : Int) ≤ yq1_.toInt → yq1_.toInt ≤ 601 → (0 : Int) ≤ yq3_.toInt → yq3_.toInt ≤ 1 → (0 : Int) ≤ yq4_.toInt → yq4_.toInt ≤ 1 → (0 : Int) ≤ yq5_.toInt → yq5_.toInt ≤ 4 → (0 : Int) ≤ yq6_.toInt → yq6_.toInt ≤ 600 → (0 : Int) ≤ yq7_.toInt → yq7_.toInt ≤ 600 → (yq2_ < 19) → (yq6_.toInt ≤ yq7_.toInt) → (yq7_.toInt ≤ le.toInt) → (yq1_.toInt ≤ le.toInt + 1) → (Tk fb le yq5_ yq6_ yq7_) → (ftF (nC fb) le.toInt.toNat (le.toInt.toNat + 1) pl.toInt.toNat = ftF (nC fb) le.toInt.toNat (le.toInt.toNat + 1 - yq1_.toInt.toNat) yq6_.toInt.toNat) → Mq9_ rd = some (.inr (3, [.ref nb, .ref (zv z yq2_), .int yq3_, .int yq4_, .ref by_, .int le, .int yq5_, .int yq6_, .int yq7_, .int yq8_])) → Mq9_ by_ = some (.inl (kA 1, 600, .inl fb)) → (∀ q, FrK T q → q ≠ rd → Mq9_ q = M q) → mS D kA Mq9_ T (mA M T sz) s.heap Hq_ lcq_ → lv_has ls 2 [(1, .int yq1_), (0, .ref rd)] → W p l e (rmL 7 0 0) s m ([.ref rd] : List Value).toArray below meth c Hq_ lcq_ 0 0 (MQ below (va_Qi (fun r u => ∃ ki2 : Int32, ((0 : Int) ≤ ki2.toInt ∧ ki2.toInt ≤ 4) ∧ ∃ pl2 : Int32, ((0 : Int) ≤ pl2.toInt ∧ pl2.toInt ≤ 600) ∧ ∃ be2 : Int32, ((0 : Int) ≤ be2.toInt ∧ be2.toInt ≤ 600) ∧ ∃ va2 : Int32, ((-2147483648 : Int) ≤ va2.toInt ∧ va2.toInt ≤ 2147483647) ∧ ∃ no2 : Int32, ((0 : Int) ≤ no2.toInt ∧ no2.toInt ≤ 1) ∧ ∃ wi2 : Int32, ((0 : Int) ≤ wi2.toInt ∧ wi2.toInt ≤ 1) ∧ ∃ vi2 : Nat, (vi2 < 19) ∧ ((pl2.toInt ≤ be2.toInt ∧ be2.toInt ≤ le.toInt ∧ r.toInt = ftF (nC fb) le.toInt.toNat (le.toInt.toNat + 1) pl.toInt.toNat) ∧ u.1 rd = some (.inr (3, [.ref nb, .ref (zv z vi2), .int no2, .int wi2, .ref by_, .int le, .int ki2, .int pl2, .int be2, .int va2]))) ∧ u.2 = T ∧ (∀ q, FrK T q → q ≠ rd → u.1 q = M q)) (mB D kA M T sz) (mA M T sz)) ([.ref rd] : List Value).toArray s 0 0 (mA M T sz)) (F0 m 2 ls []) := by
    intro n
    induction n with
    | zero =>
      intro yq1_ yq2_ yq3_ yq4_ yq5_ yq6_ yq7_ yq8_ Hq_ lcq_ Mq9_ ls hme l_yq1_ g_yq1_ l_yq3_ g_yq3_ l_yq4_ g_yq4_ l_yq5_ g_yq5_ l_yq6_ g_yq6_ l_yq7_ g_yq7_ hv0_yq1_ hv1_yq1_ hv2_yq1_ hv3_yq1_ hw0_yq1_ hw1_yq1_ hc_rd hc_by_ hF hH hl
      exfalso; omega
    | succ n ih =>
      intro yq1_ yq2_ yq3_ yq4_ yq5_ yq6_ yq7_ yq8_ Hq_ lcq_ Mq9_ ls hme l_yq1_ g_yq1_ l_yq3_ g_yq3_ l_yq4_ g_yq4_ l_yq5_ g_yq5_ l_yq6_ g_yq6_ l_yq7_ g_yq7_ hv0_yq1_ hv1_yq1_ hv2_yq1_ hv3_yq1_ hw0_yq1_ hw1_yq1_ hc_rd hc_by_ hF hH hl
      refine lv_iload_n hx hb dX4_faultPlace_2 rfl (lv_at hl 0 rfl) ?_
      refine lv_aload_n hx hb dX4_faultPlace_3 rfl (lv_at hl 1 rfl) ?_
      refine xg hC hK hH flX4_34 hc_rd rfl dX4_faultPlace_4 ?_
      refine jic_gt (tgt := 35) hx hb dX4_faultPlace_7 (by decide) (fun cq10_ => ?_) (fun cq10_ => ?_)
      · skip
        have cq10_ : le.toInt < yq1_.toInt := cq10_
        refine lv_iconst (v := -1) hx hb dX4_faultPlace_35 (by decide) ?_
        exact ret_i hC hr hlk hK hH (⟨yq5_, ⟨by omega, by omega⟩, yq6_, ⟨by omega, by omega⟩, yq7_, ⟨by omega, by omega⟩, yq8_, iRg _, yq3_, ⟨by omega, by omega⟩, yq4_, ⟨by omega, by omega⟩, yq2_, by omega, ⟨⟨by omega, by omega, by first | (rw [hw1_yq1_, show le.toInt.toNat + 1 - yq1_.toInt.toNat = 0 by omega]; rfl) | (rw [hw1_yq1_, show le.toInt.toNat + 1 - yq1_.toInt.toNat = (le.toInt.toNat - yq1_.toInt.toNat) + 1 by omega, ftE (by have := hw0_yq1_.ki; omega)]; rfl)⟩, hc_rd⟩, rfl, hF⟩) (Nat.le_of_ble_eq_true rfl) (Nat.le_of_ble_eq_true rfl) dX4_faultPlace_36
      · skip
        have cq10_ : yq1_.toInt ≤ le.toInt := cq10_
        refine lv_aload_n hx hb dX4_faultPlace_10 rfl (lv_at hl 1 rfl) ?_
        refine xg hC hK hH flX4_44 hc_rd rfl dX4_faultPlace_11 ?_
        refine jif_eq (tgt := 35) hx hb dX4_faultPlace_14 (by decide) (fun cq11_ => ?_) (fun cq11_ => ?_)
        · skip
          have cq11_ : yq5_.toInt = 0 := cq11_
          refine lv_iconst (v := -1) hx hb dX4_faultPlace_35 (by decide) ?_
          exact ret_i hC hr hlk hK hH (⟨yq5_, ⟨by omega, by omega⟩, yq6_, ⟨by omega, by omega⟩, yq7_, ⟨by omega, by omega⟩, yq8_, iRg _, yq3_, ⟨by omega, by omega⟩, yq4_, ⟨by omega, by omega⟩, yq2_, by omega, ⟨⟨by omega, by omega, by first | (rw [hw1_yq1_, show le.toInt.toNat + 1 - yq1_.toInt.toNat = 0 by omega]; rfl) | (rw [hw1_yq1_, show le.toInt.toNat + 1 - yq1_.toInt.toNat = (le.toInt.toNat - yq1_.toInt.toNat) + 1 by omega, ftE (by have := hw0_yq1_.ki; omega)]; rfl)⟩, hc_rd⟩, rfl, hF⟩) (Nat.le_of_ble_eq_true rfl) (Nat.le_of_ble_eq_true rfl) dX4_faultPlace_36
        · skip
          have cq11_ : yq5_.toInt ≠ 0 := cq11_
          refine lv_aload_n hx hb dX4_faultPlace_17 rfl (lv_at hl 1 rfl) ?_
          refine goI hK hH (runVB (As := []) (rest := []) hC hK hH hZ (c_X4_readLine hc_rd hn_rd hc_by_ hn_by_ ht_nb (by omega) (by omega) (by omega) (by omega) (by omega) (by omega) (by omega) (by omega) (by exact hw0_yq1_)) mlX4_47 (rcvM hK hH hc_rd rfl) ⟨⟨Nat.le_of_ble_eq_true rfl, Nat.le_of_ble_eq_true rfl⟩, Nat.le_of_ble_eq_true rfl, Nat.le_of_ble_eq_true rfl⟩ rfl hl.1 rfl (Nat.le_of_ble_eq_true rfl) dX4_faultPlace_18) (fun rq14_ Mq12_ Tq13_ Hq_ lcq_ hP hz hH => ?_)
          try dsimp only at hP
          obtain ⟨xq18_, ⟨l_xq18_, g_xq18_⟩, xq19_, ⟨l_xq19_, g_xq19_⟩, xq20_, ⟨l_xq20_, g_xq20_⟩, xq21_, ⟨l_xq21_, g_xq21_⟩, xq22_, ⟨l_xq22_, g_xq22_⟩, xq23_, ⟨l_xq23_, g_xq23_⟩, vq17_, h_vq17_, (⟨cq15_, er_rq14_, hx_rd⟩ | ⟨cq16_, er_rq14_, hx_rd⟩), eT, hfr⟩ := hP
          · skip
            have eT := eT.symm; subst eT
            have er_rq14_ := er_rq14_.symm; subst er_rq14_
            have hc_rd : Mq12_ rd = some (.inr (3, [.ref nb, .ref (zv z vq17_), .int xq22_, .int xq23_, .ref by_, .int le, .int xq18_, .int xq19_, .int xq20_, .int xq21_])) := hx_rd
            have hc_by_ : Mq12_ by_ = some (.inl (kA 1, 600, .inl fb)) := (hfr by_ (Or.inl hn_by_) n_by__rd).trans hc_by_
            have hF : ∀ q, FrK T q → q ≠ rd → Mq12_ q = M q := fun q hq h0 => (hfr q hq  h0).trans (hF q hq h0)
            have cq15_ : xq19_.toInt ≤ xq20_.toInt ∧ xq20_.toInt ≤ le.toInt ∧ Tk fb le xq18_ xq19_ xq20_ ∧ lnF (nC fb) le.toInt.toNat yq6_.toInt.toNat = (true, xq19_.toInt.toNat) := cq15_
            refine jif_ne (tgt := 29) hx hb dX4_faultPlace_21 (by decide) (fun cq24_ => ?_) (fun cq24_ => absurd cq24_ (by decide))
            obtain ⟨zq25_, e_zq25_⟩ : ∃ y : Int32, y = yq1_ + 1 := ⟨_, rfl⟩
            refine lv_iinc (v := zq25_) (lv' := [(1, .int zq25_), (0, .ref rd)]) hx hb dX4_faultPlace_29 hl (k := 0) rfl (by rw [e_zq25_]; rfl) (by decide) rfl (fun ls hl => ?_)
            have h_zq25_ : zq25_.toInt = yq1_.toInt + 1 := by rw [e_zq25_, iAdd (by have : (1 : Int32).toInt = 1 := rfl; omega) (by have : (1 : Int32).toInt = 1 := rfl; omega)]; rfl
            refine lv_goto (tgt := 2) hx hb dX4_faultPlace_32 (by decide) ?_
            exact ih zq25_ vq17_ xq22_ xq23_ xq18_ xq19_ xq20_ xq21_ _ _ _ ls (by have := iRg zq25_; have := iRg xq22_; have := iRg xq23_; have := iRg xq18_; have := iRg xq19_; have := iRg xq20_; have := iRg xq21_; omega) (by have := iRg zq25_; have := iRg xq22_; have := iRg xq23_; have := iRg xq18_; have := iRg xq19_; have := iRg xq20_; have := iRg xq21_; omega) (by have := iRg zq25_; have := iRg xq22_; have := iRg xq23_; have := iRg xq18_; have := iRg xq19_; have := iRg xq20_; have := iRg xq21_; omega) (by have := iRg zq25_; have := iRg xq22_; have := iRg xq23_; have := iRg xq18_; have := iRg xq19_; have := iRg xq20_; have := iRg xq21_; omega) (by have := iRg zq25_; have := iRg xq22_; have := iRg xq23_; have := iRg xq18_; have := iRg xq19_; have := iRg xq20_; have := iRg xq21_; omega) (by have := iRg zq25_; have := iRg xq22_; have := iRg xq23_; have := iRg xq18_; have := iRg xq19_; have := iRg xq20_; have := iRg xq21_; omega) (by have := iRg zq25_; have := iRg xq22_; have := iRg xq23_; have := iRg xq18_; have := iRg xq19_; have := iRg xq20_; have := iRg xq21_; omega) (by have := iRg zq25_; have := iRg xq22_; have := iRg xq23_; have := iRg xq18_; have := iRg xq19_; have := iRg xq20_; have := iRg xq21_; omega) (by have := iRg zq25_; have := iRg xq22_; have := iRg xq23_; have := iRg xq18_; have := iRg xq19_; have := iRg xq20_; have := iRg xq21_; omega) (by have := iRg zq25_; have := iRg xq22_; have := iRg xq23_; have := iRg xq18_; have := iRg xq19_; have := iRg xq20_; have := iRg xq21_; omega) (by have := iRg zq25_; have := iRg xq22_; have := iRg xq23_; have := iRg xq18_; have := iRg xq19_; have := iRg xq20_; have := iRg xq21_; omega) (by have := iRg zq25_; have := iRg xq22_; have := iRg xq23_; have := iRg xq18_; have := iRg xq19_; have := iRg xq20_; have := iRg xq21_; omega) (by have := iRg zq25_; have := iRg xq22_; have := iRg xq23_; have := iRg xq18_; have := iRg xq19_; have := iRg xq20_; have := iRg xq21_; omega) (by have := iRg zq25_; have := iRg xq22_; have := iRg xq23_; have := iRg xq18_; have := iRg xq19_; have := iRg xq20_; have := iRg xq21_; omega) (by have := iRg zq25_; have := iRg xq22_; have := iRg xq23_; have := iRg xq18_; have := iRg xq19_; have := iRg xq20_; have := iRg xq21_; omega) (by have := iRg zq25_; have := iRg xq22_; have := iRg xq23_; have := iRg xq18_; have := iRg xq19_; have := iRg xq20_; have := iRg xq21_; omega) (by have := iRg zq25_; have := iRg xq22_; have := iRg xq23_; have := iRg xq18_; have := iRg xq19_; have := iRg xq20_; have := iRg xq21_; omega) (cq15_.2.2.1) (by rw [hw1_yq1_, show le.toInt.toNat + 1 - yq1_.toInt.toNat = (le.toInt.toNat + 1 - zq25_.toInt.toNat) + 1 by omega, ftY (by have := hw0_yq1_.ki; omega) cq15_.2.2.2]) hc_rd hc_by_ hF hH (lv_sub hl [0, 1] rfl)
          · skip
            have eT := eT.symm; subst eT
            have er_rq14_ := er_rq14_.symm; subst er_rq14_
            have hc_rd : Mq12_ rd = some (.inr (3, [.ref nb, .ref (zv z vq17_), .int xq22_, .int xq23_, .ref by_, .int le, .int xq18_, .int xq19_, .int xq20_, .int xq21_])) := hx_rd
            have hc_by_ : Mq12_ by_ = some (.inl (kA 1, 600, .inl fb)) := (hfr by_ (Or.inl hn_by_) n_by__rd).trans hc_by_
            have hF : ∀ q, FrK T q → q ≠ rd → Mq12_ q = M q := fun q hq h0 => (hfr q hq  h0).trans (hF q hq h0)
            have cq16_ : xq19_.toInt ≤ xq20_.toInt ∧ xq20_.toInt ≤ le.toInt ∧ Tk fb le xq18_ xq19_ xq20_ ∧ lnF (nC fb) le.toInt.toNat yq6_.toInt.toNat = (false, xq19_.toInt.toNat) := cq16_
            refine jif_ne (tgt := 29) hx hb dX4_faultPlace_21 (by decide) (fun cq26_ => absurd cq26_ (by decide)) (fun cq26_ => ?_)
            refine lv_aload_n hx hb dX4_faultPlace_24 rfl (lv_at hl 1 rfl) ?_
            refine xg hC hK hH flX4_51 hc_rd rfl dX4_faultPlace_25 ?_
            exact ret_i hC hr hlk hK hH (⟨xq18_, ⟨by omega, by omega⟩, xq19_, ⟨by omega, by omega⟩, xq20_, ⟨by omega, by omega⟩, xq21_, iRg _, xq22_, ⟨by omega, by omega⟩, xq23_, ⟨by omega, by omega⟩, vq17_, by omega, ⟨⟨by omega, by omega, by rw [hw1_yq1_, show le.toInt.toNat + 1 - yq1_.toInt.toNat = (le.toInt.toNat - yq1_.toInt.toNat) + 1 by omega, ftN (by have := hw0_yq1_.ki; omega) cq16_.2.2.2]; omega⟩, hc_rd⟩, rfl, hF⟩) (Nat.le_of_ble_eq_true rfl) (Nat.le_of_ble_eq_true rfl) dX4_faultPlace_28
  exact loop (Int.toNat (le.toInt - 0 + 2)) 0 vi no wi ki pl be va _ _ _ ls (by have : (0 : Int32).toInt = 0 := rfl; have := iRg no; have := iRg wi; have := iRg ki; have := iRg pl; have := iRg be; have := iRg va; omega) (by have : (0 : Int32).toInt = 0 := rfl; have := iRg no; have := iRg wi; have := iRg ki; have := iRg pl; have := iRg be; have := iRg va; omega) (by have : (0 : Int32).toInt = 0 := rfl; have := iRg no; have := iRg wi; have := iRg ki; have := iRg pl; have := iRg be; have := iRg va; omega) (by have : (0 : Int32).toInt = 0 := rfl; have := iRg no; have := iRg wi; have := iRg ki; have := iRg pl; have := iRg be; have := iRg va; omega) (by have : (0 : Int32).toInt = 0 := rfl; have := iRg no; have := iRg wi; have := iRg ki; have := iRg pl; have := iRg be; have := iRg va; omega) (by have : (0 : Int32).toInt = 0 := rfl; have := iRg no; have := iRg wi; have := iRg ki; have := iRg pl; have := iRg be; have := iRg va; omega) (by have : (0 : Int32).toInt = 0 := rfl; have := iRg no; have := iRg wi; have := iRg ki; have := iRg pl; have := iRg be; have := iRg va; omega) (by have : (0 : Int32).toInt = 0 := rfl; have := iRg no; have := iRg wi; have := iRg ki; have := iRg pl; have := iRg be; have := iRg va; omega) (by have : (0 : Int32).toInt = 0 := rfl; have := iRg no; have := iRg wi; have := iRg ki; have := iRg pl; have := iRg be; have := iRg va; omega) (by have : (0 : Int32).toInt = 0 := rfl; have := iRg no; have := iRg wi; have := iRg ki; have := iRg pl; have := iRg be; have := iRg va; omega) (by have : (0 : Int32).toInt = 0 := rfl; have := iRg no; have := iRg wi; have := iRg ki; have := iRg pl; have := iRg be; have := iRg va; omega) (by have : (0 : Int32).toInt = 0 := rfl; have := iRg no; have := iRg wi; have := iRg ki; have := iRg pl; have := iRg be; have := iRg va; omega) (by have : (0 : Int32).toInt = 0 := rfl; have := iRg no; have := iRg wi; have := iRg ki; have := iRg pl; have := iRg be; have := iRg va; omega) (by have : (0 : Int32).toInt = 0 := rfl; have := iRg no; have := iRg wi; have := iRg ki; have := iRg pl; have := iRg be; have := iRg va; omega) (by have : (0 : Int32).toInt = 0 := rfl; have := iRg no; have := iRg wi; have := iRg ki; have := iRg pl; have := iRg be; have := iRg va; omega) (by have : (0 : Int32).toInt = 0 := rfl; have := iRg no; have := iRg wi; have := iRg ki; have := iRg pl; have := iRg be; have := iRg va; omega) (by have : (0 : Int32).toInt = 0 := rfl; have := iRg no; have := iRg wi; have := iRg ki; have := iRg pl; have := iRg be; have := iRg va; omega) (htk) (by rw [show (0 : Int32).toInt.toNat = 0 from rfl, Nat.sub_zero]) hc_rd hc_by_ hF hH hl
