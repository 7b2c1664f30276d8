theorem mmX4_28 : MML RX4 28 := ⟨TB_t 414 (by decide +kernel) rfl, TB_t 415 (by decide +kernel) rfl, TB_t 12 (by decide +kernel) rfl, TB_t 416 (by decide +kernel) rfl⟩
set_option maxHeartbeats 4000000 in
set_option maxRecDepth 100000 in
theorem c_X4_open {l : Launch} {D : va_G} {kA : Nat → ClassId} {M : mM} {T : mT} {sz : Nat} {rd nb by_ vb : Nat} {no wi le ki pl be va : Int32} {tp : Nat} {sz_ : Int32} (hc_rd : M rd = some (.inr (3, [.ref nb, .ref vb, .int no, .int wi, .ref by_, .int le, .int ki, .int pl, .int be, .int va]))) (hn_rd : T rd = none) (ht_nb : T nb = some 12) (ht_tp : T tp = some 7) (hsz_ : 0 ≤ sz_.toInt ∧ sz_.toInt ≤ 600) : mCv l yX4_open cX4_open 3 3 0 0 D kA M T sz [.ref rd, .ref tp, .int sz_] (fun u => ∃ ki2 : Int32, ((0 : Int) ≤ ki2.toInt ∧ ki2.toInt ≤ 4) ∧ ∃ pl2 : Int32, ((0 : Int) ≤ pl2.toInt ∧ pl2.toInt ≤ 600) ∧ ∃ be2 : Int32, ((0 : Int) ≤ be2.toInt ∧ be2.toInt ≤ 600) ∧ ∃ va2 : Int32, ((-2147483648 : Int) ≤ va2.toInt ∧ va2.toInt ≤ 2147483647) ∧ ((pl2.toInt ≤ be2.toInt ∧ be2.toInt ≤ sz_.toInt) ∧ u.1 rd = some (.inr (3, [.ref nb, .ref vb, .int no, .int wi, .ref tp, .int sz_, .int ki2, .int pl2, .int be2, .int va2]))) ∧ u.2 = T ∧ (∀ q, FrK T q → q ≠ rd → u.1 q = M q)) := by
  unfold mCv
  refine start_W (by decide) (Nat.le_of_ble_eq_true rfl) ?_
  intro p e s m below meth c ls hC hr hlk hnm hK hH hsz hl
  have hx := hC.1
  have hb := hC.2.1
  have hl : lv_has ls 3 [(0, .ref rd), (1, .ref tp), (2, .int sz_)] := hl
  have hF : ∀ q, FrK T q → q ≠ rd → M q = M q := fun q _ _ => rfl
  refine lv_aload_n hx hb dX4_open_0 rfl (lv_at hl 0 rfl) ?_
  refine lv_aload_n hx hb dX4_open_1 rfl (lv_at hl 1 rfl) ?_
  refine yp (v := .ref tp) hC hK hH flX4_24 hc_rd (noT hn_rd) rfl rfl (Nat.le_of_ble_eq_true rfl) dX4_open_2 (fun Hq_ lcq_ Mq1_ hc_rd hfr hH => ?_)
  have hc_rd : Mq1_ rd = some (.inr (3, [.ref nb, .ref vb, .int no, .int wi, .ref tp, .int le, .int ki, .int pl, .int be, .int va])) := hc_rd
  have hF : ∀ q, FrK T q → q ≠ rd → Mq1_ q = M q := fun q hq h0 => (hfr q h0).trans (hF q hq h0)
  refine lv_aload_n hx hb dX4_open_5 rfl (lv_at hl 0 rfl) ?_
  refine lv_iload_n hx hb dX4_open_6 rfl (lv_at hl 2 rfl) ?_
  refine lv_aload_n hx hb dX4_open_7 rfl (lv_at hl 1 rfl) ?_
  refine tlen (v := 600) hC hK hH ht_tp rfl rfl rfl dX4_open_8 ?_
  refine xmin hC hl.1 mmX4_28 (Nat.le_of_ble_eq_true rfl) (Nat.le_of_ble_eq_true rfl) (Nat.le_of_ble_eq_true rfl) (Nat.le_of_ble_eq_true rfl) dX4_open_9 ?_
  refine lv_cst (v := sz_) (if_neg (by rw [iLt]; have : (600 : Int32).toInt = 600 := rfl; omega)) ?_
  refine yp (v := .int sz_) hC hK hH flX4_34 hc_rd (noT hn_rd) rfl rfl (Nat.le_of_ble_eq_true rfl) dX4_open_12 (fun Hq_ lcq_ Mq2_ hc_rd hfr hH => ?_)
  have hc_rd : Mq2_ rd = some (.inr (3, [.ref nb, .ref vb, .int no, .int wi, .ref tp, .int sz_, .int ki, .int pl, .int be, .int va])) := hc_rd
  have hF : ∀ q, FrK T q → q ≠ rd → Mq2_ q = M q := fun q hq h0 => (hfr q h0).trans (hF q hq h0)
  refine lv_aload_n hx hb dX4_open_15 rfl (lv_at hl 0 rfl) ?_
  refine lv_iconst (v := 0) hx hb dX4_open_16 (by decide) ?_
  refine yp (v := .int 0) hC hK hH flX4_38 hc_rd (noT hn_rd) rfl rfl (Nat.le_of_ble_eq_true rfl) dX4_open_17 (fun Hq_ lcq_ Mq3_ hc_rd hfr hH => ?_)
  have hc_rd : Mq3_ rd = some (.inr (3, [.ref nb, .ref vb, .int no, .int wi, .ref tp, .int sz_, .int ki, .int pl, .int 0, .int va])) := hc_rd
  have hF : ∀ q, FrK T q → q ≠ rd → Mq3_ q = M q := fun q hq h0 => (hfr q h0).trans (hF q hq h0)
  refine lv_aload_n hx hb dX4_open_20 rfl (lv_at hl 0 rfl) ?_
  refine goV hK hH (runV (As := []) (rest := []) hC hK hH (c_X4_move hc_rd hn_rd ht_nb ht_tp (by omega) (by have : (0 : Int32).toInt = 0 := rfl; omega) (by decide)) mlX4_41 (rcvM hK hH hc_rd rfl) ⟨⟨Nat.le_of_ble_eq_true rfl, Nat.le_of_ble_eq_true rfl⟩, Nat.le_of_ble_eq_true rfl, Nat.le_of_ble_eq_true rfl⟩ rfl hl.1 rfl (Nat.le_of_ble_eq_true rfl) dX4_open_21) (fun Mq4_ Tq5_ Hq_ lcq_ hP hz hH => ?_)
  try dsimp only at hP
  obtain ⟨xq8_, ⟨l_xq8_, g_xq8_⟩, xq9_, ⟨l_xq9_, g_xq9_⟩, xq10_, ⟨l_xq10_, g_xq10_⟩, xq11_, ⟨l_xq11_, g_xq11_⟩, (⟨cq7_, hx_rd⟩), eT, hfr⟩ := hP
  have eT := eT.symm; subst eT
  have hc_rd : Mq4_ rd = some (.inr (3, [.ref nb, .ref vb, .int no, .int wi, .ref tp, .int sz_, .int xq8_, .int xq9_, .int xq10_, .int xq11_])) := hx_rd
  have hF : ∀ q, FrK T q → q ≠ rd → Mq4_ q = M q := fun q hq h0 => (hfr q hq  h0).trans (hF q hq h0)
  have cq7_ : xq9_.toInt ≤ xq10_.toInt ∧ xq10_.toInt ≤ sz_.toInt := cq7_
  exact ret_v hC hr hlk hK hH (⟨xq8_, ⟨by omega, by omega⟩, xq9_, ⟨by omega, by omega⟩, xq10_, ⟨by omega, by omega⟩, xq11_, iRg _, ⟨by omega, hc_rd⟩, rfl, hF⟩) (Nat.le_of_ble_eq_true rfl) (Nat.le_of_ble_eq_true rfl) dX4_open_24
set_option maxHeartbeats 4000000 in
set_option maxRecDepth 100000 in
theorem c_X4_isWord {z : zD} {l : Launch} {D : va_G} {kA : Nat → ClassId} {M : mM} {T : mT} {sz : Nat} {rd nb by_ vb : Nat} {no wi le ki pl be va : Int32}{i : Nat} (hc_rd : M rd = some (.inr (3, [.ref nb, .ref vb, .int no, .int wi, .ref by_, .int le, .int ki, .int pl, .int be, .int va]))) (hn_rd : T rd = none) (ht_nb : T nb = some 12) (ht_by_ : T by_ = some 7) (hno : 0 ≤ no.toInt ∧ no.toInt ≤ 1) (hwi : 0 ≤ wi.toInt ∧ wi.toInt ≤ 1) (hle : 0 ≤ le.toInt ∧ le.toInt ≤ 600) (hki : 0 ≤ ki.toInt ∧ ki.toInt ≤ 4) (hpl : 0 ≤ pl.toInt) (hpb : pl.toInt ≤ be.toInt) (hbe : be.toInt ≤ le.toInt) (hi : i < 21) : mCiB z l yX4_isWord cX4_isWord 3 (some .boolean) 4 0 0 D kA M T sz [.ref rd, .ref (zs z i)] (fun r u => ((r = 1) ∨ (r = 0)) ∧ u.2 = T ∧ u.1 = M) := by
  unfold mCiB
  refine start_WB (by decide) (Nat.le_of_ble_eq_true rfl) ?_
  intro p e s m below meth c ls hC hr hlk hnm hK hH hsz hZ hl
  have hx := hC.1
  have hb := hC.2.1
  have hl : lv_has ls 3 [(0, .ref rd), (1, .ref (zs z i))] := hl
  refine lv_aload_n hx hb dX4_isWord_0 rfl (lv_at hl 0 rfl) ?_
  refine xg hC hK hH flX4_44 hc_rd rfl dX4_isWord_1 ?_
  refine lv_iconst (v := 1) hx hb dX4_isWord_4 (by decide) ?_
  refine jic_ne (tgt := 24) hx hb dX4_isWord_5 (by decide) (fun cq1_ => ?_) (fun cq1_ => ?_)
  · skip
    have cq1_ : ki.toInt ≠ 1 := cq1_
    refine lv_iconst (v := 0) hx hb dX4_isWord_24 (by decide) ?_
    exact ret_z hC hr hlk hK hH (by first | exact Or.inl rfl | exact Or.inr rfl | assumption) (⟨Or.inr (rfl), rfl, rfl⟩) (Nat.le_of_ble_eq_true rfl) (Nat.le_of_ble_eq_true rfl) dX4_isWord_25
  · skip
    have cq1_ : ki.toInt = 1 := cq1_
    refine lv_aload_n hx hb dX4_isWord_8 rfl (lv_at hl 0 rfl) ?_
    refine xg hC hK hH flX4_38 hc_rd rfl dX4_isWord_9 ?_
    refine lv_aload_n hx hb dX4_isWord_12 rfl (lv_at hl 0 rfl) ?_
    refine xg hC hK hH flX4_51 hc_rd rfl dX4_isWord_13 ?_
    refine lv_isub hx hb dX4_isWord_16 ?_
    refine lv_topi (fun zq2_ e_zq2_ => ?_)
    have h_zq2_ : zq2_.toInt = be.toInt - pl.toInt := by rw [e_zq2_, iSub (by have := iRg be; have := iRg pl; omega) (by have := iRg be; have := iRg pl; omega)]
    refine lv_aload_n hx hb dX4_isWord_17 rfl (lv_at hl 1 rfl) ?_
    refine goI hK hH (runVB (As := []) (rest := [.int zq2_]) hC hK hH hZ (c_J0_length_8abf5 (by omega)) mlX4_89 (rcvO (hZ.1.2.2.2.1 i (by omega)).1 hH) ⟨⟨Nat.le_of_ble_eq_true rfl, Nat.le_of_ble_eq_true rfl⟩, Nat.le_of_ble_eq_true rfl, Nat.le_of_ble_eq_true rfl⟩ rfl hl.1 rfl (Nat.le_of_ble_eq_true rfl) dX4_isWord_18) (fun rq5_ Mq3_ Tq4_ Hq_ lcq_ hP hz hH => ?_)
    try dsimp only at hP
    obtain ⟨(⟨cq6_, ⟨l_rq5_, g_rq5_⟩⟩), eT, eM⟩ := hP
    have eT := eT.symm; subst eT
    have eM := eM.symm; subst eM
    have cq6_ : rq5_.toInt = (zLen i : Int) := cq6_
    refine jic_eq (tgt := 26) hx hb dX4_isWord_21 (by decide) (fun cq7_ => ?_) (fun cq7_ => ?_)
    · skip
      have cq7_ : zq2_.toInt = rq5_.toInt := cq7_
      refine lv_iconst (v := 0) hx hb dX4_isWord_26 (by decide) ?_
      refine lv_istore_n (lv' := [(2, .int 0), (0, .ref rd), (1, .ref (zs z i))]) hx hb dX4_isWord_27 rfl hl (by decide) rfl (fun ls hl => ?_)
      have loop : ∀ (n : Nat) (iq8_ : Int32) (Hq_ : Heap) (lcq_ : List Loc) (ls : Array Slot), iq8_.toInt + (n : Int) = 8 → (0 : Int) ≤ iq8_.toInt → iq8_.toInt ≤ 8 → M rd = some (.inr (3, [.ref nb, .ref vb, .int no, .int wi, .ref by_, .int le, .int ki, .int pl, .int be, .int va])) → mS D kA M T (mA M T sz) s.heap Hq_ lcq_ → lv_has ls 3 [(2, .int iq8_), (0, .ref rd), (1, .ref (zs z i))] → W p l e (rmL 4 0 0) s m ([.ref rd, .ref (zs z i)] : List Value).toArray below meth c Hq_ lcq_ 0 0 (MQ below (va_Qi (fun r u => ((r = 1) ∨ (r = 0)) ∧ u.2 = T ∧ u.1 = M) (mB D kA M T sz) (mA M T sz)) ([.ref rd, .ref (zs z i)] : List Value).toArray s 0 0 (mA M T sz)) (F0 m 28 ls []) := by
        intro n
        induction n with
        | zero =>
          intro iq8_ Hq_ lcq_ ls hi_iq8_ h0_iq8_ h9_iq8_ hc_rd hH hl
          have hi2_iq8_ : iq8_.toInt = 8 := by omega
          refine lv_iload_n hx hb dX4_isWord_28 rfl (lv_at hl 0 rfl) ?_
          refine lv_aload_n hx hb dX4_isWord_29 rfl (lv_at hl 2 rfl) ?_
          refine goI hK hH (runVB (As := []) (rest := [.int iq8_]) hC hK hH hZ (c_J0_length_8abf5 (by omega)) mlX4_89 (rcvO (hZ.1.2.2.2.1 i (by omega)).1 hH) ⟨⟨Nat.le_of_ble_eq_true rfl, Nat.le_of_ble_eq_true rfl⟩, Nat.le_of_ble_eq_true rfl, Nat.le_of_ble_eq_true rfl⟩ rfl hl.1 rfl (Nat.le_of_ble_eq_true rfl) dX4_isWord_30) (fun rq11_ Mq9_ Tq10_ Hq_ lcq_ hP hz hH => ?_)
          try dsimp only at hP
          obtain ⟨(⟨cq12_, ⟨l_rq11_, g_rq11_⟩⟩), eT, eM⟩ := hP
          have eT := eT.symm; subst eT
          have eM := eM.symm; subst eM
          have cq12_ : rq11_.toInt = (zLen i : Int) := cq12_
          refine jic_ge (tgt := 63) hx hb dX4_isWord_33 (by decide) (fun cq13_ => ?_) (fun cq13_ => absurd cq13_ (by have := iRg iq8_; have := iRg rq11_; omega))
          have cq13_ : rq11_.toInt ≤ iq8_.toInt := cq13_
          refine lv_iconst (v := 1) hx hb dX4_isWord_63 (by decide) ?_
          subst e_zq2_
          exact ret_z hC hr hlk hK hH (by first | exact Or.inl rfl | exact Or.inr rfl | assumption) (⟨Or.inl (rfl), rfl, rfl⟩) (Nat.le_of_ble_eq_true rfl) (Nat.le_of_ble_eq_true rfl) dX4_isWord_64
        | succ n ih =>
          intro iq8_ Hq_ lcq_ ls hi_iq8_ h0_iq8_ h9_iq8_ hc_rd hH hl
          have hi2_iq8_ : iq8_.toInt ≤ 7 := by omega
          refine lv_iload_n hx hb dX4_isWord_28 rfl (lv_at hl 0 rfl) ?_
          refine lv_aload_n hx hb dX4_isWord_29 rfl (lv_at hl 2 rfl) ?_
          refine goI hK hH (runVB (As := []) (rest := [.int iq8_]) hC hK hH hZ (c_J0_length_8abf5 (by omega)) mlX4_89 (rcvO (hZ.1.2.2.2.1 i (by omega)).1 hH) ⟨⟨Nat.le_of_ble_eq_true rfl, Nat.le_of_ble_eq_true rfl⟩, Nat.le_of_ble_eq_true rfl, Nat.le_of_ble_eq_true rfl⟩ rfl hl.1 rfl (Nat.le_of_ble_eq_true rfl) dX4_isWord_30) (fun rq16_ Mq14_ Tq15_ Hq_ lcq_ hP hz hH => ?_)
          try dsimp only at hP
          obtain ⟨(⟨cq17_, ⟨l_rq16_, g_rq16_⟩⟩), eT, eM⟩ := hP
          have eT := eT.symm; subst eT
          have eM := eM.symm; subst eM
          have cq17_ : rq16_.toInt = (zLen i : Int) := cq17_
          refine jic_ge (tgt := 63) hx hb dX4_isWord_33 (by decide) (fun cq18_ => ?_) (fun cq18_ => ?_)
          · skip
            have cq18_ : rq16_.toInt ≤ iq8_.toInt := cq18_
            refine lv_iconst (v := 1) hx hb dX4_isWord_63 (by decide) ?_
            subst e_zq2_
            exact ret_z hC hr hlk hK hH (by first | exact Or.inl rfl | exact Or.inr rfl | assumption) (⟨Or.inl (rfl), rfl, rfl⟩) (Nat.le_of_ble_eq_true rfl) (Nat.le_of_ble_eq_true rfl) dX4_isWord_64
          · skip
            have cq18_ : iq8_.toInt < rq16_.toInt := cq18_
            refine lv_aload_n hx hb dX4_isWord_36 rfl (lv_at hl 1 rfl) ?_
            refine xg hC hK hH flX4_24 hc_rd rfl dX4_isWord_37 ?_
            refine lv_aload_n hx hb dX4_isWord_40 rfl (lv_at hl 1 rfl) ?_
            refine xg hC hK hH flX4_51 hc_rd rfl dX4_isWord_41 ?_
            refine lv_iload_n hx hb dX4_isWord_44 rfl (lv_at hl 0 rfl) ?_
            refine lv_iadd hx hb dX4_isWord_45 ?_
            refine lv_topi (fun zq19_ e_zq19_ => ?_)
            have h_zq19_ : zq19_.toInt = pl.toInt + iq8_.toInt := by rw [e_zq19_, iAdd (by have := iRg pl; have := iRg iq8_; omega) (by have := iRg pl; have := iRg iq8_; omega)]
            refine tbld hC hK hH ht_by_ rfl (iIn (by omega) (by omega)) dX4_isWord_46 (fun xq20_ l_xq20_ g_xq20_ => ?_)
            refine lv_aload_n hx hb dX4_isWord_47 rfl (lv_at hl 2 rfl) ?_
            refine lv_iload_n hx hb dX4_isWord_48 rfl (lv_at hl 0 rfl) ?_
            refine goI hK hH (runVB (As := [.int iq8_]) (rest := [.int xq20_]) hC hK hH hZ (c_J0_charAt_5068e (by omega) (by omega)) mlX4_94 (rcvO (hZ.1.2.2.2.1 i (by omega)).1 hH) ⟨⟨Nat.le_of_ble_eq_true rfl, Nat.le_of_ble_eq_true rfl⟩, Nat.le_of_ble_eq_true rfl, Nat.le_of_ble_eq_true rfl⟩ rfl hl.1 rfl (Nat.le_of_ble_eq_true rfl) dX4_isWord_49) (fun rq23_ Mq21_ Tq22_ Hq_ lcq_ hP hz hH => ?_)
            try dsimp only at hP
            obtain ⟨(cq24_), eT, eM⟩ := hP
            have eT := eT.symm; subst eT
            have eM := eM.symm; subst eM
            have cq24_ : narrow .char (.int rq23_) = .int rq23_ := cq24_
            refine jic_eq (tgt := 57) hx hb dX4_isWord_52 (by decide) (fun cq25_ => ?_) (fun cq25_ => ?_)
            · skip
              have cq25_ : xq20_.toInt = rq23_.toInt := cq25_
              obtain ⟨zq26_, e_zq26_⟩ : ∃ y : Int32, y = iq8_ + 1 := ⟨_, rfl⟩
              refine lv_iinc (v := zq26_) (lv' := [(2, .int zq26_), (0, .ref rd), (1, .ref (zs z i))]) hx hb dX4_isWord_57 hl (k := 0) rfl (by rw [e_zq26_]; rfl) (by decide) rfl (fun ls hl => ?_)
              have h_zq26_ : zq26_.toInt = iq8_.toInt + 1 := by rw [e_zq26_, iAdd (by have : (1 : Int32).toInt = 1 := rfl; omega) (by have : (1 : Int32).toInt = 1 := rfl; omega)]; rfl
              refine lv_goto (tgt := 28) hx hb dX4_isWord_60 (by decide) ?_
              exact ih zq26_ _ _ ls (by omega) (by omega) (by omega) hc_rd hH (lv_sub hl [0, 1, 2] rfl)
            · skip
              have cq25_ : xq20_.toInt ≠ rq23_.toInt := cq25_
              refine lv_iconst (v := 0) hx hb dX4_isWord_55 (by decide) ?_
              subst e_zq19_
              subst e_zq2_
              exact ret_z hC hr hlk hK hH (by first | exact Or.inl rfl | exact Or.inr rfl | assumption) (⟨Or.inr (rfl), rfl, rfl⟩) (Nat.le_of_ble_eq_true rfl) (Nat.le_of_ble_eq_true rfl) dX4_isWord_56
      exact loop (Int.toNat (8 - 0)) 0 _ _ ls (by have : (0 : Int32).toInt = 0 := rfl; omega) (by have : (0 : Int32).toInt = 0 := rfl; omega) (by have : (0 : Int32).toInt = 0 := rfl; omega) hc_rd hH hl
    · skip
      have cq7_ : zq2_.toInt ≠ rq5_.toInt := cq7_
      refine lv_iconst (v := 0) hx hb dX4_isWord_24 (by decide) ?_
      subst e_zq2_
      exact ret_z hC hr hlk hK hH (by first | exact Or.inl rfl | exact Or.inr rfl | assumption) (⟨Or.inr (rfl), rfl, rfl⟩) (Nat.le_of_ble_eq_true rfl) (Nat.le_of_ble_eq_true rfl) dX4_isWord_25
set_option maxHeartbeats 4000000 in
set_option maxRecDepth 100000 in
theorem c_X4_readVerb {z : zD} {l : Launch} {D : va_G} {kA : Nat → ClassId} {M : mM} {T : mT} {sz : Nat} {rd nb by_ vi : Nat} {no wi le ki pl be va : Int32} (hc_rd : M rd = some (.inr (3, [.ref nb, .ref (zv z vi), .int no, .int wi, .ref by_, .int le, .int ki, .int pl, .int be, .int va]))) (hn_rd : T rd = none) (ht_nb : T nb = some 12) (ht_by_ : T by_ = some 7) (hvi : vi < 19) (hno : 0 ≤ no.toInt ∧ no.toInt ≤ 1) (hwi : 0 ≤ wi.toInt ∧ wi.toInt ≤ 1) (hle : 0 ≤ le.toInt ∧ le.toInt ≤ 600) (hki : 0 ≤ ki.toInt ∧ ki.toInt ≤ 4) (hpl : 0 ≤ pl.toInt) (hpb : pl.toInt ≤ be.toInt) (hbe : be.toInt ≤ le.toInt) : mCiB z l yX4_readVerb cX4_readVerb 2 (some .boolean) 5 0 0 D kA M T sz [.ref rd] (fun r u => ∃ ki2 : Int32, ((0 : Int) ≤ ki2.toInt ∧ ki2.toInt ≤ 4) ∧ ∃ pl2 : Int32, ((0 : Int) ≤ pl2.toInt ∧ pl2.toInt ≤ 600) ∧ ∃ be2 : Int32, ((0 : Int) ≤ be2.toInt ∧ be2.toInt ≤ 600) ∧ ∃ va2 : Int32, ((-2147483648 : Int) ≤ va2.toInt ∧ va2.toInt ≤ 2147483647) ∧ ∃ vi2 : Nat, (vi2 < 19) ∧ (((pl2.toInt ≤ be2.toInt ∧ be2.toInt ≤ le.toInt) ∧ r = 1 ∧ u.1 rd = some (.inr (3, [.ref nb, .ref (zv z vi2), .int no, .int wi, .ref by_, .int le, .int ki2, .int pl2, .int be2, .int va2]))) ∨ ((pl2.toInt ≤ be2.toInt ∧ be2.toInt ≤ le.toInt) ∧ r = 0 ∧ u.1 rd = some (.inr (3, [.ref nb, .ref (zv z vi2), .int no, .int wi, .ref by_, .int le, .int ki2, .int pl2, .int be2, .int va2])))) ∧ u.2 = T ∧ (∀ q, FrK T q → q ≠ rd → u.1 q = M q)) := by
  unfold mCiB
  refine start_WB (by decide) (Nat.le_of_ble_eq_true rfl) ?_
  intro p e s m below meth c ls hC hr hlk hnm hK hH hsz hZ hl
  have hx := hC.1
  have hb := hC.2.1
  have hl : lv_has ls 2 [(0, .ref rd)] := hl
  have hF : ∀ q, FrK T q → q ≠ rd → M q = M q := fun q _ _ => rfl
  refine lv_iconst (v := 0) hx hb dX4_readVerb_0 (by decide) ?_
  refine lv_istore_n (lv' := [(1, .int 0), (0, .ref rd)]) hx hb dX4_readVerb_1 rfl hl (by decide) rfl (fun ls hl => ?_)
  have loop : ∀ (n : Nat) (iq1_ : Int32) (Hq_ : Heap) (lcq_ : List Loc) (Mq2_ : mM) (ls : Array Slot), iq1_.toInt + (n : Int) = 19 → (0 : Int) ≤ iq1_.toInt → iq1_.toInt ≤ 19 → Mq2_ rd = some (.inr (3, [.ref nb, .ref (zv z vi), .int no, .int wi, .ref by_, .int le, .int ki, .int pl, .int be, .int va])) → (∀ q, FrK T q → q ≠ rd → Mq2_ q = M q) → mS D kA Mq2_ T (mA M T sz) s.heap Hq_ lcq_ → lv_has ls 2 [(1, .int iq1_), (0, .ref rd)] → W p l e (rmL 5 0 0) s m ([.ref rd] : List Value).toArray below meth c Hq_ lcq_ 0 0 (MQ below (va_Qi (fun r u => ∃ ki2 : Int32, ((0 : Int) ≤ ki2.toInt ∧ ki2.toInt ≤ 4) ∧ ∃ pl2 : Int32, ((0 : Int) ≤ pl2.toInt ∧ pl2.toInt ≤ 600) ∧ ∃ be2 : Int32, ((0 : Int) ≤ be2.toInt ∧ be2.toInt ≤ 600) ∧ ∃ va2 : Int32, ((-2147483648 : Int) ≤ va2.toInt ∧ va2.toInt ≤ 2147483647) ∧ ∃ vi2 : Nat, (vi2 < 19) ∧ (((pl2.toInt ≤ be2.toInt ∧ be2.toInt ≤ le.toInt) ∧ r = 1 ∧ u.1 rd = some (.inr (3, [.ref nb, .ref (zv z vi2), .int no, .int wi, .ref by_, .int le, .int ki2, .int pl2, .int be2, .int va2]))) ∨ ((pl2.toInt ≤ be2.toInt ∧ be2.toInt ≤ le.toInt) ∧ r = 0 ∧ u.1 rd = some (.inr (3, [.ref nb, .ref (zv z vi2), .int no, .int wi, .ref by_, .int le, .int ki2, .int pl2, .int be2, .int va2])))) ∧ u.2 = T ∧ (∀ q, FrK T q → q ≠ rd → u.1 q = M q)) (mB D kA M T sz) (mA M T sz)) ([.ref rd] : List Value).toArray s 0 0 (mA M T sz)) (F0 m 2 ls []) := by
    intro n
    induction n with
    | zero =>
      intro iq1_ Hq_ lcq_ Mq2_ ls hi_iq1_ h0_iq1_ h9_iq1_ hc_rd hF hH hl
      have hi2_iq1_ : iq1_.toInt = 19 := by omega
      refine lv_iload_n hx hb dX4_readVerb_2 rfl (lv_at hl 0 rfl) ?_
      refine va_gets hx hb hZ.1.2.1.1 hH.2.1 hC.2.2.2.1 (hC.2.2.2.2 _ wsX4_81) (fun _ h => h) dX4_readVerb_3 ?_
      refine va_tlen (v := 19) hx hb hZ.1.2.1.2 hH.2.1 rfl dX4_readVerb_6 ?_
      refine jic_ge (tgt := 46) hx hb dX4_readVerb_7 (by decide) (fun cq3_ => ?_) (fun cq3_ => absurd cq3_ (by have := iRg iq1_; have : (19 : Int32).toInt = 19 := rfl; omega))
      have cq3_ : 19 ≤ iq1_.toInt := cq3_
      refine lv_iconst (v := 0) hx hb dX4_readVerb_46 (by decide) ?_
      exact ret_z hC hr hlk hK hH (by first | exact Or.inl rfl | exact Or.inr rfl | assumption) (⟨ki, ⟨by omega, by omega⟩, pl, ⟨by omega, by omega⟩, be, ⟨by omega, by omega⟩, va, iRg _, vi, by omega, Or.inr (⟨by omega, rfl, hc_rd⟩), rfl, hF⟩) (Nat.le_of_ble_eq_true rfl) (Nat.le_of_ble_eq_true rfl) dX4_readVerb_47
    | succ n ih =>
      intro iq1_ Hq_ lcq_ Mq2_ ls hi_iq1_ h0_iq1_ h9_iq1_ hc_rd hF hH hl
      have hi2_iq1_ : iq1_.toInt ≤ 18 := by omega
      refine lv_iload_n hx hb dX4_readVerb_2 rfl (lv_at hl 0 rfl) ?_
      refine va_gets hx hb hZ.1.2.1.1 hH.2.1 hC.2.2.2.1 (hC.2.2.2.2 _ wsX4_81) (fun _ h => h) dX4_readVerb_3 ?_
      refine va_tlen (v := 19) hx hb hZ.1.2.1.2 hH.2.1 rfl dX4_readVerb_6 ?_
      refine jic_ge (tgt := 46) hx hb dX4_readVerb_7 (by decide) (fun cq4_ => absurd cq4_ (by have := iRg iq1_; have : (19 : Int32).toInt = 19 := rfl; omega)) (fun cq4_ => ?_)
      have cq4_ : iq1_.toInt < 19 := cq4_
      refine lv_aload_n hx hb dX4_readVerb_10 rfl (lv_at hl 1 rfl) ?_
      refine va_gets hx hb hZ.1.2.1.1 hH.2.1 hC.2.2.2.1 (hC.2.2.2.2 _ wsX4_81) (fun _ h => h) dX4_readVerb_11 ?_
      refine lv_iload_n hx hb dX4_readVerb_14 rfl (lv_at hl 0 rfl) ?_
      obtain ⟨jq5_, e_jq5_, h_jq5_⟩ : ∃ j : Nat, j = Int32.toNatClampNeg iq1_ ∧ j < 19 := ⟨_, rfl, by have := iCl (x := iq1_) (by omega); omega⟩
      refine vb_tq (v := .ref (zv z jq5_)) hx hb hZ.1.2.1.2 hH.2.1 (iIn (by omega) (by omega)) (by rw [e_jq5_]) dX4_readVerb_15 ?_
      refine vk_getf hx hb (hZ.1.2.2.1 jq5_ (by omega)).2.1 hH.2.1 hC.2.2.2.1 (hC.2.2.2.2 _ wfX4_85) (fun _ h => h) dX4_readVerb_16 ?_
      refine goI hK hH (runVB (As := [.ref (zs z jq5_)]) (rest := []) hC hK hH hZ (c_X4_isWord hc_rd hn_rd ht_nb ht_by_ (by omega) (by omega) (by omega) (by omega) (by omega) (by omega) (by omega) (by omega)) mlX4_68 (rcvM hK hH hc_rd rfl) ⟨⟨Nat.le_of_ble_eq_true rfl, Nat.le_of_ble_eq_true rfl⟩, Nat.le_of_ble_eq_true rfl, Nat.le_of_ble_eq_true rfl⟩ rfl hl.1 rfl (Nat.le_of_ble_eq_true rfl) dX4_readVerb_19) (fun rq8_ Mq6_ Tq7_ Hq_ lcq_ hP hz hH => ?_)
      try dsimp only at hP
      obtain ⟨(er_rq8_ | er_rq8_), eT, eM⟩ := hP
      · skip
        have eT := eT.symm; subst eT
        have er_rq8_ := er_rq8_.symm; subst er_rq8_
        have eM := eM.symm; subst eM
        refine jif_eq (tgt := 40) hx hb dX4_readVerb_22 (by decide) (fun cq9_ => absurd cq9_ (by decide)) (fun cq9_ => ?_)
        refine lv_aload_n hx hb dX4_readVerb_25 rfl (lv_at hl 1 rfl) ?_
        refine va_gets hx hb hZ.1.2.1.1 hH.2.1 hC.2.2.2.1 (hC.2.2.2.2 _ wsX4_81) (fun _ h => h) dX4_readVerb_26 ?_
        refine lv_iload_n hx hb dX4_readVerb_29 rfl (lv_at hl 0 rfl) ?_
        obtain ⟨jq10_, e_jq10_, h_jq10_⟩ : ∃ j : Nat, j = Int32.toNatClampNeg iq1_ ∧ j < 19 := ⟨_, rfl, by have := iCl (x := iq1_) (by omega); omega⟩
        refine vb_tq (v := .ref (zv z jq10_)) hx hb hZ.1.2.1.2 hH.2.1 (iIn (by omega) (by omega)) (by rw [e_jq10_]) dX4_readVerb_30 ?_
        refine yp (v := .ref (zv z jq10_)) hC hK hH flX4_21 hc_rd (noT hn_rd) rfl rfl (Nat.le_of_ble_eq_true rfl) dX4_readVerb_31 (fun Hq_ lcq_ Mq11_ hc_rd hfr hH => ?_)
        have hc_rd : Mq11_ rd = some (.inr (3, [.ref nb, .ref (zv z jq10_), .int no, .int wi, .ref by_, .int le, .int ki, .int pl, .int be, .int va])) := hc_rd
        have hF : ∀ q, FrK T q → q ≠ rd → Mq11_ q = M q := fun q hq h0 => (hfr q h0).trans (hF q hq h0)
        refine lv_aload_n hx hb dX4_readVerb_34 rfl (lv_at hl 1 rfl) ?_
        refine goV hK hH (runV (As := []) (rest := []) hC hK hH (c_X4_move hc_rd hn_rd ht_nb ht_by_ (by omega) (by omega) (by omega)) mlX4_41 (rcvM hK hH hc_rd rfl) ⟨⟨Nat.le_of_ble_eq_true rfl, Nat.le_of_ble_eq_true rfl⟩, Nat.le_of_ble_eq_true rfl, Nat.le_of_ble_eq_true rfl⟩ rfl hl.1 rfl (Nat.le_of_ble_eq_true rfl) dX4_readVerb_35) (fun Mq12_ Tq13_ Hq_ lcq_ hP hz hH => ?_)
        try dsimp only at hP
        obtain ⟨xq16_, ⟨l_xq16_, g_xq16_⟩, xq17_, ⟨l_xq17_, g_xq17_⟩, xq18_, ⟨l_xq18_, g_xq18_⟩, xq19_, ⟨l_xq19_, g_xq19_⟩, (⟨cq15_, hx_rd⟩), eT, hfr⟩ := hP
        have eT := eT.symm; subst eT
        have hc_rd : Mq12_ rd = some (.inr (3, [.ref nb, .ref (zv z jq10_), .int no, .int wi, .ref by_, .int le, .int xq16_, .int xq17_, .int xq18_, .int xq19_])) := hx_rd
        have hF : ∀ q, FrK T q → q ≠ rd → Mq12_ q = M q := fun q hq h0 => (hfr q hq  h0).trans (hF q hq h0)
        have cq15_ : xq17_.toInt ≤ xq18_.toInt ∧ xq18_.toInt ≤ le.toInt := cq15_
        refine lv_iconst (v := 1) hx hb dX4_readVerb_38 (by decide) ?_
        exact ret_z hC hr hlk hK hH (by first | exact Or.inl rfl | exact Or.inr rfl | assumption) (⟨xq16_, ⟨by omega, by omega⟩, xq17_, ⟨by omega, by omega⟩, xq18_, ⟨by omega, by omega⟩, xq19_, iRg _, jq10_, by omega, Or.inl (⟨by omega, rfl, hc_rd⟩), rfl, hF⟩) (Nat.le_of_ble_eq_true rfl) (Nat.le_of_ble_eq_true rfl) dX4_readVerb_39
      · skip
        have eT := eT.symm; subst eT
        have er_rq8_ := er_rq8_.symm; subst er_rq8_
        have eM := eM.symm; subst eM
        refine jif_eq (tgt := 40) hx hb dX4_readVerb_22 (by decide) (fun cq20_ => ?_) (fun cq20_ => absurd cq20_ (by decide))
        obtain ⟨zq21_, e_zq21_⟩ : ∃ y : Int32, y = iq1_ + 1 := ⟨_, rfl⟩
        refine lv_iinc (v := zq21_) (lv' := [(1, .int zq21_), (0, .ref rd)]) hx hb dX4_readVerb_40 hl (k := 0) rfl (by rw [e_zq21_]; rfl) (by decide) rfl (fun ls hl => ?_)
        have h_zq21_ : zq21_.toInt = iq1_.toInt + 1 := by rw [e_zq21_, iAdd (by have : (1 : Int32).toInt = 1 := rfl; omega) (by have : (1 : Int32).toInt = 1 := rfl; omega)]; rfl
        refine lv_goto (tgt := 2) hx hb dX4_readVerb_43 (by decide) ?_
        exact ih zq21_ _ _ _ ls (by omega) (by omega) (by omega) hc_rd hF hH (lv_sub hl [0, 1] rfl)
  exact loop (Int.toNat (19 - 0)) 0 _ _ _ ls (by have : (0 : Int32).toInt = 0 := rfl; omega) (by have : (0 : Int32).toInt = 0 := rfl; omega) (by have : (0 : Int32).toInt = 0 := rfl; omega) hc_rd hF hH hl
set_option maxHeartbeats 4000000 in
set_option maxRecDepth 100000 in
theorem c_X4_readLine {z : zD} {l : Launch} {D : va_G} {kA : Nat → ClassId} {M : mM} {T : mT} {sz : Nat} {rd nb by_ vi : Nat} {no wi le ki pl be va : Int32} (hc_rd : M rd = some (.inr (3, [.ref nb, .ref (zv z vi), .int no, .int wi, .ref by_, .int le, .int ki, .int pl, .int be, .int va]))) (hn_rd : T rd = none) (ht_nb : T nb = some 12) (ht_by_ : T by_ = some 7) (hvi : vi < 19) (hno : 0 ≤ no.toInt ∧ no.toInt ≤ 1) (hwi : 0 ≤ wi.toInt ∧ wi.toInt ≤ 1) (hle : 0 ≤ le.toInt ∧ le.toInt ≤ 600) (hki : 0 ≤ ki.toInt ∧ ki.toInt ≤ 4) (hpl : 0 ≤ pl.toInt) (hpb : pl.toInt ≤ be.toInt) (hbe : be.toInt ≤ le.toInt) : mCiB z l yX4_readLine cX4_readLine 2 (some .boolean) 6 0 0 D kA M T sz [.ref rd] (fun r u => ∃ ki2 : Int32, ((0 : Int) ≤ ki2.toInt ∧ ki2.toInt ≤ 4) ∧ ∃ pl2 : Int32, ((0 : Int) ≤ pl2.toInt ∧ pl2.toInt ≤ 600) ∧ ∃ be2 : Int32, ((0 : Int) ≤ be2.toInt ∧ be2.toInt ≤ 600) ∧ ∃ va2 : Int32, ((-2147483648 : Int) ≤ va2.toInt ∧ va2.toInt ≤ 2147483647) ∧ ∃ no2 : Int32, ((0 : Int) ≤ no2.toInt ∧ no2.toInt ≤ 1) ∧ ∃ wi2 : Int32, ((0 : Int) ≤ wi2.toInt ∧ wi2.toInt ≤ 1) ∧ ∃ vi2 : Nat, (vi2 < 19) ∧ (((pl2.toInt ≤ be2.toInt ∧ be2.toInt ≤ le.toInt) ∧ r = 1 ∧ u.1 rd = some (.inr (3, [.ref nb, .ref (zv z vi2), .int no2, .int wi2, .ref by_, .int le, .int ki2, .int pl2, .int be2, .int va2]))) ∨ ((pl2.toInt ≤ be2.toInt ∧ be2.toInt ≤ le.toInt) ∧ r = 0 ∧ u.1 rd = some (.inr (3, [.ref nb, .ref (zv z vi2), .int no2, .int wi2, .ref by_, .int le, .int ki2, .int pl2, .int be2, .int va2])))) ∧ u.2 = T ∧ (∀ q, FrK T q → q ≠ rd → u.1 q = M q)) := by
  unfold mCiB
  refine start_WB (by decide) (Nat.le_of_ble_eq_true rfl) ?_
  intro p e s m below meth c ls hC hr hlk hnm hK hH hsz hZ hl
  have hx := hC.1
  have hb := hC.2.1
  have hl : lv_has ls 2 [(0, .ref rd)] := hl
  have hF : ∀ q, FrK T q → q ≠ rd → M q = M q := fun q _ _ => rfl
  refine lv_aload_n hx hb dX4_readLine_0 rfl (lv_at hl 0 rfl) ?_
  refine goI hK hH (runVB (As := []) (rest := []) hC hK hH hZ (c_X4_readVerb hc_rd hn_rd ht_nb ht_by_ (by omega) (by omega) (by omega) (by omega) (by omega) (by omega) (by omega) (by omega)) mlX4_54 (rcvM hK hH hc_rd rfl) ⟨⟨Nat.le_of_ble_eq_true rfl, Nat.le_of_ble_eq_true rfl⟩, Nat.le_of_ble_eq_true rfl, Nat.le_of_ble_eq_true rfl⟩ rfl hl.1 rfl (Nat.le_of_ble_eq_true rfl) dX4_readLine_1) (fun rq3_ Mq1_ Tq2_ Hq_ lcq_ hP hz hH => ?_)
  try dsimp only at hP
  obtain ⟨xq7_, ⟨l_xq7_, g_xq7_⟩, xq8_, ⟨l_xq8_, g_xq8_⟩, xq9_, ⟨l_xq9_, g_xq9_⟩, xq10_, ⟨l_xq10_, g_xq10_⟩, vq6_, h_vq6_, (⟨cq4_, er_rq3_, hx_rd⟩ | ⟨cq5_, er_rq3_, hx_rd⟩), eT, hfr⟩ := hP
  · skip
    have eT := eT.symm; subst eT
    have er_rq3_ := er_rq3_.symm; subst er_rq3_
    have hc_rd : Mq1_ rd = some (.inr (3, [.ref nb, .ref (zv z vq6_), .int no, .int wi, .ref by_, .int le, .int xq7_, .int xq8_, .int xq9_, .int xq10_])) := hx_rd
    have hF : ∀ q, FrK T q → q ≠ rd → Mq1_ q = M q := fun q hq h0 => (hfr q hq  h0).trans (hF q hq h0)
    have cq4_ : xq8_.toInt ≤ xq9_.toInt ∧ xq9_.toInt ≤ le.toInt := cq4_
    refine jif_ne (tgt := 9) hx hb dX4_readLine_4 (by decide) (fun cq11_ => ?_) (fun cq11_ => absurd cq11_ (by decide))
    refine lv_iconst (v := 0) hx hb dX4_readLine_9 (by decide) ?_
    refine lv_istore_n (lv' := [(1, .int 0), (0, .ref rd)]) hx hb dX4_readLine_10 rfl hl (by decide) rfl (fun ls hl => ?_)
    have loop : ∀ (n : Nat) (yq12_ : Int32) (yq13_ : Int32) (yq14_ : Int32) (yq15_ : Int32) (yq16_ : Int32) (Hq_ : Heap) (lcq_ : List Loc) (Mq17_ : mM) (ls : Array Slot), 6 - yq12_.toInt ≤ (n : Int) → (0 : Int) ≤ yq12_.toInt → yq12_.toInt ≤ 5 → (0 : Int) ≤ yq13_.toInt → yq13_.toInt ≤ 4 → (0 : Int) ≤ yq14_.toInt → yq14_.toInt ≤ 600 → (0 : Int) ≤ yq15_.toInt → yq15_.toInt ≤ 600 → (yq14_.toInt ≤ yq15_.toInt) → (yq15_.toInt ≤ le.toInt) → Mq17_ rd = some (.inr (3, [.ref nb, .ref (zv z vq6_), .int no, .int wi, .ref by_, .int le, .int yq13_, .int yq14_, .int yq15_, .int yq16_])) → (∀ q, FrK T q → q ≠ rd → Mq17_ q = M q) → mS D kA Mq17_ T (mA M T sz) s.heap Hq_ lcq_ → lv_has ls 2 [(1, .int yq12_), (0, .ref rd)] → W p l e (rmL 6 0 0) s m ([.ref rd] : List Value).toArray below meth c Hq_ lcq_ 0 0 (MQ below (va_Qi (fun r u => ∃ ki2 : Int32, ((0 : Int) ≤ ki2.toInt ∧ ki2.toInt ≤ 4) ∧ ∃ pl2 : Int32, ((0 : Int) ≤ pl2.toInt ∧ pl2.toInt ≤ 600) ∧ ∃ be2 : Int32, ((0 : Int) ≤ be2.toInt ∧ be2.toInt ≤ 600) ∧ ∃ va2 : Int32, ((-2147483648 : Int) ≤ va2.toInt ∧ va2.toInt ≤ 2147483647) ∧ ∃ no2 : Int32, ((0 : Int) ≤ no2.toInt ∧ no2.toInt ≤ 1) ∧ ∃ wi2 : Int32, ((0 : Int) ≤ wi2.toInt ∧ wi2.toInt ≤ 1) ∧ ∃ vi2 : Nat, (vi2 < 19) ∧ (((pl2.toInt ≤ be2.toInt ∧ be2.toInt ≤ le.toInt) ∧ r = 1 ∧ u.1 rd = some (.inr (3, [.ref nb, .ref (zv z vi2), .int no2, .int wi2, .ref by_, .int le, .int ki2, .int pl2, .int be2, .int va2]))) ∨ ((pl2.toInt ≤ be2.toInt ∧ be2.toInt ≤ le.toInt) ∧ r = 0 ∧ u.1 rd = some (.inr (3, [.ref nb, .ref (zv z vi2), .int no2, .int wi2, .ref by_, .int le, .int ki2, .int pl2, .int be2, .int va2])))) ∧ u.2 = T ∧ (∀ q, FrK T q → q ≠ rd → u.1 q = M q)) (mB D kA M T sz) (mA M T sz)) ([.ref rd] : List Value).toArray s 0 0 (mA M T sz)) (F0 m 11 ls []) := by
      intro n
      induction n with
      | zero =>
        intro yq12_ yq13_ yq14_ yq15_ yq16_ Hq_ lcq_ Mq17_ ls hme l_yq12_ g_yq12_ l_yq13_ g_yq13_ l_yq14_ g_yq14_ l_yq15_ g_yq15_ hv0_yq12_ hv1_yq12_ hc_rd hF hH hl
        exfalso; omega
      | succ n ih =>
        intro yq12_ yq13_ yq14_ yq15_ yq16_ Hq_ lcq_ Mq17_ ls hme l_yq12_ g_yq12_ l_yq13_ g_yq13_ l_yq14_ g_yq14_ l_yq15_ g_yq15_ hv0_yq12_ hv1_yq12_ hc_rd hF hH hl
        refine lv_iload_n hx hb dX4_readLine_11 rfl (lv_at hl 0 rfl) ?_
        refine lv_aload_n hx hb dX4_readLine_12 rfl (lv_at hl 1 rfl) ?_
        refine xg hC hK hH flX4_21 hc_rd rfl dX4_readLine_13 ?_
        refine vk_getf hx hb (hZ.1.2.2.1 vq6_ (by omega)).2.2.1 hH.2.1 hC.2.2.2.1 (hC.2.2.2.2 _ wfX4_57) (fun _ h => h) dX4_readLine_16 ?_
        refine lv_topi (fun xq18_ e_xq18_ => ?_)
        have l_xq18_ : 1 ≤ xq18_.toInt := by rw [e_xq18_]; exact (zNum_r (by omega)).1
        have g_xq18_ : xq18_.toInt ≤ 5 := by rw [e_xq18_]; exact (zNum_r (by omega)).2
        refine jic_ge (tgt := 57) hx hb dX4_readLine_19 (by decide) (fun cq19_ => ?_) (fun cq19_ => ?_)
        · skip
          have cq19_ : xq18_.toInt ≤ yq12_.toInt := cq19_
          refine lv_aload_n hx hb dX4_readLine_57 rfl (lv_at hl 1 rfl) ?_
          refine lv_aload_n hx hb dX4_readLine_58 rfl (lv_at hl 1 rfl) ?_
          refine xg hC hK hH flX4_21 hc_rd rfl dX4_readLine_59 ?_
          refine vk_getf hx hb (hZ.1.2.2.1 vq6_ (by omega)).2.2.2.1 hH.2.1 hC.2.2.2.1 (hC.2.2.2.2 _ wfX4_62) (fun _ h => h) dX4_readLine_62 ?_
          refine lv_topi (fun xq20_ e_xq20_ => ?_)
          refine jif_eq (tgt := 81) hx hb dX4_readLine_65 (by decide) (fun cq21_ => ?_) (fun cq21_ => ?_)
          · skip
            have cq21_ : xq20_.toInt = 0 := cq21_
            refine lv_iconst (v := 0) hx hb dX4_readLine_81 (by decide) ?_
            refine yp (v := .int 0) hC hK hH flX4_72 hc_rd (noT hn_rd) rfl rfl (Nat.le_of_ble_eq_true rfl) dX4_readLine_82 (fun Hq_ lcq_ Mq22_ hc_rd hfr hH => ?_)
            have hc_rd : Mq22_ rd = some (.inr (3, [.ref nb, .ref (zv z vq6_), .int 0, .int wi, .ref by_, .int le, .int yq13_, .int yq14_, .int yq15_, .int yq16_])) := hc_rd
            have hF : ∀ q, FrK T q → q ≠ rd → Mq22_ q = M q := fun q hq h0 => (hfr q h0).trans (hF q hq h0)
            refine lv_aload_n hx hb dX4_readLine_85 rfl (lv_at hl 1 rfl) ?_
            refine xg hC hK hH flX4_72 hc_rd rfl dX4_readLine_86 ?_
            refine jif_eq (tgt := 96) hx hb dX4_readLine_89 (by decide) (fun cq23_ => ?_) (fun cq23_ => absurd cq23_ (by decide))
            refine lv_aload_n hx hb dX4_readLine_96 rfl (lv_at hl 1 rfl) ?_
            refine lv_aload_n hx hb dX4_readLine_97 rfl (lv_at hl 1 rfl) ?_
            refine xg hC hK hH flX4_21 hc_rd rfl dX4_readLine_98 ?_
            refine vk_getf hx hb (hZ.1.2.2.1 vq6_ (by omega)).2.2.2.2.1 hH.2.1 hC.2.2.2.1 (hC.2.2.2.2 _ wfX4_74) (fun _ h => h) dX4_readLine_101 ?_
            refine lv_topi (fun xq24_ e_xq24_ => ?_)
            refine jif_eq (tgt := 120) hx hb dX4_readLine_104 (by decide) (fun cq25_ => ?_) (fun cq25_ => ?_)
            · skip
              have cq25_ : xq24_.toInt = 0 := cq25_
              refine lv_iconst (v := 0) hx hb dX4_readLine_120 (by decide) ?_
              refine yp (v := .int 0) hC hK hH flX4_79 hc_rd (noT hn_rd) rfl rfl (Nat.le_of_ble_eq_true rfl) dX4_readLine_121 (fun Hq_ lcq_ Mq26_ hc_rd hfr hH => ?_)
              have hc_rd : Mq26_ rd = some (.inr (3, [.ref nb, .ref (zv z vq6_), .int 0, .int 0, .ref by_, .int le, .int yq13_, .int yq14_, .int yq15_, .int yq16_])) := hc_rd
              have hF : ∀ q, FrK T q → q ≠ rd → Mq26_ q = M q := fun q hq h0 => (hfr q h0).trans (hF q hq h0)
              refine lv_aload_n hx hb dX4_readLine_124 rfl (lv_at hl 1 rfl) ?_
              refine xg hC hK hH flX4_79 hc_rd rfl dX4_readLine_125 ?_
              refine jif_eq (tgt := 135) hx hb dX4_readLine_128 (by decide) (fun cq27_ => ?_) (fun cq27_ => absurd cq27_ (by decide))
              refine lv_aload_n hx hb dX4_readLine_135 rfl (lv_at hl 1 rfl) ?_
              refine xg hC hK hH flX4_44 hc_rd rfl dX4_readLine_136 ?_
              refine lv_iconst (v := 3) hx hb dX4_readLine_139 (by decide) ?_
              refine jic_eq (tgt := 145) hx hb dX4_readLine_140 (by decide) (fun cq28_ => ?_) (fun cq28_ => ?_)
              · skip
                have cq28_ : yq13_.toInt = 3 := cq28_
                refine lv_aload_n hx hb dX4_readLine_145 rfl (lv_at hl 1 rfl) ?_
                refine goV hK hH (runV (As := []) (rest := []) hC hK hH (c_X4_move hc_rd hn_rd ht_nb ht_by_ (by omega) (by omega) (by omega)) mlX4_41 (rcvM hK hH hc_rd rfl) ⟨⟨Nat.le_of_ble_eq_true rfl, Nat.le_of_ble_eq_true rfl⟩, Nat.le_of_ble_eq_true rfl, Nat.le_of_ble_eq_true rfl⟩ rfl hl.1 rfl (Nat.le_of_ble_eq_true rfl) dX4_readLine_146) (fun Mq29_ Tq30_ Hq_ lcq_ hP hz hH => ?_)
                try dsimp only at hP
                obtain ⟨xq33_, ⟨l_xq33_, g_xq33_⟩, xq34_, ⟨l_xq34_, g_xq34_⟩, xq35_, ⟨l_xq35_, g_xq35_⟩, xq36_, ⟨l_xq36_, g_xq36_⟩, (⟨cq32_, hx_rd⟩), eT, hfr⟩ := hP
                have eT := eT.symm; subst eT
                have hc_rd : Mq29_ rd = some (.inr (3, [.ref nb, .ref (zv z vq6_), .int 0, .int 0, .ref by_, .int le, .int xq33_, .int xq34_, .int xq35_, .int xq36_])) := hx_rd
                have hF : ∀ q, FrK T q → q ≠ rd → Mq29_ q = M q := fun q hq h0 => (hfr q hq  h0).trans (hF q hq h0)
                have cq32_ : xq34_.toInt ≤ xq35_.toInt ∧ xq35_.toInt ≤ le.toInt := cq32_
                refine lv_iconst (v := 1) hx hb dX4_readLine_149 (by decide) ?_
                exact ret_z hC hr hlk hK hH (by first | exact Or.inl rfl | exact Or.inr rfl | assumption) (⟨xq33_, ⟨by omega, by omega⟩, xq34_, ⟨by omega, by omega⟩, xq35_, ⟨by omega, by omega⟩, xq36_, iRg _, 0, ⟨by decide, by decide⟩, 0, ⟨by decide, by decide⟩, vq6_, by omega, Or.inl (⟨by omega, rfl, hc_rd⟩), rfl, hF⟩) (Nat.le_of_ble_eq_true rfl) (Nat.le_of_ble_eq_true rfl) dX4_readLine_150
              · skip
                have cq28_ : yq13_.toInt ≠ 3 := cq28_
                refine lv_iconst (v := 0) hx hb dX4_readLine_143 (by decide) ?_
                exact ret_z hC hr hlk hK hH (by first | exact Or.inl rfl | exact Or.inr rfl | assumption) (⟨yq13_, ⟨by omega, by omega⟩, yq14_, ⟨by omega, by omega⟩, yq15_, ⟨by omega, by omega⟩, yq16_, iRg _, 0, ⟨by decide, by decide⟩, 0, ⟨by decide, by decide⟩, vq6_, by omega, Or.inr (⟨by omega, rfl, hc_rd⟩), rfl, hF⟩) (Nat.le_of_ble_eq_true rfl) (Nat.le_of_ble_eq_true rfl) dX4_readLine_144
            · skip
              have cq25_ : xq24_.toInt ≠ 0 := cq25_
              refine lv_aload_n hx hb dX4_readLine_107 rfl (lv_at hl 1 rfl) ?_
              refine va_ldcS hx hb hC.2.2.2.1 hZ.2.2 dX4_readLine_108 ?_
              refine goI hK hH (runVB (As := [.ref (zs z 20)]) (rest := [.ref rd]) hC hK hH hZ (c_X4_isWord hc_rd hn_rd ht_nb ht_by_ (by decide) (by omega) (by omega) (by omega) (by omega) (by omega) (by omega) (by decide)) mlX4_68 (rcvM hK hH hc_rd rfl) ⟨⟨Nat.le_of_ble_eq_true rfl, Nat.le_of_ble_eq_true rfl⟩, Nat.le_of_ble_eq_true rfl, Nat.le_of_ble_eq_true rfl⟩ rfl hl.1 rfl (Nat.le_of_ble_eq_true rfl) dX4_readLine_110) (fun rq39_ Mq37_ Tq38_ Hq_ lcq_ hP hz hH => ?_)
              try dsimp only at hP
              obtain ⟨(er_rq39_ | er_rq39_), eT, eM⟩ := hP
              · skip
                have eT := eT.symm; subst eT
                have er_rq39_ := er_rq39_.symm; subst er_rq39_
                have eM := eM.symm; subst eM
                refine jif_eq (tgt := 120) hx hb dX4_readLine_113 (by decide) (fun cq40_ => absurd cq40_ (by decide)) (fun cq40_ => ?_)
                refine lv_iconst (v := 1) hx hb dX4_readLine_116 (by decide) ?_
                refine lv_goto (tgt := 121) hx hb dX4_readLine_117 (by decide) ?_
                refine yp (v := .int 1) hC hK hH flX4_79 hc_rd (noT hn_rd) rfl rfl (Nat.le_of_ble_eq_true rfl) dX4_readLine_121 (fun Hq_ lcq_ Mq41_ hc_rd hfr hH => ?_)
                have hc_rd : Mq41_ rd = some (.inr (3, [.ref nb, .ref (zv z vq6_), .int 0, .int 1, .ref by_, .int le, .int yq13_, .int yq14_, .int yq15_, .int yq16_])) := hc_rd
                have hF : ∀ q, FrK T q → q ≠ rd → Mq41_ q = M q := fun q hq h0 => (hfr q h0).trans (hF q hq h0)
                refine lv_aload_n hx hb dX4_readLine_124 rfl (lv_at hl 1 rfl) ?_
                refine xg hC hK hH flX4_79 hc_rd rfl dX4_readLine_125 ?_
                refine jif_eq (tgt := 135) hx hb dX4_readLine_128 (by decide) (fun cq42_ => absurd cq42_ (by decide)) (fun cq42_ => ?_)
                refine lv_aload_n hx hb dX4_readLine_131 rfl (lv_at hl 1 rfl) ?_
                refine goV hK hH (runV (As := []) (rest := []) hC hK hH (c_X4_move hc_rd hn_rd ht_nb ht_by_ (by omega) (by omega) (by omega)) mlX4_41 (rcvM hK hH hc_rd rfl) ⟨⟨Nat.le_of_ble_eq_true rfl, Nat.le_of_ble_eq_true rfl⟩, Nat.le_of_ble_eq_true rfl, Nat.le_of_ble_eq_true rfl⟩ rfl hl.1 rfl (Nat.le_of_ble_eq_true rfl) dX4_readLine_132) (fun Mq43_ Tq44_ Hq_ lcq_ hP hz hH => ?_)
                try dsimp only at hP
                obtain ⟨xq47_, ⟨l_xq47_, g_xq47_⟩, xq48_, ⟨l_xq48_, g_xq48_⟩, xq49_, ⟨l_xq49_, g_xq49_⟩, xq50_, ⟨l_xq50_, g_xq50_⟩, (⟨cq46_, hx_rd⟩), eT, hfr⟩ := hP
                have eT := eT.symm; subst eT
                have hc_rd : Mq43_ rd = some (.inr (3, [.ref nb, .ref (zv z vq6_), .int 0, .int 1, .ref by_, .int le, .int xq47_, .int xq48_, .int xq49_, .int xq50_])) := hx_rd
                have hF : ∀ q, FrK T q → q ≠ rd → Mq43_ q = M q := fun q hq h0 => (hfr q hq  h0).trans (hF q hq h0)
                have cq46_ : xq48_.toInt ≤ xq49_.toInt ∧ xq49_.toInt ≤ le.toInt := cq46_
                refine lv_aload_n hx hb dX4_readLine_135 rfl (lv_at hl 1 rfl) ?_
                refine xg hC hK hH flX4_44 hc_rd rfl dX4_readLine_136 ?_
                refine lv_iconst (v := 3) hx hb dX4_readLine_139 (by decide) ?_
                refine jic_eq (tgt := 145) hx hb dX4_readLine_140 (by decide) (fun cq51_ => ?_) (fun cq51_ => ?_)
                · skip
                  have cq51_ : xq47_.toInt = 3 := cq51_
                  refine lv_aload_n hx hb dX4_readLine_145 rfl (lv_at hl 1 rfl) ?_
                  refine goV hK hH (runV (As := []) (rest := []) hC hK hH (c_X4_move hc_rd hn_rd ht_nb ht_by_ (by omega) (by omega) (by omega)) mlX4_41 (rcvM hK hH hc_rd rfl) ⟨⟨Nat.le_of_ble_eq_true rfl, Nat.le_of_ble_eq_true rfl⟩, Nat.le_of_ble_eq_true rfl, Nat.le_of_ble_eq_true rfl⟩ rfl hl.1 rfl (Nat.le_of_ble_eq_true rfl) dX4_readLine_146) (fun Mq52_ Tq53_ Hq_ lcq_ hP hz hH => ?_)
                  try dsimp only at hP
                  obtain ⟨xq56_, ⟨l_xq56_, g_xq56_⟩, xq57_, ⟨l_xq57_, g_xq57_⟩, xq58_, ⟨l_xq58_, g_xq58_⟩, xq59_, ⟨l_xq59_, g_xq59_⟩, (⟨cq55_, hx_rd⟩), eT, hfr⟩ := hP
                  have eT := eT.symm; subst eT
                  have hc_rd : Mq52_ rd = some (.inr (3, [.ref nb, .ref (zv z vq6_), .int 0, .int 1, .ref by_, .int le, .int xq56_, .int xq57_, .int xq58_, .int xq59_])) := hx_rd
                  have hF : ∀ q, FrK T q → q ≠ rd → Mq52_ q = M q := fun q hq h0 => (hfr q hq  h0).trans (hF q hq h0)
                  have cq55_ : xq57_.toInt ≤ xq58_.toInt ∧ xq58_.toInt ≤ le.toInt := cq55_
                  refine lv_iconst (v := 1) hx hb dX4_readLine_149 (by decide) ?_
                  exact ret_z hC hr hlk hK hH (by first | exact Or.inl rfl | exact Or.inr rfl | assumption) (⟨xq56_, ⟨by omega, by omega⟩, xq57_, ⟨by omega, by omega⟩, xq58_, ⟨by omega, by omega⟩, xq59_, iRg _, 0, ⟨by decide, by decide⟩, 1, ⟨by decide, by decide⟩, vq6_, by omega, Or.inl (⟨by omega, rfl, hc_rd⟩), rfl, hF⟩) (Nat.le_of_ble_eq_true rfl) (Nat.le_of_ble_eq_true rfl) dX4_readLine_150
                · skip
                  have cq51_ : xq47_.toInt ≠ 3 := cq51_
                  refine lv_iconst (v := 0) hx hb dX4_readLine_143 (by decide) ?_
                  exact ret_z hC hr hlk hK hH (by first | exact Or.inl rfl | exact Or.inr rfl | assumption) (⟨xq47_, ⟨by omega, by omega⟩, xq48_, ⟨by omega, by omega⟩, xq49_, ⟨by omega, by omega⟩, xq50_, iRg _, 0, ⟨by decide, by decide⟩, 1, ⟨by decide, by decide⟩, vq6_, by omega, Or.inr (⟨by omega, rfl, hc_rd⟩), rfl, hF⟩) (Nat.le_of_ble_eq_true rfl) (Nat.le_of_ble_eq_true rfl) dX4_readLine_144
              · skip
                have eT := eT.symm; subst eT
                have er_rq39_ := er_rq39_.symm; subst er_rq39_
                have eM := eM.symm; subst eM
                refine jif_eq (tgt := 120) hx hb dX4_readLine_113 (by decide) (fun cq60_ => ?_) (fun cq60_ => absurd cq60_ (by decide))
                refine lv_iconst (v := 0) hx hb dX4_readLine_120 (by decide) ?_
                refine yp (v := .int 0) hC hK hH flX4_79 hc_rd (noT hn_rd) rfl rfl (Nat.le_of_ble_eq_true rfl) dX4_readLine_121 (fun Hq_ lcq_ Mq61_ hc_rd hfr hH => ?_)
                have hc_rd : Mq61_ rd = some (.inr (3, [.ref nb, .ref (zv z vq6_), .int 0, .int 0, .ref by_, .int le, .int yq13_, .int yq14_, .int yq15_, .int yq16_])) := hc_rd
                have hF : ∀ q, FrK T q → q ≠ rd → Mq61_ q = M q := fun q hq h0 => (hfr q h0).trans (hF q hq h0)
                refine lv_aload_n hx hb dX4_readLine_124 rfl (lv_at hl 1 rfl) ?_
                refine xg hC hK hH flX4_79 hc_rd rfl dX4_readLine_125 ?_
                refine jif_eq (tgt := 135) hx hb dX4_readLine_128 (by decide) (fun cq62_ => ?_) (fun cq62_ => absurd cq62_ (by decide))
                refine lv_aload_n hx hb dX4_readLine_135 rfl (lv_at hl 1 rfl) ?_
                refine xg hC hK hH flX4_44 hc_rd rfl dX4_readLine_136 ?_
                refine lv_iconst (v := 3) hx hb dX4_readLine_139 (by decide) ?_
                refine jic_eq (tgt := 145) hx hb dX4_readLine_140 (by decide) (fun cq63_ => ?_) (fun cq63_ => ?_)
                · skip
                  have cq63_ : yq13_.toInt = 3 := cq63_
                  refine lv_aload_n hx hb dX4_readLine_145 rfl (lv_at hl 1 rfl) ?_
                  refine goV hK hH (runV (As := []) (rest := []) hC hK hH (c_X4_move hc_rd hn_rd ht_nb ht_by_ (by omega) (by omega) (by omega)) mlX4_41 (rcvM hK hH hc_rd rfl) ⟨⟨Nat.le_of_ble_eq_true rfl, Nat.le_of_ble_eq_true rfl⟩, Nat.le_of_ble_eq_true rfl, Nat.le_of_ble_eq_true rfl⟩ rfl hl.1 rfl (Nat.le_of_ble_eq_true rfl) dX4_readLine_146) (fun Mq64_ Tq65_ Hq_ lcq_ hP hz hH => ?_)
                  try dsimp only at hP
                  obtain ⟨xq68_, ⟨l_xq68_, g_xq68_⟩, xq69_, ⟨l_xq69_, g_xq69_⟩, xq70_, ⟨l_xq70_, g_xq70_⟩, xq71_, ⟨l_xq71_, g_xq71_⟩, (⟨cq67_, hx_rd⟩), eT, hfr⟩ := hP
                  have eT := eT.symm; subst eT
                  have hc_rd : Mq64_ rd = some (.inr (3, [.ref nb, .ref (zv z vq6_), .int 0, .int 0, .ref by_, .int le, .int xq68_, .int xq69_, .int xq70_, .int xq71_])) := hx_rd
                  have hF : ∀ q, FrK T q → q ≠ rd → Mq64_ q = M q := fun q hq h0 => (hfr q hq  h0).trans (hF q hq h0)
                  have cq67_ : xq69_.toInt ≤ xq70_.toInt ∧ xq70_.toInt ≤ le.toInt := cq67_
                  refine lv_iconst (v := 1) hx hb dX4_readLine_149 (by decide) ?_
                  exact ret_z hC hr hlk hK hH (by first | exact Or.inl rfl | exact Or.inr rfl | assumption) (⟨xq68_, ⟨by omega, by omega⟩, xq69_, ⟨by omega, by omega⟩, xq70_, ⟨by omega, by omega⟩, xq71_, iRg _, 0, ⟨by decide, by decide⟩, 0, ⟨by decide, by decide⟩, vq6_, by omega, Or.inl (⟨by omega, rfl, hc_rd⟩), rfl, hF⟩) (Nat.le_of_ble_eq_true rfl) (Nat.le_of_ble_eq_true rfl) dX4_readLine_150
                · skip
                  have cq63_ : yq13_.toInt ≠ 3 := cq63_
                  refine lv_iconst (v := 0) hx hb dX4_readLine_143 (by decide) ?_
                  exact ret_z hC hr hlk hK hH (by first | exact Or.inl rfl | exact Or.inr rfl | assumption) (⟨yq13_, ⟨by omega, by omega⟩, yq14_, ⟨by omega, by omega⟩, yq15_, ⟨by omega, by omega⟩, yq16_, iRg _, 0, ⟨by decide, by decide⟩, 0, ⟨by decide, by decide⟩, vq6_, by omega, Or.inr (⟨by omega, rfl, hc_rd⟩), rfl, hF⟩) (Nat.le_of_ble_eq_true rfl) (Nat.le_of_ble_eq_true rfl) dX4_readLine_144
          · skip
            have cq21_ : xq20_.toInt ≠ 0 := cq21_
            refine lv_aload_n hx hb dX4_readLine_68 rfl (lv_at hl 1 rfl) ?_
            refine va_ldcS hx hb hC.2.2.2.1 hZ.2.1 dX4_readLine_69 ?_
            refine goI hK hH (runVB (As := [.ref (zs z 19)]) (rest := [.ref rd]) hC hK hH hZ (c_X4_isWord hc_rd hn_rd ht_nb ht_by_ (by omega) (by omega) (by omega) (by omega) (by omega) (by omega) (by omega) (by decide)) mlX4_68 (rcvM hK hH hc_rd rfl) ⟨⟨Nat.le_of_ble_eq_true rfl, Nat.le_of_ble_eq_true rfl⟩, Nat.le_of_ble_eq_true rfl, Nat.le_of_ble_eq_true rfl⟩ rfl hl.1 rfl (Nat.le_of_ble_eq_true rfl) dX4_readLine_71) (fun rq74_ Mq72_ Tq73_ Hq_ lcq_ hP hz hH => ?_)
            try dsimp only at hP
            obtain ⟨(er_rq74_ | er_rq74_), eT, eM⟩ := hP
            · skip
              have eT := eT.symm; subst eT
              have er_rq74_ := er_rq74_.symm; subst er_rq74_
              have eM := eM.symm; subst eM
              refine jif_eq (tgt := 81) hx hb dX4_readLine_74 (by decide) (fun cq75_ => absurd cq75_ (by decide)) (fun cq75_ => ?_)
              refine lv_iconst (v := 1) hx hb dX4_readLine_77 (by decide) ?_
              refine lv_goto (tgt := 82) hx hb dX4_readLine_78 (by decide) ?_
              refine yp (v := .int 1) hC hK hH flX4_72 hc_rd (noT hn_rd) rfl rfl (Nat.le_of_ble_eq_true rfl) dX4_readLine_82 (fun Hq_ lcq_ Mq76_ hc_rd hfr hH => ?_)
              have hc_rd : Mq76_ rd = some (.inr (3, [.ref nb, .ref (zv z vq6_), .int 1, .int wi, .ref by_, .int le, .int yq13_, .int yq14_, .int yq15_, .int yq16_])) := hc_rd
              have hF : ∀ q, FrK T q → q ≠ rd → Mq76_ q = M q := fun q hq h0 => (hfr q h0).trans (hF q hq h0)
              refine lv_aload_n hx hb dX4_readLine_85 rfl (lv_at hl 1 rfl) ?_
              refine xg hC hK hH flX4_72 hc_rd rfl dX4_readLine_86 ?_
              refine jif_eq (tgt := 96) hx hb dX4_readLine_89 (by decide) (fun cq77_ => absurd cq77_ (by decide)) (fun cq77_ => ?_)
              refine lv_aload_n hx hb dX4_readLine_92 rfl (lv_at hl 1 rfl) ?_
              refine goV hK hH (runV (As := []) (rest := []) hC hK hH (c_X4_move hc_rd hn_rd ht_nb ht_by_ (by omega) (by omega) (by omega)) mlX4_41 (rcvM hK hH hc_rd rfl) ⟨⟨Nat.le_of_ble_eq_true rfl, Nat.le_of_ble_eq_true rfl⟩, Nat.le_of_ble_eq_true rfl, Nat.le_of_ble_eq_true rfl⟩ rfl hl.1 rfl (Nat.le_of_ble_eq_true rfl) dX4_readLine_93) (fun Mq78_ Tq79_ Hq_ lcq_ hP hz hH => ?_)
              try dsimp only at hP
              obtain ⟨xq82_, ⟨l_xq82_, g_xq82_⟩, xq83_, ⟨l_xq83_, g_xq83_⟩, xq84_, ⟨l_xq84_, g_xq84_⟩, xq85_, ⟨l_xq85_, g_xq85_⟩, (⟨cq81_, hx_rd⟩), eT, hfr⟩ := hP
              have eT := eT.symm; subst eT
              have hc_rd : Mq78_ rd = some (.inr (3, [.ref nb, .ref (zv z vq6_), .int 1, .int wi, .ref by_, .int le, .int xq82_, .int xq83_, .int xq84_, .int xq85_])) := hx_rd
              have hF : ∀ q, FrK T q → q ≠ rd → Mq78_ q = M q := fun q hq h0 => (hfr q hq  h0).trans (hF q hq h0)
              have cq81_ : xq83_.toInt ≤ xq84_.toInt ∧ xq84_.toInt ≤ le.toInt := cq81_
              refine lv_aload_n hx hb dX4_readLine_96 rfl (lv_at hl 1 rfl) ?_
              refine lv_aload_n hx hb dX4_readLine_97 rfl (lv_at hl 1 rfl) ?_
              refine xg hC hK hH flX4_21 hc_rd rfl dX4_readLine_98 ?_
              refine vk_getf hx hb (hZ.1.2.2.1 vq6_ (by omega)).2.2.2.2.1 hH.2.1 hC.2.2.2.1 (hC.2.2.2.2 _ wfX4_74) (fun _ h => h) dX4_readLine_101 ?_
              refine lv_topi (fun xq86_ e_xq86_ => ?_)
              refine jif_eq (tgt := 120) hx hb dX4_readLine_104 (by decide) (fun cq87_ => ?_) (fun cq87_ => ?_)
              · skip
                have cq87_ : xq86_.toInt = 0 := cq87_
                refine lv_iconst (v := 0) hx hb dX4_readLine_120 (by decide) ?_
                refine yp (v := .int 0) hC hK hH flX4_79 hc_rd (noT hn_rd) rfl rfl (Nat.le_of_ble_eq_true rfl) dX4_readLine_121 (fun Hq_ lcq_ Mq88_ hc_rd hfr hH => ?_)
                have hc_rd : Mq88_ rd = some (.inr (3, [.ref nb, .ref (zv z vq6_), .int 1, .int 0, .ref by_, .int le, .int xq82_, .int xq83_, .int xq84_, .int xq85_])) := hc_rd
                have hF : ∀ q, FrK T q → q ≠ rd → Mq88_ q = M q := fun q hq h0 => (hfr q h0).trans (hF q hq h0)
                refine lv_aload_n hx hb dX4_readLine_124 rfl (lv_at hl 1 rfl) ?_
                refine xg hC hK hH flX4_79 hc_rd rfl dX4_readLine_125 ?_
                refine jif_eq (tgt := 135) hx hb dX4_readLine_128 (by decide) (fun cq89_ => ?_) (fun cq89_ => absurd cq89_ (by decide))
                refine lv_aload_n hx hb dX4_readLine_135 rfl (lv_at hl 1 rfl) ?_
                refine xg hC hK hH flX4_44 hc_rd rfl dX4_readLine_136 ?_
                refine lv_iconst (v := 3) hx hb dX4_readLine_139 (by decide) ?_
                refine jic_eq (tgt := 145) hx hb dX4_readLine_140 (by decide) (fun cq90_ => ?_) (fun cq90_ => ?_)
                · skip
                  have cq90_ : xq82_.toInt = 3 := cq90_
                  refine lv_aload_n hx hb dX4_readLine_145 rfl (lv_at hl 1 rfl) ?_
                  refine goV hK hH (runV (As := []) (rest := []) hC hK hH (c_X4_move hc_rd hn_rd ht_nb ht_by_ (by omega) (by omega) (by omega)) mlX4_41 (rcvM hK hH hc_rd rfl) ⟨⟨Nat.le_of_ble_eq_true rfl, Nat.le_of_ble_eq_true rfl⟩, Nat.le_of_ble_eq_true rfl, Nat.le_of_ble_eq_true rfl⟩ rfl hl.1 rfl (Nat.le_of_ble_eq_true rfl) dX4_readLine_146) (fun Mq91_ Tq92_ Hq_ lcq_ hP hz hH => ?_)
                  try dsimp only at hP
                  obtain ⟨xq95_, ⟨l_xq95_, g_xq95_⟩, xq96_, ⟨l_xq96_, g_xq96_⟩, xq97_, ⟨l_xq97_, g_xq97_⟩, xq98_, ⟨l_xq98_, g_xq98_⟩, (⟨cq94_, hx_rd⟩), eT, hfr⟩ := hP
                  have eT := eT.symm; subst eT
                  have hc_rd : Mq91_ rd = some (.inr (3, [.ref nb, .ref (zv z vq6_), .int 1, .int 0, .ref by_, .int le, .int xq95_, .int xq96_, .int xq97_, .int xq98_])) := hx_rd
                  have hF : ∀ q, FrK T q → q ≠ rd → Mq91_ q = M q := fun q hq h0 => (hfr q hq  h0).trans (hF q hq h0)
                  have cq94_ : xq96_.toInt ≤ xq97_.toInt ∧ xq97_.toInt ≤ le.toInt := cq94_
                  refine lv_iconst (v := 1) hx hb dX4_readLine_149 (by decide) ?_
                  exact ret_z hC hr hlk hK hH (by first | exact Or.inl rfl | exact Or.inr rfl | assumption) (⟨xq95_, ⟨by omega, by omega⟩, xq96_, ⟨by omega, by omega⟩, xq97_, ⟨by omega, by omega⟩, xq98_, iRg _, 1, ⟨by decide, by decide⟩, 0, ⟨by decide, by decide⟩, vq6_, by omega, Or.inl (⟨by omega, rfl, hc_rd⟩), rfl, hF⟩) (Nat.le_of_ble_eq_true rfl) (Nat.le_of_ble_eq_true rfl) dX4_readLine_150
                · skip
                  have cq90_ : xq82_.toInt ≠ 3 := cq90_
                  refine lv_iconst (v := 0) hx hb dX4_readLine_143 (by decide) ?_
                  exact ret_z hC hr hlk hK hH (by first | exact Or.inl rfl | exact Or.inr rfl | assumption) (⟨xq82_, ⟨by omega, by omega⟩, xq83_, ⟨by omega, by omega⟩, xq84_, ⟨by omega, by omega⟩, xq85_, iRg _, 1, ⟨by decide, by decide⟩, 0, ⟨by decide, by decide⟩, vq6_, by omega, Or.inr (⟨by omega, rfl, hc_rd⟩), rfl, hF⟩) (Nat.le_of_ble_eq_true rfl) (Nat.le_of_ble_eq_true rfl) dX4_readLine_144
              · skip
                have cq87_ : xq86_.toInt ≠ 0 := cq87_
                refine lv_aload_n hx hb dX4_readLine_107 rfl (lv_at hl 1 rfl) ?_
                refine va_ldcS hx hb hC.2.2.2.1 hZ.2.2 dX4_readLine_108 ?_
                refine goI hK hH (runVB (As := [.ref (zs z 20)]) (rest := [.ref rd]) hC hK hH hZ (c_X4_isWord hc_rd hn_rd ht_nb ht_by_ (by decide) (by omega) (by omega) (by omega) (by omega) (by omega) (by omega) (by decide)) mlX4_68 (rcvM hK hH hc_rd rfl) ⟨⟨Nat.le_of_ble_eq_true rfl, Nat.le_of_ble_eq_true rfl⟩, Nat.le_of_ble_eq_true rfl, Nat.le_of_ble_eq_true rfl⟩ rfl hl.1 rfl (Nat.le_of_ble_eq_true rfl) dX4_readLine_110) (fun rq101_ Mq99_ Tq100_ Hq_ lcq_ hP hz hH => ?_)
                try dsimp only at hP
                obtain ⟨(er_rq101_ | er_rq101_), eT, eM⟩ := hP
                · skip
                  have eT := eT.symm; subst eT
                  have er_rq101_ := er_rq101_.symm; subst er_rq101_
                  have eM := eM.symm; subst eM
                  refine jif_eq (tgt := 120) hx hb dX4_readLine_113 (by decide) (fun cq102_ => absurd cq102_ (by decide)) (fun cq102_ => ?_)
                  refine lv_iconst (v := 1) hx hb dX4_readLine_116 (by decide) ?_
                  refine lv_goto (tgt := 121) hx hb dX4_readLine_117 (by decide) ?_
                  refine yp (v := .int 1) hC hK hH flX4_79 hc_rd (noT hn_rd) rfl rfl (Nat.le_of_ble_eq_true rfl) dX4_readLine_121 (fun Hq_ lcq_ Mq103_ hc_rd hfr hH => ?_)
                  have hc_rd : Mq103_ rd = some (.inr (3, [.ref nb, .ref (zv z vq6_), .int 1, .int 1, .ref by_, .int le, .int xq82_, .int xq83_, .int xq84_, .int xq85_])) := hc_rd
                  have hF : ∀ q, FrK T q → q ≠ rd → Mq103_ q = M q := fun q hq h0 => (hfr q h0).trans (hF q hq h0)
                  refine lv_aload_n hx hb dX4_readLine_124 rfl (lv_at hl 1 rfl) ?_
                  refine xg hC hK hH flX4_79 hc_rd rfl dX4_readLine_125 ?_
                  refine jif_eq (tgt := 135) hx hb dX4_readLine_128 (by decide) (fun cq104_ => absurd cq104_ (by decide)) (fun cq104_ => ?_)
                  refine lv_aload_n hx hb dX4_readLine_131 rfl (lv_at hl 1 rfl) ?_
                  refine goV hK hH (runV (As := []) (rest := []) hC hK hH (c_X4_move hc_rd hn_rd ht_nb ht_by_ (by omega) (by omega) (by omega)) mlX4_41 (rcvM hK hH hc_rd rfl) ⟨⟨Nat.le_of_ble_eq_true rfl, Nat.le_of_ble_eq_true rfl⟩, Nat.le_of_ble_eq_true rfl, Nat.le_of_ble_eq_true rfl⟩ rfl hl.1 rfl (Nat.le_of_ble_eq_true rfl) dX4_readLine_132) (fun Mq105_ Tq106_ Hq_ lcq_ hP hz hH => ?_)
                  try dsimp only at hP
                  obtain ⟨xq109_, ⟨l_xq109_, g_xq109_⟩, xq110_, ⟨l_xq110_, g_xq110_⟩, xq111_, ⟨l_xq111_, g_xq111_⟩, xq112_, ⟨l_xq112_, g_xq112_⟩, (⟨cq108_, hx_rd⟩), eT, hfr⟩ := hP
                  have eT := eT.symm; subst eT
                  have hc_rd : Mq105_ rd = some (.inr (3, [.ref nb, .ref (zv z vq6_), .int 1, .int 1, .ref by_, .int le, .int xq109_, .int xq110_, .int xq111_, .int xq112_])) := hx_rd
                  have hF : ∀ q, FrK T q → q ≠ rd → Mq105_ q = M q := fun q hq h0 => (hfr q hq  h0).trans (hF q hq h0)
                  have cq108_ : xq110_.toInt ≤ xq111_.toInt ∧ xq111_.toInt ≤ le.toInt := cq108_
                  refine lv_aload_n hx hb dX4_readLine_135 rfl (lv_at hl 1 rfl) ?_
                  refine xg hC hK hH flX4_44 hc_rd rfl dX4_readLine_136 ?_
                  refine lv_iconst (v := 3) hx hb dX4_readLine_139 (by decide) ?_
                  refine jic_eq (tgt := 145) hx hb dX4_readLine_140 (by decide) (fun cq113_ => ?_) (fun cq113_ => ?_)
                  · skip
                    have cq113_ : xq109_.toInt = 3 := cq113_
                    refine lv_aload_n hx hb dX4_readLine_145 rfl (lv_at hl 1 rfl) ?_
                    refine goV hK hH (runV (As := []) (rest := []) hC hK hH (c_X4_move hc_rd hn_rd ht_nb ht_by_ (by omega) (by omega) (by omega)) mlX4_41 (rcvM hK hH hc_rd rfl) ⟨⟨Nat.le_of_ble_eq_true rfl, Nat.le_of_ble_eq_true rfl⟩, Nat.le_of_ble_eq_true rfl, Nat.le_of_ble_eq_true rfl⟩ rfl hl.1 rfl (Nat.le_of_ble_eq_true rfl) dX4_readLine_146) (fun Mq114_ Tq115_ Hq_ lcq_ hP hz hH => ?_)
                    try dsimp only at hP
                    obtain ⟨xq118_, ⟨l_xq118_, g_xq118_⟩, xq119_, ⟨l_xq119_, g_xq119_⟩, xq120_, ⟨l_xq120_, g_xq120_⟩, xq121_, ⟨l_xq121_, g_xq121_⟩, (⟨cq117_, hx_rd⟩), eT, hfr⟩ := hP
                    have eT := eT.symm; subst eT
                    have hc_rd : Mq114_ rd = some (.inr (3, [.ref nb, .ref (zv z vq6_), .int 1, .int 1, .ref by_, .int le, .int xq118_, .int xq119_, .int xq120_, .int xq121_])) := hx_rd
                    have hF : ∀ q, FrK T q → q ≠ rd → Mq114_ q = M q := fun q hq h0 => (hfr q hq  h0).trans (hF q hq h0)
                    have cq117_ : xq119_.toInt ≤ xq120_.toInt ∧ xq120_.toInt ≤ le.toInt := cq117_
                    refine lv_iconst (v := 1) hx hb dX4_readLine_149 (by decide) ?_
                    exact ret_z hC hr hlk hK hH (by first | exact Or.inl rfl | exact Or.inr rfl | assumption) (⟨xq118_, ⟨by omega, by omega⟩, xq119_, ⟨by omega, by omega⟩, xq120_, ⟨by omega, by omega⟩, xq121_, iRg _, 1, ⟨by decide, by decide⟩, 1, ⟨by decide, by decide⟩, vq6_, by omega, Or.inl (⟨by omega, rfl, hc_rd⟩), rfl, hF⟩) (Nat.le_of_ble_eq_true rfl) (Nat.le_of_ble_eq_true rfl) dX4_readLine_150
                  · skip
                    have cq113_ : xq109_.toInt ≠ 3 := cq113_
                    refine lv_iconst (v := 0) hx hb dX4_readLine_143 (by decide) ?_
                    exact ret_z hC hr hlk hK hH (by first | exact Or.inl rfl | exact Or.inr rfl | assumption) (⟨xq109_, ⟨by omega, by omega⟩, xq110_, ⟨by omega, by omega⟩, xq111_, ⟨by omega, by omega⟩, xq112_, iRg _, 1, ⟨by decide, by decide⟩, 1, ⟨by decide, by decide⟩, vq6_, by omega, Or.inr (⟨by omega, rfl, hc_rd⟩), rfl, hF⟩) (Nat.le_of_ble_eq_true rfl) (Nat.le_of_ble_eq_true rfl) dX4_readLine_144
                · skip
                  have eT := eT.symm; subst eT
                  have er_rq101_ := er_rq101_.symm; subst er_rq101_
                  have eM := eM.symm; subst eM
                  refine jif_eq (tgt := 120) hx hb dX4_readLine_113 (by decide) (fun cq122_ => ?_) (fun cq122_ => absurd cq122_ (by decide))
                  refine lv_iconst (v := 0) hx hb dX4_readLine_120 (by decide) ?_
                  refine yp (v := .int 0) hC hK hH flX4_79 hc_rd (noT hn_rd) rfl rfl (Nat.le_of_ble_eq_true rfl) dX4_readLine_121 (fun Hq_ lcq_ Mq123_ hc_rd hfr hH => ?_)
                  have hc_rd : Mq123_ rd = some (.inr (3, [.ref nb, .ref (zv z vq6_), .int 1, .int 0, .ref by_, .int le, .int xq82_, .int xq83_, .int xq84_, .int xq85_])) := hc_rd
                  have hF : ∀ q, FrK T q → q ≠ rd → Mq123_ q = M q := fun q hq h0 => (hfr q h0).trans (hF q hq h0)
                  refine lv_aload_n hx hb dX4_readLine_124 rfl (lv_at hl 1 rfl) ?_
                  refine xg hC hK hH flX4_79 hc_rd rfl dX4_readLine_125 ?_
                  refine jif_eq (tgt := 135) hx hb dX4_readLine_128 (by decide) (fun cq124_ => ?_) (fun cq124_ => absurd cq124_ (by decide))
                  refine lv_aload_n hx hb dX4_readLine_135 rfl (lv_at hl 1 rfl) ?_
                  refine xg hC hK hH flX4_44 hc_rd rfl dX4_readLine_136 ?_
                  refine lv_iconst (v := 3) hx hb dX4_readLine_139 (by decide) ?_
                  refine jic_eq (tgt := 145) hx hb dX4_readLine_140 (by decide) (fun cq125_ => ?_) (fun cq125_ => ?_)
                  · skip
                    have cq125_ : xq82_.toInt = 3 := cq125_
                    refine lv_aload_n hx hb dX4_readLine_145 rfl (lv_at hl 1 rfl) ?_
                    refine goV hK hH (runV (As := []) (rest := []) hC hK hH (c_X4_move hc_rd hn_rd ht_nb ht_by_ (by omega) (by omega) (by omega)) mlX4_41 (rcvM hK hH hc_rd rfl) ⟨⟨Nat.le_of_ble_eq_true rfl, Nat.le_of_ble_eq_true rfl⟩, Nat.le_of_ble_eq_true rfl, Nat.le_of_ble_eq_true rfl⟩ rfl hl.1 rfl (Nat.le_of_ble_eq_true rfl) dX4_readLine_146) (fun Mq126_ Tq127_ Hq_ lcq_ hP hz hH => ?_)
                    try dsimp only at hP
                    obtain ⟨xq130_, ⟨l_xq130_, g_xq130_⟩, xq131_, ⟨l_xq131_, g_xq131_⟩, xq132_, ⟨l_xq132_, g_xq132_⟩, xq133_, ⟨l_xq133_, g_xq133_⟩, (⟨cq129_, hx_rd⟩), eT, hfr⟩ := hP
                    have eT := eT.symm; subst eT
                    have hc_rd : Mq126_ rd = some (.inr (3, [.ref nb, .ref (zv z vq6_), .int 1, .int 0, .ref by_, .int le, .int xq130_, .int xq131_, .int xq132_, .int xq133_])) := hx_rd
                    have hF : ∀ q, FrK T q → q ≠ rd → Mq126_ q = M q := fun q hq h0 => (hfr q hq  h0).trans (hF q hq h0)
                    have cq129_ : xq131_.toInt ≤ xq132_.toInt ∧ xq132_.toInt ≤ le.toInt := cq129_
                    refine lv_iconst (v := 1) hx hb dX4_readLine_149 (by decide) ?_
                    exact ret_z hC hr hlk hK hH (by first | exact Or.inl rfl | exact Or.inr rfl | assumption) (⟨xq130_, ⟨by omega, by omega⟩, xq131_, ⟨by omega, by omega⟩, xq132_, ⟨by omega, by omega⟩, xq133_, iRg _, 1, ⟨by decide, by decide⟩, 0, ⟨by decide, by decide⟩, vq6_, by omega, Or.inl (⟨by omega, rfl, hc_rd⟩), rfl, hF⟩) (Nat.le_of_ble_eq_true rfl) (Nat.le_of_ble_eq_true rfl) dX4_readLine_150
                  · skip
                    have cq125_ : xq82_.toInt ≠ 3 := cq125_
                    refine lv_iconst (v := 0) hx hb dX4_readLine_143 (by decide) ?_
                    exact ret_z hC hr hlk hK hH (by first | exact Or.inl rfl | exact Or.inr rfl | assumption) (⟨xq82_, ⟨by omega, by omega⟩, xq83_, ⟨by omega, by omega⟩, xq84_, ⟨by omega, by omega⟩, xq85_, iRg _, 1, ⟨by decide, by decide⟩, 0, ⟨by decide, by decide⟩, vq6_, by omega, Or.inr (⟨by omega, rfl, hc_rd⟩), rfl, hF⟩) (Nat.le_of_ble_eq_true rfl) (Nat.le_of_ble_eq_true rfl) dX4_readLine_144
            · skip
              have eT := eT.symm; subst eT
              have er_rq74_ := er_rq74_.symm; subst er_rq74_
              have eM := eM.symm; subst eM
              refine jif_eq (tgt := 81) hx hb dX4_readLine_74 (by decide) (fun cq134_ => ?_) (fun cq134_ => absurd cq134_ (by decide))
              refine lv_iconst (v := 0) hx hb dX4_readLine_81 (by decide) ?_
              refine yp (v := .int 0) hC hK hH flX4_72 hc_rd (noT hn_rd) rfl rfl (Nat.le_of_ble_eq_true rfl) dX4_readLine_82 (fun Hq_ lcq_ Mq135_ hc_rd hfr hH => ?_)
              have hc_rd : Mq135_ rd = some (.inr (3, [.ref nb, .ref (zv z vq6_), .int 0, .int wi, .ref by_, .int le, .int yq13_, .int yq14_, .int yq15_, .int yq16_])) := hc_rd
              have hF : ∀ q, FrK T q → q ≠ rd → Mq135_ q = M q := fun q hq h0 => (hfr q h0).trans (hF q hq h0)
              refine lv_aload_n hx hb dX4_readLine_85 rfl (lv_at hl 1 rfl) ?_
              refine xg hC hK hH flX4_72 hc_rd rfl dX4_readLine_86 ?_
              refine jif_eq (tgt := 96) hx hb dX4_readLine_89 (by decide) (fun cq136_ => ?_) (fun cq136_ => absurd cq136_ (by decide))
              refine lv_aload_n hx hb dX4_readLine_96 rfl (lv_at hl 1 rfl) ?_
              refine lv_aload_n hx hb dX4_readLine_97 rfl (lv_at hl 1 rfl) ?_
              refine xg hC hK hH flX4_21 hc_rd rfl dX4_readLine_98 ?_
              refine vk_getf hx hb (hZ.1.2.2.1 vq6_ (by omega)).2.2.2.2.1 hH.2.1 hC.2.2.2.1 (hC.2.2.2.2 _ wfX4_74) (fun _ h => h) dX4_readLine_101 ?_
              refine lv_topi (fun xq137_ e_xq137_ => ?_)
              refine jif_eq (tgt := 120) hx hb dX4_readLine_104 (by decide) (fun cq138_ => ?_) (fun cq138_ => ?_)
              · skip
                have cq138_ : xq137_.toInt = 0 := cq138_
                refine lv_iconst (v := 0) hx hb dX4_readLine_120 (by decide) ?_
                refine yp (v := .int 0) hC hK hH flX4_79 hc_rd (noT hn_rd) rfl rfl (Nat.le_of_ble_eq_true rfl) dX4_readLine_121 (fun Hq_ lcq_ Mq139_ hc_rd hfr hH => ?_)
                have hc_rd : Mq139_ rd = some (.inr (3, [.ref nb, .ref (zv z vq6_), .int 0, .int 0, .ref by_, .int le, .int yq13_, .int yq14_, .int yq15_, .int yq16_])) := hc_rd
                have hF : ∀ q, FrK T q → q ≠ rd → Mq139_ q = M q := fun q hq h0 => (hfr q h0).trans (hF q hq h0)
                refine lv_aload_n hx hb dX4_readLine_124 rfl (lv_at hl 1 rfl) ?_
                refine xg hC hK hH flX4_79 hc_rd rfl dX4_readLine_125 ?_
                refine jif_eq (tgt := 135) hx hb dX4_readLine_128 (by decide) (fun cq140_ => ?_) (fun cq140_ => absurd cq140_ (by decide))
                refine lv_aload_n hx hb dX4_readLine_135 rfl (lv_at hl 1 rfl) ?_
                refine xg hC hK hH flX4_44 hc_rd rfl dX4_readLine_136 ?_
                refine lv_iconst (v := 3) hx hb dX4_readLine_139 (by decide) ?_
                refine jic_eq (tgt := 145) hx hb dX4_readLine_140 (by decide) (fun cq141_ => ?_) (fun cq141_ => ?_)
                · skip
                  have cq141_ : yq13_.toInt = 3 := cq141_
                  refine lv_aload_n hx hb dX4_readLine_145 rfl (lv_at hl 1 rfl) ?_
                  refine goV hK hH (runV (As := []) (rest := []) hC hK hH (c_X4_move hc_rd hn_rd ht_nb ht_by_ (by omega) (by omega) (by omega)) mlX4_41 (rcvM hK hH hc_rd rfl) ⟨⟨Nat.le_of_ble_eq_true rfl, Nat.le_of_ble_eq_true rfl⟩, Nat.le_of_ble_eq_true rfl, Nat.le_of_ble_eq_true rfl⟩ rfl hl.1 rfl (Nat.le_of_ble_eq_true rfl) dX4_readLine_146) (fun Mq142_ Tq143_ Hq_ lcq_ hP hz hH => ?_)
                  try dsimp only at hP
                  obtain ⟨xq146_, ⟨l_xq146_, g_xq146_⟩, xq147_, ⟨l_xq147_, g_xq147_⟩, xq148_, ⟨l_xq148_, g_xq148_⟩, xq149_, ⟨l_xq149_, g_xq149_⟩, (⟨cq145_, hx_rd⟩), eT, hfr⟩ := hP
                  have eT := eT.symm; subst eT
                  have hc_rd : Mq142_ rd = some (.inr (3, [.ref nb, .ref (zv z vq6_), .int 0, .int 0, .ref by_, .int le, .int xq146_, .int xq147_, .int xq148_, .int xq149_])) := hx_rd
                  have hF : ∀ q, FrK T q → q ≠ rd → Mq142_ q = M q := fun q hq h0 => (hfr q hq  h0).trans (hF q hq h0)
                  have cq145_ : xq147_.toInt ≤ xq148_.toInt ∧ xq148_.toInt ≤ le.toInt := cq145_
                  refine lv_iconst (v := 1) hx hb dX4_readLine_149 (by decide) ?_
                  exact ret_z hC hr hlk hK hH (by first | exact Or.inl rfl | exact Or.inr rfl | assumption) (⟨xq146_, ⟨by omega, by omega⟩, xq147_, ⟨by omega, by omega⟩, xq148_, ⟨by omega, by omega⟩, xq149_, iRg _, 0, ⟨by decide, by decide⟩, 0, ⟨by decide, by decide⟩, vq6_, by omega, Or.inl (⟨by omega, rfl, hc_rd⟩), rfl, hF⟩) (Nat.le_of_ble_eq_true rfl) (Nat.le_of_ble_eq_true rfl) dX4_readLine_150
                · skip
                  have cq141_ : yq13_.toInt ≠ 3 := cq141_
                  refine lv_iconst (v := 0) hx hb dX4_readLine_143 (by decide) ?_
                  exact ret_z hC hr hlk hK hH (by first | exact Or.inl rfl | exact Or.inr rfl | assumption) (⟨yq13_, ⟨by omega, by omega⟩, yq14_, ⟨by omega, by omega⟩, yq15_, ⟨by omega, by omega⟩, yq16_, iRg _, 0, ⟨by decide, by decide⟩, 0, ⟨by decide, by decide⟩, vq6_, by omega, Or.inr (⟨by omega, rfl, hc_rd⟩), rfl, hF⟩) (Nat.le_of_ble_eq_true rfl) (Nat.le_of_ble_eq_true rfl) dX4_readLine_144
              · skip
                have cq138_ : xq137_.toInt ≠ 0 := cq138_
                refine lv_aload_n hx hb dX4_readLine_107 rfl (lv_at hl 1 rfl) ?_
                refine va_ldcS hx hb hC.2.2.2.1 hZ.2.2 dX4_readLine_108 ?_
                refine goI hK hH (runVB (As := [.ref (zs z 20)]) (rest := [.ref rd]) hC hK hH hZ (c_X4_isWord hc_rd hn_rd ht_nb ht_by_ (by decide) (by omega) (by omega) (by omega) (by omega) (by omega) (by omega) (by decide)) mlX4_68 (rcvM hK hH hc_rd rfl) ⟨⟨Nat.le_of_ble_eq_true rfl, Nat.le_of_ble_eq_true rfl⟩, Nat.le_of_ble_eq_true rfl, Nat.le_of_ble_eq_true rfl⟩ rfl hl.1 rfl (Nat.le_of_ble_eq_true rfl) dX4_readLine_110) (fun rq152_ Mq150_ Tq151_ Hq_ lcq_ hP hz hH => ?_)
                try dsimp only at hP
                obtain ⟨(er_rq152_ | er_rq152_), eT, eM⟩ := hP
                · skip
                  have eT := eT.symm; subst eT
                  have er_rq152_ := er_rq152_.symm; subst er_rq152_
                  have eM := eM.symm; subst eM
                  refine jif_eq (tgt := 120) hx hb dX4_readLine_113 (by decide) (fun cq153_ => absurd cq153_ (by decide)) (fun cq153_ => ?_)
                  refine lv_iconst (v := 1) hx hb dX4_readLine_116 (by decide) ?_
                  refine lv_goto (tgt := 121) hx hb dX4_readLine_117 (by decide) ?_
                  refine yp (v := .int 1) hC hK hH flX4_79 hc_rd (noT hn_rd) rfl rfl (Nat.le_of_ble_eq_true rfl) dX4_readLine_121 (fun Hq_ lcq_ Mq154_ hc_rd hfr hH => ?_)
                  have hc_rd : Mq154_ rd = some (.inr (3, [.ref nb, .ref (zv z vq6_), .int 0, .int 1, .ref by_, .int le, .int yq13_, .int yq14_, .int yq15_, .int yq16_])) := hc_rd
                  have hF : ∀ q, FrK T q → q ≠ rd → Mq154_ q = M q := fun q hq h0 => (hfr q h0).trans (hF q hq h0)
                  refine lv_aload_n hx hb dX4_readLine_124 rfl (lv_at hl 1 rfl) ?_
                  refine xg hC hK hH flX4_79 hc_rd rfl dX4_readLine_125 ?_
                  refine jif_eq (tgt := 135) hx hb dX4_readLine_128 (by decide) (fun cq155_ => absurd cq155_ (by decide)) (fun cq155_ => ?_)
                  refine lv_aload_n hx hb dX4_readLine_131 rfl (lv_at hl 1 rfl) ?_
                  refine goV hK hH (runV (As := []) (rest := []) hC hK hH (c_X4_move hc_rd hn_rd ht_nb ht_by_ (by omega) (by omega) (by omega)) mlX4_41 (rcvM hK hH hc_rd rfl) ⟨⟨Nat.le_of_ble_eq_true rfl, Nat.le_of_ble_eq_true rfl⟩, Nat.le_of_ble_eq_true rfl, Nat.le_of_ble_eq_true rfl⟩ rfl hl.1 rfl (Nat.le_of_ble_eq_true rfl) dX4_readLine_132) (fun Mq156_ Tq157_ Hq_ lcq_ hP hz hH => ?_)
                  try dsimp only at hP
                  obtain ⟨xq160_, ⟨l_xq160_, g_xq160_⟩, xq161_, ⟨l_xq161_, g_xq161_⟩, xq162_, ⟨l_xq162_, g_xq162_⟩, xq163_, ⟨l_xq163_, g_xq163_⟩, (⟨cq159_, hx_rd⟩), eT, hfr⟩ := hP
                  have eT := eT.symm; subst eT
                  have hc_rd : Mq156_ rd = some (.inr (3, [.ref nb, .ref (zv z vq6_), .int 0, .int 1, .ref by_, .int le, .int xq160_, .int xq161_, .int xq162_, .int xq163_])) := hx_rd
                  have hF : ∀ q, FrK T q → q ≠ rd → Mq156_ q = M q := fun q hq h0 => (hfr q hq  h0).trans (hF q hq h0)
                  have cq159_ : xq161_.toInt ≤ xq162_.toInt ∧ xq162_.toInt ≤ le.toInt := cq159_
                  refine lv_aload_n hx hb dX4_readLine_135 rfl (lv_at hl 1 rfl) ?_
                  refine xg hC hK hH flX4_44 hc_rd rfl dX4_readLine_136 ?_
                  refine lv_iconst (v := 3) hx hb dX4_readLine_139 (by decide) ?_
                  refine jic_eq (tgt := 145) hx hb dX4_readLine_140 (by decide) (fun cq164_ => ?_) (fun cq164_ => ?_)
                  · skip
                    have cq164_ : xq160_.toInt = 3 := cq164_
                    refine lv_aload_n hx hb dX4_readLine_145 rfl (lv_at hl 1 rfl) ?_
                    refine goV hK hH (runV (As := []) (rest := []) hC hK hH (c_X4_move hc_rd hn_rd ht_nb ht_by_ (by omega) (by omega) (by omega)) mlX4_41 (rcvM hK hH hc_rd rfl) ⟨⟨Nat.le_of_ble_eq_true rfl, Nat.le_of_ble_eq_true rfl⟩, Nat.le_of_ble_eq_true rfl, Nat.le_of_ble_eq_true rfl⟩ rfl hl.1 rfl (Nat.le_of_ble_eq_true rfl) dX4_readLine_146) (fun Mq165_ Tq166_ Hq_ lcq_ hP hz hH => ?_)
                    try dsimp only at hP
                    obtain ⟨xq169_, ⟨l_xq169_, g_xq169_⟩, xq170_, ⟨l_xq170_, g_xq170_⟩, xq171_, ⟨l_xq171_, g_xq171_⟩, xq172_, ⟨l_xq172_, g_xq172_⟩, (⟨cq168_, hx_rd⟩), eT, hfr⟩ := hP
                    have eT := eT.symm; subst eT
                    have hc_rd : Mq165_ rd = some (.inr (3, [.ref nb, .ref (zv z vq6_), .int 0, .int 1, .ref by_, .int le, .int xq169_, .int xq170_, .int xq171_, .int xq172_])) := hx_rd
                    have hF : ∀ q, FrK T q → q ≠ rd → Mq165_ q = M q := fun q hq h0 => (hfr q hq  h0).trans (hF q hq h0)
                    have cq168_ : xq170_.toInt ≤ xq171_.toInt ∧ xq171_.toInt ≤ le.toInt := cq168_
                    refine lv_iconst (v := 1) hx hb dX4_readLine_149 (by decide) ?_
                    exact ret_z hC hr hlk hK hH (by first | exact Or.inl rfl | exact Or.inr rfl | assumption) (⟨xq169_, ⟨by omega, by omega⟩, xq170_, ⟨by omega, by omega⟩, xq171_, ⟨by omega, by omega⟩, xq172_, iRg _, 0, ⟨by decide, by decide⟩, 1, ⟨by decide, by decide⟩, vq6_, by omega, Or.inl (⟨by omega, rfl, hc_rd⟩), rfl, hF⟩) (Nat.le_of_ble_eq_true rfl) (Nat.le_of_ble_eq_true rfl) dX4_readLine_150
                  · skip
                    have cq164_ : xq160_.toInt ≠ 3 := cq164_
                    refine lv_iconst (v := 0) hx hb dX4_readLine_143 (by decide) ?_
                    exact ret_z hC hr hlk hK hH (by first | exact Or.inl rfl | exact Or.inr rfl | assumption) (⟨xq160_, ⟨by omega, by omega⟩, xq161_, ⟨by omega, by omega⟩, xq162_, ⟨by omega, by omega⟩, xq163_, iRg _, 0, ⟨by decide, by decide⟩, 1, ⟨by decide, by decide⟩, vq6_, by omega, Or.inr (⟨by omega, rfl, hc_rd⟩), rfl, hF⟩) (Nat.le_of_ble_eq_true rfl) (Nat.le_of_ble_eq_true rfl) dX4_readLine_144
                · skip
                  have eT := eT.symm; subst eT
                  have er_rq152_ := er_rq152_.symm; subst er_rq152_
                  have eM := eM.symm; subst eM
                  refine jif_eq (tgt := 120) hx hb dX4_readLine_113 (by decide) (fun cq173_ => ?_) (fun cq173_ => absurd cq173_ (by decide))
                  refine lv_iconst (v := 0) hx hb dX4_readLine_120 (by decide) ?_
                  refine yp (v := .int 0) hC hK hH flX4_79 hc_rd (noT hn_rd) rfl rfl (Nat.le_of_ble_eq_true rfl) dX4_readLine_121 (fun Hq_ lcq_ Mq174_ hc_rd hfr hH => ?_)
                  have hc_rd : Mq174_ rd = some (.inr (3, [.ref nb, .ref (zv z vq6_), .int 0, .int 0, .ref by_, .int le, .int yq13_, .int yq14_, .int yq15_, .int yq16_])) := hc_rd
                  have hF : ∀ q, FrK T q → q ≠ rd → Mq174_ q = M q := fun q hq h0 => (hfr q h0).trans (hF q hq h0)
                  refine lv_aload_n hx hb dX4_readLine_124 rfl (lv_at hl 1 rfl) ?_
                  refine xg hC hK hH flX4_79 hc_rd rfl dX4_readLine_125 ?_
                  refine jif_eq (tgt := 135) hx hb dX4_readLine_128 (by decide) (fun cq175_ => ?_) (fun cq175_ => absurd cq175_ (by decide))
                  refine lv_aload_n hx hb dX4_readLine_135 rfl (lv_at hl 1 rfl) ?_
                  refine xg hC hK hH flX4_44 hc_rd rfl dX4_readLine_136 ?_
                  refine lv_iconst (v := 3) hx hb dX4_readLine_139 (by decide) ?_
                  refine jic_eq (tgt := 145) hx hb dX4_readLine_140 (by decide) (fun cq176_ => ?_) (fun cq176_ => ?_)
                  · skip
                    have cq176_ : yq13_.toInt = 3 := cq176_
                    refine lv_aload_n hx hb dX4_readLine_145 rfl (lv_at hl 1 rfl) ?_
                    refine goV hK hH (runV (As := []) (rest := []) hC hK hH (c_X4_move hc_rd hn_rd ht_nb ht_by_ (by omega) (by omega) (by omega)) mlX4_41 (rcvM hK hH hc_rd rfl) ⟨⟨Nat.le_of_ble_eq_true rfl, Nat.le_of_ble_eq_true rfl⟩, Nat.le_of_ble_eq_true rfl, Nat.le_of_ble_eq_true rfl⟩ rfl hl.1 rfl (Nat.le_of_ble_eq_true rfl) dX4_readLine_146) (fun Mq177_ Tq178_ Hq_ lcq_ hP hz hH => ?_)
                    try dsimp only at hP
                    obtain ⟨xq181_, ⟨l_xq181_, g_xq181_⟩, xq182_, ⟨l_xq182_, g_xq182_⟩, xq183_, ⟨l_xq183_, g_xq183_⟩, xq184_, ⟨l_xq184_, g_xq184_⟩, (⟨cq180_, hx_rd⟩), eT, hfr⟩ := hP
                    have eT := eT.symm; subst eT
                    have hc_rd : Mq177_ rd = some (.inr (3, [.ref nb, .ref (zv z vq6_), .int 0, .int 0, .ref by_, .int le, .int xq181_, .int xq182_, .int xq183_, .int xq184_])) := hx_rd
                    have hF : ∀ q, FrK T q → q ≠ rd → Mq177_ q = M q := fun q hq h0 => (hfr q hq  h0).trans (hF q hq h0)
                    have cq180_ : xq182_.toInt ≤ xq183_.toInt ∧ xq183_.toInt ≤ le.toInt := cq180_
                    refine lv_iconst (v := 1) hx hb dX4_readLine_149 (by decide) ?_
                    exact ret_z hC hr hlk hK hH (by first | exact Or.inl rfl | exact Or.inr rfl | assumption) (⟨xq181_, ⟨by omega, by omega⟩, xq182_, ⟨by omega, by omega⟩, xq183_, ⟨by omega, by omega⟩, xq184_, iRg _, 0, ⟨by decide, by decide⟩, 0, ⟨by decide, by decide⟩, vq6_, by omega, Or.inl (⟨by omega, rfl, hc_rd⟩), rfl, hF⟩) (Nat.le_of_ble_eq_true rfl) (Nat.le_of_ble_eq_true rfl) dX4_readLine_150
                  · skip
                    have cq176_ : yq13_.toInt ≠ 3 := cq176_
                    refine lv_iconst (v := 0) hx hb dX4_readLine_143 (by decide) ?_
                    exact ret_z hC hr hlk hK hH (by first | exact Or.inl rfl | exact Or.inr rfl | assumption) (⟨yq13_, ⟨by omega, by omega⟩, yq14_, ⟨by omega, by omega⟩, yq15_, ⟨by omega, by omega⟩, yq16_, iRg _, 0, ⟨by decide, by decide⟩, 0, ⟨by decide, by decide⟩, vq6_, by omega, Or.inr (⟨by omega, rfl, hc_rd⟩), rfl, hF⟩) (Nat.le_of_ble_eq_true rfl) (Nat.le_of_ble_eq_true rfl) dX4_readLine_144
        · skip
          have cq19_ : yq12_.toInt < xq18_.toInt := cq19_
          refine lv_iload_n hx hb dX4_readLine_22 rfl (lv_at hl 0 rfl) ?_
          refine lv_iconst (v := 5) hx hb dX4_readLine_23 (by decide) ?_
          refine jic_ge (tgt := 57) hx hb dX4_readLine_24 (by decide) (fun cq185_ => absurd cq185_ (by have := iRg yq12_; have : (5 : Int32).toInt = 5 := rfl; omega)) (fun cq185_ => ?_)
          have cq185_ : yq12_.toInt < 5 := cq185_
          refine lv_aload_n hx hb dX4_readLine_27 rfl (lv_at hl 1 rfl) ?_
          refine xg hC hK hH flX4_44 hc_rd rfl dX4_readLine_28 ?_
          refine lv_iconst (v := 2) hx hb dX4_readLine_31 (by decide) ?_
          refine jic_eq (tgt := 37) hx hb dX4_readLine_32 (by decide) (fun cq186_ => ?_) (fun cq186_ => ?_)
          · skip
            have cq186_ : yq13_.toInt = 2 := cq186_
            refine lv_aload_n hx hb dX4_readLine_37 rfl (lv_at hl 1 rfl) ?_
            refine xg hC hK hH flX4_9 hc_rd rfl dX4_readLine_38 ?_
            refine lv_iload_n hx hb dX4_readLine_41 rfl (lv_at hl 0 rfl) ?_
            refine lv_aload_n hx hb dX4_readLine_42 rfl (lv_at hl 1 rfl) ?_
            refine xg hC hK hH flX4_59 hc_rd rfl dX4_readLine_43 ?_
            refine tist (x := yq16_) hC hK hH ht_nb rfl (iIn (by omega) (by omega)) (iRg _).1 (iRg _).2 dX4_readLine_46 (fun Hq_ lcq_ Mq187_ _ hfr hH => ?_)
            have hc_rd : Mq187_ rd = some (.inr (3, [.ref nb, .ref (zv z vq6_), .int no, .int wi, .ref by_, .int le, .int yq13_, .int yq14_, .int yq15_, .int yq16_])) := (hfr rd (neF (Or.inl hn_rd) ht_nb (by decide))).trans hc_rd
            have hF : ∀ q, FrK T q → q ≠ rd → Mq187_ q = M q := fun q hq h0 => (hfr q (neF hq ht_nb (by decide))).trans (hF q hq h0)
            refine lv_aload_n hx hb dX4_readLine_47 rfl (lv_at hl 1 rfl) ?_
            refine goV hK hH (runV (As := []) (rest := []) hC hK hH (c_X4_move hc_rd hn_rd ht_nb ht_by_ (by omega) (by omega) (by omega)) mlX4_41 (rcvM hK hH hc_rd rfl) ⟨⟨Nat.le_of_ble_eq_true rfl, Nat.le_of_ble_eq_true rfl⟩, Nat.le_of_ble_eq_true rfl, Nat.le_of_ble_eq_true rfl⟩ rfl hl.1 rfl (Nat.le_of_ble_eq_true rfl) dX4_readLine_48) (fun Mq188_ Tq189_ Hq_ lcq_ hP hz hH => ?_)
            try dsimp only at hP
            obtain ⟨xq192_, ⟨l_xq192_, g_xq192_⟩, xq193_, ⟨l_xq193_, g_xq193_⟩, xq194_, ⟨l_xq194_, g_xq194_⟩, xq195_, ⟨l_xq195_, g_xq195_⟩, (⟨cq191_, hx_rd⟩), eT, hfr⟩ := hP
            have eT := eT.symm; subst eT
            have hc_rd : Mq188_ rd = some (.inr (3, [.ref nb, .ref (zv z vq6_), .int no, .int wi, .ref by_, .int le, .int xq192_, .int xq193_, .int xq194_, .int xq195_])) := hx_rd
            have hF : ∀ q, FrK T q → q ≠ rd → Mq188_ q = M q := fun q hq h0 => (hfr q hq  h0).trans (hF q hq h0)
            have cq191_ : xq193_.toInt ≤ xq194_.toInt ∧ xq194_.toInt ≤ le.toInt := cq191_
            obtain ⟨zq196_, e_zq196_⟩ : ∃ y : Int32, y = yq12_ + 1 := ⟨_, rfl⟩
            refine lv_iinc (v := zq196_) (lv' := [(1, .int zq196_), (0, .ref rd)]) hx hb dX4_readLine_51 hl (k := 0) rfl (by rw [e_zq196_]; rfl) (by decide) rfl (fun ls hl => ?_)
            have h_zq196_ : zq196_.toInt = yq12_.toInt + 1 := by rw [e_zq196_, iAdd (by have : (1 : Int32).toInt = 1 := rfl; omega) (by have : (1 : Int32).toInt = 1 := rfl; omega)]; rfl
            refine lv_goto (tgt := 11) hx hb dX4_readLine_54 (by decide) ?_
            exact ih zq196_ xq192_ xq193_ xq194_ xq195_ _ _ _ ls (by have := iRg zq196_; have := iRg xq192_; have := iRg xq193_; have := iRg xq194_; have := iRg xq195_; omega) (by have := iRg zq196_; have := iRg xq192_; have := iRg xq193_; have := iRg xq194_; have := iRg xq195_; omega) (by have := iRg zq196_; have := iRg xq192_; have := iRg xq193_; have := iRg xq194_; have := iRg xq195_; omega) (by have := iRg zq196_; have := iRg xq192_; have := iRg xq193_; have := iRg xq194_; have := iRg xq195_; omega) (by have := iRg zq196_; have := iRg xq192_; have := iRg xq193_; have := iRg xq194_; have := iRg xq195_; omega) (by have := iRg zq196_; have := iRg xq192_; have := iRg xq193_; have := iRg xq194_; have := iRg xq195_; omega) (by have := iRg zq196_; have := iRg xq192_; have := iRg xq193_; have := iRg xq194_; have := iRg xq195_; omega) (by have := iRg zq196_; have := iRg xq192_; have := iRg xq193_; have := iRg xq194_; have := iRg xq195_; omega) (by have := iRg zq196_; have := iRg xq192_; have := iRg xq193_; have := iRg xq194_; have := iRg xq195_; omega) (by have := iRg zq196_; have := iRg xq192_; have := iRg xq193_; have := iRg xq194_; have := iRg xq195_; omega) (by have := iRg zq196_; have := iRg xq192_; have := iRg xq193_; have := iRg xq194_; have := iRg xq195_; omega) hc_rd hF hH (lv_sub hl [0, 1] rfl)
          · skip
            have cq186_ : yq13_.toInt ≠ 2 := cq186_
            refine lv_iconst (v := 0) hx hb dX4_readLine_35 (by decide) ?_
            exact ret_z hC hr hlk hK hH (by first | exact Or.inl rfl | exact Or.inr rfl | assumption) (⟨yq13_, ⟨by omega, by omega⟩, yq14_, ⟨by omega, by omega⟩, yq15_, ⟨by omega, by omega⟩, yq16_, iRg _, no, ⟨by omega, by omega⟩, wi, ⟨by omega, by omega⟩, vq6_, by omega, Or.inr (⟨by omega, rfl, hc_rd⟩), rfl, hF⟩) (Nat.le_of_ble_eq_true rfl) (Nat.le_of_ble_eq_true rfl) dX4_readLine_36
    exact loop (Int.toNat (6 - 0)) 0 xq7_ xq8_ xq9_ xq10_ _ _ _ ls (by have : (0 : Int32).toInt = 0 := rfl; have := iRg xq7_; have := iRg xq8_; have := iRg xq9_; have := iRg xq10_; omega) (by have : (0 : Int32).toInt = 0 := rfl; have := iRg xq7_; have := iRg xq8_; have := iRg xq9_; have := iRg xq10_; omega) (by have : (0 : Int32).toInt = 0 := rfl; have := iRg xq7_; have := iRg xq8_; have := iRg xq9_; have := iRg xq10_; omega) (by have : (0 : Int32).toInt = 0 := rfl; have := iRg xq7_; have := iRg xq8_; have := iRg xq9_; have := iRg xq10_; omega) (by have : (0 : Int32).toInt = 0 := rfl; have := iRg xq7_; have := iRg xq8_; have := iRg xq9_; have := iRg xq10_; omega) (by have : (0 : Int32).toInt = 0 := rfl; have := iRg xq7_; have := iRg xq8_; have := iRg xq9_; have := iRg xq10_; omega) (by have : (0 : Int32).toInt = 0 := rfl; have := iRg xq7_; have := iRg xq8_; have := iRg xq9_; have := iRg xq10_; omega) (by have : (0 : Int32).toInt = 0 := rfl; have := iRg xq7_; have := iRg xq8_; have := iRg xq9_; have := iRg xq10_; omega) (by have : (0 : Int32).toInt = 0 := rfl; have := iRg xq7_; have := iRg xq8_; have := iRg xq9_; have := iRg xq10_; omega) (by have : (0 : Int32).toInt = 0 := rfl; have := iRg xq7_; have := iRg xq8_; have := iRg xq9_; have := iRg xq10_; omega) (by have : (0 : Int32).toInt = 0 := rfl; have := iRg xq7_; have := iRg xq8_; have := iRg xq9_; have := iRg xq10_; omega) hc_rd hF hH hl
  · skip
    have eT := eT.symm; subst eT
    have er_rq3_ := er_rq3_.symm; subst er_rq3_
    have hc_rd : Mq1_ rd = some (.inr (3, [.ref nb, .ref (zv z vq6_), .int no, .int wi, .ref by_, .int le, .int xq7_, .int xq8_, .int xq9_, .int xq10_])) := hx_rd
    have hF : ∀ q, FrK T q → q ≠ rd → Mq1_ q = M q := fun q hq h0 => (hfr q hq  h0).trans (hF q hq h0)
    have cq5_ : xq8_.toInt ≤ xq9_.toInt ∧ xq9_.toInt ≤ le.toInt := cq5_
    refine jif_ne (tgt := 9) hx hb dX4_readLine_4 (by decide) (fun cq197_ => absurd cq197_ (by decide)) (fun cq197_ => ?_)
    refine lv_iconst (v := 0) hx hb dX4_readLine_7 (by decide) ?_
    exact ret_z hC hr hlk hK hH (by first | exact Or.inl rfl | exact Or.inr rfl | assumption) (⟨xq7_, ⟨by omega, by omega⟩, xq8_, ⟨by omega, by omega⟩, xq9_, ⟨by omega, by omega⟩, xq10_, iRg _, no, ⟨by omega, by omega⟩, wi, ⟨by omega, by omega⟩, vq6_, by omega, Or.inr (⟨by omega, rfl, hc_rd⟩), rfl, hF⟩) (Nat.le_of_ble_eq_true rfl) (Nat.le_of_ble_eq_true rfl) dX4_readLine_8
set_option maxHeartbeats 4000000 in
set_option maxRecDepth 100000 in
theorem c_X4_faultPlace {z : zD} {l : Launch} {D : va_G} {kA : Nat → ClassId} {M : mM} {T : mT} {sz : Nat} {rd nb by_ vi : Nat} {no wi le ki pl be va : Int32} (hc_rd : M rd = some (.inr (3, [.ref nb, .ref (zv z vi), .int no, .int wi, .ref by_, .int le, .int ki, .int pl, .int be, .int va]))) (hn_rd : T rd = none) (ht_nb : T nb = some 12) (ht_by_ : T by_ = some 7) (hvi : vi < 19) (hno : 0 ≤ no.toInt ∧ no.toInt ≤ 1) (hwi : 0 ≤ wi.toInt ∧ wi.toInt ≤ 1) (hle : 0 ≤ le.toInt ∧ le.toInt ≤ 600) (hki : 0 ≤ ki.toInt ∧ ki.toInt ≤ 4) (hpl : 0 ≤ pl.toInt) (hpb : pl.toInt ≤ be.toInt) (hbe : be.toInt ≤ le.toInt) : mCiB z l yX4_faultPlace cX4_faultPlace 2 (some .int) 7 0 0 D kA M T sz [.ref rd] (fun r u => ∃ ki2 : Int32, ((0 : Int) ≤ ki2.toInt ∧ ki2.toInt ≤ 4) ∧ ∃ pl2 : Int32, ((0 : Int) ≤ pl2.toInt ∧ pl2.toInt ≤ 600) ∧ ∃ be2 : Int32, ((0 : Int) ≤ be2.toInt ∧ be2.toInt ≤ 600) ∧ ∃ va2 : Int32, ((-2147483648 : Int) ≤ va2.toInt ∧ va2.toInt ≤ 2147483647) ∧ ∃ no2 : Int32, ((0 : Int) ≤ no2.toInt ∧ no2.toInt ≤ 1) ∧ ∃ wi2 : Int32, ((0 : Int) ≤ wi2.toInt ∧ wi2.toInt ≤ 1) ∧ ∃ vi2 : Nat, (vi2 < 19) ∧ ((pl2.toInt ≤ be2.toInt ∧ be2.toInt ≤ le.toInt) ∧ u.1 rd = some (.inr (3, [.ref nb, .ref (zv z vi2), .int no2, .int wi2, .ref by_, .int le, .int ki2, .int pl2, .int be2, .int va2]))) ∧ u.2 = T ∧ (∀ q, FrK T q → q ≠ rd → u.1 q = M q)) := by
  unfold mCiB
  refine start_WB (by decide) (Nat.le_of_ble_eq_true rfl) ?_
  intro p e s m below meth c ls hC hr hlk hnm hK hH hsz hZ hl
  have hx := hC.1
  have hb := hC.2.1
  have hl : lv_has ls 2 [(0, .ref rd)] := hl
  have hF : ∀ q, FrK T q → q ≠ rd → M q = M q := fun q _ _ => rfl
  refine lv_iconst (v := 0) hx hb dX4_faultPlace_0 (by decide) ?_
  refine lv_istore_n (lv' := [(1, .int 0), (0, .ref rd)]) hx hb dX4_faultPlace_1 rfl hl (by decide) rfl (fun ls hl => ?_)
  have loop : ∀ (n : Nat) (yq1_ : Int32) (yq2_ : Nat) (yq3_ : Int32) (yq4_ : Int32) (yq5_ : Int32) (yq6_ : Int32) (yq7_ : Int32) (yq8_ : Int32) (Hq_ : Heap) (lcq_ : List Loc) (Mq9_ : mM) (ls : Array Slot), le.toInt - yq1_.toInt + 2 ≤ (n : Int) → (0 : Int) ≤ yq1_.toInt → yq1_.toInt ≤ 601 → (0 : Int) ≤ yq3_.toInt → yq3_.toInt ≤ 1 → (0 : Int) ≤ yq4_.toInt → yq4_.toInt ≤ 1 → (0 : Int) ≤ yq5_.toInt → yq5_.toInt ≤ 4 → (0 : Int) ≤ yq6_.toInt → yq6_.toInt ≤ 600 → (0 : Int) ≤ yq7_.toInt → yq7_.toInt ≤ 600 → (yq2_ < 19) → (yq6_.toInt ≤ yq7_.toInt) → (yq7_.toInt ≤ le.toInt) → (yq1_.toInt ≤ le.toInt + 1) → Mq9_ rd = some (.inr (3, [.ref nb, .ref (zv z yq2_), .int yq3_, .int yq4_, .ref by_, .int le, .int yq5_, .int yq6_, .int yq7_, .int yq8_])) → (∀ q, FrK T q → q ≠ rd → Mq9_ q = M q) → mS D kA Mq9_ T (mA M T sz) s.heap Hq_ lcq_ → lv_has ls 2 [(1, .int yq1_), (0, .ref rd)] → W p l e (rmL 7 0 0) s m ([.ref rd] : List Value).toArray below meth c Hq_ lcq_ 0 0 (MQ below (va_Qi (fun r u => ∃ ki2 : Int32, ((0 : Int) ≤ ki2.toInt ∧ ki2.toInt ≤ 4) ∧ ∃ pl2 : Int32, ((0 : Int) ≤ pl2.toInt ∧ pl2.toInt ≤ 600) ∧ ∃ be2 : Int32, ((0 : Int) ≤ be2.toInt ∧ be2.toInt ≤ 600) ∧ ∃ va2 : Int32, ((-2147483648 : Int) ≤ va2.toInt ∧ va2.toInt ≤ 2147483647) ∧ ∃ no2 : Int32, ((0 : Int) ≤ no2.toInt ∧ no2.toInt ≤ 1) ∧ ∃ wi2 : Int32, ((0 : Int) ≤ wi2.toInt ∧ wi2.toInt ≤ 1) ∧ ∃ vi2 : Nat, (vi2 < 19) ∧ ((pl2.toInt ≤ be2.toInt ∧ be2.toInt ≤ le.toInt) ∧ u.1 rd = some (.inr (3, [.ref nb, .ref (zv z vi2), .int no2, .int wi2, .ref by_, .int le, .int ki2, .int pl2, .int be2, .int va2]))) ∧ u.2 = T ∧ (∀ q, FrK T q → q ≠ rd → u.1 q = M q)) (mB D kA M T sz) (mA M T sz)) ([.ref rd] : List Value).toArray s 0 0 (mA M T sz)) (F0 m 2 ls []) := by
    intro n
    induction n with
    | zero =>
      intro yq1_ yq2_ yq3_ yq4_ yq5_ yq6_ yq7_ yq8_ Hq_ lcq_ Mq9_ ls hme l_yq1_ g_yq1_ l_yq3_ g_yq3_ l_yq4_ g_yq4_ l_yq5_ g_yq5_ l_yq6_ g_yq6_ l_yq7_ g_yq7_ hv0_yq1_ hv1_yq1_ hv2_yq1_ hv3_yq1_ hc_rd hF hH hl
      exfalso; omega
    | succ n ih =>
      intro yq1_ yq2_ yq3_ yq4_ yq5_ yq6_ yq7_ yq8_ Hq_ lcq_ Mq9_ ls hme l_yq1_ g_yq1_ l_yq3_ g_yq3_ l_yq4_ g_yq4_ l_yq5_ g_yq5_ l_yq6_ g_yq6_ l_yq7_ g_yq7_ hv0_yq1_ hv1_yq1_ hv2_yq1_ hv3_yq1_ hc_rd hF hH hl
      refine lv_iload_n hx hb dX4_faultPlace_2 rfl (lv_at hl 0 rfl) ?_
      refine lv_aload_n hx hb dX4_faultPlace_3 rfl (lv_at hl 1 rfl) ?_
      refine xg hC hK hH flX4_34 hc_rd rfl dX4_faultPlace_4 ?_
      refine jic_gt (tgt := 35) hx hb dX4_faultPlace_7 (by decide) (fun cq10_ => ?_) (fun cq10_ => ?_)
      · skip
        have cq10_ : le.toInt < yq1_.toInt := cq10_
        refine lv_iconst (v := -1) hx hb dX4_faultPlace_35 (by decide) ?_
        exact ret_i hC hr hlk hK hH (⟨yq5_, ⟨by omega, by omega⟩, yq6_, ⟨by omega, by omega⟩, yq7_, ⟨by omega, by omega⟩, yq8_, iRg _, yq3_, ⟨by omega, by omega⟩, yq4_, ⟨by omega, by omega⟩, yq2_, by omega, ⟨by omega, hc_rd⟩, rfl, hF⟩) (Nat.le_of_ble_eq_true rfl) (Nat.le_of_ble_eq_true rfl) dX4_faultPlace_36
      · skip
        have cq10_ : yq1_.toInt ≤ le.toInt := cq10_
        refine lv_aload_n hx hb dX4_faultPlace_10 rfl (lv_at hl 1 rfl) ?_
        refine xg hC hK hH flX4_44 hc_rd rfl dX4_faultPlace_11 ?_
        refine jif_eq (tgt := 35) hx hb dX4_faultPlace_14 (by decide) (fun cq11_ => ?_) (fun cq11_ => ?_)
        · skip
          have cq11_ : yq5_.toInt = 0 := cq11_
          refine lv_iconst (v := -1) hx hb dX4_faultPlace_35 (by decide) ?_
          exact ret_i hC hr hlk hK hH (⟨yq5_, ⟨by omega, by omega⟩, yq6_, ⟨by omega, by omega⟩, yq7_, ⟨by omega, by omega⟩, yq8_, iRg _, yq3_, ⟨by omega, by omega⟩, yq4_, ⟨by omega, by omega⟩, yq2_, by omega, ⟨by omega, hc_rd⟩, rfl, hF⟩) (Nat.le_of_ble_eq_true rfl) (Nat.le_of_ble_eq_true rfl) dX4_faultPlace_36
        · skip
          have cq11_ : yq5_.toInt ≠ 0 := cq11_
          refine lv_aload_n hx hb dX4_faultPlace_17 rfl (lv_at hl 1 rfl) ?_
          refine goI hK hH (runVB (As := []) (rest := []) hC hK hH hZ (c_X4_readLine hc_rd hn_rd ht_nb ht_by_ (by omega) (by omega) (by omega) (by omega) (by omega) (by omega) (by omega) (by omega)) mlX4_47 (rcvM hK hH hc_rd rfl) ⟨⟨Nat.le_of_ble_eq_true rfl, Nat.le_of_ble_eq_true rfl⟩, Nat.le_of_ble_eq_true rfl, Nat.le_of_ble_eq_true rfl⟩ rfl hl.1 rfl (Nat.le_of_ble_eq_true rfl) dX4_faultPlace_18) (fun rq14_ Mq12_ Tq13_ Hq_ lcq_ hP hz hH => ?_)
          try dsimp only at hP
          obtain ⟨xq18_, ⟨l_xq18_, g_xq18_⟩, xq19_, ⟨l_xq19_, g_xq19_⟩, xq20_, ⟨l_xq20_, g_xq20_⟩, xq21_, ⟨l_xq21_, g_xq21_⟩, xq22_, ⟨l_xq22_, g_xq22_⟩, xq23_, ⟨l_xq23_, g_xq23_⟩, vq17_, h_vq17_, (⟨cq15_, er_rq14_, hx_rd⟩ | ⟨cq16_, er_rq14_, hx_rd⟩), eT, hfr⟩ := hP
          · skip
            have eT := eT.symm; subst eT
            have er_rq14_ := er_rq14_.symm; subst er_rq14_
            have hc_rd : Mq12_ rd = some (.inr (3, [.ref nb, .ref (zv z vq17_), .int xq22_, .int xq23_, .ref by_, .int le, .int xq18_, .int xq19_, .int xq20_, .int xq21_])) := hx_rd
            have hF : ∀ q, FrK T q → q ≠ rd → Mq12_ q = M q := fun q hq h0 => (hfr q hq  h0).trans (hF q hq h0)
            have cq15_ : xq19_.toInt ≤ xq20_.toInt ∧ xq20_.toInt ≤ le.toInt := cq15_
            refine jif_ne (tgt := 29) hx hb dX4_faultPlace_21 (by decide) (fun cq24_ => ?_) (fun cq24_ => absurd cq24_ (by decide))
            obtain ⟨zq25_, e_zq25_⟩ : ∃ y : Int32, y = yq1_ + 1 := ⟨_, rfl⟩
            refine lv_iinc (v := zq25_) (lv' := [(1, .int zq25_), (0, .ref rd)]) hx hb dX4_faultPlace_29 hl (k := 0) rfl (by rw [e_zq25_]; rfl) (by decide) rfl (fun ls hl => ?_)
            have h_zq25_ : zq25_.toInt = yq1_.toInt + 1 := by rw [e_zq25_, iAdd (by have : (1 : Int32).toInt = 1 := rfl; omega) (by have : (1 : Int32).toInt = 1 := rfl; omega)]; rfl
            refine lv_goto (tgt := 2) hx hb dX4_faultPlace_32 (by decide) ?_
            exact ih zq25_ vq17_ xq22_ xq23_ xq18_ xq19_ xq20_ xq21_ _ _ _ ls (by have := iRg zq25_; have := iRg xq22_; have := iRg xq23_; have := iRg xq18_; have := iRg xq19_; have := iRg xq20_; have := iRg xq21_; omega) (by have := iRg zq25_; have := iRg xq22_; have := iRg xq23_; have := iRg xq18_; have := iRg xq19_; have := iRg xq20_; have := iRg xq21_; omega) (by have := iRg zq25_; have := iRg xq22_; have := iRg xq23_; have := iRg xq18_; have := iRg xq19_; have := iRg xq20_; have := iRg xq21_; omega) (by have := iRg zq25_; have := iRg xq22_; have := iRg xq23_; have := iRg xq18_; have := iRg xq19_; have := iRg xq20_; have := iRg xq21_; omega) (by have := iRg zq25_; have := iRg xq22_; have := iRg xq23_; have := iRg xq18_; have := iRg xq19_; have := iRg xq20_; have := iRg xq21_; omega) (by have := iRg zq25_; have := iRg xq22_; have := iRg xq23_; have := iRg xq18_; have := iRg xq19_; have := iRg xq20_; have := iRg xq21_; omega) (by have := iRg zq25_; have := iRg xq22_; have := iRg xq23_; have := iRg xq18_; have := iRg xq19_; have := iRg xq20_; have := iRg xq21_; omega) (by have := iRg zq25_; have := iRg xq22_; have := iRg xq23_; have := iRg xq18_; have := iRg xq19_; have := iRg xq20_; have := iRg xq21_; omega) (by have := iRg zq25_; have := iRg xq22_; have := iRg xq23_; have := iRg xq18_; have := iRg xq19_; have := iRg xq20_; have := iRg xq21_; omega) (by have := iRg zq25_; have := iRg xq22_; have := iRg xq23_; have := iRg xq18_; have := iRg xq19_; have := iRg xq20_; have := iRg xq21_; omega) (by have := iRg zq25_; have := iRg xq22_; have := iRg xq23_; have := iRg xq18_; have := iRg xq19_; have := iRg xq20_; have := iRg xq21_; omega) (by have := iRg zq25_; have := iRg xq22_; have := iRg xq23_; have := iRg xq18_; have := iRg xq19_; have := iRg xq20_; have := iRg xq21_; omega) (by have := iRg zq25_; have := iRg xq22_; have := iRg xq23_; have := iRg xq18_; have := iRg xq19_; have := iRg xq20_; have := iRg xq21_; omega) (by have := iRg zq25_; have := iRg xq22_; have := iRg xq23_; have := iRg xq18_; have := iRg xq19_; have := iRg xq20_; have := iRg xq21_; omega) (by have := iRg zq25_; have := iRg xq22_; have := iRg xq23_; have := iRg xq18_; have := iRg xq19_; have := iRg xq20_; have := iRg xq21_; omega) (by have := iRg zq25_; have := iRg xq22_; have := iRg xq23_; have := iRg xq18_; have := iRg xq19_; have := iRg xq20_; have := iRg xq21_; omega) (by have := iRg zq25_; have := iRg xq22_; have := iRg xq23_; have := iRg xq18_; have := iRg xq19_; have := iRg xq20_; have := iRg xq21_; omega) hc_rd hF hH (lv_sub hl [0, 1] rfl)
          · skip
            have eT := eT.symm; subst eT
            have er_rq14_ := er_rq14_.symm; subst er_rq14_
            have hc_rd : Mq12_ rd = some (.inr (3, [.ref nb, .ref (zv z vq17_), .int xq22_, .int xq23_, .ref by_, .int le, .int xq18_, .int xq19_, .int xq20_, .int xq21_])) := hx_rd
            have hF : ∀ q, FrK T q → q ≠ rd → Mq12_ q = M q := fun q hq h0 => (hfr q hq  h0).trans (hF q hq h0)
            have cq16_ : xq19_.toInt ≤ xq20_.toInt ∧ xq20_.toInt ≤ le.toInt := cq16_
            refine jif_ne (tgt := 29) hx hb dX4_faultPlace_21 (by decide) (fun cq26_ => absurd cq26_ (by decide)) (fun cq26_ => ?_)
            refine lv_aload_n hx hb dX4_faultPlace_24 rfl (lv_at hl 1 rfl) ?_
            refine xg hC hK hH flX4_51 hc_rd rfl dX4_faultPlace_25 ?_
            exact ret_i hC hr hlk hK hH (⟨xq18_, ⟨by omega, by omega⟩, xq19_, ⟨by omega, by omega⟩, xq20_, ⟨by omega, by omega⟩, xq21_, iRg _, xq22_, ⟨by omega, by omega⟩, xq23_, ⟨by omega, by omega⟩, vq17_, by omega, ⟨by omega, hc_rd⟩, rfl, hF⟩) (Nat.le_of_ble_eq_true rfl) (Nat.le_of_ble_eq_true rfl) dX4_faultPlace_28
  exact loop (Int.toNat (le.toInt - 0 + 2)) 0 vi no wi ki pl be va _ _ _ ls (by have : (0 : Int32).toInt = 0 := rfl; have := iRg no; have := iRg wi; have := iRg ki; have := iRg pl; have := iRg be; have := iRg va; omega) (by have : (0 : Int32).toInt = 0 := rfl; have := iRg no; have := iRg wi; have := iRg ki; have := iRg pl; have := iRg be; have := iRg va; omega) (by have : (0 : Int32).toInt = 0 := rfl; have := iRg no; have := iRg wi; have := iRg ki; have := iRg pl; have := iRg be; have := iRg va; omega) (by have : (0 : Int32).toInt = 0 := rfl; have := iRg no; have := iRg wi; have := iRg ki; have := iRg pl; have := iRg be; have := iRg va; omega) (by have : (0 : Int32).toInt = 0 := rfl; have := iRg no; have := iRg wi; have := iRg ki; have := iRg pl; have := iRg be; have := iRg va; omega) (by have : (0 : Int32).toInt = 0 := rfl; have := iRg no; have := iRg wi; have := iRg ki; have := iRg pl; have := iRg be; have := iRg va; omega) (by have : (0 : Int32).toInt = 0 := rfl; have := iRg no; have := iRg wi; have := iRg ki; have := iRg pl; have := iRg be; have := iRg va; omega) (by have : (0 : Int32).toInt = 0 := rfl; have := iRg no; have := iRg wi; have := iRg ki; have := iRg pl; have := iRg be; have := iRg va; omega) (by have : (0 : Int32).toInt = 0 := rfl; have := iRg no; have := iRg wi; have := iRg ki; have := iRg pl; have := iRg be; have := iRg va; omega) (by have : (0 : Int32).toInt = 0 := rfl; have := iRg no; have := iRg wi; have := iRg ki; have := iRg pl; have := iRg be; have := iRg va; omega) (by have : (0 : Int32).toInt = 0 := rfl; have := iRg no; have := iRg wi; have := iRg ki; have := iRg pl; have := iRg be; have := iRg va; omega) (by have : (0 : Int32).toInt = 0 := rfl; have := iRg no; have := iRg wi; have := iRg ki; have := iRg pl; have := iRg be; have := iRg va; omega) (by have : (0 : Int32).toInt = 0 := rfl; have := iRg no; have := iRg wi; have := iRg ki; have := iRg pl; have := iRg be; have := iRg va; omega) (by have : (0 : Int32).toInt = 0 := rfl; have := iRg no; have := iRg wi; have := iRg ki; have := iRg pl; have := iRg be; have := iRg va; omega) (by have : (0 : Int32).toInt = 0 := rfl; have := iRg no; have := iRg wi; have := iRg ki; have := iRg pl; have := iRg be; have := iRg va; omega) (by have : (0 : Int32).toInt = 0 := rfl; have := iRg no; have := iRg wi; have := iRg ki; have := iRg pl; have := iRg be; have := iRg va; omega) (by have : (0 : Int32).toInt = 0 := rfl; have := iRg no; have := iRg wi; have := iRg ki; have := iRg pl; have := iRg be; have := iRg va; omega) hc_rd hF hH hl
