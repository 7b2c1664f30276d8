set_option maxHeartbeats 4000000 in
set_option maxRecDepth 100000 in
theorem c_X10_reason {l : Launch} {D : va_G} {kA : Nat → ClassId} {M : mM} {T : mT} {sz : Nat} {h al mt ii pa li : Nat} {ta fpm sm nx tk pl ln wr : Int32} {va : Int64} {f : Nat → Int32} {x : Int32} {xn t b : Nat} {bb pt : Int32} {ptn : Nat} (hc_h : M h = some (.inr (8, [.ref al, .ref mt, .ref ii, .int ta, .int fpm, .ref pa, .int sm, .int nx, .int tk, .int pl, .int ln, .long va, .int wr, .ref li]))) (hn_h : T h = none) (hc_al : M al = some (.inl (kA 0, 7506, .inl f))) (hn_al : T al = none) (ht_mt : T mt = some 11) (ht_pa : T pa = some 13) (ht_li : T li = some 14) (hR_f : Rng f) (hxt : t < 2) (hxb : b < 4) (hxn : xn = 1140 * t + 20 + 280 * b) (hxx : x.toInt = (xn : Int)) (hbb : bb.toInt = 1140 * (t : Int)) (hptn : pt.toInt = (ptn : Int)) (hp13 : ptn ≤ 13) : mCi l yX10_reason cX10_reason 6 (some .int) 4 0 0 D kA M T sz [.ref h, .int bb, .int x, .int pt] (fun r u => ((Lia f t xn ptn ∧ r = 0) ∨ (¬ Lia f t xn ptn ∧ (((1 : Int) ≤ r.toInt ∧ r.toInt ≤ 9)))) ∧ u.2 = T ∧ u.1 = M) := by
  unfold mCi
  refine start_W (by decide) (Nat.le_of_ble_eq_true rfl) ?_
  intro p e s m below meth c ls hC hr hlk hnm hK hH hsz hl
  have hx := hC.1
  have hb := hC.2.1
  have hl : lv_has ls 6 [(0, .ref h), (1, .int bb), (2, .int x), (3, .int pt)] := hl
  have n_h_al : h ≠ al := neM hc_h hc_al (by simp)
  have n_al_h : al ≠ h := neM hc_al hc_h (by simp)
  have hK_f : Ke f f := Ke.rf
  refine lv_iload_n hx hb dX10_reason_0 rfl (lv_at hl 2 rfl) ?_
  refine lv_iload_n hx hb dX10_reason_1 rfl (lv_at hl 3 rfl) ?_
  refine goI hK hH (runS (As := [.int x, .int pt]) (rest := []) hC hK hH (c_X10_partyAt (by omega) (by omega)) mlX10_56 ⟨⟨Nat.le_of_ble_eq_true rfl, Nat.le_of_ble_eq_true rfl⟩, Nat.le_of_ble_eq_true rfl, Nat.le_of_ble_eq_true rfl⟩ rfl hl.1 rfl (Nat.le_of_ble_eq_true rfl) dX10_reason_2) (fun rq3_ Mq1_ Tq2_ Hq_ lcq_ hP hz hH => ?_)
  try dsimp only at hP
  obtain ⟨(⟨cq4_, ⟨l_rq3_, g_rq3_⟩⟩), eT, eM⟩ := hP
  have eT := eT.symm; subst eT
  have eM := eM.symm; subst eM
  have cq4_ : rq3_.toInt = x.toInt + 184 + 6 * pt.toInt := cq4_
  have hx_rq3_ : rq3_.toInt = ((xn + 184 + 6 * ptn : Nat) : Int) := by omega
  refine lv_istore (lv' := [(4, .int rq3_), (0, .ref h), (1, .int bb), (2, .int x), (3, .int pt)]) hx hb dX10_reason_5 hl (by decide) rfl (fun ls hl => ?_)
  refine lv_aload_n hx hb dX10_reason_7 rfl (lv_at hl 1 rfl) ?_
  refine lv_iload_n hx hb dX10_reason_8 rfl (lv_at hl 3 rfl) ?_
  refine goI hK hH (runV (As := [.int x]) (rest := []) hC hK hH (c_X10_hasTitle hc_h hn_h hc_al hn_al ht_mt ht_pa ht_li (by exact hR_f) (by omega) (by omega) (by omega) (by omega)) mlX10_70 (rcvM hK hH hc_h rfl) ⟨⟨Nat.le_of_ble_eq_true rfl, Nat.le_of_ble_eq_true rfl⟩, Nat.le_of_ble_eq_true rfl, Nat.le_of_ble_eq_true rfl⟩ rfl hl.1 rfl (Nat.le_of_ble_eq_true rfl) dX10_reason_9) (fun rq7_ Mq5_ Tq6_ Hq_ lcq_ hP hz hH => ?_)
  try dsimp only at hP
  obtain ⟨(⟨cq8_, er_rq7_⟩ | ⟨cq9_, er_rq7_⟩), eT, eM⟩ := hP
  · skip
    have eT := eT.symm; subst eT
    have er_rq7_ := er_rq7_.symm; subst er_rq7_
    have eM := eM.symm; subst eM
    have cq8_ : titF f xn := cq8_
    refine jif_ne (tgt := 17) hx hb dX10_reason_12 (by decide) (fun cq10_ => ?_) (fun cq10_ => absurd cq10_ (by decide))
    refine lv_aload_n hx hb dX10_reason_17 rfl (lv_at hl 1 rfl) ?_
    refine xg hC hK hH flX10_7 hc_h rfl dX10_reason_18 ?_
    refine lv_iload_n hx hb dX10_reason_21 rfl (lv_at hl 3 rfl) ?_
    refine lv_bipush (v := 10) hx hb dX10_reason_22 (by decide) ?_
    refine lv_iadd hx hb dX10_reason_24 ?_
    refine lv_topi (fun zq11_ e_zq11_ => ?_)
    have h_zq11_ : zq11_.toInt = x.toInt + 10 := by rw [e_zq11_, iAdd (by have := iRg x; have : (10 : Int32).toInt = 10 := rfl; omega) (by have := iRg x; have : (10 : Int32).toInt = 10 := rfl; omega)]; rfl
    refine xild hC hK hH hc_al (iIn (by omega) (by omega)) dX10_reason_25 ?_
    refine lv_topi (fun xq12_ e_xq12_ => ?_)
    have k_xq12_ : xq12_ = f (xn + 10) := by rw [e_xq12_, clE (n := xn + 10) (by omega)]
    have kt_xq12_ : xq12_.toInt = (f (xn + 10)).toInt := by rw [k_xq12_]
    refine lv_iconst (v := 1) hx hb dX10_reason_26 (by decide) ?_
    refine jic_ne (tgt := 32) hx hb dX10_reason_27 (by decide) (fun cq13_ => ?_) (fun cq13_ => ?_)
    · skip
      have cq13_ : xq12_.toInt ≠ 1 := cq13_
      refine lv_aload_n hx hb dX10_reason_32 rfl (lv_at hl 1 rfl) ?_
      refine lv_iload_n hx hb dX10_reason_33 rfl (lv_at hl 3 rfl) ?_
      refine lv_iload_n hx hb dX10_reason_34 rfl (lv_at hl 4 rfl) ?_
      refine goI hK hH (runV (As := [.int x, .int pt]) (rest := []) hC hK hH (c_X10_hasSigned hc_h hn_h hc_al hn_al ht_mt ht_pa ht_li (by exact hR_f) (by omega) (by omega) (by omega) (by omega) (by omega) (by omega)) mlX10_66 (rcvM hK hH hc_h rfl) ⟨⟨Nat.le_of_ble_eq_true rfl, Nat.le_of_ble_eq_true rfl⟩, Nat.le_of_ble_eq_true rfl, Nat.le_of_ble_eq_true rfl⟩ rfl hl.1 rfl (Nat.le_of_ble_eq_true rfl) dX10_reason_35) (fun rq16_ Mq14_ Tq15_ Hq_ lcq_ hP hz hH => ?_)
      try dsimp only at hP
      obtain ⟨(⟨cq17_, er_rq16_⟩ | ⟨cq18_, er_rq16_⟩), eT, eM⟩ := hP
      · skip
        have eT := eT.symm; subst eT
        have er_rq16_ := er_rq16_.symm; subst er_rq16_
        have eM := eM.symm; subst eM
        have cq17_ : sgnF f xn ptn := cq17_
        refine jif_ne (tgt := 43) hx hb dX10_reason_38 (by decide) (fun cq19_ => ?_) (fun cq19_ => absurd cq19_ (by decide))
        refine lv_iload_n hx hb dX10_reason_43 rfl (lv_at hl 4 rfl) ?_
        refine lv_aload_n hx hb dX10_reason_44 rfl (lv_at hl 1 rfl) ?_
        refine lv_iload_n hx hb dX10_reason_45 rfl (lv_at hl 3 rfl) ?_
        refine goI hK hH (runV (As := [.int x]) (rest := [.int pt]) hC hK hH (c_X10_rank hc_h hn_h hc_al hn_al ht_mt ht_pa ht_li (by exact hR_f) (by omega) (by omega) (by omega) (by omega)) mlX10_77 (rcvM hK hH hc_h rfl) ⟨⟨Nat.le_of_ble_eq_true rfl, Nat.le_of_ble_eq_true rfl⟩, Nat.le_of_ble_eq_true rfl, Nat.le_of_ble_eq_true rfl⟩ rfl hl.1 rfl (Nat.le_of_ble_eq_true rfl) dX10_reason_46) (fun rq22_ Mq20_ Tq21_ Hq_ lcq_ hP hz hH => ?_)
        try dsimp only at hP
        obtain ⟨(⟨cq23_, ⟨l_rq22_, g_rq22_⟩⟩), eT, eM⟩ := hP
        have eT := eT.symm; subst eT
        have eM := eM.symm; subst eM
        have cq23_ : rq22_.toInt = (rankF f xn : Int) := cq23_
        refine jic_lt (tgt := 54) hx hb dX10_reason_49 (by decide) (fun cq24_ => ?_) (fun cq24_ => ?_)
        · skip
          have cq24_ : pt.toInt < rq22_.toInt := cq24_
          refine lv_aload_n hx hb dX10_reason_54 rfl (lv_at hl 1 rfl) ?_
          refine xg hC hK hH flX10_7 hc_h rfl dX10_reason_55 ?_
          refine lv_iload hx hb dX10_reason_58 (lv_at hl 0 rfl) ?_
          refine lv_iconst (v := 1) hx hb dX10_reason_60 (by decide) ?_
          refine lv_iadd hx hb dX10_reason_61 ?_
          refine lv_topi (fun zq25_ e_zq25_ => ?_)
          have h_zq25_ : zq25_.toInt = rq3_.toInt + 1 := by rw [e_zq25_, iAdd (by have := iRg rq3_; have : (1 : Int32).toInt = 1 := rfl; omega) (by have := iRg rq3_; have : (1 : Int32).toInt = 1 := rfl; omega)]; rfl
          refine xild hC hK hH hc_al (iIn (by omega) (by omega)) dX10_reason_62 ?_
          refine lv_topi (fun xq26_ e_xq26_ => ?_)
          have k_xq26_ : xq26_ = f (xn + 184 + 6 * ptn + 1) := by rw [e_xq26_, clE (n := xn + 184 + 6 * ptn + 1) (by omega)]
          have kt_xq26_ : xq26_.toInt = (f (xn + 184 + 6 * ptn + 1)).toInt := by rw [k_xq26_]
          refine jif_le (tgt := 68) hx hb dX10_reason_63 (by decide) (fun cq27_ => ?_) (fun cq27_ => ?_)
          · skip
            have cq27_ : xq26_.toInt ≤ 0 := cq27_
            refine lv_iload_n hx hb dX10_reason_68 rfl (lv_at hl 4 rfl) ?_
            refine lv_iconst (v := 1) hx hb dX10_reason_69 (by decide) ?_
            refine jic_le (tgt := 95) hx hb dX10_reason_70 (by decide) (fun cq28_ => ?_) (fun cq28_ => ?_)
            · skip
              have cq28_ : pt.toInt ≤ 1 := cq28_
              refine lv_iload_n hx hb dX10_reason_95 rfl (lv_at hl 4 rfl) ?_
              refine jif_ne (tgt := 121) hx hb dX10_reason_96 (by decide) (fun cq29_ => ?_) (fun cq29_ => ?_)
              · skip
                have cq29_ : pt.toInt ≠ 0 := cq29_
                refine lv_aload_n hx hb dX10_reason_121 rfl (lv_at hl 1 rfl) ?_
                refine xg hC hK hH flX10_7 hc_h rfl dX10_reason_122 ?_
                refine lv_iload_n hx hb dX10_reason_125 rfl (lv_at hl 3 rfl) ?_
                refine lv_bipush (v := 9) hx hb dX10_reason_126 (by decide) ?_
                refine lv_iadd hx hb dX10_reason_128 ?_
                refine lv_topi (fun zq30_ e_zq30_ => ?_)
                have h_zq30_ : zq30_.toInt = x.toInt + 9 := by rw [e_zq30_, iAdd (by have := iRg x; have : (9 : Int32).toInt = 9 := rfl; omega) (by have := iRg x; have : (9 : Int32).toInt = 9 := rfl; omega)]; rfl
                refine xild hC hK hH hc_al (iIn (by omega) (by omega)) dX10_reason_129 ?_
                refine lv_topi (fun xq31_ e_xq31_ => ?_)
                have k_xq31_ : xq31_ = f (xn + 9) := by rw [e_xq31_, clE (n := xn + 9) (by omega)]
                have kt_xq31_ : xq31_.toInt = (f (xn + 9)).toInt := by rw [k_xq31_]
                refine lv_iconst (v := -1) hx hb dX10_reason_130 (by decide) ?_
                refine jic_ne (tgt := 137) hx hb dX10_reason_131 (by decide) (fun cq32_ => ?_) (fun cq32_ => ?_)
                · skip
                  have cq32_ : xq31_.toInt ≠ (-1) := cq32_
                  refine lv_iload_n hx hb dX10_reason_137 rfl (lv_at hl 4 rfl) ?_
                  refine jif_le (tgt := 157) hx hb dX10_reason_138 (by decide) (fun cq33_ => absurd cq33_ (by have := iRg pt; have : (0 : Int32).toInt = 0 := rfl; omega)) (fun cq33_ => ?_)
                  have cq33_ : 0 < pt.toInt := cq33_
                  refine lv_aload_n hx hb dX10_reason_141 rfl (lv_at hl 1 rfl) ?_
                  refine xg hC hK hH flX10_7 hc_h rfl dX10_reason_142 ?_
                  refine lv_iload hx hb dX10_reason_145 (lv_at hl 0 rfl) ?_
                  refine lv_iconst (v := 0) hx hb dX10_reason_147 (by decide) ?_
                  refine lv_iadd hx hb dX10_reason_148 ?_
                  refine lv_topi (fun zq34_ e_zq34_ => ?_)
                  have h_zq34_ : zq34_.toInt = rq3_.toInt + 0 := by rw [e_zq34_, iAdd (by have := iRg rq3_; have : (0 : Int32).toInt = 0 := rfl; omega) (by have := iRg rq3_; have : (0 : Int32).toInt = 0 := rfl; omega)]; rfl
                  refine xild hC hK hH hc_al (iIn (by omega) (by omega)) dX10_reason_149 ?_
                  refine lv_topi (fun xq35_ e_xq35_ => ?_)
                  have k_xq35_ : xq35_ = f (xn + 184 + 6 * ptn) := by rw [e_xq35_, clE (n := xn + 184 + 6 * ptn) (by omega)]
                  have kt_xq35_ : xq35_.toInt = (f (xn + 184 + 6 * ptn)).toInt := by rw [k_xq35_]
                  refine lv_iconst (v := -1) hx hb dX10_reason_150 (by decide) ?_
                  refine jic_ne (tgt := 157) hx hb dX10_reason_151 (by decide) (fun cq36_ => ?_) (fun cq36_ => ?_)
                  · skip
                    have cq36_ : xq35_.toInt ≠ (-1) := cq36_
                    refine lv_aload_n hx hb dX10_reason_157 rfl (lv_at hl 1 rfl) ?_
                    refine xg hC hK hH flX10_7 hc_h rfl dX10_reason_158 ?_
                    refine lv_iload hx hb dX10_reason_161 (lv_at hl 0 rfl) ?_
                    refine lv_iconst (v := 3) hx hb dX10_reason_163 (by decide) ?_
                    refine lv_iadd hx hb dX10_reason_164 ?_
                    refine lv_topi (fun zq37_ e_zq37_ => ?_)
                    have h_zq37_ : zq37_.toInt = rq3_.toInt + 3 := by rw [e_zq37_, iAdd (by have := iRg rq3_; have : (3 : Int32).toInt = 3 := rfl; omega) (by have := iRg rq3_; have : (3 : Int32).toInt = 3 := rfl; omega)]; rfl
                    refine xild hC hK hH hc_al (iIn (by omega) (by omega)) dX10_reason_165 ?_
                    refine lv_topi (fun xq38_ e_xq38_ => ?_)
                    have k_xq38_ : xq38_ = f (xn + 184 + 6 * ptn + 3) := by rw [e_xq38_, clE (n := xn + 184 + 6 * ptn + 3) (by omega)]
                    have kt_xq38_ : xq38_.toInt = (f (xn + 184 + 6 * ptn + 3)).toInt := by rw [k_xq38_]
                    refine lv_istore (lv' := [(5, .int xq38_), (4, .int rq3_), (0, .ref h), (1, .int bb), (2, .int x), (3, .int pt)]) hx hb dX10_reason_166 hl (by decide) rfl (fun ls hl => ?_)
                    refine lv_iload hx hb dX10_reason_168 (lv_at hl 0 rfl) ?_
                    refine lv_iconst (v := 1) hx hb dX10_reason_170 (by decide) ?_
                    refine lv_iand hx hb dX10_reason_171 ?_
                    refine lv_topi (fun zq39_ e_zq39_ => ?_)
                    have kt_zq39_ : zq39_.toInt = (f (xn + 184 + 6 * ptn + 3) &&& 1).toInt := by rw [e_zq39_, k_xq38_]
                    refine lv_iconst (v := 1) hx hb dX10_reason_172 (by decide) ?_
                    refine jic_eq (tgt := 197) hx hb dX10_reason_173 (by decide) (fun cq40_ => ?_) (fun cq40_ => ?_)
                    · skip
                      have cq40_ : zq39_.toInt = 1 := cq40_
                      refine lv_bipush (v := 9) hx hb dX10_reason_197 (by decide) ?_
                      refine lv_goto (tgt := 203) hx hb dX10_reason_199 (by decide) ?_
                      exact ret_i hC hr hlk hK hH (⟨Or.inr (⟨fun h => by have := h.2.2.2.2.2.2.2.2.2.1; have := h.2.2.2.2.2.2.2.2.2.2; omega, ⟨by decide, by decide⟩⟩), rfl, rfl⟩) (Nat.le_of_ble_eq_true rfl) (Nat.le_of_ble_eq_true rfl) dX10_reason_203
                    · skip
                      have cq40_ : zq39_.toInt ≠ 1 := cq40_
                      refine lv_iload hx hb dX10_reason_176 (lv_at hl 0 rfl) ?_
                      refine lv_iconst (v := 2) hx hb dX10_reason_178 (by decide) ?_
                      refine lv_iand hx hb dX10_reason_179 ?_
                      refine lv_topi (fun zq41_ e_zq41_ => ?_)
                      have kt_zq41_ : zq41_.toInt = (f (xn + 184 + 6 * ptn + 3) &&& 2).toInt := by rw [e_zq41_, k_xq38_]
                      refine lv_iconst (v := 2) hx hb dX10_reason_180 (by decide) ?_
                      refine jic_ne (tgt := 202) hx hb dX10_reason_181 (by decide) (fun cq42_ => ?_) (fun cq42_ => ?_)
                      · skip
                        have cq42_ : zq41_.toInt ≠ 2 := cq42_
                        refine lv_iconst (v := 0) hx hb dX10_reason_202 (by decide) ?_
                        exact ret_i hC hr hlk hK hH (⟨Or.inl (⟨⟨by assumption, by omega, by assumption, by omega, by omega, fun h => by omega, fun h => by omega, fun h => by omega, fun h => by omega, by omega, fun h => by omega⟩, rfl⟩), rfl, rfl⟩) (Nat.le_of_ble_eq_true rfl) (Nat.le_of_ble_eq_true rfl) dX10_reason_203
                      · skip
                        have cq42_ : zq41_.toInt = 2 := cq42_
                        refine lv_aload_n hx hb dX10_reason_184 rfl (lv_at hl 2 rfl) ?_
                        refine xg hC hK hH flX10_7 hc_h rfl dX10_reason_185 ?_
                        refine lv_iload_n hx hb dX10_reason_188 rfl (lv_at hl 4 rfl) ?_
                        refine lv_bipush (v := 14) hx hb dX10_reason_189 (by decide) ?_
                        refine lv_iadd hx hb dX10_reason_191 ?_
                        refine lv_topi (fun zq43_ e_zq43_ => ?_)
                        have h_zq43_ : zq43_.toInt = x.toInt + 14 := by rw [e_zq43_, iAdd (by have := iRg x; have : (14 : Int32).toInt = 14 := rfl; omega) (by have := iRg x; have : (14 : Int32).toInt = 14 := rfl; omega)]; rfl
                        refine xild hC hK hH hc_al (iIn (by omega) (by omega)) dX10_reason_192 ?_
                        refine lv_topi (fun xq44_ e_xq44_ => ?_)
                        have k_xq44_ : xq44_ = f (xn + 14) := by rw [e_xq44_, clE (n := xn + 14) (by omega)]
                        have kt_xq44_ : xq44_.toInt = (f (xn + 14)).toInt := by rw [k_xq44_]
                        refine lv_iconst (v := 1) hx hb dX10_reason_193 (by decide) ?_
                        refine jic_ne (tgt := 202) hx hb dX10_reason_194 (by decide) (fun cq45_ => ?_) (fun cq45_ => ?_)
                        · skip
                          have cq45_ : xq44_.toInt ≠ 1 := cq45_
                          refine lv_iconst (v := 0) hx hb dX10_reason_202 (by decide) ?_
                          exact ret_i hC hr hlk hK hH (⟨Or.inl (⟨⟨by assumption, by omega, by assumption, by omega, by omega, fun h => by omega, fun h => by omega, fun h => by omega, fun h => by omega, by omega, fun h => by omega⟩, rfl⟩), rfl, rfl⟩) (Nat.le_of_ble_eq_true rfl) (Nat.le_of_ble_eq_true rfl) dX10_reason_203
                        · skip
                          have cq45_ : xq44_.toInt = 1 := cq45_
                          refine lv_bipush (v := 9) hx hb dX10_reason_197 (by decide) ?_
                          refine lv_goto (tgt := 203) hx hb dX10_reason_199 (by decide) ?_
                          exact ret_i hC hr hlk hK hH (⟨Or.inr (⟨fun h => by have := h.2.2.2.2.2.2.2.2.2.1; have := h.2.2.2.2.2.2.2.2.2.2; omega, ⟨by decide, by decide⟩⟩), rfl, rfl⟩) (Nat.le_of_ble_eq_true rfl) (Nat.le_of_ble_eq_true rfl) dX10_reason_203
                  · skip
                    have cq36_ : xq35_.toInt = (-1) := cq36_
                    refine lv_bipush (v := 8) hx hb dX10_reason_154 (by decide) ?_
                    exact ret_i hC hr hlk hK hH (⟨Or.inr (⟨fun h => by have := h.2.2.2.2.2.2.2.2.1; omega, ⟨by decide, by decide⟩⟩), rfl, rfl⟩) (Nat.le_of_ble_eq_true rfl) (Nat.le_of_ble_eq_true rfl) dX10_reason_156
                · skip
                  have cq32_ : xq31_.toInt = (-1) := cq32_
                  refine lv_bipush (v := 7) hx hb dX10_reason_134 (by decide) ?_
                  exact ret_i hC hr hlk hK hH (⟨Or.inr (⟨fun h => by have := h.2.2.2.2.2.2.1; have := h.2.2.2.2.2.2.2.1; omega, ⟨by decide, by decide⟩⟩), rfl, rfl⟩) (Nat.le_of_ble_eq_true rfl) (Nat.le_of_ble_eq_true rfl) dX10_reason_136
              · skip
                have cq29_ : pt.toInt = 0 := cq29_
                refine lv_aload_n hx hb dX10_reason_99 rfl (lv_at hl 1 rfl) ?_
                refine xg hC hK hH flX10_7 hc_h rfl dX10_reason_100 ?_
                refine lv_iload_n hx hb dX10_reason_103 rfl (lv_at hl 2 rfl) ?_
                refine lv_iconst (v := 0) hx hb dX10_reason_104 (by decide) ?_
                refine lv_iadd hx hb dX10_reason_105 ?_
                refine lv_topi (fun zq46_ e_zq46_ => ?_)
                have h_zq46_ : zq46_.toInt = bb.toInt + 0 := by rw [e_zq46_, iAdd (by have := iRg bb; have : (0 : Int32).toInt = 0 := rfl; omega) (by have := iRg bb; have : (0 : Int32).toInt = 0 := rfl; omega)]; rfl
                refine xild hC hK hH hc_al (iIn (by omega) (by omega)) dX10_reason_106 ?_
                refine lv_topi (fun xq47_ e_xq47_ => ?_)
                have k_xq47_ : xq47_ = f (1140 * t) := by rw [e_xq47_, clE (n := 1140 * t) (by omega)]
                have kt_xq47_ : xq47_.toInt = (f (1140 * t)).toInt := by rw [k_xq47_]
                refine lv_aload_n hx hb dX10_reason_107 rfl (lv_at hl 1 rfl) ?_
                refine xg hC hK hH flX10_7 hc_h rfl dX10_reason_108 ?_
                refine lv_iload_n hx hb dX10_reason_111 rfl (lv_at hl 3 rfl) ?_
                refine lv_iconst (v := 4) hx hb dX10_reason_112 (by decide) ?_
                refine lv_iadd hx hb dX10_reason_113 ?_
                refine lv_topi (fun zq48_ e_zq48_ => ?_)
                have h_zq48_ : zq48_.toInt = x.toInt + 4 := by rw [e_zq48_, iAdd (by have := iRg x; have : (4 : Int32).toInt = 4 := rfl; omega) (by have := iRg x; have : (4 : Int32).toInt = 4 := rfl; omega)]; rfl
                refine xild hC hK hH hc_al (iIn (by omega) (by omega)) dX10_reason_114 ?_
                refine lv_topi (fun xq49_ e_xq49_ => ?_)
                have k_xq49_ : xq49_ = f (xn + 4) := by rw [e_xq49_, clE (n := xn + 4) (by omega)]
                have kt_xq49_ : xq49_.toInt = (f (xn + 4)).toInt := by rw [k_xq49_]
                refine jic_ge (tgt := 137) hx hb dX10_reason_115 (by decide) (fun cq50_ => ?_) (fun cq50_ => ?_)
                · skip
                  have cq50_ : xq49_.toInt ≤ xq47_.toInt := cq50_
                  refine lv_iload_n hx hb dX10_reason_137 rfl (lv_at hl 4 rfl) ?_
                  refine jif_le (tgt := 157) hx hb dX10_reason_138 (by decide) (fun cq51_ => ?_) (fun cq51_ => absurd cq51_ (by have := iRg pt; have : (0 : Int32).toInt = 0 := rfl; omega))
                  have cq51_ : pt.toInt ≤ 0 := cq51_
                  refine lv_aload_n hx hb dX10_reason_157 rfl (lv_at hl 1 rfl) ?_
                  refine xg hC hK hH flX10_7 hc_h rfl dX10_reason_158 ?_
                  refine lv_iload hx hb dX10_reason_161 (lv_at hl 0 rfl) ?_
                  refine lv_iconst (v := 3) hx hb dX10_reason_163 (by decide) ?_
                  refine lv_iadd hx hb dX10_reason_164 ?_
                  refine lv_topi (fun zq52_ e_zq52_ => ?_)
                  have h_zq52_ : zq52_.toInt = rq3_.toInt + 3 := by rw [e_zq52_, iAdd (by have := iRg rq3_; have : (3 : Int32).toInt = 3 := rfl; omega) (by have := iRg rq3_; have : (3 : Int32).toInt = 3 := rfl; omega)]; rfl
                  refine xild hC hK hH hc_al (iIn (by omega) (by omega)) dX10_reason_165 ?_
                  refine lv_topi (fun xq53_ e_xq53_ => ?_)
                  have k_xq53_ : xq53_ = f (xn + 184 + 6 * ptn + 3) := by rw [e_xq53_, clE (n := xn + 184 + 6 * ptn + 3) (by omega)]
                  have kt_xq53_ : xq53_.toInt = (f (xn + 184 + 6 * ptn + 3)).toInt := by rw [k_xq53_]
                  refine lv_istore (lv' := [(5, .int xq53_), (4, .int rq3_), (0, .ref h), (1, .int bb), (2, .int x), (3, .int pt)]) hx hb dX10_reason_166 hl (by decide) rfl (fun ls hl => ?_)
                  refine lv_iload hx hb dX10_reason_168 (lv_at hl 0 rfl) ?_
                  refine lv_iconst (v := 1) hx hb dX10_reason_170 (by decide) ?_
                  refine lv_iand hx hb dX10_reason_171 ?_
                  refine lv_topi (fun zq54_ e_zq54_ => ?_)
                  have kt_zq54_ : zq54_.toInt = (f (xn + 184 + 6 * ptn + 3) &&& 1).toInt := by rw [e_zq54_, k_xq53_]
                  refine lv_iconst (v := 1) hx hb dX10_reason_172 (by decide) ?_
                  refine jic_eq (tgt := 197) hx hb dX10_reason_173 (by decide) (fun cq55_ => ?_) (fun cq55_ => ?_)
                  · skip
                    have cq55_ : zq54_.toInt = 1 := cq55_
                    refine lv_bipush (v := 9) hx hb dX10_reason_197 (by decide) ?_
                    refine lv_goto (tgt := 203) hx hb dX10_reason_199 (by decide) ?_
                    exact ret_i hC hr hlk hK hH (⟨Or.inr (⟨fun h => by have := h.2.2.2.2.2.2.2.2.2.1; have := h.2.2.2.2.2.2.2.2.2.2; omega, ⟨by decide, by decide⟩⟩), rfl, rfl⟩) (Nat.le_of_ble_eq_true rfl) (Nat.le_of_ble_eq_true rfl) dX10_reason_203
                  · skip
                    have cq55_ : zq54_.toInt ≠ 1 := cq55_
                    refine lv_iload hx hb dX10_reason_176 (lv_at hl 0 rfl) ?_
                    refine lv_iconst (v := 2) hx hb dX10_reason_178 (by decide) ?_
                    refine lv_iand hx hb dX10_reason_179 ?_
                    refine lv_topi (fun zq56_ e_zq56_ => ?_)
                    have kt_zq56_ : zq56_.toInt = (f (xn + 184 + 6 * ptn + 3) &&& 2).toInt := by rw [e_zq56_, k_xq53_]
                    refine lv_iconst (v := 2) hx hb dX10_reason_180 (by decide) ?_
                    refine jic_ne (tgt := 202) hx hb dX10_reason_181 (by decide) (fun cq57_ => ?_) (fun cq57_ => ?_)
                    · skip
                      have cq57_ : zq56_.toInt ≠ 2 := cq57_
                      refine lv_iconst (v := 0) hx hb dX10_reason_202 (by decide) ?_
                      exact ret_i hC hr hlk hK hH (⟨Or.inl (⟨⟨by assumption, by omega, by assumption, by omega, by omega, fun h => by omega, fun h => by omega, fun h => by omega, fun h => by omega, by omega, fun h => by omega⟩, rfl⟩), rfl, rfl⟩) (Nat.le_of_ble_eq_true rfl) (Nat.le_of_ble_eq_true rfl) dX10_reason_203
                    · skip
                      have cq57_ : zq56_.toInt = 2 := cq57_
                      refine lv_aload_n hx hb dX10_reason_184 rfl (lv_at hl 2 rfl) ?_
                      refine xg hC hK hH flX10_7 hc_h rfl dX10_reason_185 ?_
                      refine lv_iload_n hx hb dX10_reason_188 rfl (lv_at hl 4 rfl) ?_
                      refine lv_bipush (v := 14) hx hb dX10_reason_189 (by decide) ?_
                      refine lv_iadd hx hb dX10_reason_191 ?_
                      refine lv_topi (fun zq58_ e_zq58_ => ?_)
                      have h_zq58_ : zq58_.toInt = x.toInt + 14 := by rw [e_zq58_, iAdd (by have := iRg x; have : (14 : Int32).toInt = 14 := rfl; omega) (by have := iRg x; have : (14 : Int32).toInt = 14 := rfl; omega)]; rfl
                      refine xild hC hK hH hc_al (iIn (by omega) (by omega)) dX10_reason_192 ?_
                      refine lv_topi (fun xq59_ e_xq59_ => ?_)
                      have k_xq59_ : xq59_ = f (xn + 14) := by rw [e_xq59_, clE (n := xn + 14) (by omega)]
                      have kt_xq59_ : xq59_.toInt = (f (xn + 14)).toInt := by rw [k_xq59_]
                      refine lv_iconst (v := 1) hx hb dX10_reason_193 (by decide) ?_
                      refine jic_ne (tgt := 202) hx hb dX10_reason_194 (by decide) (fun cq60_ => ?_) (fun cq60_ => ?_)
                      · skip
                        have cq60_ : xq59_.toInt ≠ 1 := cq60_
                        refine lv_iconst (v := 0) hx hb dX10_reason_202 (by decide) ?_
                        exact ret_i hC hr hlk hK hH (⟨Or.inl (⟨⟨by assumption, by omega, by assumption, by omega, by omega, fun h => by omega, fun h => by omega, fun h => by omega, fun h => by omega, by omega, fun h => by omega⟩, rfl⟩), rfl, rfl⟩) (Nat.le_of_ble_eq_true rfl) (Nat.le_of_ble_eq_true rfl) dX10_reason_203
                      · skip
                        have cq60_ : xq59_.toInt = 1 := cq60_
                        refine lv_bipush (v := 9) hx hb dX10_reason_197 (by decide) ?_
                        refine lv_goto (tgt := 203) hx hb dX10_reason_199 (by decide) ?_
                        exact ret_i hC hr hlk hK hH (⟨Or.inr (⟨fun h => by have := h.2.2.2.2.2.2.2.2.2.1; have := h.2.2.2.2.2.2.2.2.2.2; omega, ⟨by decide, by decide⟩⟩), rfl, rfl⟩) (Nat.le_of_ble_eq_true rfl) (Nat.le_of_ble_eq_true rfl) dX10_reason_203
                · skip
                  have cq50_ : xq47_.toInt < xq49_.toInt := cq50_
                  refine lv_goto (tgt := 134) hx hb dX10_reason_118 (by decide) ?_
                  refine lv_bipush (v := 7) hx hb dX10_reason_134 (by decide) ?_
                  exact ret_i hC hr hlk hK hH (⟨Or.inr (⟨fun h => by have := h.2.2.2.2.2.2.1; have := h.2.2.2.2.2.2.2.1; omega, ⟨by decide, by decide⟩⟩), rfl, rfl⟩) (Nat.le_of_ble_eq_true rfl) (Nat.le_of_ble_eq_true rfl) dX10_reason_136
            · skip
              have cq28_ : 1 < pt.toInt := cq28_
              refine lv_aload_n hx hb dX10_reason_73 rfl (lv_at hl 1 rfl) ?_
              refine xg hC hK hH flX10_7 hc_h rfl dX10_reason_74 ?_
              refine lv_iload_n hx hb dX10_reason_77 rfl (lv_at hl 3 rfl) ?_
              refine lv_iload_n hx hb dX10_reason_78 rfl (lv_at hl 4 rfl) ?_
              refine lv_iconst (v := 2) hx hb dX10_reason_79 (by decide) ?_
              refine lv_isub hx hb dX10_reason_80 ?_
              refine lv_topi (fun zq61_ e_zq61_ => ?_)
              have h_zq61_ : zq61_.toInt = pt.toInt - 2 := by rw [e_zq61_, iSub (by have := iRg pt; have : (2 : Int32).toInt = 2 := rfl; omega) (by have := iRg pt; have : (2 : Int32).toInt = 2 := rfl; omega)]; rfl
              refine goI hK hH (runS (As := [.int x, .int zq61_]) (rest := [.ref al]) hC hK hH (c_X10_stepAt (by omega) (by omega)) mlX10_37 ⟨⟨Nat.le_of_ble_eq_true rfl, Nat.le_of_ble_eq_true rfl⟩, Nat.le_of_ble_eq_true rfl, Nat.le_of_ble_eq_true rfl⟩ rfl hl.1 rfl (Nat.le_of_ble_eq_true rfl) dX10_reason_81) (fun rq64_ Mq62_ Tq63_ Hq_ lcq_ hP hz hH => ?_)
              try dsimp only at hP
              obtain ⟨(⟨cq65_, ⟨l_rq64_, g_rq64_⟩⟩), eT, eM⟩ := hP
              have eT := eT.symm; subst eT
              have eM := eM.symm; subst eM
              have cq65_ : rq64_.toInt = x.toInt + 40 + 12 * zq61_.toInt := cq65_
              have hx_rq64_ : rq64_.toInt = ((xn + 40 + 12 * (ptn - 2) : Nat) : Int) := by omega
              refine lv_bipush (v := 6) hx hb dX10_reason_84 (by decide) ?_
              refine lv_iadd hx hb dX10_reason_86 ?_
              refine lv_topi (fun zq66_ e_zq66_ => ?_)
              have h_zq66_ : zq66_.toInt = rq64_.toInt + 6 := by rw [e_zq66_, iAdd (by have := iRg rq64_; have : (6 : Int32).toInt = 6 := rfl; omega) (by have := iRg rq64_; have : (6 : Int32).toInt = 6 := rfl; omega)]; rfl
              refine xild hC hK hH hc_al (iIn (by omega) (by omega)) dX10_reason_87 ?_
              refine lv_topi (fun xq67_ e_xq67_ => ?_)
              have k_xq67_ : xq67_ = f (xn + 40 + 12 * (ptn - 2) + 6) := by rw [e_xq67_, clE (n := xn + 40 + 12 * (ptn - 2) + 6) (by omega)]
              have kt_xq67_ : xq67_.toInt = (f (xn + 40 + 12 * (ptn - 2) + 6)).toInt := by rw [k_xq67_]
              refine lv_iconst (v := 1) hx hb dX10_reason_88 (by decide) ?_
              refine jic_ne (tgt := 95) hx hb dX10_reason_89 (by decide) (fun cq68_ => ?_) (fun cq68_ => ?_)
              · skip
                have cq68_ : xq67_.toInt ≠ 1 := cq68_
                refine lv_iload_n hx hb dX10_reason_95 rfl (lv_at hl 4 rfl) ?_
                refine jif_ne (tgt := 121) hx hb dX10_reason_96 (by decide) (fun cq69_ => ?_) (fun cq69_ => absurd cq69_ (by have := iRg pt; have : (0 : Int32).toInt = 0 := rfl; omega))
                have cq69_ : pt.toInt ≠ 0 := cq69_
                refine lv_aload_n hx hb dX10_reason_121 rfl (lv_at hl 1 rfl) ?_
                refine xg hC hK hH flX10_7 hc_h rfl dX10_reason_122 ?_
                refine lv_iload_n hx hb dX10_reason_125 rfl (lv_at hl 3 rfl) ?_
                refine lv_bipush (v := 9) hx hb dX10_reason_126 (by decide) ?_
                refine lv_iadd hx hb dX10_reason_128 ?_
                refine lv_topi (fun zq70_ e_zq70_ => ?_)
                have h_zq70_ : zq70_.toInt = x.toInt + 9 := by rw [e_zq70_, iAdd (by have := iRg x; have : (9 : Int32).toInt = 9 := rfl; omega) (by have := iRg x; have : (9 : Int32).toInt = 9 := rfl; omega)]; rfl
                refine xild hC hK hH hc_al (iIn (by omega) (by omega)) dX10_reason_129 ?_
                refine lv_topi (fun xq71_ e_xq71_ => ?_)
                have k_xq71_ : xq71_ = f (xn + 9) := by rw [e_xq71_, clE (n := xn + 9) (by omega)]
                have kt_xq71_ : xq71_.toInt = (f (xn + 9)).toInt := by rw [k_xq71_]
                refine lv_iconst (v := -1) hx hb dX10_reason_130 (by decide) ?_
                refine jic_ne (tgt := 137) hx hb dX10_reason_131 (by decide) (fun cq72_ => ?_) (fun cq72_ => ?_)
                · skip
                  have cq72_ : xq71_.toInt ≠ (-1) := cq72_
                  refine lv_iload_n hx hb dX10_reason_137 rfl (lv_at hl 4 rfl) ?_
                  refine jif_le (tgt := 157) hx hb dX10_reason_138 (by decide) (fun cq73_ => absurd cq73_ (by have := iRg pt; have : (0 : Int32).toInt = 0 := rfl; omega)) (fun cq73_ => ?_)
                  have cq73_ : 0 < pt.toInt := cq73_
                  refine lv_aload_n hx hb dX10_reason_141 rfl (lv_at hl 1 rfl) ?_
                  refine xg hC hK hH flX10_7 hc_h rfl dX10_reason_142 ?_
                  refine lv_iload hx hb dX10_reason_145 (lv_at hl 0 rfl) ?_
                  refine lv_iconst (v := 0) hx hb dX10_reason_147 (by decide) ?_
                  refine lv_iadd hx hb dX10_reason_148 ?_
                  refine lv_topi (fun zq74_ e_zq74_ => ?_)
                  have h_zq74_ : zq74_.toInt = rq3_.toInt + 0 := by rw [e_zq74_, iAdd (by have := iRg rq3_; have : (0 : Int32).toInt = 0 := rfl; omega) (by have := iRg rq3_; have : (0 : Int32).toInt = 0 := rfl; omega)]; rfl
                  refine xild hC hK hH hc_al (iIn (by omega) (by omega)) dX10_reason_149 ?_
                  refine lv_topi (fun xq75_ e_xq75_ => ?_)
                  have k_xq75_ : xq75_ = f (xn + 184 + 6 * ptn) := by rw [e_xq75_, clE (n := xn + 184 + 6 * ptn) (by omega)]
                  have kt_xq75_ : xq75_.toInt = (f (xn + 184 + 6 * ptn)).toInt := by rw [k_xq75_]
                  refine lv_iconst (v := -1) hx hb dX10_reason_150 (by decide) ?_
                  refine jic_ne (tgt := 157) hx hb dX10_reason_151 (by decide) (fun cq76_ => ?_) (fun cq76_ => ?_)
                  · skip
                    have cq76_ : xq75_.toInt ≠ (-1) := cq76_
                    refine lv_aload_n hx hb dX10_reason_157 rfl (lv_at hl 1 rfl) ?_
                    refine xg hC hK hH flX10_7 hc_h rfl dX10_reason_158 ?_
                    refine lv_iload hx hb dX10_reason_161 (lv_at hl 0 rfl) ?_
                    refine lv_iconst (v := 3) hx hb dX10_reason_163 (by decide) ?_
                    refine lv_iadd hx hb dX10_reason_164 ?_
                    refine lv_topi (fun zq77_ e_zq77_ => ?_)
                    have h_zq77_ : zq77_.toInt = rq3_.toInt + 3 := by rw [e_zq77_, iAdd (by have := iRg rq3_; have : (3 : Int32).toInt = 3 := rfl; omega) (by have := iRg rq3_; have : (3 : Int32).toInt = 3 := rfl; omega)]; rfl
                    refine xild hC hK hH hc_al (iIn (by omega) (by omega)) dX10_reason_165 ?_
                    refine lv_topi (fun xq78_ e_xq78_ => ?_)
                    have k_xq78_ : xq78_ = f (xn + 184 + 6 * ptn + 3) := by rw [e_xq78_, clE (n := xn + 184 + 6 * ptn + 3) (by omega)]
                    have kt_xq78_ : xq78_.toInt = (f (xn + 184 + 6 * ptn + 3)).toInt := by rw [k_xq78_]
                    refine lv_istore (lv' := [(5, .int xq78_), (4, .int rq3_), (0, .ref h), (1, .int bb), (2, .int x), (3, .int pt)]) hx hb dX10_reason_166 hl (by decide) rfl (fun ls hl => ?_)
                    refine lv_iload hx hb dX10_reason_168 (lv_at hl 0 rfl) ?_
                    refine lv_iconst (v := 1) hx hb dX10_reason_170 (by decide) ?_
                    refine lv_iand hx hb dX10_reason_171 ?_
                    refine lv_topi (fun zq79_ e_zq79_ => ?_)
                    have kt_zq79_ : zq79_.toInt = (f (xn + 184 + 6 * ptn + 3) &&& 1).toInt := by rw [e_zq79_, k_xq78_]
                    refine lv_iconst (v := 1) hx hb dX10_reason_172 (by decide) ?_
                    refine jic_eq (tgt := 197) hx hb dX10_reason_173 (by decide) (fun cq80_ => ?_) (fun cq80_ => ?_)
                    · skip
                      have cq80_ : zq79_.toInt = 1 := cq80_
                      refine lv_bipush (v := 9) hx hb dX10_reason_197 (by decide) ?_
                      refine lv_goto (tgt := 203) hx hb dX10_reason_199 (by decide) ?_
                      exact ret_i hC hr hlk hK hH (⟨Or.inr (⟨fun h => by have := h.2.2.2.2.2.2.2.2.2.1; have := h.2.2.2.2.2.2.2.2.2.2; omega, ⟨by decide, by decide⟩⟩), rfl, rfl⟩) (Nat.le_of_ble_eq_true rfl) (Nat.le_of_ble_eq_true rfl) dX10_reason_203
                    · skip
                      have cq80_ : zq79_.toInt ≠ 1 := cq80_
                      refine lv_iload hx hb dX10_reason_176 (lv_at hl 0 rfl) ?_
                      refine lv_iconst (v := 2) hx hb dX10_reason_178 (by decide) ?_
                      refine lv_iand hx hb dX10_reason_179 ?_
                      refine lv_topi (fun zq81_ e_zq81_ => ?_)
                      have kt_zq81_ : zq81_.toInt = (f (xn + 184 + 6 * ptn + 3) &&& 2).toInt := by rw [e_zq81_, k_xq78_]
                      refine lv_iconst (v := 2) hx hb dX10_reason_180 (by decide) ?_
                      refine jic_ne (tgt := 202) hx hb dX10_reason_181 (by decide) (fun cq82_ => ?_) (fun cq82_ => ?_)
                      · skip
                        have cq82_ : zq81_.toInt ≠ 2 := cq82_
                        refine lv_iconst (v := 0) hx hb dX10_reason_202 (by decide) ?_
                        exact ret_i hC hr hlk hK hH (⟨Or.inl (⟨⟨by assumption, by omega, by assumption, by omega, by omega, fun h => by omega, fun h => by omega, fun h => by omega, fun h => by omega, by omega, fun h => by omega⟩, rfl⟩), rfl, rfl⟩) (Nat.le_of_ble_eq_true rfl) (Nat.le_of_ble_eq_true rfl) dX10_reason_203
                      · skip
                        have cq82_ : zq81_.toInt = 2 := cq82_
                        refine lv_aload_n hx hb dX10_reason_184 rfl (lv_at hl 2 rfl) ?_
                        refine xg hC hK hH flX10_7 hc_h rfl dX10_reason_185 ?_
                        refine lv_iload_n hx hb dX10_reason_188 rfl (lv_at hl 4 rfl) ?_
                        refine lv_bipush (v := 14) hx hb dX10_reason_189 (by decide) ?_
                        refine lv_iadd hx hb dX10_reason_191 ?_
                        refine lv_topi (fun zq83_ e_zq83_ => ?_)
                        have h_zq83_ : zq83_.toInt = x.toInt + 14 := by rw [e_zq83_, iAdd (by have := iRg x; have : (14 : Int32).toInt = 14 := rfl; omega) (by have := iRg x; have : (14 : Int32).toInt = 14 := rfl; omega)]; rfl
                        refine xild hC hK hH hc_al (iIn (by omega) (by omega)) dX10_reason_192 ?_
                        refine lv_topi (fun xq84_ e_xq84_ => ?_)
                        have k_xq84_ : xq84_ = f (xn + 14) := by rw [e_xq84_, clE (n := xn + 14) (by omega)]
                        have kt_xq84_ : xq84_.toInt = (f (xn + 14)).toInt := by rw [k_xq84_]
                        refine lv_iconst (v := 1) hx hb dX10_reason_193 (by decide) ?_
                        refine jic_ne (tgt := 202) hx hb dX10_reason_194 (by decide) (fun cq85_ => ?_) (fun cq85_ => ?_)
                        · skip
                          have cq85_ : xq84_.toInt ≠ 1 := cq85_
                          refine lv_iconst (v := 0) hx hb dX10_reason_202 (by decide) ?_
                          exact ret_i hC hr hlk hK hH (⟨Or.inl (⟨⟨by assumption, by omega, by assumption, by omega, by omega, fun h => by omega, fun h => by omega, fun h => by omega, fun h => by omega, by omega, fun h => by omega⟩, rfl⟩), rfl, rfl⟩) (Nat.le_of_ble_eq_true rfl) (Nat.le_of_ble_eq_true rfl) dX10_reason_203
                        · skip
                          have cq85_ : xq84_.toInt = 1 := cq85_
                          refine lv_bipush (v := 9) hx hb dX10_reason_197 (by decide) ?_
                          refine lv_goto (tgt := 203) hx hb dX10_reason_199 (by decide) ?_
                          exact ret_i hC hr hlk hK hH (⟨Or.inr (⟨fun h => by have := h.2.2.2.2.2.2.2.2.2.1; have := h.2.2.2.2.2.2.2.2.2.2; omega, ⟨by decide, by decide⟩⟩), rfl, rfl⟩) (Nat.le_of_ble_eq_true rfl) (Nat.le_of_ble_eq_true rfl) dX10_reason_203
                  · skip
                    have cq76_ : xq75_.toInt = (-1) := cq76_
                    refine lv_bipush (v := 8) hx hb dX10_reason_154 (by decide) ?_
                    exact ret_i hC hr hlk hK hH (⟨Or.inr (⟨fun h => by have := h.2.2.2.2.2.2.2.2.1; omega, ⟨by decide, by decide⟩⟩), rfl, rfl⟩) (Nat.le_of_ble_eq_true rfl) (Nat.le_of_ble_eq_true rfl) dX10_reason_156
                · skip
                  have cq72_ : xq71_.toInt = (-1) := cq72_
                  refine lv_bipush (v := 7) hx hb dX10_reason_134 (by decide) ?_
                  exact ret_i hC hr hlk hK hH (⟨Or.inr (⟨fun h => by have := h.2.2.2.2.2.2.1; have := h.2.2.2.2.2.2.2.1; omega, ⟨by decide, by decide⟩⟩), rfl, rfl⟩) (Nat.le_of_ble_eq_true rfl) (Nat.le_of_ble_eq_true rfl) dX10_reason_136
              · skip
                have cq68_ : xq67_.toInt = 1 := cq68_
                refine lv_bipush (v := 6) hx hb dX10_reason_92 (by decide) ?_
                exact ret_i hC hr hlk hK hH (⟨Or.inr (⟨fun h => by have := h.2.2.2.2.2.1; omega, ⟨by decide, by decide⟩⟩), rfl, rfl⟩) (Nat.le_of_ble_eq_true rfl) (Nat.le_of_ble_eq_true rfl) dX10_reason_94
          · skip
            have cq27_ : 0 < xq26_.toInt := cq27_
            refine lv_iconst (v := 5) hx hb dX10_reason_66 (by decide) ?_
            exact ret_i hC hr hlk hK hH (⟨Or.inr (⟨fun h => by have := h.2.2.2.2.1; omega, ⟨by decide, by decide⟩⟩), rfl, rfl⟩) (Nat.le_of_ble_eq_true rfl) (Nat.le_of_ble_eq_true rfl) dX10_reason_67
        · skip
          have cq24_ : rq22_.toInt ≤ pt.toInt := cq24_
          refine lv_iconst (v := 4) hx hb dX10_reason_52 (by decide) ?_
          exact ret_i hC hr hlk hK hH (⟨Or.inr (⟨fun h => by have := h.2.2.2.1; omega, ⟨by decide, by decide⟩⟩), rfl, rfl⟩) (Nat.le_of_ble_eq_true rfl) (Nat.le_of_ble_eq_true rfl) dX10_reason_53
      · skip
        have eT := eT.symm; subst eT
        have er_rq16_ := er_rq16_.symm; subst er_rq16_
        have eM := eM.symm; subst eM
        have cq18_ : ¬ sgnF f xn ptn := cq18_
        refine jif_ne (tgt := 43) hx hb dX10_reason_38 (by decide) (fun cq86_ => absurd cq86_ (by decide)) (fun cq86_ => ?_)
        refine lv_iconst (v := 3) hx hb dX10_reason_41 (by decide) ?_
        exact ret_i hC hr hlk hK hH (⟨Or.inr (⟨fun h => by have := h.2.2.1; contradiction, ⟨by decide, by decide⟩⟩), rfl, rfl⟩) (Nat.le_of_ble_eq_true rfl) (Nat.le_of_ble_eq_true rfl) dX10_reason_42
    · skip
      have cq13_ : xq12_.toInt = 1 := cq13_
      refine lv_iconst (v := 2) hx hb dX10_reason_30 (by decide) ?_
      exact ret_i hC hr hlk hK hH (⟨Or.inr (⟨fun h => by have := h.2.1; omega, ⟨by decide, by decide⟩⟩), rfl, rfl⟩) (Nat.le_of_ble_eq_true rfl) (Nat.le_of_ble_eq_true rfl) dX10_reason_31
  · skip
    have eT := eT.symm; subst eT
    have er_rq7_ := er_rq7_.symm; subst er_rq7_
    have eM := eM.symm; subst eM
    have cq9_ : ¬ titF f xn := cq9_
    refine jif_ne (tgt := 17) hx hb dX10_reason_12 (by decide) (fun cq87_ => absurd cq87_ (by decide)) (fun cq87_ => ?_)
    refine lv_iconst (v := 1) hx hb dX10_reason_15 (by decide) ?_
    exact ret_i hC hr hlk hK hH (⟨Or.inr (⟨fun h => by have := h.1; contradiction, ⟨by decide, by decide⟩⟩), rfl, rfl⟩) (Nat.le_of_ble_eq_true rfl) (Nat.le_of_ble_eq_true rfl) dX10_reason_16
set_option maxHeartbeats 4000000 in
set_option maxRecDepth 100000 in
theorem c_X10_hasCash {l : Launch} {D : va_G} {kA : Nat → ClassId} {M : mM} {T : mT} {sz : Nat} {h al mt ii pa li : Nat} {ta fpm sm nx tk pl ln wr : Int32} {va : Int64} {f : Nat → Int32} {x : Int32} {xn t b : Nat} {bb pt : Int32} {ptn : Nat} (hc_h : M h = some (.inr (8, [.ref al, .ref mt, .ref ii, .int ta, .int fpm, .ref pa, .int sm, .int nx, .int tk, .int pl, .int ln, .long va, .int wr, .ref li]))) (hn_h : T h = none) (hc_al : M al = some (.inl (kA 0, 7506, .inl f))) (hn_al : T al = none) (ht_mt : T mt = some 11) (ht_pa : T pa = some 13) (ht_li : T li = some 14) (hR_f : Rng f) (hxt : t < 2) (hxb : b < 4) (hxn : xn = 1140 * t + 20 + 280 * b) (hxx : x.toInt = (xn : Int)) (hbb : bb.toInt = 1140 * (t : Int)) (hptn : pt.toInt = (ptn : Int)) (hp13 : ptn ≤ 13) : mCi l yX10_hasCash cX10_hasCash 4 (some .boolean) 2 0 0 D kA M T sz [.ref h, .int bb, .int x, .int pt] (fun r u => ((CshF f t xn ptn ∧ r = 1) ∨ (¬ CshF f t xn ptn ∧ r = 0)) ∧ u.2 = T ∧ u.1 = M) := by
  unfold mCi
  refine start_W (by decide) (Nat.le_of_ble_eq_true rfl) ?_
  intro p e s m below meth c ls hC hr hlk hnm hK hH hsz hl
  have hx := hC.1
  have hb := hC.2.1
  have hl : lv_has ls 4 [(0, .ref h), (1, .int bb), (2, .int x), (3, .int pt)] := hl
  have n_h_al : h ≠ al := neM hc_h hc_al (by simp)
  have n_al_h : al ≠ h := neM hc_al hc_h (by simp)
  have hK_f : Ke f f := Ke.rf
  refine lv_aload_n hx hb dX10_hasCash_0 rfl (lv_at hl 0 rfl) ?_
  refine xg hC hK hH flX10_7 hc_h rfl dX10_hasCash_1 ?_
  refine lv_iload_n hx hb dX10_hasCash_4 rfl (lv_at hl 1 rfl) ?_
  refine lv_bipush (v := 6) hx hb dX10_hasCash_5 (by decide) ?_
  refine lv_iadd hx hb dX10_hasCash_7 ?_
  refine lv_topi (fun zq1_ e_zq1_ => ?_)
  have h_zq1_ : zq1_.toInt = bb.toInt + 6 := by rw [e_zq1_, iAdd (by have := iRg bb; have : (6 : Int32).toInt = 6 := rfl; omega) (by have := iRg bb; have : (6 : Int32).toInt = 6 := rfl; omega)]; rfl
  refine lv_aload_n hx hb dX10_hasCash_8 rfl (lv_at hl 0 rfl) ?_
  refine lv_iload_n hx hb dX10_hasCash_9 rfl (lv_at hl 2 rfl) ?_
  refine lv_iload_n hx hb dX10_hasCash_10 rfl (lv_at hl 3 rfl) ?_
  refine goI hK hH (runV (As := [.int x, .int pt]) (rest := [.int zq1_, .ref al]) hC hK hH (c_X10_who hc_h hn_h hc_al hn_al ht_mt ht_pa ht_li (by exact hR_f) (by omega) (by omega) (by omega) (by omega) (by omega) (by omega)) mlX10_41 (rcvM hK hH hc_h rfl) ⟨⟨Nat.le_of_ble_eq_true rfl, Nat.le_of_ble_eq_true rfl⟩, Nat.le_of_ble_eq_true rfl, Nat.le_of_ble_eq_true rfl⟩ rfl hl.1 rfl (Nat.le_of_ble_eq_true rfl) dX10_hasCash_11) (fun rq4_ Mq2_ Tq3_ Hq_ lcq_ hP hz hH => ?_)
  try dsimp only at hP
  obtain ⟨(⟨cq5_, ⟨l_rq4_, g_rq4_⟩⟩), eT, eM⟩ := hP
  have eT := eT.symm; subst eT
  have eM := eM.symm; subst eM
  have cq5_ : rq4_.toInt = whoI f xn ptn := cq5_
  refine lv_iadd hx hb dX10_hasCash_14 ?_
  refine lv_topi (fun zq6_ e_zq6_ => ?_)
  have h_zq6_ : zq6_.toInt = zq1_.toInt + rq4_.toInt := by rw [e_zq6_, iAdd (by have := iRg zq1_; have := iRg rq4_; omega) (by have := iRg zq1_; have := iRg rq4_; omega)]
  refine xild hC hK hH hc_al (iIn (by omega) (by omega)) dX10_hasCash_15 ?_
  refine lv_topi (fun xq7_ e_xq7_ => ?_)
  have kc_xq7_ : xq7_.toInt = (f ((1140 * (t : Int) + 6 + whoI f xn ptn).toNat)).toInt := by rw [e_xq7_, clT (z := 1140 * (t : Int) + 6 + whoI f xn ptn) (by omega)]
  refine lv_aload_n hx hb dX10_hasCash_16 rfl (lv_at hl 0 rfl) ?_
  refine xg hC hK hH flX10_7 hc_h rfl dX10_hasCash_17 ?_
  refine lv_iload_n hx hb dX10_hasCash_20 rfl (lv_at hl 2 rfl) ?_
  refine lv_iconst (v := 3) hx hb dX10_hasCash_21 (by decide) ?_
  refine lv_iadd hx hb dX10_hasCash_22 ?_
  refine lv_topi (fun zq8_ e_zq8_ => ?_)
  have h_zq8_ : zq8_.toInt = x.toInt + 3 := by rw [e_zq8_, iAdd (by have := iRg x; have : (3 : Int32).toInt = 3 := rfl; omega) (by have := iRg x; have : (3 : Int32).toInt = 3 := rfl; omega)]; rfl
  refine xild hC hK hH hc_al (iIn (by omega) (by omega)) dX10_hasCash_23 ?_
  refine lv_topi (fun xq9_ e_xq9_ => ?_)
  have k_xq9_ : xq9_ = f (xn + 3) := by rw [e_xq9_, clE (n := xn + 3) (by omega)]
  have kt_xq9_ : xq9_.toInt = (f (xn + 3)).toInt := by rw [k_xq9_]
  refine jic_lt (tgt := 31) hx hb dX10_hasCash_24 (by decide) (fun cq10_ => ?_) (fun cq10_ => ?_)
  · skip
    have cq10_ : xq7_.toInt < xq9_.toInt := cq10_
    refine lv_iconst (v := 0) hx hb dX10_hasCash_31 (by decide) ?_
    exact ret_z hC hr hlk hK hH (by first | exact Or.inl rfl | exact Or.inr rfl | assumption) (⟨Or.inr (⟨by unfold CshF; rw [← kc_xq7_]; omega, rfl⟩), rfl, rfl⟩) (Nat.le_of_ble_eq_true rfl) (Nat.le_of_ble_eq_true rfl) dX10_hasCash_32
  · skip
    have cq10_ : xq9_.toInt ≤ xq7_.toInt := cq10_
    refine lv_iconst (v := 1) hx hb dX10_hasCash_27 (by decide) ?_
    refine lv_goto (tgt := 32) hx hb dX10_hasCash_28 (by decide) ?_
    exact ret_z hC hr hlk hK hH (by first | exact Or.inl rfl | exact Or.inr rfl | assumption) (⟨Or.inl (⟨by unfold CshF; rw [← kc_xq7_]; omega, rfl⟩), rfl, rfl⟩) (Nat.le_of_ble_eq_true rfl) (Nat.le_of_ble_eq_true rfl) dX10_hasCash_32
set_option maxHeartbeats 4000000 in
set_option maxRecDepth 100000 in
theorem c_X10_payer {l : Launch} {D : va_G} {kA : Nat → ClassId} {M : mM} {T : mT} {sz : Nat} {h al mt ii pa li : Nat} {ta fpm sm nx tk pl ln wr : Int32} {va : Int64} {f : Nat → Int32} {x : Int32} {xn t b : Nat} {bb : Int32} (hc_h : M h = some (.inr (8, [.ref al, .ref mt, .ref ii, .int ta, .int fpm, .ref pa, .int sm, .int nx, .int tk, .int pl, .int ln, .long va, .int wr, .ref li]))) (hn_h : T h = none) (hc_al : M al = some (.inl (kA 0, 7506, .inl f))) (hn_al : T al = none) (ht_mt : T mt = some 11) (ht_pa : T pa = some 13) (ht_li : T li = some 14) (hR_f : Rng f) (hxt : t < 2) (hxb : b < 4) (hxn : xn = 1140 * t + 20 + 280 * b) (hxx : x.toInt = (xn : Int)) (hbb : bb.toInt = 1140 * (t : Int)) : mCi l yX10_payer cX10_payer 4 (some .int) 5 0 0 D kA M T sz [.ref h, .int bb, .int x] (fun r u => ((r = -1) ∨ ((0 ≤ r.toInt ∧ r.toInt ≤ 1 + (f (xn + 8)).toInt ∧ Lia f t xn (r.toInt).toNat ∧ CshF f t xn (r.toInt).toNat) ∧ (((0 : Int) ≤ r.toInt ∧ r.toInt ≤ 13)))) ∧ u.2 = T ∧ u.1 = M) := by
  unfold mCi
  refine start_W (by decide) (Nat.le_of_ble_eq_true rfl) ?_
  intro p e s m below meth c ls hC hr hlk hnm hK hH hsz hl
  have hx := hC.1
  have hb := hC.2.1
  have hl : lv_has ls 4 [(0, .ref h), (1, .int bb), (2, .int x)] := hl
  have n_h_al : h ≠ al := neM hc_h hc_al (by simp)
  have n_al_h : al ≠ h := neM hc_al hc_h (by simp)
  have hK_f : Ke f f := Ke.rf
  refine lv_iconst (v := 1) hx hb dX10_payer_0 (by decide) ?_
  refine lv_aload_n hx hb dX10_payer_1 rfl (lv_at hl 0 rfl) ?_
  refine xg hC hK hH flX10_7 hc_h rfl dX10_payer_2 ?_
  refine lv_iload_n hx hb dX10_payer_5 rfl (lv_at hl 2 rfl) ?_
  refine lv_bipush (v := 8) hx hb dX10_payer_6 (by decide) ?_
  refine lv_iadd hx hb dX10_payer_8 ?_
  refine lv_topi (fun zq1_ e_zq1_ => ?_)
  have h_zq1_ : zq1_.toInt = x.toInt + 8 := by rw [e_zq1_, iAdd (by have := iRg x; have : (8 : Int32).toInt = 8 := rfl; omega) (by have := iRg x; have : (8 : Int32).toInt = 8 := rfl; omega)]; rfl
  refine xild hC hK hH hc_al (iIn (by omega) (by omega)) dX10_payer_9 ?_
  refine lv_topi (fun xq2_ e_xq2_ => ?_)
  have k_xq2_ : xq2_ = f (xn + 8) := by rw [e_xq2_, clE (n := xn + 8) (by omega)]
  have kt_xq2_ : xq2_.toInt = (f (xn + 8)).toInt := by rw [k_xq2_]
  have rr_xq2_ : (0 : Int) ≤ (f (xn + 8)).toInt ∧ (f (xn + 8)).toInt ≤ 12 := hR_f.rO 8 (t := t) (b := b) (xn := xn) (by omega) (by omega) (by omega) (by decide) rfl
  have l_xq2_ : (0 : Int) ≤ xq2_.toInt := by rw [kt_xq2_, show xn + 8 = xn + 8 from by omega]; exact rr_xq2_.1
  have g_xq2_ : xq2_.toInt ≤ 12 := by rw [kt_xq2_, show xn + 8 = xn + 8 from by omega]; exact rr_xq2_.2
  refine lv_iadd hx hb dX10_payer_10 ?_
  refine lv_topi (fun zq3_ e_zq3_ => ?_)
  have h_zq3_ : zq3_.toInt = 1 + xq2_.toInt := by rw [e_zq3_, iAdd (by have : (1 : Int32).toInt = 1 := rfl; have := iRg xq2_; omega) (by have : (1 : Int32).toInt = 1 := rfl; have := iRg xq2_; omega)]; rfl
  refine lv_istore_n (lv' := [(3, .int zq3_), (0, .ref h), (1, .int bb), (2, .int x)]) hx hb dX10_payer_11 rfl hl (by decide) rfl (fun ls hl => ?_)
  have loop : ∀ (n : Nat) (yq4_ : Int32) (Hq_ : Heap) (lcq_ : List Loc) (ls : Array Slot), yq4_.toInt + 2 ≤ (n : Int) → (-1 : Int) ≤ yq4_.toInt → yq4_.toInt ≤ 13 → (yq4_.toInt ≤ 1 + (f (xn + 8)).toInt) → M h = some (.inr (8, [.ref al, .ref mt, .ref ii, .int ta, .int fpm, .ref pa, .int sm, .int nx, .int tk, .int pl, .int ln, .long va, .int wr, .ref li])) → M al = some (.inl (kA 0, 7506, .inl f)) → mS D kA M T (mA M T sz) s.heap Hq_ lcq_ → lv_has ls 4 [(3, .int yq4_), (0, .ref h), (1, .int bb), (2, .int x)] → W p l e (rmL 5 0 0) s m ([.ref h, .int bb, .int x] : List Value).toArray below meth c Hq_ lcq_ 0 0 (MQ below (va_Qi (fun r u => ((r = -1) ∨ ((0 ≤ r.toInt ∧ r.toInt ≤ 1 + (f (xn + 8)).toInt ∧ Lia f t xn (r.toInt).toNat ∧ CshF f t xn (r.toInt).toNat) ∧ (((0 : Int) ≤ r.toInt ∧ r.toInt ≤ 13)))) ∧ u.2 = T ∧ u.1 = M) (mB D kA M T sz) (mA M T sz)) ([.ref h, .int bb, .int x] : List Value).toArray s 0 0 (mA M T sz)) (F0 m 12 ls []) := by
    intro n
    induction n with
    | zero =>
      intro yq4_ Hq_ lcq_ ls hme l_yq4_ g_yq4_ hv0_yq4_ hc_h hc_al hH hl
      exfalso; omega
    | succ n ih =>
      intro yq4_ Hq_ lcq_ ls hme l_yq4_ g_yq4_ hv0_yq4_ hc_h hc_al hH hl
      refine lv_iload_n hx hb dX10_payer_12 rfl (lv_at hl 0 rfl) ?_
      refine jif_lt (tgt := 44) hx hb dX10_payer_13 (by decide) (fun cq5_ => ?_) (fun cq5_ => ?_)
      · skip
        have cq5_ : yq4_.toInt < 0 := cq5_
        refine lv_iconst (v := -1) hx hb dX10_payer_44 (by decide) ?_
        exact ret_i hC hr hlk hK hH (⟨Or.inl (rfl), rfl, rfl⟩) (Nat.le_of_ble_eq_true rfl) (Nat.le_of_ble_eq_true rfl) dX10_payer_45
      · skip
        have cq5_ : 0 ≤ yq4_.toInt := cq5_
        refine lv_aload_n hx hb dX10_payer_16 rfl (lv_at hl 1 rfl) ?_
        refine lv_iload_n hx hb dX10_payer_17 rfl (lv_at hl 2 rfl) ?_
        refine lv_iload_n hx hb dX10_payer_18 rfl (lv_at hl 3 rfl) ?_
        refine lv_iload_n hx hb dX10_payer_19 rfl (lv_at hl 0 rfl) ?_
        obtain ⟨nq6_, hn_nq6_⟩ : ∃ n : Nat, yq4_.toInt = (n : Int) := ⟨(yq4_.toInt).toNat, by omega⟩
        refine goI hK hH (runV (As := [.int bb, .int x, .int yq4_]) (rest := []) hC hK hH (c_X10_reason hc_h hn_h hc_al hn_al ht_mt ht_pa ht_li (by exact hR_f) (by omega) (by omega) (by omega) (by omega) (by omega) (by omega) (by omega)) mlX10_81 (rcvM hK hH hc_h rfl) ⟨⟨Nat.le_of_ble_eq_true rfl, Nat.le_of_ble_eq_true rfl⟩, Nat.le_of_ble_eq_true rfl, Nat.le_of_ble_eq_true rfl⟩ rfl hl.1 rfl (Nat.le_of_ble_eq_true rfl) dX10_payer_20) (fun rq9_ Mq7_ Tq8_ Hq_ lcq_ hP hz hH => ?_)
        try dsimp only at hP
        obtain ⟨(⟨cq10_, er_rq9_⟩ | ⟨cq11_, ⟨l_rq9_, g_rq9_⟩⟩), eT, eM⟩ := hP
        · skip
          have eT := eT.symm; subst eT
          have er_rq9_ := er_rq9_.symm; subst er_rq9_
          have eM := eM.symm; subst eM
          have cq10_ : Lia f t xn nq6_ := cq10_
          refine jif_ne (tgt := 38) hx hb dX10_payer_23 (by decide) (fun cq12_ => absurd cq12_ (by decide)) (fun cq12_ => ?_)
          refine lv_aload_n hx hb dX10_payer_26 rfl (lv_at hl 1 rfl) ?_
          refine lv_iload_n hx hb dX10_payer_27 rfl (lv_at hl 2 rfl) ?_
          refine lv_iload_n hx hb dX10_payer_28 rfl (lv_at hl 3 rfl) ?_
          refine lv_iload_n hx hb dX10_payer_29 rfl (lv_at hl 0 rfl) ?_
          refine goI hK hH (runV (As := [.int bb, .int x, .int yq4_]) (rest := []) hC hK hH (c_X10_hasCash hc_h hn_h hc_al hn_al ht_mt ht_pa ht_li (by exact hR_f) (by omega) (by omega) (by omega) (by omega) (by omega) (by omega) (by omega)) mlX10_85 (rcvM hK hH hc_h rfl) ⟨⟨Nat.le_of_ble_eq_true rfl, Nat.le_of_ble_eq_true rfl⟩, Nat.le_of_ble_eq_true rfl, Nat.le_of_ble_eq_true rfl⟩ rfl hl.1 rfl (Nat.le_of_ble_eq_true rfl) dX10_payer_30) (fun rq15_ Mq13_ Tq14_ Hq_ lcq_ hP hz hH => ?_)
          try dsimp only at hP
          obtain ⟨(⟨cq16_, er_rq15_⟩ | ⟨cq17_, er_rq15_⟩), eT, eM⟩ := hP
          · skip
            have eT := eT.symm; subst eT
            have er_rq15_ := er_rq15_.symm; subst er_rq15_
            have eM := eM.symm; subst eM
            have cq16_ : CshF f t xn nq6_ := cq16_
            refine jif_eq (tgt := 38) hx hb dX10_payer_33 (by decide) (fun cq18_ => absurd cq18_ (by decide)) (fun cq18_ => ?_)
            refine lv_iload_n hx hb dX10_payer_36 rfl (lv_at hl 0 rfl) ?_
            exact ret_i hC hr hlk hK hH (⟨Or.inr (⟨⟨by omega, by omega, by rw [show (yq4_.toInt).toNat = nq6_ from by omega]; assumption, by rw [show (yq4_.toInt).toNat = nq6_ from by omega]; assumption⟩, ⟨by omega, by omega⟩⟩), rfl, rfl⟩) (Nat.le_of_ble_eq_true rfl) (Nat.le_of_ble_eq_true rfl) dX10_payer_37
          · skip
            have eT := eT.symm; subst eT
            have er_rq15_ := er_rq15_.symm; subst er_rq15_
            have eM := eM.symm; subst eM
            have cq17_ : ¬ CshF f t xn nq6_ := cq17_
            refine jif_eq (tgt := 38) hx hb dX10_payer_33 (by decide) (fun cq19_ => ?_) (fun cq19_ => absurd cq19_ (by decide))
            obtain ⟨zq20_, e_zq20_⟩ : ∃ y : Int32, y = yq4_ + (-1) := ⟨_, rfl⟩
            refine lv_iinc (v := zq20_) (lv' := [(3, .int zq20_), (0, .ref h), (1, .int bb), (2, .int x)]) hx hb dX10_payer_38 hl (k := 0) rfl (by rw [e_zq20_]; rfl) (by decide) rfl (fun ls hl => ?_)
            have h_zq20_ : zq20_.toInt = yq4_.toInt + -1 := by rw [e_zq20_, iAdd (by have : (-1 : Int32).toInt = -1 := rfl; omega) (by have : (-1 : Int32).toInt = -1 := rfl; omega)]; rfl
            refine lv_goto (tgt := 12) hx hb dX10_payer_41 (by decide) ?_
            exact ih zq20_ _ _ ls (by have := iRg zq20_; omega) (by have := iRg zq20_; omega) (by have := iRg zq20_; omega) (by have := iRg zq20_; omega) hc_h hc_al hH (lv_sub hl [0, 1, 2, 3] rfl)
        · skip
          have eT := eT.symm; subst eT
          have eM := eM.symm; subst eM
          have cq11_ : ¬ Lia f t xn nq6_ := cq11_
          refine jif_ne (tgt := 38) hx hb dX10_payer_23 (by decide) (fun cq21_ => ?_) (fun cq21_ => absurd cq21_ (by have := iRg rq9_; have : (0 : Int32).toInt = 0 := rfl; omega))
          have cq21_ : rq9_.toInt ≠ 0 := cq21_
          obtain ⟨zq22_, e_zq22_⟩ : ∃ y : Int32, y = yq4_ + (-1) := ⟨_, rfl⟩
          refine lv_iinc (v := zq22_) (lv' := [(3, .int zq22_), (0, .ref h), (1, .int bb), (2, .int x)]) hx hb dX10_payer_38 hl (k := 0) rfl (by rw [e_zq22_]; rfl) (by decide) rfl (fun ls hl => ?_)
          have h_zq22_ : zq22_.toInt = yq4_.toInt + -1 := by rw [e_zq22_, iAdd (by have : (-1 : Int32).toInt = -1 := rfl; omega) (by have : (-1 : Int32).toInt = -1 := rfl; omega)]; rfl
          refine lv_goto (tgt := 12) hx hb dX10_payer_41 (by decide) ?_
          exact ih zq22_ _ _ ls (by have := iRg zq22_; omega) (by have := iRg zq22_; omega) (by have := iRg zq22_; omega) (by have := iRg zq22_; omega) hc_h hc_al hH (lv_sub hl [0, 1, 2, 3] rfl)
  exact loop (Int.toNat (zq3_.toInt + 2)) zq3_ _ _ ls (by have := iRg zq3_; omega) (by have := iRg zq3_; omega) (by have := iRg zq3_; omega) (by have := iRg zq3_; omega) hc_h hc_al hH hl
set_option maxHeartbeats 4000000 in
set_option maxRecDepth 100000 in
theorem c_X10_liableBits {l : Launch} {D : va_G} {kA : Nat → ClassId} {M : mM} {T : mT} {sz : Nat} {h al mt ii pa li : Nat} {ta fpm sm nx tk pl ln wr : Int32} {va : Int64} {f : Nat → Int32} {x : Int32} {xn t b : Nat} {bb : Int32} (hc_h : M h = some (.inr (8, [.ref al, .ref mt, .ref ii, .int ta, .int fpm, .ref pa, .int sm, .int nx, .int tk, .int pl, .int ln, .long va, .int wr, .ref li]))) (hn_h : T h = none) (hc_al : M al = some (.inl (kA 0, 7506, .inl f))) (hn_al : T al = none) (ht_mt : T mt = some 11) (ht_pa : T pa = some 13) (ht_li : T li = some 14) (hR_f : Rng f) (hxt : t < 2) (hxb : b < 4) (hxn : xn = 1140 * t + 20 + 280 * b) (hxx : x.toInt = (xn : Int)) (hbb : bb.toInt = 1140 * (t : Int)) : mCi l yX10_liableBits cX10_liableBits 5 (some .int) 5 0 0 D kA M T sz [.ref h, .int bb, .int x] (fun r u => (True) ∧ u.2 = T ∧ u.1 = M) := by
  unfold mCi
  refine start_W (by decide) (Nat.le_of_ble_eq_true rfl) ?_
  intro p e s m below meth c ls hC hr hlk hnm hK hH hsz hl
  have hx := hC.1
  have hb := hC.2.1
  have hl : lv_has ls 5 [(0, .ref h), (1, .int bb), (2, .int x)] := hl
  have n_h_al : h ≠ al := neM hc_h hc_al (by simp)
  have n_al_h : al ≠ h := neM hc_al hc_h (by simp)
  have hK_f : Ke f f := Ke.rf
  refine lv_iconst (v := 0) hx hb dX10_liableBits_0 (by decide) ?_
  refine lv_istore_n (lv' := [(3, .int 0), (0, .ref h), (1, .int bb), (2, .int x)]) hx hb dX10_liableBits_1 rfl hl (by decide) rfl (fun ls hl => ?_)
  refine lv_iconst (v := 0) hx hb dX10_liableBits_2 (by decide) ?_
  refine lv_istore (lv' := [(4, .int 0), (3, .int 0), (0, .ref h), (1, .int bb), (2, .int x)]) hx hb dX10_liableBits_3 hl (by decide) rfl (fun ls hl => ?_)
  have loop : ∀ (n : Nat) (yq1_ : Int32) (yq2_ : Int32) (Hq_ : Heap) (lcq_ : List Loc) (ls : Array Slot), 15 - yq2_.toInt ≤ (n : Int) → (0 : Int) ≤ yq2_.toInt → yq2_.toInt ≤ 14 → M h = some (.inr (8, [.ref al, .ref mt, .ref ii, .int ta, .int fpm, .ref pa, .int sm, .int nx, .int tk, .int pl, .int ln, .long va, .int wr, .ref li])) → M al = some (.inl (kA 0, 7506, .inl f)) → mS D kA M T (mA M T sz) s.heap Hq_ lcq_ → lv_has ls 5 [(4, .int yq2_), (3, .int yq1_), (0, .ref h), (1, .int bb), (2, .int x)] → W p l e (rmL 5 0 0) s m ([.ref h, .int bb, .int x] : List Value).toArray below meth c Hq_ lcq_ 0 0 (MQ below (va_Qi (fun r u => (True) ∧ u.2 = T ∧ u.1 = M) (mB D kA M T sz) (mA M T sz)) ([.ref h, .int bb, .int x] : List Value).toArray s 0 0 (mA M T sz)) (F0 m 5 ls []) := by
    intro n
    induction n with
    | zero =>
      intro yq1_ yq2_ Hq_ lcq_ ls hme l_yq2_ g_yq2_ hc_h hc_al hH hl
      exfalso; omega
    | succ n ih =>
      intro yq1_ yq2_ Hq_ lcq_ ls hme l_yq2_ g_yq2_ hc_h hc_al hH hl
      refine lv_iload hx hb dX10_liableBits_5 (lv_at hl 0 rfl) ?_
      refine lv_iconst (v := 1) hx hb dX10_liableBits_7 (by decide) ?_
      refine lv_aload_n hx hb dX10_liableBits_8 rfl (lv_at hl 2 rfl) ?_
      refine xg hC hK hH flX10_7 hc_h rfl dX10_liableBits_9 ?_
      refine lv_iload_n hx hb dX10_liableBits_12 rfl (lv_at hl 4 rfl) ?_
      refine lv_bipush (v := 8) hx hb dX10_liableBits_13 (by decide) ?_
      refine lv_iadd hx hb dX10_liableBits_15 ?_
      refine lv_topi (fun zq3_ e_zq3_ => ?_)
      have h_zq3_ : zq3_.toInt = x.toInt + 8 := by rw [e_zq3_, iAdd (by have := iRg x; have : (8 : Int32).toInt = 8 := rfl; omega) (by have := iRg x; have : (8 : Int32).toInt = 8 := rfl; omega)]; rfl
      refine xild hC hK hH hc_al (iIn (by omega) (by omega)) dX10_liableBits_16 ?_
      refine lv_topi (fun xq4_ e_xq4_ => ?_)
      have k_xq4_ : xq4_ = f (xn + 8) := by rw [e_xq4_, clE (n := xn + 8) (by omega)]
      have kt_xq4_ : xq4_.toInt = (f (xn + 8)).toInt := by rw [k_xq4_]
      have rr_xq4_ : (0 : Int) ≤ (f (xn + 8)).toInt ∧ (f (xn + 8)).toInt ≤ 12 := hR_f.rO 8 (t := t) (b := b) (xn := xn) (by omega) (by omega) (by omega) (by decide) rfl
      have l_xq4_ : (0 : Int) ≤ xq4_.toInt := by rw [kt_xq4_, show xn + 8 = xn + 8 from by omega]; exact rr_xq4_.1
      have g_xq4_ : xq4_.toInt ≤ 12 := by rw [kt_xq4_, show xn + 8 = xn + 8 from by omega]; exact rr_xq4_.2
      refine lv_iadd hx hb dX10_liableBits_17 ?_
      refine lv_topi (fun zq5_ e_zq5_ => ?_)
      have h_zq5_ : zq5_.toInt = 1 + xq4_.toInt := by rw [e_zq5_, iAdd (by have : (1 : Int32).toInt = 1 := rfl; have := iRg xq4_; omega) (by have : (1 : Int32).toInt = 1 := rfl; have := iRg xq4_; omega)]; rfl
      refine jic_gt (tgt := 49) hx hb dX10_liableBits_18 (by decide) (fun cq6_ => ?_) (fun cq6_ => ?_)
      · skip
        have cq6_ : zq5_.toInt < yq2_.toInt := cq6_
        refine lv_iload_n hx hb dX10_liableBits_49 rfl (lv_at hl 1 rfl) ?_
        exact ret_i hC hr hlk hK hH (⟨trivial, rfl, rfl⟩) (Nat.le_of_ble_eq_true rfl) (Nat.le_of_ble_eq_true rfl) dX10_liableBits_50
      · skip
        have cq6_ : yq2_.toInt ≤ zq5_.toInt := cq6_
        refine lv_iload_n hx hb dX10_liableBits_21 rfl (lv_at hl 1 rfl) ?_
        refine lv_aload_n hx hb dX10_liableBits_22 rfl (lv_at hl 2 rfl) ?_
        refine lv_iload_n hx hb dX10_liableBits_23 rfl (lv_at hl 3 rfl) ?_
        refine lv_iload_n hx hb dX10_liableBits_24 rfl (lv_at hl 4 rfl) ?_
        refine lv_iload hx hb dX10_liableBits_25 (lv_at hl 0 rfl) ?_
        obtain ⟨nq7_, hn_nq7_⟩ : ∃ n : Nat, yq2_.toInt = (n : Int) := ⟨(yq2_.toInt).toNat, by omega⟩
        refine goI hK hH (runV (As := [.int bb, .int x, .int yq2_]) (rest := [.int yq1_]) hC hK hH (c_X10_reason hc_h hn_h hc_al hn_al ht_mt ht_pa ht_li (by exact hR_f) (by omega) (by omega) (by omega) (by omega) (by omega) (by omega) (by omega)) mlX10_81 (rcvM hK hH hc_h rfl) ⟨⟨Nat.le_of_ble_eq_true rfl, Nat.le_of_ble_eq_true rfl⟩, Nat.le_of_ble_eq_true rfl, Nat.le_of_ble_eq_true rfl⟩ rfl hl.1 rfl (Nat.le_of_ble_eq_true rfl) dX10_liableBits_27) (fun rq10_ Mq8_ Tq9_ Hq_ lcq_ hP hz hH => ?_)
        try dsimp only at hP
        obtain ⟨(⟨cq11_, er_rq10_⟩ | ⟨cq12_, ⟨l_rq10_, g_rq10_⟩⟩), eT, eM⟩ := hP
        · skip
          have eT := eT.symm; subst eT
          have er_rq10_ := er_rq10_.symm; subst er_rq10_
          have eM := eM.symm; subst eM
          have cq11_ : Lia f t xn nq7_ := cq11_
          refine jif_ne (tgt := 40) hx hb dX10_liableBits_30 (by decide) (fun cq13_ => absurd cq13_ (by decide)) (fun cq13_ => ?_)
          refine lv_iconst (v := 1) hx hb dX10_liableBits_33 (by decide) ?_
          refine lv_iload hx hb dX10_liableBits_34 (lv_at hl 0 rfl) ?_
          refine lv_ishl hx hb dX10_liableBits_36 ?_
          refine lv_topi (fun zq14_ e_zq14_ => ?_)
          refine lv_goto (tgt := 41) hx hb dX10_liableBits_37 (by decide) ?_
          refine lv_ior hx hb dX10_liableBits_41 ?_
          refine lv_topi (fun zq15_ e_zq15_ => ?_)
          refine lv_istore_n (lv' := [(3, .int zq15_), (4, .int yq2_), (0, .ref h), (1, .int bb), (2, .int x)]) hx hb dX10_liableBits_42 rfl hl (by decide) rfl (fun ls hl => ?_)
          obtain ⟨zq16_, e_zq16_⟩ : ∃ y : Int32, y = yq2_ + 1 := ⟨_, rfl⟩
          refine lv_iinc (v := zq16_) (lv' := [(4, .int zq16_), (3, .int zq15_), (0, .ref h), (1, .int bb), (2, .int x)]) hx hb dX10_liableBits_43 hl (k := 1) rfl (by rw [e_zq16_]; rfl) (by decide) rfl (fun ls hl => ?_)
          have h_zq16_ : zq16_.toInt = yq2_.toInt + 1 := by rw [e_zq16_, iAdd (by have : (1 : Int32).toInt = 1 := rfl; omega) (by have : (1 : Int32).toInt = 1 := rfl; omega)]; rfl
          refine lv_goto (tgt := 5) hx hb dX10_liableBits_46 (by decide) ?_
          exact ih zq15_ zq16_ _ _ ls (by have := iRg zq15_; have := iRg zq16_; omega) (by have := iRg zq15_; have := iRg zq16_; omega) (by have := iRg zq15_; have := iRg zq16_; omega) hc_h hc_al hH (lv_sub hl [0, 1, 2, 3, 4] rfl)
        · skip
          have eT := eT.symm; subst eT
          have eM := eM.symm; subst eM
          have cq12_ : ¬ Lia f t xn nq7_ := cq12_
          refine jif_ne (tgt := 40) hx hb dX10_liableBits_30 (by decide) (fun cq17_ => ?_) (fun cq17_ => absurd cq17_ (by have := iRg rq10_; have : (0 : Int32).toInt = 0 := rfl; omega))
          have cq17_ : rq10_.toInt ≠ 0 := cq17_
          refine lv_iconst (v := 0) hx hb dX10_liableBits_40 (by decide) ?_
          refine lv_ior hx hb dX10_liableBits_41 ?_
          refine lv_topi (fun zq18_ e_zq18_ => ?_)
          refine lv_istore_n (lv' := [(3, .int zq18_), (4, .int yq2_), (0, .ref h), (1, .int bb), (2, .int x)]) hx hb dX10_liableBits_42 rfl hl (by decide) rfl (fun ls hl => ?_)
          obtain ⟨zq19_, e_zq19_⟩ : ∃ y : Int32, y = yq2_ + 1 := ⟨_, rfl⟩
          refine lv_iinc (v := zq19_) (lv' := [(4, .int zq19_), (3, .int zq18_), (0, .ref h), (1, .int bb), (2, .int x)]) hx hb dX10_liableBits_43 hl (k := 1) rfl (by rw [e_zq19_]; rfl) (by decide) rfl (fun ls hl => ?_)
          have h_zq19_ : zq19_.toInt = yq2_.toInt + 1 := by rw [e_zq19_, iAdd (by have : (1 : Int32).toInt = 1 := rfl; omega) (by have : (1 : Int32).toInt = 1 := rfl; omega)]; rfl
          refine lv_goto (tgt := 5) hx hb dX10_liableBits_46 (by decide) ?_
          exact ih zq18_ zq19_ _ _ ls (by have := iRg zq18_; have := iRg zq19_; omega) (by have := iRg zq18_; have := iRg zq19_; omega) (by have := iRg zq18_; have := iRg zq19_; omega) hc_h hc_al hH (lv_sub hl [0, 1, 2, 3, 4] rfl)
  exact loop (Int.toNat (15 - 0)) 0 0 _ _ ls (by have : (0 : Int32).toInt = 0 := rfl; have : (0 : Int32).toInt = 0 := rfl; omega) (by have : (0 : Int32).toInt = 0 := rfl; have : (0 : Int32).toInt = 0 := rfl; omega) (by have : (0 : Int32).toInt = 0 := rfl; have : (0 : Int32).toInt = 0 := rfl; omega) hc_h hc_al hH hl
set_option maxHeartbeats 4000000 in
set_option maxRecDepth 100000 in
theorem c_X10_cause {l : Launch} {D : va_G} {kA : Nat → ClassId} {M : mM} {T : mT} {sz : Nat} {h al mt ii pa li : Nat} {ta fpm sm nx tk pl ln wr : Int32} {va : Int64} {f : Nat → Int32} {x : Int32} {xn t b : Nat} {pt re : Int32} {ptn : Nat} (hc_h : M h = some (.inr (8, [.ref al, .ref mt, .ref ii, .int ta, .int fpm, .ref pa, .int sm, .int nx, .int tk, .int pl, .int ln, .long va, .int wr, .ref li]))) (hn_h : T h = none) (hc_al : M al = some (.inl (kA 0, 7506, .inl f))) (hn_al : T al = none) (ht_mt : T mt = some 11) (ht_pa : T pa = some 13) (ht_li : T li = some 14) (hR_f : Rng f) (hxt : t < 2) (hxb : b < 4) (hxn : xn = 1140 * t + 20 + 280 * b) (hxx : x.toInt = (xn : Int)) (hptn : pt.toInt = (ptn : Int)) (hp13 : ptn ≤ 13) (ht0 : t = 0) : mCi l yX10_cause cX10_cause 5 (some .int) 5 0 0 D kA M T sz [.ref h, .int x, .int pt, .int re] (fun r u => (True) ∧ u.2 = T ∧ u.1 = M) := by
  unfold mCi
  refine start_W (by decide) (Nat.le_of_ble_eq_true rfl) ?_
  intro p e s m below meth c ls hC hr hlk hnm hK hH hsz hl
  have hx := hC.1
  have hb := hC.2.1
  have hl : lv_has ls 5 [(0, .ref h), (1, .int x), (2, .int pt), (3, .int re)] := hl
  have n_h_al : h ≠ al := neM hc_h hc_al (by simp)
  have n_al_h : al ≠ h := neM hc_al hc_h (by simp)
  have hK_f : Ke f f := Ke.rf
  refine lv_iload_n hx hb dX10_cause_0 rfl (lv_at hl 1 rfl) ?_
  refine lv_iload_n hx hb dX10_cause_1 rfl (lv_at hl 2 rfl) ?_
  refine goI hK hH (runS (As := [.int x, .int pt]) (rest := []) hC hK hH (c_X10_partyAt (by omega) (by omega)) mlX10_56 ⟨⟨Nat.le_of_ble_eq_true rfl, Nat.le_of_ble_eq_true rfl⟩, Nat.le_of_ble_eq_true rfl, Nat.le_of_ble_eq_true rfl⟩ rfl hl.1 rfl (Nat.le_of_ble_eq_true rfl) dX10_cause_2) (fun rq3_ Mq1_ Tq2_ Hq_ lcq_ hP hz hH => ?_)
  try dsimp only at hP
  obtain ⟨(⟨cq4_, ⟨l_rq3_, g_rq3_⟩⟩), eT, eM⟩ := hP
  have eT := eT.symm; subst eT
  have eM := eM.symm; subst eM
  have cq4_ : rq3_.toInt = x.toInt + 184 + 6 * pt.toInt := cq4_
  have hx_rq3_ : rq3_.toInt = ((xn + 184 + 6 * ptn : Nat) : Int) := by omega
  refine lv_istore (lv' := [(4, .int rq3_), (0, .ref h), (1, .int x), (2, .int pt), (3, .int re)]) hx hb dX10_cause_5 hl (by decide) rfl (fun ls hl => ?_)
  refine lv_iload_n hx hb dX10_cause_7 rfl (lv_at hl 4 rfl) ?_
  refine lv_iconst (v := 1) hx hb dX10_cause_8 (by decide) ?_
  refine jic_ne (tgt := 33) hx hb dX10_cause_9 (by decide) (fun cq5_ => ?_) (fun cq5_ => ?_)
  · skip
    have cq5_ : re.toInt ≠ 1 := cq5_
    refine lv_iload_n hx hb dX10_cause_33 rfl (lv_at hl 4 rfl) ?_
    refine lv_iconst (v := 3) hx hb dX10_cause_34 (by decide) ?_
    refine jic_ne (tgt := 55) hx hb dX10_cause_35 (by decide) (fun cq6_ => ?_) (fun cq6_ => ?_)
    · skip
      have cq6_ : re.toInt ≠ 3 := cq6_
      refine lv_iload_n hx hb dX10_cause_55 rfl (lv_at hl 4 rfl) ?_
      refine lv_iconst (v := 5) hx hb dX10_cause_56 (by decide) ?_
      refine jic_ne (tgt := 70) hx hb dX10_cause_57 (by decide) (fun cq7_ => ?_) (fun cq7_ => ?_)
      · skip
        have cq7_ : re.toInt ≠ 5 := cq7_
        refine lv_iload_n hx hb dX10_cause_70 rfl (lv_at hl 4 rfl) ?_
        refine lv_bipush (v := 8) hx hb dX10_cause_71 (by decide) ?_
        refine jic_ne (tgt := 98) hx hb dX10_cause_73 (by decide) (fun cq8_ => ?_) (fun cq8_ => ?_)
        · skip
          have cq8_ : re.toInt ≠ 8 := cq8_
          refine lv_iload_n hx hb dX10_cause_98 rfl (lv_at hl 4 rfl) ?_
          refine lv_bipush (v := 9) hx hb dX10_cause_99 (by decide) ?_
          refine jic_ne (tgt := 129) hx hb dX10_cause_101 (by decide) (fun cq9_ => ?_) (fun cq9_ => ?_)
          · skip
            have cq9_ : re.toInt ≠ 9 := cq9_
            refine lv_iconst (v := 0) hx hb dX10_cause_129 (by decide) ?_
            exact ret_i hC hr hlk hK hH (⟨trivial, rfl, rfl⟩) (Nat.le_of_ble_eq_true rfl) (Nat.le_of_ble_eq_true rfl) dX10_cause_130
          · skip
            have cq9_ : re.toInt = 9 := cq9_
            refine lv_aload_n hx hb dX10_cause_104 rfl (lv_at hl 1 rfl) ?_
            refine xg hC hK hH flX10_7 hc_h rfl dX10_cause_105 ?_
            refine lv_iload hx hb dX10_cause_108 (lv_at hl 0 rfl) ?_
            refine lv_iconst (v := 3) hx hb dX10_cause_110 (by decide) ?_
            refine lv_iadd hx hb dX10_cause_111 ?_
            refine lv_topi (fun zq10_ e_zq10_ => ?_)
            have h_zq10_ : zq10_.toInt = rq3_.toInt + 3 := by rw [e_zq10_, iAdd (by have := iRg rq3_; have : (3 : Int32).toInt = 3 := rfl; omega) (by have := iRg rq3_; have : (3 : Int32).toInt = 3 := rfl; omega)]; rfl
            refine xild hC hK hH hc_al (iIn (by omega) (by omega)) dX10_cause_112 ?_
            refine lv_topi (fun xq11_ e_xq11_ => ?_)
            have k_xq11_ : xq11_ = f (xn + 184 + 6 * ptn + 3) := by rw [e_xq11_, clE (n := xn + 184 + 6 * ptn + 3) (by omega)]
            have kt_xq11_ : xq11_.toInt = (f (xn + 184 + 6 * ptn + 3)).toInt := by rw [k_xq11_]
            refine lv_iconst (v := 1) hx hb dX10_cause_113 (by decide) ?_
            refine lv_iand hx hb dX10_cause_114 ?_
            refine lv_topi (fun zq12_ e_zq12_ => ?_)
            have kt_zq12_ : zq12_.toInt = (f (xn + 184 + 6 * ptn + 3) &&& 1).toInt := by rw [e_zq12_, k_xq11_]
            refine lv_iconst (v := 1) hx hb dX10_cause_115 (by decide) ?_
            refine jic_ne (tgt := 124) hx hb dX10_cause_116 (by decide) (fun cq13_ => ?_) (fun cq13_ => ?_)
            · skip
              have cq13_ : zq12_.toInt ≠ 1 := cq13_
              refine lv_bipush (v := 20) hx hb dX10_cause_124 (by decide) ?_
              refine lv_goto (tgt := 130) hx hb dX10_cause_126 (by decide) ?_
              exact ret_i hC hr hlk hK hH (⟨trivial, rfl, rfl⟩) (Nat.le_of_ble_eq_true rfl) (Nat.le_of_ble_eq_true rfl) dX10_cause_130
            · skip
              have cq13_ : zq12_.toInt = 1 := cq13_
              refine lv_bipush (v := 19) hx hb dX10_cause_119 (by decide) ?_
              refine lv_goto (tgt := 130) hx hb dX10_cause_121 (by decide) ?_
              exact ret_i hC hr hlk hK hH (⟨trivial, rfl, rfl⟩) (Nat.le_of_ble_eq_true rfl) (Nat.le_of_ble_eq_true rfl) dX10_cause_130
        · skip
          have cq8_ : re.toInt = 8 := cq8_
          refine lv_aload_n hx hb dX10_cause_76 rfl (lv_at hl 1 rfl) ?_
          refine lv_iconst (v := 0) hx hb dX10_cause_77 (by decide) ?_
          refine lv_iload_n hx hb dX10_cause_78 rfl (lv_at hl 2 rfl) ?_
          refine goI hK hH (runV (As := [.int 0, .int x]) (rest := []) hC hK hH (c_X10_reachOf hc_h hn_h hc_al hn_al ht_mt ht_pa ht_li (by exact hR_f) (by omega) (by omega) (by omega) (by omega) (by have : (0 : Int32).toInt = 0 := rfl; omega)) mlX10_189 (rcvM hK hH hc_h rfl) ⟨⟨Nat.le_of_ble_eq_true rfl, Nat.le_of_ble_eq_true rfl⟩, Nat.le_of_ble_eq_true rfl, Nat.le_of_ble_eq_true rfl⟩ rfl hl.1 rfl (Nat.le_of_ble_eq_true rfl) dX10_cause_79) (fun rq16_ Mq14_ Tq15_ Hq_ lcq_ hP hz hH => ?_)
          try dsimp only at hP
          obtain ⟨(-), eT, eM⟩ := hP
          have eT := eT.symm; subst eT
          have eM := eM.symm; subst eM
          refine lv_iload_n hx hb dX10_cause_82 rfl (lv_at hl 3 rfl) ?_
          refine lv_ishr hx hb dX10_cause_83 ?_
          refine lv_topi (fun zq17_ e_zq17_ => ?_)
          refine lv_iconst (v := 1) hx hb dX10_cause_84 (by decide) ?_
          refine lv_iand hx hb dX10_cause_85 ?_
          refine lv_topi (fun zq18_ e_zq18_ => ?_)
          refine lv_iconst (v := 1) hx hb dX10_cause_86 (by decide) ?_
          refine jic_ne (tgt := 95) hx hb dX10_cause_87 (by decide) (fun cq19_ => ?_) (fun cq19_ => ?_)
          · skip
            have cq19_ : zq18_.toInt ≠ 1 := cq19_
            refine lv_bipush (v := 18) hx hb dX10_cause_95 (by decide) ?_
            exact ret_i hC hr hlk hK hH (⟨trivial, rfl, rfl⟩) (Nat.le_of_ble_eq_true rfl) (Nat.le_of_ble_eq_true rfl) dX10_cause_97
          · skip
            have cq19_ : zq18_.toInt = 1 := cq19_
            refine lv_bipush (v := 17) hx hb dX10_cause_90 (by decide) ?_
            refine lv_goto (tgt := 97) hx hb dX10_cause_92 (by decide) ?_
            exact ret_i hC hr hlk hK hH (⟨trivial, rfl, rfl⟩) (Nat.le_of_ble_eq_true rfl) (Nat.le_of_ble_eq_true rfl) dX10_cause_97
      · skip
        have cq7_ : re.toInt = 5 := cq7_
        refine lv_aload_n hx hb dX10_cause_60 rfl (lv_at hl 1 rfl) ?_
        refine xg hC hK hH flX10_7 hc_h rfl dX10_cause_61 ?_
        refine lv_iload hx hb dX10_cause_64 (lv_at hl 0 rfl) ?_
        refine lv_iconst (v := 1) hx hb dX10_cause_66 (by decide) ?_
        refine lv_iadd hx hb dX10_cause_67 ?_
        refine lv_topi (fun zq20_ e_zq20_ => ?_)
        have h_zq20_ : zq20_.toInt = rq3_.toInt + 1 := by rw [e_zq20_, iAdd (by have := iRg rq3_; have : (1 : Int32).toInt = 1 := rfl; omega) (by have := iRg rq3_; have : (1 : Int32).toInt = 1 := rfl; omega)]; rfl
        refine xild hC hK hH hc_al (iIn (by omega) (by omega)) dX10_cause_68 ?_
        refine lv_topi (fun xq21_ e_xq21_ => ?_)
        have k_xq21_ : xq21_ = f (xn + 184 + 6 * ptn + 1) := by rw [e_xq21_, clE (n := xn + 184 + 6 * ptn + 1) (by omega)]
        have kt_xq21_ : xq21_.toInt = (f (xn + 184 + 6 * ptn + 1)).toInt := by rw [k_xq21_]
        exact ret_i hC hr hlk hK hH (⟨trivial, rfl, rfl⟩) (Nat.le_of_ble_eq_true rfl) (Nat.le_of_ble_eq_true rfl) dX10_cause_69
    · skip
      have cq6_ : re.toInt = 3 := cq6_
      refine lv_aload_n hx hb dX10_cause_38 rfl (lv_at hl 1 rfl) ?_
      refine lv_iload_n hx hb dX10_cause_39 rfl (lv_at hl 2 rfl) ?_
      refine lv_iload_n hx hb dX10_cause_40 rfl (lv_at hl 3 rfl) ?_
      refine goI hK hH (runV (As := [.int x, .int pt]) (rest := []) hC hK hH (c_X10_who hc_h hn_h hc_al hn_al ht_mt ht_pa ht_li (by exact hR_f) (by omega) (by omega) (by omega) (by omega) (by omega) (by omega)) mlX10_41 (rcvM hK hH hc_h rfl) ⟨⟨Nat.le_of_ble_eq_true rfl, Nat.le_of_ble_eq_true rfl⟩, Nat.le_of_ble_eq_true rfl, Nat.le_of_ble_eq_true rfl⟩ rfl hl.1 rfl (Nat.le_of_ble_eq_true rfl) dX10_cause_41) (fun rq24_ Mq22_ Tq23_ Hq_ lcq_ hP hz hH => ?_)
      try dsimp only at hP
      obtain ⟨(⟨cq25_, ⟨l_rq24_, g_rq24_⟩⟩), eT, eM⟩ := hP
      have eT := eT.symm; subst eT
      have eM := eM.symm; subst eM
      have cq25_ : rq24_.toInt = whoI f xn ptn := cq25_
      refine lv_iconst (v := -1) hx hb dX10_cause_44 (by decide) ?_
      refine jic_ne (tgt := 52) hx hb dX10_cause_45 (by decide) (fun cq26_ => ?_) (fun cq26_ => ?_)
      · skip
        have cq26_ : rq24_.toInt ≠ (-1) := cq26_
        refine lv_bipush (v := 12) hx hb dX10_cause_52 (by decide) ?_
        exact ret_i hC hr hlk hK hH (⟨trivial, rfl, rfl⟩) (Nat.le_of_ble_eq_true rfl) (Nat.le_of_ble_eq_true rfl) dX10_cause_54
      · skip
        have cq26_ : rq24_.toInt = (-1) := cq26_
        refine lv_iconst (v := 0) hx hb dX10_cause_48 (by decide) ?_
        refine lv_goto (tgt := 54) hx hb dX10_cause_49 (by decide) ?_
        exact ret_i hC hr hlk hK hH (⟨trivial, rfl, rfl⟩) (Nat.le_of_ble_eq_true rfl) (Nat.le_of_ble_eq_true rfl) dX10_cause_54
  · skip
    have cq5_ : re.toInt = 1 := cq5_
    refine lv_aload_n hx hb dX10_cause_12 rfl (lv_at hl 1 rfl) ?_
    refine xg hC hK hH flX10_7 hc_h rfl dX10_cause_13 ?_
    refine lv_iload_n hx hb dX10_cause_16 rfl (lv_at hl 2 rfl) ?_
    refine lv_bipush (v := 16) hx hb dX10_cause_17 (by decide) ?_
    refine lv_iadd hx hb dX10_cause_19 ?_
    refine lv_topi (fun zq27_ e_zq27_ => ?_)
    have h_zq27_ : zq27_.toInt = x.toInt + 16 := by rw [e_zq27_, iAdd (by have := iRg x; have : (16 : Int32).toInt = 16 := rfl; omega) (by have := iRg x; have : (16 : Int32).toInt = 16 := rfl; omega)]; rfl
    refine xild hC hK hH hc_al (iIn (by omega) (by omega)) dX10_cause_20 ?_
    refine lv_topi (fun xq28_ e_xq28_ => ?_)
    have k_xq28_ : xq28_ = f (xn + 16) := by rw [e_xq28_, clE (n := xn + 16) (by omega)]
    have kt_xq28_ : xq28_.toInt = (f (xn + 16)).toInt := by rw [k_xq28_]
    refine lv_iconst (v := -1) hx hb dX10_cause_21 (by decide) ?_
    refine jic_eq (tgt := 30) hx hb dX10_cause_22 (by decide) (fun cq29_ => ?_) (fun cq29_ => ?_)
    · skip
      have cq29_ : xq28_.toInt = (-1) := cq29_
      refine lv_bipush (v := 14) hx hb dX10_cause_30 (by decide) ?_
      exact ret_i hC hr hlk hK hH (⟨trivial, rfl, rfl⟩) (Nat.le_of_ble_eq_true rfl) (Nat.le_of_ble_eq_true rfl) dX10_cause_32
    · skip
      have cq29_ : xq28_.toInt ≠ (-1) := cq29_
      refine lv_bipush (v := 11) hx hb dX10_cause_25 (by decide) ?_
      refine lv_goto (tgt := 32) hx hb dX10_cause_27 (by decide) ?_
      exact ret_i hC hr hlk hK hH (⟨trivial, rfl, rfl⟩) (Nat.le_of_ble_eq_true rfl) (Nat.le_of_ble_eq_true rfl) dX10_cause_32
