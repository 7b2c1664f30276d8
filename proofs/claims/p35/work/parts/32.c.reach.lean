set_option maxHeartbeats 4000000 in
set_option maxRecDepth 100000 in
theorem c_X10_reachOf {l : Launch} {D : va_G} {kA : Nat → ClassId} {M : mM} {T : mT} {sz : Nat} {h al mt ii pa li : Nat} {ta fpm sm nx tk pl ln wr : Int32} {va : Int64} {f : Nat → Int32} {x : Int32} {xn t b : Nat} {bb : Int32} (hc_h : M h = some (.inr (8, [.ref al, .ref mt, .ref ii, .int ta, .int fpm, .ref pa, .int sm, .int nx, .int tk, .int pl, .int ln, .long va, .int wr, .ref li]))) (hn_h : T h = none) (hc_al : M al = some (.inl (kA 0, 7506, .inl f))) (hn_al : T al = none) (ht_mt : T mt = some 11) (ht_pa : T pa = some 13) (ht_li : T li = some 14) (hR_f : Rng f) (hxt : t < 2) (hxb : b < 4) (hxn : xn = 1140 * t + 20 + 280 * b) (hxx : x.toInt = (xn : Int)) (hbb : bb.toInt = 1140 * (t : Int)) : mCi l yX10_reachOf cX10_reachOf 9 (some .int) 4 0 0 D kA M T sz [.ref h, .int bb, .int x] (fun r u => (True) ∧ u.2 = T ∧ u.1 = M) := by
  unfold mCi
  refine start_W (by decide) (Nat.le_of_ble_eq_true rfl) ?_
  intro p e s m below meth c ls hC hr hlk hnm hK hH hsz hl
  have hx := hC.1
  have hb := hC.2.1
  have hl : lv_has ls 9 [(0, .ref h), (1, .int bb), (2, .int x)] := hl
  have n_h_al : h ≠ al := neM hc_h hc_al (by simp)
  have n_al_h : al ≠ h := neM hc_al hc_h (by simp)
  have hK_f : Ke f f := Ke.rf
  refine lv_aload_n hx hb dX10_reachOf_0 rfl (lv_at hl 0 rfl) ?_
  refine xg hC hK hH flX10_7 hc_h rfl dX10_reachOf_1 ?_
  refine lv_iload_n hx hb dX10_reachOf_4 rfl (lv_at hl 2 rfl) ?_
  refine lv_bipush (v := 9) hx hb dX10_reachOf_5 (by decide) ?_
  refine lv_iadd hx hb dX10_reachOf_7 ?_
  refine lv_topi (fun zq1_ e_zq1_ => ?_)
  have h_zq1_ : zq1_.toInt = x.toInt + 9 := by rw [e_zq1_, iAdd (by have := iRg x; have : (9 : Int32).toInt = 9 := rfl; omega) (by have := iRg x; have : (9 : Int32).toInt = 9 := rfl; omega)]; rfl
  refine xild hC hK hH hc_al (iIn (by omega) (by omega)) dX10_reachOf_8 ?_
  refine lv_topi (fun xq2_ e_xq2_ => ?_)
  have k_xq2_ : xq2_ = f (xn + 9) := by rw [e_xq2_, clE (n := xn + 9) (by omega)]
  have kt_xq2_ : xq2_.toInt = (f (xn + 9)).toInt := by rw [k_xq2_]
  refine lv_iconst (v := -1) hx hb dX10_reachOf_9 (by decide) ?_
  refine jic_ne (tgt := 15) hx hb dX10_reachOf_10 (by decide) (fun cq3_ => ?_) (fun cq3_ => ?_)
  · skip
    have cq3_ : xq2_.toInt ≠ (-1) := cq3_
    refine lv_iconst (v := 0) hx hb dX10_reachOf_15 (by decide) ?_
    refine lv_istore_n (lv' := [(3, .int 0), (0, .ref h), (1, .int bb), (2, .int x)]) hx hb dX10_reachOf_16 rfl hl (by decide) rfl (fun ls hl => ?_)
    refine lv_aload_n hx hb dX10_reachOf_17 rfl (lv_at hl 1 rfl) ?_
    refine lv_iload_n hx hb dX10_reachOf_18 rfl (lv_at hl 3 rfl) ?_
    refine goI hK hH (runV (As := [.int x]) (rest := []) hC hK hH (c_X10_hasTitle hc_h hn_h hc_al hn_al ht_mt ht_pa ht_li (by exact hR_f) (by omega) (by omega) (by omega) (by omega)) mlX10_70 (rcvM hK hH hc_h rfl) ⟨⟨Nat.le_of_ble_eq_true rfl, Nat.le_of_ble_eq_true rfl⟩, Nat.le_of_ble_eq_true rfl, Nat.le_of_ble_eq_true rfl⟩ rfl hl.1 rfl (Nat.le_of_ble_eq_true rfl) dX10_reachOf_19) (fun rq6_ Mq4_ Tq5_ Hq_ lcq_ hP hz hH => ?_)
    try dsimp only at hP
    obtain ⟨(⟨cq7_, er_rq6_⟩ | ⟨cq8_, er_rq6_⟩), eT, eM⟩ := hP
    · skip
      have eT := eT.symm; subst eT
      have er_rq6_ := er_rq6_.symm; subst er_rq6_
      have eM := eM.symm; subst eM
      have cq7_ : titF f xn := cq7_
      refine jif_eq (tgt := 50) hx hb dX10_reachOf_22 (by decide) (fun cq9_ => absurd cq9_ (by decide)) (fun cq9_ => ?_)
      refine lv_aload_n hx hb dX10_reachOf_25 rfl (lv_at hl 1 rfl) ?_
      refine lv_iload_n hx hb dX10_reachOf_26 rfl (lv_at hl 2 rfl) ?_
      refine lv_aload_n hx hb dX10_reachOf_27 rfl (lv_at hl 1 rfl) ?_
      refine xg hC hK hH flX10_7 hc_h rfl dX10_reachOf_28 ?_
      refine lv_iload_n hx hb dX10_reachOf_31 rfl (lv_at hl 3 rfl) ?_
      refine lv_bipush (v := 9) hx hb dX10_reachOf_32 (by decide) ?_
      refine lv_iadd hx hb dX10_reachOf_34 ?_
      refine lv_cst (v := zq1_) e_zq1_.symm ?_
      refine xild hC hK hH hc_al (iIn (by omega) (by omega)) dX10_reachOf_35 ?_
      refine lv_topi (fun xq10_ e_xq10_ => ?_)
      have k_xq10_ : xq10_ = f (xn + 9) := by rw [e_xq10_, clE (n := xn + 9) (by omega)]
      have kt_xq10_ : xq10_.toInt = (f (xn + 9)).toInt := by rw [k_xq10_]
      refine goI hK hH (runV (As := [.int bb, .int xq10_]) (rest := []) hC hK hH (c_X10_isInTime hc_h hn_h hc_al hn_al ht_mt ht_pa ht_li (by exact hR_f) (by omega) (by omega)) mlX10_74 (rcvM hK hH hc_h rfl) ⟨⟨Nat.le_of_ble_eq_true rfl, Nat.le_of_ble_eq_true rfl⟩, Nat.le_of_ble_eq_true rfl, Nat.le_of_ble_eq_true rfl⟩ rfl hl.1 rfl (Nat.le_of_ble_eq_true rfl) dX10_reachOf_36) (fun rq13_ Mq11_ Tq12_ Hq_ lcq_ hP hz hH => ?_)
      try dsimp only at hP
      obtain ⟨(er_rq13_ | er_rq13_), eT, eM⟩ := hP
      · skip
        have eT := eT.symm; subst eT
        have er_rq13_ := er_rq13_.symm; subst er_rq13_
        have eM := eM.symm; subst eM
        refine jif_eq (tgt := 50) hx hb dX10_reachOf_39 (by decide) (fun cq14_ => absurd cq14_ (by decide)) (fun cq14_ => ?_)
        refine lv_aload_n hx hb dX10_reachOf_42 rfl (lv_at hl 1 rfl) ?_
        refine lv_iload_n hx hb dX10_reachOf_43 rfl (lv_at hl 3 rfl) ?_
        refine goI hK hH (runV (As := [.int x]) (rest := []) hC hK hH (c_X10_rank hc_h hn_h hc_al hn_al ht_mt ht_pa ht_li (by exact hR_f) (by omega) (by omega) (by omega) (by omega)) mlX10_77 (rcvM hK hH hc_h rfl) ⟨⟨Nat.le_of_ble_eq_true rfl, Nat.le_of_ble_eq_true rfl⟩, Nat.le_of_ble_eq_true rfl, Nat.le_of_ble_eq_true rfl⟩ rfl hl.1 rfl (Nat.le_of_ble_eq_true rfl) dX10_reachOf_44) (fun rq17_ Mq15_ Tq16_ Hq_ lcq_ hP hz hH => ?_)
        try dsimp only at hP
        obtain ⟨(⟨cq18_, ⟨l_rq17_, g_rq17_⟩⟩), eT, eM⟩ := hP
        have eT := eT.symm; subst eT
        have eM := eM.symm; subst eM
        have cq18_ : rq17_.toInt = (rankF f xn : Int) := cq18_
        refine lv_goto (tgt := 51) hx hb dX10_reachOf_47 (by decide) ?_
        refine lv_istore (lv' := [(4, .int rq17_), (3, .int 0), (0, .ref h), (1, .int bb), (2, .int x)]) hx hb dX10_reachOf_51 hl (by decide) rfl (fun ls hl => ?_)
        refine lv_iconst (v := 1) hx hb dX10_reachOf_53 (by decide) ?_
        refine lv_aload_n hx hb dX10_reachOf_54 rfl (lv_at hl 2 rfl) ?_
        refine xg hC hK hH flX10_7 hc_h rfl dX10_reachOf_55 ?_
        refine lv_iload_n hx hb dX10_reachOf_58 rfl (lv_at hl 4 rfl) ?_
        refine lv_bipush (v := 8) hx hb dX10_reachOf_59 (by decide) ?_
        refine lv_iadd hx hb dX10_reachOf_61 ?_
        refine lv_topi (fun zq19_ e_zq19_ => ?_)
        have h_zq19_ : zq19_.toInt = x.toInt + 8 := by rw [e_zq19_, iAdd (by have := iRg x; have : (8 : Int32).toInt = 8 := rfl; omega) (by have := iRg x; have : (8 : Int32).toInt = 8 := rfl; omega)]; rfl
        refine xild hC hK hH hc_al (iIn (by omega) (by omega)) dX10_reachOf_62 ?_
        refine lv_topi (fun xq20_ e_xq20_ => ?_)
        have k_xq20_ : xq20_ = f (xn + 8) := by rw [e_xq20_, clE (n := xn + 8) (by omega)]
        have kt_xq20_ : xq20_.toInt = (f (xn + 8)).toInt := by rw [k_xq20_]
        have rr_xq20_ : (0 : Int) ≤ (f (xn + 8)).toInt ∧ (f (xn + 8)).toInt ≤ 12 := hR_f.rO 8 (t := t) (b := b) (xn := xn) (by omega) (by omega) (by omega) (by decide) rfl
        have l_xq20_ : (0 : Int) ≤ xq20_.toInt := by rw [kt_xq20_, show xn + 8 = xn + 8 from by omega]; exact rr_xq20_.1
        have g_xq20_ : xq20_.toInt ≤ 12 := by rw [kt_xq20_, show xn + 8 = xn + 8 from by omega]; exact rr_xq20_.2
        refine lv_iadd hx hb dX10_reachOf_63 ?_
        refine lv_topi (fun zq21_ e_zq21_ => ?_)
        have h_zq21_ : zq21_.toInt = 1 + xq20_.toInt := by rw [e_zq21_, iAdd (by have : (1 : Int32).toInt = 1 := rfl; have := iRg xq20_; omega) (by have : (1 : Int32).toInt = 1 := rfl; have := iRg xq20_; omega)]; rfl
        refine lv_istore (lv' := [(5, .int zq21_), (4, .int rq17_), (3, .int 0), (0, .ref h), (1, .int bb), (2, .int x)]) hx hb dX10_reachOf_64 hl (by decide) rfl (fun ls hl => ?_)
        have loop : ∀ (n : Nat) (yq22_ : Int32) (yq23_ : Int32) (yq24_ : Int32) (Hq_ : Heap) (lcq_ : List Loc) (ls : Array Slot), yq24_.toInt + 1 ≤ (n : Int) → (0 : Int) ≤ yq23_.toInt → yq23_.toInt ≤ 14 → (0 : Int) ≤ yq24_.toInt → yq24_.toInt ≤ 13 → M h = some (.inr (8, [.ref al, .ref mt, .ref ii, .int ta, .int fpm, .ref pa, .int sm, .int nx, .int tk, .int pl, .int ln, .long va, .int wr, .ref li])) → M al = some (.inl (kA 0, 7506, .inl f)) → mS D kA M T (mA M T sz) s.heap Hq_ lcq_ → lv_has ls 9 [(5, .int yq24_), (4, .int yq23_), (3, .int yq22_), (0, .ref h), (1, .int bb), (2, .int x)] → W p l e (rmL 4 0 0) s m ([.ref h, .int bb, .int x] : List Value).toArray below meth c Hq_ lcq_ 0 0 (MQ below (va_Qi (fun r u => (True) ∧ u.2 = T ∧ u.1 = M) (mB D kA M T sz) (mA M T sz)) ([.ref h, .int bb, .int x] : List Value).toArray s 0 0 (mA M T sz)) (F0 m 66 ls []) := by
          intro n
          induction n with
          | zero =>
            intro yq22_ yq23_ yq24_ Hq_ lcq_ ls hme l_yq23_ g_yq23_ l_yq24_ g_yq24_ hc_h hc_al hH hl
            exfalso; omega
          | succ n ih =>
            intro yq22_ yq23_ yq24_ Hq_ lcq_ ls hme l_yq23_ g_yq23_ l_yq24_ g_yq24_ hc_h hc_al hH hl
            refine lv_iload hx hb dX10_reachOf_66 (lv_at hl 0 rfl) ?_
            refine jif_le (tgt := 187) hx hb dX10_reachOf_68 (by decide) (fun cq25_ => ?_) (fun cq25_ => ?_)
            · skip
              have cq25_ : yq24_.toInt ≤ 0 := cq25_
              refine lv_iload_n hx hb dX10_reachOf_187 rfl (lv_at hl 2 rfl) ?_
              exact ret_i hC hr hlk hK hH (⟨trivial, rfl, rfl⟩) (Nat.le_of_ble_eq_true rfl) (Nat.le_of_ble_eq_true rfl) dX10_reachOf_188
            · skip
              have cq25_ : 0 < yq24_.toInt := cq25_
              refine lv_aload_n hx hb dX10_reachOf_71 rfl (lv_at hl 3 rfl) ?_
              refine xg hC hK hH flX10_7 hc_h rfl dX10_reachOf_72 ?_
              refine lv_iload_n hx hb dX10_reachOf_75 rfl (lv_at hl 5 rfl) ?_
              refine lv_iload hx hb dX10_reachOf_76 (lv_at hl 0 rfl) ?_
              obtain ⟨nq26_, hn_nq26_⟩ : ∃ n : Nat, yq24_.toInt = (n : Int) := ⟨(yq24_.toInt).toNat, by omega⟩
              refine goI hK hH (runS (As := [.int x, .int yq24_]) (rest := [.ref al]) hC hK hH (c_X10_partyAt (by omega) (by omega)) mlX10_56 ⟨⟨Nat.le_of_ble_eq_true rfl, Nat.le_of_ble_eq_true rfl⟩, Nat.le_of_ble_eq_true rfl, Nat.le_of_ble_eq_true rfl⟩ rfl hl.1 rfl (Nat.le_of_ble_eq_true rfl) dX10_reachOf_78) (fun rq29_ Mq27_ Tq28_ Hq_ lcq_ hP hz hH => ?_)
              try dsimp only at hP
              obtain ⟨(⟨cq30_, ⟨l_rq29_, g_rq29_⟩⟩), eT, eM⟩ := hP
              have eT := eT.symm; subst eT
              have eM := eM.symm; subst eM
              have cq30_ : rq29_.toInt = x.toInt + 184 + 6 * yq24_.toInt := cq30_
              have hx_rq29_ : rq29_.toInt = ((xn + 184 + 6 * nq26_ : Nat) : Int) := by omega
              refine lv_iconst (v := 0) hx hb dX10_reachOf_81 (by decide) ?_
              refine lv_iadd hx hb dX10_reachOf_82 ?_
              refine lv_topi (fun zq31_ e_zq31_ => ?_)
              have h_zq31_ : zq31_.toInt = rq29_.toInt + 0 := by rw [e_zq31_, iAdd (by have := iRg rq29_; have : (0 : Int32).toInt = 0 := rfl; omega) (by have := iRg rq29_; have : (0 : Int32).toInt = 0 := rfl; omega)]; rfl
              refine xild hC hK hH hc_al (iIn (by omega) (by omega)) dX10_reachOf_83 ?_
              refine lv_topi (fun xq32_ e_xq32_ => ?_)
              have k_xq32_ : xq32_ = f (xn + 184 + 6 * nq26_) := by rw [e_xq32_, clE (n := xn + 184 + 6 * nq26_) (by omega)]
              have kt_xq32_ : xq32_.toInt = (f (xn + 184 + 6 * nq26_)).toInt := by rw [k_xq32_]
              refine lv_istore (lv' := [(6, .int xq32_), (5, .int yq24_), (4, .int yq23_), (3, .int yq22_), (0, .ref h), (1, .int bb), (2, .int x)]) hx hb dX10_reachOf_84 hl (by decide) rfl (fun ls hl => ?_)
              refine lv_iload hx hb dX10_reachOf_86 (lv_at hl 1 rfl) ?_
              refine lv_iload hx hb dX10_reachOf_88 (lv_at hl 2 rfl) ?_
              refine jic_ge (tgt := 113) hx hb dX10_reachOf_90 (by decide) (fun cq33_ => ?_) (fun cq33_ => ?_)
              · skip
                have cq33_ : yq23_.toInt ≤ yq24_.toInt := cq33_
                refine lv_iconst (v := 0) hx hb dX10_reachOf_113 (by decide) ?_
                refine lv_istore (lv' := [(7, .int 0), (6, .int xq32_), (5, .int yq24_), (4, .int yq23_), (3, .int yq22_), (0, .ref h), (1, .int bb), (2, .int x)]) hx hb dX10_reachOf_114 hl (by decide) rfl (fun ls hl => ?_)
                refine lv_iload_n hx hb dX10_reachOf_116 rfl (lv_at hl 4 rfl) ?_
                refine lv_iload hx hb dX10_reachOf_117 (lv_at hl 0 rfl) ?_
                refine jif_eq (tgt := 129) hx hb dX10_reachOf_119 (by decide) (fun cq34_ => ?_) (fun cq34_ => absurd cq34_ (by decide))
                refine lv_iconst (v := 0) hx hb dX10_reachOf_129 (by decide) ?_
                refine lv_ior hx hb dX10_reachOf_130 ?_
                refine lv_topi (fun zq35_ e_zq35_ => ?_)
                refine lv_istore_n (lv' := [(3, .int zq35_), (7, .int 0), (6, .int xq32_), (5, .int yq24_), (4, .int yq23_), (0, .ref h), (1, .int bb), (2, .int x)]) hx hb dX10_reachOf_131 rfl hl (by decide) rfl (fun ls hl => ?_)
                refine lv_iload hx hb dX10_reachOf_132 (lv_at hl 1 rfl) ?_
                refine jif_ne (tgt := 153) hx hb dX10_reachOf_134 (by decide) (fun cq36_ => absurd cq36_ (by decide)) (fun cq36_ => ?_)
                refine lv_iload hx hb dX10_reachOf_137 (lv_at hl 2 rfl) ?_
                refine lv_iconst (v := -1) hx hb dX10_reachOf_139 (by decide) ?_
                refine jic_eq (tgt := 157) hx hb dX10_reachOf_140 (by decide) (fun cq37_ => ?_) (fun cq37_ => ?_)
                · skip
                  have cq37_ : xq32_.toInt = (-1) := cq37_
                  refine lv_iconst (v := 0) hx hb dX10_reachOf_157 (by decide) ?_
                  refine lv_istore (lv' := [(8, .int 0), (3, .int zq35_), (7, .int 0), (6, .int xq32_), (5, .int yq24_), (4, .int yq23_), (0, .ref h), (1, .int bb), (2, .int x)]) hx hb dX10_reachOf_158 hl (by decide) rfl (fun ls hl => ?_)
                  refine lv_iload hx hb dX10_reachOf_160 (lv_at hl 0 rfl) ?_
                  refine jif_eq (tgt := 177) hx hb dX10_reachOf_162 (by decide) (fun cq38_ => ?_) (fun cq38_ => absurd cq38_ (by decide))
                  refine lv_iload hx hb dX10_reachOf_177 (lv_at hl 5 rfl) ?_
                  refine lv_istore (lv' := [(4, .int yq23_), (8, .int 0), (3, .int zq35_), (7, .int 0), (6, .int xq32_), (5, .int yq24_), (0, .ref h), (1, .int bb), (2, .int x)]) hx hb dX10_reachOf_179 hl (by decide) rfl (fun ls hl => ?_)
                  obtain ⟨zq39_, e_zq39_⟩ : ∃ y : Int32, y = yq24_ + (-1) := ⟨_, rfl⟩
                  refine lv_iinc (v := zq39_) (lv' := [(5, .int zq39_), (4, .int yq23_), (8, .int 0), (3, .int zq35_), (7, .int 0), (6, .int xq32_), (0, .ref h), (1, .int bb), (2, .int x)]) hx hb dX10_reachOf_181 hl (k := 5) rfl (by rw [e_zq39_]; rfl) (by decide) rfl (fun ls hl => ?_)
                  have h_zq39_ : zq39_.toInt = yq24_.toInt + -1 := by rw [e_zq39_, iAdd (by have : (-1 : Int32).toInt = -1 := rfl; omega) (by have : (-1 : Int32).toInt = -1 := rfl; omega)]; rfl
                  refine lv_goto (tgt := 66) hx hb dX10_reachOf_184 (by decide) ?_
                  exact ih zq35_ yq23_ zq39_ _ _ ls (by have := iRg zq35_; have := iRg yq23_; have := iRg zq39_; omega) (by have := iRg zq35_; have := iRg yq23_; have := iRg zq39_; omega) (by have := iRg zq35_; have := iRg yq23_; have := iRg zq39_; omega) (by have := iRg zq35_; have := iRg yq23_; have := iRg zq39_; omega) (by have := iRg zq35_; have := iRg yq23_; have := iRg zq39_; omega) hc_h hc_al hH (lv_sub hl [0, 1, 3, 6, 7, 8] rfl)
                · skip
                  have cq37_ : xq32_.toInt ≠ (-1) := cq37_
                  refine lv_aload_n hx hb dX10_reachOf_143 rfl (lv_at hl 5 rfl) ?_
                  refine lv_iload_n hx hb dX10_reachOf_144 rfl (lv_at hl 6 rfl) ?_
                  refine lv_iload hx hb dX10_reachOf_145 (lv_at hl 2 rfl) ?_
                  refine goI hK hH (runV (As := [.int bb, .int xq32_]) (rest := []) hC hK hH (c_X10_isInTime hc_h hn_h hc_al hn_al ht_mt ht_pa ht_li (by exact hR_f) (by omega) (by omega)) mlX10_74 (rcvM hK hH hc_h rfl) ⟨⟨Nat.le_of_ble_eq_true rfl, Nat.le_of_ble_eq_true rfl⟩, Nat.le_of_ble_eq_true rfl, Nat.le_of_ble_eq_true rfl⟩ rfl hl.1 rfl (Nat.le_of_ble_eq_true rfl) dX10_reachOf_147) (fun rq42_ Mq40_ Tq41_ Hq_ lcq_ hP hz hH => ?_)
                  try dsimp only at hP
                  obtain ⟨(er_rq42_ | er_rq42_), eT, eM⟩ := hP
                  · skip
                    have eT := eT.symm; subst eT
                    have er_rq42_ := er_rq42_.symm; subst er_rq42_
                    have eM := eM.symm; subst eM
                    refine jif_eq (tgt := 157) hx hb dX10_reachOf_150 (by decide) (fun cq43_ => absurd cq43_ (by decide)) (fun cq43_ => ?_)
                    refine lv_iconst (v := 1) hx hb dX10_reachOf_153 (by decide) ?_
                    refine lv_goto (tgt := 158) hx hb dX10_reachOf_154 (by decide) ?_
                    refine lv_istore (lv' := [(8, .int 1), (3, .int zq35_), (7, .int 0), (6, .int xq32_), (5, .int yq24_), (4, .int yq23_), (0, .ref h), (1, .int bb), (2, .int x)]) hx hb dX10_reachOf_158 hl (by decide) rfl (fun ls hl => ?_)
                    refine lv_iload hx hb dX10_reachOf_160 (lv_at hl 0 rfl) ?_
                    refine jif_eq (tgt := 177) hx hb dX10_reachOf_162 (by decide) (fun cq44_ => absurd cq44_ (by decide)) (fun cq44_ => ?_)
                    refine lv_iload hx hb dX10_reachOf_165 (lv_at hl 4 rfl) ?_
                    refine lv_iload hx hb dX10_reachOf_167 (lv_at hl 5 rfl) ?_
                    refine jic_le (tgt := 177) hx hb dX10_reachOf_169 (by decide) (fun cq45_ => ?_) (fun cq45_ => ?_)
                    · skip
                      have cq45_ : yq24_.toInt ≤ yq23_.toInt := cq45_
                      refine lv_iload hx hb dX10_reachOf_177 (lv_at hl 5 rfl) ?_
                      refine lv_istore (lv' := [(4, .int yq23_), (8, .int 1), (3, .int zq35_), (7, .int 0), (6, .int xq32_), (5, .int yq24_), (0, .ref h), (1, .int bb), (2, .int x)]) hx hb dX10_reachOf_179 hl (by decide) rfl (fun ls hl => ?_)
                      obtain ⟨zq46_, e_zq46_⟩ : ∃ y : Int32, y = yq24_ + (-1) := ⟨_, rfl⟩
                      refine lv_iinc (v := zq46_) (lv' := [(5, .int zq46_), (4, .int yq23_), (8, .int 1), (3, .int zq35_), (7, .int 0), (6, .int xq32_), (0, .ref h), (1, .int bb), (2, .int x)]) hx hb dX10_reachOf_181 hl (k := 5) rfl (by rw [e_zq46_]; rfl) (by decide) rfl (fun ls hl => ?_)
                      have h_zq46_ : zq46_.toInt = yq24_.toInt + -1 := by rw [e_zq46_, iAdd (by have : (-1 : Int32).toInt = -1 := rfl; omega) (by have : (-1 : Int32).toInt = -1 := rfl; omega)]; rfl
                      refine lv_goto (tgt := 66) hx hb dX10_reachOf_184 (by decide) ?_
                      exact ih zq35_ yq23_ zq46_ _ _ ls (by have := iRg zq35_; have := iRg yq23_; have := iRg zq46_; omega) (by have := iRg zq35_; have := iRg yq23_; have := iRg zq46_; omega) (by have := iRg zq35_; have := iRg yq23_; have := iRg zq46_; omega) (by have := iRg zq35_; have := iRg yq23_; have := iRg zq46_; omega) (by have := iRg zq35_; have := iRg yq23_; have := iRg zq46_; omega) hc_h hc_al hH (lv_sub hl [0, 1, 3, 6, 7, 8] rfl)
                    · skip
                      have cq45_ : yq23_.toInt < yq24_.toInt := cq45_
                      refine lv_iload hx hb dX10_reachOf_172 (lv_at hl 4 rfl) ?_
                      refine lv_goto (tgt := 179) hx hb dX10_reachOf_174 (by decide) ?_
                      refine lv_istore (lv' := [(4, .int yq24_), (8, .int 1), (3, .int zq35_), (7, .int 0), (6, .int xq32_), (5, .int yq24_), (0, .ref h), (1, .int bb), (2, .int x)]) hx hb dX10_reachOf_179 hl (by decide) rfl (fun ls hl => ?_)
                      obtain ⟨zq47_, e_zq47_⟩ : ∃ y : Int32, y = yq24_ + (-1) := ⟨_, rfl⟩
                      refine lv_iinc (v := zq47_) (lv' := [(5, .int zq47_), (4, .int yq24_), (8, .int 1), (3, .int zq35_), (7, .int 0), (6, .int xq32_), (0, .ref h), (1, .int bb), (2, .int x)]) hx hb dX10_reachOf_181 hl (k := 5) rfl (by rw [e_zq47_]; rfl) (by decide) rfl (fun ls hl => ?_)
                      have h_zq47_ : zq47_.toInt = yq24_.toInt + -1 := by rw [e_zq47_, iAdd (by have : (-1 : Int32).toInt = -1 := rfl; omega) (by have : (-1 : Int32).toInt = -1 := rfl; omega)]; rfl
                      refine lv_goto (tgt := 66) hx hb dX10_reachOf_184 (by decide) ?_
                      exact ih zq35_ yq24_ zq47_ _ _ ls (by have := iRg zq35_; have := iRg yq24_; have := iRg zq47_; omega) (by have := iRg zq35_; have := iRg yq24_; have := iRg zq47_; omega) (by have := iRg zq35_; have := iRg yq24_; have := iRg zq47_; omega) (by have := iRg zq35_; have := iRg yq24_; have := iRg zq47_; omega) (by have := iRg zq35_; have := iRg yq24_; have := iRg zq47_; omega) hc_h hc_al hH (lv_sub hl [0, 1, 3, 6, 7, 8] rfl)
                  · skip
                    have eT := eT.symm; subst eT
                    have er_rq42_ := er_rq42_.symm; subst er_rq42_
                    have eM := eM.symm; subst eM
                    refine jif_eq (tgt := 157) hx hb dX10_reachOf_150 (by decide) (fun cq48_ => ?_) (fun cq48_ => absurd cq48_ (by decide))
                    refine lv_iconst (v := 0) hx hb dX10_reachOf_157 (by decide) ?_
                    refine lv_istore (lv' := [(8, .int 0), (3, .int zq35_), (7, .int 0), (6, .int xq32_), (5, .int yq24_), (4, .int yq23_), (0, .ref h), (1, .int bb), (2, .int x)]) hx hb dX10_reachOf_158 hl (by decide) rfl (fun ls hl => ?_)
                    refine lv_iload hx hb dX10_reachOf_160 (lv_at hl 0 rfl) ?_
                    refine jif_eq (tgt := 177) hx hb dX10_reachOf_162 (by decide) (fun cq49_ => ?_) (fun cq49_ => absurd cq49_ (by decide))
                    refine lv_iload hx hb dX10_reachOf_177 (lv_at hl 5 rfl) ?_
                    refine lv_istore (lv' := [(4, .int yq23_), (8, .int 0), (3, .int zq35_), (7, .int 0), (6, .int xq32_), (5, .int yq24_), (0, .ref h), (1, .int bb), (2, .int x)]) hx hb dX10_reachOf_179 hl (by decide) rfl (fun ls hl => ?_)
                    obtain ⟨zq50_, e_zq50_⟩ : ∃ y : Int32, y = yq24_ + (-1) := ⟨_, rfl⟩
                    refine lv_iinc (v := zq50_) (lv' := [(5, .int zq50_), (4, .int yq23_), (8, .int 0), (3, .int zq35_), (7, .int 0), (6, .int xq32_), (0, .ref h), (1, .int bb), (2, .int x)]) hx hb dX10_reachOf_181 hl (k := 5) rfl (by rw [e_zq50_]; rfl) (by decide) rfl (fun ls hl => ?_)
                    have h_zq50_ : zq50_.toInt = yq24_.toInt + -1 := by rw [e_zq50_, iAdd (by have : (-1 : Int32).toInt = -1 := rfl; omega) (by have : (-1 : Int32).toInt = -1 := rfl; omega)]; rfl
                    refine lv_goto (tgt := 66) hx hb dX10_reachOf_184 (by decide) ?_
                    exact ih zq35_ yq23_ zq50_ _ _ ls (by have := iRg zq35_; have := iRg yq23_; have := iRg zq50_; omega) (by have := iRg zq35_; have := iRg yq23_; have := iRg zq50_; omega) (by have := iRg zq35_; have := iRg yq23_; have := iRg zq50_; omega) (by have := iRg zq35_; have := iRg yq23_; have := iRg zq50_; omega) (by have := iRg zq35_; have := iRg yq23_; have := iRg zq50_; omega) hc_h hc_al hH (lv_sub hl [0, 1, 3, 6, 7, 8] rfl)
              · skip
                have cq33_ : yq24_.toInt < yq23_.toInt := cq33_
                refine lv_aload_n hx hb dX10_reachOf_93 rfl (lv_at hl 4 rfl) ?_
                refine lv_iload_n hx hb dX10_reachOf_94 rfl (lv_at hl 6 rfl) ?_
                refine lv_iload hx hb dX10_reachOf_95 (lv_at hl 1 rfl) ?_
                refine goI hK hH (runV (As := [.int x, .int yq24_]) (rest := []) hC hK hH (c_X10_hasSigned hc_h hn_h hc_al hn_al ht_mt ht_pa ht_li (by exact hR_f) (by omega) (by omega) (by omega) (by omega) (by omega) (by omega)) mlX10_66 (rcvM hK hH hc_h rfl) ⟨⟨Nat.le_of_ble_eq_true rfl, Nat.le_of_ble_eq_true rfl⟩, Nat.le_of_ble_eq_true rfl, Nat.le_of_ble_eq_true rfl⟩ rfl hl.1 rfl (Nat.le_of_ble_eq_true rfl) dX10_reachOf_97) (fun rq53_ Mq51_ Tq52_ Hq_ lcq_ hP hz hH => ?_)
                try dsimp only at hP
                obtain ⟨(⟨cq54_, er_rq53_⟩ | ⟨cq55_, er_rq53_⟩), eT, eM⟩ := hP
                · skip
                  have eT := eT.symm; subst eT
                  have er_rq53_ := er_rq53_.symm; subst er_rq53_
                  have eM := eM.symm; subst eM
                  have cq54_ : sgnF f xn nq26_ := cq54_
                  refine jif_eq (tgt := 113) hx hb dX10_reachOf_100 (by decide) (fun cq56_ => absurd cq56_ (by decide)) (fun cq56_ => ?_)
                  refine lv_iload hx hb dX10_reachOf_103 (lv_at hl 0 rfl) ?_
                  refine lv_iconst (v := -1) hx hb dX10_reachOf_105 (by decide) ?_
                  refine jic_ne (tgt := 113) hx hb dX10_reachOf_106 (by decide) (fun cq57_ => ?_) (fun cq57_ => ?_)
                  · skip
                    have cq57_ : xq32_.toInt ≠ (-1) := cq57_
                    refine lv_iconst (v := 0) hx hb dX10_reachOf_113 (by decide) ?_
                    refine lv_istore (lv' := [(7, .int 0), (6, .int xq32_), (5, .int yq24_), (4, .int yq23_), (3, .int yq22_), (0, .ref h), (1, .int bb), (2, .int x)]) hx hb dX10_reachOf_114 hl (by decide) rfl (fun ls hl => ?_)
                    refine lv_iload_n hx hb dX10_reachOf_116 rfl (lv_at hl 4 rfl) ?_
                    refine lv_iload hx hb dX10_reachOf_117 (lv_at hl 0 rfl) ?_
                    refine jif_eq (tgt := 129) hx hb dX10_reachOf_119 (by decide) (fun cq58_ => ?_) (fun cq58_ => absurd cq58_ (by decide))
                    refine lv_iconst (v := 0) hx hb dX10_reachOf_129 (by decide) ?_
                    refine lv_ior hx hb dX10_reachOf_130 ?_
                    refine lv_topi (fun zq59_ e_zq59_ => ?_)
                    refine lv_istore_n (lv' := [(3, .int zq59_), (7, .int 0), (6, .int xq32_), (5, .int yq24_), (4, .int yq23_), (0, .ref h), (1, .int bb), (2, .int x)]) hx hb dX10_reachOf_131 rfl hl (by decide) rfl (fun ls hl => ?_)
                    refine lv_iload hx hb dX10_reachOf_132 (lv_at hl 1 rfl) ?_
                    refine jif_ne (tgt := 153) hx hb dX10_reachOf_134 (by decide) (fun cq60_ => absurd cq60_ (by decide)) (fun cq60_ => ?_)
                    refine lv_iload hx hb dX10_reachOf_137 (lv_at hl 2 rfl) ?_
                    refine lv_iconst (v := -1) hx hb dX10_reachOf_139 (by decide) ?_
                    refine jic_eq (tgt := 157) hx hb dX10_reachOf_140 (by decide) (fun cq61_ => ?_) (fun cq61_ => ?_)
                    · skip
                      have cq61_ : xq32_.toInt = (-1) := cq61_
                      refine lv_iconst (v := 0) hx hb dX10_reachOf_157 (by decide) ?_
                      refine lv_istore (lv' := [(8, .int 0), (3, .int zq59_), (7, .int 0), (6, .int xq32_), (5, .int yq24_), (4, .int yq23_), (0, .ref h), (1, .int bb), (2, .int x)]) hx hb dX10_reachOf_158 hl (by decide) rfl (fun ls hl => ?_)
                      refine lv_iload hx hb dX10_reachOf_160 (lv_at hl 0 rfl) ?_
                      refine jif_eq (tgt := 177) hx hb dX10_reachOf_162 (by decide) (fun cq62_ => ?_) (fun cq62_ => absurd cq62_ (by decide))
                      refine lv_iload hx hb dX10_reachOf_177 (lv_at hl 5 rfl) ?_
                      refine lv_istore (lv' := [(4, .int yq23_), (8, .int 0), (3, .int zq59_), (7, .int 0), (6, .int xq32_), (5, .int yq24_), (0, .ref h), (1, .int bb), (2, .int x)]) hx hb dX10_reachOf_179 hl (by decide) rfl (fun ls hl => ?_)
                      obtain ⟨zq63_, e_zq63_⟩ : ∃ y : Int32, y = yq24_ + (-1) := ⟨_, rfl⟩
                      refine lv_iinc (v := zq63_) (lv' := [(5, .int zq63_), (4, .int yq23_), (8, .int 0), (3, .int zq59_), (7, .int 0), (6, .int xq32_), (0, .ref h), (1, .int bb), (2, .int x)]) hx hb dX10_reachOf_181 hl (k := 5) rfl (by rw [e_zq63_]; rfl) (by decide) rfl (fun ls hl => ?_)
                      have h_zq63_ : zq63_.toInt = yq24_.toInt + -1 := by rw [e_zq63_, iAdd (by have : (-1 : Int32).toInt = -1 := rfl; omega) (by have : (-1 : Int32).toInt = -1 := rfl; omega)]; rfl
                      refine lv_goto (tgt := 66) hx hb dX10_reachOf_184 (by decide) ?_
                      exact ih zq59_ yq23_ zq63_ _ _ ls (by have := iRg zq59_; have := iRg yq23_; have := iRg zq63_; omega) (by have := iRg zq59_; have := iRg yq23_; have := iRg zq63_; omega) (by have := iRg zq59_; have := iRg yq23_; have := iRg zq63_; omega) (by have := iRg zq59_; have := iRg yq23_; have := iRg zq63_; omega) (by have := iRg zq59_; have := iRg yq23_; have := iRg zq63_; omega) hc_h hc_al hH (lv_sub hl [0, 1, 3, 6, 7, 8] rfl)
                    · skip
                      have cq61_ : xq32_.toInt ≠ (-1) := cq61_
                      refine lv_aload_n hx hb dX10_reachOf_143 rfl (lv_at hl 5 rfl) ?_
                      refine lv_iload_n hx hb dX10_reachOf_144 rfl (lv_at hl 6 rfl) ?_
                      refine lv_iload hx hb dX10_reachOf_145 (lv_at hl 2 rfl) ?_
                      refine goI hK hH (runV (As := [.int bb, .int xq32_]) (rest := []) hC hK hH (c_X10_isInTime hc_h hn_h hc_al hn_al ht_mt ht_pa ht_li (by exact hR_f) (by omega) (by omega)) mlX10_74 (rcvM hK hH hc_h rfl) ⟨⟨Nat.le_of_ble_eq_true rfl, Nat.le_of_ble_eq_true rfl⟩, Nat.le_of_ble_eq_true rfl, Nat.le_of_ble_eq_true rfl⟩ rfl hl.1 rfl (Nat.le_of_ble_eq_true rfl) dX10_reachOf_147) (fun rq66_ Mq64_ Tq65_ Hq_ lcq_ hP hz hH => ?_)
                      try dsimp only at hP
                      obtain ⟨(er_rq66_ | er_rq66_), eT, eM⟩ := hP
                      · skip
                        have eT := eT.symm; subst eT
                        have er_rq66_ := er_rq66_.symm; subst er_rq66_
                        have eM := eM.symm; subst eM
                        refine jif_eq (tgt := 157) hx hb dX10_reachOf_150 (by decide) (fun cq67_ => absurd cq67_ (by decide)) (fun cq67_ => ?_)
                        refine lv_iconst (v := 1) hx hb dX10_reachOf_153 (by decide) ?_
                        refine lv_goto (tgt := 158) hx hb dX10_reachOf_154 (by decide) ?_
                        refine lv_istore (lv' := [(8, .int 1), (3, .int zq59_), (7, .int 0), (6, .int xq32_), (5, .int yq24_), (4, .int yq23_), (0, .ref h), (1, .int bb), (2, .int x)]) hx hb dX10_reachOf_158 hl (by decide) rfl (fun ls hl => ?_)
                        refine lv_iload hx hb dX10_reachOf_160 (lv_at hl 0 rfl) ?_
                        refine jif_eq (tgt := 177) hx hb dX10_reachOf_162 (by decide) (fun cq68_ => absurd cq68_ (by decide)) (fun cq68_ => ?_)
                        refine lv_iload hx hb dX10_reachOf_165 (lv_at hl 4 rfl) ?_
                        refine lv_iload hx hb dX10_reachOf_167 (lv_at hl 5 rfl) ?_
                        refine jic_le (tgt := 177) hx hb dX10_reachOf_169 (by decide) (fun cq69_ => ?_) (fun cq69_ => ?_)
                        · skip
                          have cq69_ : yq24_.toInt ≤ yq23_.toInt := cq69_
                          refine lv_iload hx hb dX10_reachOf_177 (lv_at hl 5 rfl) ?_
                          refine lv_istore (lv' := [(4, .int yq23_), (8, .int 1), (3, .int zq59_), (7, .int 0), (6, .int xq32_), (5, .int yq24_), (0, .ref h), (1, .int bb), (2, .int x)]) hx hb dX10_reachOf_179 hl (by decide) rfl (fun ls hl => ?_)
                          obtain ⟨zq70_, e_zq70_⟩ : ∃ y : Int32, y = yq24_ + (-1) := ⟨_, rfl⟩
                          refine lv_iinc (v := zq70_) (lv' := [(5, .int zq70_), (4, .int yq23_), (8, .int 1), (3, .int zq59_), (7, .int 0), (6, .int xq32_), (0, .ref h), (1, .int bb), (2, .int x)]) hx hb dX10_reachOf_181 hl (k := 5) rfl (by rw [e_zq70_]; rfl) (by decide) rfl (fun ls hl => ?_)
                          have h_zq70_ : zq70_.toInt = yq24_.toInt + -1 := by rw [e_zq70_, iAdd (by have : (-1 : Int32).toInt = -1 := rfl; omega) (by have : (-1 : Int32).toInt = -1 := rfl; omega)]; rfl
                          refine lv_goto (tgt := 66) hx hb dX10_reachOf_184 (by decide) ?_
                          exact ih zq59_ yq23_ zq70_ _ _ ls (by have := iRg zq59_; have := iRg yq23_; have := iRg zq70_; omega) (by have := iRg zq59_; have := iRg yq23_; have := iRg zq70_; omega) (by have := iRg zq59_; have := iRg yq23_; have := iRg zq70_; omega) (by have := iRg zq59_; have := iRg yq23_; have := iRg zq70_; omega) (by have := iRg zq59_; have := iRg yq23_; have := iRg zq70_; omega) hc_h hc_al hH (lv_sub hl [0, 1, 3, 6, 7, 8] rfl)
                        · skip
                          have cq69_ : yq23_.toInt < yq24_.toInt := cq69_
                          refine lv_iload hx hb dX10_reachOf_172 (lv_at hl 4 rfl) ?_
                          refine lv_goto (tgt := 179) hx hb dX10_reachOf_174 (by decide) ?_
                          refine lv_istore (lv' := [(4, .int yq24_), (8, .int 1), (3, .int zq59_), (7, .int 0), (6, .int xq32_), (5, .int yq24_), (0, .ref h), (1, .int bb), (2, .int x)]) hx hb dX10_reachOf_179 hl (by decide) rfl (fun ls hl => ?_)
                          obtain ⟨zq71_, e_zq71_⟩ : ∃ y : Int32, y = yq24_ + (-1) := ⟨_, rfl⟩
                          refine lv_iinc (v := zq71_) (lv' := [(5, .int zq71_), (4, .int yq24_), (8, .int 1), (3, .int zq59_), (7, .int 0), (6, .int xq32_), (0, .ref h), (1, .int bb), (2, .int x)]) hx hb dX10_reachOf_181 hl (k := 5) rfl (by rw [e_zq71_]; rfl) (by decide) rfl (fun ls hl => ?_)
                          have h_zq71_ : zq71_.toInt = yq24_.toInt + -1 := by rw [e_zq71_, iAdd (by have : (-1 : Int32).toInt = -1 := rfl; omega) (by have : (-1 : Int32).toInt = -1 := rfl; omega)]; rfl
                          refine lv_goto (tgt := 66) hx hb dX10_reachOf_184 (by decide) ?_
                          exact ih zq59_ yq24_ zq71_ _ _ ls (by have := iRg zq59_; have := iRg yq24_; have := iRg zq71_; omega) (by have := iRg zq59_; have := iRg yq24_; have := iRg zq71_; omega) (by have := iRg zq59_; have := iRg yq24_; have := iRg zq71_; omega) (by have := iRg zq59_; have := iRg yq24_; have := iRg zq71_; omega) (by have := iRg zq59_; have := iRg yq24_; have := iRg zq71_; omega) hc_h hc_al hH (lv_sub hl [0, 1, 3, 6, 7, 8] rfl)
                      · skip
                        have eT := eT.symm; subst eT
                        have er_rq66_ := er_rq66_.symm; subst er_rq66_
                        have eM := eM.symm; subst eM
                        refine jif_eq (tgt := 157) hx hb dX10_reachOf_150 (by decide) (fun cq72_ => ?_) (fun cq72_ => absurd cq72_ (by decide))
                        refine lv_iconst (v := 0) hx hb dX10_reachOf_157 (by decide) ?_
                        refine lv_istore (lv' := [(8, .int 0), (3, .int zq59_), (7, .int 0), (6, .int xq32_), (5, .int yq24_), (4, .int yq23_), (0, .ref h), (1, .int bb), (2, .int x)]) hx hb dX10_reachOf_158 hl (by decide) rfl (fun ls hl => ?_)
                        refine lv_iload hx hb dX10_reachOf_160 (lv_at hl 0 rfl) ?_
                        refine jif_eq (tgt := 177) hx hb dX10_reachOf_162 (by decide) (fun cq73_ => ?_) (fun cq73_ => absurd cq73_ (by decide))
                        refine lv_iload hx hb dX10_reachOf_177 (lv_at hl 5 rfl) ?_
                        refine lv_istore (lv' := [(4, .int yq23_), (8, .int 0), (3, .int zq59_), (7, .int 0), (6, .int xq32_), (5, .int yq24_), (0, .ref h), (1, .int bb), (2, .int x)]) hx hb dX10_reachOf_179 hl (by decide) rfl (fun ls hl => ?_)
                        obtain ⟨zq74_, e_zq74_⟩ : ∃ y : Int32, y = yq24_ + (-1) := ⟨_, rfl⟩
                        refine lv_iinc (v := zq74_) (lv' := [(5, .int zq74_), (4, .int yq23_), (8, .int 0), (3, .int zq59_), (7, .int 0), (6, .int xq32_), (0, .ref h), (1, .int bb), (2, .int x)]) hx hb dX10_reachOf_181 hl (k := 5) rfl (by rw [e_zq74_]; rfl) (by decide) rfl (fun ls hl => ?_)
                        have h_zq74_ : zq74_.toInt = yq24_.toInt + -1 := by rw [e_zq74_, iAdd (by have : (-1 : Int32).toInt = -1 := rfl; omega) (by have : (-1 : Int32).toInt = -1 := rfl; omega)]; rfl
                        refine lv_goto (tgt := 66) hx hb dX10_reachOf_184 (by decide) ?_
                        exact ih zq59_ yq23_ zq74_ _ _ ls (by have := iRg zq59_; have := iRg yq23_; have := iRg zq74_; omega) (by have := iRg zq59_; have := iRg yq23_; have := iRg zq74_; omega) (by have := iRg zq59_; have := iRg yq23_; have := iRg zq74_; omega) (by have := iRg zq59_; have := iRg yq23_; have := iRg zq74_; omega) (by have := iRg zq59_; have := iRg yq23_; have := iRg zq74_; omega) hc_h hc_al hH (lv_sub hl [0, 1, 3, 6, 7, 8] rfl)
                  · skip
                    have cq57_ : xq32_.toInt = (-1) := cq57_
                    refine lv_iconst (v := 1) hx hb dX10_reachOf_109 (by decide) ?_
                    refine lv_goto (tgt := 114) hx hb dX10_reachOf_110 (by decide) ?_
                    refine lv_istore (lv' := [(7, .int 1), (6, .int xq32_), (5, .int yq24_), (4, .int yq23_), (3, .int yq22_), (0, .ref h), (1, .int bb), (2, .int x)]) hx hb dX10_reachOf_114 hl (by decide) rfl (fun ls hl => ?_)
                    refine lv_iload_n hx hb dX10_reachOf_116 rfl (lv_at hl 4 rfl) ?_
                    refine lv_iload hx hb dX10_reachOf_117 (lv_at hl 0 rfl) ?_
                    refine jif_eq (tgt := 129) hx hb dX10_reachOf_119 (by decide) (fun cq75_ => absurd cq75_ (by decide)) (fun cq75_ => ?_)
                    refine lv_iconst (v := 1) hx hb dX10_reachOf_122 (by decide) ?_
                    refine lv_iload hx hb dX10_reachOf_123 (lv_at hl 2 rfl) ?_
                    refine lv_ishl hx hb dX10_reachOf_125 ?_
                    refine lv_topi (fun zq76_ e_zq76_ => ?_)
                    refine lv_goto (tgt := 130) hx hb dX10_reachOf_126 (by decide) ?_
                    refine lv_ior hx hb dX10_reachOf_130 ?_
                    refine lv_topi (fun zq77_ e_zq77_ => ?_)
                    refine lv_istore_n (lv' := [(3, .int zq77_), (7, .int 1), (6, .int xq32_), (5, .int yq24_), (4, .int yq23_), (0, .ref h), (1, .int bb), (2, .int x)]) hx hb dX10_reachOf_131 rfl hl (by decide) rfl (fun ls hl => ?_)
                    refine lv_iload hx hb dX10_reachOf_132 (lv_at hl 1 rfl) ?_
                    refine jif_ne (tgt := 153) hx hb dX10_reachOf_134 (by decide) (fun cq78_ => ?_) (fun cq78_ => absurd cq78_ (by decide))
                    refine lv_iconst (v := 1) hx hb dX10_reachOf_153 (by decide) ?_
                    refine lv_goto (tgt := 158) hx hb dX10_reachOf_154 (by decide) ?_
                    refine lv_istore (lv' := [(8, .int 1), (3, .int zq77_), (7, .int 1), (6, .int xq32_), (5, .int yq24_), (4, .int yq23_), (0, .ref h), (1, .int bb), (2, .int x)]) hx hb dX10_reachOf_158 hl (by decide) rfl (fun ls hl => ?_)
                    refine lv_iload hx hb dX10_reachOf_160 (lv_at hl 0 rfl) ?_
                    refine jif_eq (tgt := 177) hx hb dX10_reachOf_162 (by decide) (fun cq79_ => absurd cq79_ (by decide)) (fun cq79_ => ?_)
                    refine lv_iload hx hb dX10_reachOf_165 (lv_at hl 4 rfl) ?_
                    refine lv_iload hx hb dX10_reachOf_167 (lv_at hl 5 rfl) ?_
                    refine jic_le (tgt := 177) hx hb dX10_reachOf_169 (by decide) (fun cq80_ => ?_) (fun cq80_ => ?_)
                    · skip
                      have cq80_ : yq24_.toInt ≤ yq23_.toInt := cq80_
                      refine lv_iload hx hb dX10_reachOf_177 (lv_at hl 5 rfl) ?_
                      refine lv_istore (lv' := [(4, .int yq23_), (8, .int 1), (3, .int zq77_), (7, .int 1), (6, .int xq32_), (5, .int yq24_), (0, .ref h), (1, .int bb), (2, .int x)]) hx hb dX10_reachOf_179 hl (by decide) rfl (fun ls hl => ?_)
                      obtain ⟨zq81_, e_zq81_⟩ : ∃ y : Int32, y = yq24_ + (-1) := ⟨_, rfl⟩
                      refine lv_iinc (v := zq81_) (lv' := [(5, .int zq81_), (4, .int yq23_), (8, .int 1), (3, .int zq77_), (7, .int 1), (6, .int xq32_), (0, .ref h), (1, .int bb), (2, .int x)]) hx hb dX10_reachOf_181 hl (k := 5) rfl (by rw [e_zq81_]; rfl) (by decide) rfl (fun ls hl => ?_)
                      have h_zq81_ : zq81_.toInt = yq24_.toInt + -1 := by rw [e_zq81_, iAdd (by have : (-1 : Int32).toInt = -1 := rfl; omega) (by have : (-1 : Int32).toInt = -1 := rfl; omega)]; rfl
                      refine lv_goto (tgt := 66) hx hb dX10_reachOf_184 (by decide) ?_
                      exact ih zq77_ yq23_ zq81_ _ _ ls (by have := iRg zq77_; have := iRg yq23_; have := iRg zq81_; omega) (by have := iRg zq77_; have := iRg yq23_; have := iRg zq81_; omega) (by have := iRg zq77_; have := iRg yq23_; have := iRg zq81_; omega) (by have := iRg zq77_; have := iRg yq23_; have := iRg zq81_; omega) (by have := iRg zq77_; have := iRg yq23_; have := iRg zq81_; omega) hc_h hc_al hH (lv_sub hl [0, 1, 3, 6, 7, 8] rfl)
                    · skip
                      have cq80_ : yq23_.toInt < yq24_.toInt := cq80_
                      refine lv_iload hx hb dX10_reachOf_172 (lv_at hl 4 rfl) ?_
                      refine lv_goto (tgt := 179) hx hb dX10_reachOf_174 (by decide) ?_
                      refine lv_istore (lv' := [(4, .int yq24_), (8, .int 1), (3, .int zq77_), (7, .int 1), (6, .int xq32_), (5, .int yq24_), (0, .ref h), (1, .int bb), (2, .int x)]) hx hb dX10_reachOf_179 hl (by decide) rfl (fun ls hl => ?_)
                      obtain ⟨zq82_, e_zq82_⟩ : ∃ y : Int32, y = yq24_ + (-1) := ⟨_, rfl⟩
                      refine lv_iinc (v := zq82_) (lv' := [(5, .int zq82_), (4, .int yq24_), (8, .int 1), (3, .int zq77_), (7, .int 1), (6, .int xq32_), (0, .ref h), (1, .int bb), (2, .int x)]) hx hb dX10_reachOf_181 hl (k := 5) rfl (by rw [e_zq82_]; rfl) (by decide) rfl (fun ls hl => ?_)
                      have h_zq82_ : zq82_.toInt = yq24_.toInt + -1 := by rw [e_zq82_, iAdd (by have : (-1 : Int32).toInt = -1 := rfl; omega) (by have : (-1 : Int32).toInt = -1 := rfl; omega)]; rfl
                      refine lv_goto (tgt := 66) hx hb dX10_reachOf_184 (by decide) ?_
                      exact ih zq77_ yq24_ zq82_ _ _ ls (by have := iRg zq77_; have := iRg yq24_; have := iRg zq82_; omega) (by have := iRg zq77_; have := iRg yq24_; have := iRg zq82_; omega) (by have := iRg zq77_; have := iRg yq24_; have := iRg zq82_; omega) (by have := iRg zq77_; have := iRg yq24_; have := iRg zq82_; omega) (by have := iRg zq77_; have := iRg yq24_; have := iRg zq82_; omega) hc_h hc_al hH (lv_sub hl [0, 1, 3, 6, 7, 8] rfl)
                · skip
                  have eT := eT.symm; subst eT
                  have er_rq53_ := er_rq53_.symm; subst er_rq53_
                  have eM := eM.symm; subst eM
                  have cq55_ : ¬ sgnF f xn nq26_ := cq55_
                  refine jif_eq (tgt := 113) hx hb dX10_reachOf_100 (by decide) (fun cq83_ => ?_) (fun cq83_ => absurd cq83_ (by decide))
                  refine lv_iconst (v := 0) hx hb dX10_reachOf_113 (by decide) ?_
                  refine lv_istore (lv' := [(7, .int 0), (6, .int xq32_), (5, .int yq24_), (4, .int yq23_), (3, .int yq22_), (0, .ref h), (1, .int bb), (2, .int x)]) hx hb dX10_reachOf_114 hl (by decide) rfl (fun ls hl => ?_)
                  refine lv_iload_n hx hb dX10_reachOf_116 rfl (lv_at hl 4 rfl) ?_
                  refine lv_iload hx hb dX10_reachOf_117 (lv_at hl 0 rfl) ?_
                  refine jif_eq (tgt := 129) hx hb dX10_reachOf_119 (by decide) (fun cq84_ => ?_) (fun cq84_ => absurd cq84_ (by decide))
                  refine lv_iconst (v := 0) hx hb dX10_reachOf_129 (by decide) ?_
                  refine lv_ior hx hb dX10_reachOf_130 ?_
                  refine lv_topi (fun zq85_ e_zq85_ => ?_)
                  refine lv_istore_n (lv' := [(3, .int zq85_), (7, .int 0), (6, .int xq32_), (5, .int yq24_), (4, .int yq23_), (0, .ref h), (1, .int bb), (2, .int x)]) hx hb dX10_reachOf_131 rfl hl (by decide) rfl (fun ls hl => ?_)
                  refine lv_iload hx hb dX10_reachOf_132 (lv_at hl 1 rfl) ?_
                  refine jif_ne (tgt := 153) hx hb dX10_reachOf_134 (by decide) (fun cq86_ => absurd cq86_ (by decide)) (fun cq86_ => ?_)
                  refine lv_iload hx hb dX10_reachOf_137 (lv_at hl 2 rfl) ?_
                  refine lv_iconst (v := -1) hx hb dX10_reachOf_139 (by decide) ?_
                  refine jic_eq (tgt := 157) hx hb dX10_reachOf_140 (by decide) (fun cq87_ => ?_) (fun cq87_ => ?_)
                  · skip
                    have cq87_ : xq32_.toInt = (-1) := cq87_
                    refine lv_iconst (v := 0) hx hb dX10_reachOf_157 (by decide) ?_
                    refine lv_istore (lv' := [(8, .int 0), (3, .int zq85_), (7, .int 0), (6, .int xq32_), (5, .int yq24_), (4, .int yq23_), (0, .ref h), (1, .int bb), (2, .int x)]) hx hb dX10_reachOf_158 hl (by decide) rfl (fun ls hl => ?_)
                    refine lv_iload hx hb dX10_reachOf_160 (lv_at hl 0 rfl) ?_
                    refine jif_eq (tgt := 177) hx hb dX10_reachOf_162 (by decide) (fun cq88_ => ?_) (fun cq88_ => absurd cq88_ (by decide))
                    refine lv_iload hx hb dX10_reachOf_177 (lv_at hl 5 rfl) ?_
                    refine lv_istore (lv' := [(4, .int yq23_), (8, .int 0), (3, .int zq85_), (7, .int 0), (6, .int xq32_), (5, .int yq24_), (0, .ref h), (1, .int bb), (2, .int x)]) hx hb dX10_reachOf_179 hl (by decide) rfl (fun ls hl => ?_)
                    obtain ⟨zq89_, e_zq89_⟩ : ∃ y : Int32, y = yq24_ + (-1) := ⟨_, rfl⟩
                    refine lv_iinc (v := zq89_) (lv' := [(5, .int zq89_), (4, .int yq23_), (8, .int 0), (3, .int zq85_), (7, .int 0), (6, .int xq32_), (0, .ref h), (1, .int bb), (2, .int x)]) hx hb dX10_reachOf_181 hl (k := 5) rfl (by rw [e_zq89_]; rfl) (by decide) rfl (fun ls hl => ?_)
                    have h_zq89_ : zq89_.toInt = yq24_.toInt + -1 := by rw [e_zq89_, iAdd (by have : (-1 : Int32).toInt = -1 := rfl; omega) (by have : (-1 : Int32).toInt = -1 := rfl; omega)]; rfl
                    refine lv_goto (tgt := 66) hx hb dX10_reachOf_184 (by decide) ?_
                    exact ih zq85_ yq23_ zq89_ _ _ ls (by have := iRg zq85_; have := iRg yq23_; have := iRg zq89_; omega) (by have := iRg zq85_; have := iRg yq23_; have := iRg zq89_; omega) (by have := iRg zq85_; have := iRg yq23_; have := iRg zq89_; omega) (by have := iRg zq85_; have := iRg yq23_; have := iRg zq89_; omega) (by have := iRg zq85_; have := iRg yq23_; have := iRg zq89_; omega) hc_h hc_al hH (lv_sub hl [0, 1, 3, 6, 7, 8] rfl)
                  · skip
                    have cq87_ : xq32_.toInt ≠ (-1) := cq87_
                    refine lv_aload_n hx hb dX10_reachOf_143 rfl (lv_at hl 5 rfl) ?_
                    refine lv_iload_n hx hb dX10_reachOf_144 rfl (lv_at hl 6 rfl) ?_
                    refine lv_iload hx hb dX10_reachOf_145 (lv_at hl 2 rfl) ?_
                    refine goI hK hH (runV (As := [.int bb, .int xq32_]) (rest := []) hC hK hH (c_X10_isInTime hc_h hn_h hc_al hn_al ht_mt ht_pa ht_li (by exact hR_f) (by omega) (by omega)) mlX10_74 (rcvM hK hH hc_h rfl) ⟨⟨Nat.le_of_ble_eq_true rfl, Nat.le_of_ble_eq_true rfl⟩, Nat.le_of_ble_eq_true rfl, Nat.le_of_ble_eq_true rfl⟩ rfl hl.1 rfl (Nat.le_of_ble_eq_true rfl) dX10_reachOf_147) (fun rq92_ Mq90_ Tq91_ Hq_ lcq_ hP hz hH => ?_)
                    try dsimp only at hP
                    obtain ⟨(er_rq92_ | er_rq92_), eT, eM⟩ := hP
                    · skip
                      have eT := eT.symm; subst eT
                      have er_rq92_ := er_rq92_.symm; subst er_rq92_
                      have eM := eM.symm; subst eM
                      refine jif_eq (tgt := 157) hx hb dX10_reachOf_150 (by decide) (fun cq93_ => absurd cq93_ (by decide)) (fun cq93_ => ?_)
                      refine lv_iconst (v := 1) hx hb dX10_reachOf_153 (by decide) ?_
                      refine lv_goto (tgt := 158) hx hb dX10_reachOf_154 (by decide) ?_
                      refine lv_istore (lv' := [(8, .int 1), (3, .int zq85_), (7, .int 0), (6, .int xq32_), (5, .int yq24_), (4, .int yq23_), (0, .ref h), (1, .int bb), (2, .int x)]) hx hb dX10_reachOf_158 hl (by decide) rfl (fun ls hl => ?_)
                      refine lv_iload hx hb dX10_reachOf_160 (lv_at hl 0 rfl) ?_
                      refine jif_eq (tgt := 177) hx hb dX10_reachOf_162 (by decide) (fun cq94_ => absurd cq94_ (by decide)) (fun cq94_ => ?_)
                      refine lv_iload hx hb dX10_reachOf_165 (lv_at hl 4 rfl) ?_
                      refine lv_iload hx hb dX10_reachOf_167 (lv_at hl 5 rfl) ?_
                      refine jic_le (tgt := 177) hx hb dX10_reachOf_169 (by decide) (fun cq95_ => ?_) (fun cq95_ => ?_)
                      · skip
                        have cq95_ : yq24_.toInt ≤ yq23_.toInt := cq95_
                        refine lv_iload hx hb dX10_reachOf_177 (lv_at hl 5 rfl) ?_
                        refine lv_istore (lv' := [(4, .int yq23_), (8, .int 1), (3, .int zq85_), (7, .int 0), (6, .int xq32_), (5, .int yq24_), (0, .ref h), (1, .int bb), (2, .int x)]) hx hb dX10_reachOf_179 hl (by decide) rfl (fun ls hl => ?_)
                        obtain ⟨zq96_, e_zq96_⟩ : ∃ y : Int32, y = yq24_ + (-1) := ⟨_, rfl⟩
                        refine lv_iinc (v := zq96_) (lv' := [(5, .int zq96_), (4, .int yq23_), (8, .int 1), (3, .int zq85_), (7, .int 0), (6, .int xq32_), (0, .ref h), (1, .int bb), (2, .int x)]) hx hb dX10_reachOf_181 hl (k := 5) rfl (by rw [e_zq96_]; rfl) (by decide) rfl (fun ls hl => ?_)
                        have h_zq96_ : zq96_.toInt = yq24_.toInt + -1 := by rw [e_zq96_, iAdd (by have : (-1 : Int32).toInt = -1 := rfl; omega) (by have : (-1 : Int32).toInt = -1 := rfl; omega)]; rfl
                        refine lv_goto (tgt := 66) hx hb dX10_reachOf_184 (by decide) ?_
                        exact ih zq85_ yq23_ zq96_ _ _ ls (by have := iRg zq85_; have := iRg yq23_; have := iRg zq96_; omega) (by have := iRg zq85_; have := iRg yq23_; have := iRg zq96_; omega) (by have := iRg zq85_; have := iRg yq23_; have := iRg zq96_; omega) (by have := iRg zq85_; have := iRg yq23_; have := iRg zq96_; omega) (by have := iRg zq85_; have := iRg yq23_; have := iRg zq96_; omega) hc_h hc_al hH (lv_sub hl [0, 1, 3, 6, 7, 8] rfl)
                      · skip
                        have cq95_ : yq23_.toInt < yq24_.toInt := cq95_
                        refine lv_iload hx hb dX10_reachOf_172 (lv_at hl 4 rfl) ?_
                        refine lv_goto (tgt := 179) hx hb dX10_reachOf_174 (by decide) ?_
                        refine lv_istore (lv' := [(4, .int yq24_), (8, .int 1), (3, .int zq85_), (7, .int 0), (6, .int xq32_), (5, .int yq24_), (0, .ref h), (1, .int bb), (2, .int x)]) hx hb dX10_reachOf_179 hl (by decide) rfl (fun ls hl => ?_)
                        obtain ⟨zq97_, e_zq97_⟩ : ∃ y : Int32, y = yq24_ + (-1) := ⟨_, rfl⟩
                        refine lv_iinc (v := zq97_) (lv' := [(5, .int zq97_), (4, .int yq24_), (8, .int 1), (3, .int zq85_), (7, .int 0), (6, .int xq32_), (0, .ref h), (1, .int bb), (2, .int x)]) hx hb dX10_reachOf_181 hl (k := 5) rfl (by rw [e_zq97_]; rfl) (by decide) rfl (fun ls hl => ?_)
                        have h_zq97_ : zq97_.toInt = yq24_.toInt + -1 := by rw [e_zq97_, iAdd (by have : (-1 : Int32).toInt = -1 := rfl; omega) (by have : (-1 : Int32).toInt = -1 := rfl; omega)]; rfl
                        refine lv_goto (tgt := 66) hx hb dX10_reachOf_184 (by decide) ?_
                        exact ih zq85_ yq24_ zq97_ _ _ ls (by have := iRg zq85_; have := iRg yq24_; have := iRg zq97_; omega) (by have := iRg zq85_; have := iRg yq24_; have := iRg zq97_; omega) (by have := iRg zq85_; have := iRg yq24_; have := iRg zq97_; omega) (by have := iRg zq85_; have := iRg yq24_; have := iRg zq97_; omega) (by have := iRg zq85_; have := iRg yq24_; have := iRg zq97_; omega) hc_h hc_al hH (lv_sub hl [0, 1, 3, 6, 7, 8] rfl)
                    · skip
                      have eT := eT.symm; subst eT
                      have er_rq92_ := er_rq92_.symm; subst er_rq92_
                      have eM := eM.symm; subst eM
                      refine jif_eq (tgt := 157) hx hb dX10_reachOf_150 (by decide) (fun cq98_ => ?_) (fun cq98_ => absurd cq98_ (by decide))
                      refine lv_iconst (v := 0) hx hb dX10_reachOf_157 (by decide) ?_
                      refine lv_istore (lv' := [(8, .int 0), (3, .int zq85_), (7, .int 0), (6, .int xq32_), (5, .int yq24_), (4, .int yq23_), (0, .ref h), (1, .int bb), (2, .int x)]) hx hb dX10_reachOf_158 hl (by decide) rfl (fun ls hl => ?_)
                      refine lv_iload hx hb dX10_reachOf_160 (lv_at hl 0 rfl) ?_
                      refine jif_eq (tgt := 177) hx hb dX10_reachOf_162 (by decide) (fun cq99_ => ?_) (fun cq99_ => absurd cq99_ (by decide))
                      refine lv_iload hx hb dX10_reachOf_177 (lv_at hl 5 rfl) ?_
                      refine lv_istore (lv' := [(4, .int yq23_), (8, .int 0), (3, .int zq85_), (7, .int 0), (6, .int xq32_), (5, .int yq24_), (0, .ref h), (1, .int bb), (2, .int x)]) hx hb dX10_reachOf_179 hl (by decide) rfl (fun ls hl => ?_)
                      obtain ⟨zq100_, e_zq100_⟩ : ∃ y : Int32, y = yq24_ + (-1) := ⟨_, rfl⟩
                      refine lv_iinc (v := zq100_) (lv' := [(5, .int zq100_), (4, .int yq23_), (8, .int 0), (3, .int zq85_), (7, .int 0), (6, .int xq32_), (0, .ref h), (1, .int bb), (2, .int x)]) hx hb dX10_reachOf_181 hl (k := 5) rfl (by rw [e_zq100_]; rfl) (by decide) rfl (fun ls hl => ?_)
                      have h_zq100_ : zq100_.toInt = yq24_.toInt + -1 := by rw [e_zq100_, iAdd (by have : (-1 : Int32).toInt = -1 := rfl; omega) (by have : (-1 : Int32).toInt = -1 := rfl; omega)]; rfl
                      refine lv_goto (tgt := 66) hx hb dX10_reachOf_184 (by decide) ?_
                      exact ih zq85_ yq23_ zq100_ _ _ ls (by have := iRg zq85_; have := iRg yq23_; have := iRg zq100_; omega) (by have := iRg zq85_; have := iRg yq23_; have := iRg zq100_; omega) (by have := iRg zq85_; have := iRg yq23_; have := iRg zq100_; omega) (by have := iRg zq85_; have := iRg yq23_; have := iRg zq100_; omega) (by have := iRg zq85_; have := iRg yq23_; have := iRg zq100_; omega) hc_h hc_al hH (lv_sub hl [0, 1, 3, 6, 7, 8] rfl)
        exact loop (Int.toNat (zq21_.toInt + 1)) 0 rq17_ zq21_ _ _ ls (by have : (0 : Int32).toInt = 0 := rfl; have := iRg rq17_; have := iRg zq21_; omega) (by have : (0 : Int32).toInt = 0 := rfl; have := iRg rq17_; have := iRg zq21_; omega) (by have : (0 : Int32).toInt = 0 := rfl; have := iRg rq17_; have := iRg zq21_; omega) (by have : (0 : Int32).toInt = 0 := rfl; have := iRg rq17_; have := iRg zq21_; omega) (by have : (0 : Int32).toInt = 0 := rfl; have := iRg rq17_; have := iRg zq21_; omega) hc_h hc_al hH hl
      · skip
        have eT := eT.symm; subst eT
        have er_rq13_ := er_rq13_.symm; subst er_rq13_
        have eM := eM.symm; subst eM
        refine jif_eq (tgt := 50) hx hb dX10_reachOf_39 (by decide) (fun cq101_ => ?_) (fun cq101_ => absurd cq101_ (by decide))
        refine lv_iconst (v := 0) hx hb dX10_reachOf_50 (by decide) ?_
        refine lv_istore (lv' := [(4, .int 0), (3, .int 0), (0, .ref h), (1, .int bb), (2, .int x)]) hx hb dX10_reachOf_51 hl (by decide) rfl (fun ls hl => ?_)
        refine lv_iconst (v := 1) hx hb dX10_reachOf_53 (by decide) ?_
        refine lv_aload_n hx hb dX10_reachOf_54 rfl (lv_at hl 2 rfl) ?_
        refine xg hC hK hH flX10_7 hc_h rfl dX10_reachOf_55 ?_
        refine lv_iload_n hx hb dX10_reachOf_58 rfl (lv_at hl 4 rfl) ?_
        refine lv_bipush (v := 8) hx hb dX10_reachOf_59 (by decide) ?_
        refine lv_iadd hx hb dX10_reachOf_61 ?_
        refine lv_topi (fun zq102_ e_zq102_ => ?_)
        have h_zq102_ : zq102_.toInt = x.toInt + 8 := by rw [e_zq102_, iAdd (by have := iRg x; have : (8 : Int32).toInt = 8 := rfl; omega) (by have := iRg x; have : (8 : Int32).toInt = 8 := rfl; omega)]; rfl
        refine xild hC hK hH hc_al (iIn (by omega) (by omega)) dX10_reachOf_62 ?_
        refine lv_topi (fun xq103_ e_xq103_ => ?_)
        have k_xq103_ : xq103_ = f (xn + 8) := by rw [e_xq103_, clE (n := xn + 8) (by omega)]
        have kt_xq103_ : xq103_.toInt = (f (xn + 8)).toInt := by rw [k_xq103_]
        have rr_xq103_ : (0 : Int) ≤ (f (xn + 8)).toInt ∧ (f (xn + 8)).toInt ≤ 12 := hR_f.rO 8 (t := t) (b := b) (xn := xn) (by omega) (by omega) (by omega) (by decide) rfl
        have l_xq103_ : (0 : Int) ≤ xq103_.toInt := by rw [kt_xq103_, show xn + 8 = xn + 8 from by omega]; exact rr_xq103_.1
        have g_xq103_ : xq103_.toInt ≤ 12 := by rw [kt_xq103_, show xn + 8 = xn + 8 from by omega]; exact rr_xq103_.2
        refine lv_iadd hx hb dX10_reachOf_63 ?_
        refine lv_topi (fun zq104_ e_zq104_ => ?_)
        have h_zq104_ : zq104_.toInt = 1 + xq103_.toInt := by rw [e_zq104_, iAdd (by have : (1 : Int32).toInt = 1 := rfl; have := iRg xq103_; omega) (by have : (1 : Int32).toInt = 1 := rfl; have := iRg xq103_; omega)]; rfl
        refine lv_istore (lv' := [(5, .int zq104_), (4, .int 0), (3, .int 0), (0, .ref h), (1, .int bb), (2, .int x)]) hx hb dX10_reachOf_64 hl (by decide) rfl (fun ls hl => ?_)
        have loop : ∀ (n : Nat) (yq105_ : Int32) (yq106_ : Int32) (yq107_ : Int32) (Hq_ : Heap) (lcq_ : List Loc) (ls : Array Slot), yq107_.toInt + 1 ≤ (n : Int) → (0 : Int) ≤ yq106_.toInt → yq106_.toInt ≤ 14 → (0 : Int) ≤ yq107_.toInt → yq107_.toInt ≤ 13 → M h = some (.inr (8, [.ref al, .ref mt, .ref ii, .int ta, .int fpm, .ref pa, .int sm, .int nx, .int tk, .int pl, .int ln, .long va, .int wr, .ref li])) → M al = some (.inl (kA 0, 7506, .inl f)) → mS D kA M T (mA M T sz) s.heap Hq_ lcq_ → lv_has ls 9 [(5, .int yq107_), (4, .int yq106_), (3, .int yq105_), (0, .ref h), (1, .int bb), (2, .int x)] → W p l e (rmL 4 0 0) s m ([.ref h, .int bb, .int x] : List Value).toArray below meth c Hq_ lcq_ 0 0 (MQ below (va_Qi (fun r u => (True) ∧ u.2 = T ∧ u.1 = M) (mB D kA M T sz) (mA M T sz)) ([.ref h, .int bb, .int x] : List Value).toArray s 0 0 (mA M T sz)) (F0 m 66 ls []) := by
          intro n
          induction n with
          | zero =>
            intro yq105_ yq106_ yq107_ Hq_ lcq_ ls hme l_yq106_ g_yq106_ l_yq107_ g_yq107_ hc_h hc_al hH hl
            exfalso; omega
          | succ n ih =>
            intro yq105_ yq106_ yq107_ Hq_ lcq_ ls hme l_yq106_ g_yq106_ l_yq107_ g_yq107_ hc_h hc_al hH hl
            refine lv_iload hx hb dX10_reachOf_66 (lv_at hl 0 rfl) ?_
            refine jif_le (tgt := 187) hx hb dX10_reachOf_68 (by decide) (fun cq108_ => ?_) (fun cq108_ => ?_)
            · skip
              have cq108_ : yq107_.toInt ≤ 0 := cq108_
              refine lv_iload_n hx hb dX10_reachOf_187 rfl (lv_at hl 2 rfl) ?_
              exact ret_i hC hr hlk hK hH (⟨trivial, rfl, rfl⟩) (Nat.le_of_ble_eq_true rfl) (Nat.le_of_ble_eq_true rfl) dX10_reachOf_188
            · skip
              have cq108_ : 0 < yq107_.toInt := cq108_
              refine lv_aload_n hx hb dX10_reachOf_71 rfl (lv_at hl 3 rfl) ?_
              refine xg hC hK hH flX10_7 hc_h rfl dX10_reachOf_72 ?_
              refine lv_iload_n hx hb dX10_reachOf_75 rfl (lv_at hl 5 rfl) ?_
              refine lv_iload hx hb dX10_reachOf_76 (lv_at hl 0 rfl) ?_
              obtain ⟨nq109_, hn_nq109_⟩ : ∃ n : Nat, yq107_.toInt = (n : Int) := ⟨(yq107_.toInt).toNat, by omega⟩
              refine goI hK hH (runS (As := [.int x, .int yq107_]) (rest := [.ref al]) hC hK hH (c_X10_partyAt (by omega) (by omega)) mlX10_56 ⟨⟨Nat.le_of_ble_eq_true rfl, Nat.le_of_ble_eq_true rfl⟩, Nat.le_of_ble_eq_true rfl, Nat.le_of_ble_eq_true rfl⟩ rfl hl.1 rfl (Nat.le_of_ble_eq_true rfl) dX10_reachOf_78) (fun rq112_ Mq110_ Tq111_ Hq_ lcq_ hP hz hH => ?_)
              try dsimp only at hP
              obtain ⟨(⟨cq113_, ⟨l_rq112_, g_rq112_⟩⟩), eT, eM⟩ := hP
              have eT := eT.symm; subst eT
              have eM := eM.symm; subst eM
              have cq113_ : rq112_.toInt = x.toInt + 184 + 6 * yq107_.toInt := cq113_
              have hx_rq112_ : rq112_.toInt = ((xn + 184 + 6 * nq109_ : Nat) : Int) := by omega
              refine lv_iconst (v := 0) hx hb dX10_reachOf_81 (by decide) ?_
              refine lv_iadd hx hb dX10_reachOf_82 ?_
              refine lv_topi (fun zq114_ e_zq114_ => ?_)
              have h_zq114_ : zq114_.toInt = rq112_.toInt + 0 := by rw [e_zq114_, iAdd (by have := iRg rq112_; have : (0 : Int32).toInt = 0 := rfl; omega) (by have := iRg rq112_; have : (0 : Int32).toInt = 0 := rfl; omega)]; rfl
              refine xild hC hK hH hc_al (iIn (by omega) (by omega)) dX10_reachOf_83 ?_
              refine lv_topi (fun xq115_ e_xq115_ => ?_)
              have k_xq115_ : xq115_ = f (xn + 184 + 6 * nq109_) := by rw [e_xq115_, clE (n := xn + 184 + 6 * nq109_) (by omega)]
              have kt_xq115_ : xq115_.toInt = (f (xn + 184 + 6 * nq109_)).toInt := by rw [k_xq115_]
              refine lv_istore (lv' := [(6, .int xq115_), (5, .int yq107_), (4, .int yq106_), (3, .int yq105_), (0, .ref h), (1, .int bb), (2, .int x)]) hx hb dX10_reachOf_84 hl (by decide) rfl (fun ls hl => ?_)
              refine lv_iload hx hb dX10_reachOf_86 (lv_at hl 1 rfl) ?_
              refine lv_iload hx hb dX10_reachOf_88 (lv_at hl 2 rfl) ?_
              refine jic_ge (tgt := 113) hx hb dX10_reachOf_90 (by decide) (fun cq116_ => ?_) (fun cq116_ => ?_)
              · skip
                have cq116_ : yq106_.toInt ≤ yq107_.toInt := cq116_
                refine lv_iconst (v := 0) hx hb dX10_reachOf_113 (by decide) ?_
                refine lv_istore (lv' := [(7, .int 0), (6, .int xq115_), (5, .int yq107_), (4, .int yq106_), (3, .int yq105_), (0, .ref h), (1, .int bb), (2, .int x)]) hx hb dX10_reachOf_114 hl (by decide) rfl (fun ls hl => ?_)
                refine lv_iload_n hx hb dX10_reachOf_116 rfl (lv_at hl 4 rfl) ?_
                refine lv_iload hx hb dX10_reachOf_117 (lv_at hl 0 rfl) ?_
                refine jif_eq (tgt := 129) hx hb dX10_reachOf_119 (by decide) (fun cq117_ => ?_) (fun cq117_ => absurd cq117_ (by decide))
                refine lv_iconst (v := 0) hx hb dX10_reachOf_129 (by decide) ?_
                refine lv_ior hx hb dX10_reachOf_130 ?_
                refine lv_topi (fun zq118_ e_zq118_ => ?_)
                refine lv_istore_n (lv' := [(3, .int zq118_), (7, .int 0), (6, .int xq115_), (5, .int yq107_), (4, .int yq106_), (0, .ref h), (1, .int bb), (2, .int x)]) hx hb dX10_reachOf_131 rfl hl (by decide) rfl (fun ls hl => ?_)
                refine lv_iload hx hb dX10_reachOf_132 (lv_at hl 1 rfl) ?_
                refine jif_ne (tgt := 153) hx hb dX10_reachOf_134 (by decide) (fun cq119_ => absurd cq119_ (by decide)) (fun cq119_ => ?_)
                refine lv_iload hx hb dX10_reachOf_137 (lv_at hl 2 rfl) ?_
                refine lv_iconst (v := -1) hx hb dX10_reachOf_139 (by decide) ?_
                refine jic_eq (tgt := 157) hx hb dX10_reachOf_140 (by decide) (fun cq120_ => ?_) (fun cq120_ => ?_)
                · skip
                  have cq120_ : xq115_.toInt = (-1) := cq120_
                  refine lv_iconst (v := 0) hx hb dX10_reachOf_157 (by decide) ?_
                  refine lv_istore (lv' := [(8, .int 0), (3, .int zq118_), (7, .int 0), (6, .int xq115_), (5, .int yq107_), (4, .int yq106_), (0, .ref h), (1, .int bb), (2, .int x)]) hx hb dX10_reachOf_158 hl (by decide) rfl (fun ls hl => ?_)
                  refine lv_iload hx hb dX10_reachOf_160 (lv_at hl 0 rfl) ?_
                  refine jif_eq (tgt := 177) hx hb dX10_reachOf_162 (by decide) (fun cq121_ => ?_) (fun cq121_ => absurd cq121_ (by decide))
                  refine lv_iload hx hb dX10_reachOf_177 (lv_at hl 5 rfl) ?_
                  refine lv_istore (lv' := [(4, .int yq106_), (8, .int 0), (3, .int zq118_), (7, .int 0), (6, .int xq115_), (5, .int yq107_), (0, .ref h), (1, .int bb), (2, .int x)]) hx hb dX10_reachOf_179 hl (by decide) rfl (fun ls hl => ?_)
                  obtain ⟨zq122_, e_zq122_⟩ : ∃ y : Int32, y = yq107_ + (-1) := ⟨_, rfl⟩
                  refine lv_iinc (v := zq122_) (lv' := [(5, .int zq122_), (4, .int yq106_), (8, .int 0), (3, .int zq118_), (7, .int 0), (6, .int xq115_), (0, .ref h), (1, .int bb), (2, .int x)]) hx hb dX10_reachOf_181 hl (k := 5) rfl (by rw [e_zq122_]; rfl) (by decide) rfl (fun ls hl => ?_)
                  have h_zq122_ : zq122_.toInt = yq107_.toInt + -1 := by rw [e_zq122_, iAdd (by have : (-1 : Int32).toInt = -1 := rfl; omega) (by have : (-1 : Int32).toInt = -1 := rfl; omega)]; rfl
                  refine lv_goto (tgt := 66) hx hb dX10_reachOf_184 (by decide) ?_
                  exact ih zq118_ yq106_ zq122_ _ _ ls (by have := iRg zq118_; have := iRg yq106_; have := iRg zq122_; omega) (by have := iRg zq118_; have := iRg yq106_; have := iRg zq122_; omega) (by have := iRg zq118_; have := iRg yq106_; have := iRg zq122_; omega) (by have := iRg zq118_; have := iRg yq106_; have := iRg zq122_; omega) (by have := iRg zq118_; have := iRg yq106_; have := iRg zq122_; omega) hc_h hc_al hH (lv_sub hl [0, 1, 3, 6, 7, 8] rfl)
                · skip
                  have cq120_ : xq115_.toInt ≠ (-1) := cq120_
                  refine lv_aload_n hx hb dX10_reachOf_143 rfl (lv_at hl 5 rfl) ?_
                  refine lv_iload_n hx hb dX10_reachOf_144 rfl (lv_at hl 6 rfl) ?_
                  refine lv_iload hx hb dX10_reachOf_145 (lv_at hl 2 rfl) ?_
                  refine goI hK hH (runV (As := [.int bb, .int xq115_]) (rest := []) hC hK hH (c_X10_isInTime hc_h hn_h hc_al hn_al ht_mt ht_pa ht_li (by exact hR_f) (by omega) (by omega)) mlX10_74 (rcvM hK hH hc_h rfl) ⟨⟨Nat.le_of_ble_eq_true rfl, Nat.le_of_ble_eq_true rfl⟩, Nat.le_of_ble_eq_true rfl, Nat.le_of_ble_eq_true rfl⟩ rfl hl.1 rfl (Nat.le_of_ble_eq_true rfl) dX10_reachOf_147) (fun rq125_ Mq123_ Tq124_ Hq_ lcq_ hP hz hH => ?_)
                  try dsimp only at hP
                  obtain ⟨(er_rq125_ | er_rq125_), eT, eM⟩ := hP
                  · skip
                    have eT := eT.symm; subst eT
                    have er_rq125_ := er_rq125_.symm; subst er_rq125_
                    have eM := eM.symm; subst eM
                    refine jif_eq (tgt := 157) hx hb dX10_reachOf_150 (by decide) (fun cq126_ => absurd cq126_ (by decide)) (fun cq126_ => ?_)
                    refine lv_iconst (v := 1) hx hb dX10_reachOf_153 (by decide) ?_
                    refine lv_goto (tgt := 158) hx hb dX10_reachOf_154 (by decide) ?_
                    refine lv_istore (lv' := [(8, .int 1), (3, .int zq118_), (7, .int 0), (6, .int xq115_), (5, .int yq107_), (4, .int yq106_), (0, .ref h), (1, .int bb), (2, .int x)]) hx hb dX10_reachOf_158 hl (by decide) rfl (fun ls hl => ?_)
                    refine lv_iload hx hb dX10_reachOf_160 (lv_at hl 0 rfl) ?_
                    refine jif_eq (tgt := 177) hx hb dX10_reachOf_162 (by decide) (fun cq127_ => absurd cq127_ (by decide)) (fun cq127_ => ?_)
                    refine lv_iload hx hb dX10_reachOf_165 (lv_at hl 4 rfl) ?_
                    refine lv_iload hx hb dX10_reachOf_167 (lv_at hl 5 rfl) ?_
                    refine jic_le (tgt := 177) hx hb dX10_reachOf_169 (by decide) (fun cq128_ => ?_) (fun cq128_ => ?_)
                    · skip
                      have cq128_ : yq107_.toInt ≤ yq106_.toInt := cq128_
                      refine lv_iload hx hb dX10_reachOf_177 (lv_at hl 5 rfl) ?_
                      refine lv_istore (lv' := [(4, .int yq106_), (8, .int 1), (3, .int zq118_), (7, .int 0), (6, .int xq115_), (5, .int yq107_), (0, .ref h), (1, .int bb), (2, .int x)]) hx hb dX10_reachOf_179 hl (by decide) rfl (fun ls hl => ?_)
                      obtain ⟨zq129_, e_zq129_⟩ : ∃ y : Int32, y = yq107_ + (-1) := ⟨_, rfl⟩
                      refine lv_iinc (v := zq129_) (lv' := [(5, .int zq129_), (4, .int yq106_), (8, .int 1), (3, .int zq118_), (7, .int 0), (6, .int xq115_), (0, .ref h), (1, .int bb), (2, .int x)]) hx hb dX10_reachOf_181 hl (k := 5) rfl (by rw [e_zq129_]; rfl) (by decide) rfl (fun ls hl => ?_)
                      have h_zq129_ : zq129_.toInt = yq107_.toInt + -1 := by rw [e_zq129_, iAdd (by have : (-1 : Int32).toInt = -1 := rfl; omega) (by have : (-1 : Int32).toInt = -1 := rfl; omega)]; rfl
                      refine lv_goto (tgt := 66) hx hb dX10_reachOf_184 (by decide) ?_
                      exact ih zq118_ yq106_ zq129_ _ _ ls (by have := iRg zq118_; have := iRg yq106_; have := iRg zq129_; omega) (by have := iRg zq118_; have := iRg yq106_; have := iRg zq129_; omega) (by have := iRg zq118_; have := iRg yq106_; have := iRg zq129_; omega) (by have := iRg zq118_; have := iRg yq106_; have := iRg zq129_; omega) (by have := iRg zq118_; have := iRg yq106_; have := iRg zq129_; omega) hc_h hc_al hH (lv_sub hl [0, 1, 3, 6, 7, 8] rfl)
                    · skip
                      have cq128_ : yq106_.toInt < yq107_.toInt := cq128_
                      refine lv_iload hx hb dX10_reachOf_172 (lv_at hl 4 rfl) ?_
                      refine lv_goto (tgt := 179) hx hb dX10_reachOf_174 (by decide) ?_
                      refine lv_istore (lv' := [(4, .int yq107_), (8, .int 1), (3, .int zq118_), (7, .int 0), (6, .int xq115_), (5, .int yq107_), (0, .ref h), (1, .int bb), (2, .int x)]) hx hb dX10_reachOf_179 hl (by decide) rfl (fun ls hl => ?_)
                      obtain ⟨zq130_, e_zq130_⟩ : ∃ y : Int32, y = yq107_ + (-1) := ⟨_, rfl⟩
                      refine lv_iinc (v := zq130_) (lv' := [(5, .int zq130_), (4, .int yq107_), (8, .int 1), (3, .int zq118_), (7, .int 0), (6, .int xq115_), (0, .ref h), (1, .int bb), (2, .int x)]) hx hb dX10_reachOf_181 hl (k := 5) rfl (by rw [e_zq130_]; rfl) (by decide) rfl (fun ls hl => ?_)
                      have h_zq130_ : zq130_.toInt = yq107_.toInt + -1 := by rw [e_zq130_, iAdd (by have : (-1 : Int32).toInt = -1 := rfl; omega) (by have : (-1 : Int32).toInt = -1 := rfl; omega)]; rfl
                      refine lv_goto (tgt := 66) hx hb dX10_reachOf_184 (by decide) ?_
                      exact ih zq118_ yq107_ zq130_ _ _ ls (by have := iRg zq118_; have := iRg yq107_; have := iRg zq130_; omega) (by have := iRg zq118_; have := iRg yq107_; have := iRg zq130_; omega) (by have := iRg zq118_; have := iRg yq107_; have := iRg zq130_; omega) (by have := iRg zq118_; have := iRg yq107_; have := iRg zq130_; omega) (by have := iRg zq118_; have := iRg yq107_; have := iRg zq130_; omega) hc_h hc_al hH (lv_sub hl [0, 1, 3, 6, 7, 8] rfl)
                  · skip
                    have eT := eT.symm; subst eT
                    have er_rq125_ := er_rq125_.symm; subst er_rq125_
                    have eM := eM.symm; subst eM
                    refine jif_eq (tgt := 157) hx hb dX10_reachOf_150 (by decide) (fun cq131_ => ?_) (fun cq131_ => absurd cq131_ (by decide))
                    refine lv_iconst (v := 0) hx hb dX10_reachOf_157 (by decide) ?_
                    refine lv_istore (lv' := [(8, .int 0), (3, .int zq118_), (7, .int 0), (6, .int xq115_), (5, .int yq107_), (4, .int yq106_), (0, .ref h), (1, .int bb), (2, .int x)]) hx hb dX10_reachOf_158 hl (by decide) rfl (fun ls hl => ?_)
                    refine lv_iload hx hb dX10_reachOf_160 (lv_at hl 0 rfl) ?_
                    refine jif_eq (tgt := 177) hx hb dX10_reachOf_162 (by decide) (fun cq132_ => ?_) (fun cq132_ => absurd cq132_ (by decide))
                    refine lv_iload hx hb dX10_reachOf_177 (lv_at hl 5 rfl) ?_
                    refine lv_istore (lv' := [(4, .int yq106_), (8, .int 0), (3, .int zq118_), (7, .int 0), (6, .int xq115_), (5, .int yq107_), (0, .ref h), (1, .int bb), (2, .int x)]) hx hb dX10_reachOf_179 hl (by decide) rfl (fun ls hl => ?_)
                    obtain ⟨zq133_, e_zq133_⟩ : ∃ y : Int32, y = yq107_ + (-1) := ⟨_, rfl⟩
                    refine lv_iinc (v := zq133_) (lv' := [(5, .int zq133_), (4, .int yq106_), (8, .int 0), (3, .int zq118_), (7, .int 0), (6, .int xq115_), (0, .ref h), (1, .int bb), (2, .int x)]) hx hb dX10_reachOf_181 hl (k := 5) rfl (by rw [e_zq133_]; rfl) (by decide) rfl (fun ls hl => ?_)
                    have h_zq133_ : zq133_.toInt = yq107_.toInt + -1 := by rw [e_zq133_, iAdd (by have : (-1 : Int32).toInt = -1 := rfl; omega) (by have : (-1 : Int32).toInt = -1 := rfl; omega)]; rfl
                    refine lv_goto (tgt := 66) hx hb dX10_reachOf_184 (by decide) ?_
                    exact ih zq118_ yq106_ zq133_ _ _ ls (by have := iRg zq118_; have := iRg yq106_; have := iRg zq133_; omega) (by have := iRg zq118_; have := iRg yq106_; have := iRg zq133_; omega) (by have := iRg zq118_; have := iRg yq106_; have := iRg zq133_; omega) (by have := iRg zq118_; have := iRg yq106_; have := iRg zq133_; omega) (by have := iRg zq118_; have := iRg yq106_; have := iRg zq133_; omega) hc_h hc_al hH (lv_sub hl [0, 1, 3, 6, 7, 8] rfl)
              · skip
                have cq116_ : yq107_.toInt < yq106_.toInt := cq116_
                refine lv_aload_n hx hb dX10_reachOf_93 rfl (lv_at hl 4 rfl) ?_
                refine lv_iload_n hx hb dX10_reachOf_94 rfl (lv_at hl 6 rfl) ?_
                refine lv_iload hx hb dX10_reachOf_95 (lv_at hl 1 rfl) ?_
                refine goI hK hH (runV (As := [.int x, .int yq107_]) (rest := []) hC hK hH (c_X10_hasSigned hc_h hn_h hc_al hn_al ht_mt ht_pa ht_li (by exact hR_f) (by omega) (by omega) (by omega) (by omega) (by omega) (by omega)) mlX10_66 (rcvM hK hH hc_h rfl) ⟨⟨Nat.le_of_ble_eq_true rfl, Nat.le_of_ble_eq_true rfl⟩, Nat.le_of_ble_eq_true rfl, Nat.le_of_ble_eq_true rfl⟩ rfl hl.1 rfl (Nat.le_of_ble_eq_true rfl) dX10_reachOf_97) (fun rq136_ Mq134_ Tq135_ Hq_ lcq_ hP hz hH => ?_)
                try dsimp only at hP
                obtain ⟨(⟨cq137_, er_rq136_⟩ | ⟨cq138_, er_rq136_⟩), eT, eM⟩ := hP
                · skip
                  have eT := eT.symm; subst eT
                  have er_rq136_ := er_rq136_.symm; subst er_rq136_
                  have eM := eM.symm; subst eM
                  have cq137_ : sgnF f xn nq109_ := cq137_
                  refine jif_eq (tgt := 113) hx hb dX10_reachOf_100 (by decide) (fun cq139_ => absurd cq139_ (by decide)) (fun cq139_ => ?_)
                  refine lv_iload hx hb dX10_reachOf_103 (lv_at hl 0 rfl) ?_
                  refine lv_iconst (v := -1) hx hb dX10_reachOf_105 (by decide) ?_
                  refine jic_ne (tgt := 113) hx hb dX10_reachOf_106 (by decide) (fun cq140_ => ?_) (fun cq140_ => ?_)
                  · skip
                    have cq140_ : xq115_.toInt ≠ (-1) := cq140_
                    refine lv_iconst (v := 0) hx hb dX10_reachOf_113 (by decide) ?_
                    refine lv_istore (lv' := [(7, .int 0), (6, .int xq115_), (5, .int yq107_), (4, .int yq106_), (3, .int yq105_), (0, .ref h), (1, .int bb), (2, .int x)]) hx hb dX10_reachOf_114 hl (by decide) rfl (fun ls hl => ?_)
                    refine lv_iload_n hx hb dX10_reachOf_116 rfl (lv_at hl 4 rfl) ?_
                    refine lv_iload hx hb dX10_reachOf_117 (lv_at hl 0 rfl) ?_
                    refine jif_eq (tgt := 129) hx hb dX10_reachOf_119 (by decide) (fun cq141_ => ?_) (fun cq141_ => absurd cq141_ (by decide))
                    refine lv_iconst (v := 0) hx hb dX10_reachOf_129 (by decide) ?_
                    refine lv_ior hx hb dX10_reachOf_130 ?_
                    refine lv_topi (fun zq142_ e_zq142_ => ?_)
                    refine lv_istore_n (lv' := [(3, .int zq142_), (7, .int 0), (6, .int xq115_), (5, .int yq107_), (4, .int yq106_), (0, .ref h), (1, .int bb), (2, .int x)]) hx hb dX10_reachOf_131 rfl hl (by decide) rfl (fun ls hl => ?_)
                    refine lv_iload hx hb dX10_reachOf_132 (lv_at hl 1 rfl) ?_
                    refine jif_ne (tgt := 153) hx hb dX10_reachOf_134 (by decide) (fun cq143_ => absurd cq143_ (by decide)) (fun cq143_ => ?_)
                    refine lv_iload hx hb dX10_reachOf_137 (lv_at hl 2 rfl) ?_
                    refine lv_iconst (v := -1) hx hb dX10_reachOf_139 (by decide) ?_
                    refine jic_eq (tgt := 157) hx hb dX10_reachOf_140 (by decide) (fun cq144_ => ?_) (fun cq144_ => ?_)
                    · skip
                      have cq144_ : xq115_.toInt = (-1) := cq144_
                      refine lv_iconst (v := 0) hx hb dX10_reachOf_157 (by decide) ?_
                      refine lv_istore (lv' := [(8, .int 0), (3, .int zq142_), (7, .int 0), (6, .int xq115_), (5, .int yq107_), (4, .int yq106_), (0, .ref h), (1, .int bb), (2, .int x)]) hx hb dX10_reachOf_158 hl (by decide) rfl (fun ls hl => ?_)
                      refine lv_iload hx hb dX10_reachOf_160 (lv_at hl 0 rfl) ?_
                      refine jif_eq (tgt := 177) hx hb dX10_reachOf_162 (by decide) (fun cq145_ => ?_) (fun cq145_ => absurd cq145_ (by decide))
                      refine lv_iload hx hb dX10_reachOf_177 (lv_at hl 5 rfl) ?_
                      refine lv_istore (lv' := [(4, .int yq106_), (8, .int 0), (3, .int zq142_), (7, .int 0), (6, .int xq115_), (5, .int yq107_), (0, .ref h), (1, .int bb), (2, .int x)]) hx hb dX10_reachOf_179 hl (by decide) rfl (fun ls hl => ?_)
                      obtain ⟨zq146_, e_zq146_⟩ : ∃ y : Int32, y = yq107_ + (-1) := ⟨_, rfl⟩
                      refine lv_iinc (v := zq146_) (lv' := [(5, .int zq146_), (4, .int yq106_), (8, .int 0), (3, .int zq142_), (7, .int 0), (6, .int xq115_), (0, .ref h), (1, .int bb), (2, .int x)]) hx hb dX10_reachOf_181 hl (k := 5) rfl (by rw [e_zq146_]; rfl) (by decide) rfl (fun ls hl => ?_)
                      have h_zq146_ : zq146_.toInt = yq107_.toInt + -1 := by rw [e_zq146_, iAdd (by have : (-1 : Int32).toInt = -1 := rfl; omega) (by have : (-1 : Int32).toInt = -1 := rfl; omega)]; rfl
                      refine lv_goto (tgt := 66) hx hb dX10_reachOf_184 (by decide) ?_
                      exact ih zq142_ yq106_ zq146_ _ _ ls (by have := iRg zq142_; have := iRg yq106_; have := iRg zq146_; omega) (by have := iRg zq142_; have := iRg yq106_; have := iRg zq146_; omega) (by have := iRg zq142_; have := iRg yq106_; have := iRg zq146_; omega) (by have := iRg zq142_; have := iRg yq106_; have := iRg zq146_; omega) (by have := iRg zq142_; have := iRg yq106_; have := iRg zq146_; omega) hc_h hc_al hH (lv_sub hl [0, 1, 3, 6, 7, 8] rfl)
                    · skip
                      have cq144_ : xq115_.toInt ≠ (-1) := cq144_
                      refine lv_aload_n hx hb dX10_reachOf_143 rfl (lv_at hl 5 rfl) ?_
                      refine lv_iload_n hx hb dX10_reachOf_144 rfl (lv_at hl 6 rfl) ?_
                      refine lv_iload hx hb dX10_reachOf_145 (lv_at hl 2 rfl) ?_
                      refine goI hK hH (runV (As := [.int bb, .int xq115_]) (rest := []) hC hK hH (c_X10_isInTime hc_h hn_h hc_al hn_al ht_mt ht_pa ht_li (by exact hR_f) (by omega) (by omega)) mlX10_74 (rcvM hK hH hc_h rfl) ⟨⟨Nat.le_of_ble_eq_true rfl, Nat.le_of_ble_eq_true rfl⟩, Nat.le_of_ble_eq_true rfl, Nat.le_of_ble_eq_true rfl⟩ rfl hl.1 rfl (Nat.le_of_ble_eq_true rfl) dX10_reachOf_147) (fun rq149_ Mq147_ Tq148_ Hq_ lcq_ hP hz hH => ?_)
                      try dsimp only at hP
                      obtain ⟨(er_rq149_ | er_rq149_), eT, eM⟩ := hP
                      · skip
                        have eT := eT.symm; subst eT
                        have er_rq149_ := er_rq149_.symm; subst er_rq149_
                        have eM := eM.symm; subst eM
                        refine jif_eq (tgt := 157) hx hb dX10_reachOf_150 (by decide) (fun cq150_ => absurd cq150_ (by decide)) (fun cq150_ => ?_)
                        refine lv_iconst (v := 1) hx hb dX10_reachOf_153 (by decide) ?_
                        refine lv_goto (tgt := 158) hx hb dX10_reachOf_154 (by decide) ?_
                        refine lv_istore (lv' := [(8, .int 1), (3, .int zq142_), (7, .int 0), (6, .int xq115_), (5, .int yq107_), (4, .int yq106_), (0, .ref h), (1, .int bb), (2, .int x)]) hx hb dX10_reachOf_158 hl (by decide) rfl (fun ls hl => ?_)
                        refine lv_iload hx hb dX10_reachOf_160 (lv_at hl 0 rfl) ?_
                        refine jif_eq (tgt := 177) hx hb dX10_reachOf_162 (by decide) (fun cq151_ => absurd cq151_ (by decide)) (fun cq151_ => ?_)
                        refine lv_iload hx hb dX10_reachOf_165 (lv_at hl 4 rfl) ?_
                        refine lv_iload hx hb dX10_reachOf_167 (lv_at hl 5 rfl) ?_
                        refine jic_le (tgt := 177) hx hb dX10_reachOf_169 (by decide) (fun cq152_ => ?_) (fun cq152_ => ?_)
                        · skip
                          have cq152_ : yq107_.toInt ≤ yq106_.toInt := cq152_
                          refine lv_iload hx hb dX10_reachOf_177 (lv_at hl 5 rfl) ?_
                          refine lv_istore (lv' := [(4, .int yq106_), (8, .int 1), (3, .int zq142_), (7, .int 0), (6, .int xq115_), (5, .int yq107_), (0, .ref h), (1, .int bb), (2, .int x)]) hx hb dX10_reachOf_179 hl (by decide) rfl (fun ls hl => ?_)
                          obtain ⟨zq153_, e_zq153_⟩ : ∃ y : Int32, y = yq107_ + (-1) := ⟨_, rfl⟩
                          refine lv_iinc (v := zq153_) (lv' := [(5, .int zq153_), (4, .int yq106_), (8, .int 1), (3, .int zq142_), (7, .int 0), (6, .int xq115_), (0, .ref h), (1, .int bb), (2, .int x)]) hx hb dX10_reachOf_181 hl (k := 5) rfl (by rw [e_zq153_]; rfl) (by decide) rfl (fun ls hl => ?_)
                          have h_zq153_ : zq153_.toInt = yq107_.toInt + -1 := by rw [e_zq153_, iAdd (by have : (-1 : Int32).toInt = -1 := rfl; omega) (by have : (-1 : Int32).toInt = -1 := rfl; omega)]; rfl
                          refine lv_goto (tgt := 66) hx hb dX10_reachOf_184 (by decide) ?_
                          exact ih zq142_ yq106_ zq153_ _ _ ls (by have := iRg zq142_; have := iRg yq106_; have := iRg zq153_; omega) (by have := iRg zq142_; have := iRg yq106_; have := iRg zq153_; omega) (by have := iRg zq142_; have := iRg yq106_; have := iRg zq153_; omega) (by have := iRg zq142_; have := iRg yq106_; have := iRg zq153_; omega) (by have := iRg zq142_; have := iRg yq106_; have := iRg zq153_; omega) hc_h hc_al hH (lv_sub hl [0, 1, 3, 6, 7, 8] rfl)
                        · skip
                          have cq152_ : yq106_.toInt < yq107_.toInt := cq152_
                          refine lv_iload hx hb dX10_reachOf_172 (lv_at hl 4 rfl) ?_
                          refine lv_goto (tgt := 179) hx hb dX10_reachOf_174 (by decide) ?_
                          refine lv_istore (lv' := [(4, .int yq107_), (8, .int 1), (3, .int zq142_), (7, .int 0), (6, .int xq115_), (5, .int yq107_), (0, .ref h), (1, .int bb), (2, .int x)]) hx hb dX10_reachOf_179 hl (by decide) rfl (fun ls hl => ?_)
                          obtain ⟨zq154_, e_zq154_⟩ : ∃ y : Int32, y = yq107_ + (-1) := ⟨_, rfl⟩
                          refine lv_iinc (v := zq154_) (lv' := [(5, .int zq154_), (4, .int yq107_), (8, .int 1), (3, .int zq142_), (7, .int 0), (6, .int xq115_), (0, .ref h), (1, .int bb), (2, .int x)]) hx hb dX10_reachOf_181 hl (k := 5) rfl (by rw [e_zq154_]; rfl) (by decide) rfl (fun ls hl => ?_)
                          have h_zq154_ : zq154_.toInt = yq107_.toInt + -1 := by rw [e_zq154_, iAdd (by have : (-1 : Int32).toInt = -1 := rfl; omega) (by have : (-1 : Int32).toInt = -1 := rfl; omega)]; rfl
                          refine lv_goto (tgt := 66) hx hb dX10_reachOf_184 (by decide) ?_
                          exact ih zq142_ yq107_ zq154_ _ _ ls (by have := iRg zq142_; have := iRg yq107_; have := iRg zq154_; omega) (by have := iRg zq142_; have := iRg yq107_; have := iRg zq154_; omega) (by have := iRg zq142_; have := iRg yq107_; have := iRg zq154_; omega) (by have := iRg zq142_; have := iRg yq107_; have := iRg zq154_; omega) (by have := iRg zq142_; have := iRg yq107_; have := iRg zq154_; omega) hc_h hc_al hH (lv_sub hl [0, 1, 3, 6, 7, 8] rfl)
                      · skip
                        have eT := eT.symm; subst eT
                        have er_rq149_ := er_rq149_.symm; subst er_rq149_
                        have eM := eM.symm; subst eM
                        refine jif_eq (tgt := 157) hx hb dX10_reachOf_150 (by decide) (fun cq155_ => ?_) (fun cq155_ => absurd cq155_ (by decide))
                        refine lv_iconst (v := 0) hx hb dX10_reachOf_157 (by decide) ?_
                        refine lv_istore (lv' := [(8, .int 0), (3, .int zq142_), (7, .int 0), (6, .int xq115_), (5, .int yq107_), (4, .int yq106_), (0, .ref h), (1, .int bb), (2, .int x)]) hx hb dX10_reachOf_158 hl (by decide) rfl (fun ls hl => ?_)
                        refine lv_iload hx hb dX10_reachOf_160 (lv_at hl 0 rfl) ?_
                        refine jif_eq (tgt := 177) hx hb dX10_reachOf_162 (by decide) (fun cq156_ => ?_) (fun cq156_ => absurd cq156_ (by decide))
                        refine lv_iload hx hb dX10_reachOf_177 (lv_at hl 5 rfl) ?_
                        refine lv_istore (lv' := [(4, .int yq106_), (8, .int 0), (3, .int zq142_), (7, .int 0), (6, .int xq115_), (5, .int yq107_), (0, .ref h), (1, .int bb), (2, .int x)]) hx hb dX10_reachOf_179 hl (by decide) rfl (fun ls hl => ?_)
                        obtain ⟨zq157_, e_zq157_⟩ : ∃ y : Int32, y = yq107_ + (-1) := ⟨_, rfl⟩
                        refine lv_iinc (v := zq157_) (lv' := [(5, .int zq157_), (4, .int yq106_), (8, .int 0), (3, .int zq142_), (7, .int 0), (6, .int xq115_), (0, .ref h), (1, .int bb), (2, .int x)]) hx hb dX10_reachOf_181 hl (k := 5) rfl (by rw [e_zq157_]; rfl) (by decide) rfl (fun ls hl => ?_)
                        have h_zq157_ : zq157_.toInt = yq107_.toInt + -1 := by rw [e_zq157_, iAdd (by have : (-1 : Int32).toInt = -1 := rfl; omega) (by have : (-1 : Int32).toInt = -1 := rfl; omega)]; rfl
                        refine lv_goto (tgt := 66) hx hb dX10_reachOf_184 (by decide) ?_
                        exact ih zq142_ yq106_ zq157_ _ _ ls (by have := iRg zq142_; have := iRg yq106_; have := iRg zq157_; omega) (by have := iRg zq142_; have := iRg yq106_; have := iRg zq157_; omega) (by have := iRg zq142_; have := iRg yq106_; have := iRg zq157_; omega) (by have := iRg zq142_; have := iRg yq106_; have := iRg zq157_; omega) (by have := iRg zq142_; have := iRg yq106_; have := iRg zq157_; omega) hc_h hc_al hH (lv_sub hl [0, 1, 3, 6, 7, 8] rfl)
                  · skip
                    have cq140_ : xq115_.toInt = (-1) := cq140_
                    refine lv_iconst (v := 1) hx hb dX10_reachOf_109 (by decide) ?_
                    refine lv_goto (tgt := 114) hx hb dX10_reachOf_110 (by decide) ?_
                    refine lv_istore (lv' := [(7, .int 1), (6, .int xq115_), (5, .int yq107_), (4, .int yq106_), (3, .int yq105_), (0, .ref h), (1, .int bb), (2, .int x)]) hx hb dX10_reachOf_114 hl (by decide) rfl (fun ls hl => ?_)
                    refine lv_iload_n hx hb dX10_reachOf_116 rfl (lv_at hl 4 rfl) ?_
                    refine lv_iload hx hb dX10_reachOf_117 (lv_at hl 0 rfl) ?_
                    refine jif_eq (tgt := 129) hx hb dX10_reachOf_119 (by decide) (fun cq158_ => absurd cq158_ (by decide)) (fun cq158_ => ?_)
                    refine lv_iconst (v := 1) hx hb dX10_reachOf_122 (by decide) ?_
                    refine lv_iload hx hb dX10_reachOf_123 (lv_at hl 2 rfl) ?_
                    refine lv_ishl hx hb dX10_reachOf_125 ?_
                    refine lv_topi (fun zq159_ e_zq159_ => ?_)
                    refine lv_goto (tgt := 130) hx hb dX10_reachOf_126 (by decide) ?_
                    refine lv_ior hx hb dX10_reachOf_130 ?_
                    refine lv_topi (fun zq160_ e_zq160_ => ?_)
                    refine lv_istore_n (lv' := [(3, .int zq160_), (7, .int 1), (6, .int xq115_), (5, .int yq107_), (4, .int yq106_), (0, .ref h), (1, .int bb), (2, .int x)]) hx hb dX10_reachOf_131 rfl hl (by decide) rfl (fun ls hl => ?_)
                    refine lv_iload hx hb dX10_reachOf_132 (lv_at hl 1 rfl) ?_
                    refine jif_ne (tgt := 153) hx hb dX10_reachOf_134 (by decide) (fun cq161_ => ?_) (fun cq161_ => absurd cq161_ (by decide))
                    refine lv_iconst (v := 1) hx hb dX10_reachOf_153 (by decide) ?_
                    refine lv_goto (tgt := 158) hx hb dX10_reachOf_154 (by decide) ?_
                    refine lv_istore (lv' := [(8, .int 1), (3, .int zq160_), (7, .int 1), (6, .int xq115_), (5, .int yq107_), (4, .int yq106_), (0, .ref h), (1, .int bb), (2, .int x)]) hx hb dX10_reachOf_158 hl (by decide) rfl (fun ls hl => ?_)
                    refine lv_iload hx hb dX10_reachOf_160 (lv_at hl 0 rfl) ?_
                    refine jif_eq (tgt := 177) hx hb dX10_reachOf_162 (by decide) (fun cq162_ => absurd cq162_ (by decide)) (fun cq162_ => ?_)
                    refine lv_iload hx hb dX10_reachOf_165 (lv_at hl 4 rfl) ?_
                    refine lv_iload hx hb dX10_reachOf_167 (lv_at hl 5 rfl) ?_
                    refine jic_le (tgt := 177) hx hb dX10_reachOf_169 (by decide) (fun cq163_ => ?_) (fun cq163_ => ?_)
                    · skip
                      have cq163_ : yq107_.toInt ≤ yq106_.toInt := cq163_
                      refine lv_iload hx hb dX10_reachOf_177 (lv_at hl 5 rfl) ?_
                      refine lv_istore (lv' := [(4, .int yq106_), (8, .int 1), (3, .int zq160_), (7, .int 1), (6, .int xq115_), (5, .int yq107_), (0, .ref h), (1, .int bb), (2, .int x)]) hx hb dX10_reachOf_179 hl (by decide) rfl (fun ls hl => ?_)
                      obtain ⟨zq164_, e_zq164_⟩ : ∃ y : Int32, y = yq107_ + (-1) := ⟨_, rfl⟩
                      refine lv_iinc (v := zq164_) (lv' := [(5, .int zq164_), (4, .int yq106_), (8, .int 1), (3, .int zq160_), (7, .int 1), (6, .int xq115_), (0, .ref h), (1, .int bb), (2, .int x)]) hx hb dX10_reachOf_181 hl (k := 5) rfl (by rw [e_zq164_]; rfl) (by decide) rfl (fun ls hl => ?_)
                      have h_zq164_ : zq164_.toInt = yq107_.toInt + -1 := by rw [e_zq164_, iAdd (by have : (-1 : Int32).toInt = -1 := rfl; omega) (by have : (-1 : Int32).toInt = -1 := rfl; omega)]; rfl
                      refine lv_goto (tgt := 66) hx hb dX10_reachOf_184 (by decide) ?_
                      exact ih zq160_ yq106_ zq164_ _ _ ls (by have := iRg zq160_; have := iRg yq106_; have := iRg zq164_; omega) (by have := iRg zq160_; have := iRg yq106_; have := iRg zq164_; omega) (by have := iRg zq160_; have := iRg yq106_; have := iRg zq164_; omega) (by have := iRg zq160_; have := iRg yq106_; have := iRg zq164_; omega) (by have := iRg zq160_; have := iRg yq106_; have := iRg zq164_; omega) hc_h hc_al hH (lv_sub hl [0, 1, 3, 6, 7, 8] rfl)
                    · skip
                      have cq163_ : yq106_.toInt < yq107_.toInt := cq163_
                      refine lv_iload hx hb dX10_reachOf_172 (lv_at hl 4 rfl) ?_
                      refine lv_goto (tgt := 179) hx hb dX10_reachOf_174 (by decide) ?_
                      refine lv_istore (lv' := [(4, .int yq107_), (8, .int 1), (3, .int zq160_), (7, .int 1), (6, .int xq115_), (5, .int yq107_), (0, .ref h), (1, .int bb), (2, .int x)]) hx hb dX10_reachOf_179 hl (by decide) rfl (fun ls hl => ?_)
                      obtain ⟨zq165_, e_zq165_⟩ : ∃ y : Int32, y = yq107_ + (-1) := ⟨_, rfl⟩
                      refine lv_iinc (v := zq165_) (lv' := [(5, .int zq165_), (4, .int yq107_), (8, .int 1), (3, .int zq160_), (7, .int 1), (6, .int xq115_), (0, .ref h), (1, .int bb), (2, .int x)]) hx hb dX10_reachOf_181 hl (k := 5) rfl (by rw [e_zq165_]; rfl) (by decide) rfl (fun ls hl => ?_)
                      have h_zq165_ : zq165_.toInt = yq107_.toInt + -1 := by rw [e_zq165_, iAdd (by have : (-1 : Int32).toInt = -1 := rfl; omega) (by have : (-1 : Int32).toInt = -1 := rfl; omega)]; rfl
                      refine lv_goto (tgt := 66) hx hb dX10_reachOf_184 (by decide) ?_
                      exact ih zq160_ yq107_ zq165_ _ _ ls (by have := iRg zq160_; have := iRg yq107_; have := iRg zq165_; omega) (by have := iRg zq160_; have := iRg yq107_; have := iRg zq165_; omega) (by have := iRg zq160_; have := iRg yq107_; have := iRg zq165_; omega) (by have := iRg zq160_; have := iRg yq107_; have := iRg zq165_; omega) (by have := iRg zq160_; have := iRg yq107_; have := iRg zq165_; omega) hc_h hc_al hH (lv_sub hl [0, 1, 3, 6, 7, 8] rfl)
                · skip
                  have eT := eT.symm; subst eT
                  have er_rq136_ := er_rq136_.symm; subst er_rq136_
                  have eM := eM.symm; subst eM
                  have cq138_ : ¬ sgnF f xn nq109_ := cq138_
                  refine jif_eq (tgt := 113) hx hb dX10_reachOf_100 (by decide) (fun cq166_ => ?_) (fun cq166_ => absurd cq166_ (by decide))
                  refine lv_iconst (v := 0) hx hb dX10_reachOf_113 (by decide) ?_
                  refine lv_istore (lv' := [(7, .int 0), (6, .int xq115_), (5, .int yq107_), (4, .int yq106_), (3, .int yq105_), (0, .ref h), (1, .int bb), (2, .int x)]) hx hb dX10_reachOf_114 hl (by decide) rfl (fun ls hl => ?_)
                  refine lv_iload_n hx hb dX10_reachOf_116 rfl (lv_at hl 4 rfl) ?_
                  refine lv_iload hx hb dX10_reachOf_117 (lv_at hl 0 rfl) ?_
                  refine jif_eq (tgt := 129) hx hb dX10_reachOf_119 (by decide) (fun cq167_ => ?_) (fun cq167_ => absurd cq167_ (by decide))
                  refine lv_iconst (v := 0) hx hb dX10_reachOf_129 (by decide) ?_
                  refine lv_ior hx hb dX10_reachOf_130 ?_
                  refine lv_topi (fun zq168_ e_zq168_ => ?_)
                  refine lv_istore_n (lv' := [(3, .int zq168_), (7, .int 0), (6, .int xq115_), (5, .int yq107_), (4, .int yq106_), (0, .ref h), (1, .int bb), (2, .int x)]) hx hb dX10_reachOf_131 rfl hl (by decide) rfl (fun ls hl => ?_)
                  refine lv_iload hx hb dX10_reachOf_132 (lv_at hl 1 rfl) ?_
                  refine jif_ne (tgt := 153) hx hb dX10_reachOf_134 (by decide) (fun cq169_ => absurd cq169_ (by decide)) (fun cq169_ => ?_)
                  refine lv_iload hx hb dX10_reachOf_137 (lv_at hl 2 rfl) ?_
                  refine lv_iconst (v := -1) hx hb dX10_reachOf_139 (by decide) ?_
                  refine jic_eq (tgt := 157) hx hb dX10_reachOf_140 (by decide) (fun cq170_ => ?_) (fun cq170_ => ?_)
                  · skip
                    have cq170_ : xq115_.toInt = (-1) := cq170_
                    refine lv_iconst (v := 0) hx hb dX10_reachOf_157 (by decide) ?_
                    refine lv_istore (lv' := [(8, .int 0), (3, .int zq168_), (7, .int 0), (6, .int xq115_), (5, .int yq107_), (4, .int yq106_), (0, .ref h), (1, .int bb), (2, .int x)]) hx hb dX10_reachOf_158 hl (by decide) rfl (fun ls hl => ?_)
                    refine lv_iload hx hb dX10_reachOf_160 (lv_at hl 0 rfl) ?_
                    refine jif_eq (tgt := 177) hx hb dX10_reachOf_162 (by decide) (fun cq171_ => ?_) (fun cq171_ => absurd cq171_ (by decide))
                    refine lv_iload hx hb dX10_reachOf_177 (lv_at hl 5 rfl) ?_
                    refine lv_istore (lv' := [(4, .int yq106_), (8, .int 0), (3, .int zq168_), (7, .int 0), (6, .int xq115_), (5, .int yq107_), (0, .ref h), (1, .int bb), (2, .int x)]) hx hb dX10_reachOf_179 hl (by decide) rfl (fun ls hl => ?_)
                    obtain ⟨zq172_, e_zq172_⟩ : ∃ y : Int32, y = yq107_ + (-1) := ⟨_, rfl⟩
                    refine lv_iinc (v := zq172_) (lv' := [(5, .int zq172_), (4, .int yq106_), (8, .int 0), (3, .int zq168_), (7, .int 0), (6, .int xq115_), (0, .ref h), (1, .int bb), (2, .int x)]) hx hb dX10_reachOf_181 hl (k := 5) rfl (by rw [e_zq172_]; rfl) (by decide) rfl (fun ls hl => ?_)
                    have h_zq172_ : zq172_.toInt = yq107_.toInt + -1 := by rw [e_zq172_, iAdd (by have : (-1 : Int32).toInt = -1 := rfl; omega) (by have : (-1 : Int32).toInt = -1 := rfl; omega)]; rfl
                    refine lv_goto (tgt := 66) hx hb dX10_reachOf_184 (by decide) ?_
                    exact ih zq168_ yq106_ zq172_ _ _ ls (by have := iRg zq168_; have := iRg yq106_; have := iRg zq172_; omega) (by have := iRg zq168_; have := iRg yq106_; have := iRg zq172_; omega) (by have := iRg zq168_; have := iRg yq106_; have := iRg zq172_; omega) (by have := iRg zq168_; have := iRg yq106_; have := iRg zq172_; omega) (by have := iRg zq168_; have := iRg yq106_; have := iRg zq172_; omega) hc_h hc_al hH (lv_sub hl [0, 1, 3, 6, 7, 8] rfl)
                  · skip
                    have cq170_ : xq115_.toInt ≠ (-1) := cq170_
                    refine lv_aload_n hx hb dX10_reachOf_143 rfl (lv_at hl 5 rfl) ?_
                    refine lv_iload_n hx hb dX10_reachOf_144 rfl (lv_at hl 6 rfl) ?_
                    refine lv_iload hx hb dX10_reachOf_145 (lv_at hl 2 rfl) ?_
                    refine goI hK hH (runV (As := [.int bb, .int xq115_]) (rest := []) hC hK hH (c_X10_isInTime hc_h hn_h hc_al hn_al ht_mt ht_pa ht_li (by exact hR_f) (by omega) (by omega)) mlX10_74 (rcvM hK hH hc_h rfl) ⟨⟨Nat.le_of_ble_eq_true rfl, Nat.le_of_ble_eq_true rfl⟩, Nat.le_of_ble_eq_true rfl, Nat.le_of_ble_eq_true rfl⟩ rfl hl.1 rfl (Nat.le_of_ble_eq_true rfl) dX10_reachOf_147) (fun rq175_ Mq173_ Tq174_ Hq_ lcq_ hP hz hH => ?_)
                    try dsimp only at hP
                    obtain ⟨(er_rq175_ | er_rq175_), eT, eM⟩ := hP
                    · skip
                      have eT := eT.symm; subst eT
                      have er_rq175_ := er_rq175_.symm; subst er_rq175_
                      have eM := eM.symm; subst eM
                      refine jif_eq (tgt := 157) hx hb dX10_reachOf_150 (by decide) (fun cq176_ => absurd cq176_ (by decide)) (fun cq176_ => ?_)
                      refine lv_iconst (v := 1) hx hb dX10_reachOf_153 (by decide) ?_
                      refine lv_goto (tgt := 158) hx hb dX10_reachOf_154 (by decide) ?_
                      refine lv_istore (lv' := [(8, .int 1), (3, .int zq168_), (7, .int 0), (6, .int xq115_), (5, .int yq107_), (4, .int yq106_), (0, .ref h), (1, .int bb), (2, .int x)]) hx hb dX10_reachOf_158 hl (by decide) rfl (fun ls hl => ?_)
                      refine lv_iload hx hb dX10_reachOf_160 (lv_at hl 0 rfl) ?_
                      refine jif_eq (tgt := 177) hx hb dX10_reachOf_162 (by decide) (fun cq177_ => absurd cq177_ (by decide)) (fun cq177_ => ?_)
                      refine lv_iload hx hb dX10_reachOf_165 (lv_at hl 4 rfl) ?_
                      refine lv_iload hx hb dX10_reachOf_167 (lv_at hl 5 rfl) ?_
                      refine jic_le (tgt := 177) hx hb dX10_reachOf_169 (by decide) (fun cq178_ => ?_) (fun cq178_ => ?_)
                      · skip
                        have cq178_ : yq107_.toInt ≤ yq106_.toInt := cq178_
                        refine lv_iload hx hb dX10_reachOf_177 (lv_at hl 5 rfl) ?_
                        refine lv_istore (lv' := [(4, .int yq106_), (8, .int 1), (3, .int zq168_), (7, .int 0), (6, .int xq115_), (5, .int yq107_), (0, .ref h), (1, .int bb), (2, .int x)]) hx hb dX10_reachOf_179 hl (by decide) rfl (fun ls hl => ?_)
                        obtain ⟨zq179_, e_zq179_⟩ : ∃ y : Int32, y = yq107_ + (-1) := ⟨_, rfl⟩
                        refine lv_iinc (v := zq179_) (lv' := [(5, .int zq179_), (4, .int yq106_), (8, .int 1), (3, .int zq168_), (7, .int 0), (6, .int xq115_), (0, .ref h), (1, .int bb), (2, .int x)]) hx hb dX10_reachOf_181 hl (k := 5) rfl (by rw [e_zq179_]; rfl) (by decide) rfl (fun ls hl => ?_)
                        have h_zq179_ : zq179_.toInt = yq107_.toInt + -1 := by rw [e_zq179_, iAdd (by have : (-1 : Int32).toInt = -1 := rfl; omega) (by have : (-1 : Int32).toInt = -1 := rfl; omega)]; rfl
                        refine lv_goto (tgt := 66) hx hb dX10_reachOf_184 (by decide) ?_
                        exact ih zq168_ yq106_ zq179_ _ _ ls (by have := iRg zq168_; have := iRg yq106_; have := iRg zq179_; omega) (by have := iRg zq168_; have := iRg yq106_; have := iRg zq179_; omega) (by have := iRg zq168_; have := iRg yq106_; have := iRg zq179_; omega) (by have := iRg zq168_; have := iRg yq106_; have := iRg zq179_; omega) (by have := iRg zq168_; have := iRg yq106_; have := iRg zq179_; omega) hc_h hc_al hH (lv_sub hl [0, 1, 3, 6, 7, 8] rfl)
                      · skip
                        have cq178_ : yq106_.toInt < yq107_.toInt := cq178_
                        refine lv_iload hx hb dX10_reachOf_172 (lv_at hl 4 rfl) ?_
                        refine lv_goto (tgt := 179) hx hb dX10_reachOf_174 (by decide) ?_
                        refine lv_istore (lv' := [(4, .int yq107_), (8, .int 1), (3, .int zq168_), (7, .int 0), (6, .int xq115_), (5, .int yq107_), (0, .ref h), (1, .int bb), (2, .int x)]) hx hb dX10_reachOf_179 hl (by decide) rfl (fun ls hl => ?_)
                        obtain ⟨zq180_, e_zq180_⟩ : ∃ y : Int32, y = yq107_ + (-1) := ⟨_, rfl⟩
                        refine lv_iinc (v := zq180_) (lv' := [(5, .int zq180_), (4, .int yq107_), (8, .int 1), (3, .int zq168_), (7, .int 0), (6, .int xq115_), (0, .ref h), (1, .int bb), (2, .int x)]) hx hb dX10_reachOf_181 hl (k := 5) rfl (by rw [e_zq180_]; rfl) (by decide) rfl (fun ls hl => ?_)
                        have h_zq180_ : zq180_.toInt = yq107_.toInt + -1 := by rw [e_zq180_, iAdd (by have : (-1 : Int32).toInt = -1 := rfl; omega) (by have : (-1 : Int32).toInt = -1 := rfl; omega)]; rfl
                        refine lv_goto (tgt := 66) hx hb dX10_reachOf_184 (by decide) ?_
                        exact ih zq168_ yq107_ zq180_ _ _ ls (by have := iRg zq168_; have := iRg yq107_; have := iRg zq180_; omega) (by have := iRg zq168_; have := iRg yq107_; have := iRg zq180_; omega) (by have := iRg zq168_; have := iRg yq107_; have := iRg zq180_; omega) (by have := iRg zq168_; have := iRg yq107_; have := iRg zq180_; omega) (by have := iRg zq168_; have := iRg yq107_; have := iRg zq180_; omega) hc_h hc_al hH (lv_sub hl [0, 1, 3, 6, 7, 8] rfl)
                    · skip
                      have eT := eT.symm; subst eT
                      have er_rq175_ := er_rq175_.symm; subst er_rq175_
                      have eM := eM.symm; subst eM
                      refine jif_eq (tgt := 157) hx hb dX10_reachOf_150 (by decide) (fun cq181_ => ?_) (fun cq181_ => absurd cq181_ (by decide))
                      refine lv_iconst (v := 0) hx hb dX10_reachOf_157 (by decide) ?_
                      refine lv_istore (lv' := [(8, .int 0), (3, .int zq168_), (7, .int 0), (6, .int xq115_), (5, .int yq107_), (4, .int yq106_), (0, .ref h), (1, .int bb), (2, .int x)]) hx hb dX10_reachOf_158 hl (by decide) rfl (fun ls hl => ?_)
                      refine lv_iload hx hb dX10_reachOf_160 (lv_at hl 0 rfl) ?_
                      refine jif_eq (tgt := 177) hx hb dX10_reachOf_162 (by decide) (fun cq182_ => ?_) (fun cq182_ => absurd cq182_ (by decide))
                      refine lv_iload hx hb dX10_reachOf_177 (lv_at hl 5 rfl) ?_
                      refine lv_istore (lv' := [(4, .int yq106_), (8, .int 0), (3, .int zq168_), (7, .int 0), (6, .int xq115_), (5, .int yq107_), (0, .ref h), (1, .int bb), (2, .int x)]) hx hb dX10_reachOf_179 hl (by decide) rfl (fun ls hl => ?_)
                      obtain ⟨zq183_, e_zq183_⟩ : ∃ y : Int32, y = yq107_ + (-1) := ⟨_, rfl⟩
                      refine lv_iinc (v := zq183_) (lv' := [(5, .int zq183_), (4, .int yq106_), (8, .int 0), (3, .int zq168_), (7, .int 0), (6, .int xq115_), (0, .ref h), (1, .int bb), (2, .int x)]) hx hb dX10_reachOf_181 hl (k := 5) rfl (by rw [e_zq183_]; rfl) (by decide) rfl (fun ls hl => ?_)
                      have h_zq183_ : zq183_.toInt = yq107_.toInt + -1 := by rw [e_zq183_, iAdd (by have : (-1 : Int32).toInt = -1 := rfl; omega) (by have : (-1 : Int32).toInt = -1 := rfl; omega)]; rfl
                      refine lv_goto (tgt := 66) hx hb dX10_reachOf_184 (by decide) ?_
                      exact ih zq168_ yq106_ zq183_ _ _ ls (by have := iRg zq168_; have := iRg yq106_; have := iRg zq183_; omega) (by have := iRg zq168_; have := iRg yq106_; have := iRg zq183_; omega) (by have := iRg zq168_; have := iRg yq106_; have := iRg zq183_; omega) (by have := iRg zq168_; have := iRg yq106_; have := iRg zq183_; omega) (by have := iRg zq168_; have := iRg yq106_; have := iRg zq183_; omega) hc_h hc_al hH (lv_sub hl [0, 1, 3, 6, 7, 8] rfl)
        exact loop (Int.toNat (zq104_.toInt + 1)) 0 0 zq104_ _ _ ls (by have : (0 : Int32).toInt = 0 := rfl; have : (0 : Int32).toInt = 0 := rfl; have := iRg zq104_; omega) (by have : (0 : Int32).toInt = 0 := rfl; have : (0 : Int32).toInt = 0 := rfl; have := iRg zq104_; omega) (by have : (0 : Int32).toInt = 0 := rfl; have : (0 : Int32).toInt = 0 := rfl; have := iRg zq104_; omega) (by have : (0 : Int32).toInt = 0 := rfl; have : (0 : Int32).toInt = 0 := rfl; have := iRg zq104_; omega) (by have : (0 : Int32).toInt = 0 := rfl; have : (0 : Int32).toInt = 0 := rfl; have := iRg zq104_; omega) hc_h hc_al hH hl
    · skip
      have eT := eT.symm; subst eT
      have er_rq6_ := er_rq6_.symm; subst er_rq6_
      have eM := eM.symm; subst eM
      have cq8_ : ¬ titF f xn := cq8_
      refine jif_eq (tgt := 50) hx hb dX10_reachOf_22 (by decide) (fun cq184_ => ?_) (fun cq184_ => absurd cq184_ (by decide))
      refine lv_iconst (v := 0) hx hb dX10_reachOf_50 (by decide) ?_
      refine lv_istore (lv' := [(4, .int 0), (3, .int 0), (0, .ref h), (1, .int bb), (2, .int x)]) hx hb dX10_reachOf_51 hl (by decide) rfl (fun ls hl => ?_)
      refine lv_iconst (v := 1) hx hb dX10_reachOf_53 (by decide) ?_
      refine lv_aload_n hx hb dX10_reachOf_54 rfl (lv_at hl 2 rfl) ?_
      refine xg hC hK hH flX10_7 hc_h rfl dX10_reachOf_55 ?_
      refine lv_iload_n hx hb dX10_reachOf_58 rfl (lv_at hl 4 rfl) ?_
      refine lv_bipush (v := 8) hx hb dX10_reachOf_59 (by decide) ?_
      refine lv_iadd hx hb dX10_reachOf_61 ?_
      refine lv_topi (fun zq185_ e_zq185_ => ?_)
      have h_zq185_ : zq185_.toInt = x.toInt + 8 := by rw [e_zq185_, iAdd (by have := iRg x; have : (8 : Int32).toInt = 8 := rfl; omega) (by have := iRg x; have : (8 : Int32).toInt = 8 := rfl; omega)]; rfl
      refine xild hC hK hH hc_al (iIn (by omega) (by omega)) dX10_reachOf_62 ?_
      refine lv_topi (fun xq186_ e_xq186_ => ?_)
      have k_xq186_ : xq186_ = f (xn + 8) := by rw [e_xq186_, clE (n := xn + 8) (by omega)]
      have kt_xq186_ : xq186_.toInt = (f (xn + 8)).toInt := by rw [k_xq186_]
      have rr_xq186_ : (0 : Int) ≤ (f (xn + 8)).toInt ∧ (f (xn + 8)).toInt ≤ 12 := hR_f.rO 8 (t := t) (b := b) (xn := xn) (by omega) (by omega) (by omega) (by decide) rfl
      have l_xq186_ : (0 : Int) ≤ xq186_.toInt := by rw [kt_xq186_, show xn + 8 = xn + 8 from by omega]; exact rr_xq186_.1
      have g_xq186_ : xq186_.toInt ≤ 12 := by rw [kt_xq186_, show xn + 8 = xn + 8 from by omega]; exact rr_xq186_.2
      refine lv_iadd hx hb dX10_reachOf_63 ?_
      refine lv_topi (fun zq187_ e_zq187_ => ?_)
      have h_zq187_ : zq187_.toInt = 1 + xq186_.toInt := by rw [e_zq187_, iAdd (by have : (1 : Int32).toInt = 1 := rfl; have := iRg xq186_; omega) (by have : (1 : Int32).toInt = 1 := rfl; have := iRg xq186_; omega)]; rfl
      refine lv_istore (lv' := [(5, .int zq187_), (4, .int 0), (3, .int 0), (0, .ref h), (1, .int bb), (2, .int x)]) hx hb dX10_reachOf_64 hl (by decide) rfl (fun ls hl => ?_)
      have loop : ∀ (n : Nat) (yq188_ : Int32) (yq189_ : Int32) (yq190_ : Int32) (Hq_ : Heap) (lcq_ : List Loc) (ls : Array Slot), yq190_.toInt + 1 ≤ (n : Int) → (0 : Int) ≤ yq189_.toInt → yq189_.toInt ≤ 14 → (0 : Int) ≤ yq190_.toInt → yq190_.toInt ≤ 13 → M h = some (.inr (8, [.ref al, .ref mt, .ref ii, .int ta, .int fpm, .ref pa, .int sm, .int nx, .int tk, .int pl, .int ln, .long va, .int wr, .ref li])) → M al = some (.inl (kA 0, 7506, .inl f)) → mS D kA M T (mA M T sz) s.heap Hq_ lcq_ → lv_has ls 9 [(5, .int yq190_), (4, .int yq189_), (3, .int yq188_), (0, .ref h), (1, .int bb), (2, .int x)] → W p l e (rmL 4 0 0) s m ([.ref h, .int bb, .int x] : List Value).toArray below meth c Hq_ lcq_ 0 0 (MQ below (va_Qi (fun r u => (True) ∧ u.2 = T ∧ u.1 = M) (mB D kA M T sz) (mA M T sz)) ([.ref h, .int bb, .int x] : List Value).toArray s 0 0 (mA M T sz)) (F0 m 66 ls []) := by
        intro n
        induction n with
        | zero =>
          intro yq188_ yq189_ yq190_ Hq_ lcq_ ls hme l_yq189_ g_yq189_ l_yq190_ g_yq190_ hc_h hc_al hH hl
          exfalso; omega
        | succ n ih =>
          intro yq188_ yq189_ yq190_ Hq_ lcq_ ls hme l_yq189_ g_yq189_ l_yq190_ g_yq190_ hc_h hc_al hH hl
          refine lv_iload hx hb dX10_reachOf_66 (lv_at hl 0 rfl) ?_
          refine jif_le (tgt := 187) hx hb dX10_reachOf_68 (by decide) (fun cq191_ => ?_) (fun cq191_ => ?_)
          · skip
            have cq191_ : yq190_.toInt ≤ 0 := cq191_
            refine lv_iload_n hx hb dX10_reachOf_187 rfl (lv_at hl 2 rfl) ?_
            exact ret_i hC hr hlk hK hH (⟨trivial, rfl, rfl⟩) (Nat.le_of_ble_eq_true rfl) (Nat.le_of_ble_eq_true rfl) dX10_reachOf_188
          · skip
            have cq191_ : 0 < yq190_.toInt := cq191_
            refine lv_aload_n hx hb dX10_reachOf_71 rfl (lv_at hl 3 rfl) ?_
            refine xg hC hK hH flX10_7 hc_h rfl dX10_reachOf_72 ?_
            refine lv_iload_n hx hb dX10_reachOf_75 rfl (lv_at hl 5 rfl) ?_
            refine lv_iload hx hb dX10_reachOf_76 (lv_at hl 0 rfl) ?_
            obtain ⟨nq192_, hn_nq192_⟩ : ∃ n : Nat, yq190_.toInt = (n : Int) := ⟨(yq190_.toInt).toNat, by omega⟩
            refine goI hK hH (runS (As := [.int x, .int yq190_]) (rest := [.ref al]) hC hK hH (c_X10_partyAt (by omega) (by omega)) mlX10_56 ⟨⟨Nat.le_of_ble_eq_true rfl, Nat.le_of_ble_eq_true rfl⟩, Nat.le_of_ble_eq_true rfl, Nat.le_of_ble_eq_true rfl⟩ rfl hl.1 rfl (Nat.le_of_ble_eq_true rfl) dX10_reachOf_78) (fun rq195_ Mq193_ Tq194_ Hq_ lcq_ hP hz hH => ?_)
            try dsimp only at hP
            obtain ⟨(⟨cq196_, ⟨l_rq195_, g_rq195_⟩⟩), eT, eM⟩ := hP
            have eT := eT.symm; subst eT
            have eM := eM.symm; subst eM
            have cq196_ : rq195_.toInt = x.toInt + 184 + 6 * yq190_.toInt := cq196_
            have hx_rq195_ : rq195_.toInt = ((xn + 184 + 6 * nq192_ : Nat) : Int) := by omega
            refine lv_iconst (v := 0) hx hb dX10_reachOf_81 (by decide) ?_
            refine lv_iadd hx hb dX10_reachOf_82 ?_
            refine lv_topi (fun zq197_ e_zq197_ => ?_)
            have h_zq197_ : zq197_.toInt = rq195_.toInt + 0 := by rw [e_zq197_, iAdd (by have := iRg rq195_; have : (0 : Int32).toInt = 0 := rfl; omega) (by have := iRg rq195_; have : (0 : Int32).toInt = 0 := rfl; omega)]; rfl
            refine xild hC hK hH hc_al (iIn (by omega) (by omega)) dX10_reachOf_83 ?_
            refine lv_topi (fun xq198_ e_xq198_ => ?_)
            have k_xq198_ : xq198_ = f (xn + 184 + 6 * nq192_) := by rw [e_xq198_, clE (n := xn + 184 + 6 * nq192_) (by omega)]
            have kt_xq198_ : xq198_.toInt = (f (xn + 184 + 6 * nq192_)).toInt := by rw [k_xq198_]
            refine lv_istore (lv' := [(6, .int xq198_), (5, .int yq190_), (4, .int yq189_), (3, .int yq188_), (0, .ref h), (1, .int bb), (2, .int x)]) hx hb dX10_reachOf_84 hl (by decide) rfl (fun ls hl => ?_)
            refine lv_iload hx hb dX10_reachOf_86 (lv_at hl 1 rfl) ?_
            refine lv_iload hx hb dX10_reachOf_88 (lv_at hl 2 rfl) ?_
            refine jic_ge (tgt := 113) hx hb dX10_reachOf_90 (by decide) (fun cq199_ => ?_) (fun cq199_ => ?_)
            · skip
              have cq199_ : yq189_.toInt ≤ yq190_.toInt := cq199_
              refine lv_iconst (v := 0) hx hb dX10_reachOf_113 (by decide) ?_
              refine lv_istore (lv' := [(7, .int 0), (6, .int xq198_), (5, .int yq190_), (4, .int yq189_), (3, .int yq188_), (0, .ref h), (1, .int bb), (2, .int x)]) hx hb dX10_reachOf_114 hl (by decide) rfl (fun ls hl => ?_)
              refine lv_iload_n hx hb dX10_reachOf_116 rfl (lv_at hl 4 rfl) ?_
              refine lv_iload hx hb dX10_reachOf_117 (lv_at hl 0 rfl) ?_
              refine jif_eq (tgt := 129) hx hb dX10_reachOf_119 (by decide) (fun cq200_ => ?_) (fun cq200_ => absurd cq200_ (by decide))
              refine lv_iconst (v := 0) hx hb dX10_reachOf_129 (by decide) ?_
              refine lv_ior hx hb dX10_reachOf_130 ?_
              refine lv_topi (fun zq201_ e_zq201_ => ?_)
              refine lv_istore_n (lv' := [(3, .int zq201_), (7, .int 0), (6, .int xq198_), (5, .int yq190_), (4, .int yq189_), (0, .ref h), (1, .int bb), (2, .int x)]) hx hb dX10_reachOf_131 rfl hl (by decide) rfl (fun ls hl => ?_)
              refine lv_iload hx hb dX10_reachOf_132 (lv_at hl 1 rfl) ?_
              refine jif_ne (tgt := 153) hx hb dX10_reachOf_134 (by decide) (fun cq202_ => absurd cq202_ (by decide)) (fun cq202_ => ?_)
              refine lv_iload hx hb dX10_reachOf_137 (lv_at hl 2 rfl) ?_
              refine lv_iconst (v := -1) hx hb dX10_reachOf_139 (by decide) ?_
              refine jic_eq (tgt := 157) hx hb dX10_reachOf_140 (by decide) (fun cq203_ => ?_) (fun cq203_ => ?_)
              · skip
                have cq203_ : xq198_.toInt = (-1) := cq203_
                refine lv_iconst (v := 0) hx hb dX10_reachOf_157 (by decide) ?_
                refine lv_istore (lv' := [(8, .int 0), (3, .int zq201_), (7, .int 0), (6, .int xq198_), (5, .int yq190_), (4, .int yq189_), (0, .ref h), (1, .int bb), (2, .int x)]) hx hb dX10_reachOf_158 hl (by decide) rfl (fun ls hl => ?_)
                refine lv_iload hx hb dX10_reachOf_160 (lv_at hl 0 rfl) ?_
                refine jif_eq (tgt := 177) hx hb dX10_reachOf_162 (by decide) (fun cq204_ => ?_) (fun cq204_ => absurd cq204_ (by decide))
                refine lv_iload hx hb dX10_reachOf_177 (lv_at hl 5 rfl) ?_
                refine lv_istore (lv' := [(4, .int yq189_), (8, .int 0), (3, .int zq201_), (7, .int 0), (6, .int xq198_), (5, .int yq190_), (0, .ref h), (1, .int bb), (2, .int x)]) hx hb dX10_reachOf_179 hl (by decide) rfl (fun ls hl => ?_)
                obtain ⟨zq205_, e_zq205_⟩ : ∃ y : Int32, y = yq190_ + (-1) := ⟨_, rfl⟩
                refine lv_iinc (v := zq205_) (lv' := [(5, .int zq205_), (4, .int yq189_), (8, .int 0), (3, .int zq201_), (7, .int 0), (6, .int xq198_), (0, .ref h), (1, .int bb), (2, .int x)]) hx hb dX10_reachOf_181 hl (k := 5) rfl (by rw [e_zq205_]; rfl) (by decide) rfl (fun ls hl => ?_)
                have h_zq205_ : zq205_.toInt = yq190_.toInt + -1 := by rw [e_zq205_, iAdd (by have : (-1 : Int32).toInt = -1 := rfl; omega) (by have : (-1 : Int32).toInt = -1 := rfl; omega)]; rfl
                refine lv_goto (tgt := 66) hx hb dX10_reachOf_184 (by decide) ?_
                exact ih zq201_ yq189_ zq205_ _ _ ls (by have := iRg zq201_; have := iRg yq189_; have := iRg zq205_; omega) (by have := iRg zq201_; have := iRg yq189_; have := iRg zq205_; omega) (by have := iRg zq201_; have := iRg yq189_; have := iRg zq205_; omega) (by have := iRg zq201_; have := iRg yq189_; have := iRg zq205_; omega) (by have := iRg zq201_; have := iRg yq189_; have := iRg zq205_; omega) hc_h hc_al hH (lv_sub hl [0, 1, 3, 6, 7, 8] rfl)
              · skip
                have cq203_ : xq198_.toInt ≠ (-1) := cq203_
                refine lv_aload_n hx hb dX10_reachOf_143 rfl (lv_at hl 5 rfl) ?_
                refine lv_iload_n hx hb dX10_reachOf_144 rfl (lv_at hl 6 rfl) ?_
                refine lv_iload hx hb dX10_reachOf_145 (lv_at hl 2 rfl) ?_
                refine goI hK hH (runV (As := [.int bb, .int xq198_]) (rest := []) hC hK hH (c_X10_isInTime hc_h hn_h hc_al hn_al ht_mt ht_pa ht_li (by exact hR_f) (by omega) (by omega)) mlX10_74 (rcvM hK hH hc_h rfl) ⟨⟨Nat.le_of_ble_eq_true rfl, Nat.le_of_ble_eq_true rfl⟩, Nat.le_of_ble_eq_true rfl, Nat.le_of_ble_eq_true rfl⟩ rfl hl.1 rfl (Nat.le_of_ble_eq_true rfl) dX10_reachOf_147) (fun rq208_ Mq206_ Tq207_ Hq_ lcq_ hP hz hH => ?_)
                try dsimp only at hP
                obtain ⟨(er_rq208_ | er_rq208_), eT, eM⟩ := hP
                · skip
                  have eT := eT.symm; subst eT
                  have er_rq208_ := er_rq208_.symm; subst er_rq208_
                  have eM := eM.symm; subst eM
                  refine jif_eq (tgt := 157) hx hb dX10_reachOf_150 (by decide) (fun cq209_ => absurd cq209_ (by decide)) (fun cq209_ => ?_)
                  refine lv_iconst (v := 1) hx hb dX10_reachOf_153 (by decide) ?_
                  refine lv_goto (tgt := 158) hx hb dX10_reachOf_154 (by decide) ?_
                  refine lv_istore (lv' := [(8, .int 1), (3, .int zq201_), (7, .int 0), (6, .int xq198_), (5, .int yq190_), (4, .int yq189_), (0, .ref h), (1, .int bb), (2, .int x)]) hx hb dX10_reachOf_158 hl (by decide) rfl (fun ls hl => ?_)
                  refine lv_iload hx hb dX10_reachOf_160 (lv_at hl 0 rfl) ?_
                  refine jif_eq (tgt := 177) hx hb dX10_reachOf_162 (by decide) (fun cq210_ => absurd cq210_ (by decide)) (fun cq210_ => ?_)
                  refine lv_iload hx hb dX10_reachOf_165 (lv_at hl 4 rfl) ?_
                  refine lv_iload hx hb dX10_reachOf_167 (lv_at hl 5 rfl) ?_
                  refine jic_le (tgt := 177) hx hb dX10_reachOf_169 (by decide) (fun cq211_ => ?_) (fun cq211_ => ?_)
                  · skip
                    have cq211_ : yq190_.toInt ≤ yq189_.toInt := cq211_
                    refine lv_iload hx hb dX10_reachOf_177 (lv_at hl 5 rfl) ?_
                    refine lv_istore (lv' := [(4, .int yq189_), (8, .int 1), (3, .int zq201_), (7, .int 0), (6, .int xq198_), (5, .int yq190_), (0, .ref h), (1, .int bb), (2, .int x)]) hx hb dX10_reachOf_179 hl (by decide) rfl (fun ls hl => ?_)
                    obtain ⟨zq212_, e_zq212_⟩ : ∃ y : Int32, y = yq190_ + (-1) := ⟨_, rfl⟩
                    refine lv_iinc (v := zq212_) (lv' := [(5, .int zq212_), (4, .int yq189_), (8, .int 1), (3, .int zq201_), (7, .int 0), (6, .int xq198_), (0, .ref h), (1, .int bb), (2, .int x)]) hx hb dX10_reachOf_181 hl (k := 5) rfl (by rw [e_zq212_]; rfl) (by decide) rfl (fun ls hl => ?_)
                    have h_zq212_ : zq212_.toInt = yq190_.toInt + -1 := by rw [e_zq212_, iAdd (by have : (-1 : Int32).toInt = -1 := rfl; omega) (by have : (-1 : Int32).toInt = -1 := rfl; omega)]; rfl
                    refine lv_goto (tgt := 66) hx hb dX10_reachOf_184 (by decide) ?_
                    exact ih zq201_ yq189_ zq212_ _ _ ls (by have := iRg zq201_; have := iRg yq189_; have := iRg zq212_; omega) (by have := iRg zq201_; have := iRg yq189_; have := iRg zq212_; omega) (by have := iRg zq201_; have := iRg yq189_; have := iRg zq212_; omega) (by have := iRg zq201_; have := iRg yq189_; have := iRg zq212_; omega) (by have := iRg zq201_; have := iRg yq189_; have := iRg zq212_; omega) hc_h hc_al hH (lv_sub hl [0, 1, 3, 6, 7, 8] rfl)
                  · skip
                    have cq211_ : yq189_.toInt < yq190_.toInt := cq211_
                    refine lv_iload hx hb dX10_reachOf_172 (lv_at hl 4 rfl) ?_
                    refine lv_goto (tgt := 179) hx hb dX10_reachOf_174 (by decide) ?_
                    refine lv_istore (lv' := [(4, .int yq190_), (8, .int 1), (3, .int zq201_), (7, .int 0), (6, .int xq198_), (5, .int yq190_), (0, .ref h), (1, .int bb), (2, .int x)]) hx hb dX10_reachOf_179 hl (by decide) rfl (fun ls hl => ?_)
                    obtain ⟨zq213_, e_zq213_⟩ : ∃ y : Int32, y = yq190_ + (-1) := ⟨_, rfl⟩
                    refine lv_iinc (v := zq213_) (lv' := [(5, .int zq213_), (4, .int yq190_), (8, .int 1), (3, .int zq201_), (7, .int 0), (6, .int xq198_), (0, .ref h), (1, .int bb), (2, .int x)]) hx hb dX10_reachOf_181 hl (k := 5) rfl (by rw [e_zq213_]; rfl) (by decide) rfl (fun ls hl => ?_)
                    have h_zq213_ : zq213_.toInt = yq190_.toInt + -1 := by rw [e_zq213_, iAdd (by have : (-1 : Int32).toInt = -1 := rfl; omega) (by have : (-1 : Int32).toInt = -1 := rfl; omega)]; rfl
                    refine lv_goto (tgt := 66) hx hb dX10_reachOf_184 (by decide) ?_
                    exact ih zq201_ yq190_ zq213_ _ _ ls (by have := iRg zq201_; have := iRg yq190_; have := iRg zq213_; omega) (by have := iRg zq201_; have := iRg yq190_; have := iRg zq213_; omega) (by have := iRg zq201_; have := iRg yq190_; have := iRg zq213_; omega) (by have := iRg zq201_; have := iRg yq190_; have := iRg zq213_; omega) (by have := iRg zq201_; have := iRg yq190_; have := iRg zq213_; omega) hc_h hc_al hH (lv_sub hl [0, 1, 3, 6, 7, 8] rfl)
                · skip
                  have eT := eT.symm; subst eT
                  have er_rq208_ := er_rq208_.symm; subst er_rq208_
                  have eM := eM.symm; subst eM
                  refine jif_eq (tgt := 157) hx hb dX10_reachOf_150 (by decide) (fun cq214_ => ?_) (fun cq214_ => absurd cq214_ (by decide))
                  refine lv_iconst (v := 0) hx hb dX10_reachOf_157 (by decide) ?_
                  refine lv_istore (lv' := [(8, .int 0), (3, .int zq201_), (7, .int 0), (6, .int xq198_), (5, .int yq190_), (4, .int yq189_), (0, .ref h), (1, .int bb), (2, .int x)]) hx hb dX10_reachOf_158 hl (by decide) rfl (fun ls hl => ?_)
                  refine lv_iload hx hb dX10_reachOf_160 (lv_at hl 0 rfl) ?_
                  refine jif_eq (tgt := 177) hx hb dX10_reachOf_162 (by decide) (fun cq215_ => ?_) (fun cq215_ => absurd cq215_ (by decide))
                  refine lv_iload hx hb dX10_reachOf_177 (lv_at hl 5 rfl) ?_
                  refine lv_istore (lv' := [(4, .int yq189_), (8, .int 0), (3, .int zq201_), (7, .int 0), (6, .int xq198_), (5, .int yq190_), (0, .ref h), (1, .int bb), (2, .int x)]) hx hb dX10_reachOf_179 hl (by decide) rfl (fun ls hl => ?_)
                  obtain ⟨zq216_, e_zq216_⟩ : ∃ y : Int32, y = yq190_ + (-1) := ⟨_, rfl⟩
                  refine lv_iinc (v := zq216_) (lv' := [(5, .int zq216_), (4, .int yq189_), (8, .int 0), (3, .int zq201_), (7, .int 0), (6, .int xq198_), (0, .ref h), (1, .int bb), (2, .int x)]) hx hb dX10_reachOf_181 hl (k := 5) rfl (by rw [e_zq216_]; rfl) (by decide) rfl (fun ls hl => ?_)
                  have h_zq216_ : zq216_.toInt = yq190_.toInt + -1 := by rw [e_zq216_, iAdd (by have : (-1 : Int32).toInt = -1 := rfl; omega) (by have : (-1 : Int32).toInt = -1 := rfl; omega)]; rfl
                  refine lv_goto (tgt := 66) hx hb dX10_reachOf_184 (by decide) ?_
                  exact ih zq201_ yq189_ zq216_ _ _ ls (by have := iRg zq201_; have := iRg yq189_; have := iRg zq216_; omega) (by have := iRg zq201_; have := iRg yq189_; have := iRg zq216_; omega) (by have := iRg zq201_; have := iRg yq189_; have := iRg zq216_; omega) (by have := iRg zq201_; have := iRg yq189_; have := iRg zq216_; omega) (by have := iRg zq201_; have := iRg yq189_; have := iRg zq216_; omega) hc_h hc_al hH (lv_sub hl [0, 1, 3, 6, 7, 8] rfl)
            · skip
              have cq199_ : yq190_.toInt < yq189_.toInt := cq199_
              refine lv_aload_n hx hb dX10_reachOf_93 rfl (lv_at hl 4 rfl) ?_
              refine lv_iload_n hx hb dX10_reachOf_94 rfl (lv_at hl 6 rfl) ?_
              refine lv_iload hx hb dX10_reachOf_95 (lv_at hl 1 rfl) ?_
              refine goI hK hH (runV (As := [.int x, .int yq190_]) (rest := []) hC hK hH (c_X10_hasSigned hc_h hn_h hc_al hn_al ht_mt ht_pa ht_li (by exact hR_f) (by omega) (by omega) (by omega) (by omega) (by omega) (by omega)) mlX10_66 (rcvM hK hH hc_h rfl) ⟨⟨Nat.le_of_ble_eq_true rfl, Nat.le_of_ble_eq_true rfl⟩, Nat.le_of_ble_eq_true rfl, Nat.le_of_ble_eq_true rfl⟩ rfl hl.1 rfl (Nat.le_of_ble_eq_true rfl) dX10_reachOf_97) (fun rq219_ Mq217_ Tq218_ Hq_ lcq_ hP hz hH => ?_)
              try dsimp only at hP
              obtain ⟨(⟨cq220_, er_rq219_⟩ | ⟨cq221_, er_rq219_⟩), eT, eM⟩ := hP
              · skip
                have eT := eT.symm; subst eT
                have er_rq219_ := er_rq219_.symm; subst er_rq219_
                have eM := eM.symm; subst eM
                have cq220_ : sgnF f xn nq192_ := cq220_
                refine jif_eq (tgt := 113) hx hb dX10_reachOf_100 (by decide) (fun cq222_ => absurd cq222_ (by decide)) (fun cq222_ => ?_)
                refine lv_iload hx hb dX10_reachOf_103 (lv_at hl 0 rfl) ?_
                refine lv_iconst (v := -1) hx hb dX10_reachOf_105 (by decide) ?_
                refine jic_ne (tgt := 113) hx hb dX10_reachOf_106 (by decide) (fun cq223_ => ?_) (fun cq223_ => ?_)
                · skip
                  have cq223_ : xq198_.toInt ≠ (-1) := cq223_
                  refine lv_iconst (v := 0) hx hb dX10_reachOf_113 (by decide) ?_
                  refine lv_istore (lv' := [(7, .int 0), (6, .int xq198_), (5, .int yq190_), (4, .int yq189_), (3, .int yq188_), (0, .ref h), (1, .int bb), (2, .int x)]) hx hb dX10_reachOf_114 hl (by decide) rfl (fun ls hl => ?_)
                  refine lv_iload_n hx hb dX10_reachOf_116 rfl (lv_at hl 4 rfl) ?_
                  refine lv_iload hx hb dX10_reachOf_117 (lv_at hl 0 rfl) ?_
                  refine jif_eq (tgt := 129) hx hb dX10_reachOf_119 (by decide) (fun cq224_ => ?_) (fun cq224_ => absurd cq224_ (by decide))
                  refine lv_iconst (v := 0) hx hb dX10_reachOf_129 (by decide) ?_
                  refine lv_ior hx hb dX10_reachOf_130 ?_
                  refine lv_topi (fun zq225_ e_zq225_ => ?_)
                  refine lv_istore_n (lv' := [(3, .int zq225_), (7, .int 0), (6, .int xq198_), (5, .int yq190_), (4, .int yq189_), (0, .ref h), (1, .int bb), (2, .int x)]) hx hb dX10_reachOf_131 rfl hl (by decide) rfl (fun ls hl => ?_)
                  refine lv_iload hx hb dX10_reachOf_132 (lv_at hl 1 rfl) ?_
                  refine jif_ne (tgt := 153) hx hb dX10_reachOf_134 (by decide) (fun cq226_ => absurd cq226_ (by decide)) (fun cq226_ => ?_)
                  refine lv_iload hx hb dX10_reachOf_137 (lv_at hl 2 rfl) ?_
                  refine lv_iconst (v := -1) hx hb dX10_reachOf_139 (by decide) ?_
                  refine jic_eq (tgt := 157) hx hb dX10_reachOf_140 (by decide) (fun cq227_ => ?_) (fun cq227_ => ?_)
                  · skip
                    have cq227_ : xq198_.toInt = (-1) := cq227_
                    refine lv_iconst (v := 0) hx hb dX10_reachOf_157 (by decide) ?_
                    refine lv_istore (lv' := [(8, .int 0), (3, .int zq225_), (7, .int 0), (6, .int xq198_), (5, .int yq190_), (4, .int yq189_), (0, .ref h), (1, .int bb), (2, .int x)]) hx hb dX10_reachOf_158 hl (by decide) rfl (fun ls hl => ?_)
                    refine lv_iload hx hb dX10_reachOf_160 (lv_at hl 0 rfl) ?_
                    refine jif_eq (tgt := 177) hx hb dX10_reachOf_162 (by decide) (fun cq228_ => ?_) (fun cq228_ => absurd cq228_ (by decide))
                    refine lv_iload hx hb dX10_reachOf_177 (lv_at hl 5 rfl) ?_
                    refine lv_istore (lv' := [(4, .int yq189_), (8, .int 0), (3, .int zq225_), (7, .int 0), (6, .int xq198_), (5, .int yq190_), (0, .ref h), (1, .int bb), (2, .int x)]) hx hb dX10_reachOf_179 hl (by decide) rfl (fun ls hl => ?_)
                    obtain ⟨zq229_, e_zq229_⟩ : ∃ y : Int32, y = yq190_ + (-1) := ⟨_, rfl⟩
                    refine lv_iinc (v := zq229_) (lv' := [(5, .int zq229_), (4, .int yq189_), (8, .int 0), (3, .int zq225_), (7, .int 0), (6, .int xq198_), (0, .ref h), (1, .int bb), (2, .int x)]) hx hb dX10_reachOf_181 hl (k := 5) rfl (by rw [e_zq229_]; rfl) (by decide) rfl (fun ls hl => ?_)
                    have h_zq229_ : zq229_.toInt = yq190_.toInt + -1 := by rw [e_zq229_, iAdd (by have : (-1 : Int32).toInt = -1 := rfl; omega) (by have : (-1 : Int32).toInt = -1 := rfl; omega)]; rfl
                    refine lv_goto (tgt := 66) hx hb dX10_reachOf_184 (by decide) ?_
                    exact ih zq225_ yq189_ zq229_ _ _ ls (by have := iRg zq225_; have := iRg yq189_; have := iRg zq229_; omega) (by have := iRg zq225_; have := iRg yq189_; have := iRg zq229_; omega) (by have := iRg zq225_; have := iRg yq189_; have := iRg zq229_; omega) (by have := iRg zq225_; have := iRg yq189_; have := iRg zq229_; omega) (by have := iRg zq225_; have := iRg yq189_; have := iRg zq229_; omega) hc_h hc_al hH (lv_sub hl [0, 1, 3, 6, 7, 8] rfl)
                  · skip
                    have cq227_ : xq198_.toInt ≠ (-1) := cq227_
                    refine lv_aload_n hx hb dX10_reachOf_143 rfl (lv_at hl 5 rfl) ?_
                    refine lv_iload_n hx hb dX10_reachOf_144 rfl (lv_at hl 6 rfl) ?_
                    refine lv_iload hx hb dX10_reachOf_145 (lv_at hl 2 rfl) ?_
                    refine goI hK hH (runV (As := [.int bb, .int xq198_]) (rest := []) hC hK hH (c_X10_isInTime hc_h hn_h hc_al hn_al ht_mt ht_pa ht_li (by exact hR_f) (by omega) (by omega)) mlX10_74 (rcvM hK hH hc_h rfl) ⟨⟨Nat.le_of_ble_eq_true rfl, Nat.le_of_ble_eq_true rfl⟩, Nat.le_of_ble_eq_true rfl, Nat.le_of_ble_eq_true rfl⟩ rfl hl.1 rfl (Nat.le_of_ble_eq_true rfl) dX10_reachOf_147) (fun rq232_ Mq230_ Tq231_ Hq_ lcq_ hP hz hH => ?_)
                    try dsimp only at hP
                    obtain ⟨(er_rq232_ | er_rq232_), eT, eM⟩ := hP
                    · skip
                      have eT := eT.symm; subst eT
                      have er_rq232_ := er_rq232_.symm; subst er_rq232_
                      have eM := eM.symm; subst eM
                      refine jif_eq (tgt := 157) hx hb dX10_reachOf_150 (by decide) (fun cq233_ => absurd cq233_ (by decide)) (fun cq233_ => ?_)
                      refine lv_iconst (v := 1) hx hb dX10_reachOf_153 (by decide) ?_
                      refine lv_goto (tgt := 158) hx hb dX10_reachOf_154 (by decide) ?_
                      refine lv_istore (lv' := [(8, .int 1), (3, .int zq225_), (7, .int 0), (6, .int xq198_), (5, .int yq190_), (4, .int yq189_), (0, .ref h), (1, .int bb), (2, .int x)]) hx hb dX10_reachOf_158 hl (by decide) rfl (fun ls hl => ?_)
                      refine lv_iload hx hb dX10_reachOf_160 (lv_at hl 0 rfl) ?_
                      refine jif_eq (tgt := 177) hx hb dX10_reachOf_162 (by decide) (fun cq234_ => absurd cq234_ (by decide)) (fun cq234_ => ?_)
                      refine lv_iload hx hb dX10_reachOf_165 (lv_at hl 4 rfl) ?_
                      refine lv_iload hx hb dX10_reachOf_167 (lv_at hl 5 rfl) ?_
                      refine jic_le (tgt := 177) hx hb dX10_reachOf_169 (by decide) (fun cq235_ => ?_) (fun cq235_ => ?_)
                      · skip
                        have cq235_ : yq190_.toInt ≤ yq189_.toInt := cq235_
                        refine lv_iload hx hb dX10_reachOf_177 (lv_at hl 5 rfl) ?_
                        refine lv_istore (lv' := [(4, .int yq189_), (8, .int 1), (3, .int zq225_), (7, .int 0), (6, .int xq198_), (5, .int yq190_), (0, .ref h), (1, .int bb), (2, .int x)]) hx hb dX10_reachOf_179 hl (by decide) rfl (fun ls hl => ?_)
                        obtain ⟨zq236_, e_zq236_⟩ : ∃ y : Int32, y = yq190_ + (-1) := ⟨_, rfl⟩
                        refine lv_iinc (v := zq236_) (lv' := [(5, .int zq236_), (4, .int yq189_), (8, .int 1), (3, .int zq225_), (7, .int 0), (6, .int xq198_), (0, .ref h), (1, .int bb), (2, .int x)]) hx hb dX10_reachOf_181 hl (k := 5) rfl (by rw [e_zq236_]; rfl) (by decide) rfl (fun ls hl => ?_)
                        have h_zq236_ : zq236_.toInt = yq190_.toInt + -1 := by rw [e_zq236_, iAdd (by have : (-1 : Int32).toInt = -1 := rfl; omega) (by have : (-1 : Int32).toInt = -1 := rfl; omega)]; rfl
                        refine lv_goto (tgt := 66) hx hb dX10_reachOf_184 (by decide) ?_
                        exact ih zq225_ yq189_ zq236_ _ _ ls (by have := iRg zq225_; have := iRg yq189_; have := iRg zq236_; omega) (by have := iRg zq225_; have := iRg yq189_; have := iRg zq236_; omega) (by have := iRg zq225_; have := iRg yq189_; have := iRg zq236_; omega) (by have := iRg zq225_; have := iRg yq189_; have := iRg zq236_; omega) (by have := iRg zq225_; have := iRg yq189_; have := iRg zq236_; omega) hc_h hc_al hH (lv_sub hl [0, 1, 3, 6, 7, 8] rfl)
                      · skip
                        have cq235_ : yq189_.toInt < yq190_.toInt := cq235_
                        refine lv_iload hx hb dX10_reachOf_172 (lv_at hl 4 rfl) ?_
                        refine lv_goto (tgt := 179) hx hb dX10_reachOf_174 (by decide) ?_
                        refine lv_istore (lv' := [(4, .int yq190_), (8, .int 1), (3, .int zq225_), (7, .int 0), (6, .int xq198_), (5, .int yq190_), (0, .ref h), (1, .int bb), (2, .int x)]) hx hb dX10_reachOf_179 hl (by decide) rfl (fun ls hl => ?_)
                        obtain ⟨zq237_, e_zq237_⟩ : ∃ y : Int32, y = yq190_ + (-1) := ⟨_, rfl⟩
                        refine lv_iinc (v := zq237_) (lv' := [(5, .int zq237_), (4, .int yq190_), (8, .int 1), (3, .int zq225_), (7, .int 0), (6, .int xq198_), (0, .ref h), (1, .int bb), (2, .int x)]) hx hb dX10_reachOf_181 hl (k := 5) rfl (by rw [e_zq237_]; rfl) (by decide) rfl (fun ls hl => ?_)
                        have h_zq237_ : zq237_.toInt = yq190_.toInt + -1 := by rw [e_zq237_, iAdd (by have : (-1 : Int32).toInt = -1 := rfl; omega) (by have : (-1 : Int32).toInt = -1 := rfl; omega)]; rfl
                        refine lv_goto (tgt := 66) hx hb dX10_reachOf_184 (by decide) ?_
                        exact ih zq225_ yq190_ zq237_ _ _ ls (by have := iRg zq225_; have := iRg yq190_; have := iRg zq237_; omega) (by have := iRg zq225_; have := iRg yq190_; have := iRg zq237_; omega) (by have := iRg zq225_; have := iRg yq190_; have := iRg zq237_; omega) (by have := iRg zq225_; have := iRg yq190_; have := iRg zq237_; omega) (by have := iRg zq225_; have := iRg yq190_; have := iRg zq237_; omega) hc_h hc_al hH (lv_sub hl [0, 1, 3, 6, 7, 8] rfl)
                    · skip
                      have eT := eT.symm; subst eT
                      have er_rq232_ := er_rq232_.symm; subst er_rq232_
                      have eM := eM.symm; subst eM
                      refine jif_eq (tgt := 157) hx hb dX10_reachOf_150 (by decide) (fun cq238_ => ?_) (fun cq238_ => absurd cq238_ (by decide))
                      refine lv_iconst (v := 0) hx hb dX10_reachOf_157 (by decide) ?_
                      refine lv_istore (lv' := [(8, .int 0), (3, .int zq225_), (7, .int 0), (6, .int xq198_), (5, .int yq190_), (4, .int yq189_), (0, .ref h), (1, .int bb), (2, .int x)]) hx hb dX10_reachOf_158 hl (by decide) rfl (fun ls hl => ?_)
                      refine lv_iload hx hb dX10_reachOf_160 (lv_at hl 0 rfl) ?_
                      refine jif_eq (tgt := 177) hx hb dX10_reachOf_162 (by decide) (fun cq239_ => ?_) (fun cq239_ => absurd cq239_ (by decide))
                      refine lv_iload hx hb dX10_reachOf_177 (lv_at hl 5 rfl) ?_
                      refine lv_istore (lv' := [(4, .int yq189_), (8, .int 0), (3, .int zq225_), (7, .int 0), (6, .int xq198_), (5, .int yq190_), (0, .ref h), (1, .int bb), (2, .int x)]) hx hb dX10_reachOf_179 hl (by decide) rfl (fun ls hl => ?_)
                      obtain ⟨zq240_, e_zq240_⟩ : ∃ y : Int32, y = yq190_ + (-1) := ⟨_, rfl⟩
                      refine lv_iinc (v := zq240_) (lv' := [(5, .int zq240_), (4, .int yq189_), (8, .int 0), (3, .int zq225_), (7, .int 0), (6, .int xq198_), (0, .ref h), (1, .int bb), (2, .int x)]) hx hb dX10_reachOf_181 hl (k := 5) rfl (by rw [e_zq240_]; rfl) (by decide) rfl (fun ls hl => ?_)
                      have h_zq240_ : zq240_.toInt = yq190_.toInt + -1 := by rw [e_zq240_, iAdd (by have : (-1 : Int32).toInt = -1 := rfl; omega) (by have : (-1 : Int32).toInt = -1 := rfl; omega)]; rfl
                      refine lv_goto (tgt := 66) hx hb dX10_reachOf_184 (by decide) ?_
                      exact ih zq225_ yq189_ zq240_ _ _ ls (by have := iRg zq225_; have := iRg yq189_; have := iRg zq240_; omega) (by have := iRg zq225_; have := iRg yq189_; have := iRg zq240_; omega) (by have := iRg zq225_; have := iRg yq189_; have := iRg zq240_; omega) (by have := iRg zq225_; have := iRg yq189_; have := iRg zq240_; omega) (by have := iRg zq225_; have := iRg yq189_; have := iRg zq240_; omega) hc_h hc_al hH (lv_sub hl [0, 1, 3, 6, 7, 8] rfl)
                · skip
                  have cq223_ : xq198_.toInt = (-1) := cq223_
                  refine lv_iconst (v := 1) hx hb dX10_reachOf_109 (by decide) ?_
                  refine lv_goto (tgt := 114) hx hb dX10_reachOf_110 (by decide) ?_
                  refine lv_istore (lv' := [(7, .int 1), (6, .int xq198_), (5, .int yq190_), (4, .int yq189_), (3, .int yq188_), (0, .ref h), (1, .int bb), (2, .int x)]) hx hb dX10_reachOf_114 hl (by decide) rfl (fun ls hl => ?_)
                  refine lv_iload_n hx hb dX10_reachOf_116 rfl (lv_at hl 4 rfl) ?_
                  refine lv_iload hx hb dX10_reachOf_117 (lv_at hl 0 rfl) ?_
                  refine jif_eq (tgt := 129) hx hb dX10_reachOf_119 (by decide) (fun cq241_ => absurd cq241_ (by decide)) (fun cq241_ => ?_)
                  refine lv_iconst (v := 1) hx hb dX10_reachOf_122 (by decide) ?_
                  refine lv_iload hx hb dX10_reachOf_123 (lv_at hl 2 rfl) ?_
                  refine lv_ishl hx hb dX10_reachOf_125 ?_
                  refine lv_topi (fun zq242_ e_zq242_ => ?_)
                  refine lv_goto (tgt := 130) hx hb dX10_reachOf_126 (by decide) ?_
                  refine lv_ior hx hb dX10_reachOf_130 ?_
                  refine lv_topi (fun zq243_ e_zq243_ => ?_)
                  refine lv_istore_n (lv' := [(3, .int zq243_), (7, .int 1), (6, .int xq198_), (5, .int yq190_), (4, .int yq189_), (0, .ref h), (1, .int bb), (2, .int x)]) hx hb dX10_reachOf_131 rfl hl (by decide) rfl (fun ls hl => ?_)
                  refine lv_iload hx hb dX10_reachOf_132 (lv_at hl 1 rfl) ?_
                  refine jif_ne (tgt := 153) hx hb dX10_reachOf_134 (by decide) (fun cq244_ => ?_) (fun cq244_ => absurd cq244_ (by decide))
                  refine lv_iconst (v := 1) hx hb dX10_reachOf_153 (by decide) ?_
                  refine lv_goto (tgt := 158) hx hb dX10_reachOf_154 (by decide) ?_
                  refine lv_istore (lv' := [(8, .int 1), (3, .int zq243_), (7, .int 1), (6, .int xq198_), (5, .int yq190_), (4, .int yq189_), (0, .ref h), (1, .int bb), (2, .int x)]) hx hb dX10_reachOf_158 hl (by decide) rfl (fun ls hl => ?_)
                  refine lv_iload hx hb dX10_reachOf_160 (lv_at hl 0 rfl) ?_
                  refine jif_eq (tgt := 177) hx hb dX10_reachOf_162 (by decide) (fun cq245_ => absurd cq245_ (by decide)) (fun cq245_ => ?_)
                  refine lv_iload hx hb dX10_reachOf_165 (lv_at hl 4 rfl) ?_
                  refine lv_iload hx hb dX10_reachOf_167 (lv_at hl 5 rfl) ?_
                  refine jic_le (tgt := 177) hx hb dX10_reachOf_169 (by decide) (fun cq246_ => ?_) (fun cq246_ => ?_)
                  · skip
                    have cq246_ : yq190_.toInt ≤ yq189_.toInt := cq246_
                    refine lv_iload hx hb dX10_reachOf_177 (lv_at hl 5 rfl) ?_
                    refine lv_istore (lv' := [(4, .int yq189_), (8, .int 1), (3, .int zq243_), (7, .int 1), (6, .int xq198_), (5, .int yq190_), (0, .ref h), (1, .int bb), (2, .int x)]) hx hb dX10_reachOf_179 hl (by decide) rfl (fun ls hl => ?_)
                    obtain ⟨zq247_, e_zq247_⟩ : ∃ y : Int32, y = yq190_ + (-1) := ⟨_, rfl⟩
                    refine lv_iinc (v := zq247_) (lv' := [(5, .int zq247_), (4, .int yq189_), (8, .int 1), (3, .int zq243_), (7, .int 1), (6, .int xq198_), (0, .ref h), (1, .int bb), (2, .int x)]) hx hb dX10_reachOf_181 hl (k := 5) rfl (by rw [e_zq247_]; rfl) (by decide) rfl (fun ls hl => ?_)
                    have h_zq247_ : zq247_.toInt = yq190_.toInt + -1 := by rw [e_zq247_, iAdd (by have : (-1 : Int32).toInt = -1 := rfl; omega) (by have : (-1 : Int32).toInt = -1 := rfl; omega)]; rfl
                    refine lv_goto (tgt := 66) hx hb dX10_reachOf_184 (by decide) ?_
                    exact ih zq243_ yq189_ zq247_ _ _ ls (by have := iRg zq243_; have := iRg yq189_; have := iRg zq247_; omega) (by have := iRg zq243_; have := iRg yq189_; have := iRg zq247_; omega) (by have := iRg zq243_; have := iRg yq189_; have := iRg zq247_; omega) (by have := iRg zq243_; have := iRg yq189_; have := iRg zq247_; omega) (by have := iRg zq243_; have := iRg yq189_; have := iRg zq247_; omega) hc_h hc_al hH (lv_sub hl [0, 1, 3, 6, 7, 8] rfl)
                  · skip
                    have cq246_ : yq189_.toInt < yq190_.toInt := cq246_
                    refine lv_iload hx hb dX10_reachOf_172 (lv_at hl 4 rfl) ?_
                    refine lv_goto (tgt := 179) hx hb dX10_reachOf_174 (by decide) ?_
                    refine lv_istore (lv' := [(4, .int yq190_), (8, .int 1), (3, .int zq243_), (7, .int 1), (6, .int xq198_), (5, .int yq190_), (0, .ref h), (1, .int bb), (2, .int x)]) hx hb dX10_reachOf_179 hl (by decide) rfl (fun ls hl => ?_)
                    obtain ⟨zq248_, e_zq248_⟩ : ∃ y : Int32, y = yq190_ + (-1) := ⟨_, rfl⟩
                    refine lv_iinc (v := zq248_) (lv' := [(5, .int zq248_), (4, .int yq190_), (8, .int 1), (3, .int zq243_), (7, .int 1), (6, .int xq198_), (0, .ref h), (1, .int bb), (2, .int x)]) hx hb dX10_reachOf_181 hl (k := 5) rfl (by rw [e_zq248_]; rfl) (by decide) rfl (fun ls hl => ?_)
                    have h_zq248_ : zq248_.toInt = yq190_.toInt + -1 := by rw [e_zq248_, iAdd (by have : (-1 : Int32).toInt = -1 := rfl; omega) (by have : (-1 : Int32).toInt = -1 := rfl; omega)]; rfl
                    refine lv_goto (tgt := 66) hx hb dX10_reachOf_184 (by decide) ?_
                    exact ih zq243_ yq190_ zq248_ _ _ ls (by have := iRg zq243_; have := iRg yq190_; have := iRg zq248_; omega) (by have := iRg zq243_; have := iRg yq190_; have := iRg zq248_; omega) (by have := iRg zq243_; have := iRg yq190_; have := iRg zq248_; omega) (by have := iRg zq243_; have := iRg yq190_; have := iRg zq248_; omega) (by have := iRg zq243_; have := iRg yq190_; have := iRg zq248_; omega) hc_h hc_al hH (lv_sub hl [0, 1, 3, 6, 7, 8] rfl)
              · skip
                have eT := eT.symm; subst eT
                have er_rq219_ := er_rq219_.symm; subst er_rq219_
                have eM := eM.symm; subst eM
                have cq221_ : ¬ sgnF f xn nq192_ := cq221_
                refine jif_eq (tgt := 113) hx hb dX10_reachOf_100 (by decide) (fun cq249_ => ?_) (fun cq249_ => absurd cq249_ (by decide))
                refine lv_iconst (v := 0) hx hb dX10_reachOf_113 (by decide) ?_
                refine lv_istore (lv' := [(7, .int 0), (6, .int xq198_), (5, .int yq190_), (4, .int yq189_), (3, .int yq188_), (0, .ref h), (1, .int bb), (2, .int x)]) hx hb dX10_reachOf_114 hl (by decide) rfl (fun ls hl => ?_)
                refine lv_iload_n hx hb dX10_reachOf_116 rfl (lv_at hl 4 rfl) ?_
                refine lv_iload hx hb dX10_reachOf_117 (lv_at hl 0 rfl) ?_
                refine jif_eq (tgt := 129) hx hb dX10_reachOf_119 (by decide) (fun cq250_ => ?_) (fun cq250_ => absurd cq250_ (by decide))
                refine lv_iconst (v := 0) hx hb dX10_reachOf_129 (by decide) ?_
                refine lv_ior hx hb dX10_reachOf_130 ?_
                refine lv_topi (fun zq251_ e_zq251_ => ?_)
                refine lv_istore_n (lv' := [(3, .int zq251_), (7, .int 0), (6, .int xq198_), (5, .int yq190_), (4, .int yq189_), (0, .ref h), (1, .int bb), (2, .int x)]) hx hb dX10_reachOf_131 rfl hl (by decide) rfl (fun ls hl => ?_)
                refine lv_iload hx hb dX10_reachOf_132 (lv_at hl 1 rfl) ?_
                refine jif_ne (tgt := 153) hx hb dX10_reachOf_134 (by decide) (fun cq252_ => absurd cq252_ (by decide)) (fun cq252_ => ?_)
                refine lv_iload hx hb dX10_reachOf_137 (lv_at hl 2 rfl) ?_
                refine lv_iconst (v := -1) hx hb dX10_reachOf_139 (by decide) ?_
                refine jic_eq (tgt := 157) hx hb dX10_reachOf_140 (by decide) (fun cq253_ => ?_) (fun cq253_ => ?_)
                · skip
                  have cq253_ : xq198_.toInt = (-1) := cq253_
                  refine lv_iconst (v := 0) hx hb dX10_reachOf_157 (by decide) ?_
                  refine lv_istore (lv' := [(8, .int 0), (3, .int zq251_), (7, .int 0), (6, .int xq198_), (5, .int yq190_), (4, .int yq189_), (0, .ref h), (1, .int bb), (2, .int x)]) hx hb dX10_reachOf_158 hl (by decide) rfl (fun ls hl => ?_)
                  refine lv_iload hx hb dX10_reachOf_160 (lv_at hl 0 rfl) ?_
                  refine jif_eq (tgt := 177) hx hb dX10_reachOf_162 (by decide) (fun cq254_ => ?_) (fun cq254_ => absurd cq254_ (by decide))
                  refine lv_iload hx hb dX10_reachOf_177 (lv_at hl 5 rfl) ?_
                  refine lv_istore (lv' := [(4, .int yq189_), (8, .int 0), (3, .int zq251_), (7, .int 0), (6, .int xq198_), (5, .int yq190_), (0, .ref h), (1, .int bb), (2, .int x)]) hx hb dX10_reachOf_179 hl (by decide) rfl (fun ls hl => ?_)
                  obtain ⟨zq255_, e_zq255_⟩ : ∃ y : Int32, y = yq190_ + (-1) := ⟨_, rfl⟩
                  refine lv_iinc (v := zq255_) (lv' := [(5, .int zq255_), (4, .int yq189_), (8, .int 0), (3, .int zq251_), (7, .int 0), (6, .int xq198_), (0, .ref h), (1, .int bb), (2, .int x)]) hx hb dX10_reachOf_181 hl (k := 5) rfl (by rw [e_zq255_]; rfl) (by decide) rfl (fun ls hl => ?_)
                  have h_zq255_ : zq255_.toInt = yq190_.toInt + -1 := by rw [e_zq255_, iAdd (by have : (-1 : Int32).toInt = -1 := rfl; omega) (by have : (-1 : Int32).toInt = -1 := rfl; omega)]; rfl
                  refine lv_goto (tgt := 66) hx hb dX10_reachOf_184 (by decide) ?_
                  exact ih zq251_ yq189_ zq255_ _ _ ls (by have := iRg zq251_; have := iRg yq189_; have := iRg zq255_; omega) (by have := iRg zq251_; have := iRg yq189_; have := iRg zq255_; omega) (by have := iRg zq251_; have := iRg yq189_; have := iRg zq255_; omega) (by have := iRg zq251_; have := iRg yq189_; have := iRg zq255_; omega) (by have := iRg zq251_; have := iRg yq189_; have := iRg zq255_; omega) hc_h hc_al hH (lv_sub hl [0, 1, 3, 6, 7, 8] rfl)
                · skip
                  have cq253_ : xq198_.toInt ≠ (-1) := cq253_
                  refine lv_aload_n hx hb dX10_reachOf_143 rfl (lv_at hl 5 rfl) ?_
                  refine lv_iload_n hx hb dX10_reachOf_144 rfl (lv_at hl 6 rfl) ?_
                  refine lv_iload hx hb dX10_reachOf_145 (lv_at hl 2 rfl) ?_
                  refine goI hK hH (runV (As := [.int bb, .int xq198_]) (rest := []) hC hK hH (c_X10_isInTime hc_h hn_h hc_al hn_al ht_mt ht_pa ht_li (by exact hR_f) (by omega) (by omega)) mlX10_74 (rcvM hK hH hc_h rfl) ⟨⟨Nat.le_of_ble_eq_true rfl, Nat.le_of_ble_eq_true rfl⟩, Nat.le_of_ble_eq_true rfl, Nat.le_of_ble_eq_true rfl⟩ rfl hl.1 rfl (Nat.le_of_ble_eq_true rfl) dX10_reachOf_147) (fun rq258_ Mq256_ Tq257_ Hq_ lcq_ hP hz hH => ?_)
                  try dsimp only at hP
                  obtain ⟨(er_rq258_ | er_rq258_), eT, eM⟩ := hP
                  · skip
                    have eT := eT.symm; subst eT
                    have er_rq258_ := er_rq258_.symm; subst er_rq258_
                    have eM := eM.symm; subst eM
                    refine jif_eq (tgt := 157) hx hb dX10_reachOf_150 (by decide) (fun cq259_ => absurd cq259_ (by decide)) (fun cq259_ => ?_)
                    refine lv_iconst (v := 1) hx hb dX10_reachOf_153 (by decide) ?_
                    refine lv_goto (tgt := 158) hx hb dX10_reachOf_154 (by decide) ?_
                    refine lv_istore (lv' := [(8, .int 1), (3, .int zq251_), (7, .int 0), (6, .int xq198_), (5, .int yq190_), (4, .int yq189_), (0, .ref h), (1, .int bb), (2, .int x)]) hx hb dX10_reachOf_158 hl (by decide) rfl (fun ls hl => ?_)
                    refine lv_iload hx hb dX10_reachOf_160 (lv_at hl 0 rfl) ?_
                    refine jif_eq (tgt := 177) hx hb dX10_reachOf_162 (by decide) (fun cq260_ => absurd cq260_ (by decide)) (fun cq260_ => ?_)
                    refine lv_iload hx hb dX10_reachOf_165 (lv_at hl 4 rfl) ?_
                    refine lv_iload hx hb dX10_reachOf_167 (lv_at hl 5 rfl) ?_
                    refine jic_le (tgt := 177) hx hb dX10_reachOf_169 (by decide) (fun cq261_ => ?_) (fun cq261_ => ?_)
                    · skip
                      have cq261_ : yq190_.toInt ≤ yq189_.toInt := cq261_
                      refine lv_iload hx hb dX10_reachOf_177 (lv_at hl 5 rfl) ?_
                      refine lv_istore (lv' := [(4, .int yq189_), (8, .int 1), (3, .int zq251_), (7, .int 0), (6, .int xq198_), (5, .int yq190_), (0, .ref h), (1, .int bb), (2, .int x)]) hx hb dX10_reachOf_179 hl (by decide) rfl (fun ls hl => ?_)
                      obtain ⟨zq262_, e_zq262_⟩ : ∃ y : Int32, y = yq190_ + (-1) := ⟨_, rfl⟩
                      refine lv_iinc (v := zq262_) (lv' := [(5, .int zq262_), (4, .int yq189_), (8, .int 1), (3, .int zq251_), (7, .int 0), (6, .int xq198_), (0, .ref h), (1, .int bb), (2, .int x)]) hx hb dX10_reachOf_181 hl (k := 5) rfl (by rw [e_zq262_]; rfl) (by decide) rfl (fun ls hl => ?_)
                      have h_zq262_ : zq262_.toInt = yq190_.toInt + -1 := by rw [e_zq262_, iAdd (by have : (-1 : Int32).toInt = -1 := rfl; omega) (by have : (-1 : Int32).toInt = -1 := rfl; omega)]; rfl
                      refine lv_goto (tgt := 66) hx hb dX10_reachOf_184 (by decide) ?_
                      exact ih zq251_ yq189_ zq262_ _ _ ls (by have := iRg zq251_; have := iRg yq189_; have := iRg zq262_; omega) (by have := iRg zq251_; have := iRg yq189_; have := iRg zq262_; omega) (by have := iRg zq251_; have := iRg yq189_; have := iRg zq262_; omega) (by have := iRg zq251_; have := iRg yq189_; have := iRg zq262_; omega) (by have := iRg zq251_; have := iRg yq189_; have := iRg zq262_; omega) hc_h hc_al hH (lv_sub hl [0, 1, 3, 6, 7, 8] rfl)
                    · skip
                      have cq261_ : yq189_.toInt < yq190_.toInt := cq261_
                      refine lv_iload hx hb dX10_reachOf_172 (lv_at hl 4 rfl) ?_
                      refine lv_goto (tgt := 179) hx hb dX10_reachOf_174 (by decide) ?_
                      refine lv_istore (lv' := [(4, .int yq190_), (8, .int 1), (3, .int zq251_), (7, .int 0), (6, .int xq198_), (5, .int yq190_), (0, .ref h), (1, .int bb), (2, .int x)]) hx hb dX10_reachOf_179 hl (by decide) rfl (fun ls hl => ?_)
                      obtain ⟨zq263_, e_zq263_⟩ : ∃ y : Int32, y = yq190_ + (-1) := ⟨_, rfl⟩
                      refine lv_iinc (v := zq263_) (lv' := [(5, .int zq263_), (4, .int yq190_), (8, .int 1), (3, .int zq251_), (7, .int 0), (6, .int xq198_), (0, .ref h), (1, .int bb), (2, .int x)]) hx hb dX10_reachOf_181 hl (k := 5) rfl (by rw [e_zq263_]; rfl) (by decide) rfl (fun ls hl => ?_)
                      have h_zq263_ : zq263_.toInt = yq190_.toInt + -1 := by rw [e_zq263_, iAdd (by have : (-1 : Int32).toInt = -1 := rfl; omega) (by have : (-1 : Int32).toInt = -1 := rfl; omega)]; rfl
                      refine lv_goto (tgt := 66) hx hb dX10_reachOf_184 (by decide) ?_
                      exact ih zq251_ yq190_ zq263_ _ _ ls (by have := iRg zq251_; have := iRg yq190_; have := iRg zq263_; omega) (by have := iRg zq251_; have := iRg yq190_; have := iRg zq263_; omega) (by have := iRg zq251_; have := iRg yq190_; have := iRg zq263_; omega) (by have := iRg zq251_; have := iRg yq190_; have := iRg zq263_; omega) (by have := iRg zq251_; have := iRg yq190_; have := iRg zq263_; omega) hc_h hc_al hH (lv_sub hl [0, 1, 3, 6, 7, 8] rfl)
                  · skip
                    have eT := eT.symm; subst eT
                    have er_rq258_ := er_rq258_.symm; subst er_rq258_
                    have eM := eM.symm; subst eM
                    refine jif_eq (tgt := 157) hx hb dX10_reachOf_150 (by decide) (fun cq264_ => ?_) (fun cq264_ => absurd cq264_ (by decide))
                    refine lv_iconst (v := 0) hx hb dX10_reachOf_157 (by decide) ?_
                    refine lv_istore (lv' := [(8, .int 0), (3, .int zq251_), (7, .int 0), (6, .int xq198_), (5, .int yq190_), (4, .int yq189_), (0, .ref h), (1, .int bb), (2, .int x)]) hx hb dX10_reachOf_158 hl (by decide) rfl (fun ls hl => ?_)
                    refine lv_iload hx hb dX10_reachOf_160 (lv_at hl 0 rfl) ?_
                    refine jif_eq (tgt := 177) hx hb dX10_reachOf_162 (by decide) (fun cq265_ => ?_) (fun cq265_ => absurd cq265_ (by decide))
                    refine lv_iload hx hb dX10_reachOf_177 (lv_at hl 5 rfl) ?_
                    refine lv_istore (lv' := [(4, .int yq189_), (8, .int 0), (3, .int zq251_), (7, .int 0), (6, .int xq198_), (5, .int yq190_), (0, .ref h), (1, .int bb), (2, .int x)]) hx hb dX10_reachOf_179 hl (by decide) rfl (fun ls hl => ?_)
                    obtain ⟨zq266_, e_zq266_⟩ : ∃ y : Int32, y = yq190_ + (-1) := ⟨_, rfl⟩
                    refine lv_iinc (v := zq266_) (lv' := [(5, .int zq266_), (4, .int yq189_), (8, .int 0), (3, .int zq251_), (7, .int 0), (6, .int xq198_), (0, .ref h), (1, .int bb), (2, .int x)]) hx hb dX10_reachOf_181 hl (k := 5) rfl (by rw [e_zq266_]; rfl) (by decide) rfl (fun ls hl => ?_)
                    have h_zq266_ : zq266_.toInt = yq190_.toInt + -1 := by rw [e_zq266_, iAdd (by have : (-1 : Int32).toInt = -1 := rfl; omega) (by have : (-1 : Int32).toInt = -1 := rfl; omega)]; rfl
                    refine lv_goto (tgt := 66) hx hb dX10_reachOf_184 (by decide) ?_
                    exact ih zq251_ yq189_ zq266_ _ _ ls (by have := iRg zq251_; have := iRg yq189_; have := iRg zq266_; omega) (by have := iRg zq251_; have := iRg yq189_; have := iRg zq266_; omega) (by have := iRg zq251_; have := iRg yq189_; have := iRg zq266_; omega) (by have := iRg zq251_; have := iRg yq189_; have := iRg zq266_; omega) (by have := iRg zq251_; have := iRg yq189_; have := iRg zq266_; omega) hc_h hc_al hH (lv_sub hl [0, 1, 3, 6, 7, 8] rfl)
      exact loop (Int.toNat (zq187_.toInt + 1)) 0 0 zq187_ _ _ ls (by have : (0 : Int32).toInt = 0 := rfl; have : (0 : Int32).toInt = 0 := rfl; have := iRg zq187_; omega) (by have : (0 : Int32).toInt = 0 := rfl; have : (0 : Int32).toInt = 0 := rfl; have := iRg zq187_; omega) (by have : (0 : Int32).toInt = 0 := rfl; have : (0 : Int32).toInt = 0 := rfl; have := iRg zq187_; omega) (by have : (0 : Int32).toInt = 0 := rfl; have : (0 : Int32).toInt = 0 := rfl; have := iRg zq187_; omega) (by have : (0 : Int32).toInt = 0 := rfl; have : (0 : Int32).toInt = 0 := rfl; have := iRg zq187_; omega) hc_h hc_al hH hl
  · skip
    have cq3_ : xq2_.toInt = (-1) := cq3_
    refine lv_iconst (v := 0) hx hb dX10_reachOf_13 (by decide) ?_
    exact ret_i hC hr hlk hK hH (⟨trivial, rfl, rfl⟩) (Nat.le_of_ble_eq_true rfl) (Nat.le_of_ble_eq_true rfl) dX10_reachOf_14
