set_option maxHeartbeats 4000000 in
set_option maxRecDepth 100000 in
theorem c_X9_text {z : zD} {l : Launch} {D : va_G} {kA : Nat → ClassId} {M : mM} {T : mT} {sz : Nat} {ro im rc cu : Nat} {w cs bs tp : Nat} {td gd bc py rf lt tl fp : Int32} {g : Nat → Option Nat}{rd nb by_ vi : Nat} {no wi le ki pl be va : Int32} {an : Int32} (hc_ro : M ro = some (.inr (7, [.ref w, .ref im, .ref rd, .ref rc, .ref cu]))) (hn_ro : T ro = none) (hc_w : M w = some (.inr (6, [.int td, .int gd, .int bc, .int py, .int rf, .int lt, .int tl, .int fp, .ref cs, .ref bs, .ref tp]))) (hn_w : T w = none) (hc_bs : M bs = some (.inl (kA 5, 4, .inr (.inr (.inr (.inr g)))))) (hc_rd : M rd = some (.inr (3, [.ref nb, .ref (zv z vi), .int no, .int wi, .ref by_, .int le, .int ki, .int pl, .int be, .int va]))) (hn_rd : T rd = none) (ht_cs : T cs = some 3) (ht_bs : T bs = some 6) (ht_tp : T tp = some 7) (ht_nb : T nb = some 12) (htd : 0 ≤ td.toInt ∧ td.toInt ≤ 999) (hbc : 0 ≤ bc.toInt ∧ bc.toInt ≤ 4) (htl : 0 ≤ tl.toInt ∧ tl.toInt ≤ 600) (hvi : vi < 19) (hno : 0 ≤ no.toInt ∧ no.toInt ≤ 1) (hwi : 0 ≤ wi.toInt ∧ wi.toInt ≤ 1) (hg : ∀ j, j < 4 → ∃ q, g j = some q ∧ T q = some 2) : mCiB z l yX9_text cX9_text 4 (some .int) 8 0 0 D kA M T sz [.ref ro, .int an] (fun r u => ∃ td2 : Int32, ((0 : Int) ≤ td2.toInt ∧ td2.toInt ≤ 999) ∧ ∃ gd2 : Int32, ((-2147483648 : Int) ≤ gd2.toInt ∧ gd2.toInt ≤ 2147483647) ∧ ∃ bc2 : Int32, ((0 : Int) ≤ bc2.toInt ∧ bc2.toInt ≤ 4) ∧ ∃ py2 : Int32, ((-2147483648 : Int) ≤ py2.toInt ∧ py2.toInt ≤ 2147483647) ∧ ∃ rf2 : Int32, ((-2147483648 : Int) ≤ rf2.toInt ∧ rf2.toInt ≤ 2147483647) ∧ ∃ lt2 : Int32, ((-2147483648 : Int) ≤ lt2.toInt ∧ lt2.toInt ≤ 2147483647) ∧ ∃ fp2 : Int32, ((-2147483648 : Int) ≤ fp2.toInt ∧ fp2.toInt ≤ 2147483647) ∧ ∃ le2 : Int32, ((-2147483648 : Int) ≤ le2.toInt ∧ le2.toInt ≤ 2147483647) ∧ ∃ no2 : Int32, ((0 : Int) ≤ no2.toInt ∧ no2.toInt ≤ 1) ∧ ∃ wi2 : Int32, ((0 : Int) ≤ wi2.toInt ∧ wi2.toInt ≤ 1) ∧ ∃ ki2 : Int32, ((-2147483648 : Int) ≤ ki2.toInt ∧ ki2.toInt ≤ 2147483647) ∧ ∃ pl2 : Int32, ((-2147483648 : Int) ≤ pl2.toInt ∧ pl2.toInt ≤ 2147483647) ∧ ∃ be2 : Int32, ((-2147483648 : Int) ≤ be2.toInt ∧ be2.toInt ≤ 2147483647) ∧ ∃ va2 : Int32, ((-2147483648 : Int) ≤ va2.toInt ∧ va2.toInt ≤ 2147483647) ∧ ∃ vi2 : Nat, (vi2 < 19) ∧ (u.1 w = some (.inr (6, [.int td2, .int gd2, .int bc2, .int py2, .int rf2, .int lt2, .int 0, .int fp2, .ref cs, .ref bs, .ref tp])) ∧ u.1 rd = some (.inr (3, [.ref nb, .ref (zv z vi2), .int no2, .int wi2, .ref tp, .int le2, .int ki2, .int pl2, .int be2, .int va2]))) ∧ u.2 = T ∧ (∀ q, FrA T q → q ≠ w → q ≠ rd → u.1 q = M q)) := by
  unfold mCiB
  refine start_WB (by decide) (Nat.le_of_ble_eq_true rfl) ?_
  intro p e s m below meth c ls hC hr hlk hnm hK hH hsz hZ hl
  have hx := hC.1
  have hb := hC.2.1
  have hl : lv_has ls 4 [(0, .ref ro), (1, .int an)] := hl
  have hF : ∀ q, FrA T q → q ≠ w → q ≠ rd → M q = M q := fun q _ _ _ => rfl
  have n_ro_w : ro ≠ w := neM hc_ro hc_w (by simp)
  have n_ro_bs : ro ≠ bs := neM hc_ro hc_bs (by simp)
  have n_ro_rd : ro ≠ rd := neM hc_ro hc_rd (by simp)
  have n_w_ro : w ≠ ro := neM hc_w hc_ro (by simp)
  have n_w_bs : w ≠ bs := neM hc_w hc_bs (by simp)
  have n_w_rd : w ≠ rd := neM hc_w hc_rd (by simp)
  have n_bs_ro : bs ≠ ro := neM hc_bs hc_ro (by simp)
  have n_bs_w : bs ≠ w := neM hc_bs hc_w (by simp)
  have n_bs_rd : bs ≠ rd := neM hc_bs hc_rd (by simp)
  have n_rd_ro : rd ≠ ro := neM hc_rd hc_ro (by simp)
  have n_rd_w : rd ≠ w := neM hc_rd hc_w (by simp)
  have n_rd_bs : rd ≠ bs := neM hc_rd hc_bs (by simp)
  refine lv_aload_n hx hb dX9_text_0 rfl (lv_at hl 0 rfl) ?_
  refine xg hC hK hH flX9_12 hc_ro rfl dX9_text_1 ?_
  refine xg hC hK hH flX9_45 hc_w rfl dX9_text_4 ?_
  refine lv_istore_n (lv' := [(2, .int tl), (0, .ref ro), (1, .int an)]) hx hb dX9_text_7 rfl hl (by decide) rfl (fun ls hl => ?_)
  refine lv_aload_n hx hb dX9_text_8 rfl (lv_at hl 1 rfl) ?_
  refine xg hC hK hH flX9_12 hc_ro rfl dX9_text_9 ?_
  refine lv_iconst (v := 0) hx hb dX9_text_12 (by decide) ?_
  refine yp (v := .int 0) hC hK hH flX9_45 hc_w (noT hn_w) rfl rfl (Nat.le_of_ble_eq_true rfl) dX9_text_13 (fun Hq_ lcq_ Mq1_ hc_w hfr hH => ?_)
  have hc_w : Mq1_ w = some (.inr (6, [.int td, .int gd, .int bc, .int py, .int rf, .int lt, .int 0, .int fp, .ref cs, .ref bs, .ref tp])) := hc_w
  have hc_ro : Mq1_ ro = some (.inr (7, [.ref w, .ref im, .ref rd, .ref rc, .ref cu])) := (hfr ro n_ro_w).trans hc_ro
  have hc_bs : Mq1_ bs = some (.inl (kA 5, 4, .inr (.inr (.inr (.inr g))))) := (hfr bs n_bs_w).trans hc_bs
  have hc_rd : Mq1_ rd = some (.inr (3, [.ref nb, .ref (zv z vi), .int no, .int wi, .ref by_, .int le, .int ki, .int pl, .int be, .int va])) := (hfr rd n_rd_w).trans hc_rd
  have hF : ∀ q, FrA T q → q ≠ w → q ≠ rd → Mq1_ q = M q := fun q hq h0 h1 => (hfr q h0).trans (hF q hq h0 h1)
  refine lv_iload_n hx hb dX9_text_16 rfl (lv_at hl 2 rfl) ?_
  refine jif_eq (tgt := 27) hx hb dX9_text_17 (by decide) (fun cq2_ => ?_) (fun cq2_ => ?_)
  · skip
    have cq2_ : an.toInt = 0 := cq2_
    refine lv_aload_n hx hb dX9_text_27 rfl (lv_at hl 1 rfl) ?_
    refine xg hC hK hH flX9_23 hc_ro rfl dX9_text_28 ?_
    refine lv_aload_n hx hb dX9_text_31 rfl (lv_at hl 1 rfl) ?_
    refine xg hC hK hH flX9_12 hc_ro rfl dX9_text_32 ?_
    refine xg hC hK hH flX9_52 hc_w rfl dX9_text_35 ?_
    refine lv_iload_n hx hb dX9_text_38 rfl (lv_at hl 0 rfl) ?_
    refine goV hK hH (runV (As := [.ref tp, .int tl]) (rest := []) hC hK hH (c_X4_open hc_rd hn_rd ht_nb ht_tp (by omega)) mlX9_56 (rcvM hK hH hc_rd rfl) ⟨⟨Nat.le_of_ble_eq_true rfl, Nat.le_of_ble_eq_true rfl⟩, Nat.le_of_ble_eq_true rfl, Nat.le_of_ble_eq_true rfl⟩ rfl hl.1 rfl (Nat.le_of_ble_eq_true rfl) dX9_text_39) (fun Mq3_ Tq4_ Hq_ lcq_ hP hz hH => ?_)
    try dsimp only at hP
    obtain ⟨xq7_, ⟨l_xq7_, g_xq7_⟩, xq8_, ⟨l_xq8_, g_xq8_⟩, xq9_, ⟨l_xq9_, g_xq9_⟩, xq10_, ⟨l_xq10_, g_xq10_⟩, (⟨cq6_, hx_rd⟩), eT, hfr⟩ := hP
    have eT := eT.symm; subst eT
    have hc_ro : Mq3_ ro = some (.inr (7, [.ref w, .ref im, .ref rd, .ref rc, .ref cu])) := (hfr ro (Or.inl hn_ro) n_ro_rd).trans hc_ro
    have hc_w : Mq3_ w = some (.inr (6, [.int td, .int gd, .int bc, .int py, .int rf, .int lt, .int 0, .int fp, .ref cs, .ref bs, .ref tp])) := (hfr w (Or.inl hn_w) n_w_rd).trans hc_w
    have hc_bs : Mq3_ bs = some (.inl (kA 5, 4, .inr (.inr (.inr (.inr g))))) := (hfr bs (Or.inr (Or.inl ht_bs)) n_bs_rd).trans hc_bs
    have hc_rd : Mq3_ rd = some (.inr (3, [.ref nb, .ref (zv z vi), .int no, .int wi, .ref tp, .int tl, .int xq7_, .int xq8_, .int xq9_, .int xq10_])) := hx_rd
    have hF : ∀ q, FrA T q → q ≠ w → q ≠ rd → Mq3_ q = M q := fun q hq h0 h1 => (hfr q (FrA.k hq)  h1).trans (hF q hq h0 h1)
    have cq6_ : xq8_.toInt ≤ xq9_.toInt ∧ xq9_.toInt ≤ tl.toInt := cq6_
    refine lv_aload_n hx hb dX9_text_42 rfl (lv_at hl 1 rfl) ?_
    refine xg hC hK hH flX9_12 hc_ro rfl dX9_text_43 ?_
    refine lv_aload_n hx hb dX9_text_46 rfl (lv_at hl 1 rfl) ?_
    refine xg hC hK hH flX9_23 hc_ro rfl dX9_text_47 ?_
    refine goI hK hH (runVB (As := []) (rest := [.ref w]) hC hK hH hZ (c_X4_faultPlace hc_rd hn_rd ht_nb ht_tp (by omega) (by omega) (by omega) (by omega) (by omega) (by omega) (by omega) (by omega)) mlX9_60 (rcvM hK hH hc_rd rfl) ⟨⟨Nat.le_of_ble_eq_true rfl, Nat.le_of_ble_eq_true rfl⟩, Nat.le_of_ble_eq_true rfl, Nat.le_of_ble_eq_true rfl⟩ rfl hl.1 rfl (Nat.le_of_ble_eq_true rfl) dX9_text_50) (fun rq13_ Mq11_ Tq12_ Hq_ lcq_ hP hz hH => ?_)
    try dsimp only at hP
    obtain ⟨xq16_, ⟨l_xq16_, g_xq16_⟩, xq17_, ⟨l_xq17_, g_xq17_⟩, xq18_, ⟨l_xq18_, g_xq18_⟩, xq19_, ⟨l_xq19_, g_xq19_⟩, xq20_, ⟨l_xq20_, g_xq20_⟩, xq21_, ⟨l_xq21_, g_xq21_⟩, vq15_, h_vq15_, (⟨cq14_, hx_rd⟩), eT, hfr⟩ := hP
    have eT := eT.symm; subst eT
    have hc_ro : Mq11_ ro = some (.inr (7, [.ref w, .ref im, .ref rd, .ref rc, .ref cu])) := (hfr ro (Or.inl hn_ro) n_ro_rd).trans hc_ro
    have hc_w : Mq11_ w = some (.inr (6, [.int td, .int gd, .int bc, .int py, .int rf, .int lt, .int 0, .int fp, .ref cs, .ref bs, .ref tp])) := (hfr w (Or.inl hn_w) n_w_rd).trans hc_w
    have hc_bs : Mq11_ bs = some (.inl (kA 5, 4, .inr (.inr (.inr (.inr g))))) := (hfr bs (Or.inr (Or.inl ht_bs)) n_bs_rd).trans hc_bs
    have hc_rd : Mq11_ rd = some (.inr (3, [.ref nb, .ref (zv z vq15_), .int xq20_, .int xq21_, .ref tp, .int tl, .int xq16_, .int xq17_, .int xq18_, .int xq19_])) := hx_rd
    have hF : ∀ q, FrA T q → q ≠ w → q ≠ rd → Mq11_ q = M q := fun q hq h0 h1 => (hfr q (FrA.k hq)  h1).trans (hF q hq h0 h1)
    have cq14_ : xq17_.toInt ≤ xq18_.toInt ∧ xq18_.toInt ≤ tl.toInt := cq14_
    refine yp (v := .int rq13_) hC hK hH flX9_64 hc_w (noT hn_w) rfl rfl (Nat.le_of_ble_eq_true rfl) dX9_text_53 (fun Hq_ lcq_ Mq22_ hc_w hfr hH => ?_)
    have hc_w : Mq22_ w = some (.inr (6, [.int td, .int gd, .int bc, .int py, .int rf, .int lt, .int 0, .int rq13_, .ref cs, .ref bs, .ref tp])) := hc_w
    have hc_ro : Mq22_ ro = some (.inr (7, [.ref w, .ref im, .ref rd, .ref rc, .ref cu])) := (hfr ro n_ro_w).trans hc_ro
    have hc_bs : Mq22_ bs = some (.inl (kA 5, 4, .inr (.inr (.inr (.inr g))))) := (hfr bs n_bs_w).trans hc_bs
    have hc_rd : Mq22_ rd = some (.inr (3, [.ref nb, .ref (zv z vq15_), .int xq20_, .int xq21_, .ref tp, .int tl, .int xq16_, .int xq17_, .int xq18_, .int xq19_])) := (hfr rd n_rd_w).trans hc_rd
    have hF : ∀ q, FrA T q → q ≠ w → q ≠ rd → Mq22_ q = M q := fun q hq h0 h1 => (hfr q h0).trans (hF q hq h0 h1)
    refine lv_aload_n hx hb dX9_text_56 rfl (lv_at hl 1 rfl) ?_
    refine xg hC hK hH flX9_12 hc_ro rfl dX9_text_57 ?_
    refine xg hC hK hH flX9_64 hc_w rfl dX9_text_60 ?_
    refine lv_iconst (v := -1) hx hb dX9_text_63 (by decide) ?_
    refine jic_eq (tgt := 69) hx hb dX9_text_64 (by decide) (fun cq23_ => ?_) (fun cq23_ => ?_)
    · skip
      have cq23_ : rq13_.toInt = (-1) := cq23_
      refine lv_aload_n hx hb dX9_text_69 rfl (lv_at hl 1 rfl) ?_
      refine xg hC hK hH flX9_23 hc_ro rfl dX9_text_70 ?_
      refine lv_aload_n hx hb dX9_text_73 rfl (lv_at hl 1 rfl) ?_
      refine xg hC hK hH flX9_12 hc_ro rfl dX9_text_74 ?_
      refine xg hC hK hH flX9_52 hc_w rfl dX9_text_77 ?_
      refine lv_iload_n hx hb dX9_text_80 rfl (lv_at hl 0 rfl) ?_
      refine goV hK hH (runV (As := [.ref tp, .int tl]) (rest := []) hC hK hH (c_X4_open hc_rd hn_rd ht_nb ht_tp (by omega)) mlX9_56 (rcvM hK hH hc_rd rfl) ⟨⟨Nat.le_of_ble_eq_true rfl, Nat.le_of_ble_eq_true rfl⟩, Nat.le_of_ble_eq_true rfl, Nat.le_of_ble_eq_true rfl⟩ rfl hl.1 rfl (Nat.le_of_ble_eq_true rfl) dX9_text_81) (fun Mq24_ Tq25_ Hq_ lcq_ hP hz hH => ?_)
      try dsimp only at hP
      obtain ⟨xq28_, ⟨l_xq28_, g_xq28_⟩, xq29_, ⟨l_xq29_, g_xq29_⟩, xq30_, ⟨l_xq30_, g_xq30_⟩, xq31_, ⟨l_xq31_, g_xq31_⟩, (⟨cq27_, hx_rd⟩), eT, hfr⟩ := hP
      have eT := eT.symm; subst eT
      have hc_ro : Mq24_ ro = some (.inr (7, [.ref w, .ref im, .ref rd, .ref rc, .ref cu])) := (hfr ro (Or.inl hn_ro) n_ro_rd).trans hc_ro
      have hc_w : Mq24_ w = some (.inr (6, [.int td, .int gd, .int bc, .int py, .int rf, .int lt, .int 0, .int rq13_, .ref cs, .ref bs, .ref tp])) := (hfr w (Or.inl hn_w) n_w_rd).trans hc_w
      have hc_bs : Mq24_ bs = some (.inl (kA 5, 4, .inr (.inr (.inr (.inr g))))) := (hfr bs (Or.inr (Or.inl ht_bs)) n_bs_rd).trans hc_bs
      have hc_rd : Mq24_ rd = some (.inr (3, [.ref nb, .ref (zv z vq15_), .int xq20_, .int xq21_, .ref tp, .int tl, .int xq28_, .int xq29_, .int xq30_, .int xq31_])) := hx_rd
      have hF : ∀ q, FrA T q → q ≠ w → q ≠ rd → Mq24_ q = M q := fun q hq h0 h1 => (hfr q (FrA.k hq)  h1).trans (hF q hq h0 h1)
      have cq27_ : xq29_.toInt ≤ xq30_.toInt ∧ xq30_.toInt ≤ tl.toInt := cq27_
      refine lv_iconst (v := 0) hx hb dX9_text_84 (by decide) ?_
      refine lv_istore_n (lv' := [(3, .int 0), (2, .int tl), (0, .ref ro), (1, .int an)]) hx hb dX9_text_85 rfl hl (by decide) rfl (fun ls hl => ?_)
      have loop : ∀ (n : Nat) (yq32_ : Int32) (yq33_ : Int32) (yq34_ : Int32) (yq35_ : Int32) (yq36_ : Int32) (yq37_ : Int32) (yq38_ : Int32) (yq39_ : Nat) (yq40_ : Int32) (yq41_ : Int32) (yq42_ : Int32) (yq43_ : Int32) (yq44_ : Int32) (yq45_ : Int32) (Hq_ : Heap) (lcq_ : List Loc) (Mq46_ : mM) (ls : Array Slot), 601 - yq32_.toInt ≤ (n : Int) → (0 : Int) ≤ yq32_.toInt → yq32_.toInt ≤ 600 → (0 : Int) ≤ yq33_.toInt → yq33_.toInt ≤ 999 → (0 : Int) ≤ yq35_.toInt → yq35_.toInt ≤ 4 → (0 : Int) ≤ yq40_.toInt → yq40_.toInt ≤ 1 → (0 : Int) ≤ yq41_.toInt → yq41_.toInt ≤ 1 → (0 : Int) ≤ yq42_.toInt → yq42_.toInt ≤ 4 → (0 : Int) ≤ yq43_.toInt → yq43_.toInt ≤ 600 → (0 : Int) ≤ yq44_.toInt → yq44_.toInt ≤ 600 → (yq39_ < 19) → (yq43_.toInt ≤ yq44_.toInt) → (yq44_.toInt ≤ tl.toInt) → Mq46_ ro = some (.inr (7, [.ref w, .ref im, .ref rd, .ref rc, .ref cu])) → Mq46_ w = some (.inr (6, [.int yq33_, .int yq34_, .int yq35_, .int yq36_, .int yq37_, .int yq38_, .int 0, .int rq13_, .ref cs, .ref bs, .ref tp])) → Mq46_ bs = some (.inl (kA 5, 4, .inr (.inr (.inr (.inr g))))) → Mq46_ rd = some (.inr (3, [.ref nb, .ref (zv z yq39_), .int yq40_, .int yq41_, .ref tp, .int tl, .int yq42_, .int yq43_, .int yq44_, .int yq45_])) → (∀ q, FrA T q → q ≠ w → q ≠ rd → Mq46_ q = M q) → mS D kA Mq46_ T (mA M T sz) s.heap Hq_ lcq_ → lv_has ls 4 [(3, .int yq32_), (2, .int tl), (0, .ref ro), (1, .int an)] → W p l e (rmL 8 0 0) s m ([.ref ro, .int an] : List Value).toArray below meth c Hq_ lcq_ 0 0 (MQ below (va_Qi (fun r u => ∃ td2 : Int32, ((0 : Int) ≤ td2.toInt ∧ td2.toInt ≤ 999) ∧ ∃ gd2 : Int32, ((-2147483648 : Int) ≤ gd2.toInt ∧ gd2.toInt ≤ 2147483647) ∧ ∃ bc2 : Int32, ((0 : Int) ≤ bc2.toInt ∧ bc2.toInt ≤ 4) ∧ ∃ py2 : Int32, ((-2147483648 : Int) ≤ py2.toInt ∧ py2.toInt ≤ 2147483647) ∧ ∃ rf2 : Int32, ((-2147483648 : Int) ≤ rf2.toInt ∧ rf2.toInt ≤ 2147483647) ∧ ∃ lt2 : Int32, ((-2147483648 : Int) ≤ lt2.toInt ∧ lt2.toInt ≤ 2147483647) ∧ ∃ fp2 : Int32, ((-2147483648 : Int) ≤ fp2.toInt ∧ fp2.toInt ≤ 2147483647) ∧ ∃ le2 : Int32, ((-2147483648 : Int) ≤ le2.toInt ∧ le2.toInt ≤ 2147483647) ∧ ∃ no2 : Int32, ((0 : Int) ≤ no2.toInt ∧ no2.toInt ≤ 1) ∧ ∃ wi2 : Int32, ((0 : Int) ≤ wi2.toInt ∧ wi2.toInt ≤ 1) ∧ ∃ ki2 : Int32, ((-2147483648 : Int) ≤ ki2.toInt ∧ ki2.toInt ≤ 2147483647) ∧ ∃ pl2 : Int32, ((-2147483648 : Int) ≤ pl2.toInt ∧ pl2.toInt ≤ 2147483647) ∧ ∃ be2 : Int32, ((-2147483648 : Int) ≤ be2.toInt ∧ be2.toInt ≤ 2147483647) ∧ ∃ va2 : Int32, ((-2147483648 : Int) ≤ va2.toInt ∧ va2.toInt ≤ 2147483647) ∧ ∃ vi2 : Nat, (vi2 < 19) ∧ (u.1 w = some (.inr (6, [.int td2, .int gd2, .int bc2, .int py2, .int rf2, .int lt2, .int 0, .int fp2, .ref cs, .ref bs, .ref tp])) ∧ u.1 rd = some (.inr (3, [.ref nb, .ref (zv z vi2), .int no2, .int wi2, .ref tp, .int le2, .int ki2, .int pl2, .int be2, .int va2]))) ∧ u.2 = T ∧ (∀ q, FrA T q → q ≠ w → q ≠ rd → u.1 q = M q)) (mB D kA M T sz) (mA M T sz)) ([.ref ro, .int an] : List Value).toArray s 0 0 (mA M T sz)) (F0 m 86 ls []) := by
        intro n
        induction n with
        | zero =>
          intro yq32_ yq33_ yq34_ yq35_ yq36_ yq37_ yq38_ yq39_ yq40_ yq41_ yq42_ yq43_ yq44_ yq45_ Hq_ lcq_ Mq46_ ls hme l_yq32_ g_yq32_ l_yq33_ g_yq33_ l_yq35_ g_yq35_ l_yq40_ g_yq40_ l_yq41_ g_yq41_ l_yq42_ g_yq42_ l_yq43_ g_yq43_ l_yq44_ g_yq44_ hv0_yq32_ hv1_yq32_ hv2_yq32_ hc_ro hc_w hc_bs hc_rd hF hH hl
          exfalso; omega
        | succ n ih =>
          intro yq32_ yq33_ yq34_ yq35_ yq36_ yq37_ yq38_ yq39_ yq40_ yq41_ yq42_ yq43_ yq44_ yq45_ Hq_ lcq_ Mq46_ ls hme l_yq32_ g_yq32_ l_yq33_ g_yq33_ l_yq35_ g_yq35_ l_yq40_ g_yq40_ l_yq41_ g_yq41_ l_yq42_ g_yq42_ l_yq43_ g_yq43_ l_yq44_ g_yq44_ hv0_yq32_ hv1_yq32_ hv2_yq32_ hc_ro hc_w hc_bs hc_rd hF hH hl
          refine lv_iload_n hx hb dX9_text_86 rfl (lv_at hl 0 rfl) ?_
          refine lv_sipush (v := 600) hx hb dX9_text_87 (by decide) ?_
          refine jic_ge (tgt := 133) hx hb dX9_text_90 (by decide) (fun cq47_ => ?_) (fun cq47_ => ?_)
          · skip
            have cq47_ : 600 ≤ yq32_.toInt := cq47_
            refine lv_iload_n hx hb dX9_text_133 rfl (lv_at hl 0 rfl) ?_
            exact ret_i hC hr hlk hK hH (⟨yq33_, ⟨by omega, by omega⟩, yq34_, iRg _, yq35_, ⟨by omega, by omega⟩, yq36_, iRg _, yq37_, iRg _, yq38_, iRg _, rq13_, iRg _, tl, iRg _, yq40_, ⟨by omega, by omega⟩, yq41_, ⟨by omega, by omega⟩, yq42_, iRg _, yq43_, iRg _, yq44_, iRg _, yq45_, iRg _, yq39_, by omega, ⟨hc_w, hc_rd⟩, rfl, hF⟩) (Nat.le_of_ble_eq_true rfl) (Nat.le_of_ble_eq_true rfl) dX9_text_134
          · skip
            have cq47_ : yq32_.toInt < 600 := cq47_
            refine lv_aload_n hx hb dX9_text_93 rfl (lv_at hl 2 rfl) ?_
            refine xg hC hK hH flX9_23 hc_ro rfl dX9_text_94 ?_
            refine goI hK hH (runV (As := []) (rest := []) hC hK hH (c_X4_atEnd hc_rd hn_rd ht_nb ht_tp) mlX9_66 (rcvM hK hH hc_rd rfl) ⟨⟨Nat.le_of_ble_eq_true rfl, Nat.le_of_ble_eq_true rfl⟩, Nat.le_of_ble_eq_true rfl, Nat.le_of_ble_eq_true rfl⟩ rfl hl.1 rfl (Nat.le_of_ble_eq_true rfl) dX9_text_97) (fun rq50_ Mq48_ Tq49_ Hq_ lcq_ hP hz hH => ?_)
            try dsimp only at hP
            obtain ⟨(er_rq50_ | er_rq50_), eT, eM⟩ := hP
            · skip
              have eT := eT.symm; subst eT
              have er_rq50_ := er_rq50_.symm; subst er_rq50_
              have eM := eM.symm; subst eM
              refine jif_ne (tgt := 133) hx hb dX9_text_100 (by decide) (fun cq51_ => ?_) (fun cq51_ => absurd cq51_ (by decide))
              refine lv_iload_n hx hb dX9_text_133 rfl (lv_at hl 0 rfl) ?_
              exact ret_i hC hr hlk hK hH (⟨yq33_, ⟨by omega, by omega⟩, yq34_, iRg _, yq35_, ⟨by omega, by omega⟩, yq36_, iRg _, yq37_, iRg _, yq38_, iRg _, rq13_, iRg _, tl, iRg _, yq40_, ⟨by omega, by omega⟩, yq41_, ⟨by omega, by omega⟩, yq42_, iRg _, yq43_, iRg _, yq44_, iRg _, yq45_, iRg _, yq39_, by omega, ⟨hc_w, hc_rd⟩, rfl, hF⟩) (Nat.le_of_ble_eq_true rfl) (Nat.le_of_ble_eq_true rfl) dX9_text_134
            · skip
              have eT := eT.symm; subst eT
              have er_rq50_ := er_rq50_.symm; subst er_rq50_
              have eM := eM.symm; subst eM
              refine jif_ne (tgt := 133) hx hb dX9_text_100 (by decide) (fun cq52_ => absurd cq52_ (by decide)) (fun cq52_ => ?_)
              refine lv_aload_n hx hb dX9_text_103 rfl (lv_at hl 2 rfl) ?_
              refine xg hC hK hH flX9_23 hc_ro rfl dX9_text_104 ?_
              refine goI hK hH (runVB (As := []) (rest := []) hC hK hH hZ (c_X4_readLine hc_rd hn_rd ht_nb ht_tp (by omega) (by omega) (by omega) (by omega) (by omega) (by omega) (by omega) (by omega)) mlX9_70 (rcvM hK hH hc_rd rfl) ⟨⟨Nat.le_of_ble_eq_true rfl, Nat.le_of_ble_eq_true rfl⟩, Nat.le_of_ble_eq_true rfl, Nat.le_of_ble_eq_true rfl⟩ rfl hl.1 rfl (Nat.le_of_ble_eq_true rfl) dX9_text_107) (fun rq55_ Mq53_ Tq54_ Hq_ lcq_ hP hz hH => ?_)
              try dsimp only at hP
              obtain ⟨xq59_, ⟨l_xq59_, g_xq59_⟩, xq60_, ⟨l_xq60_, g_xq60_⟩, xq61_, ⟨l_xq61_, g_xq61_⟩, xq62_, ⟨l_xq62_, g_xq62_⟩, xq63_, ⟨l_xq63_, g_xq63_⟩, xq64_, ⟨l_xq64_, g_xq64_⟩, vq58_, h_vq58_, (⟨cq56_, er_rq55_, hx_rd⟩ | ⟨cq57_, er_rq55_, hx_rd⟩), eT, hfr⟩ := hP
              · skip
                have eT := eT.symm; subst eT
                have er_rq55_ := er_rq55_.symm; subst er_rq55_
                have hc_ro : Mq53_ ro = some (.inr (7, [.ref w, .ref im, .ref rd, .ref rc, .ref cu])) := (hfr ro (Or.inl hn_ro) n_ro_rd).trans hc_ro
                have hc_w : Mq53_ w = some (.inr (6, [.int yq33_, .int yq34_, .int yq35_, .int yq36_, .int yq37_, .int yq38_, .int 0, .int rq13_, .ref cs, .ref bs, .ref tp])) := (hfr w (Or.inl hn_w) n_w_rd).trans hc_w
                have hc_bs : Mq53_ bs = some (.inl (kA 5, 4, .inr (.inr (.inr (.inr g))))) := (hfr bs (Or.inr (Or.inl ht_bs)) n_bs_rd).trans hc_bs
                have hc_rd : Mq53_ rd = some (.inr (3, [.ref nb, .ref (zv z vq58_), .int xq63_, .int xq64_, .ref tp, .int tl, .int xq59_, .int xq60_, .int xq61_, .int xq62_])) := hx_rd
                have hF : ∀ q, FrA T q → q ≠ w → q ≠ rd → Mq53_ q = M q := fun q hq h0 h1 => (hfr q (FrA.k hq)  h1).trans (hF q hq h0 h1)
                have cq56_ : xq60_.toInt ≤ xq61_.toInt ∧ xq61_.toInt ≤ tl.toInt := cq56_
                refine jif_eq (tgt := 133) hx hb dX9_text_110 (by decide) (fun cq65_ => absurd cq65_ (by decide)) (fun cq65_ => ?_)
                refine lv_aload_n hx hb dX9_text_113 rfl (lv_at hl 2 rfl) ?_
                refine xg hC hK hH flX9_12 hc_ro rfl dX9_text_114 ?_
                refine lv_aload_n hx hb dX9_text_117 rfl (lv_at hl 2 rfl) ?_
                refine goI hK hH (runVB (As := []) (rest := [.ref w]) hC hK hH hZ (c_X9_reasonOfLine hc_ro hn_ro hc_w hn_w hc_bs hc_rd hn_rd ht_cs ht_bs ht_tp ht_nb (by omega) (by omega) (by decide) (by omega) (by omega) (by omega) hg) mlX9_73 (rcvM hK hH hc_ro rfl) ⟨⟨Nat.le_of_ble_eq_true rfl, Nat.le_of_ble_eq_true rfl⟩, Nat.le_of_ble_eq_true rfl, Nat.le_of_ble_eq_true rfl⟩ rfl hl.1 rfl (Nat.le_of_ble_eq_true rfl) dX9_text_118) (fun rq68_ Mq66_ Tq67_ Hq_ lcq_ hP hz hH => ?_)
                try dsimp only at hP
                obtain ⟨xq69_, ⟨l_xq69_, g_xq69_⟩, xq70_, ⟨l_xq70_, g_xq70_⟩, xq71_, ⟨l_xq71_, g_xq71_⟩, xq72_, ⟨l_xq72_, g_xq72_⟩, xq73_, ⟨l_xq73_, g_xq73_⟩, xq74_, ⟨l_xq74_, g_xq74_⟩, (hx_w), eT, hfr⟩ := hP
                have eT := eT.symm; subst eT
                have hc_ro : Mq66_ ro = some (.inr (7, [.ref w, .ref im, .ref rd, .ref rc, .ref cu])) := (hfr ro (Or.inl hn_ro) n_ro_w).trans hc_ro
                have hc_w : Mq66_ w = some (.inr (6, [.int xq69_, .int xq70_, .int xq71_, .int xq72_, .int xq73_, .int xq74_, .int 0, .int rq13_, .ref cs, .ref bs, .ref tp])) := hx_w
                have hc_bs : Mq66_ bs = some (.inl (kA 5, 4, .inr (.inr (.inr (.inr g))))) := (hfr bs (Or.inr ht_bs) n_bs_w).trans hc_bs
                have hc_rd : Mq66_ rd = some (.inr (3, [.ref nb, .ref (zv z vq58_), .int xq63_, .int xq64_, .ref tp, .int tl, .int xq59_, .int xq60_, .int xq61_, .int xq62_])) := (hfr rd (Or.inl hn_rd) n_rd_w).trans hc_rd
                have hF : ∀ q, FrA T q → q ≠ w → q ≠ rd → Mq66_ q = M q := fun q hq h0 h1 => (hfr q hq  h0).trans (hF q hq h0 h1)
                refine goI hK hH (runV (As := [.int rq68_]) (rest := []) hC hK hH (c_X8_note hc_w hn_w hc_bs ht_cs ht_bs ht_tp (by omega) (by omega) (by decide) hg) mlX9_76 (rcvM hK hH hc_w rfl) ⟨⟨Nat.le_of_ble_eq_true rfl, Nat.le_of_ble_eq_true rfl⟩, Nat.le_of_ble_eq_true rfl, Nat.le_of_ble_eq_true rfl⟩ rfl hl.1 rfl (Nat.le_of_ble_eq_true rfl) dX9_text_121) (fun rq77_ Mq75_ Tq76_ Hq_ lcq_ hP hz hH => ?_)
                try dsimp only at hP
                obtain ⟨xq78_, ⟨l_xq78_, g_xq78_⟩, (⟨er_rq77_, hx_w⟩), eT, hfr⟩ := hP
                have eT := eT.symm; subst eT
                have er_rq77_ := er_rq77_.symm; subst er_rq77_
                have hc_ro : Mq75_ ro = some (.inr (7, [.ref w, .ref im, .ref rd, .ref rc, .ref cu])) := (hfr ro (Or.inl hn_ro) n_ro_w).trans hc_ro
                have hc_w : Mq75_ w = some (.inr (6, [.int xq69_, .int xq70_, .int xq71_, .int xq72_, .int xq78_, .int rq68_, .int 0, .int rq13_, .ref cs, .ref bs, .ref tp])) := hx_w
                have hc_bs : Mq75_ bs = some (.inl (kA 5, 4, .inr (.inr (.inr (.inr g))))) := (hfr bs (Or.inr (Or.inl ht_bs)) n_bs_w).trans hc_bs
                have hc_rd : Mq75_ rd = some (.inr (3, [.ref nb, .ref (zv z vq58_), .int xq63_, .int xq64_, .ref tp, .int tl, .int xq59_, .int xq60_, .int xq61_, .int xq62_])) := (hfr rd (Or.inl hn_rd) n_rd_w).trans hc_rd
                have hF : ∀ q, FrA T q → q ≠ w → q ≠ rd → Mq75_ q = M q := fun q hq h0 h1 => (hfr q (FrA.k hq)  h0).trans (hF q hq h0 h1)
                refine jif_ne (tgt := 133) hx hb dX9_text_124 (by decide) (fun cq79_ => ?_) (fun cq79_ => ?_)
                · skip
                  have cq79_ : rq68_.toInt ≠ 0 := cq79_
                  refine lv_iload_n hx hb dX9_text_133 rfl (lv_at hl 0 rfl) ?_
                  exact ret_i hC hr hlk hK hH (⟨xq69_, ⟨by omega, by omega⟩, xq70_, iRg _, xq71_, ⟨by omega, by omega⟩, xq72_, iRg _, xq78_, iRg _, rq68_, iRg _, rq13_, iRg _, tl, iRg _, xq63_, ⟨by omega, by omega⟩, xq64_, ⟨by omega, by omega⟩, xq59_, iRg _, xq60_, iRg _, xq61_, iRg _, xq62_, iRg _, vq58_, by omega, ⟨hc_w, hc_rd⟩, rfl, hF⟩) (Nat.le_of_ble_eq_true rfl) (Nat.le_of_ble_eq_true rfl) dX9_text_134
                · skip
                  have cq79_ : rq68_.toInt = 0 := cq79_
                  obtain ⟨zq80_, e_zq80_⟩ : ∃ y : Int32, y = yq32_ + 1 := ⟨_, rfl⟩
                  refine lv_iinc (v := zq80_) (lv' := [(3, .int zq80_), (2, .int tl), (0, .ref ro), (1, .int an)]) hx hb dX9_text_127 hl (k := 0) rfl (by rw [e_zq80_]; rfl) (by decide) rfl (fun ls hl => ?_)
                  have h_zq80_ : zq80_.toInt = yq32_.toInt + 1 := by rw [e_zq80_, iAdd (by have : (1 : Int32).toInt = 1 := rfl; omega) (by have : (1 : Int32).toInt = 1 := rfl; omega)]; rfl
                  refine lv_goto (tgt := 86) hx hb dX9_text_130 (by decide) ?_
                  exact ih zq80_ xq69_ xq70_ xq71_ xq72_ xq78_ rq68_ vq58_ xq63_ xq64_ xq59_ xq60_ xq61_ xq62_ _ _ _ ls (by have := iRg zq80_; have := iRg xq69_; have := iRg xq70_; have := iRg xq71_; have := iRg xq72_; have := iRg xq78_; have := iRg rq68_; have := iRg xq63_; have := iRg xq64_; have := iRg xq59_; have := iRg xq60_; have := iRg xq61_; have := iRg xq62_; omega) (by have := iRg zq80_; have := iRg xq69_; have := iRg xq70_; have := iRg xq71_; have := iRg xq72_; have := iRg xq78_; have := iRg rq68_; have := iRg xq63_; have := iRg xq64_; have := iRg xq59_; have := iRg xq60_; have := iRg xq61_; have := iRg xq62_; omega) (by have := iRg zq80_; have := iRg xq69_; have := iRg xq70_; have := iRg xq71_; have := iRg xq72_; have := iRg xq78_; have := iRg rq68_; have := iRg xq63_; have := iRg xq64_; have := iRg xq59_; have := iRg xq60_; have := iRg xq61_; have := iRg xq62_; omega) (by have := iRg zq80_; have := iRg xq69_; have := iRg xq70_; have := iRg xq71_; have := iRg xq72_; have := iRg xq78_; have := iRg rq68_; have := iRg xq63_; have := iRg xq64_; have := iRg xq59_; have := iRg xq60_; have := iRg xq61_; have := iRg xq62_; omega) (by have := iRg zq80_; have := iRg xq69_; have := iRg xq70_; have := iRg xq71_; have := iRg xq72_; have := iRg xq78_; have := iRg rq68_; have := iRg xq63_; have := iRg xq64_; have := iRg xq59_; have := iRg xq60_; have := iRg xq61_; have := iRg xq62_; omega) (by have := iRg zq80_; have := iRg xq69_; have := iRg xq70_; have := iRg xq71_; have := iRg xq72_; have := iRg xq78_; have := iRg rq68_; have := iRg xq63_; have := iRg xq64_; have := iRg xq59_; have := iRg xq60_; have := iRg xq61_; have := iRg xq62_; omega) (by have := iRg zq80_; have := iRg xq69_; have := iRg xq70_; have := iRg xq71_; have := iRg xq72_; have := iRg xq78_; have := iRg rq68_; have := iRg xq63_; have := iRg xq64_; have := iRg xq59_; have := iRg xq60_; have := iRg xq61_; have := iRg xq62_; omega) (by have := iRg zq80_; have := iRg xq69_; have := iRg xq70_; have := iRg xq71_; have := iRg xq72_; have := iRg xq78_; have := iRg rq68_; have := iRg xq63_; have := iRg xq64_; have := iRg xq59_; have := iRg xq60_; have := iRg xq61_; have := iRg xq62_; omega) (by have := iRg zq80_; have := iRg xq69_; have := iRg xq70_; have := iRg xq71_; have := iRg xq72_; have := iRg xq78_; have := iRg rq68_; have := iRg xq63_; have := iRg xq64_; have := iRg xq59_; have := iRg xq60_; have := iRg xq61_; have := iRg xq62_; omega) (by have := iRg zq80_; have := iRg xq69_; have := iRg xq70_; have := iRg xq71_; have := iRg xq72_; have := iRg xq78_; have := iRg rq68_; have := iRg xq63_; have := iRg xq64_; have := iRg xq59_; have := iRg xq60_; have := iRg xq61_; have := iRg xq62_; omega) (by have := iRg zq80_; have := iRg xq69_; have := iRg xq70_; have := iRg xq71_; have := iRg xq72_; have := iRg xq78_; have := iRg rq68_; have := iRg xq63_; have := iRg xq64_; have := iRg xq59_; have := iRg xq60_; have := iRg xq61_; have := iRg xq62_; omega) (by have := iRg zq80_; have := iRg xq69_; have := iRg xq70_; have := iRg xq71_; have := iRg xq72_; have := iRg xq78_; have := iRg rq68_; have := iRg xq63_; have := iRg xq64_; have := iRg xq59_; have := iRg xq60_; have := iRg xq61_; have := iRg xq62_; omega) (by have := iRg zq80_; have := iRg xq69_; have := iRg xq70_; have := iRg xq71_; have := iRg xq72_; have := iRg xq78_; have := iRg rq68_; have := iRg xq63_; have := iRg xq64_; have := iRg xq59_; have := iRg xq60_; have := iRg xq61_; have := iRg xq62_; omega) (by have := iRg zq80_; have := iRg xq69_; have := iRg xq70_; have := iRg xq71_; have := iRg xq72_; have := iRg xq78_; have := iRg rq68_; have := iRg xq63_; have := iRg xq64_; have := iRg xq59_; have := iRg xq60_; have := iRg xq61_; have := iRg xq62_; omega) (by have := iRg zq80_; have := iRg xq69_; have := iRg xq70_; have := iRg xq71_; have := iRg xq72_; have := iRg xq78_; have := iRg rq68_; have := iRg xq63_; have := iRg xq64_; have := iRg xq59_; have := iRg xq60_; have := iRg xq61_; have := iRg xq62_; omega) (by have := iRg zq80_; have := iRg xq69_; have := iRg xq70_; have := iRg xq71_; have := iRg xq72_; have := iRg xq78_; have := iRg rq68_; have := iRg xq63_; have := iRg xq64_; have := iRg xq59_; have := iRg xq60_; have := iRg xq61_; have := iRg xq62_; omega) (by have := iRg zq80_; have := iRg xq69_; have := iRg xq70_; have := iRg xq71_; have := iRg xq72_; have := iRg xq78_; have := iRg rq68_; have := iRg xq63_; have := iRg xq64_; have := iRg xq59_; have := iRg xq60_; have := iRg xq61_; have := iRg xq62_; omega) (by have := iRg zq80_; have := iRg xq69_; have := iRg xq70_; have := iRg xq71_; have := iRg xq72_; have := iRg xq78_; have := iRg rq68_; have := iRg xq63_; have := iRg xq64_; have := iRg xq59_; have := iRg xq60_; have := iRg xq61_; have := iRg xq62_; omega) (by have := iRg zq80_; have := iRg xq69_; have := iRg xq70_; have := iRg xq71_; have := iRg xq72_; have := iRg xq78_; have := iRg rq68_; have := iRg xq63_; have := iRg xq64_; have := iRg xq59_; have := iRg xq60_; have := iRg xq61_; have := iRg xq62_; omega) (by have := iRg zq80_; have := iRg xq69_; have := iRg xq70_; have := iRg xq71_; have := iRg xq72_; have := iRg xq78_; have := iRg rq68_; have := iRg xq63_; have := iRg xq64_; have := iRg xq59_; have := iRg xq60_; have := iRg xq61_; have := iRg xq62_; omega) hc_ro hc_w hc_bs hc_rd hF hH (lv_sub hl [0, 1, 2, 3] rfl)
              · skip
                have eT := eT.symm; subst eT
                have er_rq55_ := er_rq55_.symm; subst er_rq55_
                have hc_ro : Mq53_ ro = some (.inr (7, [.ref w, .ref im, .ref rd, .ref rc, .ref cu])) := (hfr ro (Or.inl hn_ro) n_ro_rd).trans hc_ro
                have hc_w : Mq53_ w = some (.inr (6, [.int yq33_, .int yq34_, .int yq35_, .int yq36_, .int yq37_, .int yq38_, .int 0, .int rq13_, .ref cs, .ref bs, .ref tp])) := (hfr w (Or.inl hn_w) n_w_rd).trans hc_w
                have hc_bs : Mq53_ bs = some (.inl (kA 5, 4, .inr (.inr (.inr (.inr g))))) := (hfr bs (Or.inr (Or.inl ht_bs)) n_bs_rd).trans hc_bs
                have hc_rd : Mq53_ rd = some (.inr (3, [.ref nb, .ref (zv z vq58_), .int xq63_, .int xq64_, .ref tp, .int tl, .int xq59_, .int xq60_, .int xq61_, .int xq62_])) := hx_rd
                have hF : ∀ q, FrA T q → q ≠ w → q ≠ rd → Mq53_ q = M q := fun q hq h0 h1 => (hfr q (FrA.k hq)  h1).trans (hF q hq h0 h1)
                have cq57_ : xq60_.toInt ≤ xq61_.toInt ∧ xq61_.toInt ≤ tl.toInt := cq57_
                refine jif_eq (tgt := 133) hx hb dX9_text_110 (by decide) (fun cq81_ => ?_) (fun cq81_ => absurd cq81_ (by decide))
                refine lv_iload_n hx hb dX9_text_133 rfl (lv_at hl 0 rfl) ?_
                exact ret_i hC hr hlk hK hH (⟨yq33_, ⟨by omega, by omega⟩, yq34_, iRg _, yq35_, ⟨by omega, by omega⟩, yq36_, iRg _, yq37_, iRg _, yq38_, iRg _, rq13_, iRg _, tl, iRg _, xq63_, ⟨by omega, by omega⟩, xq64_, ⟨by omega, by omega⟩, xq59_, iRg _, xq60_, iRg _, xq61_, iRg _, xq62_, iRg _, vq58_, by omega, ⟨hc_w, hc_rd⟩, rfl, hF⟩) (Nat.le_of_ble_eq_true rfl) (Nat.le_of_ble_eq_true rfl) dX9_text_134
      exact loop (Int.toNat (601 - 0)) 0 td gd bc py rf lt vq15_ xq20_ xq21_ xq28_ xq29_ xq30_ xq31_ _ _ _ ls (by have : (0 : Int32).toInt = 0 := rfl; have := iRg td; have := iRg gd; have := iRg bc; have := iRg py; have := iRg rf; have := iRg lt; have := iRg xq20_; have := iRg xq21_; have := iRg xq28_; have := iRg xq29_; have := iRg xq30_; have := iRg xq31_; omega) (by have : (0 : Int32).toInt = 0 := rfl; have := iRg td; have := iRg gd; have := iRg bc; have := iRg py; have := iRg rf; have := iRg lt; have := iRg xq20_; have := iRg xq21_; have := iRg xq28_; have := iRg xq29_; have := iRg xq30_; have := iRg xq31_; omega) (by have : (0 : Int32).toInt = 0 := rfl; have := iRg td; have := iRg gd; have := iRg bc; have := iRg py; have := iRg rf; have := iRg lt; have := iRg xq20_; have := iRg xq21_; have := iRg xq28_; have := iRg xq29_; have := iRg xq30_; have := iRg xq31_; omega) (by have : (0 : Int32).toInt = 0 := rfl; have := iRg td; have := iRg gd; have := iRg bc; have := iRg py; have := iRg rf; have := iRg lt; have := iRg xq20_; have := iRg xq21_; have := iRg xq28_; have := iRg xq29_; have := iRg xq30_; have := iRg xq31_; omega) (by have : (0 : Int32).toInt = 0 := rfl; have := iRg td; have := iRg gd; have := iRg bc; have := iRg py; have := iRg rf; have := iRg lt; have := iRg xq20_; have := iRg xq21_; have := iRg xq28_; have := iRg xq29_; have := iRg xq30_; have := iRg xq31_; omega) (by have : (0 : Int32).toInt = 0 := rfl; have := iRg td; have := iRg gd; have := iRg bc; have := iRg py; have := iRg rf; have := iRg lt; have := iRg xq20_; have := iRg xq21_; have := iRg xq28_; have := iRg xq29_; have := iRg xq30_; have := iRg xq31_; omega) (by have : (0 : Int32).toInt = 0 := rfl; have := iRg td; have := iRg gd; have := iRg bc; have := iRg py; have := iRg rf; have := iRg lt; have := iRg xq20_; have := iRg xq21_; have := iRg xq28_; have := iRg xq29_; have := iRg xq30_; have := iRg xq31_; omega) (by have : (0 : Int32).toInt = 0 := rfl; have := iRg td; have := iRg gd; have := iRg bc; have := iRg py; have := iRg rf; have := iRg lt; have := iRg xq20_; have := iRg xq21_; have := iRg xq28_; have := iRg xq29_; have := iRg xq30_; have := iRg xq31_; omega) (by have : (0 : Int32).toInt = 0 := rfl; have := iRg td; have := iRg gd; have := iRg bc; have := iRg py; have := iRg rf; have := iRg lt; have := iRg xq20_; have := iRg xq21_; have := iRg xq28_; have := iRg xq29_; have := iRg xq30_; have := iRg xq31_; omega) (by have : (0 : Int32).toInt = 0 := rfl; have := iRg td; have := iRg gd; have := iRg bc; have := iRg py; have := iRg rf; have := iRg lt; have := iRg xq20_; have := iRg xq21_; have := iRg xq28_; have := iRg xq29_; have := iRg xq30_; have := iRg xq31_; omega) (by have : (0 : Int32).toInt = 0 := rfl; have := iRg td; have := iRg gd; have := iRg bc; have := iRg py; have := iRg rf; have := iRg lt; have := iRg xq20_; have := iRg xq21_; have := iRg xq28_; have := iRg xq29_; have := iRg xq30_; have := iRg xq31_; omega) (by have : (0 : Int32).toInt = 0 := rfl; have := iRg td; have := iRg gd; have := iRg bc; have := iRg py; have := iRg rf; have := iRg lt; have := iRg xq20_; have := iRg xq21_; have := iRg xq28_; have := iRg xq29_; have := iRg xq30_; have := iRg xq31_; omega) (by have : (0 : Int32).toInt = 0 := rfl; have := iRg td; have := iRg gd; have := iRg bc; have := iRg py; have := iRg rf; have := iRg lt; have := iRg xq20_; have := iRg xq21_; have := iRg xq28_; have := iRg xq29_; have := iRg xq30_; have := iRg xq31_; omega) (by have : (0 : Int32).toInt = 0 := rfl; have := iRg td; have := iRg gd; have := iRg bc; have := iRg py; have := iRg rf; have := iRg lt; have := iRg xq20_; have := iRg xq21_; have := iRg xq28_; have := iRg xq29_; have := iRg xq30_; have := iRg xq31_; omega) (by have : (0 : Int32).toInt = 0 := rfl; have := iRg td; have := iRg gd; have := iRg bc; have := iRg py; have := iRg rf; have := iRg lt; have := iRg xq20_; have := iRg xq21_; have := iRg xq28_; have := iRg xq29_; have := iRg xq30_; have := iRg xq31_; omega) (by have : (0 : Int32).toInt = 0 := rfl; have := iRg td; have := iRg gd; have := iRg bc; have := iRg py; have := iRg rf; have := iRg lt; have := iRg xq20_; have := iRg xq21_; have := iRg xq28_; have := iRg xq29_; have := iRg xq30_; have := iRg xq31_; omega) (by have : (0 : Int32).toInt = 0 := rfl; have := iRg td; have := iRg gd; have := iRg bc; have := iRg py; have := iRg rf; have := iRg lt; have := iRg xq20_; have := iRg xq21_; have := iRg xq28_; have := iRg xq29_; have := iRg xq30_; have := iRg xq31_; omega) (by have : (0 : Int32).toInt = 0 := rfl; have := iRg td; have := iRg gd; have := iRg bc; have := iRg py; have := iRg rf; have := iRg lt; have := iRg xq20_; have := iRg xq21_; have := iRg xq28_; have := iRg xq29_; have := iRg xq30_; have := iRg xq31_; omega) (by have : (0 : Int32).toInt = 0 := rfl; have := iRg td; have := iRg gd; have := iRg bc; have := iRg py; have := iRg rf; have := iRg lt; have := iRg xq20_; have := iRg xq21_; have := iRg xq28_; have := iRg xq29_; have := iRg xq30_; have := iRg xq31_; omega) (by have : (0 : Int32).toInt = 0 := rfl; have := iRg td; have := iRg gd; have := iRg bc; have := iRg py; have := iRg rf; have := iRg lt; have := iRg xq20_; have := iRg xq21_; have := iRg xq28_; have := iRg xq29_; have := iRg xq30_; have := iRg xq31_; omega) hc_ro hc_w hc_bs hc_rd hF hH hl
    · skip
      have cq23_ : rq13_.toInt ≠ (-1) := cq23_
      refine lv_iconst (v := -1) hx hb dX9_text_67 (by decide) ?_
      exact ret_i hC hr hlk hK hH (⟨td, ⟨by omega, by omega⟩, gd, iRg _, bc, ⟨by omega, by omega⟩, py, iRg _, rf, iRg _, lt, iRg _, rq13_, iRg _, tl, iRg _, xq20_, ⟨by omega, by omega⟩, xq21_, ⟨by omega, by omega⟩, xq16_, iRg _, xq17_, iRg _, xq18_, iRg _, xq19_, iRg _, vq15_, by omega, ⟨hc_w, hc_rd⟩, rfl, hF⟩) (Nat.le_of_ble_eq_true rfl) (Nat.le_of_ble_eq_true rfl) dX9_text_68
  · skip
    have cq2_ : an.toInt ≠ 0 := cq2_
    refine lv_aload_n hx hb dX9_text_20 rfl (lv_at hl 1 rfl) ?_
    refine xg hC hK hH flX9_12 hc_ro rfl dX9_text_21 ?_
    refine goV hK hH (runV (As := []) (rest := []) hC hK hH (c_X8_begin hc_w hn_w hc_bs ht_cs ht_bs ht_tp (by omega) (by omega) (by decide) hg) mlX9_49 (rcvM hK hH hc_w rfl) ⟨⟨Nat.le_of_ble_eq_true rfl, Nat.le_of_ble_eq_true rfl⟩, Nat.le_of_ble_eq_true rfl, Nat.le_of_ble_eq_true rfl⟩ rfl hl.1 rfl (Nat.le_of_ble_eq_true rfl) dX9_text_24) (fun Mq82_ Tq83_ Hq_ lcq_ hP hz hH => ?_)
    try dsimp only at hP
    obtain ⟨(hx_w), eT, hfr⟩ := hP
    have eT := eT.symm; subst eT
    have hc_ro : Mq82_ ro = some (.inr (7, [.ref w, .ref im, .ref rd, .ref rc, .ref cu])) := (hfr ro (Or.inl hn_ro) n_ro_w).trans hc_ro
    have hc_w : Mq82_ w = some (.inr (6, [.int 0, .int 2, .int 0, .int 0, .int 0, .int 0, .int 0, .int (-1), .ref cs, .ref bs, .ref tp])) := hx_w
    have hc_bs : Mq82_ bs = some (.inl (kA 5, 4, .inr (.inr (.inr (.inr g))))) := (hfr bs (Or.inr (Or.inl ht_bs)) n_bs_w).trans hc_bs
    have hc_rd : Mq82_ rd = some (.inr (3, [.ref nb, .ref (zv z vi), .int no, .int wi, .ref by_, .int le, .int ki, .int pl, .int be, .int va])) := (hfr rd (Or.inl hn_rd) n_rd_w).trans hc_rd
    have hF : ∀ q, FrA T q → q ≠ w → q ≠ rd → Mq82_ q = M q := fun q hq h0 h1 => (hfr q (FrA.k hq)  h0).trans (hF q hq h0 h1)
    refine lv_aload_n hx hb dX9_text_27 rfl (lv_at hl 1 rfl) ?_
    refine xg hC hK hH flX9_23 hc_ro rfl dX9_text_28 ?_
    refine lv_aload_n hx hb dX9_text_31 rfl (lv_at hl 1 rfl) ?_
    refine xg hC hK hH flX9_12 hc_ro rfl dX9_text_32 ?_
    refine xg hC hK hH flX9_52 hc_w rfl dX9_text_35 ?_
    refine lv_iload_n hx hb dX9_text_38 rfl (lv_at hl 0 rfl) ?_
    refine goV hK hH (runV (As := [.ref tp, .int tl]) (rest := []) hC hK hH (c_X4_open hc_rd hn_rd ht_nb ht_tp (by omega)) mlX9_56 (rcvM hK hH hc_rd rfl) ⟨⟨Nat.le_of_ble_eq_true rfl, Nat.le_of_ble_eq_true rfl⟩, Nat.le_of_ble_eq_true rfl, Nat.le_of_ble_eq_true rfl⟩ rfl hl.1 rfl (Nat.le_of_ble_eq_true rfl) dX9_text_39) (fun Mq85_ Tq86_ Hq_ lcq_ hP hz hH => ?_)
    try dsimp only at hP
    obtain ⟨xq89_, ⟨l_xq89_, g_xq89_⟩, xq90_, ⟨l_xq90_, g_xq90_⟩, xq91_, ⟨l_xq91_, g_xq91_⟩, xq92_, ⟨l_xq92_, g_xq92_⟩, (⟨cq88_, hx_rd⟩), eT, hfr⟩ := hP
    have eT := eT.symm; subst eT
    have hc_ro : Mq85_ ro = some (.inr (7, [.ref w, .ref im, .ref rd, .ref rc, .ref cu])) := (hfr ro (Or.inl hn_ro) n_ro_rd).trans hc_ro
    have hc_w : Mq85_ w = some (.inr (6, [.int 0, .int 2, .int 0, .int 0, .int 0, .int 0, .int 0, .int (-1), .ref cs, .ref bs, .ref tp])) := (hfr w (Or.inl hn_w) n_w_rd).trans hc_w
    have hc_bs : Mq85_ bs = some (.inl (kA 5, 4, .inr (.inr (.inr (.inr g))))) := (hfr bs (Or.inr (Or.inl ht_bs)) n_bs_rd).trans hc_bs
    have hc_rd : Mq85_ rd = some (.inr (3, [.ref nb, .ref (zv z vi), .int no, .int wi, .ref tp, .int tl, .int xq89_, .int xq90_, .int xq91_, .int xq92_])) := hx_rd
    have hF : ∀ q, FrA T q → q ≠ w → q ≠ rd → Mq85_ q = M q := fun q hq h0 h1 => (hfr q (FrA.k hq)  h1).trans (hF q hq h0 h1)
    have cq88_ : xq90_.toInt ≤ xq91_.toInt ∧ xq91_.toInt ≤ tl.toInt := cq88_
    refine lv_aload_n hx hb dX9_text_42 rfl (lv_at hl 1 rfl) ?_
    refine xg hC hK hH flX9_12 hc_ro rfl dX9_text_43 ?_
    refine lv_aload_n hx hb dX9_text_46 rfl (lv_at hl 1 rfl) ?_
    refine xg hC hK hH flX9_23 hc_ro rfl dX9_text_47 ?_
    refine goI hK hH (runVB (As := []) (rest := [.ref w]) hC hK hH hZ (c_X4_faultPlace hc_rd hn_rd ht_nb ht_tp (by omega) (by omega) (by omega) (by omega) (by omega) (by omega) (by omega) (by omega)) mlX9_60 (rcvM hK hH hc_rd rfl) ⟨⟨Nat.le_of_ble_eq_true rfl, Nat.le_of_ble_eq_true rfl⟩, Nat.le_of_ble_eq_true rfl, Nat.le_of_ble_eq_true rfl⟩ rfl hl.1 rfl (Nat.le_of_ble_eq_true rfl) dX9_text_50) (fun rq95_ Mq93_ Tq94_ Hq_ lcq_ hP hz hH => ?_)
    try dsimp only at hP
    obtain ⟨xq98_, ⟨l_xq98_, g_xq98_⟩, xq99_, ⟨l_xq99_, g_xq99_⟩, xq100_, ⟨l_xq100_, g_xq100_⟩, xq101_, ⟨l_xq101_, g_xq101_⟩, xq102_, ⟨l_xq102_, g_xq102_⟩, xq103_, ⟨l_xq103_, g_xq103_⟩, vq97_, h_vq97_, (⟨cq96_, hx_rd⟩), eT, hfr⟩ := hP
    have eT := eT.symm; subst eT
    have hc_ro : Mq93_ ro = some (.inr (7, [.ref w, .ref im, .ref rd, .ref rc, .ref cu])) := (hfr ro (Or.inl hn_ro) n_ro_rd).trans hc_ro
    have hc_w : Mq93_ w = some (.inr (6, [.int 0, .int 2, .int 0, .int 0, .int 0, .int 0, .int 0, .int (-1), .ref cs, .ref bs, .ref tp])) := (hfr w (Or.inl hn_w) n_w_rd).trans hc_w
    have hc_bs : Mq93_ bs = some (.inl (kA 5, 4, .inr (.inr (.inr (.inr g))))) := (hfr bs (Or.inr (Or.inl ht_bs)) n_bs_rd).trans hc_bs
    have hc_rd : Mq93_ rd = some (.inr (3, [.ref nb, .ref (zv z vq97_), .int xq102_, .int xq103_, .ref tp, .int tl, .int xq98_, .int xq99_, .int xq100_, .int xq101_])) := hx_rd
    have hF : ∀ q, FrA T q → q ≠ w → q ≠ rd → Mq93_ q = M q := fun q hq h0 h1 => (hfr q (FrA.k hq)  h1).trans (hF q hq h0 h1)
    have cq96_ : xq99_.toInt ≤ xq100_.toInt ∧ xq100_.toInt ≤ tl.toInt := cq96_
    refine yp (v := .int rq95_) hC hK hH flX9_64 hc_w (noT hn_w) rfl rfl (Nat.le_of_ble_eq_true rfl) dX9_text_53 (fun Hq_ lcq_ Mq104_ hc_w hfr hH => ?_)
    have hc_w : Mq104_ w = some (.inr (6, [.int 0, .int 2, .int 0, .int 0, .int 0, .int 0, .int 0, .int rq95_, .ref cs, .ref bs, .ref tp])) := hc_w
    have hc_ro : Mq104_ ro = some (.inr (7, [.ref w, .ref im, .ref rd, .ref rc, .ref cu])) := (hfr ro n_ro_w).trans hc_ro
    have hc_bs : Mq104_ bs = some (.inl (kA 5, 4, .inr (.inr (.inr (.inr g))))) := (hfr bs n_bs_w).trans hc_bs
    have hc_rd : Mq104_ rd = some (.inr (3, [.ref nb, .ref (zv z vq97_), .int xq102_, .int xq103_, .ref tp, .int tl, .int xq98_, .int xq99_, .int xq100_, .int xq101_])) := (hfr rd n_rd_w).trans hc_rd
    have hF : ∀ q, FrA T q → q ≠ w → q ≠ rd → Mq104_ q = M q := fun q hq h0 h1 => (hfr q h0).trans (hF q hq h0 h1)
    refine lv_aload_n hx hb dX9_text_56 rfl (lv_at hl 1 rfl) ?_
    refine xg hC hK hH flX9_12 hc_ro rfl dX9_text_57 ?_
    refine xg hC hK hH flX9_64 hc_w rfl dX9_text_60 ?_
    refine lv_iconst (v := -1) hx hb dX9_text_63 (by decide) ?_
    refine jic_eq (tgt := 69) hx hb dX9_text_64 (by decide) (fun cq105_ => ?_) (fun cq105_ => ?_)
    · skip
      have cq105_ : rq95_.toInt = (-1) := cq105_
      refine lv_aload_n hx hb dX9_text_69 rfl (lv_at hl 1 rfl) ?_
      refine xg hC hK hH flX9_23 hc_ro rfl dX9_text_70 ?_
      refine lv_aload_n hx hb dX9_text_73 rfl (lv_at hl 1 rfl) ?_
      refine xg hC hK hH flX9_12 hc_ro rfl dX9_text_74 ?_
      refine xg hC hK hH flX9_52 hc_w rfl dX9_text_77 ?_
      refine lv_iload_n hx hb dX9_text_80 rfl (lv_at hl 0 rfl) ?_
      refine goV hK hH (runV (As := [.ref tp, .int tl]) (rest := []) hC hK hH (c_X4_open hc_rd hn_rd ht_nb ht_tp (by omega)) mlX9_56 (rcvM hK hH hc_rd rfl) ⟨⟨Nat.le_of_ble_eq_true rfl, Nat.le_of_ble_eq_true rfl⟩, Nat.le_of_ble_eq_true rfl, Nat.le_of_ble_eq_true rfl⟩ rfl hl.1 rfl (Nat.le_of_ble_eq_true rfl) dX9_text_81) (fun Mq106_ Tq107_ Hq_ lcq_ hP hz hH => ?_)
      try dsimp only at hP
      obtain ⟨xq110_, ⟨l_xq110_, g_xq110_⟩, xq111_, ⟨l_xq111_, g_xq111_⟩, xq112_, ⟨l_xq112_, g_xq112_⟩, xq113_, ⟨l_xq113_, g_xq113_⟩, (⟨cq109_, hx_rd⟩), eT, hfr⟩ := hP
      have eT := eT.symm; subst eT
      have hc_ro : Mq106_ ro = some (.inr (7, [.ref w, .ref im, .ref rd, .ref rc, .ref cu])) := (hfr ro (Or.inl hn_ro) n_ro_rd).trans hc_ro
      have hc_w : Mq106_ w = some (.inr (6, [.int 0, .int 2, .int 0, .int 0, .int 0, .int 0, .int 0, .int rq95_, .ref cs, .ref bs, .ref tp])) := (hfr w (Or.inl hn_w) n_w_rd).trans hc_w
      have hc_bs : Mq106_ bs = some (.inl (kA 5, 4, .inr (.inr (.inr (.inr g))))) := (hfr bs (Or.inr (Or.inl ht_bs)) n_bs_rd).trans hc_bs
      have hc_rd : Mq106_ rd = some (.inr (3, [.ref nb, .ref (zv z vq97_), .int xq102_, .int xq103_, .ref tp, .int tl, .int xq110_, .int xq111_, .int xq112_, .int xq113_])) := hx_rd
      have hF : ∀ q, FrA T q → q ≠ w → q ≠ rd → Mq106_ q = M q := fun q hq h0 h1 => (hfr q (FrA.k hq)  h1).trans (hF q hq h0 h1)
      have cq109_ : xq111_.toInt ≤ xq112_.toInt ∧ xq112_.toInt ≤ tl.toInt := cq109_
      refine lv_iconst (v := 0) hx hb dX9_text_84 (by decide) ?_
      refine lv_istore_n (lv' := [(3, .int 0), (2, .int tl), (0, .ref ro), (1, .int an)]) hx hb dX9_text_85 rfl hl (by decide) rfl (fun ls hl => ?_)
      have loop : ∀ (n : Nat) (yq114_ : Int32) (yq115_ : Int32) (yq116_ : Int32) (yq117_ : Int32) (yq118_ : Int32) (yq119_ : Int32) (yq120_ : Int32) (yq121_ : Nat) (yq122_ : Int32) (yq123_ : Int32) (yq124_ : Int32) (yq125_ : Int32) (yq126_ : Int32) (yq127_ : Int32) (Hq_ : Heap) (lcq_ : List Loc) (Mq128_ : mM) (ls : Array Slot), 601 - yq114_.toInt ≤ (n : Int) → (0 : Int) ≤ yq114_.toInt → yq114_.toInt ≤ 600 → (0 : Int) ≤ yq115_.toInt → yq115_.toInt ≤ 999 → (0 : Int) ≤ yq117_.toInt → yq117_.toInt ≤ 4 → (0 : Int) ≤ yq122_.toInt → yq122_.toInt ≤ 1 → (0 : Int) ≤ yq123_.toInt → yq123_.toInt ≤ 1 → (0 : Int) ≤ yq124_.toInt → yq124_.toInt ≤ 4 → (0 : Int) ≤ yq125_.toInt → yq125_.toInt ≤ 600 → (0 : Int) ≤ yq126_.toInt → yq126_.toInt ≤ 600 → (yq121_ < 19) → (yq125_.toInt ≤ yq126_.toInt) → (yq126_.toInt ≤ tl.toInt) → Mq128_ ro = some (.inr (7, [.ref w, .ref im, .ref rd, .ref rc, .ref cu])) → Mq128_ w = some (.inr (6, [.int yq115_, .int yq116_, .int yq117_, .int yq118_, .int yq119_, .int yq120_, .int 0, .int rq95_, .ref cs, .ref bs, .ref tp])) → Mq128_ bs = some (.inl (kA 5, 4, .inr (.inr (.inr (.inr g))))) → Mq128_ rd = some (.inr (3, [.ref nb, .ref (zv z yq121_), .int yq122_, .int yq123_, .ref tp, .int tl, .int yq124_, .int yq125_, .int yq126_, .int yq127_])) → (∀ q, FrA T q → q ≠ w → q ≠ rd → Mq128_ q = M q) → mS D kA Mq128_ T (mA M T sz) s.heap Hq_ lcq_ → lv_has ls 4 [(3, .int yq114_), (2, .int tl), (0, .ref ro), (1, .int an)] → W p l e (rmL 8 0 0) s m ([.ref ro, .int an] : List Value).toArray below meth c Hq_ lcq_ 0 0 (MQ below (va_Qi (fun r u => ∃ td2 : Int32, ((0 : Int) ≤ td2.toInt ∧ td2.toInt ≤ 999) ∧ ∃ gd2 : Int32, ((-2147483648 : Int) ≤ gd2.toInt ∧ gd2.toInt ≤ 2147483647) ∧ ∃ bc2 : Int32, ((0 : Int) ≤ bc2.toInt ∧ bc2.toInt ≤ 4) ∧ ∃ py2 : Int32, ((-2147483648 : Int) ≤ py2.toInt ∧ py2.toInt ≤ 2147483647) ∧ ∃ rf2 : Int32, ((-2147483648 : Int) ≤ rf2.toInt ∧ rf2.toInt ≤ 2147483647) ∧ ∃ lt2 : Int32, ((-2147483648 : Int) ≤ lt2.toInt ∧ lt2.toInt ≤ 2147483647) ∧ ∃ fp2 : Int32, ((-2147483648 : Int) ≤ fp2.toInt ∧ fp2.toInt ≤ 2147483647) ∧ ∃ le2 : Int32, ((-2147483648 : Int) ≤ le2.toInt ∧ le2.toInt ≤ 2147483647) ∧ ∃ no2 : Int32, ((0 : Int) ≤ no2.toInt ∧ no2.toInt ≤ 1) ∧ ∃ wi2 : Int32, ((0 : Int) ≤ wi2.toInt ∧ wi2.toInt ≤ 1) ∧ ∃ ki2 : Int32, ((-2147483648 : Int) ≤ ki2.toInt ∧ ki2.toInt ≤ 2147483647) ∧ ∃ pl2 : Int32, ((-2147483648 : Int) ≤ pl2.toInt ∧ pl2.toInt ≤ 2147483647) ∧ ∃ be2 : Int32, ((-2147483648 : Int) ≤ be2.toInt ∧ be2.toInt ≤ 2147483647) ∧ ∃ va2 : Int32, ((-2147483648 : Int) ≤ va2.toInt ∧ va2.toInt ≤ 2147483647) ∧ ∃ vi2 : Nat, (vi2 < 19) ∧ (u.1 w = some (.inr (6, [.int td2, .int gd2, .int bc2, .int py2, .int rf2, .int lt2, .int 0, .int fp2, .ref cs, .ref bs, .ref tp])) ∧ u.1 rd = some (.inr (3, [.ref nb, .ref (zv z vi2), .int no2, .int wi2, .ref tp, .int le2, .int ki2, .int pl2, .int be2, .int va2]))) ∧ u.2 = T ∧ (∀ q, FrA T q → q ≠ w → q ≠ rd → u.1 q = M q)) (mB D kA M T sz) (mA M T sz)) ([.ref ro, .int an] : List Value).toArray s 0 0 (mA M T sz)) (F0 m 86 ls []) := by
        intro n
        induction n with
        | zero =>
          intro yq114_ yq115_ yq116_ yq117_ yq118_ yq119_ yq120_ yq121_ yq122_ yq123_ yq124_ yq125_ yq126_ yq127_ Hq_ lcq_ Mq128_ ls hme l_yq114_ g_yq114_ l_yq115_ g_yq115_ l_yq117_ g_yq117_ l_yq122_ g_yq122_ l_yq123_ g_yq123_ l_yq124_ g_yq124_ l_yq125_ g_yq125_ l_yq126_ g_yq126_ hv0_yq114_ hv1_yq114_ hv2_yq114_ hc_ro hc_w hc_bs hc_rd hF hH hl
          exfalso; omega
        | succ n ih =>
          intro yq114_ yq115_ yq116_ yq117_ yq118_ yq119_ yq120_ yq121_ yq122_ yq123_ yq124_ yq125_ yq126_ yq127_ Hq_ lcq_ Mq128_ ls hme l_yq114_ g_yq114_ l_yq115_ g_yq115_ l_yq117_ g_yq117_ l_yq122_ g_yq122_ l_yq123_ g_yq123_ l_yq124_ g_yq124_ l_yq125_ g_yq125_ l_yq126_ g_yq126_ hv0_yq114_ hv1_yq114_ hv2_yq114_ hc_ro hc_w hc_bs hc_rd hF hH hl
          refine lv_iload_n hx hb dX9_text_86 rfl (lv_at hl 0 rfl) ?_
          refine lv_sipush (v := 600) hx hb dX9_text_87 (by decide) ?_
          refine jic_ge (tgt := 133) hx hb dX9_text_90 (by decide) (fun cq129_ => ?_) (fun cq129_ => ?_)
          · skip
            have cq129_ : 600 ≤ yq114_.toInt := cq129_
            refine lv_iload_n hx hb dX9_text_133 rfl (lv_at hl 0 rfl) ?_
            exact ret_i hC hr hlk hK hH (⟨yq115_, ⟨by omega, by omega⟩, yq116_, iRg _, yq117_, ⟨by omega, by omega⟩, yq118_, iRg _, yq119_, iRg _, yq120_, iRg _, rq95_, iRg _, tl, iRg _, yq122_, ⟨by omega, by omega⟩, yq123_, ⟨by omega, by omega⟩, yq124_, iRg _, yq125_, iRg _, yq126_, iRg _, yq127_, iRg _, yq121_, by omega, ⟨hc_w, hc_rd⟩, rfl, hF⟩) (Nat.le_of_ble_eq_true rfl) (Nat.le_of_ble_eq_true rfl) dX9_text_134
          · skip
            have cq129_ : yq114_.toInt < 600 := cq129_
            refine lv_aload_n hx hb dX9_text_93 rfl (lv_at hl 2 rfl) ?_
            refine xg hC hK hH flX9_23 hc_ro rfl dX9_text_94 ?_
            refine goI hK hH (runV (As := []) (rest := []) hC hK hH (c_X4_atEnd hc_rd hn_rd ht_nb ht_tp) mlX9_66 (rcvM hK hH hc_rd rfl) ⟨⟨Nat.le_of_ble_eq_true rfl, Nat.le_of_ble_eq_true rfl⟩, Nat.le_of_ble_eq_true rfl, Nat.le_of_ble_eq_true rfl⟩ rfl hl.1 rfl (Nat.le_of_ble_eq_true rfl) dX9_text_97) (fun rq132_ Mq130_ Tq131_ Hq_ lcq_ hP hz hH => ?_)
            try dsimp only at hP
            obtain ⟨(er_rq132_ | er_rq132_), eT, eM⟩ := hP
            · skip
              have eT := eT.symm; subst eT
              have er_rq132_ := er_rq132_.symm; subst er_rq132_
              have eM := eM.symm; subst eM
              refine jif_ne (tgt := 133) hx hb dX9_text_100 (by decide) (fun cq133_ => ?_) (fun cq133_ => absurd cq133_ (by decide))
              refine lv_iload_n hx hb dX9_text_133 rfl (lv_at hl 0 rfl) ?_
              exact ret_i hC hr hlk hK hH (⟨yq115_, ⟨by omega, by omega⟩, yq116_, iRg _, yq117_, ⟨by omega, by omega⟩, yq118_, iRg _, yq119_, iRg _, yq120_, iRg _, rq95_, iRg _, tl, iRg _, yq122_, ⟨by omega, by omega⟩, yq123_, ⟨by omega, by omega⟩, yq124_, iRg _, yq125_, iRg _, yq126_, iRg _, yq127_, iRg _, yq121_, by omega, ⟨hc_w, hc_rd⟩, rfl, hF⟩) (Nat.le_of_ble_eq_true rfl) (Nat.le_of_ble_eq_true rfl) dX9_text_134
            · skip
              have eT := eT.symm; subst eT
              have er_rq132_ := er_rq132_.symm; subst er_rq132_
              have eM := eM.symm; subst eM
              refine jif_ne (tgt := 133) hx hb dX9_text_100 (by decide) (fun cq134_ => absurd cq134_ (by decide)) (fun cq134_ => ?_)
              refine lv_aload_n hx hb dX9_text_103 rfl (lv_at hl 2 rfl) ?_
              refine xg hC hK hH flX9_23 hc_ro rfl dX9_text_104 ?_
              refine goI hK hH (runVB (As := []) (rest := []) hC hK hH hZ (c_X4_readLine hc_rd hn_rd ht_nb ht_tp (by omega) (by omega) (by omega) (by omega) (by omega) (by omega) (by omega) (by omega)) mlX9_70 (rcvM hK hH hc_rd rfl) ⟨⟨Nat.le_of_ble_eq_true rfl, Nat.le_of_ble_eq_true rfl⟩, Nat.le_of_ble_eq_true rfl, Nat.le_of_ble_eq_true rfl⟩ rfl hl.1 rfl (Nat.le_of_ble_eq_true rfl) dX9_text_107) (fun rq137_ Mq135_ Tq136_ Hq_ lcq_ hP hz hH => ?_)
              try dsimp only at hP
              obtain ⟨xq141_, ⟨l_xq141_, g_xq141_⟩, xq142_, ⟨l_xq142_, g_xq142_⟩, xq143_, ⟨l_xq143_, g_xq143_⟩, xq144_, ⟨l_xq144_, g_xq144_⟩, xq145_, ⟨l_xq145_, g_xq145_⟩, xq146_, ⟨l_xq146_, g_xq146_⟩, vq140_, h_vq140_, (⟨cq138_, er_rq137_, hx_rd⟩ | ⟨cq139_, er_rq137_, hx_rd⟩), eT, hfr⟩ := hP
              · skip
                have eT := eT.symm; subst eT
                have er_rq137_ := er_rq137_.symm; subst er_rq137_
                have hc_ro : Mq135_ ro = some (.inr (7, [.ref w, .ref im, .ref rd, .ref rc, .ref cu])) := (hfr ro (Or.inl hn_ro) n_ro_rd).trans hc_ro
                have hc_w : Mq135_ w = some (.inr (6, [.int yq115_, .int yq116_, .int yq117_, .int yq118_, .int yq119_, .int yq120_, .int 0, .int rq95_, .ref cs, .ref bs, .ref tp])) := (hfr w (Or.inl hn_w) n_w_rd).trans hc_w
                have hc_bs : Mq135_ bs = some (.inl (kA 5, 4, .inr (.inr (.inr (.inr g))))) := (hfr bs (Or.inr (Or.inl ht_bs)) n_bs_rd).trans hc_bs
                have hc_rd : Mq135_ rd = some (.inr (3, [.ref nb, .ref (zv z vq140_), .int xq145_, .int xq146_, .ref tp, .int tl, .int xq141_, .int xq142_, .int xq143_, .int xq144_])) := hx_rd
                have hF : ∀ q, FrA T q → q ≠ w → q ≠ rd → Mq135_ q = M q := fun q hq h0 h1 => (hfr q (FrA.k hq)  h1).trans (hF q hq h0 h1)
                have cq138_ : xq142_.toInt ≤ xq143_.toInt ∧ xq143_.toInt ≤ tl.toInt := cq138_
                refine jif_eq (tgt := 133) hx hb dX9_text_110 (by decide) (fun cq147_ => absurd cq147_ (by decide)) (fun cq147_ => ?_)
                refine lv_aload_n hx hb dX9_text_113 rfl (lv_at hl 2 rfl) ?_
                refine xg hC hK hH flX9_12 hc_ro rfl dX9_text_114 ?_
                refine lv_aload_n hx hb dX9_text_117 rfl (lv_at hl 2 rfl) ?_
                refine goI hK hH (runVB (As := []) (rest := [.ref w]) hC hK hH hZ (c_X9_reasonOfLine hc_ro hn_ro hc_w hn_w hc_bs hc_rd hn_rd ht_cs ht_bs ht_tp ht_nb (by omega) (by omega) (by decide) (by omega) (by omega) (by omega) hg) mlX9_73 (rcvM hK hH hc_ro rfl) ⟨⟨Nat.le_of_ble_eq_true rfl, Nat.le_of_ble_eq_true rfl⟩, Nat.le_of_ble_eq_true rfl, Nat.le_of_ble_eq_true rfl⟩ rfl hl.1 rfl (Nat.le_of_ble_eq_true rfl) dX9_text_118) (fun rq150_ Mq148_ Tq149_ Hq_ lcq_ hP hz hH => ?_)
                try dsimp only at hP
                obtain ⟨xq151_, ⟨l_xq151_, g_xq151_⟩, xq152_, ⟨l_xq152_, g_xq152_⟩, xq153_, ⟨l_xq153_, g_xq153_⟩, xq154_, ⟨l_xq154_, g_xq154_⟩, xq155_, ⟨l_xq155_, g_xq155_⟩, xq156_, ⟨l_xq156_, g_xq156_⟩, (hx_w), eT, hfr⟩ := hP
                have eT := eT.symm; subst eT
                have hc_ro : Mq148_ ro = some (.inr (7, [.ref w, .ref im, .ref rd, .ref rc, .ref cu])) := (hfr ro (Or.inl hn_ro) n_ro_w).trans hc_ro
                have hc_w : Mq148_ w = some (.inr (6, [.int xq151_, .int xq152_, .int xq153_, .int xq154_, .int xq155_, .int xq156_, .int 0, .int rq95_, .ref cs, .ref bs, .ref tp])) := hx_w
                have hc_bs : Mq148_ bs = some (.inl (kA 5, 4, .inr (.inr (.inr (.inr g))))) := (hfr bs (Or.inr ht_bs) n_bs_w).trans hc_bs
                have hc_rd : Mq148_ rd = some (.inr (3, [.ref nb, .ref (zv z vq140_), .int xq145_, .int xq146_, .ref tp, .int tl, .int xq141_, .int xq142_, .int xq143_, .int xq144_])) := (hfr rd (Or.inl hn_rd) n_rd_w).trans hc_rd
                have hF : ∀ q, FrA T q → q ≠ w → q ≠ rd → Mq148_ q = M q := fun q hq h0 h1 => (hfr q hq  h0).trans (hF q hq h0 h1)
                refine goI hK hH (runV (As := [.int rq150_]) (rest := []) hC hK hH (c_X8_note hc_w hn_w hc_bs ht_cs ht_bs ht_tp (by omega) (by omega) (by decide) hg) mlX9_76 (rcvM hK hH hc_w rfl) ⟨⟨Nat.le_of_ble_eq_true rfl, Nat.le_of_ble_eq_true rfl⟩, Nat.le_of_ble_eq_true rfl, Nat.le_of_ble_eq_true rfl⟩ rfl hl.1 rfl (Nat.le_of_ble_eq_true rfl) dX9_text_121) (fun rq159_ Mq157_ Tq158_ Hq_ lcq_ hP hz hH => ?_)
                try dsimp only at hP
                obtain ⟨xq160_, ⟨l_xq160_, g_xq160_⟩, (⟨er_rq159_, hx_w⟩), eT, hfr⟩ := hP
                have eT := eT.symm; subst eT
                have er_rq159_ := er_rq159_.symm; subst er_rq159_
                have hc_ro : Mq157_ ro = some (.inr (7, [.ref w, .ref im, .ref rd, .ref rc, .ref cu])) := (hfr ro (Or.inl hn_ro) n_ro_w).trans hc_ro
                have hc_w : Mq157_ w = some (.inr (6, [.int xq151_, .int xq152_, .int xq153_, .int xq154_, .int xq160_, .int rq150_, .int 0, .int rq95_, .ref cs, .ref bs, .ref tp])) := hx_w
                have hc_bs : Mq157_ bs = some (.inl (kA 5, 4, .inr (.inr (.inr (.inr g))))) := (hfr bs (Or.inr (Or.inl ht_bs)) n_bs_w).trans hc_bs
                have hc_rd : Mq157_ rd = some (.inr (3, [.ref nb, .ref (zv z vq140_), .int xq145_, .int xq146_, .ref tp, .int tl, .int xq141_, .int xq142_, .int xq143_, .int xq144_])) := (hfr rd (Or.inl hn_rd) n_rd_w).trans hc_rd
                have hF : ∀ q, FrA T q → q ≠ w → q ≠ rd → Mq157_ q = M q := fun q hq h0 h1 => (hfr q (FrA.k hq)  h0).trans (hF q hq h0 h1)
                refine jif_ne (tgt := 133) hx hb dX9_text_124 (by decide) (fun cq161_ => ?_) (fun cq161_ => ?_)
                · skip
                  have cq161_ : rq150_.toInt ≠ 0 := cq161_
                  refine lv_iload_n hx hb dX9_text_133 rfl (lv_at hl 0 rfl) ?_
                  exact ret_i hC hr hlk hK hH (⟨xq151_, ⟨by omega, by omega⟩, xq152_, iRg _, xq153_, ⟨by omega, by omega⟩, xq154_, iRg _, xq160_, iRg _, rq150_, iRg _, rq95_, iRg _, tl, iRg _, xq145_, ⟨by omega, by omega⟩, xq146_, ⟨by omega, by omega⟩, xq141_, iRg _, xq142_, iRg _, xq143_, iRg _, xq144_, iRg _, vq140_, by omega, ⟨hc_w, hc_rd⟩, rfl, hF⟩) (Nat.le_of_ble_eq_true rfl) (Nat.le_of_ble_eq_true rfl) dX9_text_134
                · skip
                  have cq161_ : rq150_.toInt = 0 := cq161_
                  obtain ⟨zq162_, e_zq162_⟩ : ∃ y : Int32, y = yq114_ + 1 := ⟨_, rfl⟩
                  refine lv_iinc (v := zq162_) (lv' := [(3, .int zq162_), (2, .int tl), (0, .ref ro), (1, .int an)]) hx hb dX9_text_127 hl (k := 0) rfl (by rw [e_zq162_]; rfl) (by decide) rfl (fun ls hl => ?_)
                  have h_zq162_ : zq162_.toInt = yq114_.toInt + 1 := by rw [e_zq162_, iAdd (by have : (1 : Int32).toInt = 1 := rfl; omega) (by have : (1 : Int32).toInt = 1 := rfl; omega)]; rfl
                  refine lv_goto (tgt := 86) hx hb dX9_text_130 (by decide) ?_
                  exact ih zq162_ xq151_ xq152_ xq153_ xq154_ xq160_ rq150_ vq140_ xq145_ xq146_ xq141_ xq142_ xq143_ xq144_ _ _ _ ls (by have := iRg zq162_; have := iRg xq151_; have := iRg xq152_; have := iRg xq153_; have := iRg xq154_; have := iRg xq160_; have := iRg rq150_; have := iRg xq145_; have := iRg xq146_; have := iRg xq141_; have := iRg xq142_; have := iRg xq143_; have := iRg xq144_; omega) (by have := iRg zq162_; have := iRg xq151_; have := iRg xq152_; have := iRg xq153_; have := iRg xq154_; have := iRg xq160_; have := iRg rq150_; have := iRg xq145_; have := iRg xq146_; have := iRg xq141_; have := iRg xq142_; have := iRg xq143_; have := iRg xq144_; omega) (by have := iRg zq162_; have := iRg xq151_; have := iRg xq152_; have := iRg xq153_; have := iRg xq154_; have := iRg xq160_; have := iRg rq150_; have := iRg xq145_; have := iRg xq146_; have := iRg xq141_; have := iRg xq142_; have := iRg xq143_; have := iRg xq144_; omega) (by have := iRg zq162_; have := iRg xq151_; have := iRg xq152_; have := iRg xq153_; have := iRg xq154_; have := iRg xq160_; have := iRg rq150_; have := iRg xq145_; have := iRg xq146_; have := iRg xq141_; have := iRg xq142_; have := iRg xq143_; have := iRg xq144_; omega) (by have := iRg zq162_; have := iRg xq151_; have := iRg xq152_; have := iRg xq153_; have := iRg xq154_; have := iRg xq160_; have := iRg rq150_; have := iRg xq145_; have := iRg xq146_; have := iRg xq141_; have := iRg xq142_; have := iRg xq143_; have := iRg xq144_; omega) (by have := iRg zq162_; have := iRg xq151_; have := iRg xq152_; have := iRg xq153_; have := iRg xq154_; have := iRg xq160_; have := iRg rq150_; have := iRg xq145_; have := iRg xq146_; have := iRg xq141_; have := iRg xq142_; have := iRg xq143_; have := iRg xq144_; omega) (by have := iRg zq162_; have := iRg xq151_; have := iRg xq152_; have := iRg xq153_; have := iRg xq154_; have := iRg xq160_; have := iRg rq150_; have := iRg xq145_; have := iRg xq146_; have := iRg xq141_; have := iRg xq142_; have := iRg xq143_; have := iRg xq144_; omega) (by have := iRg zq162_; have := iRg xq151_; have := iRg xq152_; have := iRg xq153_; have := iRg xq154_; have := iRg xq160_; have := iRg rq150_; have := iRg xq145_; have := iRg xq146_; have := iRg xq141_; have := iRg xq142_; have := iRg xq143_; have := iRg xq144_; omega) (by have := iRg zq162_; have := iRg xq151_; have := iRg xq152_; have := iRg xq153_; have := iRg xq154_; have := iRg xq160_; have := iRg rq150_; have := iRg xq145_; have := iRg xq146_; have := iRg xq141_; have := iRg xq142_; have := iRg xq143_; have := iRg xq144_; omega) (by have := iRg zq162_; have := iRg xq151_; have := iRg xq152_; have := iRg xq153_; have := iRg xq154_; have := iRg xq160_; have := iRg rq150_; have := iRg xq145_; have := iRg xq146_; have := iRg xq141_; have := iRg xq142_; have := iRg xq143_; have := iRg xq144_; omega) (by have := iRg zq162_; have := iRg xq151_; have := iRg xq152_; have := iRg xq153_; have := iRg xq154_; have := iRg xq160_; have := iRg rq150_; have := iRg xq145_; have := iRg xq146_; have := iRg xq141_; have := iRg xq142_; have := iRg xq143_; have := iRg xq144_; omega) (by have := iRg zq162_; have := iRg xq151_; have := iRg xq152_; have := iRg xq153_; have := iRg xq154_; have := iRg xq160_; have := iRg rq150_; have := iRg xq145_; have := iRg xq146_; have := iRg xq141_; have := iRg xq142_; have := iRg xq143_; have := iRg xq144_; omega) (by have := iRg zq162_; have := iRg xq151_; have := iRg xq152_; have := iRg xq153_; have := iRg xq154_; have := iRg xq160_; have := iRg rq150_; have := iRg xq145_; have := iRg xq146_; have := iRg xq141_; have := iRg xq142_; have := iRg xq143_; have := iRg xq144_; omega) (by have := iRg zq162_; have := iRg xq151_; have := iRg xq152_; have := iRg xq153_; have := iRg xq154_; have := iRg xq160_; have := iRg rq150_; have := iRg xq145_; have := iRg xq146_; have := iRg xq141_; have := iRg xq142_; have := iRg xq143_; have := iRg xq144_; omega) (by have := iRg zq162_; have := iRg xq151_; have := iRg xq152_; have := iRg xq153_; have := iRg xq154_; have := iRg xq160_; have := iRg rq150_; have := iRg xq145_; have := iRg xq146_; have := iRg xq141_; have := iRg xq142_; have := iRg xq143_; have := iRg xq144_; omega) (by have := iRg zq162_; have := iRg xq151_; have := iRg xq152_; have := iRg xq153_; have := iRg xq154_; have := iRg xq160_; have := iRg rq150_; have := iRg xq145_; have := iRg xq146_; have := iRg xq141_; have := iRg xq142_; have := iRg xq143_; have := iRg xq144_; omega) (by have := iRg zq162_; have := iRg xq151_; have := iRg xq152_; have := iRg xq153_; have := iRg xq154_; have := iRg xq160_; have := iRg rq150_; have := iRg xq145_; have := iRg xq146_; have := iRg xq141_; have := iRg xq142_; have := iRg xq143_; have := iRg xq144_; omega) (by have := iRg zq162_; have := iRg xq151_; have := iRg xq152_; have := iRg xq153_; have := iRg xq154_; have := iRg xq160_; have := iRg rq150_; have := iRg xq145_; have := iRg xq146_; have := iRg xq141_; have := iRg xq142_; have := iRg xq143_; have := iRg xq144_; omega) (by have := iRg zq162_; have := iRg xq151_; have := iRg xq152_; have := iRg xq153_; have := iRg xq154_; have := iRg xq160_; have := iRg rq150_; have := iRg xq145_; have := iRg xq146_; have := iRg xq141_; have := iRg xq142_; have := iRg xq143_; have := iRg xq144_; omega) (by have := iRg zq162_; have := iRg xq151_; have := iRg xq152_; have := iRg xq153_; have := iRg xq154_; have := iRg xq160_; have := iRg rq150_; have := iRg xq145_; have := iRg xq146_; have := iRg xq141_; have := iRg xq142_; have := iRg xq143_; have := iRg xq144_; omega) hc_ro hc_w hc_bs hc_rd hF hH (lv_sub hl [0, 1, 2, 3] rfl)
              · skip
                have eT := eT.symm; subst eT
                have er_rq137_ := er_rq137_.symm; subst er_rq137_
                have hc_ro : Mq135_ ro = some (.inr (7, [.ref w, .ref im, .ref rd, .ref rc, .ref cu])) := (hfr ro (Or.inl hn_ro) n_ro_rd).trans hc_ro
                have hc_w : Mq135_ w = some (.inr (6, [.int yq115_, .int yq116_, .int yq117_, .int yq118_, .int yq119_, .int yq120_, .int 0, .int rq95_, .ref cs, .ref bs, .ref tp])) := (hfr w (Or.inl hn_w) n_w_rd).trans hc_w
                have hc_bs : Mq135_ bs = some (.inl (kA 5, 4, .inr (.inr (.inr (.inr g))))) := (hfr bs (Or.inr (Or.inl ht_bs)) n_bs_rd).trans hc_bs
                have hc_rd : Mq135_ rd = some (.inr (3, [.ref nb, .ref (zv z vq140_), .int xq145_, .int xq146_, .ref tp, .int tl, .int xq141_, .int xq142_, .int xq143_, .int xq144_])) := hx_rd
                have hF : ∀ q, FrA T q → q ≠ w → q ≠ rd → Mq135_ q = M q := fun q hq h0 h1 => (hfr q (FrA.k hq)  h1).trans (hF q hq h0 h1)
                have cq139_ : xq142_.toInt ≤ xq143_.toInt ∧ xq143_.toInt ≤ tl.toInt := cq139_
                refine jif_eq (tgt := 133) hx hb dX9_text_110 (by decide) (fun cq163_ => ?_) (fun cq163_ => absurd cq163_ (by decide))
                refine lv_iload_n hx hb dX9_text_133 rfl (lv_at hl 0 rfl) ?_
                exact ret_i hC hr hlk hK hH (⟨yq115_, ⟨by omega, by omega⟩, yq116_, iRg _, yq117_, ⟨by omega, by omega⟩, yq118_, iRg _, yq119_, iRg _, yq120_, iRg _, rq95_, iRg _, tl, iRg _, xq145_, ⟨by omega, by omega⟩, xq146_, ⟨by omega, by omega⟩, xq141_, iRg _, xq142_, iRg _, xq143_, iRg _, xq144_, iRg _, vq140_, by omega, ⟨hc_w, hc_rd⟩, rfl, hF⟩) (Nat.le_of_ble_eq_true rfl) (Nat.le_of_ble_eq_true rfl) dX9_text_134
      exact loop (Int.toNat (601 - 0)) 0 0 2 0 0 0 0 vq97_ xq102_ xq103_ xq110_ xq111_ xq112_ xq113_ _ _ _ ls (by have : (0 : Int32).toInt = 0 := rfl; have : (0 : Int32).toInt = 0 := rfl; have : (2 : Int32).toInt = 2 := rfl; have : (0 : Int32).toInt = 0 := rfl; have : (0 : Int32).toInt = 0 := rfl; have : (0 : Int32).toInt = 0 := rfl; have : (0 : Int32).toInt = 0 := rfl; have := iRg xq102_; have := iRg xq103_; have := iRg xq110_; have := iRg xq111_; have := iRg xq112_; have := iRg xq113_; omega) (by have : (0 : Int32).toInt = 0 := rfl; have : (0 : Int32).toInt = 0 := rfl; have : (2 : Int32).toInt = 2 := rfl; have : (0 : Int32).toInt = 0 := rfl; have : (0 : Int32).toInt = 0 := rfl; have : (0 : Int32).toInt = 0 := rfl; have : (0 : Int32).toInt = 0 := rfl; have := iRg xq102_; have := iRg xq103_; have := iRg xq110_; have := iRg xq111_; have := iRg xq112_; have := iRg xq113_; omega) (by have : (0 : Int32).toInt = 0 := rfl; have : (0 : Int32).toInt = 0 := rfl; have : (2 : Int32).toInt = 2 := rfl; have : (0 : Int32).toInt = 0 := rfl; have : (0 : Int32).toInt = 0 := rfl; have : (0 : Int32).toInt = 0 := rfl; have : (0 : Int32).toInt = 0 := rfl; have := iRg xq102_; have := iRg xq103_; have := iRg xq110_; have := iRg xq111_; have := iRg xq112_; have := iRg xq113_; omega) (by have : (0 : Int32).toInt = 0 := rfl; have : (0 : Int32).toInt = 0 := rfl; have : (2 : Int32).toInt = 2 := rfl; have : (0 : Int32).toInt = 0 := rfl; have : (0 : Int32).toInt = 0 := rfl; have : (0 : Int32).toInt = 0 := rfl; have : (0 : Int32).toInt = 0 := rfl; have := iRg xq102_; have := iRg xq103_; have := iRg xq110_; have := iRg xq111_; have := iRg xq112_; have := iRg xq113_; omega) (by have : (0 : Int32).toInt = 0 := rfl; have : (0 : Int32).toInt = 0 := rfl; have : (2 : Int32).toInt = 2 := rfl; have : (0 : Int32).toInt = 0 := rfl; have : (0 : Int32).toInt = 0 := rfl; have : (0 : Int32).toInt = 0 := rfl; have : (0 : Int32).toInt = 0 := rfl; have := iRg xq102_; have := iRg xq103_; have := iRg xq110_; have := iRg xq111_; have := iRg xq112_; have := iRg xq113_; omega) (by have : (0 : Int32).toInt = 0 := rfl; have : (0 : Int32).toInt = 0 := rfl; have : (2 : Int32).toInt = 2 := rfl; have : (0 : Int32).toInt = 0 := rfl; have : (0 : Int32).toInt = 0 := rfl; have : (0 : Int32).toInt = 0 := rfl; have : (0 : Int32).toInt = 0 := rfl; have := iRg xq102_; have := iRg xq103_; have := iRg xq110_; have := iRg xq111_; have := iRg xq112_; have := iRg xq113_; omega) (by have : (0 : Int32).toInt = 0 := rfl; have : (0 : Int32).toInt = 0 := rfl; have : (2 : Int32).toInt = 2 := rfl; have : (0 : Int32).toInt = 0 := rfl; have : (0 : Int32).toInt = 0 := rfl; have : (0 : Int32).toInt = 0 := rfl; have : (0 : Int32).toInt = 0 := rfl; have := iRg xq102_; have := iRg xq103_; have := iRg xq110_; have := iRg xq111_; have := iRg xq112_; have := iRg xq113_; omega) (by have : (0 : Int32).toInt = 0 := rfl; have : (0 : Int32).toInt = 0 := rfl; have : (2 : Int32).toInt = 2 := rfl; have : (0 : Int32).toInt = 0 := rfl; have : (0 : Int32).toInt = 0 := rfl; have : (0 : Int32).toInt = 0 := rfl; have : (0 : Int32).toInt = 0 := rfl; have := iRg xq102_; have := iRg xq103_; have := iRg xq110_; have := iRg xq111_; have := iRg xq112_; have := iRg xq113_; omega) (by have : (0 : Int32).toInt = 0 := rfl; have : (0 : Int32).toInt = 0 := rfl; have : (2 : Int32).toInt = 2 := rfl; have : (0 : Int32).toInt = 0 := rfl; have : (0 : Int32).toInt = 0 := rfl; have : (0 : Int32).toInt = 0 := rfl; have : (0 : Int32).toInt = 0 := rfl; have := iRg xq102_; have := iRg xq103_; have := iRg xq110_; have := iRg xq111_; have := iRg xq112_; have := iRg xq113_; omega) (by have : (0 : Int32).toInt = 0 := rfl; have : (0 : Int32).toInt = 0 := rfl; have : (2 : Int32).toInt = 2 := rfl; have : (0 : Int32).toInt = 0 := rfl; have : (0 : Int32).toInt = 0 := rfl; have : (0 : Int32).toInt = 0 := rfl; have : (0 : Int32).toInt = 0 := rfl; have := iRg xq102_; have := iRg xq103_; have := iRg xq110_; have := iRg xq111_; have := iRg xq112_; have := iRg xq113_; omega) (by have : (0 : Int32).toInt = 0 := rfl; have : (0 : Int32).toInt = 0 := rfl; have : (2 : Int32).toInt = 2 := rfl; have : (0 : Int32).toInt = 0 := rfl; have : (0 : Int32).toInt = 0 := rfl; have : (0 : Int32).toInt = 0 := rfl; have : (0 : Int32).toInt = 0 := rfl; have := iRg xq102_; have := iRg xq103_; have := iRg xq110_; have := iRg xq111_; have := iRg xq112_; have := iRg xq113_; omega) (by have : (0 : Int32).toInt = 0 := rfl; have : (0 : Int32).toInt = 0 := rfl; have : (2 : Int32).toInt = 2 := rfl; have : (0 : Int32).toInt = 0 := rfl; have : (0 : Int32).toInt = 0 := rfl; have : (0 : Int32).toInt = 0 := rfl; have : (0 : Int32).toInt = 0 := rfl; have := iRg xq102_; have := iRg xq103_; have := iRg xq110_; have := iRg xq111_; have := iRg xq112_; have := iRg xq113_; omega) (by have : (0 : Int32).toInt = 0 := rfl; have : (0 : Int32).toInt = 0 := rfl; have : (2 : Int32).toInt = 2 := rfl; have : (0 : Int32).toInt = 0 := rfl; have : (0 : Int32).toInt = 0 := rfl; have : (0 : Int32).toInt = 0 := rfl; have : (0 : Int32).toInt = 0 := rfl; have := iRg xq102_; have := iRg xq103_; have := iRg xq110_; have := iRg xq111_; have := iRg xq112_; have := iRg xq113_; omega) (by have : (0 : Int32).toInt = 0 := rfl; have : (0 : Int32).toInt = 0 := rfl; have : (2 : Int32).toInt = 2 := rfl; have : (0 : Int32).toInt = 0 := rfl; have : (0 : Int32).toInt = 0 := rfl; have : (0 : Int32).toInt = 0 := rfl; have : (0 : Int32).toInt = 0 := rfl; have := iRg xq102_; have := iRg xq103_; have := iRg xq110_; have := iRg xq111_; have := iRg xq112_; have := iRg xq113_; omega) (by have : (0 : Int32).toInt = 0 := rfl; have : (0 : Int32).toInt = 0 := rfl; have : (2 : Int32).toInt = 2 := rfl; have : (0 : Int32).toInt = 0 := rfl; have : (0 : Int32).toInt = 0 := rfl; have : (0 : Int32).toInt = 0 := rfl; have : (0 : Int32).toInt = 0 := rfl; have := iRg xq102_; have := iRg xq103_; have := iRg xq110_; have := iRg xq111_; have := iRg xq112_; have := iRg xq113_; omega) (by have : (0 : Int32).toInt = 0 := rfl; have : (0 : Int32).toInt = 0 := rfl; have : (2 : Int32).toInt = 2 := rfl; have : (0 : Int32).toInt = 0 := rfl; have : (0 : Int32).toInt = 0 := rfl; have : (0 : Int32).toInt = 0 := rfl; have : (0 : Int32).toInt = 0 := rfl; have := iRg xq102_; have := iRg xq103_; have := iRg xq110_; have := iRg xq111_; have := iRg xq112_; have := iRg xq113_; omega) (by have : (0 : Int32).toInt = 0 := rfl; have : (0 : Int32).toInt = 0 := rfl; have : (2 : Int32).toInt = 2 := rfl; have : (0 : Int32).toInt = 0 := rfl; have : (0 : Int32).toInt = 0 := rfl; have : (0 : Int32).toInt = 0 := rfl; have : (0 : Int32).toInt = 0 := rfl; have := iRg xq102_; have := iRg xq103_; have := iRg xq110_; have := iRg xq111_; have := iRg xq112_; have := iRg xq113_; omega) (by have : (0 : Int32).toInt = 0 := rfl; have : (0 : Int32).toInt = 0 := rfl; have : (2 : Int32).toInt = 2 := rfl; have : (0 : Int32).toInt = 0 := rfl; have : (0 : Int32).toInt = 0 := rfl; have : (0 : Int32).toInt = 0 := rfl; have : (0 : Int32).toInt = 0 := rfl; have := iRg xq102_; have := iRg xq103_; have := iRg xq110_; have := iRg xq111_; have := iRg xq112_; have := iRg xq113_; omega) (by have : (0 : Int32).toInt = 0 := rfl; have : (0 : Int32).toInt = 0 := rfl; have : (2 : Int32).toInt = 2 := rfl; have : (0 : Int32).toInt = 0 := rfl; have : (0 : Int32).toInt = 0 := rfl; have : (0 : Int32).toInt = 0 := rfl; have : (0 : Int32).toInt = 0 := rfl; have := iRg xq102_; have := iRg xq103_; have := iRg xq110_; have := iRg xq111_; have := iRg xq112_; have := iRg xq113_; omega) (by have : (0 : Int32).toInt = 0 := rfl; have : (0 : Int32).toInt = 0 := rfl; have : (2 : Int32).toInt = 2 := rfl; have : (0 : Int32).toInt = 0 := rfl; have : (0 : Int32).toInt = 0 := rfl; have : (0 : Int32).toInt = 0 := rfl; have : (0 : Int32).toInt = 0 := rfl; have := iRg xq102_; have := iRg xq103_; have := iRg xq110_; have := iRg xq111_; have := iRg xq112_; have := iRg xq113_; omega) hc_ro hc_w hc_bs hc_rd hF hH hl
    · skip
      have cq105_ : rq95_.toInt ≠ (-1) := cq105_
      refine lv_iconst (v := -1) hx hb dX9_text_67 (by decide) ?_
      exact ret_i hC hr hlk hK hH (⟨0, ⟨by decide, by decide⟩, 2, iRg _, 0, ⟨by decide, by decide⟩, 0, iRg _, 0, iRg _, 0, iRg _, rq95_, iRg _, tl, iRg _, xq102_, ⟨by omega, by omega⟩, xq103_, ⟨by omega, by omega⟩, xq98_, iRg _, xq99_, iRg _, xq100_, iRg _, xq101_, iRg _, vq97_, by omega, ⟨hc_w, hc_rd⟩, rfl, hF⟩) (Nat.le_of_ble_eq_true rfl) (Nat.le_of_ble_eq_true rfl) dX9_text_68
