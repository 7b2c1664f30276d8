set_option maxHeartbeats 4000000 in
set_option maxRecDepth 100000 in
theorem c_X9_text {z : zD} {l : Launch} {D : va_G} {kA : Nat → ClassId} {M : mM} {T : mT} {sz : Nat} {ro im rc cu : Nat} {w cs bs tp : Nat} {td gd bc py rf lt tl fp : Int32} {g : Nat → Option Nat}{rd nb by_ vi : Nat} {no wi le ki pl be va : Int32} {an : Int32} {fb : Nat → Int32} (hc_ro : M ro = some (.inr (7, [.ref w, .ref im, .ref rd, .ref rc, .ref cu]))) (hn_ro : T ro = none) (hc_w : M w = some (.inr (6, [.int td, .int gd, .int bc, .int py, .int rf, .int lt, .int tl, .int fp, .ref cs, .ref bs, .ref tp]))) (hn_w : T w = none) (hc_bs : M bs = some (.inl (kA 5, 4, .inr (.inr (.inr (.inr g)))))) (hc_rd : M rd = some (.inr (3, [.ref nb, .ref (zv z vi), .int no, .int wi, .ref by_, .int le, .int ki, .int pl, .int be, .int va]))) (hn_rd : T rd = none) (hc_tp : M tp = some (.inl (kA 1, 600, .inl fb))) (hn_tp : T tp = none) (ht_cs : T cs = some 3) (ht_bs : T bs = some 6) (ht_nb : T nb = some 12) (htd : 0 ≤ td.toInt ∧ td.toInt ≤ 999) (hbc : 0 ≤ bc.toInt ∧ bc.toInt ≤ 4) (htl : 0 ≤ tl.toInt ∧ tl.toInt ≤ 600) (hvi : vi < 19) (hno : 0 ≤ no.toInt ∧ no.toInt ≤ 1) (hwi : 0 ≤ wi.toInt ∧ wi.toInt ≤ 1) (hg : ∀ j, j < 4 → ∃ q, g j = some q ∧ T q = some 2) : mCiB z l yX9_text cX9_text 4 (some .int) 8 0 0 D kA M T sz [.ref ro, .int an] (fun r u => ∃ td2 : Int32, ((0 : Int) ≤ td2.toInt ∧ td2.toInt ≤ 999) ∧ ∃ gd2 : Int32, ((-2147483648 : Int) ≤ gd2.toInt ∧ gd2.toInt ≤ 2147483647) ∧ ∃ bc2 : Int32, ((0 : Int) ≤ bc2.toInt ∧ bc2.toInt ≤ 4) ∧ ∃ py2 : Int32, ((-2147483648 : Int) ≤ py2.toInt ∧ py2.toInt ≤ 2147483647) ∧ ∃ rf2 : Int32, ((-2147483648 : Int) ≤ rf2.toInt ∧ rf2.toInt ≤ 2147483647) ∧ ∃ lt2 : Int32, ((-2147483648 : Int) ≤ lt2.toInt ∧ lt2.toInt ≤ 2147483647) ∧ ∃ fp2 : Int32, ((-2147483648 : Int) ≤ fp2.toInt ∧ fp2.toInt ≤ 2147483647) ∧ ∃ le2 : Int32, ((-2147483648 : Int) ≤ le2.toInt ∧ le2.toInt ≤ 2147483647) ∧ ∃ no2 : Int32, ((0 : Int) ≤ no2.toInt ∧ no2.toInt ≤ 1) ∧ ∃ wi2 : Int32, ((0 : Int) ≤ wi2.toInt ∧ wi2.toInt ≤ 1) ∧ ∃ ki2 : Int32, ((-2147483648 : Int) ≤ ki2.toInt ∧ ki2.toInt ≤ 2147483647) ∧ ∃ pl2 : Int32, ((-2147483648 : Int) ≤ pl2.toInt ∧ pl2.toInt ≤ 2147483647) ∧ ∃ be2 : Int32, ((-2147483648 : Int) ≤ be2.toInt ∧ be2.toInt ≤ 2147483647) ∧ ∃ va2 : Int32, ((-2147483648 : Int) ≤ va2.toInt ∧ va2.toInt ≤ 2147483647) ∧ ∃ vi2 : Nat, (vi2 < 19) ∧ (fp2.toInt = FT fb tl.toInt.toNat ∧ u.1 w = some (.inr (6, [.int td2, .int gd2, .int bc2, .int py2, .int rf2, .int lt2, .int 0, .int fp2, .ref cs, .ref bs, .ref tp])) ∧ u.1 rd = some (.inr (3, [.ref nb, .ref (zv z vi2), .int no2, .int wi2, .ref tp, .int le2, .int ki2, .int pl2, .int be2, .int va2]))) ∧ u.2 = T ∧ (∀ q, FrA T q → q ≠ w → q ≠ rd → u.1 q = M q)) := by
  unfold mCiB
  refine start_WB (by decide) (Nat.le_of_ble_eq_true rfl) ?_
  intro p e s m below meth c ls hC hr hlk hnm hK hH hsz hZ hl
  have hx := hC.1
  have hb := hC.2.1
  have hl : lv_has ls 4 [(0, .ref ro), (1, .int an)] := hl
  have hF : ∀ q, FrA T q → q ≠ w → q ≠ rd → M q = M q := fun q _ _ _ => rfl
  have n_ro_w : ro ≠ w := neM hc_ro hc_w (by simp)
  have n_ro_bs : ro ≠ bs := neM hc_ro hc_bs (by simp)
  have n_ro_rd : ro ≠ rd := neM hc_ro hc_rd (by simp)
  have n_ro_tp : ro ≠ tp := neM hc_ro hc_tp (by simp)
  have n_w_ro : w ≠ ro := neM hc_w hc_ro (by simp)
  have n_w_bs : w ≠ bs := neM hc_w hc_bs (by simp)
  have n_w_rd : w ≠ rd := neM hc_w hc_rd (by simp)
  have n_w_tp : w ≠ tp := neM hc_w hc_tp (by simp)
  have n_bs_ro : bs ≠ ro := neM hc_bs hc_ro (by simp)
  have n_bs_w : bs ≠ w := neM hc_bs hc_w (by simp)
  have n_bs_rd : bs ≠ rd := neM hc_bs hc_rd (by simp)
  have n_bs_tp : bs ≠ tp := neM hc_bs hc_tp (by simp)
  have n_rd_ro : rd ≠ ro := neM hc_rd hc_ro (by simp)
  have n_rd_w : rd ≠ w := neM hc_rd hc_w (by simp)
  have n_rd_bs : rd ≠ bs := neM hc_rd hc_bs (by simp)
  have n_rd_tp : rd ≠ tp := neM hc_rd hc_tp (by simp)
  have n_tp_ro : tp ≠ ro := neM hc_tp hc_ro (by simp)
  have n_tp_w : tp ≠ w := neM hc_tp hc_w (by simp)
  have n_tp_bs : tp ≠ bs := neM hc_tp hc_bs (by simp)
  have n_tp_rd : tp ≠ rd := neM hc_tp hc_rd (by simp)
  refine lv_aload_n hx hb dX9_text_0 rfl (lv_at hl 0 rfl) ?_
  refine xg hC hK hH flX9_12 hc_ro rfl dX9_text_1 ?_
  refine xg hC hK hH flX9_45 hc_w rfl dX9_text_4 ?_
  refine lv_istore_n (lv' := [(2, .int tl), (0, .ref ro), (1, .int an)]) hx hb dX9_text_7 rfl hl (by decide) rfl (fun ls hl => ?_)
  refine lv_aload_n hx hb dX9_text_8 rfl (lv_at hl 1 rfl) ?_
  refine xg hC hK hH flX9_12 hc_ro rfl dX9_text_9 ?_
  refine lv_iconst (v := 0) hx hb dX9_text_12 (by decide) ?_
  refine yp (v := .int 0) hC hK hH flX9_45 hc_w (noT hn_w) rfl rfl (Nat.le_of_ble_eq_true rfl) dX9_text_13 (fun Hq_ lcq_ Mq1_ hc_w hfr hH => ?_)
  have hc_w : Mq1_ w = some (.inr (6, [.int td, .int gd, .int bc, .int py, .int rf, .int lt, .int 0, .int fp, .ref cs, .ref bs, .ref tp])) := hc_w
  have hc_ro : Mq1_ ro = some (.inr (7, [.ref w, .ref im, .ref rd, .ref rc, .ref cu])) := (hfr ro n_ro_w).trans hc_ro
  have hc_bs : Mq1_ bs = some (.inl (kA 5, 4, .inr (.inr (.inr (.inr g))))) := (hfr bs n_bs_w).trans hc_bs
  have hc_rd : Mq1_ rd = some (.inr (3, [.ref nb, .ref (zv z vi), .int no, .int wi, .ref by_, .int le, .int ki, .int pl, .int be, .int va])) := (hfr rd n_rd_w).trans hc_rd
  have hc_tp : Mq1_ tp = some (.inl (kA 1, 600, .inl fb)) := (hfr tp n_tp_w).trans hc_tp
  have hF : ∀ q, FrA T q → q ≠ w → q ≠ rd → Mq1_ q = M q := fun q hq h0 h1 => (hfr q h0).trans (hF q hq h0 h1)
  refine lv_iload_n hx hb dX9_text_16 rfl (lv_at hl 2 rfl) ?_
  refine jif_eq (tgt := 27) hx hb dX9_text_17 (by decide) (fun cq2_ => ?_) (fun cq2_ => ?_)
  · skip
    have cq2_ : an.toInt = 0 := cq2_
    refine lv_aload_n hx hb dX9_text_27 rfl (lv_at hl 1 rfl) ?_
    refine xg hC hK hH flX9_23 hc_ro rfl dX9_text_28 ?_
    refine lv_aload_n hx hb dX9_text_31 rfl (lv_at hl 1 rfl) ?_
    refine xg hC hK hH flX9_12 hc_ro rfl dX9_text_32 ?_
    refine xg hC hK hH flX9_52 hc_w rfl dX9_text_35 ?_
    refine lv_iload_n hx hb dX9_text_38 rfl (lv_at hl 0 rfl) ?_
    refine goV hK hH (runV (As := [.ref tp, .int tl]) (rest := []) hC hK hH (c_X4_open hc_rd hn_rd hc_tp hn_tp ht_nb (by omega)) mlX9_56 (rcvM hK hH hc_rd rfl) ⟨⟨Nat.le_of_ble_eq_true rfl, Nat.le_of_ble_eq_true rfl⟩, Nat.le_of_ble_eq_true rfl, Nat.le_of_ble_eq_true rfl⟩ rfl hl.1 rfl (Nat.le_of_ble_eq_true rfl) dX9_text_39) (fun Mq3_ Tq4_ Hq_ lcq_ hP hz hH => ?_)
    try dsimp only at hP
    obtain ⟨xq7_, ⟨l_xq7_, g_xq7_⟩, xq8_, ⟨l_xq8_, g_xq8_⟩, xq9_, ⟨l_xq9_, g_xq9_⟩, xq10_, ⟨l_xq10_, g_xq10_⟩, (⟨cq6_, hx_rd⟩), eT, hfr⟩ := hP
    have eT := eT.symm; subst eT
    have hc_ro : Mq3_ ro = some (.inr (7, [.ref w, .ref im, .ref rd, .ref rc, .ref cu])) := (hfr ro (Or.inl hn_ro) n_ro_rd).trans hc_ro
    have hc_w : Mq3_ w = some (.inr (6, [.int td, .int gd, .int bc, .int py, .int rf, .int lt, .int 0, .int fp, .ref cs, .ref bs, .ref tp])) := (hfr w (Or.inl hn_w) n_w_rd).trans hc_w
    have hc_bs : Mq3_ bs = some (.inl (kA 5, 4, .inr (.inr (.inr (.inr g))))) := (hfr bs (Or.inr (Or.inl ht_bs)) n_bs_rd).trans hc_bs
    have hc_rd : Mq3_ rd = some (.inr (3, [.ref nb, .ref (zv z vi), .int no, .int wi, .ref tp, .int tl, .int xq7_, .int xq8_, .int xq9_, .int xq10_])) := hx_rd
    have hc_tp : Mq3_ tp = some (.inl (kA 1, 600, .inl fb)) := (hfr tp (Or.inl hn_tp) n_tp_rd).trans hc_tp
    have hF : ∀ q, FrA T q → q ≠ w → q ≠ rd → Mq3_ q = M q := fun q hq h0 h1 => (hfr q (FrA.k hq)  h1).trans (hF q hq h0 h1)
    have cq6_ : xq8_.toInt ≤ xq9_.toInt ∧ xq9_.toInt ≤ tl.toInt ∧ Tk fb tl xq7_ xq8_ xq9_ ∧ xq8_.toInt = (scE pSp (nC fb) tl.toInt.toNat 0 : Int) := cq6_
    refine lv_aload_n hx hb dX9_text_42 rfl (lv_at hl 1 rfl) ?_
    refine xg hC hK hH flX9_12 hc_ro rfl dX9_text_43 ?_
    refine lv_aload_n hx hb dX9_text_46 rfl (lv_at hl 1 rfl) ?_
    refine xg hC hK hH flX9_23 hc_ro rfl dX9_text_47 ?_
    refine goI hK hH (runVB (As := []) (rest := [.ref w]) hC hK hH hZ (c_X4_faultPlace hc_rd hn_rd hc_tp hn_tp ht_nb (by omega) (by omega) (by omega) (by omega) (by omega) (by omega) (by omega) (by omega) (by exact cq6_.2.2.1)) mlX9_60 (rcvM hK hH hc_rd rfl) ⟨⟨Nat.le_of_ble_eq_true rfl, Nat.le_of_ble_eq_true rfl⟩, Nat.le_of_ble_eq_true rfl, Nat.le_of_ble_eq_true rfl⟩ rfl hl.1 rfl (Nat.le_of_ble_eq_true rfl) dX9_text_50) (fun rq13_ Mq11_ Tq12_ Hq_ lcq_ hP hz hH => ?_)
    try dsimp only at hP
    obtain ⟨xq16_, ⟨l_xq16_, g_xq16_⟩, xq17_, ⟨l_xq17_, g_xq17_⟩, xq18_, ⟨l_xq18_, g_xq18_⟩, xq19_, ⟨l_xq19_, g_xq19_⟩, xq20_, ⟨l_xq20_, g_xq20_⟩, xq21_, ⟨l_xq21_, g_xq21_⟩, vq15_, h_vq15_, (⟨cq14_, hx_rd⟩), eT, hfr⟩ := hP
    have eT := eT.symm; subst eT
    have hc_ro : Mq11_ ro = some (.inr (7, [.ref w, .ref im, .ref rd, .ref rc, .ref cu])) := (hfr ro (Or.inl hn_ro) n_ro_rd).trans hc_ro
    have hc_w : Mq11_ w = some (.inr (6, [.int td, .int gd, .int bc, .int py, .int rf, .int lt, .int 0, .int fp, .ref cs, .ref bs, .ref tp])) := (hfr w (Or.inl hn_w) n_w_rd).trans hc_w
    have hc_bs : Mq11_ bs = some (.inl (kA 5, 4, .inr (.inr (.inr (.inr g))))) := (hfr bs (Or.inr (Or.inl ht_bs)) n_bs_rd).trans hc_bs
    have hc_rd : Mq11_ rd = some (.inr (3, [.ref nb, .ref (zv z vq15_), .int xq20_, .int xq21_, .ref tp, .int tl, .int xq16_, .int xq17_, .int xq18_, .int xq19_])) := hx_rd
    have hc_tp : Mq11_ tp = some (.inl (kA 1, 600, .inl fb)) := (hfr tp (Or.inl hn_tp) n_tp_rd).trans hc_tp
    have hF : ∀ q, FrA T q → q ≠ w → q ≠ rd → Mq11_ q = M q := fun q hq h0 h1 => (hfr q (FrA.k hq)  h1).trans (hF q hq h0 h1)
    have cq14_ : xq17_.toInt ≤ xq18_.toInt ∧ xq18_.toInt ≤ tl.toInt ∧ rq13_.toInt = ftF (nC fb) tl.toInt.toNat (tl.toInt.toNat + 1) xq8_.toInt.toNat := cq14_
    have hFP : rq13_.toInt = FT fb tl.toInt.toNat := by unfold FT; rw [cq14_.2.2, show xq8_.toInt.toNat = scE pSp (nC fb) tl.toInt.toNat 0 by have := cq6_.2.2.2; omega]
    refine yp (v := .int rq13_) hC hK hH flX9_64 hc_w (noT hn_w) rfl rfl (Nat.le_of_ble_eq_true rfl) dX9_text_53 (fun Hq_ lcq_ Mq22_ hc_w hfr hH => ?_)
    have hc_w : Mq22_ w = some (.inr (6, [.int td, .int gd, .int bc, .int py, .int rf, .int lt, .int 0, .int rq13_, .ref cs, .ref bs, .ref tp])) := hc_w
    have hc_ro : Mq22_ ro = some (.inr (7, [.ref w, .ref im, .ref rd, .ref rc, .ref cu])) := (hfr ro n_ro_w).trans hc_ro
    have hc_bs : Mq22_ bs = some (.inl (kA 5, 4, .inr (.inr (.inr (.inr g))))) := (hfr bs n_bs_w).trans hc_bs
    have hc_rd : Mq22_ rd = some (.inr (3, [.ref nb, .ref (zv z vq15_), .int xq20_, .int xq21_, .ref tp, .int tl, .int xq16_, .int xq17_, .int xq18_, .int xq19_])) := (hfr rd n_rd_w).trans hc_rd
    have hc_tp : Mq22_ tp = some (.inl (kA 1, 600, .inl fb)) := (hfr tp n_tp_w).trans hc_tp
    have hF : ∀ q, FrA T q → q ≠ w → q ≠ rd → Mq22_ q = M q := fun q hq h0 h1 => (hfr q h0).trans (hF q hq h0 h1)
    refine lv_aload_n hx hb dX9_text_56 rfl (lv_at hl 1 rfl) ?_
    refine xg hC hK hH flX9_12 hc_ro rfl dX9_text_57 ?_
    refine xg hC hK hH flX9_64 hc_w rfl dX9_text_60 ?_
    refine lv_iconst (v := -1) hx hb dX9_text_63 (by decide) ?_
    refine jic_eq (tgt := 69) hx hb dX9_text_64 (by decide) (fun cq23_ => ?_) (fun cq23_ => ?_)
    · skip
      have cq23_ : rq13_.toInt = (-1) := cq23_
      refine lv_aload_n hx hb dX9_text_69 rfl (lv_at hl 1 rfl) ?_
      refine xg hC hK hH flX9_23 hc_ro rfl dX9_text_70 ?_
      refine lv_aload_n hx hb dX9_text_73 rfl (lv_at hl 1 rfl) ?_
      refine xg hC hK hH flX9_12 hc_ro rfl dX9_text_74 ?_
      refine xg hC hK hH flX9_52 hc_w rfl dX9_text_77 ?_
      refine lv_iload_n hx hb dX9_text_80 rfl (lv_at hl 0 rfl) ?_
      refine goV hK hH (runV (As := [.ref tp, .int tl]) (rest := []) hC hK hH (c_X4_open hc_rd hn_rd hc_tp hn_tp ht_nb (by omega)) mlX9_56 (rcvM hK hH hc_rd rfl) ⟨⟨Nat.le_of_ble_eq_true rfl, Nat.le_of_ble_eq_true rfl⟩, Nat.le_of_ble_eq_true rfl, Nat.le_of_ble_eq_true rfl⟩ rfl hl.1 rfl (Nat.le_of_ble_eq_true rfl) dX9_text_81) (fun Mq24_ Tq25_ Hq_ lcq_ hP hz hH => ?_)
      try dsimp only at hP
      obtain ⟨xq28_, ⟨l_xq28_, g_xq28_⟩, xq29_, ⟨l_xq29_, g_xq29_⟩, xq30_, ⟨l_xq30_, g_xq30_⟩, xq31_, ⟨l_xq31_, g_xq31_⟩, (⟨cq27_, hx_rd⟩), eT, hfr⟩ := hP
      have eT := eT.symm; subst eT
      have hc_ro : Mq24_ ro = some (.inr (7, [.ref w, .ref im, .ref rd, .ref rc, .ref cu])) := (hfr ro (Or.inl hn_ro) n_ro_rd).trans hc_ro
      have hc_w : Mq24_ w = some (.inr (6, [.int td, .int gd, .int bc, .int py, .int rf, .int lt, .int 0, .int rq13_, .ref cs, .ref bs, .ref tp])) := (hfr w (Or.inl hn_w) n_w_rd).trans hc_w
      have hc_bs : Mq24_ bs = some (.inl (kA 5, 4, .inr (.inr (.inr (.inr g))))) := (hfr bs (Or.inr (Or.inl ht_bs)) n_bs_rd).trans hc_bs
      have hc_rd : Mq24_ rd = some (.inr (3, [.ref nb, .ref (zv z vq15_), .int xq20_, .int xq21_, .ref tp, .int tl, .int xq28_, .int xq29_, .int xq30_, .int xq31_])) := hx_rd
      have hc_tp : Mq24_ tp = some (.inl (kA 1, 600, .inl fb)) := (hfr tp (Or.inl hn_tp) n_tp_rd).trans hc_tp
      have hF : ∀ q, FrA T q → q ≠ w → q ≠ rd → Mq24_ q = M q := fun q hq h0 h1 => (hfr q (FrA.k hq)  h1).trans (hF q hq h0 h1)
      have cq27_ : xq29_.toInt ≤ xq30_.toInt ∧ xq30_.toInt ≤ tl.toInt ∧ Tk fb tl xq28_ xq29_ xq30_ ∧ xq29_.toInt = (scE pSp (nC fb) tl.toInt.toNat 0 : Int) := cq27_
      refine lv_iconst (v := 0) hx hb dX9_text_84 (by decide) ?_
      refine lv_istore_n (lv' := [(3, .int 0), (2, .int tl), (0, .ref ro), (1, .int an)]) hx hb dX9_text_85 rfl hl (by decide) rfl (fun ls hl => ?_)
      have loop : ∀ (n : Nat) (yq32_ : Int32) (yq33_ : Int32) (yq34_ : Int32) (yq35_ : Int32) (yq36_ : Int32) (yq37_ : Int32) (yq38_ : Int32) (yq39_ : Nat) (yq40_ : Int32) (yq41_ : Int32) (yq42_ : Int32) (yq43_ : Int32) (yq44_ : Int32) (yq45_ : Int32) (Hq_ : Heap) (lcq_ : List Loc) (Mq46_ : mM) (ls : Array Slot), 601 - yq32_.toInt ≤ (n : Int) → (0 : Int) ≤ yq32_.toInt → yq32_.toInt ≤ 600 → (0 : Int) ≤ yq33_.toInt → yq33_.toInt ≤ 999 → (0 : Int) ≤ yq35_.toInt → yq35_.toInt ≤ 4 → (0 : Int) ≤ yq40_.toInt → yq40_.toInt ≤ 1 → (0 : Int) ≤ yq41_.toInt → yq41_.toInt ≤ 1 → (0 : Int) ≤ yq42_.toInt → yq42_.toInt ≤ 4 → (0 : Int) ≤ yq43_.toInt → yq43_.toInt ≤ 600 → (0 : Int) ≤ yq44_.toInt → yq44_.toInt ≤ 600 → (yq39_ < 19) → (yq43_.toInt ≤ yq44_.toInt) → (yq44_.toInt ≤ tl.toInt) → (Tk fb tl yq42_ yq43_ yq44_) → Mq46_ ro = some (.inr (7, [.ref w, .ref im, .ref rd, .ref rc, .ref cu])) → Mq46_ w = some (.inr (6, [.int yq33_, .int yq34_, .int yq35_, .int yq36_, .int yq37_, .int yq38_, .int 0, .int rq13_, .ref cs, .ref bs, .ref tp])) → Mq46_ bs = some (.inl (kA 5, 4, .inr (.inr (.inr (.inr g))))) → Mq46_ rd = some (.inr (3, [.ref nb, .ref (zv z yq39_), .int yq40_, .int yq41_, .ref tp, .int tl, .int yq42_, .int yq43_, .int yq44_, .int yq45_])) → Mq46_ tp = some (.inl (kA 1, 600, .inl fb)) → (∀ q, FrA T q → q ≠ w → q ≠ rd → Mq46_ q = M q) → mS D kA Mq46_ T (mA M T sz) s.heap Hq_ lcq_ → lv_has ls 4 [(3, .int yq32_), (2, .int tl), (0, .ref ro), (1, .int an)] → W p l e (rmL 8 0 0) s m ([.ref ro, .int an] : List Value).toArray below meth c Hq_ lcq_ 0 0 (MQ below (va_Qi (fun r u => ∃ td2 : Int32, ((0 : Int) ≤ td2.toInt ∧ td2.toInt ≤ 999) ∧ ∃ gd2 : Int32, ((-2147483648 : Int) ≤ gd2.toInt ∧ gd2.toInt ≤ 2147483647) ∧ ∃ bc2 : Int32, ((0 : Int) ≤ bc2.toInt ∧ bc2.toInt ≤ 4) ∧ ∃ py2 : Int32, ((-2147483648 : Int) ≤ py2.toInt ∧ py2.toInt ≤ 2147483647) ∧ ∃ rf2 : Int32, ((-2147483648 : Int) ≤ rf2.toInt ∧ rf2.toInt ≤ 2147483647) ∧ ∃ lt2 : Int32, ((-2147483648 : Int) ≤ lt2.toInt ∧ lt2.toInt ≤ 2147483647) ∧ ∃ fp2 : Int32, ((-2147483648 : Int) ≤ fp2.toInt ∧ fp2.toInt ≤ 2147483647) ∧ ∃ le2 : Int32, ((-2147483648 : Int) ≤ le2.toInt ∧ le2.toInt ≤ 2147483647) ∧ ∃ no2 : Int32, ((0 : Int) ≤ no2.toInt ∧ no2.toInt ≤ 1) ∧ ∃ wi2 : Int32, ((0 : Int) ≤ wi2.toInt ∧ wi2.toInt ≤ 1) ∧ ∃ ki2 : Int32, ((-2147483648 : Int) ≤ ki2.toInt ∧ ki2.toInt ≤ 2147483647) ∧ ∃ pl2 : Int32, ((-2147483648 : Int) ≤ pl2.toInt ∧ pl2.toInt ≤ 2147483647) ∧ ∃ be2 : Int32, ((-2147483648 : Int) ≤ be2.toInt ∧ be2.toInt ≤ 2147483647) ∧ ∃ va2 : Int32, ((-2147483648 : Int) ≤ va2.toInt ∧ va2.toInt ≤ 2147483647) ∧ ∃ vi2 : Nat, (vi2 < 19) ∧ (fp2.toInt = FT fb tl.toInt.toNat ∧ u.1 w = some (.inr (6, [.int td2, .int gd2, .int bc2, .int py2, .int rf2, .int lt2, .int 0, .int fp2, .ref cs, .ref bs, .ref tp])) ∧ u.1 rd = some (.inr (3, [.ref nb, .ref (zv z vi2), .int no2, .int wi2, .ref tp, .int le2, .int ki2, .int pl2, .int be2, .int va2]))) ∧ u.2 = T ∧ (∀ q, FrA T q → q ≠ w → q ≠ rd → u.1 q = M q)) (mB D kA M T sz) (mA M T sz)) ([.ref ro, .int an] : List Value).toArray s 0 0 (mA M T sz)) (F0 m 86 ls []) := by
        intro n
        induction n with
        | zero =>
          intro yq32_ yq33_ yq34_ yq35_ yq36_ yq37_ yq38_ yq39_ yq40_ yq41_ yq42_ yq43_ yq44_ yq45_ Hq_ lcq_ Mq46_ ls hme l_yq32_ g_yq32_ l_yq33_ g_yq33_ l_yq35_ g_yq35_ l_yq40_ g_yq40_ l_yq41_ g_yq41_ l_yq42_ g_yq42_ l_yq43_ g_yq43_ l_yq44_ g_yq44_ hv0_yq32_ hv1_yq32_ hv2_yq32_ hw0_yq32_ hc_ro hc_w hc_bs hc_rd hc_tp hF hH hl
          exfalso; omega
        | succ n ih =>
          intro yq32_ yq33_ yq34_ yq35_ yq36_ yq37_ yq38_ yq39_ yq40_ yq41_ yq42_ yq43_ yq44_ yq45_ Hq_ lcq_ Mq46_ ls hme l_yq32_ g_yq32_ l_yq33_ g_yq33_ l_yq35_ g_yq35_ l_yq40_ g_yq40_ l_yq41_ g_yq41_ l_yq42_ g_yq42_ l_yq43_ g_yq43_ l_yq44_ g_yq44_ hv0_yq32_ hv1_yq32_ hv2_yq32_ hw0_yq32_ hc_ro hc_w hc_bs hc_rd hc_tp hF hH hl
          refine lv_iload_n hx hb dX9_text_86 rfl (lv_at hl 0 rfl) ?_
          refine lv_sipush (v := 600) hx hb dX9_text_87 (by decide) ?_
          refine jic_ge (tgt := 133) hx hb dX9_text_90 (by decide) (fun cq47_ => ?_) (fun cq47_ => ?_)
          · skip
            have cq47_ : 600 ≤ yq32_.toInt := cq47_
            refine lv_iload_n hx hb dX9_text_133 rfl (lv_at hl 0 rfl) ?_
            exact ret_i hC hr hlk hK hH (⟨yq33_, ⟨by omega, by omega⟩, yq34_, iRg _, yq35_, ⟨by omega, by omega⟩, yq36_, iRg _, yq37_, iRg _, yq38_, iRg _, rq13_, iRg _, tl, iRg _, yq40_, ⟨by omega, by omega⟩, yq41_, ⟨by omega, by omega⟩, yq42_, iRg _, yq43_, iRg _, yq44_, iRg _, yq45_, iRg _, yq39_, by omega, ⟨hFP, hc_w, hc_rd⟩, rfl, hF⟩) (Nat.le_of_ble_eq_true rfl) (Nat.le_of_ble_eq_true rfl) dX9_text_134
          · skip
            have cq47_ : yq32_.toInt < 600 := cq47_
            refine lv_aload_n hx hb dX9_text_93 rfl (lv_at hl 2 rfl) ?_
            refine xg hC hK hH flX9_23 hc_ro rfl dX9_text_94 ?_
            refine goI hK hH (runV (As := []) (rest := []) hC hK hH (c_X4_atEnd hc_rd hn_rd hc_tp hn_tp ht_nb) mlX9_66 (rcvM hK hH hc_rd rfl) ⟨⟨Nat.le_of_ble_eq_true rfl, Nat.le_of_ble_eq_true rfl⟩, Nat.le_of_ble_eq_true rfl, Nat.le_of_ble_eq_true rfl⟩ rfl hl.1 rfl (Nat.le_of_ble_eq_true rfl) dX9_text_97) (fun rq50_ Mq48_ Tq49_ Hq_ lcq_ hP hz hH => ?_)
            try dsimp only at hP
            obtain ⟨(⟨cq51_, er_rq50_⟩ | ⟨cq52_, er_rq50_⟩), eT, eM⟩ := hP
            · skip
              have eT := eT.symm; subst eT
              have er_rq50_ := er_rq50_.symm; subst er_rq50_
              have eM := eM.symm; subst eM
              have cq51_ : yq42_.toInt = 0 := cq51_
              refine jif_ne (tgt := 133) hx hb dX9_text_100 (by decide) (fun cq53_ => ?_) (fun cq53_ => absurd cq53_ (by decide))
              refine lv_iload_n hx hb dX9_text_133 rfl (lv_at hl 0 rfl) ?_
              exact ret_i hC hr hlk hK hH (⟨yq33_, ⟨by omega, by omega⟩, yq34_, iRg _, yq35_, ⟨by omega, by omega⟩, yq36_, iRg _, yq37_, iRg _, yq38_, iRg _, rq13_, iRg _, tl, iRg _, yq40_, ⟨by omega, by omega⟩, yq41_, ⟨by omega, by omega⟩, yq42_, iRg _, yq43_, iRg _, yq44_, iRg _, yq45_, iRg _, yq39_, by omega, ⟨hFP, hc_w, hc_rd⟩, rfl, hF⟩) (Nat.le_of_ble_eq_true rfl) (Nat.le_of_ble_eq_true rfl) dX9_text_134
            · skip
              have eT := eT.symm; subst eT
              have er_rq50_ := er_rq50_.symm; subst er_rq50_
              have eM := eM.symm; subst eM
              have cq52_ : yq42_.toInt ≠ 0 := cq52_
              refine jif_ne (tgt := 133) hx hb dX9_text_100 (by decide) (fun cq54_ => absurd cq54_ (by decide)) (fun cq54_ => ?_)
              refine lv_aload_n hx hb dX9_text_103 rfl (lv_at hl 2 rfl) ?_
              refine xg hC hK hH flX9_23 hc_ro rfl dX9_text_104 ?_
              refine goI hK hH (runVB (As := []) (rest := []) hC hK hH hZ (c_X4_readLine hc_rd hn_rd hc_tp hn_tp ht_nb (by omega) (by omega) (by omega) (by omega) (by omega) (by omega) (by omega) (by omega) (by exact hw0_yq32_)) mlX9_70 (rcvM hK hH hc_rd rfl) ⟨⟨Nat.le_of_ble_eq_true rfl, Nat.le_of_ble_eq_true rfl⟩, Nat.le_of_ble_eq_true rfl, Nat.le_of_ble_eq_true rfl⟩ rfl hl.1 rfl (Nat.le_of_ble_eq_true rfl) dX9_text_107) (fun rq57_ Mq55_ Tq56_ Hq_ lcq_ hP hz hH => ?_)
              try dsimp only at hP
              obtain ⟨xq61_, ⟨l_xq61_, g_xq61_⟩, xq62_, ⟨l_xq62_, g_xq62_⟩, xq63_, ⟨l_xq63_, g_xq63_⟩, xq64_, ⟨l_xq64_, g_xq64_⟩, xq65_, ⟨l_xq65_, g_xq65_⟩, xq66_, ⟨l_xq66_, g_xq66_⟩, vq60_, h_vq60_, (⟨cq58_, er_rq57_, hx_rd⟩ | ⟨cq59_, er_rq57_, hx_rd⟩), eT, hfr⟩ := hP
              · skip
                have eT := eT.symm; subst eT
                have er_rq57_ := er_rq57_.symm; subst er_rq57_
                have hc_ro : Mq55_ ro = some (.inr (7, [.ref w, .ref im, .ref rd, .ref rc, .ref cu])) := (hfr ro (Or.inl hn_ro) n_ro_rd).trans hc_ro
                have hc_w : Mq55_ w = some (.inr (6, [.int yq33_, .int yq34_, .int yq35_, .int yq36_, .int yq37_, .int yq38_, .int 0, .int rq13_, .ref cs, .ref bs, .ref tp])) := (hfr w (Or.inl hn_w) n_w_rd).trans hc_w
                have hc_bs : Mq55_ bs = some (.inl (kA 5, 4, .inr (.inr (.inr (.inr g))))) := (hfr bs (Or.inr (Or.inl ht_bs)) n_bs_rd).trans hc_bs
                have hc_rd : Mq55_ rd = some (.inr (3, [.ref nb, .ref (zv z vq60_), .int xq65_, .int xq66_, .ref tp, .int tl, .int xq61_, .int xq62_, .int xq63_, .int xq64_])) := hx_rd
                have hc_tp : Mq55_ tp = some (.inl (kA 1, 600, .inl fb)) := (hfr tp (Or.inl hn_tp) n_tp_rd).trans hc_tp
                have hF : ∀ q, FrA T q → q ≠ w → q ≠ rd → Mq55_ q = M q := fun q hq h0 h1 => (hfr q (FrA.k hq)  h1).trans (hF q hq h0 h1)
                have cq58_ : xq62_.toInt ≤ xq63_.toInt ∧ xq63_.toInt ≤ tl.toInt ∧ Tk fb tl xq61_ xq62_ xq63_ ∧ lnF (nC fb) tl.toInt.toNat yq43_.toInt.toNat = (true, xq62_.toInt.toNat) := cq58_
                refine jif_eq (tgt := 133) hx hb dX9_text_110 (by decide) (fun cq67_ => absurd cq67_ (by decide)) (fun cq67_ => ?_)
                refine lv_aload_n hx hb dX9_text_113 rfl (lv_at hl 2 rfl) ?_
                refine xg hC hK hH flX9_12 hc_ro rfl dX9_text_114 ?_
                refine lv_aload_n hx hb dX9_text_117 rfl (lv_at hl 2 rfl) ?_
                refine goI hK hH (runVB (As := []) (rest := [.ref w]) hC hK hH hZ (c_X9_reasonOfLine hc_ro hn_ro hc_w hn_w hc_bs hc_rd hn_rd ht_cs ht_bs ht_nb (by omega) (by omega) (by decide) (by omega) (by omega) (by omega) hg) mlX9_73 (rcvM hK hH hc_ro rfl) ⟨⟨Nat.le_of_ble_eq_true rfl, Nat.le_of_ble_eq_true rfl⟩, Nat.le_of_ble_eq_true rfl, Nat.le_of_ble_eq_true rfl⟩ rfl hl.1 rfl (Nat.le_of_ble_eq_true rfl) dX9_text_118) (fun rq70_ Mq68_ Tq69_ Hq_ lcq_ hP hz hH => ?_)
                try dsimp only at hP
                obtain ⟨xq71_, ⟨l_xq71_, g_xq71_⟩, xq72_, ⟨l_xq72_, g_xq72_⟩, xq73_, ⟨l_xq73_, g_xq73_⟩, xq74_, ⟨l_xq74_, g_xq74_⟩, xq75_, ⟨l_xq75_, g_xq75_⟩, xq76_, ⟨l_xq76_, g_xq76_⟩, (hx_w), eT, hfr⟩ := hP
                have eT := eT.symm; subst eT
                have hc_ro : Mq68_ ro = some (.inr (7, [.ref w, .ref im, .ref rd, .ref rc, .ref cu])) := (hfr ro (Or.inl hn_ro) n_ro_w).trans hc_ro
                have hc_w : Mq68_ w = some (.inr (6, [.int xq71_, .int xq72_, .int xq73_, .int xq74_, .int xq75_, .int xq76_, .int 0, .int rq13_, .ref cs, .ref bs, .ref tp])) := hx_w
                have hc_bs : Mq68_ bs = some (.inl (kA 5, 4, .inr (.inr (.inr (.inr g))))) := (hfr bs (Or.inr ht_bs) n_bs_w).trans hc_bs
                have hc_rd : Mq68_ rd = some (.inr (3, [.ref nb, .ref (zv z vq60_), .int xq65_, .int xq66_, .ref tp, .int tl, .int xq61_, .int xq62_, .int xq63_, .int xq64_])) := (hfr rd (Or.inl hn_rd) n_rd_w).trans hc_rd
                have hc_tp : Mq68_ tp = some (.inl (kA 1, 600, .inl fb)) := (hfr tp (Or.inl hn_tp) n_tp_w).trans hc_tp
                have hF : ∀ q, FrA T q → q ≠ w → q ≠ rd → Mq68_ q = M q := fun q hq h0 h1 => (hfr q hq  h0).trans (hF q hq h0 h1)
                refine goI hK hH (runV (As := [.int rq70_]) (rest := []) hC hK hH (c_X8_note hc_w hn_w hc_bs ht_cs ht_bs (by omega) (by omega) (by decide) hg) mlX9_76 (rcvM hK hH hc_w rfl) ⟨⟨Nat.le_of_ble_eq_true rfl, Nat.le_of_ble_eq_true rfl⟩, Nat.le_of_ble_eq_true rfl, Nat.le_of_ble_eq_true rfl⟩ rfl hl.1 rfl (Nat.le_of_ble_eq_true rfl) dX9_text_121) (fun rq79_ Mq77_ Tq78_ Hq_ lcq_ hP hz hH => ?_)
                try dsimp only at hP
                obtain ⟨xq80_, ⟨l_xq80_, g_xq80_⟩, (⟨er_rq79_, hx_w⟩), eT, hfr⟩ := hP
                have eT := eT.symm; subst eT
                have er_rq79_ := er_rq79_.symm; subst er_rq79_
                have hc_ro : Mq77_ ro = some (.inr (7, [.ref w, .ref im, .ref rd, .ref rc, .ref cu])) := (hfr ro (Or.inl hn_ro) n_ro_w).trans hc_ro
                have hc_w : Mq77_ w = some (.inr (6, [.int xq71_, .int xq72_, .int xq73_, .int xq74_, .int xq80_, .int rq70_, .int 0, .int rq13_, .ref cs, .ref bs, .ref tp])) := hx_w
                have hc_bs : Mq77_ bs = some (.inl (kA 5, 4, .inr (.inr (.inr (.inr g))))) := (hfr bs (Or.inr (Or.inl ht_bs)) n_bs_w).trans hc_bs
                have hc_rd : Mq77_ rd = some (.inr (3, [.ref nb, .ref (zv z vq60_), .int xq65_, .int xq66_, .ref tp, .int tl, .int xq61_, .int xq62_, .int xq63_, .int xq64_])) := (hfr rd (Or.inl hn_rd) n_rd_w).trans hc_rd
                have hc_tp : Mq77_ tp = some (.inl (kA 1, 600, .inl fb)) := (hfr tp (Or.inl hn_tp) n_tp_w).trans hc_tp
                have hF : ∀ q, FrA T q → q ≠ w → q ≠ rd → Mq77_ q = M q := fun q hq h0 h1 => (hfr q (FrA.k hq)  h0).trans (hF q hq h0 h1)
                refine jif_ne (tgt := 133) hx hb dX9_text_124 (by decide) (fun cq81_ => ?_) (fun cq81_ => ?_)
                · skip
                  have cq81_ : rq70_.toInt ≠ 0 := cq81_
                  refine lv_iload_n hx hb dX9_text_133 rfl (lv_at hl 0 rfl) ?_
                  exact ret_i hC hr hlk hK hH (⟨xq71_, ⟨by omega, by omega⟩, xq72_, iRg _, xq73_, ⟨by omega, by omega⟩, xq74_, iRg _, xq80_, iRg _, rq70_, iRg _, rq13_, iRg _, tl, iRg _, xq65_, ⟨by omega, by omega⟩, xq66_, ⟨by omega, by omega⟩, xq61_, iRg _, xq62_, iRg _, xq63_, iRg _, xq64_, iRg _, vq60_, by omega, ⟨hFP, hc_w, hc_rd⟩, rfl, hF⟩) (Nat.le_of_ble_eq_true rfl) (Nat.le_of_ble_eq_true rfl) dX9_text_134
                · skip
                  have cq81_ : rq70_.toInt = 0 := cq81_
                  obtain ⟨zq82_, e_zq82_⟩ : ∃ y : Int32, y = yq32_ + 1 := ⟨_, rfl⟩
                  refine lv_iinc (v := zq82_) (lv' := [(3, .int zq82_), (2, .int tl), (0, .ref ro), (1, .int an)]) hx hb dX9_text_127 hl (k := 0) rfl (by rw [e_zq82_]; rfl) (by decide) rfl (fun ls hl => ?_)
                  have h_zq82_ : zq82_.toInt = yq32_.toInt + 1 := by rw [e_zq82_, iAdd (by have : (1 : Int32).toInt = 1 := rfl; omega) (by have : (1 : Int32).toInt = 1 := rfl; omega)]; rfl
                  refine lv_goto (tgt := 86) hx hb dX9_text_130 (by decide) ?_
                  exact ih zq82_ xq71_ xq72_ xq73_ xq74_ xq80_ rq70_ vq60_ xq65_ xq66_ xq61_ xq62_ xq63_ xq64_ _ _ _ ls (by have := iRg zq82_; have := iRg xq71_; have := iRg xq72_; have := iRg xq73_; have := iRg xq74_; have := iRg xq80_; have := iRg rq70_; have := iRg xq65_; have := iRg xq66_; have := iRg xq61_; have := iRg xq62_; have := iRg xq63_; have := iRg xq64_; omega) (by have := iRg zq82_; have := iRg xq71_; have := iRg xq72_; have := iRg xq73_; have := iRg xq74_; have := iRg xq80_; have := iRg rq70_; have := iRg xq65_; have := iRg xq66_; have := iRg xq61_; have := iRg xq62_; have := iRg xq63_; have := iRg xq64_; omega) (by have := iRg zq82_; have := iRg xq71_; have := iRg xq72_; have := iRg xq73_; have := iRg xq74_; have := iRg xq80_; have := iRg rq70_; have := iRg xq65_; have := iRg xq66_; have := iRg xq61_; have := iRg xq62_; have := iRg xq63_; have := iRg xq64_; omega) (by have := iRg zq82_; have := iRg xq71_; have := iRg xq72_; have := iRg xq73_; have := iRg xq74_; have := iRg xq80_; have := iRg rq70_; have := iRg xq65_; have := iRg xq66_; have := iRg xq61_; have := iRg xq62_; have := iRg xq63_; have := iRg xq64_; omega) (by have := iRg zq82_; have := iRg xq71_; have := iRg xq72_; have := iRg xq73_; have := iRg xq74_; have := iRg xq80_; have := iRg rq70_; have := iRg xq65_; have := iRg xq66_; have := iRg xq61_; have := iRg xq62_; have := iRg xq63_; have := iRg xq64_; omega) (by have := iRg zq82_; have := iRg xq71_; have := iRg xq72_; have := iRg xq73_; have := iRg xq74_; have := iRg xq80_; have := iRg rq70_; have := iRg xq65_; have := iRg xq66_; have := iRg xq61_; have := iRg xq62_; have := iRg xq63_; have := iRg xq64_; omega) (by have := iRg zq82_; have := iRg xq71_; have := iRg xq72_; have := iRg xq73_; have := iRg xq74_; have := iRg xq80_; have := iRg rq70_; have := iRg xq65_; have := iRg xq66_; have := iRg xq61_; have := iRg xq62_; have := iRg xq63_; have := iRg xq64_; omega) (by have := iRg zq82_; have := iRg xq71_; have := iRg xq72_; have := iRg xq73_; have := iRg xq74_; have := iRg xq80_; have := iRg rq70_; have := iRg xq65_; have := iRg xq66_; have := iRg xq61_; have := iRg xq62_; have := iRg xq63_; have := iRg xq64_; omega) (by have := iRg zq82_; have := iRg xq71_; have := iRg xq72_; have := iRg xq73_; have := iRg xq74_; have := iRg xq80_; have := iRg rq70_; have := iRg xq65_; have := iRg xq66_; have := iRg xq61_; have := iRg xq62_; have := iRg xq63_; have := iRg xq64_; omega) (by have := iRg zq82_; have := iRg xq71_; have := iRg xq72_; have := iRg xq73_; have := iRg xq74_; have := iRg xq80_; have := iRg rq70_; have := iRg xq65_; have := iRg xq66_; have := iRg xq61_; have := iRg xq62_; have := iRg xq63_; have := iRg xq64_; omega) (by have := iRg zq82_; have := iRg xq71_; have := iRg xq72_; have := iRg xq73_; have := iRg xq74_; have := iRg xq80_; have := iRg rq70_; have := iRg xq65_; have := iRg xq66_; have := iRg xq61_; have := iRg xq62_; have := iRg xq63_; have := iRg xq64_; omega) (by have := iRg zq82_; have := iRg xq71_; have := iRg xq72_; have := iRg xq73_; have := iRg xq74_; have := iRg xq80_; have := iRg rq70_; have := iRg xq65_; have := iRg xq66_; have := iRg xq61_; have := iRg xq62_; have := iRg xq63_; have := iRg xq64_; omega) (by have := iRg zq82_; have := iRg xq71_; have := iRg xq72_; have := iRg xq73_; have := iRg xq74_; have := iRg xq80_; have := iRg rq70_; have := iRg xq65_; have := iRg xq66_; have := iRg xq61_; have := iRg xq62_; have := iRg xq63_; have := iRg xq64_; omega) (by have := iRg zq82_; have := iRg xq71_; have := iRg xq72_; have := iRg xq73_; have := iRg xq74_; have := iRg xq80_; have := iRg rq70_; have := iRg xq65_; have := iRg xq66_; have := iRg xq61_; have := iRg xq62_; have := iRg xq63_; have := iRg xq64_; omega) (by have := iRg zq82_; have := iRg xq71_; have := iRg xq72_; have := iRg xq73_; have := iRg xq74_; have := iRg xq80_; have := iRg rq70_; have := iRg xq65_; have := iRg xq66_; have := iRg xq61_; have := iRg xq62_; have := iRg xq63_; have := iRg xq64_; omega) (by have := iRg zq82_; have := iRg xq71_; have := iRg xq72_; have := iRg xq73_; have := iRg xq74_; have := iRg xq80_; have := iRg rq70_; have := iRg xq65_; have := iRg xq66_; have := iRg xq61_; have := iRg xq62_; have := iRg xq63_; have := iRg xq64_; omega) (by have := iRg zq82_; have := iRg xq71_; have := iRg xq72_; have := iRg xq73_; have := iRg xq74_; have := iRg xq80_; have := iRg rq70_; have := iRg xq65_; have := iRg xq66_; have := iRg xq61_; have := iRg xq62_; have := iRg xq63_; have := iRg xq64_; omega) (by have := iRg zq82_; have := iRg xq71_; have := iRg xq72_; have := iRg xq73_; have := iRg xq74_; have := iRg xq80_; have := iRg rq70_; have := iRg xq65_; have := iRg xq66_; have := iRg xq61_; have := iRg xq62_; have := iRg xq63_; have := iRg xq64_; omega) (by have := iRg zq82_; have := iRg xq71_; have := iRg xq72_; have := iRg xq73_; have := iRg xq74_; have := iRg xq80_; have := iRg rq70_; have := iRg xq65_; have := iRg xq66_; have := iRg xq61_; have := iRg xq62_; have := iRg xq63_; have := iRg xq64_; omega) (by have := iRg zq82_; have := iRg xq71_; have := iRg xq72_; have := iRg xq73_; have := iRg xq74_; have := iRg xq80_; have := iRg rq70_; have := iRg xq65_; have := iRg xq66_; have := iRg xq61_; have := iRg xq62_; have := iRg xq63_; have := iRg xq64_; omega) (cq58_.2.2.1) hc_ro hc_w hc_bs hc_rd hc_tp hF hH (lv_sub hl [0, 1, 2, 3] rfl)
              · skip
                have eT := eT.symm; subst eT
                have er_rq57_ := er_rq57_.symm; subst er_rq57_
                have hc_ro : Mq55_ ro = some (.inr (7, [.ref w, .ref im, .ref rd, .ref rc, .ref cu])) := (hfr ro (Or.inl hn_ro) n_ro_rd).trans hc_ro
                have hc_w : Mq55_ w = some (.inr (6, [.int yq33_, .int yq34_, .int yq35_, .int yq36_, .int yq37_, .int yq38_, .int 0, .int rq13_, .ref cs, .ref bs, .ref tp])) := (hfr w (Or.inl hn_w) n_w_rd).trans hc_w
                have hc_bs : Mq55_ bs = some (.inl (kA 5, 4, .inr (.inr (.inr (.inr g))))) := (hfr bs (Or.inr (Or.inl ht_bs)) n_bs_rd).trans hc_bs
                have hc_rd : Mq55_ rd = some (.inr (3, [.ref nb, .ref (zv z vq60_), .int xq65_, .int xq66_, .ref tp, .int tl, .int xq61_, .int xq62_, .int xq63_, .int xq64_])) := hx_rd
                have hc_tp : Mq55_ tp = some (.inl (kA 1, 600, .inl fb)) := (hfr tp (Or.inl hn_tp) n_tp_rd).trans hc_tp
                have hF : ∀ q, FrA T q → q ≠ w → q ≠ rd → Mq55_ q = M q := fun q hq h0 h1 => (hfr q (FrA.k hq)  h1).trans (hF q hq h0 h1)
                have cq59_ : xq62_.toInt ≤ xq63_.toInt ∧ xq63_.toInt ≤ tl.toInt ∧ Tk fb tl xq61_ xq62_ xq63_ ∧ lnF (nC fb) tl.toInt.toNat yq43_.toInt.toNat = (false, xq62_.toInt.toNat) := cq59_
                refine jif_eq (tgt := 133) hx hb dX9_text_110 (by decide) (fun cq83_ => ?_) (fun cq83_ => absurd cq83_ (by decide))
                refine lv_iload_n hx hb dX9_text_133 rfl (lv_at hl 0 rfl) ?_
                exact ret_i hC hr hlk hK hH (⟨yq33_, ⟨by omega, by omega⟩, yq34_, iRg _, yq35_, ⟨by omega, by omega⟩, yq36_, iRg _, yq37_, iRg _, yq38_, iRg _, rq13_, iRg _, tl, iRg _, xq65_, ⟨by omega, by omega⟩, xq66_, ⟨by omega, by omega⟩, xq61_, iRg _, xq62_, iRg _, xq63_, iRg _, xq64_, iRg _, vq60_, by omega, ⟨hFP, hc_w, hc_rd⟩, rfl, hF⟩) (Nat.le_of_ble_eq_true rfl) (Nat.le_of_ble_eq_true rfl) dX9_text_134
      exact loop (Int.toNat (601 - 0)) 0 td gd bc py rf lt vq15_ xq20_ xq21_ xq28_ xq29_ xq30_ xq31_ _ _ _ ls (by have : (0 : Int32).toInt = 0 := rfl; have := iRg td; have := iRg gd; have := iRg bc; have := iRg py; have := iRg rf; have := iRg lt; have := iRg xq20_; have := iRg xq21_; have := iRg xq28_; have := iRg xq29_; have := iRg xq30_; have := iRg xq31_; omega) (by have : (0 : Int32).toInt = 0 := rfl; have := iRg td; have := iRg gd; have := iRg bc; have := iRg py; have := iRg rf; have := iRg lt; have := iRg xq20_; have := iRg xq21_; have := iRg xq28_; have := iRg xq29_; have := iRg xq30_; have := iRg xq31_; omega) (by have : (0 : Int32).toInt = 0 := rfl; have := iRg td; have := iRg gd; have := iRg bc; have := iRg py; have := iRg rf; have := iRg lt; have := iRg xq20_; have := iRg xq21_; have := iRg xq28_; have := iRg xq29_; have := iRg xq30_; have := iRg xq31_; omega) (by have : (0 : Int32).toInt = 0 := rfl; have := iRg td; have := iRg gd; have := iRg bc; have := iRg py; have := iRg rf; have := iRg lt; have := iRg xq20_; have := iRg xq21_; have := iRg xq28_; have := iRg xq29_; have := iRg xq30_; have := iRg xq31_; omega) (by have : (0 : Int32).toInt = 0 := rfl; have := iRg td; have := iRg gd; have := iRg bc; have := iRg py; have := iRg rf; have := iRg lt; have := iRg xq20_; have := iRg xq21_; have := iRg xq28_; have := iRg xq29_; have := iRg xq30_; have := iRg xq31_; omega) (by have : (0 : Int32).toInt = 0 := rfl; have := iRg td; have := iRg gd; have := iRg bc; have := iRg py; have := iRg rf; have := iRg lt; have := iRg xq20_; have := iRg xq21_; have := iRg xq28_; have := iRg xq29_; have := iRg xq30_; have := iRg xq31_; omega) (by have : (0 : Int32).toInt = 0 := rfl; have := iRg td; have := iRg gd; have := iRg bc; have := iRg py; have := iRg rf; have := iRg lt; have := iRg xq20_; have := iRg xq21_; have := iRg xq28_; have := iRg xq29_; have := iRg xq30_; have := iRg xq31_; omega) (by have : (0 : Int32).toInt = 0 := rfl; have := iRg td; have := iRg gd; have := iRg bc; have := iRg py; have := iRg rf; have := iRg lt; have := iRg xq20_; have := iRg xq21_; have := iRg xq28_; have := iRg xq29_; have := iRg xq30_; have := iRg xq31_; omega) (by have : (0 : Int32).toInt = 0 := rfl; have := iRg td; have := iRg gd; have := iRg bc; have := iRg py; have := iRg rf; have := iRg lt; have := iRg xq20_; have := iRg xq21_; have := iRg xq28_; have := iRg xq29_; have := iRg xq30_; have := iRg xq31_; omega) (by have : (0 : Int32).toInt = 0 := rfl; have := iRg td; have := iRg gd; have := iRg bc; have := iRg py; have := iRg rf; have := iRg lt; have := iRg xq20_; have := iRg xq21_; have := iRg xq28_; have := iRg xq29_; have := iRg xq30_; have := iRg xq31_; omega) (by have : (0 : Int32).toInt = 0 := rfl; have := iRg td; have := iRg gd; have := iRg bc; have := iRg py; have := iRg rf; have := iRg lt; have := iRg xq20_; have := iRg xq21_; have := iRg xq28_; have := iRg xq29_; have := iRg xq30_; have := iRg xq31_; omega) (by have : (0 : Int32).toInt = 0 := rfl; have := iRg td; have := iRg gd; have := iRg bc; have := iRg py; have := iRg rf; have := iRg lt; have := iRg xq20_; have := iRg xq21_; have := iRg xq28_; have := iRg xq29_; have := iRg xq30_; have := iRg xq31_; omega) (by have : (0 : Int32).toInt = 0 := rfl; have := iRg td; have := iRg gd; have := iRg bc; have := iRg py; have := iRg rf; have := iRg lt; have := iRg xq20_; have := iRg xq21_; have := iRg xq28_; have := iRg xq29_; have := iRg xq30_; have := iRg xq31_; omega) (by have : (0 : Int32).toInt = 0 := rfl; have := iRg td; have := iRg gd; have := iRg bc; have := iRg py; have := iRg rf; have := iRg lt; have := iRg xq20_; have := iRg xq21_; have := iRg xq28_; have := iRg xq29_; have := iRg xq30_; have := iRg xq31_; omega) (by have : (0 : Int32).toInt = 0 := rfl; have := iRg td; have := iRg gd; have := iRg bc; have := iRg py; have := iRg rf; have := iRg lt; have := iRg xq20_; have := iRg xq21_; have := iRg xq28_; have := iRg xq29_; have := iRg xq30_; have := iRg xq31_; omega) (by have : (0 : Int32).toInt = 0 := rfl; have := iRg td; have := iRg gd; have := iRg bc; have := iRg py; have := iRg rf; have := iRg lt; have := iRg xq20_; have := iRg xq21_; have := iRg xq28_; have := iRg xq29_; have := iRg xq30_; have := iRg xq31_; omega) (by have : (0 : Int32).toInt = 0 := rfl; have := iRg td; have := iRg gd; have := iRg bc; have := iRg py; have := iRg rf; have := iRg lt; have := iRg xq20_; have := iRg xq21_; have := iRg xq28_; have := iRg xq29_; have := iRg xq30_; have := iRg xq31_; omega) (by have : (0 : Int32).toInt = 0 := rfl; have := iRg td; have := iRg gd; have := iRg bc; have := iRg py; have := iRg rf; have := iRg lt; have := iRg xq20_; have := iRg xq21_; have := iRg xq28_; have := iRg xq29_; have := iRg xq30_; have := iRg xq31_; omega) (by have : (0 : Int32).toInt = 0 := rfl; have := iRg td; have := iRg gd; have := iRg bc; have := iRg py; have := iRg rf; have := iRg lt; have := iRg xq20_; have := iRg xq21_; have := iRg xq28_; have := iRg xq29_; have := iRg xq30_; have := iRg xq31_; omega) (by have : (0 : Int32).toInt = 0 := rfl; have := iRg td; have := iRg gd; have := iRg bc; have := iRg py; have := iRg rf; have := iRg lt; have := iRg xq20_; have := iRg xq21_; have := iRg xq28_; have := iRg xq29_; have := iRg xq30_; have := iRg xq31_; omega) (cq27_.2.2.1) hc_ro hc_w hc_bs hc_rd hc_tp hF hH hl
    · skip
      have cq23_ : rq13_.toInt ≠ (-1) := cq23_
      refine lv_iconst (v := -1) hx hb dX9_text_67 (by decide) ?_
      exact ret_i hC hr hlk hK hH (⟨td, ⟨by omega, by omega⟩, gd, iRg _, bc, ⟨by omega, by omega⟩, py, iRg _, rf, iRg _, lt, iRg _, rq13_, iRg _, tl, iRg _, xq20_, ⟨by omega, by omega⟩, xq21_, ⟨by omega, by omega⟩, xq16_, iRg _, xq17_, iRg _, xq18_, iRg _, xq19_, iRg _, vq15_, by omega, ⟨hFP, hc_w, hc_rd⟩, rfl, hF⟩) (Nat.le_of_ble_eq_true rfl) (Nat.le_of_ble_eq_true rfl) dX9_text_68
  · skip
    have cq2_ : an.toInt ≠ 0 := cq2_
    refine lv_aload_n hx hb dX9_text_20 rfl (lv_at hl 1 rfl) ?_
    refine xg hC hK hH flX9_12 hc_ro rfl dX9_text_21 ?_
    refine goV hK hH (runV (As := []) (rest := []) hC hK hH (c_X8_begin hc_w hn_w hc_bs ht_cs ht_bs (by omega) (by omega) (by decide) hg) mlX9_49 (rcvM hK hH hc_w rfl) ⟨⟨Nat.le_of_ble_eq_true rfl, Nat.le_of_ble_eq_true rfl⟩, Nat.le_of_ble_eq_true rfl, Nat.le_of_ble_eq_true rfl⟩ rfl hl.1 rfl (Nat.le_of_ble_eq_true rfl) dX9_text_24) (fun Mq84_ Tq85_ Hq_ lcq_ hP hz hH => ?_)
    try dsimp only at hP
    obtain ⟨(hx_w), eT, hfr⟩ := hP
    have eT := eT.symm; subst eT
    have hc_ro : Mq84_ ro = some (.inr (7, [.ref w, .ref im, .ref rd, .ref rc, .ref cu])) := (hfr ro (Or.inl hn_ro) n_ro_w).trans hc_ro
    have hc_w : Mq84_ w = some (.inr (6, [.int 0, .int 2, .int 0, .int 0, .int 0, .int 0, .int 0, .int (-1), .ref cs, .ref bs, .ref tp])) := hx_w
    have hc_bs : Mq84_ bs = some (.inl (kA 5, 4, .inr (.inr (.inr (.inr g))))) := (hfr bs (Or.inr (Or.inl ht_bs)) n_bs_w).trans hc_bs
    have hc_rd : Mq84_ rd = some (.inr (3, [.ref nb, .ref (zv z vi), .int no, .int wi, .ref by_, .int le, .int ki, .int pl, .int be, .int va])) := (hfr rd (Or.inl hn_rd) n_rd_w).trans hc_rd
    have hc_tp : Mq84_ tp = some (.inl (kA 1, 600, .inl fb)) := (hfr tp (Or.inl hn_tp) n_tp_w).trans hc_tp
    have hF : ∀ q, FrA T q → q ≠ w → q ≠ rd → Mq84_ q = M q := fun q hq h0 h1 => (hfr q (FrA.k hq)  h0).trans (hF q hq h0 h1)
    refine lv_aload_n hx hb dX9_text_27 rfl (lv_at hl 1 rfl) ?_
    refine xg hC hK hH flX9_23 hc_ro rfl dX9_text_28 ?_
    refine lv_aload_n hx hb dX9_text_31 rfl (lv_at hl 1 rfl) ?_
    refine xg hC hK hH flX9_12 hc_ro rfl dX9_text_32 ?_
    refine xg hC hK hH flX9_52 hc_w rfl dX9_text_35 ?_
    refine lv_iload_n hx hb dX9_text_38 rfl (lv_at hl 0 rfl) ?_
    refine goV hK hH (runV (As := [.ref tp, .int tl]) (rest := []) hC hK hH (c_X4_open hc_rd hn_rd hc_tp hn_tp ht_nb (by omega)) mlX9_56 (rcvM hK hH hc_rd rfl) ⟨⟨Nat.le_of_ble_eq_true rfl, Nat.le_of_ble_eq_true rfl⟩, Nat.le_of_ble_eq_true rfl, Nat.le_of_ble_eq_true rfl⟩ rfl hl.1 rfl (Nat.le_of_ble_eq_true rfl) dX9_text_39) (fun Mq87_ Tq88_ Hq_ lcq_ hP hz hH => ?_)
    try dsimp only at hP
    obtain ⟨xq91_, ⟨l_xq91_, g_xq91_⟩, xq92_, ⟨l_xq92_, g_xq92_⟩, xq93_, ⟨l_xq93_, g_xq93_⟩, xq94_, ⟨l_xq94_, g_xq94_⟩, (⟨cq90_, hx_rd⟩), eT, hfr⟩ := hP
    have eT := eT.symm; subst eT
    have hc_ro : Mq87_ ro = some (.inr (7, [.ref w, .ref im, .ref rd, .ref rc, .ref cu])) := (hfr ro (Or.inl hn_ro) n_ro_rd).trans hc_ro
    have hc_w : Mq87_ w = some (.inr (6, [.int 0, .int 2, .int 0, .int 0, .int 0, .int 0, .int 0, .int (-1), .ref cs, .ref bs, .ref tp])) := (hfr w (Or.inl hn_w) n_w_rd).trans hc_w
    have hc_bs : Mq87_ bs = some (.inl (kA 5, 4, .inr (.inr (.inr (.inr g))))) := (hfr bs (Or.inr (Or.inl ht_bs)) n_bs_rd).trans hc_bs
    have hc_rd : Mq87_ rd = some (.inr (3, [.ref nb, .ref (zv z vi), .int no, .int wi, .ref tp, .int tl, .int xq91_, .int xq92_, .int xq93_, .int xq94_])) := hx_rd
    have hc_tp : Mq87_ tp = some (.inl (kA 1, 600, .inl fb)) := (hfr tp (Or.inl hn_tp) n_tp_rd).trans hc_tp
    have hF : ∀ q, FrA T q → q ≠ w → q ≠ rd → Mq87_ q = M q := fun q hq h0 h1 => (hfr q (FrA.k hq)  h1).trans (hF q hq h0 h1)
    have cq90_ : xq92_.toInt ≤ xq93_.toInt ∧ xq93_.toInt ≤ tl.toInt ∧ Tk fb tl xq91_ xq92_ xq93_ ∧ xq92_.toInt = (scE pSp (nC fb) tl.toInt.toNat 0 : Int) := cq90_
    refine lv_aload_n hx hb dX9_text_42 rfl (lv_at hl 1 rfl) ?_
    refine xg hC hK hH flX9_12 hc_ro rfl dX9_text_43 ?_
    refine lv_aload_n hx hb dX9_text_46 rfl (lv_at hl 1 rfl) ?_
    refine xg hC hK hH flX9_23 hc_ro rfl dX9_text_47 ?_
    refine goI hK hH (runVB (As := []) (rest := [.ref w]) hC hK hH hZ (c_X4_faultPlace hc_rd hn_rd hc_tp hn_tp ht_nb (by omega) (by omega) (by omega) (by omega) (by omega) (by omega) (by omega) (by omega) (by exact cq90_.2.2.1)) mlX9_60 (rcvM hK hH hc_rd rfl) ⟨⟨Nat.le_of_ble_eq_true rfl, Nat.le_of_ble_eq_true rfl⟩, Nat.le_of_ble_eq_true rfl, Nat.le_of_ble_eq_true rfl⟩ rfl hl.1 rfl (Nat.le_of_ble_eq_true rfl) dX9_text_50) (fun rq97_ Mq95_ Tq96_ Hq_ lcq_ hP hz hH => ?_)
    try dsimp only at hP
    obtain ⟨xq100_, ⟨l_xq100_, g_xq100_⟩, xq101_, ⟨l_xq101_, g_xq101_⟩, xq102_, ⟨l_xq102_, g_xq102_⟩, xq103_, ⟨l_xq103_, g_xq103_⟩, xq104_, ⟨l_xq104_, g_xq104_⟩, xq105_, ⟨l_xq105_, g_xq105_⟩, vq99_, h_vq99_, (⟨cq98_, hx_rd⟩), eT, hfr⟩ := hP
    have eT := eT.symm; subst eT
    have hc_ro : Mq95_ ro = some (.inr (7, [.ref w, .ref im, .ref rd, .ref rc, .ref cu])) := (hfr ro (Or.inl hn_ro) n_ro_rd).trans hc_ro
    have hc_w : Mq95_ w = some (.inr (6, [.int 0, .int 2, .int 0, .int 0, .int 0, .int 0, .int 0, .int (-1), .ref cs, .ref bs, .ref tp])) := (hfr w (Or.inl hn_w) n_w_rd).trans hc_w
    have hc_bs : Mq95_ bs = some (.inl (kA 5, 4, .inr (.inr (.inr (.inr g))))) := (hfr bs (Or.inr (Or.inl ht_bs)) n_bs_rd).trans hc_bs
    have hc_rd : Mq95_ rd = some (.inr (3, [.ref nb, .ref (zv z vq99_), .int xq104_, .int xq105_, .ref tp, .int tl, .int xq100_, .int xq101_, .int xq102_, .int xq103_])) := hx_rd
    have hc_tp : Mq95_ tp = some (.inl (kA 1, 600, .inl fb)) := (hfr tp (Or.inl hn_tp) n_tp_rd).trans hc_tp
    have hF : ∀ q, FrA T q → q ≠ w → q ≠ rd → Mq95_ q = M q := fun q hq h0 h1 => (hfr q (FrA.k hq)  h1).trans (hF q hq h0 h1)
    have cq98_ : xq101_.toInt ≤ xq102_.toInt ∧ xq102_.toInt ≤ tl.toInt ∧ rq97_.toInt = ftF (nC fb) tl.toInt.toNat (tl.toInt.toNat + 1) xq92_.toInt.toNat := cq98_
    have hFP : rq97_.toInt = FT fb tl.toInt.toNat := by unfold FT; rw [cq98_.2.2, show xq92_.toInt.toNat = scE pSp (nC fb) tl.toInt.toNat 0 by have := cq90_.2.2.2; omega]
    refine yp (v := .int rq97_) hC hK hH flX9_64 hc_w (noT hn_w) rfl rfl (Nat.le_of_ble_eq_true rfl) dX9_text_53 (fun Hq_ lcq_ Mq106_ hc_w hfr hH => ?_)
    have hc_w : Mq106_ w = some (.inr (6, [.int 0, .int 2, .int 0, .int 0, .int 0, .int 0, .int 0, .int rq97_, .ref cs, .ref bs, .ref tp])) := hc_w
    have hc_ro : Mq106_ ro = some (.inr (7, [.ref w, .ref im, .ref rd, .ref rc, .ref cu])) := (hfr ro n_ro_w).trans hc_ro
    have hc_bs : Mq106_ bs = some (.inl (kA 5, 4, .inr (.inr (.inr (.inr g))))) := (hfr bs n_bs_w).trans hc_bs
    have hc_rd : Mq106_ rd = some (.inr (3, [.ref nb, .ref (zv z vq99_), .int xq104_, .int xq105_, .ref tp, .int tl, .int xq100_, .int xq101_, .int xq102_, .int xq103_])) := (hfr rd n_rd_w).trans hc_rd
    have hc_tp : Mq106_ tp = some (.inl (kA 1, 600, .inl fb)) := (hfr tp n_tp_w).trans hc_tp
    have hF : ∀ q, FrA T q → q ≠ w → q ≠ rd → Mq106_ q = M q := fun q hq h0 h1 => (hfr q h0).trans (hF q hq h0 h1)
    refine lv_aload_n hx hb dX9_text_56 rfl (lv_at hl 1 rfl) ?_
    refine xg hC hK hH flX9_12 hc_ro rfl dX9_text_57 ?_
    refine xg hC hK hH flX9_64 hc_w rfl dX9_text_60 ?_
    refine lv_iconst (v := -1) hx hb dX9_text_63 (by decide) ?_
    refine jic_eq (tgt := 69) hx hb dX9_text_64 (by decide) (fun cq107_ => ?_) (fun cq107_ => ?_)
    · skip
      have cq107_ : rq97_.toInt = (-1) := cq107_
      refine lv_aload_n hx hb dX9_text_69 rfl (lv_at hl 1 rfl) ?_
      refine xg hC hK hH flX9_23 hc_ro rfl dX9_text_70 ?_
      refine lv_aload_n hx hb dX9_text_73 rfl (lv_at hl 1 rfl) ?_
      refine xg hC hK hH flX9_12 hc_ro rfl dX9_text_74 ?_
      refine xg hC hK hH flX9_52 hc_w rfl dX9_text_77 ?_
      refine lv_iload_n hx hb dX9_text_80 rfl (lv_at hl 0 rfl) ?_
      refine goV hK hH (runV (As := [.ref tp, .int tl]) (rest := []) hC hK hH (c_X4_open hc_rd hn_rd hc_tp hn_tp ht_nb (by omega)) mlX9_56 (rcvM hK hH hc_rd rfl) ⟨⟨Nat.le_of_ble_eq_true rfl, Nat.le_of_ble_eq_true rfl⟩, Nat.le_of_ble_eq_true rfl, Nat.le_of_ble_eq_true rfl⟩ rfl hl.1 rfl (Nat.le_of_ble_eq_true rfl) dX9_text_81) (fun Mq108_ Tq109_ Hq_ lcq_ hP hz hH => ?_)
      try dsimp only at hP
      obtain ⟨xq112_, ⟨l_xq112_, g_xq112_⟩, xq113_, ⟨l_xq113_, g_xq113_⟩, xq114_, ⟨l_xq114_, g_xq114_⟩, xq115_, ⟨l_xq115_, g_xq115_⟩, (⟨cq111_, hx_rd⟩), eT, hfr⟩ := hP
      have eT := eT.symm; subst eT
      have hc_ro : Mq108_ ro = some (.inr (7, [.ref w, .ref im, .ref rd, .ref rc, .ref cu])) := (hfr ro (Or.inl hn_ro) n_ro_rd).trans hc_ro
      have hc_w : Mq108_ w = some (.inr (6, [.int 0, .int 2, .int 0, .int 0, .int 0, .int 0, .int 0, .int rq97_, .ref cs, .ref bs, .ref tp])) := (hfr w (Or.inl hn_w) n_w_rd).trans hc_w
      have hc_bs : Mq108_ bs = some (.inl (kA 5, 4, .inr (.inr (.inr (.inr g))))) := (hfr bs (Or.inr (Or.inl ht_bs)) n_bs_rd).trans hc_bs
      have hc_rd : Mq108_ rd = some (.inr (3, [.ref nb, .ref (zv z vq99_), .int xq104_, .int xq105_, .ref tp, .int tl, .int xq112_, .int xq113_, .int xq114_, .int xq115_])) := hx_rd
      have hc_tp : Mq108_ tp = some (.inl (kA 1, 600, .inl fb)) := (hfr tp (Or.inl hn_tp) n_tp_rd).trans hc_tp
      have hF : ∀ q, FrA T q → q ≠ w → q ≠ rd → Mq108_ q = M q := fun q hq h0 h1 => (hfr q (FrA.k hq)  h1).trans (hF q hq h0 h1)
      have cq111_ : xq113_.toInt ≤ xq114_.toInt ∧ xq114_.toInt ≤ tl.toInt ∧ Tk fb tl xq112_ xq113_ xq114_ ∧ xq113_.toInt = (scE pSp (nC fb) tl.toInt.toNat 0 : Int) := cq111_
      refine lv_iconst (v := 0) hx hb dX9_text_84 (by decide) ?_
      refine lv_istore_n (lv' := [(3, .int 0), (2, .int tl), (0, .ref ro), (1, .int an)]) hx hb dX9_text_85 rfl hl (by decide) rfl (fun ls hl => ?_)
      have loop : ∀ (n : Nat) (yq116_ : Int32) (yq117_ : Int32) (yq118_ : Int32) (yq119_ : Int32) (yq120_ : Int32) (yq121_ : Int32) (yq122_ : Int32) (yq123_ : Nat) (yq124_ : Int32) (yq125_ : Int32) (yq126_ : Int32) (yq127_ : Int32) (yq128_ : Int32) (yq129_ : Int32) (Hq_ : Heap) (lcq_ : List Loc) (Mq130_ : mM) (ls : Array Slot), 601 - yq116_.toInt ≤ (n : Int) → (0 : Int) ≤ yq116_.toInt → yq116_.toInt ≤ 600 → (0 : Int) ≤ yq117_.toInt → yq117_.toInt ≤ 999 → (0 : Int) ≤ yq119_.toInt → yq119_.toInt ≤ 4 → (0 : Int) ≤ yq124_.toInt → yq124_.toInt ≤ 1 → (0 : Int) ≤ yq125_.toInt → yq125_.toInt ≤ 1 → (0 : Int) ≤ yq126_.toInt → yq126_.toInt ≤ 4 → (0 : Int) ≤ yq127_.toInt → yq127_.toInt ≤ 600 → (0 : Int) ≤ yq128_.toInt → yq128_.toInt ≤ 600 → (yq123_ < 19) → (yq127_.toInt ≤ yq128_.toInt) → (yq128_.toInt ≤ tl.toInt) → (Tk fb tl yq126_ yq127_ yq128_) → Mq130_ ro = some (.inr (7, [.ref w, .ref im, .ref rd, .ref rc, .ref cu])) → Mq130_ w = some (.inr (6, [.int yq117_, .int yq118_, .int yq119_, .int yq120_, .int yq121_, .int yq122_, .int 0, .int rq97_, .ref cs, .ref bs, .ref tp])) → Mq130_ bs = some (.inl (kA 5, 4, .inr (.inr (.inr (.inr g))))) → Mq130_ rd = some (.inr (3, [.ref nb, .ref (zv z yq123_), .int yq124_, .int yq125_, .ref tp, .int tl, .int yq126_, .int yq127_, .int yq128_, .int yq129_])) → Mq130_ tp = some (.inl (kA 1, 600, .inl fb)) → (∀ q, FrA T q → q ≠ w → q ≠ rd → Mq130_ q = M q) → mS D kA Mq130_ T (mA M T sz) s.heap Hq_ lcq_ → lv_has ls 4 [(3, .int yq116_), (2, .int tl), (0, .ref ro), (1, .int an)] → W p l e (rmL 8 0 0) s m ([.ref ro, .int an] : List Value).toArray below meth c Hq_ lcq_ 0 0 (MQ below (va_Qi (fun r u => ∃ td2 : Int32, ((0 : Int) ≤ td2.toInt ∧ td2.toInt ≤ 999) ∧ ∃ gd2 : Int32, ((-2147483648 : Int) ≤ gd2.toInt ∧ gd2.toInt ≤ 2147483647) ∧ ∃ bc2 : Int32, ((0 : Int) ≤ bc2.toInt ∧ bc2.toInt ≤ 4) ∧ ∃ py2 : Int32, ((-2147483648 : Int) ≤ py2.toInt ∧ py2.toInt ≤ 2147483647) ∧ ∃ rf2 : Int32, ((-2147483648 : Int) ≤ rf2.toInt ∧ rf2.toInt ≤ 2147483647) ∧ ∃ lt2 : Int32, ((-2147483648 : Int) ≤ lt2.toInt ∧ lt2.toInt ≤ 2147483647) ∧ ∃ fp2 : Int32, ((-2147483648 : Int) ≤ fp2.toInt ∧ fp2.toInt ≤ 2147483647) ∧ ∃ le2 : Int32, ((-2147483648 : Int) ≤ le2.toInt ∧ le2.toInt ≤ 2147483647) ∧ ∃ no2 : Int32, ((0 : Int) ≤ no2.toInt ∧ no2.toInt ≤ 1) ∧ ∃ wi2 : Int32, ((0 : Int) ≤ wi2.toInt ∧ wi2.toInt ≤ 1) ∧ ∃ ki2 : Int32, ((-2147483648 : Int) ≤ ki2.toInt ∧ ki2.toInt ≤ 2147483647) ∧ ∃ pl2 : Int32, ((-2147483648 : Int) ≤ pl2.toInt ∧ pl2.toInt ≤ 2147483647) ∧ ∃ be2 : Int32, ((-2147483648 : Int) ≤ be2.toInt ∧ be2.toInt ≤ 2147483647) ∧ ∃ va2 : Int32, ((-2147483648 : Int) ≤ va2.toInt ∧ va2.toInt ≤ 2147483647) ∧ ∃ vi2 : Nat, (vi2 < 19) ∧ (fp2.toInt = FT fb tl.toInt.toNat ∧ u.1 w = some (.inr (6, [.int td2, .int gd2, .int bc2, .int py2, .int rf2, .int lt2, .int 0, .int fp2, .ref cs, .ref bs, .ref tp])) ∧ u.1 rd = some (.inr (3, [.ref nb, .ref (zv z vi2), .int no2, .int wi2, .ref tp, .int le2, .int ki2, .int pl2, .int be2, .int va2]))) ∧ u.2 = T ∧ (∀ q, FrA T q → q ≠ w → q ≠ rd → u.1 q = M q)) (mB D kA M T sz) (mA M T sz)) ([.ref ro, .int an] : List Value).toArray s 0 0 (mA M T sz)) (F0 m 86 ls []) := by
        intro n
        induction n with
        | zero =>
          intro yq116_ yq117_ yq118_ yq119_ yq120_ yq121_ yq122_ yq123_ yq124_ yq125_ yq126_ yq127_ yq128_ yq129_ Hq_ lcq_ Mq130_ ls hme l_yq116_ g_yq116_ l_yq117_ g_yq117_ l_yq119_ g_yq119_ l_yq124_ g_yq124_ l_yq125_ g_yq125_ l_yq126_ g_yq126_ l_yq127_ g_yq127_ l_yq128_ g_yq128_ hv0_yq116_ hv1_yq116_ hv2_yq116_ hw0_yq116_ hc_ro hc_w hc_bs hc_rd hc_tp hF hH hl
          exfalso; omega
        | succ n ih =>
          intro yq116_ yq117_ yq118_ yq119_ yq120_ yq121_ yq122_ yq123_ yq124_ yq125_ yq126_ yq127_ yq128_ yq129_ Hq_ lcq_ Mq130_ ls hme l_yq116_ g_yq116_ l_yq117_ g_yq117_ l_yq119_ g_yq119_ l_yq124_ g_yq124_ l_yq125_ g_yq125_ l_yq126_ g_yq126_ l_yq127_ g_yq127_ l_yq128_ g_yq128_ hv0_yq116_ hv1_yq116_ hv2_yq116_ hw0_yq116_ hc_ro hc_w hc_bs hc_rd hc_tp hF hH hl
          refine lv_iload_n hx hb dX9_text_86 rfl (lv_at hl 0 rfl) ?_
          refine lv_sipush (v := 600) hx hb dX9_text_87 (by decide) ?_
          refine jic_ge (tgt := 133) hx hb dX9_text_90 (by decide) (fun cq131_ => ?_) (fun cq131_ => ?_)
          · skip
            have cq131_ : 600 ≤ yq116_.toInt := cq131_
            refine lv_iload_n hx hb dX9_text_133 rfl (lv_at hl 0 rfl) ?_
            exact ret_i hC hr hlk hK hH (⟨yq117_, ⟨by omega, by omega⟩, yq118_, iRg _, yq119_, ⟨by omega, by omega⟩, yq120_, iRg _, yq121_, iRg _, yq122_, iRg _, rq97_, iRg _, tl, iRg _, yq124_, ⟨by omega, by omega⟩, yq125_, ⟨by omega, by omega⟩, yq126_, iRg _, yq127_, iRg _, yq128_, iRg _, yq129_, iRg _, yq123_, by omega, ⟨hFP, hc_w, hc_rd⟩, rfl, hF⟩) (Nat.le_of_ble_eq_true rfl) (Nat.le_of_ble_eq_true rfl) dX9_text_134
          · skip
            have cq131_ : yq116_.toInt < 600 := cq131_
            refine lv_aload_n hx hb dX9_text_93 rfl (lv_at hl 2 rfl) ?_
            refine xg hC hK hH flX9_23 hc_ro rfl dX9_text_94 ?_
            refine goI hK hH (runV (As := []) (rest := []) hC hK hH (c_X4_atEnd hc_rd hn_rd hc_tp hn_tp ht_nb) mlX9_66 (rcvM hK hH hc_rd rfl) ⟨⟨Nat.le_of_ble_eq_true rfl, Nat.le_of_ble_eq_true rfl⟩, Nat.le_of_ble_eq_true rfl, Nat.le_of_ble_eq_true rfl⟩ rfl hl.1 rfl (Nat.le_of_ble_eq_true rfl) dX9_text_97) (fun rq134_ Mq132_ Tq133_ Hq_ lcq_ hP hz hH => ?_)
            try dsimp only at hP
            obtain ⟨(⟨cq135_, er_rq134_⟩ | ⟨cq136_, er_rq134_⟩), eT, eM⟩ := hP
            · skip
              have eT := eT.symm; subst eT
              have er_rq134_ := er_rq134_.symm; subst er_rq134_
              have eM := eM.symm; subst eM
              have cq135_ : yq126_.toInt = 0 := cq135_
              refine jif_ne (tgt := 133) hx hb dX9_text_100 (by decide) (fun cq137_ => ?_) (fun cq137_ => absurd cq137_ (by decide))
              refine lv_iload_n hx hb dX9_text_133 rfl (lv_at hl 0 rfl) ?_
              exact ret_i hC hr hlk hK hH (⟨yq117_, ⟨by omega, by omega⟩, yq118_, iRg _, yq119_, ⟨by omega, by omega⟩, yq120_, iRg _, yq121_, iRg _, yq122_, iRg _, rq97_, iRg _, tl, iRg _, yq124_, ⟨by omega, by omega⟩, yq125_, ⟨by omega, by omega⟩, yq126_, iRg _, yq127_, iRg _, yq128_, iRg _, yq129_, iRg _, yq123_, by omega, ⟨hFP, hc_w, hc_rd⟩, rfl, hF⟩) (Nat.le_of_ble_eq_true rfl) (Nat.le_of_ble_eq_true rfl) dX9_text_134
            · skip
              have eT := eT.symm; subst eT
              have er_rq134_ := er_rq134_.symm; subst er_rq134_
              have eM := eM.symm; subst eM
              have cq136_ : yq126_.toInt ≠ 0 := cq136_
              refine jif_ne (tgt := 133) hx hb dX9_text_100 (by decide) (fun cq138_ => absurd cq138_ (by decide)) (fun cq138_ => ?_)
              refine lv_aload_n hx hb dX9_text_103 rfl (lv_at hl 2 rfl) ?_
              refine xg hC hK hH flX9_23 hc_ro rfl dX9_text_104 ?_
              refine goI hK hH (runVB (As := []) (rest := []) hC hK hH hZ (c_X4_readLine hc_rd hn_rd hc_tp hn_tp ht_nb (by omega) (by omega) (by omega) (by omega) (by omega) (by omega) (by omega) (by omega) (by exact hw0_yq116_)) mlX9_70 (rcvM hK hH hc_rd rfl) ⟨⟨Nat.le_of_ble_eq_true rfl, Nat.le_of_ble_eq_true rfl⟩, Nat.le_of_ble_eq_true rfl, Nat.le_of_ble_eq_true rfl⟩ rfl hl.1 rfl (Nat.le_of_ble_eq_true rfl) dX9_text_107) (fun rq141_ Mq139_ Tq140_ Hq_ lcq_ hP hz hH => ?_)
              try dsimp only at hP
              obtain ⟨xq145_, ⟨l_xq145_, g_xq145_⟩, xq146_, ⟨l_xq146_, g_xq146_⟩, xq147_, ⟨l_xq147_, g_xq147_⟩, xq148_, ⟨l_xq148_, g_xq148_⟩, xq149_, ⟨l_xq149_, g_xq149_⟩, xq150_, ⟨l_xq150_, g_xq150_⟩, vq144_, h_vq144_, (⟨cq142_, er_rq141_, hx_rd⟩ | ⟨cq143_, er_rq141_, hx_rd⟩), eT, hfr⟩ := hP
              · skip
                have eT := eT.symm; subst eT
                have er_rq141_ := er_rq141_.symm; subst er_rq141_
                have hc_ro : Mq139_ ro = some (.inr (7, [.ref w, .ref im, .ref rd, .ref rc, .ref cu])) := (hfr ro (Or.inl hn_ro) n_ro_rd).trans hc_ro
                have hc_w : Mq139_ w = some (.inr (6, [.int yq117_, .int yq118_, .int yq119_, .int yq120_, .int yq121_, .int yq122_, .int 0, .int rq97_, .ref cs, .ref bs, .ref tp])) := (hfr w (Or.inl hn_w) n_w_rd).trans hc_w
                have hc_bs : Mq139_ bs = some (.inl (kA 5, 4, .inr (.inr (.inr (.inr g))))) := (hfr bs (Or.inr (Or.inl ht_bs)) n_bs_rd).trans hc_bs
                have hc_rd : Mq139_ rd = some (.inr (3, [.ref nb, .ref (zv z vq144_), .int xq149_, .int xq150_, .ref tp, .int tl, .int xq145_, .int xq146_, .int xq147_, .int xq148_])) := hx_rd
                have hc_tp : Mq139_ tp = some (.inl (kA 1, 600, .inl fb)) := (hfr tp (Or.inl hn_tp) n_tp_rd).trans hc_tp
                have hF : ∀ q, FrA T q → q ≠ w → q ≠ rd → Mq139_ q = M q := fun q hq h0 h1 => (hfr q (FrA.k hq)  h1).trans (hF q hq h0 h1)
                have cq142_ : xq146_.toInt ≤ xq147_.toInt ∧ xq147_.toInt ≤ tl.toInt ∧ Tk fb tl xq145_ xq146_ xq147_ ∧ lnF (nC fb) tl.toInt.toNat yq127_.toInt.toNat = (true, xq146_.toInt.toNat) := cq142_
                refine jif_eq (tgt := 133) hx hb dX9_text_110 (by decide) (fun cq151_ => absurd cq151_ (by decide)) (fun cq151_ => ?_)
                refine lv_aload_n hx hb dX9_text_113 rfl (lv_at hl 2 rfl) ?_
                refine xg hC hK hH flX9_12 hc_ro rfl dX9_text_114 ?_
                refine lv_aload_n hx hb dX9_text_117 rfl (lv_at hl 2 rfl) ?_
                refine goI hK hH (runVB (As := []) (rest := [.ref w]) hC hK hH hZ (c_X9_reasonOfLine hc_ro hn_ro hc_w hn_w hc_bs hc_rd hn_rd ht_cs ht_bs ht_nb (by omega) (by omega) (by decide) (by omega) (by omega) (by omega) hg) mlX9_73 (rcvM hK hH hc_ro rfl) ⟨⟨Nat.le_of_ble_eq_true rfl, Nat.le_of_ble_eq_true rfl⟩, Nat.le_of_ble_eq_true rfl, Nat.le_of_ble_eq_true rfl⟩ rfl hl.1 rfl (Nat.le_of_ble_eq_true rfl) dX9_text_118) (fun rq154_ Mq152_ Tq153_ Hq_ lcq_ hP hz hH => ?_)
                try dsimp only at hP
                obtain ⟨xq155_, ⟨l_xq155_, g_xq155_⟩, xq156_, ⟨l_xq156_, g_xq156_⟩, xq157_, ⟨l_xq157_, g_xq157_⟩, xq158_, ⟨l_xq158_, g_xq158_⟩, xq159_, ⟨l_xq159_, g_xq159_⟩, xq160_, ⟨l_xq160_, g_xq160_⟩, (hx_w), eT, hfr⟩ := hP
                have eT := eT.symm; subst eT
                have hc_ro : Mq152_ ro = some (.inr (7, [.ref w, .ref im, .ref rd, .ref rc, .ref cu])) := (hfr ro (Or.inl hn_ro) n_ro_w).trans hc_ro
                have hc_w : Mq152_ w = some (.inr (6, [.int xq155_, .int xq156_, .int xq157_, .int xq158_, .int xq159_, .int xq160_, .int 0, .int rq97_, .ref cs, .ref bs, .ref tp])) := hx_w
                have hc_bs : Mq152_ bs = some (.inl (kA 5, 4, .inr (.inr (.inr (.inr g))))) := (hfr bs (Or.inr ht_bs) n_bs_w).trans hc_bs
                have hc_rd : Mq152_ rd = some (.inr (3, [.ref nb, .ref (zv z vq144_), .int xq149_, .int xq150_, .ref tp, .int tl, .int xq145_, .int xq146_, .int xq147_, .int xq148_])) := (hfr rd (Or.inl hn_rd) n_rd_w).trans hc_rd
                have hc_tp : Mq152_ tp = some (.inl (kA 1, 600, .inl fb)) := (hfr tp (Or.inl hn_tp) n_tp_w).trans hc_tp
                have hF : ∀ q, FrA T q → q ≠ w → q ≠ rd → Mq152_ q = M q := fun q hq h0 h1 => (hfr q hq  h0).trans (hF q hq h0 h1)
                refine goI hK hH (runV (As := [.int rq154_]) (rest := []) hC hK hH (c_X8_note hc_w hn_w hc_bs ht_cs ht_bs (by omega) (by omega) (by decide) hg) mlX9_76 (rcvM hK hH hc_w rfl) ⟨⟨Nat.le_of_ble_eq_true rfl, Nat.le_of_ble_eq_true rfl⟩, Nat.le_of_ble_eq_true rfl, Nat.le_of_ble_eq_true rfl⟩ rfl hl.1 rfl (Nat.le_of_ble_eq_true rfl) dX9_text_121) (fun rq163_ Mq161_ Tq162_ Hq_ lcq_ hP hz hH => ?_)
                try dsimp only at hP
                obtain ⟨xq164_, ⟨l_xq164_, g_xq164_⟩, (⟨er_rq163_, hx_w⟩), eT, hfr⟩ := hP
                have eT := eT.symm; subst eT
                have er_rq163_ := er_rq163_.symm; subst er_rq163_
                have hc_ro : Mq161_ ro = some (.inr (7, [.ref w, .ref im, .ref rd, .ref rc, .ref cu])) := (hfr ro (Or.inl hn_ro) n_ro_w).trans hc_ro
                have hc_w : Mq161_ w = some (.inr (6, [.int xq155_, .int xq156_, .int xq157_, .int xq158_, .int xq164_, .int rq154_, .int 0, .int rq97_, .ref cs, .ref bs, .ref tp])) := hx_w
                have hc_bs : Mq161_ bs = some (.inl (kA 5, 4, .inr (.inr (.inr (.inr g))))) := (hfr bs (Or.inr (Or.inl ht_bs)) n_bs_w).trans hc_bs
                have hc_rd : Mq161_ rd = some (.inr (3, [.ref nb, .ref (zv z vq144_), .int xq149_, .int xq150_, .ref tp, .int tl, .int xq145_, .int xq146_, .int xq147_, .int xq148_])) := (hfr rd (Or.inl hn_rd) n_rd_w).trans hc_rd
                have hc_tp : Mq161_ tp = some (.inl (kA 1, 600, .inl fb)) := (hfr tp (Or.inl hn_tp) n_tp_w).trans hc_tp
                have hF : ∀ q, FrA T q → q ≠ w → q ≠ rd → Mq161_ q = M q := fun q hq h0 h1 => (hfr q (FrA.k hq)  h0).trans (hF q hq h0 h1)
                refine jif_ne (tgt := 133) hx hb dX9_text_124 (by decide) (fun cq165_ => ?_) (fun cq165_ => ?_)
                · skip
                  have cq165_ : rq154_.toInt ≠ 0 := cq165_
                  refine lv_iload_n hx hb dX9_text_133 rfl (lv_at hl 0 rfl) ?_
                  exact ret_i hC hr hlk hK hH (⟨xq155_, ⟨by omega, by omega⟩, xq156_, iRg _, xq157_, ⟨by omega, by omega⟩, xq158_, iRg _, xq164_, iRg _, rq154_, iRg _, rq97_, iRg _, tl, iRg _, xq149_, ⟨by omega, by omega⟩, xq150_, ⟨by omega, by omega⟩, xq145_, iRg _, xq146_, iRg _, xq147_, iRg _, xq148_, iRg _, vq144_, by omega, ⟨hFP, hc_w, hc_rd⟩, rfl, hF⟩) (Nat.le_of_ble_eq_true rfl) (Nat.le_of_ble_eq_true rfl) dX9_text_134
                · skip
                  have cq165_ : rq154_.toInt = 0 := cq165_
                  obtain ⟨zq166_, e_zq166_⟩ : ∃ y : Int32, y = yq116_ + 1 := ⟨_, rfl⟩
                  refine lv_iinc (v := zq166_) (lv' := [(3, .int zq166_), (2, .int tl), (0, .ref ro), (1, .int an)]) hx hb dX9_text_127 hl (k := 0) rfl (by rw [e_zq166_]; rfl) (by decide) rfl (fun ls hl => ?_)
                  have h_zq166_ : zq166_.toInt = yq116_.toInt + 1 := by rw [e_zq166_, iAdd (by have : (1 : Int32).toInt = 1 := rfl; omega) (by have : (1 : Int32).toInt = 1 := rfl; omega)]; rfl
                  refine lv_goto (tgt := 86) hx hb dX9_text_130 (by decide) ?_
                  exact ih zq166_ xq155_ xq156_ xq157_ xq158_ xq164_ rq154_ vq144_ xq149_ xq150_ xq145_ xq146_ xq147_ xq148_ _ _ _ ls (by have := iRg zq166_; have := iRg xq155_; have := iRg xq156_; have := iRg xq157_; have := iRg xq158_; have := iRg xq164_; have := iRg rq154_; have := iRg xq149_; have := iRg xq150_; have := iRg xq145_; have := iRg xq146_; have := iRg xq147_; have := iRg xq148_; omega) (by have := iRg zq166_; have := iRg xq155_; have := iRg xq156_; have := iRg xq157_; have := iRg xq158_; have := iRg xq164_; have := iRg rq154_; have := iRg xq149_; have := iRg xq150_; have := iRg xq145_; have := iRg xq146_; have := iRg xq147_; have := iRg xq148_; omega) (by have := iRg zq166_; have := iRg xq155_; have := iRg xq156_; have := iRg xq157_; have := iRg xq158_; have := iRg xq164_; have := iRg rq154_; have := iRg xq149_; have := iRg xq150_; have := iRg xq145_; have := iRg xq146_; have := iRg xq147_; have := iRg xq148_; omega) (by have := iRg zq166_; have := iRg xq155_; have := iRg xq156_; have := iRg xq157_; have := iRg xq158_; have := iRg xq164_; have := iRg rq154_; have := iRg xq149_; have := iRg xq150_; have := iRg xq145_; have := iRg xq146_; have := iRg xq147_; have := iRg xq148_; omega) (by have := iRg zq166_; have := iRg xq155_; have := iRg xq156_; have := iRg xq157_; have := iRg xq158_; have := iRg xq164_; have := iRg rq154_; have := iRg xq149_; have := iRg xq150_; have := iRg xq145_; have := iRg xq146_; have := iRg xq147_; have := iRg xq148_; omega) (by have := iRg zq166_; have := iRg xq155_; have := iRg xq156_; have := iRg xq157_; have := iRg xq158_; have := iRg xq164_; have := iRg rq154_; have := iRg xq149_; have := iRg xq150_; have := iRg xq145_; have := iRg xq146_; have := iRg xq147_; have := iRg xq148_; omega) (by have := iRg zq166_; have := iRg xq155_; have := iRg xq156_; have := iRg xq157_; have := iRg xq158_; have := iRg xq164_; have := iRg rq154_; have := iRg xq149_; have := iRg xq150_; have := iRg xq145_; have := iRg xq146_; have := iRg xq147_; have := iRg xq148_; omega) (by have := iRg zq166_; have := iRg xq155_; have := iRg xq156_; have := iRg xq157_; have := iRg xq158_; have := iRg xq164_; have := iRg rq154_; have := iRg xq149_; have := iRg xq150_; have := iRg xq145_; have := iRg xq146_; have := iRg xq147_; have := iRg xq148_; omega) (by have := iRg zq166_; have := iRg xq155_; have := iRg xq156_; have := iRg xq157_; have := iRg xq158_; have := iRg xq164_; have := iRg rq154_; have := iRg xq149_; have := iRg xq150_; have := iRg xq145_; have := iRg xq146_; have := iRg xq147_; have := iRg xq148_; omega) (by have := iRg zq166_; have := iRg xq155_; have := iRg xq156_; have := iRg xq157_; have := iRg xq158_; have := iRg xq164_; have := iRg rq154_; have := iRg xq149_; have := iRg xq150_; have := iRg xq145_; have := iRg xq146_; have := iRg xq147_; have := iRg xq148_; omega) (by have := iRg zq166_; have := iRg xq155_; have := iRg xq156_; have := iRg xq157_; have := iRg xq158_; have := iRg xq164_; have := iRg rq154_; have := iRg xq149_; have := iRg xq150_; have := iRg xq145_; have := iRg xq146_; have := iRg xq147_; have := iRg xq148_; omega) (by have := iRg zq166_; have := iRg xq155_; have := iRg xq156_; have := iRg xq157_; have := iRg xq158_; have := iRg xq164_; have := iRg rq154_; have := iRg xq149_; have := iRg xq150_; have := iRg xq145_; have := iRg xq146_; have := iRg xq147_; have := iRg xq148_; omega) (by have := iRg zq166_; have := iRg xq155_; have := iRg xq156_; have := iRg xq157_; have := iRg xq158_; have := iRg xq164_; have := iRg rq154_; have := iRg xq149_; have := iRg xq150_; have := iRg xq145_; have := iRg xq146_; have := iRg xq147_; have := iRg xq148_; omega) (by have := iRg zq166_; have := iRg xq155_; have := iRg xq156_; have := iRg xq157_; have := iRg xq158_; have := iRg xq164_; have := iRg rq154_; have := iRg xq149_; have := iRg xq150_; have := iRg xq145_; have := iRg xq146_; have := iRg xq147_; have := iRg xq148_; omega) (by have := iRg zq166_; have := iRg xq155_; have := iRg xq156_; have := iRg xq157_; have := iRg xq158_; have := iRg xq164_; have := iRg rq154_; have := iRg xq149_; have := iRg xq150_; have := iRg xq145_; have := iRg xq146_; have := iRg xq147_; have := iRg xq148_; omega) (by have := iRg zq166_; have := iRg xq155_; have := iRg xq156_; have := iRg xq157_; have := iRg xq158_; have := iRg xq164_; have := iRg rq154_; have := iRg xq149_; have := iRg xq150_; have := iRg xq145_; have := iRg xq146_; have := iRg xq147_; have := iRg xq148_; omega) (by have := iRg zq166_; have := iRg xq155_; have := iRg xq156_; have := iRg xq157_; have := iRg xq158_; have := iRg xq164_; have := iRg rq154_; have := iRg xq149_; have := iRg xq150_; have := iRg xq145_; have := iRg xq146_; have := iRg xq147_; have := iRg xq148_; omega) (by have := iRg zq166_; have := iRg xq155_; have := iRg xq156_; have := iRg xq157_; have := iRg xq158_; have := iRg xq164_; have := iRg rq154_; have := iRg xq149_; have := iRg xq150_; have := iRg xq145_; have := iRg xq146_; have := iRg xq147_; have := iRg xq148_; omega) (by have := iRg zq166_; have := iRg xq155_; have := iRg xq156_; have := iRg xq157_; have := iRg xq158_; have := iRg xq164_; have := iRg rq154_; have := iRg xq149_; have := iRg xq150_; have := iRg xq145_; have := iRg xq146_; have := iRg xq147_; have := iRg xq148_; omega) (by have := iRg zq166_; have := iRg xq155_; have := iRg xq156_; have := iRg xq157_; have := iRg xq158_; have := iRg xq164_; have := iRg rq154_; have := iRg xq149_; have := iRg xq150_; have := iRg xq145_; have := iRg xq146_; have := iRg xq147_; have := iRg xq148_; omega) (cq142_.2.2.1) hc_ro hc_w hc_bs hc_rd hc_tp hF hH (lv_sub hl [0, 1, 2, 3] rfl)
              · skip
                have eT := eT.symm; subst eT
                have er_rq141_ := er_rq141_.symm; subst er_rq141_
                have hc_ro : Mq139_ ro = some (.inr (7, [.ref w, .ref im, .ref rd, .ref rc, .ref cu])) := (hfr ro (Or.inl hn_ro) n_ro_rd).trans hc_ro
                have hc_w : Mq139_ w = some (.inr (6, [.int yq117_, .int yq118_, .int yq119_, .int yq120_, .int yq121_, .int yq122_, .int 0, .int rq97_, .ref cs, .ref bs, .ref tp])) := (hfr w (Or.inl hn_w) n_w_rd).trans hc_w
                have hc_bs : Mq139_ bs = some (.inl (kA 5, 4, .inr (.inr (.inr (.inr g))))) := (hfr bs (Or.inr (Or.inl ht_bs)) n_bs_rd).trans hc_bs
                have hc_rd : Mq139_ rd = some (.inr (3, [.ref nb, .ref (zv z vq144_), .int xq149_, .int xq150_, .ref tp, .int tl, .int xq145_, .int xq146_, .int xq147_, .int xq148_])) := hx_rd
                have hc_tp : Mq139_ tp = some (.inl (kA 1, 600, .inl fb)) := (hfr tp (Or.inl hn_tp) n_tp_rd).trans hc_tp
                have hF : ∀ q, FrA T q → q ≠ w → q ≠ rd → Mq139_ q = M q := fun q hq h0 h1 => (hfr q (FrA.k hq)  h1).trans (hF q hq h0 h1)
                have cq143_ : xq146_.toInt ≤ xq147_.toInt ∧ xq147_.toInt ≤ tl.toInt ∧ Tk fb tl xq145_ xq146_ xq147_ ∧ lnF (nC fb) tl.toInt.toNat yq127_.toInt.toNat = (false, xq146_.toInt.toNat) := cq143_
                refine jif_eq (tgt := 133) hx hb dX9_text_110 (by decide) (fun cq167_ => ?_) (fun cq167_ => absurd cq167_ (by decide))
                refine lv_iload_n hx hb dX9_text_133 rfl (lv_at hl 0 rfl) ?_
                exact ret_i hC hr hlk hK hH (⟨yq117_, ⟨by omega, by omega⟩, yq118_, iRg _, yq119_, ⟨by omega, by omega⟩, yq120_, iRg _, yq121_, iRg _, yq122_, iRg _, rq97_, iRg _, tl, iRg _, xq149_, ⟨by omega, by omega⟩, xq150_, ⟨by omega, by omega⟩, xq145_, iRg _, xq146_, iRg _, xq147_, iRg _, xq148_, iRg _, vq144_, by omega, ⟨hFP, hc_w, hc_rd⟩, rfl, hF⟩) (Nat.le_of_ble_eq_true rfl) (Nat.le_of_ble_eq_true rfl) dX9_text_134
      exact loop (Int.toNat (601 - 0)) 0 0 2 0 0 0 0 vq99_ xq104_ xq105_ xq112_ xq113_ xq114_ xq115_ _ _ _ ls (by have : (0 : Int32).toInt = 0 := rfl; have : (0 : Int32).toInt = 0 := rfl; have : (2 : Int32).toInt = 2 := rfl; have : (0 : Int32).toInt = 0 := rfl; have : (0 : Int32).toInt = 0 := rfl; have : (0 : Int32).toInt = 0 := rfl; have : (0 : Int32).toInt = 0 := rfl; have := iRg xq104_; have := iRg xq105_; have := iRg xq112_; have := iRg xq113_; have := iRg xq114_; have := iRg xq115_; omega) (by have : (0 : Int32).toInt = 0 := rfl; have : (0 : Int32).toInt = 0 := rfl; have : (2 : Int32).toInt = 2 := rfl; have : (0 : Int32).toInt = 0 := rfl; have : (0 : Int32).toInt = 0 := rfl; have : (0 : Int32).toInt = 0 := rfl; have : (0 : Int32).toInt = 0 := rfl; have := iRg xq104_; have := iRg xq105_; have := iRg xq112_; have := iRg xq113_; have := iRg xq114_; have := iRg xq115_; omega) (by have : (0 : Int32).toInt = 0 := rfl; have : (0 : Int32).toInt = 0 := rfl; have : (2 : Int32).toInt = 2 := rfl; have : (0 : Int32).toInt = 0 := rfl; have : (0 : Int32).toInt = 0 := rfl; have : (0 : Int32).toInt = 0 := rfl; have : (0 : Int32).toInt = 0 := rfl; have := iRg xq104_; have := iRg xq105_; have := iRg xq112_; have := iRg xq113_; have := iRg xq114_; have := iRg xq115_; omega) (by have : (0 : Int32).toInt = 0 := rfl; have : (0 : Int32).toInt = 0 := rfl; have : (2 : Int32).toInt = 2 := rfl; have : (0 : Int32).toInt = 0 := rfl; have : (0 : Int32).toInt = 0 := rfl; have : (0 : Int32).toInt = 0 := rfl; have : (0 : Int32).toInt = 0 := rfl; have := iRg xq104_; have := iRg xq105_; have := iRg xq112_; have := iRg xq113_; have := iRg xq114_; have := iRg xq115_; omega) (by have : (0 : Int32).toInt = 0 := rfl; have : (0 : Int32).toInt = 0 := rfl; have : (2 : Int32).toInt = 2 := rfl; have : (0 : Int32).toInt = 0 := rfl; have : (0 : Int32).toInt = 0 := rfl; have : (0 : Int32).toInt = 0 := rfl; have : (0 : Int32).toInt = 0 := rfl; have := iRg xq104_; have := iRg xq105_; have := iRg xq112_; have := iRg xq113_; have := iRg xq114_; have := iRg xq115_; omega) (by have : (0 : Int32).toInt = 0 := rfl; have : (0 : Int32).toInt = 0 := rfl; have : (2 : Int32).toInt = 2 := rfl; have : (0 : Int32).toInt = 0 := rfl; have : (0 : Int32).toInt = 0 := rfl; have : (0 : Int32).toInt = 0 := rfl; have : (0 : Int32).toInt = 0 := rfl; have := iRg xq104_; have := iRg xq105_; have := iRg xq112_; have := iRg xq113_; have := iRg xq114_; have := iRg xq115_; omega) (by have : (0 : Int32).toInt = 0 := rfl; have : (0 : Int32).toInt = 0 := rfl; have : (2 : Int32).toInt = 2 := rfl; have : (0 : Int32).toInt = 0 := rfl; have : (0 : Int32).toInt = 0 := rfl; have : (0 : Int32).toInt = 0 := rfl; have : (0 : Int32).toInt = 0 := rfl; have := iRg xq104_; have := iRg xq105_; have := iRg xq112_; have := iRg xq113_; have := iRg xq114_; have := iRg xq115_; omega) (by have : (0 : Int32).toInt = 0 := rfl; have : (0 : Int32).toInt = 0 := rfl; have : (2 : Int32).toInt = 2 := rfl; have : (0 : Int32).toInt = 0 := rfl; have : (0 : Int32).toInt = 0 := rfl; have : (0 : Int32).toInt = 0 := rfl; have : (0 : Int32).toInt = 0 := rfl; have := iRg xq104_; have := iRg xq105_; have := iRg xq112_; have := iRg xq113_; have := iRg xq114_; have := iRg xq115_; omega) (by have : (0 : Int32).toInt = 0 := rfl; have : (0 : Int32).toInt = 0 := rfl; have : (2 : Int32).toInt = 2 := rfl; have : (0 : Int32).toInt = 0 := rfl; have : (0 : Int32).toInt = 0 := rfl; have : (0 : Int32).toInt = 0 := rfl; have : (0 : Int32).toInt = 0 := rfl; have := iRg xq104_; have := iRg xq105_; have := iRg xq112_; have := iRg xq113_; have := iRg xq114_; have := iRg xq115_; omega) (by have : (0 : Int32).toInt = 0 := rfl; have : (0 : Int32).toInt = 0 := rfl; have : (2 : Int32).toInt = 2 := rfl; have : (0 : Int32).toInt = 0 := rfl; have : (0 : Int32).toInt = 0 := rfl; have : (0 : Int32).toInt = 0 := rfl; have : (0 : Int32).toInt = 0 := rfl; have := iRg xq104_; have := iRg xq105_; have := iRg xq112_; have := iRg xq113_; have := iRg xq114_; have := iRg xq115_; omega) (by have : (0 : Int32).toInt = 0 := rfl; have : (0 : Int32).toInt = 0 := rfl; have : (2 : Int32).toInt = 2 := rfl; have : (0 : Int32).toInt = 0 := rfl; have : (0 : Int32).toInt = 0 := rfl; have : (0 : Int32).toInt = 0 := rfl; have : (0 : Int32).toInt = 0 := rfl; have := iRg xq104_; have := iRg xq105_; have := iRg xq112_; have := iRg xq113_; have := iRg xq114_; have := iRg xq115_; omega) (by have : (0 : Int32).toInt = 0 := rfl; have : (0 : Int32).toInt = 0 := rfl; have : (2 : Int32).toInt = 2 := rfl; have : (0 : Int32).toInt = 0 := rfl; have : (0 : Int32).toInt = 0 := rfl; have : (0 : Int32).toInt = 0 := rfl; have : (0 : Int32).toInt = 0 := rfl; have := iRg xq104_; have := iRg xq105_; have := iRg xq112_; have := iRg xq113_; have := iRg xq114_; have := iRg xq115_; omega) (by have : (0 : Int32).toInt = 0 := rfl; have : (0 : Int32).toInt = 0 := rfl; have : (2 : Int32).toInt = 2 := rfl; have : (0 : Int32).toInt = 0 := rfl; have : (0 : Int32).toInt = 0 := rfl; have : (0 : Int32).toInt = 0 := rfl; have : (0 : Int32).toInt = 0 := rfl; have := iRg xq104_; have := iRg xq105_; have := iRg xq112_; have := iRg xq113_; have := iRg xq114_; have := iRg xq115_; omega) (by have : (0 : Int32).toInt = 0 := rfl; have : (0 : Int32).toInt = 0 := rfl; have : (2 : Int32).toInt = 2 := rfl; have : (0 : Int32).toInt = 0 := rfl; have : (0 : Int32).toInt = 0 := rfl; have : (0 : Int32).toInt = 0 := rfl; have : (0 : Int32).toInt = 0 := rfl; have := iRg xq104_; have := iRg xq105_; have := iRg xq112_; have := iRg xq113_; have := iRg xq114_; have := iRg xq115_; omega) (by have : (0 : Int32).toInt = 0 := rfl; have : (0 : Int32).toInt = 0 := rfl; have : (2 : Int32).toInt = 2 := rfl; have : (0 : Int32).toInt = 0 := rfl; have : (0 : Int32).toInt = 0 := rfl; have : (0 : Int32).toInt = 0 := rfl; have : (0 : Int32).toInt = 0 := rfl; have := iRg xq104_; have := iRg xq105_; have := iRg xq112_; have := iRg xq113_; have := iRg xq114_; have := iRg xq115_; omega) (by have : (0 : Int32).toInt = 0 := rfl; have : (0 : Int32).toInt = 0 := rfl; have : (2 : Int32).toInt = 2 := rfl; have : (0 : Int32).toInt = 0 := rfl; have : (0 : Int32).toInt = 0 := rfl; have : (0 : Int32).toInt = 0 := rfl; have : (0 : Int32).toInt = 0 := rfl; have := iRg xq104_; have := iRg xq105_; have := iRg xq112_; have := iRg xq113_; have := iRg xq114_; have := iRg xq115_; omega) (by have : (0 : Int32).toInt = 0 := rfl; have : (0 : Int32).toInt = 0 := rfl; have : (2 : Int32).toInt = 2 := rfl; have : (0 : Int32).toInt = 0 := rfl; have : (0 : Int32).toInt = 0 := rfl; have : (0 : Int32).toInt = 0 := rfl; have : (0 : Int32).toInt = 0 := rfl; have := iRg xq104_; have := iRg xq105_; have := iRg xq112_; have := iRg xq113_; have := iRg xq114_; have := iRg xq115_; omega) (by have : (0 : Int32).toInt = 0 := rfl; have : (0 : Int32).toInt = 0 := rfl; have : (2 : Int32).toInt = 2 := rfl; have : (0 : Int32).toInt = 0 := rfl; have : (0 : Int32).toInt = 0 := rfl; have : (0 : Int32).toInt = 0 := rfl; have : (0 : Int32).toInt = 0 := rfl; have := iRg xq104_; have := iRg xq105_; have := iRg xq112_; have := iRg xq113_; have := iRg xq114_; have := iRg xq115_; omega) (by have : (0 : Int32).toInt = 0 := rfl; have : (0 : Int32).toInt = 0 := rfl; have : (2 : Int32).toInt = 2 := rfl; have : (0 : Int32).toInt = 0 := rfl; have : (0 : Int32).toInt = 0 := rfl; have : (0 : Int32).toInt = 0 := rfl; have : (0 : Int32).toInt = 0 := rfl; have := iRg xq104_; have := iRg xq105_; have := iRg xq112_; have := iRg xq113_; have := iRg xq114_; have := iRg xq115_; omega) (by have : (0 : Int32).toInt = 0 := rfl; have : (0 : Int32).toInt = 0 := rfl; have : (2 : Int32).toInt = 2 := rfl; have : (0 : Int32).toInt = 0 := rfl; have : (0 : Int32).toInt = 0 := rfl; have : (0 : Int32).toInt = 0 := rfl; have : (0 : Int32).toInt = 0 := rfl; have := iRg xq104_; have := iRg xq105_; have := iRg xq112_; have := iRg xq113_; have := iRg xq114_; have := iRg xq115_; omega) (cq111_.2.2.1) hc_ro hc_w hc_bs hc_rd hc_tp hF hH hl
    · skip
      have cq107_ : rq97_.toInt ≠ (-1) := cq107_
      refine lv_iconst (v := -1) hx hb dX9_text_67 (by decide) ?_
      exact ret_i hC hr hlk hK hH (⟨0, ⟨by decide, by decide⟩, 2, iRg _, 0, ⟨by decide, by decide⟩, 0, iRg _, 0, iRg _, 0, iRg _, rq97_, iRg _, tl, iRg _, xq104_, ⟨by omega, by omega⟩, xq105_, ⟨by omega, by omega⟩, xq100_, iRg _, xq101_, iRg _, xq102_, iRg _, xq103_, iRg _, vq99_, by omega, ⟨hFP, hc_w, hc_rd⟩, rfl, hF⟩) (Nat.le_of_ble_eq_true rfl) (Nat.le_of_ble_eq_true rfl) dX9_text_68
