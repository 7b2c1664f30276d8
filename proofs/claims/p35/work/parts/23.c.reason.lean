theorem mlu_360 : MLU RX9 360 RX7 (⟨RX7, "ordinal", "()I"⟩ : MethodName) yJx29ce0_ordinal_8abf5 cJx29ce0_ordinal_8abf5 1 (some .int) 0 := ⟨TB_t 516 (by decide +kernel) rfl, TB_t 517 (by decide +kernel) rfl, TB_t 519 (by decide +kernel) rfl, TB_t 520 (by decide +kernel) rfl, TB_t 7 (by decide +kernel) rfl, TB_t 521 (by decide +kernel) rfl, rfl, by decide, by decide, by decide +kernel⟩
set_option maxHeartbeats 4000000 in
set_option maxRecDepth 100000 in
theorem c_Jx29ce0_ordinal_8abf5 {z : zD} {l : Launch} {D : va_G} {kA : Nat → ClassId} {M : mM} {T : mT} {sz : Nat} {i : Nat} (hi : i < 19) : mCiB z l yJx29ce0_ordinal_8abf5 cJx29ce0_ordinal_8abf5 1 (some .int) 0 0 0 D kA M T sz [.ref (zv z i)] (fun r u => (r.toInt = (i : Int) ∧ (((0 : Int) ≤ r.toInt ∧ r.toInt ≤ 18))) ∧ u.2 = T ∧ u.1 = M) := by
  unfold mCiB
  refine start_WB (by decide) (Nat.le_of_ble_eq_true rfl) ?_
  intro p e s m below meth c ls hC hr hlk hnm hK hH hsz hZ hl
  have hx := hC.1
  have hb := hC.2.1
  have hl : lv_has ls 1 [(0, .ref (zv z i))] := hl
  refine lv_aload_n hx hb dJx29ce0_ordinal_8abf5_0 rfl (lv_at hl 0 rfl) ?_
  refine vk_getf hx hb (hZ.1.2.2.1 i (by omega)).2.2.2.2.2 hH.2.1 hC.2.2.2.1 (hC.2.2.2.2 _ wfJx29ce0_7) (fun _ h => h) dJx29ce0_ordinal_8abf5_1 ?_
  refine lv_topi (fun xq1_ e_xq1_ => ?_)
  have h_xq1_ : xq1_.toInt = (i : Int) := by rw [e_xq1_]; exact nI_toInt (by omega)
  exact ret_i hC hr hlk hK hH (⟨⟨by omega, ⟨by omega, by omega⟩⟩, rfl, rfl⟩) (Nat.le_of_ble_eq_true rfl) (Nat.le_of_ble_eq_true rfl) dJx29ce0_ordinal_8abf5_4
set_option maxHeartbeats 4000000 in
set_option maxRecDepth 100000 in
theorem c_X9_reasonOfLine {z : zD} {l : Launch} {D : va_G} {kA : Nat → ClassId} {M : mM} {T : mT} {sz : Nat} {ro im rc cu : Nat} {w cs bs tp : Nat} {td gd bc py rf lt tl fp : Int32} {g : Nat → Option Nat}{rd nb by_ vi : Nat} {no wi le ki pl be va : Int32} (hc_ro : M ro = some (.inr (7, [.ref w, .ref im, .ref rd, .ref rc, .ref cu]))) (hn_ro : T ro = none) (hc_w : M w = some (.inr (6, [.int td, .int gd, .int bc, .int py, .int rf, .int lt, .int tl, .int fp, .ref cs, .ref bs, .ref tp]))) (hn_w : T w = none) (hc_bs : M bs = some (.inl (kA 5, 4, .inr (.inr (.inr (.inr g)))))) (hc_rd : M rd = some (.inr (3, [.ref nb, .ref (zv z vi), .int no, .int wi, .ref by_, .int le, .int ki, .int pl, .int be, .int va]))) (hn_rd : T rd = none) (ht_cs : T cs = some 3) (ht_bs : T bs = some 6) (ht_tp : T tp = some 7) (ht_nb : T nb = some 12) (htd : 0 ≤ td.toInt ∧ td.toInt ≤ 999) (hbc : 0 ≤ bc.toInt ∧ bc.toInt ≤ 4) (htl : 0 ≤ tl.toInt ∧ tl.toInt ≤ 600) (hvi : vi < 19) (hno : 0 ≤ no.toInt ∧ no.toInt ≤ 1) (hwi : 0 ≤ wi.toInt ∧ wi.toInt ≤ 1) (hg : ∀ j, j < 4 → ∃ q, g j = some q ∧ T q = some 2) : mCiB z l yX9_reasonOfLine cX9_reasonOfLine 3 (some .int) 5 0 0 D kA M T sz [.ref ro] (fun r u => ∃ td2 : Int32, ((0 : Int) ≤ td2.toInt ∧ td2.toInt ≤ 999) ∧ ∃ gd2 : Int32, ((-2147483648 : Int) ≤ gd2.toInt ∧ gd2.toInt ≤ 2147483647) ∧ ∃ bc2 : Int32, ((0 : Int) ≤ bc2.toInt ∧ bc2.toInt ≤ 4) ∧ ∃ py2 : Int32, ((-2147483648 : Int) ≤ py2.toInt ∧ py2.toInt ≤ 2147483647) ∧ ∃ rf2 : Int32, ((-2147483648 : Int) ≤ rf2.toInt ∧ rf2.toInt ≤ 2147483647) ∧ ∃ lt2 : Int32, ((-2147483648 : Int) ≤ lt2.toInt ∧ lt2.toInt ≤ 2147483647) ∧ (u.1 w = some (.inr (6, [.int td2, .int gd2, .int bc2, .int py2, .int rf2, .int lt2, .int tl, .int fp, .ref cs, .ref bs, .ref tp]))) ∧ u.2 = T ∧ (∀ q, FrA T q → q ≠ w → u.1 q = M q)) := by
  unfold mCiB
  refine start_WB (by decide) (Nat.le_of_ble_eq_true rfl) ?_
  intro p e s m below meth c ls hC hr hlk hnm hK hH hsz hZ hl
  have hx := hC.1
  have hb := hC.2.1
  have hl : lv_has ls 3 [(0, .ref ro)] := hl
  have hF : ∀ q, FrA T q → q ≠ w → M q = M q := fun q _ _ => rfl
  have n_ro_w : ro ≠ w := neM hc_ro hc_w (by simp)
  have n_ro_bs : ro ≠ bs := neM hc_ro hc_bs (by simp)
  have n_ro_rd : ro ≠ rd := neM hc_ro hc_rd (by simp)
  have n_w_ro : w ≠ ro := neM hc_w hc_ro (by simp)
  have n_w_bs : w ≠ bs := neM hc_w hc_bs (by simp)
  have n_w_rd : w ≠ rd := neM hc_w hc_rd (by simp)
  have n_bs_ro : bs ≠ ro := neM hc_bs hc_ro (by simp)
  have n_bs_w : bs ≠ w := neM hc_bs hc_w (by simp)
  have n_bs_rd : bs ≠ rd := neM hc_bs hc_rd (by simp)
  have n_rd_ro : rd ≠ ro := neM hc_rd hc_ro (by simp)
  have n_rd_w : rd ≠ w := neM hc_rd hc_w (by simp)
  have n_rd_bs : rd ≠ bs := neM hc_rd hc_bs (by simp)
  refine lv_aload_n hx hb dX9_reasonOfLine_0 rfl (lv_at hl 0 rfl) ?_
  refine xg hC hK hH flX9_23 hc_ro rfl dX9_reasonOfLine_1 ?_
  refine xg hC hK hH flX9_347 hc_rd rfl dX9_reasonOfLine_4 ?_
  refine lv_astore_n (lv' := [(1, .ref nb), (0, .ref ro)]) hx hb dX9_reasonOfLine_7 rfl hl (by decide) rfl (fun ls hl => ?_)
  refine lv_aload_n hx hb dX9_reasonOfLine_8 rfl (lv_at hl 1 rfl) ?_
  refine xg hC hK hH flX9_23 hc_ro rfl dX9_reasonOfLine_9 ?_
  refine xg hC hK hH flX9_350 hc_rd rfl dX9_reasonOfLine_12 ?_
  refine lv_istore_n (lv' := [(2, .int no), (1, .ref nb), (0, .ref ro)]) hx hb dX9_reasonOfLine_15 rfl hl (by decide) rfl (fun ls hl => ?_)
  refine va_gets hx hb hZ.1.2.2.2.2.2.2.1.1 hH.2.1 hC.2.2.2.1 (hC.2.2.2.2 _ wsX9_351) (fun _ h => h) dX9_reasonOfLine_16 ?_
  refine lv_aload_n hx hb dX9_reasonOfLine_19 rfl (lv_at hl 2 rfl) ?_
  refine xg hC hK hH flX9_23 hc_ro rfl dX9_reasonOfLine_20 ?_
  refine xg hC hK hH flX9_356 hc_rd rfl dX9_reasonOfLine_23 ?_
  refine goI hK hH (runUB (As := []) (rest := [.ref (zS z)]) hC hK hH hZ (c_Jx29ce0_ordinal_8abf5 (i := vi) (by omega)) mlu_360 (rcvO (hZ.1.2.2.1 vi (by omega)).1 hH) ⟨⟨Nat.le_of_ble_eq_true rfl, Nat.le_of_ble_eq_true rfl⟩, Nat.le_of_ble_eq_true rfl, Nat.le_of_ble_eq_true rfl⟩ rfl hl.1 rfl (Nat.le_of_ble_eq_true rfl) dX9_reasonOfLine_26) (fun rq3_ Mq1_ Tq2_ Hq_ lcq_ hP hz hH => ?_)
  try dsimp only at hP
  obtain ⟨⟨ho_rq3_, l_rq3_, g_rq3_⟩, eT, eM⟩ := hP
  have eT := eT.symm; subst eT
  have eM := eM.symm; subst eM
  refine va_ti hx hb hZ.1.2.2.2.2.2.2.1.2 hH.2.1 (iIn (by omega) (by omega)) rfl dX9_reasonOfLine_29 ?_
  refine lv_topi (fun xq4_ e_xq4_ => ?_)
  rcases (show xq4_.toInt < 1 ∨ 19 < xq4_.toInt ∨ xq4_.toInt = 1 ∨ xq4_.toInt = 2 ∨ xq4_.toInt = 3 ∨ xq4_.toInt = 4 ∨ xq4_.toInt = 5 ∨ xq4_.toInt = 6 ∨ xq4_.toInt = 7 ∨ xq4_.toInt = 8 ∨ xq4_.toInt = 9 ∨ xq4_.toInt = 10 ∨ xq4_.toInt = 11 ∨ xq4_.toInt = 12 ∨ xq4_.toInt = 13 ∨ xq4_.toInt = 14 ∨ xq4_.toInt = 15 ∨ xq4_.toInt = 16 ∨ xq4_.toInt = 17 ∨ xq4_.toInt = 18 ∨ xq4_.toInt = 19 by omega) with cq5_ | cq5_ | cq5_ | cq5_ | cq5_ | cq5_ | cq5_ | cq5_ | cq5_ | cq5_ | cq5_ | cq5_ | cq5_ | cq5_ | cq5_ | cq5_ | cq5_ | cq5_ | cq5_ | cq5_ | cq5_
  · skip
    refine lv_tableOut (tgt := 458) hx hb dX9_reasonOfLine_30 (Or.inl cq5_) (by decide) ?_
    refine lv_bipush (v := 30) hx hb dX9_reasonOfLine_458 (by decide) ?_
    exact ret_i hC hr hlk hK hH (⟨td, ⟨by omega, by omega⟩, gd, iRg _, bc, ⟨by omega, by omega⟩, py, iRg _, rf, iRg _, lt, iRg _, hc_w, rfl, hF⟩) (Nat.le_of_ble_eq_true rfl) (Nat.le_of_ble_eq_true rfl) dX9_reasonOfLine_460
  · skip
    refine lv_tableOut (tgt := 458) hx hb dX9_reasonOfLine_30 (Or.inr cq5_) (by decide) ?_
    refine lv_bipush (v := 30) hx hb dX9_reasonOfLine_458 (by decide) ?_
    exact ret_i hC hr hlk hK hH (⟨td, ⟨by omega, by omega⟩, gd, iRg _, bc, ⟨by omega, by omega⟩, py, iRg _, rf, iRg _, lt, iRg _, hc_w, rfl, hF⟩) (Nat.le_of_ble_eq_true rfl) (Nat.le_of_ble_eq_true rfl) dX9_reasonOfLine_460
  · skip
    refine lv_tableIn (off := 90) (tgt := 120) hx hb dX9_reasonOfLine_30 (by omega) (by omega) (by rw [cq5_]; rfl) (by decide) ?_
    refine lv_aload_n hx hb dX9_reasonOfLine_120 rfl (lv_at hl 2 rfl) ?_
    refine xg hC hK hH flX9_12 hc_ro rfl dX9_reasonOfLine_121 ?_
    refine lv_aload_n hx hb dX9_reasonOfLine_124 rfl (lv_at hl 1 rfl) ?_
    refine lv_iconst (v := 0) hx hb dX9_reasonOfLine_125 (by decide) ?_
    refine tild hC hK hH ht_nb rfl (iIn (by decide) (by decide)) dX9_reasonOfLine_126 (fun xq6_ l_xq6_ g_xq6_ => ?_)
    refine goI hK hH (runV (As := [.int xq6_]) (rest := []) hC hK hH (c_X8_goOn hc_w hn_w hc_bs ht_cs ht_bs ht_tp (by omega) (by omega) (by omega) hg) mlX9_83 (rcvM hK hH hc_w rfl) ⟨⟨Nat.le_of_ble_eq_true rfl, Nat.le_of_ble_eq_true rfl⟩, Nat.le_of_ble_eq_true rfl, Nat.le_of_ble_eq_true rfl⟩ rfl hl.1 rfl (Nat.le_of_ble_eq_true rfl) dX9_reasonOfLine_127) (fun rq9_ Mq7_ Tq8_ Hq_ lcq_ hP hz hH => ?_)
    try dsimp only at hP
    obtain ⟨xq10_, ⟨l_xq10_, g_xq10_⟩, (hx_w), eT, hfr⟩ := hP
    have eT := eT.symm; subst eT
    have hc_ro : Mq7_ ro = some (.inr (7, [.ref w, .ref im, .ref rd, .ref rc, .ref cu])) := (hfr ro (Or.inl hn_ro) n_ro_w).trans hc_ro
    have hc_w : Mq7_ w = some (.inr (6, [.int xq10_, .int gd, .int bc, .int py, .int rf, .int lt, .int tl, .int fp, .ref cs, .ref bs, .ref tp])) := hx_w
    have hc_bs : Mq7_ bs = some (.inl (kA 5, 4, .inr (.inr (.inr (.inr g))))) := (hfr bs (Or.inr (Or.inl ht_bs)) n_bs_w).trans hc_bs
    have hc_rd : Mq7_ rd = some (.inr (3, [.ref nb, .ref (zv z vi), .int no, .int wi, .ref by_, .int le, .int ki, .int pl, .int be, .int va])) := (hfr rd (Or.inl hn_rd) n_rd_w).trans hc_rd
    have hF : ∀ q, FrA T q → q ≠ w → Mq7_ q = M q := fun q hq h0 => (hfr q (FrA.k hq)  h0).trans (hF q hq h0)
    exact ret_i hC hr hlk hK hH (⟨xq10_, ⟨by omega, by omega⟩, gd, iRg _, bc, ⟨by omega, by omega⟩, py, iRg _, rf, iRg _, lt, iRg _, hc_w, rfl, hF⟩) (Nat.le_of_ble_eq_true rfl) (Nat.le_of_ble_eq_true rfl) dX9_reasonOfLine_130
  · skip
    refine lv_tableIn (off := 101) (tgt := 131) hx hb dX9_reasonOfLine_30 (by omega) (by omega) (by rw [cq5_]; rfl) (by decide) ?_
    refine lv_aload_n hx hb dX9_reasonOfLine_131 rfl (lv_at hl 2 rfl) ?_
    refine xg hC hK hH flX9_12 hc_ro rfl dX9_reasonOfLine_132 ?_
    refine lv_aload_n hx hb dX9_reasonOfLine_135 rfl (lv_at hl 1 rfl) ?_
    refine lv_iconst (v := 0) hx hb dX9_reasonOfLine_136 (by decide) ?_
    refine tild hC hK hH ht_nb rfl (iIn (by decide) (by decide)) dX9_reasonOfLine_137 (fun xq11_ l_xq11_ g_xq11_ => ?_)
    refine lv_aload_n hx hb dX9_reasonOfLine_138 rfl (lv_at hl 1 rfl) ?_
    refine lv_iconst (v := 1) hx hb dX9_reasonOfLine_139 (by decide) ?_
    refine tild hC hK hH ht_nb rfl (iIn (by decide) (by decide)) dX9_reasonOfLine_140 (fun xq12_ l_xq12_ g_xq12_ => ?_)
    refine goI hK hH (runV (As := [.int xq11_, .int xq12_]) (rest := []) hC hK hH (c_X8_setCash hc_w hn_w hc_bs ht_cs ht_bs ht_tp (by omega) (by omega) (by omega) hg) mlX9_86 (rcvM hK hH hc_w rfl) ⟨⟨Nat.le_of_ble_eq_true rfl, Nat.le_of_ble_eq_true rfl⟩, Nat.le_of_ble_eq_true rfl, Nat.le_of_ble_eq_true rfl⟩ rfl hl.1 rfl (Nat.le_of_ble_eq_true rfl) dX9_reasonOfLine_141) (fun rq15_ Mq13_ Tq14_ Hq_ lcq_ hP hz hH => ?_)
    try dsimp only at hP
    obtain ⟨(⟨cq16_, er_rq15_⟩ | ⟨cq17_, er_rq15_⟩), eT, hfr⟩ := hP
    · skip
      have eT := eT.symm; subst eT
      have er_rq15_ := er_rq15_.symm; subst er_rq15_
      have hc_ro : Mq13_ ro = some (.inr (7, [.ref w, .ref im, .ref rd, .ref rc, .ref cu])) := (hfr ro (Or.inl hn_ro) ).trans hc_ro
      have hc_w : Mq13_ w = some (.inr (6, [.int td, .int gd, .int bc, .int py, .int rf, .int lt, .int tl, .int fp, .ref cs, .ref bs, .ref tp])) := (hfr w (Or.inl hn_w) ).trans hc_w
      have hc_bs : Mq13_ bs = some (.inl (kA 5, 4, .inr (.inr (.inr (.inr g))))) := (hfr bs (Or.inr (Or.inl ht_bs)) ).trans hc_bs
      have hc_rd : Mq13_ rd = some (.inr (3, [.ref nb, .ref (zv z vi), .int no, .int wi, .ref by_, .int le, .int ki, .int pl, .int be, .int va])) := (hfr rd (Or.inl hn_rd) ).trans hc_rd
      have hF : ∀ q, FrA T q → q ≠ w → Mq13_ q = M q := fun q hq h0 => (hfr q (FrA.k hq) ).trans (hF q hq h0)
      have cq16_ : 0 ≤ xq11_.toInt ∧ xq11_.toInt ≤ 7 ∧ 0 ≤ xq12_.toInt ∧ xq12_.toInt ≤ 9999 := cq16_
      exact ret_i hC hr hlk hK hH (⟨td, ⟨by omega, by omega⟩, gd, iRg _, bc, ⟨by omega, by omega⟩, py, iRg _, rf, iRg _, lt, iRg _, hc_w, rfl, hF⟩) (Nat.le_of_ble_eq_true rfl) (Nat.le_of_ble_eq_true rfl) dX9_reasonOfLine_144
    · skip
      have eT := eT.symm; subst eT
      have er_rq15_ := er_rq15_.symm; subst er_rq15_
      have hc_ro : Mq13_ ro = some (.inr (7, [.ref w, .ref im, .ref rd, .ref rc, .ref cu])) := (hfr ro (Or.inl hn_ro) ).trans hc_ro
      have hc_w : Mq13_ w = some (.inr (6, [.int td, .int gd, .int bc, .int py, .int rf, .int lt, .int tl, .int fp, .ref cs, .ref bs, .ref tp])) := (hfr w (Or.inl hn_w) ).trans hc_w
      have hc_bs : Mq13_ bs = some (.inl (kA 5, 4, .inr (.inr (.inr (.inr g))))) := (hfr bs (Or.inr (Or.inl ht_bs)) ).trans hc_bs
      have hc_rd : Mq13_ rd = some (.inr (3, [.ref nb, .ref (zv z vi), .int no, .int wi, .ref by_, .int le, .int ki, .int pl, .int be, .int va])) := (hfr rd (Or.inl hn_rd) ).trans hc_rd
      have hF : ∀ q, FrA T q → q ≠ w → Mq13_ q = M q := fun q hq h0 => (hfr q (FrA.k hq) ).trans (hF q hq h0)
      have cq17_ : ¬ (0 ≤ xq11_.toInt ∧ xq11_.toInt ≤ 7 ∧ 0 ≤ xq12_.toInt ∧ xq12_.toInt ≤ 9999) := cq17_
      exact ret_i hC hr hlk hK hH (⟨td, ⟨by omega, by omega⟩, gd, iRg _, bc, ⟨by omega, by omega⟩, py, iRg _, rf, iRg _, lt, iRg _, hc_w, rfl, hF⟩) (Nat.le_of_ble_eq_true rfl) (Nat.le_of_ble_eq_true rfl) dX9_reasonOfLine_144
  · skip
    refine lv_tableIn (off := 115) (tgt := 145) hx hb dX9_reasonOfLine_30 (by omega) (by omega) (by rw [cq5_]; rfl) (by decide) ?_
    refine lv_aload_n hx hb dX9_reasonOfLine_145 rfl (lv_at hl 2 rfl) ?_
    refine xg hC hK hH flX9_12 hc_ro rfl dX9_reasonOfLine_146 ?_
    refine lv_aload_n hx hb dX9_reasonOfLine_149 rfl (lv_at hl 1 rfl) ?_
    refine lv_iconst (v := 0) hx hb dX9_reasonOfLine_150 (by decide) ?_
    refine tild hC hK hH ht_nb rfl (iIn (by decide) (by decide)) dX9_reasonOfLine_151 (fun xq18_ l_xq18_ g_xq18_ => ?_)
    refine goI hK hH (runV (As := [.int xq18_]) (rest := []) hC hK hH (c_X8_setGrace hc_w hn_w hc_bs ht_cs ht_bs ht_tp (by omega) (by omega) (by omega) hg) mlX9_90 (rcvM hK hH hc_w rfl) ⟨⟨Nat.le_of_ble_eq_true rfl, Nat.le_of_ble_eq_true rfl⟩, Nat.le_of_ble_eq_true rfl, Nat.le_of_ble_eq_true rfl⟩ rfl hl.1 rfl (Nat.le_of_ble_eq_true rfl) dX9_reasonOfLine_152) (fun rq21_ Mq19_ Tq20_ Hq_ lcq_ hP hz hH => ?_)
    try dsimp only at hP
    obtain ⟨xq24_, ⟨l_xq24_, g_xq24_⟩, (⟨cq22_, er_rq21_, hx_w⟩ | ⟨cq23_, er_rq21_, hx_w⟩), eT, hfr⟩ := hP
    · skip
      have eT := eT.symm; subst eT
      have er_rq21_ := er_rq21_.symm; subst er_rq21_
      have hc_ro : Mq19_ ro = some (.inr (7, [.ref w, .ref im, .ref rd, .ref rc, .ref cu])) := (hfr ro (Or.inl hn_ro) n_ro_w).trans hc_ro
      have hc_w : Mq19_ w = some (.inr (6, [.int td, .int xq24_, .int bc, .int py, .int rf, .int lt, .int tl, .int fp, .ref cs, .ref bs, .ref tp])) := hx_w
      have hc_bs : Mq19_ bs = some (.inl (kA 5, 4, .inr (.inr (.inr (.inr g))))) := (hfr bs (Or.inr (Or.inl ht_bs)) n_bs_w).trans hc_bs
      have hc_rd : Mq19_ rd = some (.inr (3, [.ref nb, .ref (zv z vi), .int no, .int wi, .ref by_, .int le, .int ki, .int pl, .int be, .int va])) := (hfr rd (Or.inl hn_rd) n_rd_w).trans hc_rd
      have hF : ∀ q, FrA T q → q ≠ w → Mq19_ q = M q := fun q hq h0 => (hfr q (FrA.k hq)  h0).trans (hF q hq h0)
      have cq22_ : 1 ≤ xq18_.toInt ∧ xq18_.toInt ≤ 9 := cq22_
      exact ret_i hC hr hlk hK hH (⟨td, ⟨by omega, by omega⟩, xq24_, iRg _, bc, ⟨by omega, by omega⟩, py, iRg _, rf, iRg _, lt, iRg _, hc_w, rfl, hF⟩) (Nat.le_of_ble_eq_true rfl) (Nat.le_of_ble_eq_true rfl) dX9_reasonOfLine_155
    · skip
      have eT := eT.symm; subst eT
      have er_rq21_ := er_rq21_.symm; subst er_rq21_
      have hc_ro : Mq19_ ro = some (.inr (7, [.ref w, .ref im, .ref rd, .ref rc, .ref cu])) := (hfr ro (Or.inl hn_ro) n_ro_w).trans hc_ro
      have hc_w : Mq19_ w = some (.inr (6, [.int td, .int xq24_, .int bc, .int py, .int rf, .int lt, .int tl, .int fp, .ref cs, .ref bs, .ref tp])) := hx_w
      have hc_bs : Mq19_ bs = some (.inl (kA 5, 4, .inr (.inr (.inr (.inr g))))) := (hfr bs (Or.inr (Or.inl ht_bs)) n_bs_w).trans hc_bs
      have hc_rd : Mq19_ rd = some (.inr (3, [.ref nb, .ref (zv z vi), .int no, .int wi, .ref by_, .int le, .int ki, .int pl, .int be, .int va])) := (hfr rd (Or.inl hn_rd) n_rd_w).trans hc_rd
      have hF : ∀ q, FrA T q → q ≠ w → Mq19_ q = M q := fun q hq h0 => (hfr q (FrA.k hq)  h0).trans (hF q hq h0)
      have cq23_ : ¬ (1 ≤ xq18_.toInt ∧ xq18_.toInt ≤ 9) := cq23_
      exact ret_i hC hr hlk hK hH (⟨td, ⟨by omega, by omega⟩, xq24_, iRg _, bc, ⟨by omega, by omega⟩, py, iRg _, rf, iRg _, lt, iRg _, hc_w, rfl, hF⟩) (Nat.le_of_ble_eq_true rfl) (Nat.le_of_ble_eq_true rfl) dX9_reasonOfLine_155
  · skip
    refine lv_tableIn (off := 126) (tgt := 156) hx hb dX9_reasonOfLine_30 (by omega) (by omega) (by rw [cq5_]; rfl) (by decide) ?_
    refine lv_aload_n hx hb dX9_reasonOfLine_156 rfl (lv_at hl 2 rfl) ?_
    refine xg hC hK hH flX9_12 hc_ro rfl dX9_reasonOfLine_157 ?_
    refine lv_aload_n hx hb dX9_reasonOfLine_160 rfl (lv_at hl 1 rfl) ?_
    refine lv_iconst (v := 0) hx hb dX9_reasonOfLine_161 (by decide) ?_
    refine tild hC hK hH ht_nb rfl (iIn (by decide) (by decide)) dX9_reasonOfLine_162 (fun xq25_ l_xq25_ g_xq25_ => ?_)
    refine lv_aload_n hx hb dX9_reasonOfLine_163 rfl (lv_at hl 1 rfl) ?_
    refine lv_iconst (v := 1) hx hb dX9_reasonOfLine_164 (by decide) ?_
    refine tild hC hK hH ht_nb rfl (iIn (by decide) (by decide)) dX9_reasonOfLine_165 (fun xq26_ l_xq26_ g_xq26_ => ?_)
    refine lv_aload_n hx hb dX9_reasonOfLine_166 rfl (lv_at hl 1 rfl) ?_
    refine lv_iconst (v := 2) hx hb dX9_reasonOfLine_167 (by decide) ?_
    refine tild hC hK hH ht_nb rfl (iIn (by decide) (by decide)) dX9_reasonOfLine_168 (fun xq27_ l_xq27_ g_xq27_ => ?_)
    refine lv_aload_n hx hb dX9_reasonOfLine_169 rfl (lv_at hl 1 rfl) ?_
    refine lv_iconst (v := 3) hx hb dX9_reasonOfLine_170 (by decide) ?_
    refine tild hC hK hH ht_nb rfl (iIn (by decide) (by decide)) dX9_reasonOfLine_171 (fun xq28_ l_xq28_ g_xq28_ => ?_)
    refine lv_aload_n hx hb dX9_reasonOfLine_172 rfl (lv_at hl 1 rfl) ?_
    refine lv_iconst (v := 4) hx hb dX9_reasonOfLine_173 (by decide) ?_
    refine tild hC hK hH ht_nb rfl (iIn (by decide) (by decide)) dX9_reasonOfLine_174 (fun xq29_ l_xq29_ g_xq29_ => ?_)
    refine lv_iconst (v := 0) hx hb dX9_reasonOfLine_175 (by decide) ?_
    refine goI hK hH (runV (As := [.int xq25_, .int xq26_, .int xq27_, .int xq28_, .int xq29_, .int 0]) (rest := []) hC hK hH (c_X8_drawOne hc_w hn_w hc_bs ht_cs ht_bs ht_tp (by omega) (by omega) (by omega) (by decide) hg) mlX9_93 (rcvM hK hH hc_w rfl) ⟨⟨Nat.le_of_ble_eq_true rfl, Nat.le_of_ble_eq_true rfl⟩, Nat.le_of_ble_eq_true rfl, Nat.le_of_ble_eq_true rfl⟩ rfl hl.1 rfl (Nat.le_of_ble_eq_true rfl) dX9_reasonOfLine_176) (fun rq32_ Mq30_ Tq31_ Hq_ lcq_ hP hz hH => ?_)
    try dsimp only at hP
    obtain ⟨xq33_, ⟨l_xq33_, g_xq33_⟩, (hx_w), eT, hfr⟩ := hP
    have eT := eT.symm; subst eT
    have hc_ro : Mq30_ ro = some (.inr (7, [.ref w, .ref im, .ref rd, .ref rc, .ref cu])) := (hfr ro (Or.inl hn_ro) n_ro_w).trans hc_ro
    have hc_w : Mq30_ w = some (.inr (6, [.int td, .int gd, .int xq33_, .int py, .int rf, .int lt, .int tl, .int fp, .ref cs, .ref bs, .ref tp])) := hx_w
    have hc_bs : Mq30_ bs = some (.inl (kA 5, 4, .inr (.inr (.inr (.inr g))))) := (hfr bs (Or.inr ht_bs) n_bs_w).trans hc_bs
    have hc_rd : Mq30_ rd = some (.inr (3, [.ref nb, .ref (zv z vi), .int no, .int wi, .ref by_, .int le, .int ki, .int pl, .int be, .int va])) := (hfr rd (Or.inl hn_rd) n_rd_w).trans hc_rd
    have hF : ∀ q, FrA T q → q ≠ w → Mq30_ q = M q := fun q hq h0 => (hfr q hq  h0).trans (hF q hq h0)
    exact ret_i hC hr hlk hK hH (⟨td, ⟨by omega, by omega⟩, gd, iRg _, xq33_, ⟨by omega, by omega⟩, py, iRg _, rf, iRg _, lt, iRg _, hc_w, rfl, hF⟩) (Nat.le_of_ble_eq_true rfl) (Nat.le_of_ble_eq_true rfl) dX9_reasonOfLine_179
  · skip
    refine lv_tableIn (off := 150) (tgt := 180) hx hb dX9_reasonOfLine_30 (by omega) (by omega) (by rw [cq5_]; rfl) (by decide) ?_
    refine lv_aload_n hx hb dX9_reasonOfLine_180 rfl (lv_at hl 2 rfl) ?_
    refine xg hC hK hH flX9_12 hc_ro rfl dX9_reasonOfLine_181 ?_
    refine lv_aload_n hx hb dX9_reasonOfLine_184 rfl (lv_at hl 1 rfl) ?_
    refine lv_iconst (v := 0) hx hb dX9_reasonOfLine_185 (by decide) ?_
    refine tild hC hK hH ht_nb rfl (iIn (by decide) (by decide)) dX9_reasonOfLine_186 (fun xq34_ l_xq34_ g_xq34_ => ?_)
    refine lv_aload_n hx hb dX9_reasonOfLine_187 rfl (lv_at hl 1 rfl) ?_
    refine lv_iconst (v := 1) hx hb dX9_reasonOfLine_188 (by decide) ?_
    refine tild hC hK hH ht_nb rfl (iIn (by decide) (by decide)) dX9_reasonOfLine_189 (fun xq35_ l_xq35_ g_xq35_ => ?_)
    refine lv_aload_n hx hb dX9_reasonOfLine_190 rfl (lv_at hl 1 rfl) ?_
    refine lv_iconst (v := 2) hx hb dX9_reasonOfLine_191 (by decide) ?_
    refine tild hC hK hH ht_nb rfl (iIn (by decide) (by decide)) dX9_reasonOfLine_192 (fun xq36_ l_xq36_ g_xq36_ => ?_)
    refine lv_aload_n hx hb dX9_reasonOfLine_193 rfl (lv_at hl 1 rfl) ?_
    refine lv_iconst (v := 3) hx hb dX9_reasonOfLine_194 (by decide) ?_
    refine tild hC hK hH ht_nb rfl (iIn (by decide) (by decide)) dX9_reasonOfLine_195 (fun xq37_ l_xq37_ g_xq37_ => ?_)
    refine lv_aload_n hx hb dX9_reasonOfLine_196 rfl (lv_at hl 1 rfl) ?_
    refine lv_iconst (v := 4) hx hb dX9_reasonOfLine_197 (by decide) ?_
    refine tild hC hK hH ht_nb rfl (iIn (by decide) (by decide)) dX9_reasonOfLine_198 (fun xq38_ l_xq38_ g_xq38_ => ?_)
    refine lv_iconst (v := 1) hx hb dX9_reasonOfLine_199 (by decide) ?_
    refine goI hK hH (runV (As := [.int xq34_, .int xq35_, .int xq36_, .int xq37_, .int xq38_, .int 1]) (rest := []) hC hK hH (c_X8_drawOne hc_w hn_w hc_bs ht_cs ht_bs ht_tp (by omega) (by omega) (by omega) (by decide) hg) mlX9_93 (rcvM hK hH hc_w rfl) ⟨⟨Nat.le_of_ble_eq_true rfl, Nat.le_of_ble_eq_true rfl⟩, Nat.le_of_ble_eq_true rfl, Nat.le_of_ble_eq_true rfl⟩ rfl hl.1 rfl (Nat.le_of_ble_eq_true rfl) dX9_reasonOfLine_200) (fun rq41_ Mq39_ Tq40_ Hq_ lcq_ hP hz hH => ?_)
    try dsimp only at hP
    obtain ⟨xq42_, ⟨l_xq42_, g_xq42_⟩, (hx_w), eT, hfr⟩ := hP
    have eT := eT.symm; subst eT
    have hc_ro : Mq39_ ro = some (.inr (7, [.ref w, .ref im, .ref rd, .ref rc, .ref cu])) := (hfr ro (Or.inl hn_ro) n_ro_w).trans hc_ro
    have hc_w : Mq39_ w = some (.inr (6, [.int td, .int gd, .int xq42_, .int py, .int rf, .int lt, .int tl, .int fp, .ref cs, .ref bs, .ref tp])) := hx_w
    have hc_bs : Mq39_ bs = some (.inl (kA 5, 4, .inr (.inr (.inr (.inr g))))) := (hfr bs (Or.inr ht_bs) n_bs_w).trans hc_bs
    have hc_rd : Mq39_ rd = some (.inr (3, [.ref nb, .ref (zv z vi), .int no, .int wi, .ref by_, .int le, .int ki, .int pl, .int be, .int va])) := (hfr rd (Or.inl hn_rd) n_rd_w).trans hc_rd
    have hF : ∀ q, FrA T q → q ≠ w → Mq39_ q = M q := fun q hq h0 => (hfr q hq  h0).trans (hF q hq h0)
    exact ret_i hC hr hlk hK hH (⟨td, ⟨by omega, by omega⟩, gd, iRg _, xq42_, ⟨by omega, by omega⟩, py, iRg _, rf, iRg _, lt, iRg _, hc_w, rfl, hF⟩) (Nat.le_of_ble_eq_true rfl) (Nat.le_of_ble_eq_true rfl) dX9_reasonOfLine_203
  · skip
    refine lv_tableIn (off := 174) (tgt := 204) hx hb dX9_reasonOfLine_30 (by omega) (by omega) (by rw [cq5_]; rfl) (by decide) ?_
    refine lv_aload_n hx hb dX9_reasonOfLine_204 rfl (lv_at hl 2 rfl) ?_
    refine xg hC hK hH flX9_12 hc_ro rfl dX9_reasonOfLine_205 ?_
    refine lv_aload_n hx hb dX9_reasonOfLine_208 rfl (lv_at hl 1 rfl) ?_
    refine lv_iconst (v := 0) hx hb dX9_reasonOfLine_209 (by decide) ?_
    refine tild hC hK hH ht_nb rfl (iIn (by decide) (by decide)) dX9_reasonOfLine_210 (fun xq43_ l_xq43_ g_xq43_ => ?_)
    refine goI hK hH (runV (As := [.int xq43_]) (rest := []) hC hK hH (c_X8_acceptOne hc_w hn_w hc_bs ht_cs ht_bs ht_tp (by omega) (by omega) (by omega) hg) mlX9_100 (rcvM hK hH hc_w rfl) ⟨⟨Nat.le_of_ble_eq_true rfl, Nat.le_of_ble_eq_true rfl⟩, Nat.le_of_ble_eq_true rfl, Nat.le_of_ble_eq_true rfl⟩ rfl hl.1 rfl (Nat.le_of_ble_eq_true rfl) dX9_reasonOfLine_211) (fun rq46_ Mq44_ Tq45_ Hq_ lcq_ hP hz hH => ?_)
    try dsimp only at hP
    obtain ⟨(-), eT, hfr⟩ := hP
    have eT := eT.symm; subst eT
    have hc_ro : Mq44_ ro = some (.inr (7, [.ref w, .ref im, .ref rd, .ref rc, .ref cu])) := (hfr ro (Or.inl hn_ro) ).trans hc_ro
    have hc_w : Mq44_ w = some (.inr (6, [.int td, .int gd, .int bc, .int py, .int rf, .int lt, .int tl, .int fp, .ref cs, .ref bs, .ref tp])) := (hfr w (Or.inl hn_w) ).trans hc_w
    have hc_bs : Mq44_ bs = some (.inl (kA 5, 4, .inr (.inr (.inr (.inr g))))) := (hfr bs (Or.inr ht_bs) ).trans hc_bs
    have hc_rd : Mq44_ rd = some (.inr (3, [.ref nb, .ref (zv z vi), .int no, .int wi, .ref by_, .int le, .int ki, .int pl, .int be, .int va])) := (hfr rd (Or.inl hn_rd) ).trans hc_rd
    have hF : ∀ q, FrA T q → q ≠ w → Mq44_ q = M q := fun q hq h0 => (hfr q hq ).trans (hF q hq h0)
    exact ret_i hC hr hlk hK hH (⟨td, ⟨by omega, by omega⟩, gd, iRg _, bc, ⟨by omega, by omega⟩, py, iRg _, rf, iRg _, lt, iRg _, hc_w, rfl, hF⟩) (Nat.le_of_ble_eq_true rfl) (Nat.le_of_ble_eq_true rfl) dX9_reasonOfLine_214
  · skip
    refine lv_tableIn (off := 185) (tgt := 215) hx hb dX9_reasonOfLine_30 (by omega) (by omega) (by rw [cq5_]; rfl) (by decide) ?_
    refine lv_aload_n hx hb dX9_reasonOfLine_215 rfl (lv_at hl 2 rfl) ?_
    refine xg hC hK hH flX9_12 hc_ro rfl dX9_reasonOfLine_216 ?_
    refine lv_aload_n hx hb dX9_reasonOfLine_219 rfl (lv_at hl 1 rfl) ?_
    refine lv_iconst (v := 0) hx hb dX9_reasonOfLine_220 (by decide) ?_
    refine tild hC hK hH ht_nb rfl (iIn (by decide) (by decide)) dX9_reasonOfLine_221 (fun xq47_ l_xq47_ g_xq47_ => ?_)
    refine lv_iconst (v := 0) hx hb dX9_reasonOfLine_222 (by decide) ?_
    refine lv_aload_n hx hb dX9_reasonOfLine_223 rfl (lv_at hl 1 rfl) ?_
    refine lv_iconst (v := 1) hx hb dX9_reasonOfLine_224 (by decide) ?_
    refine tild hC hK hH ht_nb rfl (iIn (by decide) (by decide)) dX9_reasonOfLine_225 (fun xq48_ l_xq48_ g_xq48_ => ?_)
    refine lv_aload_n hx hb dX9_reasonOfLine_226 rfl (lv_at hl 1 rfl) ?_
    refine lv_iconst (v := 2) hx hb dX9_reasonOfLine_227 (by decide) ?_
    refine tild hC hK hH ht_nb rfl (iIn (by decide) (by decide)) dX9_reasonOfLine_228 (fun xq49_ l_xq49_ g_xq49_ => ?_)
    refine lv_iload_n hx hb dX9_reasonOfLine_229 rfl (lv_at hl 0 rfl) ?_
    refine lv_aload_n hx hb dX9_reasonOfLine_230 rfl (lv_at hl 2 rfl) ?_
    refine xg hC hK hH flX9_23 hc_ro rfl dX9_reasonOfLine_231 ?_
    refine xg hC hK hH flX9_365 hc_rd rfl dX9_reasonOfLine_234 ?_
    refine goI hK hH (runV (As := [.int xq47_, .int 0, .int xq48_, .int xq49_, .int no, .int wi]) (rest := []) hC hK hH (c_X8_passOn hc_w hn_w hc_bs ht_cs ht_bs ht_tp (by omega) (by omega) (by omega) (by exact (z01 hno.1 hno.2)) (by exact (z01 hwi.1 hwi.2)) hg) mlX9_103 (rcvM hK hH hc_w rfl) ⟨⟨Nat.le_of_ble_eq_true rfl, Nat.le_of_ble_eq_true rfl⟩, Nat.le_of_ble_eq_true rfl, Nat.le_of_ble_eq_true rfl⟩ rfl hl.1 rfl (Nat.le_of_ble_eq_true rfl) dX9_reasonOfLine_237) (fun rq52_ Mq50_ Tq51_ Hq_ lcq_ hP hz hH => ?_)
    try dsimp only at hP
    obtain ⟨(-), eT, hfr⟩ := hP
    have eT := eT.symm; subst eT
    have hc_ro : Mq50_ ro = some (.inr (7, [.ref w, .ref im, .ref rd, .ref rc, .ref cu])) := (hfr ro (Or.inl hn_ro) ).trans hc_ro
    have hc_w : Mq50_ w = some (.inr (6, [.int td, .int gd, .int bc, .int py, .int rf, .int lt, .int tl, .int fp, .ref cs, .ref bs, .ref tp])) := (hfr w (Or.inl hn_w) ).trans hc_w
    have hc_bs : Mq50_ bs = some (.inl (kA 5, 4, .inr (.inr (.inr (.inr g))))) := (hfr bs (Or.inr ht_bs) ).trans hc_bs
    have hc_rd : Mq50_ rd = some (.inr (3, [.ref nb, .ref (zv z vi), .int no, .int wi, .ref by_, .int le, .int ki, .int pl, .int be, .int va])) := (hfr rd (Or.inl hn_rd) ).trans hc_rd
    have hF : ∀ q, FrA T q → q ≠ w → Mq50_ q = M q := fun q hq h0 => (hfr q hq ).trans (hF q hq h0)
    exact ret_i hC hr hlk hK hH (⟨td, ⟨by omega, by omega⟩, gd, iRg _, bc, ⟨by omega, by omega⟩, py, iRg _, rf, iRg _, lt, iRg _, hc_w, rfl, hF⟩) (Nat.le_of_ble_eq_true rfl) (Nat.le_of_ble_eq_true rfl) dX9_reasonOfLine_240
  · skip
    refine lv_tableIn (off := 211) (tgt := 241) hx hb dX9_reasonOfLine_30 (by omega) (by omega) (by rw [cq5_]; rfl) (by decide) ?_
    refine lv_aload_n hx hb dX9_reasonOfLine_241 rfl (lv_at hl 2 rfl) ?_
    refine xg hC hK hH flX9_12 hc_ro rfl dX9_reasonOfLine_242 ?_
    refine lv_aload_n hx hb dX9_reasonOfLine_245 rfl (lv_at hl 1 rfl) ?_
    refine lv_iconst (v := 0) hx hb dX9_reasonOfLine_246 (by decide) ?_
    refine tild hC hK hH ht_nb rfl (iIn (by decide) (by decide)) dX9_reasonOfLine_247 (fun xq53_ l_xq53_ g_xq53_ => ?_)
    refine lv_iconst (v := 1) hx hb dX9_reasonOfLine_248 (by decide) ?_
    refine lv_aload_n hx hb dX9_reasonOfLine_249 rfl (lv_at hl 1 rfl) ?_
    refine lv_iconst (v := 1) hx hb dX9_reasonOfLine_250 (by decide) ?_
    refine tild hC hK hH ht_nb rfl (iIn (by decide) (by decide)) dX9_reasonOfLine_251 (fun xq54_ l_xq54_ g_xq54_ => ?_)
    refine lv_aload_n hx hb dX9_reasonOfLine_252 rfl (lv_at hl 1 rfl) ?_
    refine lv_iconst (v := 2) hx hb dX9_reasonOfLine_253 (by decide) ?_
    refine tild hC hK hH ht_nb rfl (iIn (by decide) (by decide)) dX9_reasonOfLine_254 (fun xq55_ l_xq55_ g_xq55_ => ?_)
    refine lv_iload_n hx hb dX9_reasonOfLine_255 rfl (lv_at hl 0 rfl) ?_
    refine lv_aload_n hx hb dX9_reasonOfLine_256 rfl (lv_at hl 2 rfl) ?_
    refine xg hC hK hH flX9_23 hc_ro rfl dX9_reasonOfLine_257 ?_
    refine xg hC hK hH flX9_365 hc_rd rfl dX9_reasonOfLine_260 ?_
    refine goI hK hH (runV (As := [.int xq53_, .int 1, .int xq54_, .int xq55_, .int no, .int wi]) (rest := []) hC hK hH (c_X8_passOn hc_w hn_w hc_bs ht_cs ht_bs ht_tp (by omega) (by omega) (by omega) (by exact (z01 hno.1 hno.2)) (by exact (z01 hwi.1 hwi.2)) hg) mlX9_103 (rcvM hK hH hc_w rfl) ⟨⟨Nat.le_of_ble_eq_true rfl, Nat.le_of_ble_eq_true rfl⟩, Nat.le_of_ble_eq_true rfl, Nat.le_of_ble_eq_true rfl⟩ rfl hl.1 rfl (Nat.le_of_ble_eq_true rfl) dX9_reasonOfLine_263) (fun rq58_ Mq56_ Tq57_ Hq_ lcq_ hP hz hH => ?_)
    try dsimp only at hP
    obtain ⟨(-), eT, hfr⟩ := hP
    have eT := eT.symm; subst eT
    have hc_ro : Mq56_ ro = some (.inr (7, [.ref w, .ref im, .ref rd, .ref rc, .ref cu])) := (hfr ro (Or.inl hn_ro) ).trans hc_ro
    have hc_w : Mq56_ w = some (.inr (6, [.int td, .int gd, .int bc, .int py, .int rf, .int lt, .int tl, .int fp, .ref cs, .ref bs, .ref tp])) := (hfr w (Or.inl hn_w) ).trans hc_w
    have hc_bs : Mq56_ bs = some (.inl (kA 5, 4, .inr (.inr (.inr (.inr g))))) := (hfr bs (Or.inr ht_bs) ).trans hc_bs
    have hc_rd : Mq56_ rd = some (.inr (3, [.ref nb, .ref (zv z vi), .int no, .int wi, .ref by_, .int le, .int ki, .int pl, .int be, .int va])) := (hfr rd (Or.inl hn_rd) ).trans hc_rd
    have hF : ∀ q, FrA T q → q ≠ w → Mq56_ q = M q := fun q hq h0 => (hfr q hq ).trans (hF q hq h0)
    exact ret_i hC hr hlk hK hH (⟨td, ⟨by omega, by omega⟩, gd, iRg _, bc, ⟨by omega, by omega⟩, py, iRg _, rf, iRg _, lt, iRg _, hc_w, rfl, hF⟩) (Nat.le_of_ble_eq_true rfl) (Nat.le_of_ble_eq_true rfl) dX9_reasonOfLine_266
  · skip
    refine lv_tableIn (off := 237) (tgt := 267) hx hb dX9_reasonOfLine_30 (by omega) (by omega) (by rw [cq5_]; rfl) (by decide) ?_
    refine lv_aload_n hx hb dX9_reasonOfLine_267 rfl (lv_at hl 2 rfl) ?_
    refine xg hC hK hH flX9_12 hc_ro rfl dX9_reasonOfLine_268 ?_
    refine lv_aload_n hx hb dX9_reasonOfLine_271 rfl (lv_at hl 1 rfl) ?_
    refine lv_iconst (v := 0) hx hb dX9_reasonOfLine_272 (by decide) ?_
    refine tild hC hK hH ht_nb rfl (iIn (by decide) (by decide)) dX9_reasonOfLine_273 (fun xq59_ l_xq59_ g_xq59_ => ?_)
    refine lv_iconst (v := 2) hx hb dX9_reasonOfLine_274 (by decide) ?_
    refine lv_aload_n hx hb dX9_reasonOfLine_275 rfl (lv_at hl 1 rfl) ?_
    refine lv_iconst (v := 1) hx hb dX9_reasonOfLine_276 (by decide) ?_
    refine tild hC hK hH ht_nb rfl (iIn (by decide) (by decide)) dX9_reasonOfLine_277 (fun xq60_ l_xq60_ g_xq60_ => ?_)
    refine lv_aload_n hx hb dX9_reasonOfLine_278 rfl (lv_at hl 1 rfl) ?_
    refine lv_iconst (v := 2) hx hb dX9_reasonOfLine_279 (by decide) ?_
    refine tild hC hK hH ht_nb rfl (iIn (by decide) (by decide)) dX9_reasonOfLine_280 (fun xq61_ l_xq61_ g_xq61_ => ?_)
    refine lv_iload_n hx hb dX9_reasonOfLine_281 rfl (lv_at hl 0 rfl) ?_
    refine lv_aload_n hx hb dX9_reasonOfLine_282 rfl (lv_at hl 2 rfl) ?_
    refine xg hC hK hH flX9_23 hc_ro rfl dX9_reasonOfLine_283 ?_
    refine xg hC hK hH flX9_365 hc_rd rfl dX9_reasonOfLine_286 ?_
    refine goI hK hH (runV (As := [.int xq59_, .int 2, .int xq60_, .int xq61_, .int no, .int wi]) (rest := []) hC hK hH (c_X8_passOn hc_w hn_w hc_bs ht_cs ht_bs ht_tp (by omega) (by omega) (by omega) (by exact (z01 hno.1 hno.2)) (by exact (z01 hwi.1 hwi.2)) hg) mlX9_103 (rcvM hK hH hc_w rfl) ⟨⟨Nat.le_of_ble_eq_true rfl, Nat.le_of_ble_eq_true rfl⟩, Nat.le_of_ble_eq_true rfl, Nat.le_of_ble_eq_true rfl⟩ rfl hl.1 rfl (Nat.le_of_ble_eq_true rfl) dX9_reasonOfLine_289) (fun rq64_ Mq62_ Tq63_ Hq_ lcq_ hP hz hH => ?_)
    try dsimp only at hP
    obtain ⟨(-), eT, hfr⟩ := hP
    have eT := eT.symm; subst eT
    have hc_ro : Mq62_ ro = some (.inr (7, [.ref w, .ref im, .ref rd, .ref rc, .ref cu])) := (hfr ro (Or.inl hn_ro) ).trans hc_ro
    have hc_w : Mq62_ w = some (.inr (6, [.int td, .int gd, .int bc, .int py, .int rf, .int lt, .int tl, .int fp, .ref cs, .ref bs, .ref tp])) := (hfr w (Or.inl hn_w) ).trans hc_w
    have hc_bs : Mq62_ bs = some (.inl (kA 5, 4, .inr (.inr (.inr (.inr g))))) := (hfr bs (Or.inr ht_bs) ).trans hc_bs
    have hc_rd : Mq62_ rd = some (.inr (3, [.ref nb, .ref (zv z vi), .int no, .int wi, .ref by_, .int le, .int ki, .int pl, .int be, .int va])) := (hfr rd (Or.inl hn_rd) ).trans hc_rd
    have hF : ∀ q, FrA T q → q ≠ w → Mq62_ q = M q := fun q hq h0 => (hfr q hq ).trans (hF q hq h0)
    exact ret_i hC hr hlk hK hH (⟨td, ⟨by omega, by omega⟩, gd, iRg _, bc, ⟨by omega, by omega⟩, py, iRg _, rf, iRg _, lt, iRg _, hc_w, rfl, hF⟩) (Nat.le_of_ble_eq_true rfl) (Nat.le_of_ble_eq_true rfl) dX9_reasonOfLine_292
  · skip
    refine lv_tableIn (off := 263) (tgt := 293) hx hb dX9_reasonOfLine_30 (by omega) (by omega) (by rw [cq5_]; rfl) (by decide) ?_
    refine lv_aload_n hx hb dX9_reasonOfLine_293 rfl (lv_at hl 2 rfl) ?_
    refine xg hC hK hH flX9_12 hc_ro rfl dX9_reasonOfLine_294 ?_
    refine lv_aload_n hx hb dX9_reasonOfLine_297 rfl (lv_at hl 1 rfl) ?_
    refine lv_iconst (v := 0) hx hb dX9_reasonOfLine_298 (by decide) ?_
    refine tild hC hK hH ht_nb rfl (iIn (by decide) (by decide)) dX9_reasonOfLine_299 (fun xq65_ l_xq65_ g_xq65_ => ?_)
    refine lv_iconst (v := 3) hx hb dX9_reasonOfLine_300 (by decide) ?_
    refine lv_aload_n hx hb dX9_reasonOfLine_301 rfl (lv_at hl 1 rfl) ?_
    refine lv_iconst (v := 1) hx hb dX9_reasonOfLine_302 (by decide) ?_
    refine tild hC hK hH ht_nb rfl (iIn (by decide) (by decide)) dX9_reasonOfLine_303 (fun xq66_ l_xq66_ g_xq66_ => ?_)
    refine lv_aload_n hx hb dX9_reasonOfLine_304 rfl (lv_at hl 1 rfl) ?_
    refine lv_iconst (v := 2) hx hb dX9_reasonOfLine_305 (by decide) ?_
    refine tild hC hK hH ht_nb rfl (iIn (by decide) (by decide)) dX9_reasonOfLine_306 (fun xq67_ l_xq67_ g_xq67_ => ?_)
    refine lv_iload_n hx hb dX9_reasonOfLine_307 rfl (lv_at hl 0 rfl) ?_
    refine lv_aload_n hx hb dX9_reasonOfLine_308 rfl (lv_at hl 2 rfl) ?_
    refine xg hC hK hH flX9_23 hc_ro rfl dX9_reasonOfLine_309 ?_
    refine xg hC hK hH flX9_365 hc_rd rfl dX9_reasonOfLine_312 ?_
    refine goI hK hH (runV (As := [.int xq65_, .int 3, .int xq66_, .int xq67_, .int no, .int wi]) (rest := []) hC hK hH (c_X8_passOn hc_w hn_w hc_bs ht_cs ht_bs ht_tp (by omega) (by omega) (by omega) (by exact (z01 hno.1 hno.2)) (by exact (z01 hwi.1 hwi.2)) hg) mlX9_103 (rcvM hK hH hc_w rfl) ⟨⟨Nat.le_of_ble_eq_true rfl, Nat.le_of_ble_eq_true rfl⟩, Nat.le_of_ble_eq_true rfl, Nat.le_of_ble_eq_true rfl⟩ rfl hl.1 rfl (Nat.le_of_ble_eq_true rfl) dX9_reasonOfLine_315) (fun rq70_ Mq68_ Tq69_ Hq_ lcq_ hP hz hH => ?_)
    try dsimp only at hP
    obtain ⟨(-), eT, hfr⟩ := hP
    have eT := eT.symm; subst eT
    have hc_ro : Mq68_ ro = some (.inr (7, [.ref w, .ref im, .ref rd, .ref rc, .ref cu])) := (hfr ro (Or.inl hn_ro) ).trans hc_ro
    have hc_w : Mq68_ w = some (.inr (6, [.int td, .int gd, .int bc, .int py, .int rf, .int lt, .int tl, .int fp, .ref cs, .ref bs, .ref tp])) := (hfr w (Or.inl hn_w) ).trans hc_w
    have hc_bs : Mq68_ bs = some (.inl (kA 5, 4, .inr (.inr (.inr (.inr g))))) := (hfr bs (Or.inr ht_bs) ).trans hc_bs
    have hc_rd : Mq68_ rd = some (.inr (3, [.ref nb, .ref (zv z vi), .int no, .int wi, .ref by_, .int le, .int ki, .int pl, .int be, .int va])) := (hfr rd (Or.inl hn_rd) ).trans hc_rd
    have hF : ∀ q, FrA T q → q ≠ w → Mq68_ q = M q := fun q hq h0 => (hfr q hq ).trans (hF q hq h0)
    exact ret_i hC hr hlk hK hH (⟨td, ⟨by omega, by omega⟩, gd, iRg _, bc, ⟨by omega, by omega⟩, py, iRg _, rf, iRg _, lt, iRg _, hc_w, rfl, hF⟩) (Nat.le_of_ble_eq_true rfl) (Nat.le_of_ble_eq_true rfl) dX9_reasonOfLine_318
  · skip
    refine lv_tableIn (off := 289) (tgt := 319) hx hb dX9_reasonOfLine_30 (by omega) (by omega) (by rw [cq5_]; rfl) (by decide) ?_
    refine lv_aload_n hx hb dX9_reasonOfLine_319 rfl (lv_at hl 2 rfl) ?_
    refine xg hC hK hH flX9_12 hc_ro rfl dX9_reasonOfLine_320 ?_
    refine lv_aload_n hx hb dX9_reasonOfLine_323 rfl (lv_at hl 1 rfl) ?_
    refine lv_iconst (v := 0) hx hb dX9_reasonOfLine_324 (by decide) ?_
    refine tild hC hK hH ht_nb rfl (iIn (by decide) (by decide)) dX9_reasonOfLine_325 (fun xq71_ l_xq71_ g_xq71_ => ?_)
    refine lv_aload_n hx hb dX9_reasonOfLine_326 rfl (lv_at hl 1 rfl) ?_
    refine lv_iconst (v := 1) hx hb dX9_reasonOfLine_327 (by decide) ?_
    refine tild hC hK hH ht_nb rfl (iIn (by decide) (by decide)) dX9_reasonOfLine_328 (fun xq72_ l_xq72_ g_xq72_ => ?_)
    refine lv_aload_n hx hb dX9_reasonOfLine_329 rfl (lv_at hl 1 rfl) ?_
    refine lv_iconst (v := 2) hx hb dX9_reasonOfLine_330 (by decide) ?_
    refine tild hC hK hH ht_nb rfl (iIn (by decide) (by decide)) dX9_reasonOfLine_331 (fun xq73_ l_xq73_ g_xq73_ => ?_)
    refine lv_aload_n hx hb dX9_reasonOfLine_332 rfl (lv_at hl 1 rfl) ?_
    refine lv_iconst (v := 3) hx hb dX9_reasonOfLine_333 (by decide) ?_
    refine tild hC hK hH ht_nb rfl (iIn (by decide) (by decide)) dX9_reasonOfLine_334 (fun xq74_ l_xq74_ g_xq74_ => ?_)
    refine lv_iload_n hx hb dX9_reasonOfLine_335 rfl (lv_at hl 0 rfl) ?_
    refine goI hK hH (runV (As := [.int xq71_, .int xq72_, .int xq73_, .int xq74_, .int no]) (rest := []) hC hK hH (c_X8_passForged hc_w hn_w hc_bs ht_cs ht_bs ht_tp (by omega) (by omega) (by omega) (by exact (z01 hno.1 hno.2)) hg) mlX9_107 (rcvM hK hH hc_w rfl) ⟨⟨Nat.le_of_ble_eq_true rfl, Nat.le_of_ble_eq_true rfl⟩, Nat.le_of_ble_eq_true rfl, Nat.le_of_ble_eq_true rfl⟩ rfl hl.1 rfl (Nat.le_of_ble_eq_true rfl) dX9_reasonOfLine_336) (fun rq77_ Mq75_ Tq76_ Hq_ lcq_ hP hz hH => ?_)
    try dsimp only at hP
    obtain ⟨(-), eT, hfr⟩ := hP
    have eT := eT.symm; subst eT
    have hc_ro : Mq75_ ro = some (.inr (7, [.ref w, .ref im, .ref rd, .ref rc, .ref cu])) := (hfr ro (Or.inl hn_ro) ).trans hc_ro
    have hc_w : Mq75_ w = some (.inr (6, [.int td, .int gd, .int bc, .int py, .int rf, .int lt, .int tl, .int fp, .ref cs, .ref bs, .ref tp])) := (hfr w (Or.inl hn_w) ).trans hc_w
    have hc_bs : Mq75_ bs = some (.inl (kA 5, 4, .inr (.inr (.inr (.inr g))))) := (hfr bs (Or.inr ht_bs) ).trans hc_bs
    have hc_rd : Mq75_ rd = some (.inr (3, [.ref nb, .ref (zv z vi), .int no, .int wi, .ref by_, .int le, .int ki, .int pl, .int be, .int va])) := (hfr rd (Or.inl hn_rd) ).trans hc_rd
    have hF : ∀ q, FrA T q → q ≠ w → Mq75_ q = M q := fun q hq h0 => (hfr q hq ).trans (hF q hq h0)
    exact ret_i hC hr hlk hK hH (⟨td, ⟨by omega, by omega⟩, gd, iRg _, bc, ⟨by omega, by omega⟩, py, iRg _, rf, iRg _, lt, iRg _, hc_w, rfl, hF⟩) (Nat.le_of_ble_eq_true rfl) (Nat.le_of_ble_eq_true rfl) dX9_reasonOfLine_339
  · skip
    refine lv_tableIn (off := 310) (tgt := 340) hx hb dX9_reasonOfLine_30 (by omega) (by omega) (by rw [cq5_]; rfl) (by decide) ?_
    refine lv_aload_n hx hb dX9_reasonOfLine_340 rfl (lv_at hl 2 rfl) ?_
    refine xg hC hK hH flX9_12 hc_ro rfl dX9_reasonOfLine_341 ?_
    refine lv_aload_n hx hb dX9_reasonOfLine_344 rfl (lv_at hl 1 rfl) ?_
    refine lv_iconst (v := 0) hx hb dX9_reasonOfLine_345 (by decide) ?_
    refine tild hC hK hH ht_nb rfl (iIn (by decide) (by decide)) dX9_reasonOfLine_346 (fun xq78_ l_xq78_ g_xq78_ => ?_)
    refine lv_aload_n hx hb dX9_reasonOfLine_347 rfl (lv_at hl 1 rfl) ?_
    refine lv_iconst (v := 1) hx hb dX9_reasonOfLine_348 (by decide) ?_
    refine tild hC hK hH ht_nb rfl (iIn (by decide) (by decide)) dX9_reasonOfLine_349 (fun xq79_ l_xq79_ g_xq79_ => ?_)
    refine goI hK hH (runV (As := [.int xq78_, .int xq79_]) (rest := []) hC hK hH (c_X8_findOne hc_w hn_w hc_bs ht_cs ht_bs ht_tp (by omega) (by omega) (by omega) hg) mlX9_111 (rcvM hK hH hc_w rfl) ⟨⟨Nat.le_of_ble_eq_true rfl, Nat.le_of_ble_eq_true rfl⟩, Nat.le_of_ble_eq_true rfl, Nat.le_of_ble_eq_true rfl⟩ rfl hl.1 rfl (Nat.le_of_ble_eq_true rfl) dX9_reasonOfLine_350) (fun rq82_ Mq80_ Tq81_ Hq_ lcq_ hP hz hH => ?_)
    try dsimp only at hP
    obtain ⟨(-), eT, hfr⟩ := hP
    have eT := eT.symm; subst eT
    have hc_ro : Mq80_ ro = some (.inr (7, [.ref w, .ref im, .ref rd, .ref rc, .ref cu])) := (hfr ro (Or.inl hn_ro) ).trans hc_ro
    have hc_w : Mq80_ w = some (.inr (6, [.int td, .int gd, .int bc, .int py, .int rf, .int lt, .int tl, .int fp, .ref cs, .ref bs, .ref tp])) := (hfr w (Or.inl hn_w) ).trans hc_w
    have hc_bs : Mq80_ bs = some (.inl (kA 5, 4, .inr (.inr (.inr (.inr g))))) := (hfr bs (Or.inr ht_bs) ).trans hc_bs
    have hc_rd : Mq80_ rd = some (.inr (3, [.ref nb, .ref (zv z vi), .int no, .int wi, .ref by_, .int le, .int ki, .int pl, .int be, .int va])) := (hfr rd (Or.inl hn_rd) ).trans hc_rd
    have hF : ∀ q, FrA T q → q ≠ w → Mq80_ q = M q := fun q hq h0 => (hfr q hq ).trans (hF q hq h0)
    exact ret_i hC hr hlk hK hH (⟨td, ⟨by omega, by omega⟩, gd, iRg _, bc, ⟨by omega, by omega⟩, py, iRg _, rf, iRg _, lt, iRg _, hc_w, rfl, hF⟩) (Nat.le_of_ble_eq_true rfl) (Nat.le_of_ble_eq_true rfl) dX9_reasonOfLine_353
  · skip
    refine lv_tableIn (off := 324) (tgt := 354) hx hb dX9_reasonOfLine_30 (by omega) (by omega) (by rw [cq5_]; rfl) (by decide) ?_
    refine lv_aload_n hx hb dX9_reasonOfLine_354 rfl (lv_at hl 2 rfl) ?_
    refine xg hC hK hH flX9_12 hc_ro rfl dX9_reasonOfLine_355 ?_
    refine lv_aload_n hx hb dX9_reasonOfLine_358 rfl (lv_at hl 1 rfl) ?_
    refine lv_iconst (v := 0) hx hb dX9_reasonOfLine_359 (by decide) ?_
    refine tild hC hK hH ht_nb rfl (iIn (by decide) (by decide)) dX9_reasonOfLine_360 (fun xq83_ l_xq83_ g_xq83_ => ?_)
    refine lv_aload_n hx hb dX9_reasonOfLine_361 rfl (lv_at hl 1 rfl) ?_
    refine lv_iconst (v := 1) hx hb dX9_reasonOfLine_362 (by decide) ?_
    refine tild hC hK hH ht_nb rfl (iIn (by decide) (by decide)) dX9_reasonOfLine_363 (fun xq84_ l_xq84_ g_xq84_ => ?_)
    refine lv_iconst (v := 1) hx hb dX9_reasonOfLine_364 (by decide) ?_
    refine goI hK hH (runV (As := [.int xq83_, .int xq84_, .int 1]) (rest := []) hC hK hH (c_X8_giveDefence hc_w hn_w hc_bs ht_cs ht_bs ht_tp (by omega) (by omega) (by omega) hg) mlX9_114 (rcvM hK hH hc_w rfl) ⟨⟨Nat.le_of_ble_eq_true rfl, Nat.le_of_ble_eq_true rfl⟩, Nat.le_of_ble_eq_true rfl, Nat.le_of_ble_eq_true rfl⟩ rfl hl.1 rfl (Nat.le_of_ble_eq_true rfl) dX9_reasonOfLine_365) (fun rq87_ Mq85_ Tq86_ Hq_ lcq_ hP hz hH => ?_)
    try dsimp only at hP
    obtain ⟨(-), eT, hfr⟩ := hP
    have eT := eT.symm; subst eT
    have hc_ro : Mq85_ ro = some (.inr (7, [.ref w, .ref im, .ref rd, .ref rc, .ref cu])) := (hfr ro (Or.inl hn_ro) ).trans hc_ro
    have hc_w : Mq85_ w = some (.inr (6, [.int td, .int gd, .int bc, .int py, .int rf, .int lt, .int tl, .int fp, .ref cs, .ref bs, .ref tp])) := (hfr w (Or.inl hn_w) ).trans hc_w
    have hc_bs : Mq85_ bs = some (.inl (kA 5, 4, .inr (.inr (.inr (.inr g))))) := (hfr bs (Or.inr (Or.inl ht_bs)) ).trans hc_bs
    have hc_rd : Mq85_ rd = some (.inr (3, [.ref nb, .ref (zv z vi), .int no, .int wi, .ref by_, .int le, .int ki, .int pl, .int be, .int va])) := (hfr rd (Or.inl hn_rd) ).trans hc_rd
    have hF : ∀ q, FrA T q → q ≠ w → Mq85_ q = M q := fun q hq h0 => (hfr q (FrA.k hq) ).trans (hF q hq h0)
    exact ret_i hC hr hlk hK hH (⟨td, ⟨by omega, by omega⟩, gd, iRg _, bc, ⟨by omega, by omega⟩, py, iRg _, rf, iRg _, lt, iRg _, hc_w, rfl, hF⟩) (Nat.le_of_ble_eq_true rfl) (Nat.le_of_ble_eq_true rfl) dX9_reasonOfLine_368
  · skip
    refine lv_tableIn (off := 339) (tgt := 369) hx hb dX9_reasonOfLine_30 (by omega) (by omega) (by rw [cq5_]; rfl) (by decide) ?_
    refine lv_aload_n hx hb dX9_reasonOfLine_369 rfl (lv_at hl 2 rfl) ?_
    refine xg hC hK hH flX9_12 hc_ro rfl dX9_reasonOfLine_370 ?_
    refine lv_aload_n hx hb dX9_reasonOfLine_373 rfl (lv_at hl 1 rfl) ?_
    refine lv_iconst (v := 0) hx hb dX9_reasonOfLine_374 (by decide) ?_
    refine tild hC hK hH ht_nb rfl (iIn (by decide) (by decide)) dX9_reasonOfLine_375 (fun xq88_ l_xq88_ g_xq88_ => ?_)
    refine lv_aload_n hx hb dX9_reasonOfLine_376 rfl (lv_at hl 1 rfl) ?_
    refine lv_iconst (v := 1) hx hb dX9_reasonOfLine_377 (by decide) ?_
    refine tild hC hK hH ht_nb rfl (iIn (by decide) (by decide)) dX9_reasonOfLine_378 (fun xq89_ l_xq89_ g_xq89_ => ?_)
    refine lv_iconst (v := 0) hx hb dX9_reasonOfLine_379 (by decide) ?_
    refine goI hK hH (runV (As := [.int xq88_, .int xq89_, .int 0]) (rest := []) hC hK hH (c_X8_giveDefence hc_w hn_w hc_bs ht_cs ht_bs ht_tp (by omega) (by omega) (by omega) hg) mlX9_114 (rcvM hK hH hc_w rfl) ⟨⟨Nat.le_of_ble_eq_true rfl, Nat.le_of_ble_eq_true rfl⟩, Nat.le_of_ble_eq_true rfl, Nat.le_of_ble_eq_true rfl⟩ rfl hl.1 rfl (Nat.le_of_ble_eq_true rfl) dX9_reasonOfLine_380) (fun rq92_ Mq90_ Tq91_ Hq_ lcq_ hP hz hH => ?_)
    try dsimp only at hP
    obtain ⟨(-), eT, hfr⟩ := hP
    have eT := eT.symm; subst eT
    have hc_ro : Mq90_ ro = some (.inr (7, [.ref w, .ref im, .ref rd, .ref rc, .ref cu])) := (hfr ro (Or.inl hn_ro) ).trans hc_ro
    have hc_w : Mq90_ w = some (.inr (6, [.int td, .int gd, .int bc, .int py, .int rf, .int lt, .int tl, .int fp, .ref cs, .ref bs, .ref tp])) := (hfr w (Or.inl hn_w) ).trans hc_w
    have hc_bs : Mq90_ bs = some (.inl (kA 5, 4, .inr (.inr (.inr (.inr g))))) := (hfr bs (Or.inr (Or.inl ht_bs)) ).trans hc_bs
    have hc_rd : Mq90_ rd = some (.inr (3, [.ref nb, .ref (zv z vi), .int no, .int wi, .ref by_, .int le, .int ki, .int pl, .int be, .int va])) := (hfr rd (Or.inl hn_rd) ).trans hc_rd
    have hF : ∀ q, FrA T q → q ≠ w → Mq90_ q = M q := fun q hq h0 => (hfr q (FrA.k hq) ).trans (hF q hq h0)
    exact ret_i hC hr hlk hK hH (⟨td, ⟨by omega, by omega⟩, gd, iRg _, bc, ⟨by omega, by omega⟩, py, iRg _, rf, iRg _, lt, iRg _, hc_w, rfl, hF⟩) (Nat.le_of_ble_eq_true rfl) (Nat.le_of_ble_eq_true rfl) dX9_reasonOfLine_383
  · skip
    refine lv_tableIn (off := 354) (tgt := 384) hx hb dX9_reasonOfLine_30 (by omega) (by omega) (by rw [cq5_]; rfl) (by decide) ?_
    refine lv_aload_n hx hb dX9_reasonOfLine_384 rfl (lv_at hl 2 rfl) ?_
    refine xg hC hK hH flX9_12 hc_ro rfl dX9_reasonOfLine_385 ?_
    refine lv_aload_n hx hb dX9_reasonOfLine_388 rfl (lv_at hl 1 rfl) ?_
    refine lv_iconst (v := 0) hx hb dX9_reasonOfLine_389 (by decide) ?_
    refine tild hC hK hH ht_nb rfl (iIn (by decide) (by decide)) dX9_reasonOfLine_390 (fun xq93_ l_xq93_ g_xq93_ => ?_)
    refine goI hK hH (runV (As := [.int xq93_]) (rest := []) hC hK hH (c_X8_presentOne hc_w hn_w hc_bs ht_cs ht_bs ht_tp (by omega) (by omega) (by omega) hg) mlX9_118 (rcvM hK hH hc_w rfl) ⟨⟨Nat.le_of_ble_eq_true rfl, Nat.le_of_ble_eq_true rfl⟩, Nat.le_of_ble_eq_true rfl, Nat.le_of_ble_eq_true rfl⟩ rfl hl.1 rfl (Nat.le_of_ble_eq_true rfl) dX9_reasonOfLine_391) (fun rq96_ Mq94_ Tq95_ Hq_ lcq_ hP hz hH => ?_)
    try dsimp only at hP
    obtain ⟨xq97_, ⟨l_xq97_, g_xq97_⟩, (hx_w), eT, hfr⟩ := hP
    have eT := eT.symm; subst eT
    have hc_ro : Mq94_ ro = some (.inr (7, [.ref w, .ref im, .ref rd, .ref rc, .ref cu])) := (hfr ro (Or.inl hn_ro) n_ro_w).trans hc_ro
    have hc_w : Mq94_ w = some (.inr (6, [.int td, .int gd, .int bc, .int xq97_, .int rf, .int lt, .int tl, .int fp, .ref cs, .ref bs, .ref tp])) := hx_w
    have hc_bs : Mq94_ bs = some (.inl (kA 5, 4, .inr (.inr (.inr (.inr g))))) := (hfr bs (Or.inr ht_bs) n_bs_w).trans hc_bs
    have hc_rd : Mq94_ rd = some (.inr (3, [.ref nb, .ref (zv z vi), .int no, .int wi, .ref by_, .int le, .int ki, .int pl, .int be, .int va])) := (hfr rd (Or.inl hn_rd) n_rd_w).trans hc_rd
    have hF : ∀ q, FrA T q → q ≠ w → Mq94_ q = M q := fun q hq h0 => (hfr q hq  h0).trans (hF q hq h0)
    refine goI hK hH (runS (As := [.int rq96_]) (rest := []) hC hK hH (c_X9_refusalOf) mlX9_121 ⟨⟨Nat.le_of_ble_eq_true rfl, Nat.le_of_ble_eq_true rfl⟩, Nat.le_of_ble_eq_true rfl, Nat.le_of_ble_eq_true rfl⟩ rfl hl.1 rfl (Nat.le_of_ble_eq_true rfl) dX9_reasonOfLine_394) (fun rq100_ Mq98_ Tq99_ Hq_ lcq_ hP hz hH => ?_)
    try dsimp only at hP
    obtain ⟨(-), eT, eM⟩ := hP
    have eT := eT.symm; subst eT
    have eM := eM.symm; subst eM
    exact ret_i hC hr hlk hK hH (⟨td, ⟨by omega, by omega⟩, gd, iRg _, bc, ⟨by omega, by omega⟩, xq97_, iRg _, rf, iRg _, lt, iRg _, hc_w, rfl, hF⟩) (Nat.le_of_ble_eq_true rfl) (Nat.le_of_ble_eq_true rfl) dX9_reasonOfLine_397
  · skip
    refine lv_tableIn (off := 368) (tgt := 398) hx hb dX9_reasonOfLine_30 (by omega) (by omega) (by rw [cq5_]; rfl) (by decide) ?_
    refine lv_aload_n hx hb dX9_reasonOfLine_398 rfl (lv_at hl 2 rfl) ?_
    refine xg hC hK hH flX9_12 hc_ro rfl dX9_reasonOfLine_399 ?_
    refine lv_aload_n hx hb dX9_reasonOfLine_402 rfl (lv_at hl 1 rfl) ?_
    refine lv_iconst (v := 0) hx hb dX9_reasonOfLine_403 (by decide) ?_
    refine tild hC hK hH ht_nb rfl (iIn (by decide) (by decide)) dX9_reasonOfLine_404 (fun xq101_ l_xq101_ g_xq101_ => ?_)
    refine lv_iconst (v := -1) hx hb dX9_reasonOfLine_405 (by decide) ?_
    refine lv_aload_n hx hb dX9_reasonOfLine_406 rfl (lv_at hl 1 rfl) ?_
    refine lv_iconst (v := 1) hx hb dX9_reasonOfLine_407 (by decide) ?_
    refine tild hC hK hH ht_nb rfl (iIn (by decide) (by decide)) dX9_reasonOfLine_408 (fun xq102_ l_xq102_ g_xq102_ => ?_)
    refine goI hK hH (runV (As := [.int xq101_, .int (-1), .int xq102_]) (rest := []) hC hK hH (c_X8_giveNotice hc_w hn_w hc_bs ht_cs ht_bs ht_tp (by omega) (by omega) (by omega) hg) mlX9_124 (rcvM hK hH hc_w rfl) ⟨⟨Nat.le_of_ble_eq_true rfl, Nat.le_of_ble_eq_true rfl⟩, Nat.le_of_ble_eq_true rfl, Nat.le_of_ble_eq_true rfl⟩ rfl hl.1 rfl (Nat.le_of_ble_eq_true rfl) dX9_reasonOfLine_409) (fun rq105_ Mq103_ Tq104_ Hq_ lcq_ hP hz hH => ?_)
    try dsimp only at hP
    obtain ⟨(-), eT, hfr⟩ := hP
    have eT := eT.symm; subst eT
    have hc_ro : Mq103_ ro = some (.inr (7, [.ref w, .ref im, .ref rd, .ref rc, .ref cu])) := (hfr ro (Or.inl hn_ro) ).trans hc_ro
    have hc_w : Mq103_ w = some (.inr (6, [.int td, .int gd, .int bc, .int py, .int rf, .int lt, .int tl, .int fp, .ref cs, .ref bs, .ref tp])) := (hfr w (Or.inl hn_w) ).trans hc_w
    have hc_bs : Mq103_ bs = some (.inl (kA 5, 4, .inr (.inr (.inr (.inr g))))) := (hfr bs (Or.inr (Or.inl ht_bs)) ).trans hc_bs
    have hc_rd : Mq103_ rd = some (.inr (3, [.ref nb, .ref (zv z vi), .int no, .int wi, .ref by_, .int le, .int ki, .int pl, .int be, .int va])) := (hfr rd (Or.inl hn_rd) ).trans hc_rd
    have hF : ∀ q, FrA T q → q ≠ w → Mq103_ q = M q := fun q hq h0 => (hfr q (FrA.k hq) ).trans (hF q hq h0)
    exact ret_i hC hr hlk hK hH (⟨td, ⟨by omega, by omega⟩, gd, iRg _, bc, ⟨by omega, by omega⟩, py, iRg _, rf, iRg _, lt, iRg _, hc_w, rfl, hF⟩) (Nat.le_of_ble_eq_true rfl) (Nat.le_of_ble_eq_true rfl) dX9_reasonOfLine_412
  · skip
    refine lv_tableIn (off := 383) (tgt := 413) hx hb dX9_reasonOfLine_30 (by omega) (by omega) (by rw [cq5_]; rfl) (by decide) ?_
    refine lv_aload_n hx hb dX9_reasonOfLine_413 rfl (lv_at hl 2 rfl) ?_
    refine xg hC hK hH flX9_12 hc_ro rfl dX9_reasonOfLine_414 ?_
    refine lv_aload_n hx hb dX9_reasonOfLine_417 rfl (lv_at hl 1 rfl) ?_
    refine lv_iconst (v := 0) hx hb dX9_reasonOfLine_418 (by decide) ?_
    refine tild hC hK hH ht_nb rfl (iIn (by decide) (by decide)) dX9_reasonOfLine_419 (fun xq106_ l_xq106_ g_xq106_ => ?_)
    refine lv_aload_n hx hb dX9_reasonOfLine_420 rfl (lv_at hl 1 rfl) ?_
    refine lv_iconst (v := 1) hx hb dX9_reasonOfLine_421 (by decide) ?_
    refine tild hC hK hH ht_nb rfl (iIn (by decide) (by decide)) dX9_reasonOfLine_422 (fun xq107_ l_xq107_ g_xq107_ => ?_)
    refine lv_aload_n hx hb dX9_reasonOfLine_423 rfl (lv_at hl 1 rfl) ?_
    refine lv_iconst (v := 2) hx hb dX9_reasonOfLine_424 (by decide) ?_
    refine tild hC hK hH ht_nb rfl (iIn (by decide) (by decide)) dX9_reasonOfLine_425 (fun xq108_ l_xq108_ g_xq108_ => ?_)
    refine goI hK hH (runV (As := [.int xq106_, .int xq107_, .int xq108_]) (rest := []) hC hK hH (c_X8_giveNotice hc_w hn_w hc_bs ht_cs ht_bs ht_tp (by omega) (by omega) (by omega) hg) mlX9_124 (rcvM hK hH hc_w rfl) ⟨⟨Nat.le_of_ble_eq_true rfl, Nat.le_of_ble_eq_true rfl⟩, Nat.le_of_ble_eq_true rfl, Nat.le_of_ble_eq_true rfl⟩ rfl hl.1 rfl (Nat.le_of_ble_eq_true rfl) dX9_reasonOfLine_426) (fun rq111_ Mq109_ Tq110_ Hq_ lcq_ hP hz hH => ?_)
    try dsimp only at hP
    obtain ⟨(-), eT, hfr⟩ := hP
    have eT := eT.symm; subst eT
    have hc_ro : Mq109_ ro = some (.inr (7, [.ref w, .ref im, .ref rd, .ref rc, .ref cu])) := (hfr ro (Or.inl hn_ro) ).trans hc_ro
    have hc_w : Mq109_ w = some (.inr (6, [.int td, .int gd, .int bc, .int py, .int rf, .int lt, .int tl, .int fp, .ref cs, .ref bs, .ref tp])) := (hfr w (Or.inl hn_w) ).trans hc_w
    have hc_bs : Mq109_ bs = some (.inl (kA 5, 4, .inr (.inr (.inr (.inr g))))) := (hfr bs (Or.inr (Or.inl ht_bs)) ).trans hc_bs
    have hc_rd : Mq109_ rd = some (.inr (3, [.ref nb, .ref (zv z vi), .int no, .int wi, .ref by_, .int le, .int ki, .int pl, .int be, .int va])) := (hfr rd (Or.inl hn_rd) ).trans hc_rd
    have hF : ∀ q, FrA T q → q ≠ w → Mq109_ q = M q := fun q hq h0 => (hfr q (FrA.k hq) ).trans (hF q hq h0)
    exact ret_i hC hr hlk hK hH (⟨td, ⟨by omega, by omega⟩, gd, iRg _, bc, ⟨by omega, by omega⟩, py, iRg _, rf, iRg _, lt, iRg _, hc_w, rfl, hF⟩) (Nat.le_of_ble_eq_true rfl) (Nat.le_of_ble_eq_true rfl) dX9_reasonOfLine_429
  · skip
    refine lv_tableIn (off := 400) (tgt := 430) hx hb dX9_reasonOfLine_30 (by omega) (by omega) (by rw [cq5_]; rfl) (by decide) ?_
    refine lv_aload_n hx hb dX9_reasonOfLine_430 rfl (lv_at hl 2 rfl) ?_
    refine xg hC hK hH flX9_12 hc_ro rfl dX9_reasonOfLine_431 ?_
    refine lv_aload_n hx hb dX9_reasonOfLine_434 rfl (lv_at hl 1 rfl) ?_
    refine lv_iconst (v := 0) hx hb dX9_reasonOfLine_435 (by decide) ?_
    refine tild hC hK hH ht_nb rfl (iIn (by decide) (by decide)) dX9_reasonOfLine_436 (fun xq112_ l_xq112_ g_xq112_ => ?_)
    refine lv_aload_n hx hb dX9_reasonOfLine_437 rfl (lv_at hl 1 rfl) ?_
    refine lv_iconst (v := 1) hx hb dX9_reasonOfLine_438 (by decide) ?_
    refine tild hC hK hH ht_nb rfl (iIn (by decide) (by decide)) dX9_reasonOfLine_439 (fun xq113_ l_xq113_ g_xq113_ => ?_)
    refine goI hK hH (runV (As := [.int xq112_, .int xq113_]) (rest := []) hC hK hH (c_X8_releaseOne hc_w hn_w hc_bs ht_cs ht_bs ht_tp (by omega) (by omega) (by omega) hg) mlX9_128 (rcvM hK hH hc_w rfl) ⟨⟨Nat.le_of_ble_eq_true rfl, Nat.le_of_ble_eq_true rfl⟩, Nat.le_of_ble_eq_true rfl, Nat.le_of_ble_eq_true rfl⟩ rfl hl.1 rfl (Nat.le_of_ble_eq_true rfl) dX9_reasonOfLine_440) (fun rq116_ Mq114_ Tq115_ Hq_ lcq_ hP hz hH => ?_)
    try dsimp only at hP
    obtain ⟨(-), eT, hfr⟩ := hP
    have eT := eT.symm; subst eT
    have hc_ro : Mq114_ ro = some (.inr (7, [.ref w, .ref im, .ref rd, .ref rc, .ref cu])) := (hfr ro (Or.inl hn_ro) ).trans hc_ro
    have hc_w : Mq114_ w = some (.inr (6, [.int td, .int gd, .int bc, .int py, .int rf, .int lt, .int tl, .int fp, .ref cs, .ref bs, .ref tp])) := (hfr w (Or.inl hn_w) ).trans hc_w
    have hc_bs : Mq114_ bs = some (.inl (kA 5, 4, .inr (.inr (.inr (.inr g))))) := (hfr bs (Or.inr (Or.inl ht_bs)) ).trans hc_bs
    have hc_rd : Mq114_ rd = some (.inr (3, [.ref nb, .ref (zv z vi), .int no, .int wi, .ref by_, .int le, .int ki, .int pl, .int be, .int va])) := (hfr rd (Or.inl hn_rd) ).trans hc_rd
    have hF : ∀ q, FrA T q → q ≠ w → Mq114_ q = M q := fun q hq h0 => (hfr q (FrA.k hq) ).trans (hF q hq h0)
    exact ret_i hC hr hlk hK hH (⟨td, ⟨by omega, by omega⟩, gd, iRg _, bc, ⟨by omega, by omega⟩, py, iRg _, rf, iRg _, lt, iRg _, hc_w, rfl, hF⟩) (Nat.le_of_ble_eq_true rfl) (Nat.le_of_ble_eq_true rfl) dX9_reasonOfLine_443
  · skip
    refine lv_tableIn (off := 414) (tgt := 444) hx hb dX9_reasonOfLine_30 (by omega) (by omega) (by rw [cq5_]; rfl) (by decide) ?_
    refine lv_aload_n hx hb dX9_reasonOfLine_444 rfl (lv_at hl 2 rfl) ?_
    refine xg hC hK hH flX9_12 hc_ro rfl dX9_reasonOfLine_445 ?_
    refine lv_aload_n hx hb dX9_reasonOfLine_448 rfl (lv_at hl 1 rfl) ?_
    refine lv_iconst (v := 0) hx hb dX9_reasonOfLine_449 (by decide) ?_
    refine tild hC hK hH ht_nb rfl (iIn (by decide) (by decide)) dX9_reasonOfLine_450 (fun xq117_ l_xq117_ g_xq117_ => ?_)
    refine lv_aload_n hx hb dX9_reasonOfLine_451 rfl (lv_at hl 1 rfl) ?_
    refine lv_iconst (v := 1) hx hb dX9_reasonOfLine_452 (by decide) ?_
    refine tild hC hK hH ht_nb rfl (iIn (by decide) (by decide)) dX9_reasonOfLine_453 (fun xq118_ l_xq118_ g_xq118_ => ?_)
    refine goI hK hH (runV (As := [.int xq117_, .int xq118_]) (rest := []) hC hK hH (c_X8_payOne hc_w hn_w hc_bs ht_cs ht_bs ht_tp (by omega) (by omega) (by omega) hg) mlX9_131 (rcvM hK hH hc_w rfl) ⟨⟨Nat.le_of_ble_eq_true rfl, Nat.le_of_ble_eq_true rfl⟩, Nat.le_of_ble_eq_true rfl, Nat.le_of_ble_eq_true rfl⟩ rfl hl.1 rfl (Nat.le_of_ble_eq_true rfl) dX9_reasonOfLine_454) (fun rq121_ Mq119_ Tq120_ Hq_ lcq_ hP hz hH => ?_)
    try dsimp only at hP
    obtain ⟨xq122_, ⟨l_xq122_, g_xq122_⟩, (hx_w), eT, hfr⟩ := hP
    have eT := eT.symm; subst eT
    have hc_ro : Mq119_ ro = some (.inr (7, [.ref w, .ref im, .ref rd, .ref rc, .ref cu])) := (hfr ro (Or.inl hn_ro) n_ro_w).trans hc_ro
    have hc_w : Mq119_ w = some (.inr (6, [.int td, .int gd, .int bc, .int xq122_, .int rf, .int lt, .int tl, .int fp, .ref cs, .ref bs, .ref tp])) := hx_w
    have hc_bs : Mq119_ bs = some (.inl (kA 5, 4, .inr (.inr (.inr (.inr g))))) := (hfr bs (Or.inr ht_bs) n_bs_w).trans hc_bs
    have hc_rd : Mq119_ rd = some (.inr (3, [.ref nb, .ref (zv z vi), .int no, .int wi, .ref by_, .int le, .int ki, .int pl, .int be, .int va])) := (hfr rd (Or.inl hn_rd) n_rd_w).trans hc_rd
    have hF : ∀ q, FrA T q → q ≠ w → Mq119_ q = M q := fun q hq h0 => (hfr q hq  h0).trans (hF q hq h0)
    exact ret_i hC hr hlk hK hH (⟨td, ⟨by omega, by omega⟩, gd, iRg _, bc, ⟨by omega, by omega⟩, xq122_, iRg _, rf, iRg _, lt, iRg _, hc_w, rfl, hF⟩) (Nat.le_of_ble_eq_true rfl) (Nat.le_of_ble_eq_true rfl) dX9_reasonOfLine_457
