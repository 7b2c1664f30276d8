set_option maxHeartbeats 4000000 in
set_option maxRecDepth 100000 in
theorem law_case_24 {p : Program} {e : Env} {s : State} {m : MethodId} {below : List Frame} {meth : Method} {c : Code} {l : Launch} {b L : Nat} {xs : Nat → Int32} (C0 : lw_At p s m meth c b L xs) (hL : L ≤ 3072) {z : zD} {D : va_G} {kA : Nat → ClassId} (hK : mK D kA s) {M : mM} {T : mT} {A : Nat → Prop} (hAq : ∀ q, A q → s.heap.size ≤ q) (hZ : zB z A s) {Hq_ : Heap} {lcq_ : List Loc} {ls : Array Slot} {ro mo : Nat} {i : Int32} {cells slots : Nat} {w im rd rc cu cs bs tp nb by_ vi rb rs rp al mt ii pa li : Nat} {td gd bc py rf lt tl fp no wi le ki pl be vr pm ta fpm sm nx tk plm ln wr : Int32} {va : Int64} {g gi : Nat → Option Nat} {ti fi F : Nat → Int32} (hc_ro : M ro = some (.inr (7, [.ref w, .ref im, .ref rd, .ref rc, .ref cu]))) (hc_w : M w = some (.inr (6, [.int td, .int gd, .int bc, .int py, .int rf, .int lt, .int tl, .int fp, .ref cs, .ref bs, .ref tp]))) (hc_bs : M bs = some (.inl (kA 5, 4, .inr (.inr (.inr (.inr g)))))) (hc_im : M im = some (.inl (kA 6, 3, .inr (.inr (.inr (.inr gi)))))) (hc_rd : M rd = some (.inr (3, [.ref nb, .ref (zv z vi), .int no, .int wi, .ref by_, .int le, .int ki, .int pl, .int be, .int vr]))) (hc_rc : M rc = some (.inr (4, [.ref rb, .ref rs, .ref rp, .int pm]))) (hc_mo : M mo = some (.inr (8, [.ref al, .ref mt, .ref ii, .int ta, .int fpm, .ref pa, .int sm, .int nx, .int tk, .int plm, .int ln, .long va, .int wr, .ref li]))) (hc_al : M al = some (.inl (kA 0, 7506, .inl F))) (hc_ii : M ii = some (.inl (kA 2, 3, .inl fi))) (hn_ro : T ro = none) (hn_w : T w = none) (hn_im : T im = none) (hn_rd : T rd = none) (hn_rc : T rc = none) (hn_mo : T mo = none) (hn_al : T al = none) (hn_ii : T ii = none) (t_cu : T cu = some 9) (t_cs : T cs = some 3) (t_bs : T bs = some 6) (t_tp : T tp = some 7) (t_nb : T nb = some 12) (t_rb : T rb = some 2) (t_rs : T rs = some 3) (t_rp : T rp = some 5) (t_mt : T mt = some 11) (t_pa : T pa = some 13) (t_li : T li = some 14) (htd : 0 ≤ td.toInt ∧ td.toInt ≤ 999) (hbc : 0 ≤ bc.toInt ∧ bc.toInt ≤ 4) (htl : 0 ≤ tl.toInt ∧ tl.toInt ≤ 600) (hvi : vi < 19) (hno : 0 ≤ no.toInt ∧ no.toInt ≤ 1) (hwi : 0 ≤ wi.toInt ∧ wi.toInt ≤ 1) (hpm : 0 ≤ pm.toInt ∧ pm.toInt ≤ 14) (hta : 0 ≤ ta.toInt ∧ ta.toInt ≤ 600) (hRT : ta.toInt = tl.toInt) (hg : ∀ j, j < 4 → ∃ q, g j = some q ∧ T q = some 2) (hg3 : ∀ j, 3 ≤ j → gi j = none) (him : ImsOK kA M T w gi ti) (hR_F : Rng F) (hRI : RelI gi ti fi F) (n_ro_w : ro ≠ w) (n_w_ro : w ≠ ro) (n_ro_bs : ro ≠ bs) (n_bs_ro : bs ≠ ro) (n_ro_im : ro ≠ im) (n_im_ro : im ≠ ro) (n_ro_rd : ro ≠ rd) (n_rd_ro : rd ≠ ro) (n_ro_rc : ro ≠ rc) (n_rc_ro : rc ≠ ro) (n_ro_mo : ro ≠ mo) (n_mo_ro : mo ≠ ro) (n_ro_al : ro ≠ al) (n_al_ro : al ≠ ro) (n_ro_ii : ro ≠ ii) (n_ii_ro : ii ≠ ro) (n_w_bs : w ≠ bs) (n_bs_w : bs ≠ w) (n_w_im : w ≠ im) (n_im_w : im ≠ w) (n_w_rd : w ≠ rd) (n_rd_w : rd ≠ w) (n_w_rc : w ≠ rc) (n_rc_w : rc ≠ w) (n_w_mo : w ≠ mo) (n_mo_w : mo ≠ w) (n_w_al : w ≠ al) (n_al_w : al ≠ w) (n_w_ii : w ≠ ii) (n_ii_w : ii ≠ w) (n_bs_im : bs ≠ im) (n_im_bs : im ≠ bs) (n_bs_rd : bs ≠ rd) (n_rd_bs : rd ≠ bs) (n_bs_rc : bs ≠ rc) (n_rc_bs : rc ≠ bs) (n_bs_mo : bs ≠ mo) (n_mo_bs : mo ≠ bs) (n_bs_al : bs ≠ al) (n_al_bs : al ≠ bs) (n_bs_ii : bs ≠ ii) (n_ii_bs : ii ≠ bs) (n_im_rd : im ≠ rd) (n_rd_im : rd ≠ im) (n_im_rc : im ≠ rc) (n_rc_im : rc ≠ im) (n_im_mo : im ≠ mo) (n_mo_im : mo ≠ im) (n_im_al : im ≠ al) (n_al_im : al ≠ im) (n_im_ii : im ≠ ii) (n_ii_im : ii ≠ im) (n_rd_rc : rd ≠ rc) (n_rc_rd : rc ≠ rd) (n_rd_mo : rd ≠ mo) (n_mo_rd : mo ≠ rd) (n_rd_al : rd ≠ al) (n_al_rd : al ≠ rd) (n_rd_ii : rd ≠ ii) (n_ii_rd : ii ≠ rd) (n_rc_mo : rc ≠ mo) (n_mo_rc : mo ≠ rc) (n_rc_al : rc ≠ al) (n_al_rc : al ≠ rc) (n_rc_ii : rc ≠ ii) (n_ii_rc : ii ≠ rc) (n_mo_al : mo ≠ al) (n_al_mo : al ≠ mo) (n_mo_ii : mo ≠ ii) (n_ii_mo : ii ≠ mo) (n_al_ii : al ≠ ii) (n_ii_al : ii ≠ al) (hi0 : 0 ≤ i.toInt) (hi6 : i.toInt + 6 ≤ (L : Int)) (hcl : cells + 92 ≤ 600000) (hsl : slots + 1627 ≤ 7302250) (hH : mS D kA M T A s.heap Hq_ lcq_) (hl : lv_has ls 4 [(3, .int i), (2, .ref mo), (1, .ref ro), (0, .ref b)]) (kk : ∀ (M1 : mM) (T1 : mT) (H1 : Heap) (locs1 : List Loc) (ls1 : Array Slot) (cl1 sl1 : Nat), LI z kA M1 T1 ro mo → mS D kA M1 T1 A s.heap H1 locs1 → lv_has ls1 4 [(3, .int i), (2, .ref mo), (1, .ref ro), (0, .ref b)] → cl1 ≤ cells + 92 → sl1 ≤ slots + 1627 → W p l e room_1 s m #[Value.ref b] below meth c H1 locs1 cl1 sl1 (lw_Z below #[Value.ref b] s) (F0 m 1370 ls1 [])) : W p l e room_1 s m #[Value.ref b] below meth c Hq_ lcq_ cells slots (lw_Z below #[Value.ref b] s) (F0 m 1100 ls []) := by
  obtain ⟨hx, hb, hr, hml, hown, hts, hX, hbl, hlocks, hgv⟩ := id C0
  have hC : CallFix p m c cL_law 4 s #[Value.ref b] TB RL := ⟨hx, hb, hml, hown, fun w h => hts w (TB_in h)⟩
  have hbA : ¬ A b := fun h => absurd (hAq b h) (Nat.not_le.mpr hbl)
  refine lv_aload_n hx hb dL_law_1100 rfl (lv_at hl 2 rfl) ?_
  refine lv_aload_n hx hb dL_law_1101 rfl (lv_at hl 3 rfl) ?_
  refine lv_iload_n hx hb dL_law_1102 rfl (lv_at hl 0 rfl) ?_
  refine lv_iconst (v := 1) hx hb dL_law_1103 (by decide) ?_
  refine lv_iadd hx hb dL_law_1104 ?_
  refine lv_topi (fun zq1_ e_zq1_ => ?_)
  have h_zq1_ : zq1_.toInt = i.toInt + (1 : Int32).toInt := sIa hi0 hi6 hL e_zq1_ (by decide) (by decide)
  refine va_sld hx hb hX hbl hbA hH.2.1 (sIx hi0 hi6 h_zq1_ (by decide) (by decide)) dL_law_1105 ?_
  refine lv_topi (fun vq2_ e_vq2_ => ?_)
  have hO_rd := hc_rd
  have hO_rc := hc_rc
  have hO_mo := hc_mo
  have hO_al := hc_al
  have hO_ii := hc_ii
  have hO_im := hc_im
  refine goI hK hH (runV (As := [.int vq2_]) (rest := []) hC hK hH (c_X9_reach hc_ro hn_ro hc_w hn_w hc_bs t_cs t_bs t_tp (by exact htd) (by exact hbc) (by exact htl) hg) mlL_118 (rcvM hK hH hc_ro rfl) ⟨⟨Nat.le_of_ble_eq_true rfl, Nat.le_of_ble_eq_true rfl⟩, lcA hcl, lcA hsl⟩ rfl hl.1 rfl (Nat.le_of_ble_eq_true rfl) dL_law_1106) (fun rq5_ Mq3_ Tq4_ Hq_ lcq_ hP hz hH => ?_)
  try dsimp only at hP
  obtain ⟨(-), eT, eM⟩ := hP
  have eT := eT.symm; subst eT
  have eM := eM.symm; subst eM
  refine lv_pop hx hb dL_law_1109 rfl ?_
  refine lv_aload_n hx hb dL_law_1110 rfl (lv_at hl 1 rfl) ?_
  refine lv_aload_n hx hb dL_law_1111 rfl (lv_at hl 3 rfl) ?_
  refine lv_iload_n hx hb dL_law_1112 rfl (lv_at hl 0 rfl) ?_
  refine lv_iconst (v := 1) hx hb dL_law_1113 (by decide) ?_
  refine lv_iadd hx hb dL_law_1114 ?_
  refine lv_cst (v := zq1_) e_zq1_.symm ?_
  refine va_sld hx hb hX hbl hbA hH.2.1 (sIx hi0 hi6 h_zq1_ (by decide) (by decide)) dL_law_1115 ?_
  refine lv_cst (v := vq2_) e_vq2_.symm ?_
  have hO_rd := hc_rd
  have hO_rc := hc_rc
  have hO_mo := hc_mo
  have hO_al := hc_al
  have hO_ii := hc_ii
  have hO_im := hc_im
  refine goI hK hH (runV (As := [.int vq2_]) (rest := []) hC hK hH (c_X10_reach hc_mo hn_mo hc_al hn_al t_mt t_pa t_li (by exact hR_F)) mlL_121 (rcvM hK hH hc_mo rfl) ⟨⟨Nat.le_of_ble_eq_true rfl, Nat.le_of_ble_eq_true rfl⟩, lcA hcl, lcA hsl⟩ rfl hl.1 rfl (Nat.le_of_ble_eq_true rfl) dL_law_1116) (fun rq8_ Mq6_ Tq7_ Hq_ lcq_ hP hz hH => ?_)
  try dsimp only at hP
  obtain ⟨(-), eT, eM⟩ := hP
  have eT := eT.symm; subst eT
  have eM := eM.symm; subst eM
  refine lv_pop hx hb dL_law_1119 rfl ?_
  refine lv_goto (tgt := 1370) hx hb dL_law_1120 (by decide) ?_
  exact kk _ _ _ _ ls _ _ ⟨w, im, rd, rc, cu, cs, bs, tp, nb, by_, vi, rb, rs, rp, al, mt, ii, pa, li, td, gd, bc, py, rf, lt, tl, fp, no, wi, le, ki, pl, be, vr, pm, ta, fpm, sm, nx, tk, plm, ln, wr, va, g, gi, ti, fi, F, hc_ro, hc_w, hc_bs, hc_im, hc_rd, hc_rc, hc_mo, hc_al, hc_ii, hn_ro, hn_w, hn_im, hn_rd, hn_rc, hn_mo, hn_al, hn_ii, t_cu, t_cs, t_bs, t_tp, t_nb, t_rb, t_rs, t_rp, t_mt, t_pa, t_li, htd, hbc, htl, hvi, hno, hwi, hpm, hta, hRT, hg, hg3, him, hR_F, hRI⟩ hH (lv_sub hl [0, 1, 2, 3] rfl) (Nat.le_add_right _ _) (Nat.le_add_right _ _)
set_option maxHeartbeats 4000000 in
set_option maxRecDepth 100000 in
theorem law_case_25 {p : Program} {e : Env} {s : State} {m : MethodId} {below : List Frame} {meth : Method} {c : Code} {l : Launch} {b L : Nat} {xs : Nat → Int32} (C0 : lw_At p s m meth c b L xs) (hL : L ≤ 3072) {z : zD} {D : va_G} {kA : Nat → ClassId} (hK : mK D kA s) {M : mM} {T : mT} {A : Nat → Prop} (hAq : ∀ q, A q → s.heap.size ≤ q) (hZ : zB z A s) {Hq_ : Heap} {lcq_ : List Loc} {ls : Array Slot} {ro mo : Nat} {i : Int32} {cells slots : Nat} {w im rd rc cu cs bs tp nb by_ vi rb rs rp al mt ii pa li : Nat} {td gd bc py rf lt tl fp no wi le ki pl be vr pm ta fpm sm nx tk plm ln wr : Int32} {va : Int64} {g gi : Nat → Option Nat} {ti fi F : Nat → Int32} (hc_ro : M ro = some (.inr (7, [.ref w, .ref im, .ref rd, .ref rc, .ref cu]))) (hc_w : M w = some (.inr (6, [.int td, .int gd, .int bc, .int py, .int rf, .int lt, .int tl, .int fp, .ref cs, .ref bs, .ref tp]))) (hc_bs : M bs = some (.inl (kA 5, 4, .inr (.inr (.inr (.inr g)))))) (hc_im : M im = some (.inl (kA 6, 3, .inr (.inr (.inr (.inr gi)))))) (hc_rd : M rd = some (.inr (3, [.ref nb, .ref (zv z vi), .int no, .int wi, .ref by_, .int le, .int ki, .int pl, .int be, .int vr]))) (hc_rc : M rc = some (.inr (4, [.ref rb, .ref rs, .ref rp, .int pm]))) (hc_mo : M mo = some (.inr (8, [.ref al, .ref mt, .ref ii, .int ta, .int fpm, .ref pa, .int sm, .int nx, .int tk, .int plm, .int ln, .long va, .int wr, .ref li]))) (hc_al : M al = some (.inl (kA 0, 7506, .inl F))) (hc_ii : M ii = some (.inl (kA 2, 3, .inl fi))) (hn_ro : T ro = none) (hn_w : T w = none) (hn_im : T im = none) (hn_rd : T rd = none) (hn_rc : T rc = none) (hn_mo : T mo = none) (hn_al : T al = none) (hn_ii : T ii = none) (t_cu : T cu = some 9) (t_cs : T cs = some 3) (t_bs : T bs = some 6) (t_tp : T tp = some 7) (t_nb : T nb = some 12) (t_rb : T rb = some 2) (t_rs : T rs = some 3) (t_rp : T rp = some 5) (t_mt : T mt = some 11) (t_pa : T pa = some 13) (t_li : T li = some 14) (htd : 0 ≤ td.toInt ∧ td.toInt ≤ 999) (hbc : 0 ≤ bc.toInt ∧ bc.toInt ≤ 4) (htl : 0 ≤ tl.toInt ∧ tl.toInt ≤ 600) (hvi : vi < 19) (hno : 0 ≤ no.toInt ∧ no.toInt ≤ 1) (hwi : 0 ≤ wi.toInt ∧ wi.toInt ≤ 1) (hpm : 0 ≤ pm.toInt ∧ pm.toInt ≤ 14) (hta : 0 ≤ ta.toInt ∧ ta.toInt ≤ 600) (hRT : ta.toInt = tl.toInt) (hg : ∀ j, j < 4 → ∃ q, g j = some q ∧ T q = some 2) (hg3 : ∀ j, 3 ≤ j → gi j = none) (him : ImsOK kA M T w gi ti) (hR_F : Rng F) (hRI : RelI gi ti fi F) (n_ro_w : ro ≠ w) (n_w_ro : w ≠ ro) (n_ro_bs : ro ≠ bs) (n_bs_ro : bs ≠ ro) (n_ro_im : ro ≠ im) (n_im_ro : im ≠ ro) (n_ro_rd : ro ≠ rd) (n_rd_ro : rd ≠ ro) (n_ro_rc : ro ≠ rc) (n_rc_ro : rc ≠ ro) (n_ro_mo : ro ≠ mo) (n_mo_ro : mo ≠ ro) (n_ro_al : ro ≠ al) (n_al_ro : al ≠ ro) (n_ro_ii : ro ≠ ii) (n_ii_ro : ii ≠ ro) (n_w_bs : w ≠ bs) (n_bs_w : bs ≠ w) (n_w_im : w ≠ im) (n_im_w : im ≠ w) (n_w_rd : w ≠ rd) (n_rd_w : rd ≠ w) (n_w_rc : w ≠ rc) (n_rc_w : rc ≠ w) (n_w_mo : w ≠ mo) (n_mo_w : mo ≠ w) (n_w_al : w ≠ al) (n_al_w : al ≠ w) (n_w_ii : w ≠ ii) (n_ii_w : ii ≠ w) (n_bs_im : bs ≠ im) (n_im_bs : im ≠ bs) (n_bs_rd : bs ≠ rd) (n_rd_bs : rd ≠ bs) (n_bs_rc : bs ≠ rc) (n_rc_bs : rc ≠ bs) (n_bs_mo : bs ≠ mo) (n_mo_bs : mo ≠ bs) (n_bs_al : bs ≠ al) (n_al_bs : al ≠ bs) (n_bs_ii : bs ≠ ii) (n_ii_bs : ii ≠ bs) (n_im_rd : im ≠ rd) (n_rd_im : rd ≠ im) (n_im_rc : im ≠ rc) (n_rc_im : rc ≠ im) (n_im_mo : im ≠ mo) (n_mo_im : mo ≠ im) (n_im_al : im ≠ al) (n_al_im : al ≠ im) (n_im_ii : im ≠ ii) (n_ii_im : ii ≠ im) (n_rd_rc : rd ≠ rc) (n_rc_rd : rc ≠ rd) (n_rd_mo : rd ≠ mo) (n_mo_rd : mo ≠ rd) (n_rd_al : rd ≠ al) (n_al_rd : al ≠ rd) (n_rd_ii : rd ≠ ii) (n_ii_rd : ii ≠ rd) (n_rc_mo : rc ≠ mo) (n_mo_rc : mo ≠ rc) (n_rc_al : rc ≠ al) (n_al_rc : al ≠ rc) (n_rc_ii : rc ≠ ii) (n_ii_rc : ii ≠ rc) (n_mo_al : mo ≠ al) (n_al_mo : al ≠ mo) (n_mo_ii : mo ≠ ii) (n_ii_mo : ii ≠ mo) (n_al_ii : al ≠ ii) (n_ii_al : ii ≠ al) (hi0 : 0 ≤ i.toInt) (hi6 : i.toInt + 6 ≤ (L : Int)) (hcl : cells + 92 ≤ 600000) (hsl : slots + 1627 ≤ 7302250) (hH : mS D kA M T A s.heap Hq_ lcq_) (hl : lv_has ls 4 [(3, .int i), (2, .ref mo), (1, .ref ro), (0, .ref b)]) (kk : ∀ (M1 : mM) (T1 : mT) (H1 : Heap) (locs1 : List Loc) (ls1 : Array Slot) (cl1 sl1 : Nat), LI z kA M1 T1 ro mo → mS D kA M1 T1 A s.heap H1 locs1 → lv_has ls1 4 [(3, .int i), (2, .ref mo), (1, .ref ro), (0, .ref b)] → cl1 ≤ cells + 92 → sl1 ≤ slots + 1627 → W p l e room_1 s m #[Value.ref b] below meth c H1 locs1 cl1 sl1 (lw_Z below #[Value.ref b] s) (F0 m 1370 ls1 [])) : W p l e room_1 s m #[Value.ref b] below meth c Hq_ lcq_ cells slots (lw_Z below #[Value.ref b] s) (F0 m 1123 ls []) := by
  obtain ⟨hx, hb, hr, hml, hown, hts, hX, hbl, hlocks, hgv⟩ := id C0
  have hC : CallFix p m c cL_law 4 s #[Value.ref b] TB RL := ⟨hx, hb, hml, hown, fun w h => hts w (TB_in h)⟩
  have hbA : ¬ A b := fun h => absurd (hAq b h) (Nat.not_le.mpr hbl)
  refine lv_aload_n hx hb dL_law_1123 rfl (lv_at hl 2 rfl) ?_
  refine lv_aload_n hx hb dL_law_1124 rfl (lv_at hl 3 rfl) ?_
  refine lv_iload_n hx hb dL_law_1125 rfl (lv_at hl 0 rfl) ?_
  refine lv_iconst (v := 1) hx hb dL_law_1126 (by decide) ?_
  refine lv_iadd hx hb dL_law_1127 ?_
  refine lv_topi (fun zq1_ e_zq1_ => ?_)
  have h_zq1_ : zq1_.toInt = i.toInt + (1 : Int32).toInt := sIa hi0 hi6 hL e_zq1_ (by decide) (by decide)
  refine va_sld hx hb hX hbl hbA hH.2.1 (sIx hi0 hi6 h_zq1_ (by decide) (by decide)) dL_law_1128 ?_
  refine lv_topi (fun vq2_ e_vq2_ => ?_)
  refine lv_aload_n hx hb dL_law_1129 rfl (lv_at hl 3 rfl) ?_
  refine lv_iload_n hx hb dL_law_1130 rfl (lv_at hl 0 rfl) ?_
  refine lv_iconst (v := 2) hx hb dL_law_1131 (by decide) ?_
  refine lv_iadd hx hb dL_law_1132 ?_
  refine lv_topi (fun zq3_ e_zq3_ => ?_)
  have h_zq3_ : zq3_.toInt = i.toInt + (2 : Int32).toInt := sIa hi0 hi6 hL e_zq3_ (by decide) (by decide)
  refine va_sld hx hb hX hbl hbA hH.2.1 (sIx hi0 hi6 h_zq3_ (by decide) (by decide)) dL_law_1133 ?_
  refine lv_topi (fun vq4_ e_vq4_ => ?_)
  have hO_rd := hc_rd
  have hO_rc := hc_rc
  have hO_mo := hc_mo
  have hO_al := hc_al
  have hO_ii := hc_ii
  have hO_im := hc_im
  refine goI hK hH (runV (As := [.int vq2_, .int vq4_]) (rest := []) hC hK hH (c_X9_run hc_ro hn_ro hc_w hn_w hc_bs hc_rc hn_rc t_cs t_bs t_tp t_rb t_rs t_rp (by exact htd) (by exact hbc) (by exact htl) (by exact hpm) hg) mlL_122 (rcvM hK hH hc_ro rfl) ⟨⟨Nat.le_of_ble_eq_true rfl, Nat.le_of_ble_eq_true rfl⟩, lcA hcl, lcA hsl⟩ rfl hl.1 rfl (Nat.le_of_ble_eq_true rfl) dL_law_1134) (fun rq7_ Mq5_ Tq6_ Hq_ lcq_ hP hz hH => ?_)
  try dsimp only at hP
  obtain ⟨xq8_, ⟨l_xq8_, g_xq8_⟩, (hx_rc), eT, hfr⟩ := hP
  have eT := eT.symm; subst eT
  have hc_ro : Mq5_ ro = some (.inr (7, [.ref w, .ref im, .ref rd, .ref rc, .ref cu])) := (hfr ro (Or.inl hn_ro) n_ro_rc).trans hc_ro
  have hc_w : Mq5_ w = some (.inr (6, [.int td, .int gd, .int bc, .int py, .int rf, .int lt, .int tl, .int fp, .ref cs, .ref bs, .ref tp])) := (hfr w (Or.inl hn_w) n_w_rc).trans hc_w
  have hc_bs : Mq5_ bs = some (.inl (kA 5, 4, .inr (.inr (.inr (.inr g))))) := (hfr bs (Or.inr t_bs) n_bs_rc).trans hc_bs
  have hc_im : Mq5_ im = some (.inl (kA 6, 3, .inr (.inr (.inr (.inr gi))))) := (hfr im (Or.inl hn_im) n_im_rc).trans hc_im
  have hc_rd : Mq5_ rd = some (.inr (3, [.ref nb, .ref (zv z vi), .int no, .int wi, .ref by_, .int le, .int ki, .int pl, .int be, .int vr])) := (hfr rd (Or.inl hn_rd) n_rd_rc).trans hc_rd
  have hc_rc : Mq5_ rc = some (.inr (4, [.ref rb, .ref rs, .ref rp, .int xq8_])) := hx_rc
  have hc_mo : Mq5_ mo = some (.inr (8, [.ref al, .ref mt, .ref ii, .int ta, .int fpm, .ref pa, .int sm, .int nx, .int tk, .int plm, .int ln, .long va, .int wr, .ref li])) := (hfr mo (Or.inl hn_mo) n_mo_rc).trans hc_mo
  have hc_al : Mq5_ al = some (.inl (kA 0, 7506, .inl F)) := (hfr al (Or.inl hn_al) n_al_rc).trans hc_al
  have hc_ii : Mq5_ ii = some (.inl (kA 2, 3, .inl fi)) := (hfr ii (Or.inl hn_ii) n_ii_rc).trans hc_ii
  have him : ImsOK kA Mq5_ T w gi ti := him.mv hn_w (fun q hA hw hk => hfr q hA (fun z9 => by rw [z9] at hk; exact nW3 (by decide) (hk _ hO_rc)))
  refine lv_pop hx hb dL_law_1137 rfl ?_
  refine lv_aload_n hx hb dL_law_1138 rfl (lv_at hl 1 rfl) ?_
  refine lv_aload_n hx hb dL_law_1139 rfl (lv_at hl 3 rfl) ?_
  refine lv_iload_n hx hb dL_law_1140 rfl (lv_at hl 0 rfl) ?_
  refine lv_iconst (v := 1) hx hb dL_law_1141 (by decide) ?_
  refine lv_iadd hx hb dL_law_1142 ?_
  refine lv_cst (v := zq1_) e_zq1_.symm ?_
  refine va_sld hx hb hX hbl hbA hH.2.1 (sIx hi0 hi6 h_zq1_ (by decide) (by decide)) dL_law_1143 ?_
  refine lv_cst (v := vq2_) e_vq2_.symm ?_
  refine lv_aload_n hx hb dL_law_1144 rfl (lv_at hl 3 rfl) ?_
  refine lv_iload_n hx hb dL_law_1145 rfl (lv_at hl 0 rfl) ?_
  refine lv_iconst (v := 2) hx hb dL_law_1146 (by decide) ?_
  refine lv_iadd hx hb dL_law_1147 ?_
  refine lv_cst (v := zq3_) e_zq3_.symm ?_
  refine va_sld hx hb hX hbl hbA hH.2.1 (sIx hi0 hi6 h_zq3_ (by decide) (by decide)) dL_law_1148 ?_
  refine lv_cst (v := vq4_) e_vq4_.symm ?_
  have hO_rd := hc_rd
  have hO_rc := hc_rc
  have hO_mo := hc_mo
  have hO_al := hc_al
  have hO_ii := hc_ii
  have hO_im := hc_im
  refine goI hK hH (runV (As := [.int vq2_, .int vq4_]) (rest := []) hC hK hH (c_X10_run hc_mo hn_mo hc_al hn_al t_mt t_pa t_li (by exact hR_F)) mlL_125 (rcvM hK hH hc_mo rfl) ⟨⟨Nat.le_of_ble_eq_true rfl, Nat.le_of_ble_eq_true rfl⟩, lcA hcl, lcA hsl⟩ rfl hl.1 rfl (Nat.le_of_ble_eq_true rfl) dL_law_1149) (fun rq11_ Mq9_ Tq10_ Hq_ lcq_ hP hz hH => ?_)
  try dsimp only at hP
  obtain ⟨gq12_, h_gq12_, (hx_al), eT, hfr⟩ := hP
  have eT := eT.symm; subst eT
  have hc_ro : Mq9_ ro = some (.inr (7, [.ref w, .ref im, .ref rd, .ref rc, .ref cu])) := (hfr ro (Or.inl hn_ro) n_ro_al).trans hc_ro
  have hc_w : Mq9_ w = some (.inr (6, [.int td, .int gd, .int bc, .int py, .int rf, .int lt, .int tl, .int fp, .ref cs, .ref bs, .ref tp])) := (hfr w (Or.inl hn_w) n_w_al).trans hc_w
  have hc_bs : Mq9_ bs = some (.inl (kA 5, 4, .inr (.inr (.inr (.inr g))))) := (hfr bs (Or.inr (Or.inl t_bs)) n_bs_al).trans hc_bs
  have hc_im : Mq9_ im = some (.inl (kA 6, 3, .inr (.inr (.inr (.inr gi))))) := (hfr im (Or.inl hn_im) n_im_al).trans hc_im
  have hc_rd : Mq9_ rd = some (.inr (3, [.ref nb, .ref (zv z vi), .int no, .int wi, .ref by_, .int le, .int ki, .int pl, .int be, .int vr])) := (hfr rd (Or.inl hn_rd) n_rd_al).trans hc_rd
  have hc_rc : Mq9_ rc = some (.inr (4, [.ref rb, .ref rs, .ref rp, .int xq8_])) := (hfr rc (Or.inl hn_rc) n_rc_al).trans hc_rc
  have hc_mo : Mq9_ mo = some (.inr (8, [.ref al, .ref mt, .ref ii, .int ta, .int fpm, .ref pa, .int sm, .int nx, .int tk, .int plm, .int ln, .long va, .int wr, .ref li])) := (hfr mo (Or.inl hn_mo) n_mo_al).trans hc_mo
  have hc_al : Mq9_ al = some (.inl (kA 0, 7506, .inl gq12_)) := hx_al
  have hc_ii : Mq9_ ii = some (.inl (kA 2, 3, .inl fi)) := (hfr ii (Or.inl hn_ii) n_ii_al).trans hc_ii
  have hR_gq12_ : Rng gq12_ := h_gq12_.1
  have hRI := hRI.ke (h_gq12_.2)
  have him : ImsOK kA Mq9_ T w gi ti := him.mv hn_w (fun q hA hw hk => hfr q (FrA.k hA) (fun z9 => by rw [z9] at hk; exact nWi (hk _ hO_al)))
  refine lv_pop hx hb dL_law_1152 rfl ?_
  refine lv_goto (tgt := 1370) hx hb dL_law_1153 (by decide) ?_
  exact kk _ _ _ _ ls _ _ ⟨w, im, rd, rc, cu, cs, bs, tp, nb, by_, vi, rb, rs, rp, al, mt, ii, pa, li, td, gd, bc, py, rf, lt, tl, fp, no, wi, le, ki, pl, be, vr, xq8_, ta, fpm, sm, nx, tk, plm, ln, wr, va, g, gi, ti, fi, gq12_, hc_ro, hc_w, hc_bs, hc_im, hc_rd, hc_rc, hc_mo, hc_al, hc_ii, hn_ro, hn_w, hn_im, hn_rd, hn_rc, hn_mo, hn_al, hn_ii, t_cu, t_cs, t_bs, t_tp, t_nb, t_rb, t_rs, t_rp, t_mt, t_pa, t_li, htd, hbc, htl, hvi, hno, hwi, ⟨l_xq8_, g_xq8_⟩, hta, hRT, hg, hg3, him, hR_gq12_, hRI⟩ hH (lv_sub hl [0, 1, 2, 3] rfl) (Nat.le_add_right _ _) (Nat.le_add_right _ _)
set_option maxHeartbeats 4000000 in
set_option maxRecDepth 100000 in
theorem law_case_26 {p : Program} {e : Env} {s : State} {m : MethodId} {below : List Frame} {meth : Method} {c : Code} {l : Launch} {b L : Nat} {xs : Nat → Int32} (C0 : lw_At p s m meth c b L xs) (hL : L ≤ 3072) {z : zD} {D : va_G} {kA : Nat → ClassId} (hK : mK D kA s) {M : mM} {T : mT} {A : Nat → Prop} (hAq : ∀ q, A q → s.heap.size ≤ q) (hZ : zB z A s) {Hq_ : Heap} {lcq_ : List Loc} {ls : Array Slot} {ro mo : Nat} {i : Int32} {cells slots : Nat} {w im rd rc cu cs bs tp nb by_ vi rb rs rp al mt ii pa li : Nat} {td gd bc py rf lt tl fp no wi le ki pl be vr pm ta fpm sm nx tk plm ln wr : Int32} {va : Int64} {g gi : Nat → Option Nat} {ti fi F : Nat → Int32} (hc_ro : M ro = some (.inr (7, [.ref w, .ref im, .ref rd, .ref rc, .ref cu]))) (hc_w : M w = some (.inr (6, [.int td, .int gd, .int bc, .int py, .int rf, .int lt, .int tl, .int fp, .ref cs, .ref bs, .ref tp]))) (hc_bs : M bs = some (.inl (kA 5, 4, .inr (.inr (.inr (.inr g)))))) (hc_im : M im = some (.inl (kA 6, 3, .inr (.inr (.inr (.inr gi)))))) (hc_rd : M rd = some (.inr (3, [.ref nb, .ref (zv z vi), .int no, .int wi, .ref by_, .int le, .int ki, .int pl, .int be, .int vr]))) (hc_rc : M rc = some (.inr (4, [.ref rb, .ref rs, .ref rp, .int pm]))) (hc_mo : M mo = some (.inr (8, [.ref al, .ref mt, .ref ii, .int ta, .int fpm, .ref pa, .int sm, .int nx, .int tk, .int plm, .int ln, .long va, .int wr, .ref li]))) (hc_al : M al = some (.inl (kA 0, 7506, .inl F))) (hc_ii : M ii = some (.inl (kA 2, 3, .inl fi))) (hn_ro : T ro = none) (hn_w : T w = none) (hn_im : T im = none) (hn_rd : T rd = none) (hn_rc : T rc = none) (hn_mo : T mo = none) (hn_al : T al = none) (hn_ii : T ii = none) (t_cu : T cu = some 9) (t_cs : T cs = some 3) (t_bs : T bs = some 6) (t_tp : T tp = some 7) (t_nb : T nb = some 12) (t_rb : T rb = some 2) (t_rs : T rs = some 3) (t_rp : T rp = some 5) (t_mt : T mt = some 11) (t_pa : T pa = some 13) (t_li : T li = some 14) (htd : 0 ≤ td.toInt ∧ td.toInt ≤ 999) (hbc : 0 ≤ bc.toInt ∧ bc.toInt ≤ 4) (htl : 0 ≤ tl.toInt ∧ tl.toInt ≤ 600) (hvi : vi < 19) (hno : 0 ≤ no.toInt ∧ no.toInt ≤ 1) (hwi : 0 ≤ wi.toInt ∧ wi.toInt ≤ 1) (hpm : 0 ≤ pm.toInt ∧ pm.toInt ≤ 14) (hta : 0 ≤ ta.toInt ∧ ta.toInt ≤ 600) (hRT : ta.toInt = tl.toInt) (hg : ∀ j, j < 4 → ∃ q, g j = some q ∧ T q = some 2) (hg3 : ∀ j, 3 ≤ j → gi j = none) (him : ImsOK kA M T w gi ti) (hR_F : Rng F) (hRI : RelI gi ti fi F) (n_ro_w : ro ≠ w) (n_w_ro : w ≠ ro) (n_ro_bs : ro ≠ bs) (n_bs_ro : bs ≠ ro) (n_ro_im : ro ≠ im) (n_im_ro : im ≠ ro) (n_ro_rd : ro ≠ rd) (n_rd_ro : rd ≠ ro) (n_ro_rc : ro ≠ rc) (n_rc_ro : rc ≠ ro) (n_ro_mo : ro ≠ mo) (n_mo_ro : mo ≠ ro) (n_ro_al : ro ≠ al) (n_al_ro : al ≠ ro) (n_ro_ii : ro ≠ ii) (n_ii_ro : ii ≠ ro) (n_w_bs : w ≠ bs) (n_bs_w : bs ≠ w) (n_w_im : w ≠ im) (n_im_w : im ≠ w) (n_w_rd : w ≠ rd) (n_rd_w : rd ≠ w) (n_w_rc : w ≠ rc) (n_rc_w : rc ≠ w) (n_w_mo : w ≠ mo) (n_mo_w : mo ≠ w) (n_w_al : w ≠ al) (n_al_w : al ≠ w) (n_w_ii : w ≠ ii) (n_ii_w : ii ≠ w) (n_bs_im : bs ≠ im) (n_im_bs : im ≠ bs) (n_bs_rd : bs ≠ rd) (n_rd_bs : rd ≠ bs) (n_bs_rc : bs ≠ rc) (n_rc_bs : rc ≠ bs) (n_bs_mo : bs ≠ mo) (n_mo_bs : mo ≠ bs) (n_bs_al : bs ≠ al) (n_al_bs : al ≠ bs) (n_bs_ii : bs ≠ ii) (n_ii_bs : ii ≠ bs) (n_im_rd : im ≠ rd) (n_rd_im : rd ≠ im) (n_im_rc : im ≠ rc) (n_rc_im : rc ≠ im) (n_im_mo : im ≠ mo) (n_mo_im : mo ≠ im) (n_im_al : im ≠ al) (n_al_im : al ≠ im) (n_im_ii : im ≠ ii) (n_ii_im : ii ≠ im) (n_rd_rc : rd ≠ rc) (n_rc_rd : rc ≠ rd) (n_rd_mo : rd ≠ mo) (n_mo_rd : mo ≠ rd) (n_rd_al : rd ≠ al) (n_al_rd : al ≠ rd) (n_rd_ii : rd ≠ ii) (n_ii_rd : ii ≠ rd) (n_rc_mo : rc ≠ mo) (n_mo_rc : mo ≠ rc) (n_rc_al : rc ≠ al) (n_al_rc : al ≠ rc) (n_rc_ii : rc ≠ ii) (n_ii_rc : ii ≠ rc) (n_mo_al : mo ≠ al) (n_al_mo : al ≠ mo) (n_mo_ii : mo ≠ ii) (n_ii_mo : ii ≠ mo) (n_al_ii : al ≠ ii) (n_ii_al : ii ≠ al) (hi0 : 0 ≤ i.toInt) (hi6 : i.toInt + 6 ≤ (L : Int)) (hcl : cells + 92 ≤ 600000) (hsl : slots + 1627 ≤ 7302250) (hH : mS D kA M T A s.heap Hq_ lcq_) (hl : lv_has ls 4 [(3, .int i), (2, .ref mo), (1, .ref ro), (0, .ref b)]) (kk : ∀ (M1 : mM) (T1 : mT) (H1 : Heap) (locs1 : List Loc) (ls1 : Array Slot) (cl1 sl1 : Nat), LI z kA M1 T1 ro mo → mS D kA M1 T1 A s.heap H1 locs1 → lv_has ls1 4 [(3, .int i), (2, .ref mo), (1, .ref ro), (0, .ref b)] → cl1 ≤ cells + 92 → sl1 ≤ slots + 1627 → W p l e room_1 s m #[Value.ref b] below meth c H1 locs1 cl1 sl1 (lw_Z below #[Value.ref b] s) (F0 m 1370 ls1 [])) : W p l e room_1 s m #[Value.ref b] below meth c Hq_ lcq_ cells slots (lw_Z below #[Value.ref b] s) (F0 m 1156 ls []) := by
  obtain ⟨hx, hb, hr, hml, hown, hts, hX, hbl, hlocks, hgv⟩ := id C0
  have hC : CallFix p m c cL_law 4 s #[Value.ref b] TB RL := ⟨hx, hb, hml, hown, fun w h => hts w (TB_in h)⟩
  have hbA : ¬ A b := fun h => absurd (hAq b h) (Nat.not_le.mpr hbl)
  refine lv_aload_n hx hb dL_law_1156 rfl (lv_at hl 2 rfl) ?_
  refine lv_aload_n hx hb dL_law_1157 rfl (lv_at hl 3 rfl) ?_
  refine lv_iload_n hx hb dL_law_1158 rfl (lv_at hl 0 rfl) ?_
  refine lv_iconst (v := 1) hx hb dL_law_1159 (by decide) ?_
  refine lv_iadd hx hb dL_law_1160 ?_
  refine lv_topi (fun zq1_ e_zq1_ => ?_)
  have h_zq1_ : zq1_.toInt = i.toInt + (1 : Int32).toInt := sIa hi0 hi6 hL e_zq1_ (by decide) (by decide)
  refine va_sld hx hb hX hbl hbA hH.2.1 (sIx hi0 hi6 h_zq1_ (by decide) (by decide)) dL_law_1161 ?_
  refine lv_topi (fun vq2_ e_vq2_ => ?_)
  refine lv_aload_n hx hb dL_law_1162 rfl (lv_at hl 3 rfl) ?_
  refine lv_iload_n hx hb dL_law_1163 rfl (lv_at hl 0 rfl) ?_
  refine lv_iconst (v := 2) hx hb dL_law_1164 (by decide) ?_
  refine lv_iadd hx hb dL_law_1165 ?_
  refine lv_topi (fun zq3_ e_zq3_ => ?_)
  have h_zq3_ : zq3_.toInt = i.toInt + (2 : Int32).toInt := sIa hi0 hi6 hL e_zq3_ (by decide) (by decide)
  refine va_sld hx hb hX hbl hbA hH.2.1 (sIx hi0 hi6 h_zq3_ (by decide) (by decide)) dL_law_1166 ?_
  refine lv_topi (fun vq4_ e_vq4_ => ?_)
  have hO_rd := hc_rd
  have hO_rc := hc_rc
  have hO_mo := hc_mo
  have hO_al := hc_al
  have hO_ii := hc_ii
  have hO_im := hc_im
  refine goI hK hH (runV (As := [.int vq2_, .int vq4_]) (rest := []) hC hK hH (c_X9_gains hc_ro hn_ro hc_w hn_w hc_bs hc_rc hn_rc t_cs t_bs t_tp t_rb t_rs t_rp (by exact htd) (by exact hbc) (by exact htl) (by exact hpm) hg) mlL_126 (rcvM hK hH hc_ro rfl) ⟨⟨Nat.le_of_ble_eq_true rfl, Nat.le_of_ble_eq_true rfl⟩, lcA hcl, lcA hsl⟩ rfl hl.1 rfl (Nat.le_of_ble_eq_true rfl) dL_law_1167) (fun rq7_ Mq5_ Tq6_ Hq_ lcq_ hP hz hH => ?_)
  try dsimp only at hP
  obtain ⟨xq8_, ⟨l_xq8_, g_xq8_⟩, (hx_rc), eT, hfr⟩ := hP
  have eT := eT.symm; subst eT
  have hc_ro : Mq5_ ro = some (.inr (7, [.ref w, .ref im, .ref rd, .ref rc, .ref cu])) := (hfr ro (Or.inl hn_ro) n_ro_rc).trans hc_ro
  have hc_w : Mq5_ w = some (.inr (6, [.int td, .int gd, .int bc, .int py, .int rf, .int lt, .int tl, .int fp, .ref cs, .ref bs, .ref tp])) := (hfr w (Or.inl hn_w) n_w_rc).trans hc_w
  have hc_bs : Mq5_ bs = some (.inl (kA 5, 4, .inr (.inr (.inr (.inr g))))) := (hfr bs (Or.inr t_bs) n_bs_rc).trans hc_bs
  have hc_im : Mq5_ im = some (.inl (kA 6, 3, .inr (.inr (.inr (.inr gi))))) := (hfr im (Or.inl hn_im) n_im_rc).trans hc_im
  have hc_rd : Mq5_ rd = some (.inr (3, [.ref nb, .ref (zv z vi), .int no, .int wi, .ref by_, .int le, .int ki, .int pl, .int be, .int vr])) := (hfr rd (Or.inl hn_rd) n_rd_rc).trans hc_rd
  have hc_rc : Mq5_ rc = some (.inr (4, [.ref rb, .ref rs, .ref rp, .int xq8_])) := hx_rc
  have hc_mo : Mq5_ mo = some (.inr (8, [.ref al, .ref mt, .ref ii, .int ta, .int fpm, .ref pa, .int sm, .int nx, .int tk, .int plm, .int ln, .long va, .int wr, .ref li])) := (hfr mo (Or.inl hn_mo) n_mo_rc).trans hc_mo
  have hc_al : Mq5_ al = some (.inl (kA 0, 7506, .inl F)) := (hfr al (Or.inl hn_al) n_al_rc).trans hc_al
  have hc_ii : Mq5_ ii = some (.inl (kA 2, 3, .inl fi)) := (hfr ii (Or.inl hn_ii) n_ii_rc).trans hc_ii
  have him : ImsOK kA Mq5_ T w gi ti := him.mv hn_w (fun q hA hw hk => hfr q hA (fun z9 => by rw [z9] at hk; exact nW3 (by decide) (hk _ hO_rc)))
  refine lv_pop hx hb dL_law_1170 rfl ?_
  refine lv_aload_n hx hb dL_law_1171 rfl (lv_at hl 1 rfl) ?_
  refine lv_aload_n hx hb dL_law_1172 rfl (lv_at hl 3 rfl) ?_
  refine lv_iload_n hx hb dL_law_1173 rfl (lv_at hl 0 rfl) ?_
  refine lv_iconst (v := 1) hx hb dL_law_1174 (by decide) ?_
  refine lv_iadd hx hb dL_law_1175 ?_
  refine lv_cst (v := zq1_) e_zq1_.symm ?_
  refine va_sld hx hb hX hbl hbA hH.2.1 (sIx hi0 hi6 h_zq1_ (by decide) (by decide)) dL_law_1176 ?_
  refine lv_cst (v := vq2_) e_vq2_.symm ?_
  refine lv_aload_n hx hb dL_law_1177 rfl (lv_at hl 3 rfl) ?_
  refine lv_iload_n hx hb dL_law_1178 rfl (lv_at hl 0 rfl) ?_
  refine lv_iconst (v := 2) hx hb dL_law_1179 (by decide) ?_
  refine lv_iadd hx hb dL_law_1180 ?_
  refine lv_cst (v := zq3_) e_zq3_.symm ?_
  refine va_sld hx hb hX hbl hbA hH.2.1 (sIx hi0 hi6 h_zq3_ (by decide) (by decide)) dL_law_1181 ?_
  refine lv_cst (v := vq4_) e_vq4_.symm ?_
  have hO_rd := hc_rd
  have hO_rc := hc_rc
  have hO_mo := hc_mo
  have hO_al := hc_al
  have hO_ii := hc_ii
  have hO_im := hc_im
  refine goI hK hH (runV (As := [.int vq2_, .int vq4_]) (rest := []) hC hK hH (c_X10_gains hc_mo hn_mo hc_al hn_al t_mt t_pa t_li (by exact hR_F)) mlL_129 (rcvM hK hH hc_mo rfl) ⟨⟨Nat.le_of_ble_eq_true rfl, Nat.le_of_ble_eq_true rfl⟩, lcA hcl, lcA hsl⟩ rfl hl.1 rfl (Nat.le_of_ble_eq_true rfl) dL_law_1182) (fun rq11_ Mq9_ Tq10_ Hq_ lcq_ hP hz hH => ?_)
  try dsimp only at hP
  obtain ⟨gq12_, h_gq12_, (hx_al), eT, hfr⟩ := hP
  have eT := eT.symm; subst eT
  have hc_ro : Mq9_ ro = some (.inr (7, [.ref w, .ref im, .ref rd, .ref rc, .ref cu])) := (hfr ro (Or.inl hn_ro) n_ro_al).trans hc_ro
  have hc_w : Mq9_ w = some (.inr (6, [.int td, .int gd, .int bc, .int py, .int rf, .int lt, .int tl, .int fp, .ref cs, .ref bs, .ref tp])) := (hfr w (Or.inl hn_w) n_w_al).trans hc_w
  have hc_bs : Mq9_ bs = some (.inl (kA 5, 4, .inr (.inr (.inr (.inr g))))) := (hfr bs (Or.inr (Or.inl t_bs)) n_bs_al).trans hc_bs
  have hc_im : Mq9_ im = some (.inl (kA 6, 3, .inr (.inr (.inr (.inr gi))))) := (hfr im (Or.inl hn_im) n_im_al).trans hc_im
  have hc_rd : Mq9_ rd = some (.inr (3, [.ref nb, .ref (zv z vi), .int no, .int wi, .ref by_, .int le, .int ki, .int pl, .int be, .int vr])) := (hfr rd (Or.inl hn_rd) n_rd_al).trans hc_rd
  have hc_rc : Mq9_ rc = some (.inr (4, [.ref rb, .ref rs, .ref rp, .int xq8_])) := (hfr rc (Or.inl hn_rc) n_rc_al).trans hc_rc
  have hc_mo : Mq9_ mo = some (.inr (8, [.ref al, .ref mt, .ref ii, .int ta, .int fpm, .ref pa, .int sm, .int nx, .int tk, .int plm, .int ln, .long va, .int wr, .ref li])) := (hfr mo (Or.inl hn_mo) n_mo_al).trans hc_mo
  have hc_al : Mq9_ al = some (.inl (kA 0, 7506, .inl gq12_)) := hx_al
  have hc_ii : Mq9_ ii = some (.inl (kA 2, 3, .inl fi)) := (hfr ii (Or.inl hn_ii) n_ii_al).trans hc_ii
  have hR_gq12_ : Rng gq12_ := h_gq12_.1
  have hRI := hRI.ke (h_gq12_.2)
  have him : ImsOK kA Mq9_ T w gi ti := him.mv hn_w (fun q hA hw hk => hfr q (FrA.k hA) (fun z9 => by rw [z9] at hk; exact nWi (hk _ hO_al)))
  refine lv_pop hx hb dL_law_1185 rfl ?_
  refine lv_goto (tgt := 1370) hx hb dL_law_1186 (by decide) ?_
  exact kk _ _ _ _ ls _ _ ⟨w, im, rd, rc, cu, cs, bs, tp, nb, by_, vi, rb, rs, rp, al, mt, ii, pa, li, td, gd, bc, py, rf, lt, tl, fp, no, wi, le, ki, pl, be, vr, xq8_, ta, fpm, sm, nx, tk, plm, ln, wr, va, g, gi, ti, fi, gq12_, hc_ro, hc_w, hc_bs, hc_im, hc_rd, hc_rc, hc_mo, hc_al, hc_ii, hn_ro, hn_w, hn_im, hn_rd, hn_rc, hn_mo, hn_al, hn_ii, t_cu, t_cs, t_bs, t_tp, t_nb, t_rb, t_rs, t_rp, t_mt, t_pa, t_li, htd, hbc, htl, hvi, hno, hwi, ⟨l_xq8_, g_xq8_⟩, hta, hRT, hg, hg3, him, hR_gq12_, hRI⟩ hH (lv_sub hl [0, 1, 2, 3] rfl) (Nat.le_add_right _ _) (Nat.le_add_right _ _)
set_option maxHeartbeats 4000000 in
set_option maxRecDepth 100000 in
theorem law_case_27 {p : Program} {e : Env} {s : State} {m : MethodId} {below : List Frame} {meth : Method} {c : Code} {l : Launch} {b L : Nat} {xs : Nat → Int32} (C0 : lw_At p s m meth c b L xs) (hL : L ≤ 3072) {z : zD} {D : va_G} {kA : Nat → ClassId} (hK : mK D kA s) {M : mM} {T : mT} {A : Nat → Prop} (hAq : ∀ q, A q → s.heap.size ≤ q) (hZ : zB z A s) {Hq_ : Heap} {lcq_ : List Loc} {ls : Array Slot} {ro mo : Nat} {i : Int32} {cells slots : Nat} {w im rd rc cu cs bs tp nb by_ vi rb rs rp al mt ii pa li : Nat} {td gd bc py rf lt tl fp no wi le ki pl be vr pm ta fpm sm nx tk plm ln wr : Int32} {va : Int64} {g gi : Nat → Option Nat} {ti fi F : Nat → Int32} (hc_ro : M ro = some (.inr (7, [.ref w, .ref im, .ref rd, .ref rc, .ref cu]))) (hc_w : M w = some (.inr (6, [.int td, .int gd, .int bc, .int py, .int rf, .int lt, .int tl, .int fp, .ref cs, .ref bs, .ref tp]))) (hc_bs : M bs = some (.inl (kA 5, 4, .inr (.inr (.inr (.inr g)))))) (hc_im : M im = some (.inl (kA 6, 3, .inr (.inr (.inr (.inr gi)))))) (hc_rd : M rd = some (.inr (3, [.ref nb, .ref (zv z vi), .int no, .int wi, .ref by_, .int le, .int ki, .int pl, .int be, .int vr]))) (hc_rc : M rc = some (.inr (4, [.ref rb, .ref rs, .ref rp, .int pm]))) (hc_mo : M mo = some (.inr (8, [.ref al, .ref mt, .ref ii, .int ta, .int fpm, .ref pa, .int sm, .int nx, .int tk, .int plm, .int ln, .long va, .int wr, .ref li]))) (hc_al : M al = some (.inl (kA 0, 7506, .inl F))) (hc_ii : M ii = some (.inl (kA 2, 3, .inl fi))) (hn_ro : T ro = none) (hn_w : T w = none) (hn_im : T im = none) (hn_rd : T rd = none) (hn_rc : T rc = none) (hn_mo : T mo = none) (hn_al : T al = none) (hn_ii : T ii = none) (t_cu : T cu = some 9) (t_cs : T cs = some 3) (t_bs : T bs = some 6) (t_tp : T tp = some 7) (t_nb : T nb = some 12) (t_rb : T rb = some 2) (t_rs : T rs = some 3) (t_rp : T rp = some 5) (t_mt : T mt = some 11) (t_pa : T pa = some 13) (t_li : T li = some 14) (htd : 0 ≤ td.toInt ∧ td.toInt ≤ 999) (hbc : 0 ≤ bc.toInt ∧ bc.toInt ≤ 4) (htl : 0 ≤ tl.toInt ∧ tl.toInt ≤ 600) (hvi : vi < 19) (hno : 0 ≤ no.toInt ∧ no.toInt ≤ 1) (hwi : 0 ≤ wi.toInt ∧ wi.toInt ≤ 1) (hpm : 0 ≤ pm.toInt ∧ pm.toInt ≤ 14) (hta : 0 ≤ ta.toInt ∧ ta.toInt ≤ 600) (hRT : ta.toInt = tl.toInt) (hg : ∀ j, j < 4 → ∃ q, g j = some q ∧ T q = some 2) (hg3 : ∀ j, 3 ≤ j → gi j = none) (him : ImsOK kA M T w gi ti) (hR_F : Rng F) (hRI : RelI gi ti fi F) (n_ro_w : ro ≠ w) (n_w_ro : w ≠ ro) (n_ro_bs : ro ≠ bs) (n_bs_ro : bs ≠ ro) (n_ro_im : ro ≠ im) (n_im_ro : im ≠ ro) (n_ro_rd : ro ≠ rd) (n_rd_ro : rd ≠ ro) (n_ro_rc : ro ≠ rc) (n_rc_ro : rc ≠ ro) (n_ro_mo : ro ≠ mo) (n_mo_ro : mo ≠ ro) (n_ro_al : ro ≠ al) (n_al_ro : al ≠ ro) (n_ro_ii : ro ≠ ii) (n_ii_ro : ii ≠ ro) (n_w_bs : w ≠ bs) (n_bs_w : bs ≠ w) (n_w_im : w ≠ im) (n_im_w : im ≠ w) (n_w_rd : w ≠ rd) (n_rd_w : rd ≠ w) (n_w_rc : w ≠ rc) (n_rc_w : rc ≠ w) (n_w_mo : w ≠ mo) (n_mo_w : mo ≠ w) (n_w_al : w ≠ al) (n_al_w : al ≠ w) (n_w_ii : w ≠ ii) (n_ii_w : ii ≠ w) (n_bs_im : bs ≠ im) (n_im_bs : im ≠ bs) (n_bs_rd : bs ≠ rd) (n_rd_bs : rd ≠ bs) (n_bs_rc : bs ≠ rc) (n_rc_bs : rc ≠ bs) (n_bs_mo : bs ≠ mo) (n_mo_bs : mo ≠ bs) (n_bs_al : bs ≠ al) (n_al_bs : al ≠ bs) (n_bs_ii : bs ≠ ii) (n_ii_bs : ii ≠ bs) (n_im_rd : im ≠ rd) (n_rd_im : rd ≠ im) (n_im_rc : im ≠ rc) (n_rc_im : rc ≠ im) (n_im_mo : im ≠ mo) (n_mo_im : mo ≠ im) (n_im_al : im ≠ al) (n_al_im : al ≠ im) (n_im_ii : im ≠ ii) (n_ii_im : ii ≠ im) (n_rd_rc : rd ≠ rc) (n_rc_rd : rc ≠ rd) (n_rd_mo : rd ≠ mo) (n_mo_rd : mo ≠ rd) (n_rd_al : rd ≠ al) (n_al_rd : al ≠ rd) (n_rd_ii : rd ≠ ii) (n_ii_rd : ii ≠ rd) (n_rc_mo : rc ≠ mo) (n_mo_rc : mo ≠ rc) (n_rc_al : rc ≠ al) (n_al_rc : al ≠ rc) (n_rc_ii : rc ≠ ii) (n_ii_rc : ii ≠ rc) (n_mo_al : mo ≠ al) (n_al_mo : al ≠ mo) (n_mo_ii : mo ≠ ii) (n_ii_mo : ii ≠ mo) (n_al_ii : al ≠ ii) (n_ii_al : ii ≠ al) (hi0 : 0 ≤ i.toInt) (hi6 : i.toInt + 6 ≤ (L : Int)) (hcl : cells + 92 ≤ 600000) (hsl : slots + 1627 ≤ 7302250) (hH : mS D kA M T A s.heap Hq_ lcq_) (hl : lv_has ls 4 [(3, .int i), (2, .ref mo), (1, .ref ro), (0, .ref b)]) (kk : ∀ (M1 : mM) (T1 : mT) (H1 : Heap) (locs1 : List Loc) (ls1 : Array Slot) (cl1 sl1 : Nat), LI z kA M1 T1 ro mo → mS D kA M1 T1 A s.heap H1 locs1 → lv_has ls1 4 [(3, .int i), (2, .ref mo), (1, .ref ro), (0, .ref b)] → cl1 ≤ cells + 92 → sl1 ≤ slots + 1627 → W p l e room_1 s m #[Value.ref b] below meth c H1 locs1 cl1 sl1 (lw_Z below #[Value.ref b] s) (F0 m 1370 ls1 [])) : W p l e room_1 s m #[Value.ref b] below meth c Hq_ lcq_ cells slots (lw_Z below #[Value.ref b] s) (F0 m 1189 ls []) := by
  obtain ⟨hx, hb, hr, hml, hown, hts, hX, hbl, hlocks, hgv⟩ := id C0
  have hC : CallFix p m c cL_law 4 s #[Value.ref b] TB RL := ⟨hx, hb, hml, hown, fun w h => hts w (TB_in h)⟩
  have hbA : ¬ A b := fun h => absurd (hAq b h) (Nat.not_le.mpr hbl)
  refine lv_aload_n hx hb dL_law_1189 rfl (lv_at hl 2 rfl) ?_
  refine lv_aload_n hx hb dL_law_1190 rfl (lv_at hl 3 rfl) ?_
  refine lv_iload_n hx hb dL_law_1191 rfl (lv_at hl 0 rfl) ?_
  refine lv_iconst (v := 1) hx hb dL_law_1192 (by decide) ?_
  refine lv_iadd hx hb dL_law_1193 ?_
  refine lv_topi (fun zq1_ e_zq1_ => ?_)
  have h_zq1_ : zq1_.toInt = i.toInt + (1 : Int32).toInt := sIa hi0 hi6 hL e_zq1_ (by decide) (by decide)
  refine va_sld hx hb hX hbl hbA hH.2.1 (sIx hi0 hi6 h_zq1_ (by decide) (by decide)) dL_law_1194 ?_
  refine lv_topi (fun vq2_ e_vq2_ => ?_)
  have hO_rd := hc_rd
  have hO_rc := hc_rc
  have hO_mo := hc_mo
  have hO_al := hc_al
  have hO_ii := hc_ii
  have hO_im := hc_im
  refine goI hK hH (runV (As := [.int vq2_]) (rest := []) hC hK hH (c_X9_ends hc_ro hn_ro hc_w hn_w hc_bs hc_rc hn_rc t_cs t_bs t_tp t_rb t_rs t_rp (by exact htd) (by exact hbc) (by exact htl) (by exact hpm) hg) mlL_130 (rcvM hK hH hc_ro rfl) ⟨⟨Nat.le_of_ble_eq_true rfl, Nat.le_of_ble_eq_true rfl⟩, lcA hcl, lcA hsl⟩ rfl hl.1 rfl (Nat.le_of_ble_eq_true rfl) dL_law_1195) (fun rq5_ Mq3_ Tq4_ Hq_ lcq_ hP hz hH => ?_)
  try dsimp only at hP
  obtain ⟨xq6_, ⟨l_xq6_, g_xq6_⟩, (hx_rc), eT, hfr⟩ := hP
  have eT := eT.symm; subst eT
  have hc_ro : Mq3_ ro = some (.inr (7, [.ref w, .ref im, .ref rd, .ref rc, .ref cu])) := (hfr ro (Or.inl hn_ro) n_ro_rc).trans hc_ro
  have hc_w : Mq3_ w = some (.inr (6, [.int td, .int gd, .int bc, .int py, .int rf, .int lt, .int tl, .int fp, .ref cs, .ref bs, .ref tp])) := (hfr w (Or.inl hn_w) n_w_rc).trans hc_w
  have hc_bs : Mq3_ bs = some (.inl (kA 5, 4, .inr (.inr (.inr (.inr g))))) := (hfr bs (Or.inr t_bs) n_bs_rc).trans hc_bs
  have hc_im : Mq3_ im = some (.inl (kA 6, 3, .inr (.inr (.inr (.inr gi))))) := (hfr im (Or.inl hn_im) n_im_rc).trans hc_im
  have hc_rd : Mq3_ rd = some (.inr (3, [.ref nb, .ref (zv z vi), .int no, .int wi, .ref by_, .int le, .int ki, .int pl, .int be, .int vr])) := (hfr rd (Or.inl hn_rd) n_rd_rc).trans hc_rd
  have hc_rc : Mq3_ rc = some (.inr (4, [.ref rb, .ref rs, .ref rp, .int xq6_])) := hx_rc
  have hc_mo : Mq3_ mo = some (.inr (8, [.ref al, .ref mt, .ref ii, .int ta, .int fpm, .ref pa, .int sm, .int nx, .int tk, .int plm, .int ln, .long va, .int wr, .ref li])) := (hfr mo (Or.inl hn_mo) n_mo_rc).trans hc_mo
  have hc_al : Mq3_ al = some (.inl (kA 0, 7506, .inl F)) := (hfr al (Or.inl hn_al) n_al_rc).trans hc_al
  have hc_ii : Mq3_ ii = some (.inl (kA 2, 3, .inl fi)) := (hfr ii (Or.inl hn_ii) n_ii_rc).trans hc_ii
  have him : ImsOK kA Mq3_ T w gi ti := him.mv hn_w (fun q hA hw hk => hfr q hA (fun z9 => by rw [z9] at hk; exact nW3 (by decide) (hk _ hO_rc)))
  refine lv_pop hx hb dL_law_1198 rfl ?_
  refine lv_aload_n hx hb dL_law_1199 rfl (lv_at hl 1 rfl) ?_
  refine lv_aload_n hx hb dL_law_1200 rfl (lv_at hl 3 rfl) ?_
  refine lv_iload_n hx hb dL_law_1201 rfl (lv_at hl 0 rfl) ?_
  refine lv_iconst (v := 1) hx hb dL_law_1202 (by decide) ?_
  refine lv_iadd hx hb dL_law_1203 ?_
  refine lv_cst (v := zq1_) e_zq1_.symm ?_
  refine va_sld hx hb hX hbl hbA hH.2.1 (sIx hi0 hi6 h_zq1_ (by decide) (by decide)) dL_law_1204 ?_
  refine lv_cst (v := vq2_) e_vq2_.symm ?_
  have hO_rd := hc_rd
  have hO_rc := hc_rc
  have hO_mo := hc_mo
  have hO_al := hc_al
  have hO_ii := hc_ii
  have hO_im := hc_im
  refine goI hK hH (runV (As := [.int vq2_]) (rest := []) hC hK hH (c_X10_ends hc_mo hn_mo hc_al hn_al t_mt t_pa t_li (by exact hR_F)) mlL_133 (rcvM hK hH hc_mo rfl) ⟨⟨Nat.le_of_ble_eq_true rfl, Nat.le_of_ble_eq_true rfl⟩, lcA hcl, lcA hsl⟩ rfl hl.1 rfl (Nat.le_of_ble_eq_true rfl) dL_law_1205) (fun rq9_ Mq7_ Tq8_ Hq_ lcq_ hP hz hH => ?_)
  try dsimp only at hP
  obtain ⟨gq10_, h_gq10_, (hx_al), eT, hfr⟩ := hP
  have eT := eT.symm; subst eT
  have hc_ro : Mq7_ ro = some (.inr (7, [.ref w, .ref im, .ref rd, .ref rc, .ref cu])) := (hfr ro (Or.inl hn_ro) n_ro_al).trans hc_ro
  have hc_w : Mq7_ w = some (.inr (6, [.int td, .int gd, .int bc, .int py, .int rf, .int lt, .int tl, .int fp, .ref cs, .ref bs, .ref tp])) := (hfr w (Or.inl hn_w) n_w_al).trans hc_w
  have hc_bs : Mq7_ bs = some (.inl (kA 5, 4, .inr (.inr (.inr (.inr g))))) := (hfr bs (Or.inr (Or.inl t_bs)) n_bs_al).trans hc_bs
  have hc_im : Mq7_ im = some (.inl (kA 6, 3, .inr (.inr (.inr (.inr gi))))) := (hfr im (Or.inl hn_im) n_im_al).trans hc_im
  have hc_rd : Mq7_ rd = some (.inr (3, [.ref nb, .ref (zv z vi), .int no, .int wi, .ref by_, .int le, .int ki, .int pl, .int be, .int vr])) := (hfr rd (Or.inl hn_rd) n_rd_al).trans hc_rd
  have hc_rc : Mq7_ rc = some (.inr (4, [.ref rb, .ref rs, .ref rp, .int xq6_])) := (hfr rc (Or.inl hn_rc) n_rc_al).trans hc_rc
  have hc_mo : Mq7_ mo = some (.inr (8, [.ref al, .ref mt, .ref ii, .int ta, .int fpm, .ref pa, .int sm, .int nx, .int tk, .int plm, .int ln, .long va, .int wr, .ref li])) := (hfr mo (Or.inl hn_mo) n_mo_al).trans hc_mo
  have hc_al : Mq7_ al = some (.inl (kA 0, 7506, .inl gq10_)) := hx_al
  have hc_ii : Mq7_ ii = some (.inl (kA 2, 3, .inl fi)) := (hfr ii (Or.inl hn_ii) n_ii_al).trans hc_ii
  have hR_gq10_ : Rng gq10_ := h_gq10_.1
  have hRI := hRI.ke (h_gq10_.2)
  have him : ImsOK kA Mq7_ T w gi ti := him.mv hn_w (fun q hA hw hk => hfr q (FrA.k hA) (fun z9 => by rw [z9] at hk; exact nWi (hk _ hO_al)))
  refine lv_pop hx hb dL_law_1208 rfl ?_
  refine lv_goto (tgt := 1370) hx hb dL_law_1209 (by decide) ?_
  exact kk _ _ _ _ ls _ _ ⟨w, im, rd, rc, cu, cs, bs, tp, nb, by_, vi, rb, rs, rp, al, mt, ii, pa, li, td, gd, bc, py, rf, lt, tl, fp, no, wi, le, ki, pl, be, vr, xq6_, ta, fpm, sm, nx, tk, plm, ln, wr, va, g, gi, ti, fi, gq10_, hc_ro, hc_w, hc_bs, hc_im, hc_rd, hc_rc, hc_mo, hc_al, hc_ii, hn_ro, hn_w, hn_im, hn_rd, hn_rc, hn_mo, hn_al, hn_ii, t_cu, t_cs, t_bs, t_tp, t_nb, t_rb, t_rs, t_rp, t_mt, t_pa, t_li, htd, hbc, htl, hvi, hno, hwi, ⟨l_xq6_, g_xq6_⟩, hta, hRT, hg, hg3, him, hR_gq10_, hRI⟩ hH (lv_sub hl [0, 1, 2, 3] rfl) (Nat.le_add_right _ _) (Nat.le_add_right _ _)
