set_option maxHeartbeats 4000000 in
set_option maxRecDepth 100000 in
theorem law_case_12 {p : Program} {e : Env} {s : State} {m : MethodId} {below : List Frame} {meth : Method} {c : Code} {l : Launch} {b L : Nat} {xs : Nat → Int32} (C0 : lw_At p s m meth c b L xs) (hL : L ≤ 3072) {z : zD} {D : va_G} {kA : Nat → ClassId} (hK : mK D kA s) {M : mM} {T : mT} {A : Nat → Prop} (hAq : ∀ q, A q → s.heap.size ≤ q) (hZ : zB z A s) {Hq_ : Heap} {lcq_ : List Loc} {ls : Array Slot} {ro mo : Nat} {i : Int32} {cells slots : Nat} {w im rd rc cu cs bs tp nb by_ vi rb rs rp al mt ii pa li : Nat} {td gd bc py rf lt tl fp no wi le ki pl be vr pm ta fpm sm nx tk plm ln wr : Int32} {va : Int64} {g gi : Nat → Option Nat} {ti fi F : Nat → Int32} (hc_ro : M ro = some (.inr (7, [.ref w, .ref im, .ref rd, .ref rc, .ref cu]))) (hc_w : M w = some (.inr (6, [.int td, .int gd, .int bc, .int py, .int rf, .int lt, .int tl, .int fp, .ref cs, .ref bs, .ref tp]))) (hc_bs : M bs = some (.inl (kA 5, 4, .inr (.inr (.inr (.inr g)))))) (hc_im : M im = some (.inl (kA 6, 3, .inr (.inr (.inr (.inr gi)))))) (hc_rd : M rd = some (.inr (3, [.ref nb, .ref (zv z vi), .int no, .int wi, .ref by_, .int le, .int ki, .int pl, .int be, .int vr]))) (hc_rc : M rc = some (.inr (4, [.ref rb, .ref rs, .ref rp, .int pm]))) (hc_mo : M mo = some (.inr (8, [.ref al, .ref mt, .ref ii, .int ta, .int fpm, .ref pa, .int sm, .int nx, .int tk, .int plm, .int ln, .long va, .int wr, .ref li]))) (hc_al : M al = some (.inl (kA 0, 7506, .inl F))) (hc_ii : M ii = some (.inl (kA 2, 3, .inl fi))) (hn_ro : T ro = none) (hn_w : T w = none) (hn_im : T im = none) (hn_rd : T rd = none) (hn_rc : T rc = none) (hn_mo : T mo = none) (hn_al : T al = none) (hn_ii : T ii = none) (t_cu : T cu = some 9) (t_cs : T cs = some 3) (t_bs : T bs = some 6) (t_tp : T tp = some 7) (t_nb : T nb = some 12) (t_rb : T rb = some 2) (t_rs : T rs = some 3) (t_rp : T rp = some 5) (t_mt : T mt = some 11) (t_pa : T pa = some 13) (t_li : T li = some 14) (htd : 0 ≤ td.toInt ∧ td.toInt ≤ 999) (hbc : 0 ≤ bc.toInt ∧ bc.toInt ≤ 4) (htl : 0 ≤ tl.toInt ∧ tl.toInt ≤ 600) (hvi : vi < 19) (hno : 0 ≤ no.toInt ∧ no.toInt ≤ 1) (hwi : 0 ≤ wi.toInt ∧ wi.toInt ≤ 1) (hpm : 0 ≤ pm.toInt ∧ pm.toInt ≤ 14) (hta : 0 ≤ ta.toInt ∧ ta.toInt ≤ 600) (hRT : ta.toInt = tl.toInt) (hg : ∀ j, j < 4 → ∃ q, g j = some q ∧ T q = some 2) (hg3 : ∀ j, 3 ≤ j → gi j = none) (him : ImsOK kA M T w gi ti) (hR_F : Rng F) (hRI : RelI gi ti fi F) (n_ro_w : ro ≠ w) (n_w_ro : w ≠ ro) (n_ro_bs : ro ≠ bs) (n_bs_ro : bs ≠ ro) (n_ro_im : ro ≠ im) (n_im_ro : im ≠ ro) (n_ro_rd : ro ≠ rd) (n_rd_ro : rd ≠ ro) (n_ro_rc : ro ≠ rc) (n_rc_ro : rc ≠ ro) (n_ro_mo : ro ≠ mo) (n_mo_ro : mo ≠ ro) (n_ro_al : ro ≠ al) (n_al_ro : al ≠ ro) (n_ro_ii : ro ≠ ii) (n_ii_ro : ii ≠ ro) (n_w_bs : w ≠ bs) (n_bs_w : bs ≠ w) (n_w_im : w ≠ im) (n_im_w : im ≠ w) (n_w_rd : w ≠ rd) (n_rd_w : rd ≠ w) (n_w_rc : w ≠ rc) (n_rc_w : rc ≠ w) (n_w_mo : w ≠ mo) (n_mo_w : mo ≠ w) (n_w_al : w ≠ al) (n_al_w : al ≠ w) (n_w_ii : w ≠ ii) (n_ii_w : ii ≠ w) (n_bs_im : bs ≠ im) (n_im_bs : im ≠ bs) (n_bs_rd : bs ≠ rd) (n_rd_bs : rd ≠ bs) (n_bs_rc : bs ≠ rc) (n_rc_bs : rc ≠ bs) (n_bs_mo : bs ≠ mo) (n_mo_bs : mo ≠ bs) (n_bs_al : bs ≠ al) (n_al_bs : al ≠ bs) (n_bs_ii : bs ≠ ii) (n_ii_bs : ii ≠ bs) (n_im_rd : im ≠ rd) (n_rd_im : rd ≠ im) (n_im_rc : im ≠ rc) (n_rc_im : rc ≠ im) (n_im_mo : im ≠ mo) (n_mo_im : mo ≠ im) (n_im_al : im ≠ al) (n_al_im : al ≠ im) (n_im_ii : im ≠ ii) (n_ii_im : ii ≠ im) (n_rd_rc : rd ≠ rc) (n_rc_rd : rc ≠ rd) (n_rd_mo : rd ≠ mo) (n_mo_rd : mo ≠ rd) (n_rd_al : rd ≠ al) (n_al_rd : al ≠ rd) (n_rd_ii : rd ≠ ii) (n_ii_rd : ii ≠ rd) (n_rc_mo : rc ≠ mo) (n_mo_rc : mo ≠ rc) (n_rc_al : rc ≠ al) (n_al_rc : al ≠ rc) (n_rc_ii : rc ≠ ii) (n_ii_rc : ii ≠ rc) (n_mo_al : mo ≠ al) (n_al_mo : al ≠ mo) (n_mo_ii : mo ≠ ii) (n_ii_mo : ii ≠ mo) (n_al_ii : al ≠ ii) (n_ii_al : ii ≠ al) (hi0 : 0 ≤ i.toInt) (hi6 : i.toInt + 6 ≤ (L : Int)) (hcl : cells + 92 ≤ 600000) (hsl : slots + 1627 ≤ 7302250) (hH : mS D kA M T A s.heap Hq_ lcq_) (hl : lv_has ls 4 [(3, .int i), (2, .ref mo), (1, .ref ro), (0, .ref b)]) (kk : ∀ (M1 : mM) (T1 : mT) (H1 : Heap) (locs1 : List Loc) (ls1 : Array Slot) (cl1 sl1 : Nat), LI z kA M1 T1 ro mo → mS D kA M1 T1 A s.heap H1 locs1 → lv_has ls1 4 [(3, .int i), (2, .ref mo), (1, .ref ro), (0, .ref b)] → cl1 ≤ cells + 92 → sl1 ≤ slots + 1627 → W p l e room_1 s m #[Value.ref b] below meth c H1 locs1 cl1 sl1 (lw_Z below #[Value.ref b] s) (F0 m 1370 ls1 [])) : W p l e room_1 s m #[Value.ref b] below meth c Hq_ lcq_ cells slots (lw_Z below #[Value.ref b] s) (F0 m 658 ls []) := by
  obtain ⟨hx, hb, hr, hml, hown, hts, hX, hbl, hlocks, hgv⟩ := id C0
  have hC : CallFix p m c cL_law 4 s #[Value.ref b] TB RL := ⟨hx, hb, hml, hown, fun w h => hts w (TB_in h)⟩
  have hbA : ¬ A b := fun h => absurd (hAq b h) (Nat.not_le.mpr hbl)
  refine lv_aload_n hx hb dL_law_658 rfl (lv_at hl 2 rfl) ?_
  refine lv_aload_n hx hb dL_law_659 rfl (lv_at hl 3 rfl) ?_
  refine lv_iload_n hx hb dL_law_660 rfl (lv_at hl 0 rfl) ?_
  refine lv_iconst (v := 1) hx hb dL_law_661 (by decide) ?_
  refine lv_iadd hx hb dL_law_662 ?_
  refine lv_topi (fun zq1_ e_zq1_ => ?_)
  have h_zq1_ : zq1_.toInt = i.toInt + (1 : Int32).toInt := sIa hi0 hi6 hL e_zq1_ (by decide) (by decide)
  refine va_sld hx hb hX hbl hbA hH.2.1 (sIx hi0 hi6 h_zq1_ (by decide) (by decide)) dL_law_663 ?_
  refine lv_topi (fun vq2_ e_vq2_ => ?_)
  refine lv_aload_n hx hb dL_law_664 rfl (lv_at hl 3 rfl) ?_
  refine lv_iload_n hx hb dL_law_665 rfl (lv_at hl 0 rfl) ?_
  refine lv_iconst (v := 2) hx hb dL_law_666 (by decide) ?_
  refine lv_iadd hx hb dL_law_667 ?_
  refine lv_topi (fun zq3_ e_zq3_ => ?_)
  have h_zq3_ : zq3_.toInt = i.toInt + (2 : Int32).toInt := sIa hi0 hi6 hL e_zq3_ (by decide) (by decide)
  refine va_sld hx hb hX hbl hbA hH.2.1 (sIx hi0 hi6 h_zq3_ (by decide) (by decide)) dL_law_668 ?_
  refine lv_topi (fun vq4_ e_vq4_ => ?_)
  have hO_rd := hc_rd
  have hO_rc := hc_rc
  have hO_mo := hc_mo
  have hO_al := hc_al
  have hO_ii := hc_ii
  have hO_im := hc_im
  refine goI hK hH (runV (As := [.int vq2_, .int vq4_]) (rest := []) hC hK hH (c_X9_find hc_ro hn_ro hc_w hn_w hc_bs t_cs t_bs t_tp (by exact htd) (by exact hbc) (by exact htl) hg) mlL_67 (rcvM hK hH hc_ro rfl) ⟨⟨Nat.le_of_ble_eq_true rfl, Nat.le_of_ble_eq_true rfl⟩, lcA hcl, lcA hsl⟩ rfl hl.1 rfl (Nat.le_of_ble_eq_true rfl) dL_law_669) (fun rq7_ Mq5_ Tq6_ Hq_ lcq_ hP hz hH => ?_)
  try dsimp only at hP
  obtain ⟨xq8_, ⟨l_xq8_, g_xq8_⟩, xq9_, ⟨l_xq9_, g_xq9_⟩, xq10_, ⟨l_xq10_, g_xq10_⟩, xq11_, ⟨l_xq11_, g_xq11_⟩, xq12_, ⟨l_xq12_, g_xq12_⟩, xq13_, ⟨l_xq13_, g_xq13_⟩, (hx_w), eT, hfr⟩ := hP
  have eT := eT.symm; subst eT
  have hc_ro : Mq5_ ro = some (.inr (7, [.ref w, .ref im, .ref rd, .ref rc, .ref cu])) := (hfr ro (Or.inl hn_ro) n_ro_w).trans hc_ro
  have hc_w : Mq5_ w = some (.inr (6, [.int xq8_, .int xq9_, .int xq10_, .int xq11_, .int xq12_, .int xq13_, .int tl, .int fp, .ref cs, .ref bs, .ref tp])) := hx_w
  have hc_bs : Mq5_ bs = some (.inl (kA 5, 4, .inr (.inr (.inr (.inr g))))) := (hfr bs (Or.inr t_bs) n_bs_w).trans hc_bs
  have hc_im : Mq5_ im = some (.inl (kA 6, 3, .inr (.inr (.inr (.inr gi))))) := (hfr im (Or.inl hn_im) n_im_w).trans hc_im
  have hc_rd : Mq5_ rd = some (.inr (3, [.ref nb, .ref (zv z vi), .int no, .int wi, .ref by_, .int le, .int ki, .int pl, .int be, .int vr])) := (hfr rd (Or.inl hn_rd) n_rd_w).trans hc_rd
  have hc_rc : Mq5_ rc = some (.inr (4, [.ref rb, .ref rs, .ref rp, .int pm])) := (hfr rc (Or.inl hn_rc) n_rc_w).trans hc_rc
  have hc_mo : Mq5_ mo = some (.inr (8, [.ref al, .ref mt, .ref ii, .int ta, .int fpm, .ref pa, .int sm, .int nx, .int tk, .int plm, .int ln, .long va, .int wr, .ref li])) := (hfr mo (Or.inl hn_mo) n_mo_w).trans hc_mo
  have hc_al : Mq5_ al = some (.inl (kA 0, 7506, .inl F)) := (hfr al (Or.inl hn_al) n_al_w).trans hc_al
  have hc_ii : Mq5_ ii = some (.inl (kA 2, 3, .inl fi)) := (hfr ii (Or.inl hn_ii) n_ii_w).trans hc_ii
  have him : ImsOK kA Mq5_ T w gi ti := him.mv hn_w (fun q hA hw hk => hfr q hA hw)
  refine lv_pop hx hb dL_law_672 rfl ?_
  refine lv_aload_n hx hb dL_law_673 rfl (lv_at hl 1 rfl) ?_
  refine lv_aload_n hx hb dL_law_674 rfl (lv_at hl 3 rfl) ?_
  refine lv_iload_n hx hb dL_law_675 rfl (lv_at hl 0 rfl) ?_
  refine lv_iconst (v := 1) hx hb dL_law_676 (by decide) ?_
  refine lv_iadd hx hb dL_law_677 ?_
  refine lv_cst (v := zq1_) e_zq1_.symm ?_
  refine va_sld hx hb hX hbl hbA hH.2.1 (sIx hi0 hi6 h_zq1_ (by decide) (by decide)) dL_law_678 ?_
  refine lv_cst (v := vq2_) e_vq2_.symm ?_
  refine lv_aload_n hx hb dL_law_679 rfl (lv_at hl 3 rfl) ?_
  refine lv_iload_n hx hb dL_law_680 rfl (lv_at hl 0 rfl) ?_
  refine lv_iconst (v := 2) hx hb dL_law_681 (by decide) ?_
  refine lv_iadd hx hb dL_law_682 ?_
  refine lv_cst (v := zq3_) e_zq3_.symm ?_
  refine va_sld hx hb hX hbl hbA hH.2.1 (sIx hi0 hi6 h_zq3_ (by decide) (by decide)) dL_law_683 ?_
  refine lv_cst (v := vq4_) e_vq4_.symm ?_
  have hO_rd := hc_rd
  have hO_rc := hc_rc
  have hO_mo := hc_mo
  have hO_al := hc_al
  have hO_ii := hc_ii
  have hO_im := hc_im
  refine goI hK hH (runV (As := [.int vq2_, .int vq4_]) (rest := []) hC hK hH (c_X10_find hc_mo hn_mo hc_al hn_al t_mt t_pa t_li (by exact hR_F)) mlL_70 (rcvM hK hH hc_mo rfl) ⟨⟨Nat.le_of_ble_eq_true rfl, Nat.le_of_ble_eq_true rfl⟩, lcA hcl, lcA hsl⟩ rfl hl.1 rfl (Nat.le_of_ble_eq_true rfl) dL_law_684) (fun rq16_ Mq14_ Tq15_ Hq_ lcq_ hP hz hH => ?_)
  try dsimp only at hP
  obtain ⟨gq17_, h_gq17_, (hx_al), eT, hfr⟩ := hP
  have eT := eT.symm; subst eT
  have hc_ro : Mq14_ ro = some (.inr (7, [.ref w, .ref im, .ref rd, .ref rc, .ref cu])) := (hfr ro (Or.inl hn_ro) n_ro_al).trans hc_ro
  have hc_w : Mq14_ w = some (.inr (6, [.int xq8_, .int xq9_, .int xq10_, .int xq11_, .int xq12_, .int xq13_, .int tl, .int fp, .ref cs, .ref bs, .ref tp])) := (hfr w (Or.inl hn_w) n_w_al).trans hc_w
  have hc_bs : Mq14_ bs = some (.inl (kA 5, 4, .inr (.inr (.inr (.inr g))))) := (hfr bs (Or.inr (Or.inl t_bs)) n_bs_al).trans hc_bs
  have hc_im : Mq14_ im = some (.inl (kA 6, 3, .inr (.inr (.inr (.inr gi))))) := (hfr im (Or.inl hn_im) n_im_al).trans hc_im
  have hc_rd : Mq14_ rd = some (.inr (3, [.ref nb, .ref (zv z vi), .int no, .int wi, .ref by_, .int le, .int ki, .int pl, .int be, .int vr])) := (hfr rd (Or.inl hn_rd) n_rd_al).trans hc_rd
  have hc_rc : Mq14_ rc = some (.inr (4, [.ref rb, .ref rs, .ref rp, .int pm])) := (hfr rc (Or.inl hn_rc) n_rc_al).trans hc_rc
  have hc_mo : Mq14_ mo = some (.inr (8, [.ref al, .ref mt, .ref ii, .int ta, .int fpm, .ref pa, .int sm, .int nx, .int tk, .int plm, .int ln, .long va, .int wr, .ref li])) := (hfr mo (Or.inl hn_mo) n_mo_al).trans hc_mo
  have hc_al : Mq14_ al = some (.inl (kA 0, 7506, .inl gq17_)) := hx_al
  have hc_ii : Mq14_ ii = some (.inl (kA 2, 3, .inl fi)) := (hfr ii (Or.inl hn_ii) n_ii_al).trans hc_ii
  have hR_gq17_ : Rng gq17_ := h_gq17_.1
  have hRI := hRI.ke (h_gq17_.2)
  have him : ImsOK kA Mq14_ T w gi ti := him.mv hn_w (fun q hA hw hk => hfr q (FrA.k hA) (fun z9 => by rw [z9] at hk; exact nWi (hk _ hO_al)))
  refine lv_pop hx hb dL_law_687 rfl ?_
  refine lv_goto (tgt := 1370) hx hb dL_law_688 (by decide) ?_
  exact kk _ _ _ _ ls _ _ ⟨w, im, rd, rc, cu, cs, bs, tp, nb, by_, vi, rb, rs, rp, al, mt, ii, pa, li, xq8_, xq9_, xq10_, xq11_, xq12_, xq13_, tl, fp, no, wi, le, ki, pl, be, vr, pm, ta, fpm, sm, nx, tk, plm, ln, wr, va, g, gi, ti, fi, gq17_, hc_ro, hc_w, hc_bs, hc_im, hc_rd, hc_rc, hc_mo, hc_al, hc_ii, hn_ro, hn_w, hn_im, hn_rd, hn_rc, hn_mo, hn_al, hn_ii, t_cu, t_cs, t_bs, t_tp, t_nb, t_rb, t_rs, t_rp, t_mt, t_pa, t_li, ⟨l_xq8_, g_xq8_⟩, ⟨l_xq10_, g_xq10_⟩, htl, hvi, hno, hwi, hpm, hta, hRT, hg, hg3, him, hR_gq17_, hRI⟩ hH (lv_sub hl [0, 1, 2, 3] rfl) (Nat.le_add_right _ _) (Nat.le_add_right _ _)
set_option maxHeartbeats 4000000 in
set_option maxRecDepth 100000 in
theorem law_case_13 {p : Program} {e : Env} {s : State} {m : MethodId} {below : List Frame} {meth : Method} {c : Code} {l : Launch} {b L : Nat} {xs : Nat → Int32} (C0 : lw_At p s m meth c b L xs) (hL : L ≤ 3072) {z : zD} {D : va_G} {kA : Nat → ClassId} (hK : mK D kA s) {M : mM} {T : mT} {A : Nat → Prop} (hAq : ∀ q, A q → s.heap.size ≤ q) (hZ : zB z A s) {Hq_ : Heap} {lcq_ : List Loc} {ls : Array Slot} {ro mo : Nat} {i : Int32} {cells slots : Nat} {w im rd rc cu cs bs tp nb by_ vi rb rs rp al mt ii pa li : Nat} {td gd bc py rf lt tl fp no wi le ki pl be vr pm ta fpm sm nx tk plm ln wr : Int32} {va : Int64} {g gi : Nat → Option Nat} {ti fi F : Nat → Int32} (hc_ro : M ro = some (.inr (7, [.ref w, .ref im, .ref rd, .ref rc, .ref cu]))) (hc_w : M w = some (.inr (6, [.int td, .int gd, .int bc, .int py, .int rf, .int lt, .int tl, .int fp, .ref cs, .ref bs, .ref tp]))) (hc_bs : M bs = some (.inl (kA 5, 4, .inr (.inr (.inr (.inr g)))))) (hc_im : M im = some (.inl (kA 6, 3, .inr (.inr (.inr (.inr gi)))))) (hc_rd : M rd = some (.inr (3, [.ref nb, .ref (zv z vi), .int no, .int wi, .ref by_, .int le, .int ki, .int pl, .int be, .int vr]))) (hc_rc : M rc = some (.inr (4, [.ref rb, .ref rs, .ref rp, .int pm]))) (hc_mo : M mo = some (.inr (8, [.ref al, .ref mt, .ref ii, .int ta, .int fpm, .ref pa, .int sm, .int nx, .int tk, .int plm, .int ln, .long va, .int wr, .ref li]))) (hc_al : M al = some (.inl (kA 0, 7506, .inl F))) (hc_ii : M ii = some (.inl (kA 2, 3, .inl fi))) (hn_ro : T ro = none) (hn_w : T w = none) (hn_im : T im = none) (hn_rd : T rd = none) (hn_rc : T rc = none) (hn_mo : T mo = none) (hn_al : T al = none) (hn_ii : T ii = none) (t_cu : T cu = some 9) (t_cs : T cs = some 3) (t_bs : T bs = some 6) (t_tp : T tp = some 7) (t_nb : T nb = some 12) (t_rb : T rb = some 2) (t_rs : T rs = some 3) (t_rp : T rp = some 5) (t_mt : T mt = some 11) (t_pa : T pa = some 13) (t_li : T li = some 14) (htd : 0 ≤ td.toInt ∧ td.toInt ≤ 999) (hbc : 0 ≤ bc.toInt ∧ bc.toInt ≤ 4) (htl : 0 ≤ tl.toInt ∧ tl.toInt ≤ 600) (hvi : vi < 19) (hno : 0 ≤ no.toInt ∧ no.toInt ≤ 1) (hwi : 0 ≤ wi.toInt ∧ wi.toInt ≤ 1) (hpm : 0 ≤ pm.toInt ∧ pm.toInt ≤ 14) (hta : 0 ≤ ta.toInt ∧ ta.toInt ≤ 600) (hRT : ta.toInt = tl.toInt) (hg : ∀ j, j < 4 → ∃ q, g j = some q ∧ T q = some 2) (hg3 : ∀ j, 3 ≤ j → gi j = none) (him : ImsOK kA M T w gi ti) (hR_F : Rng F) (hRI : RelI gi ti fi F) (n_ro_w : ro ≠ w) (n_w_ro : w ≠ ro) (n_ro_bs : ro ≠ bs) (n_bs_ro : bs ≠ ro) (n_ro_im : ro ≠ im) (n_im_ro : im ≠ ro) (n_ro_rd : ro ≠ rd) (n_rd_ro : rd ≠ ro) (n_ro_rc : ro ≠ rc) (n_rc_ro : rc ≠ ro) (n_ro_mo : ro ≠ mo) (n_mo_ro : mo ≠ ro) (n_ro_al : ro ≠ al) (n_al_ro : al ≠ ro) (n_ro_ii : ro ≠ ii) (n_ii_ro : ii ≠ ro) (n_w_bs : w ≠ bs) (n_bs_w : bs ≠ w) (n_w_im : w ≠ im) (n_im_w : im ≠ w) (n_w_rd : w ≠ rd) (n_rd_w : rd ≠ w) (n_w_rc : w ≠ rc) (n_rc_w : rc ≠ w) (n_w_mo : w ≠ mo) (n_mo_w : mo ≠ w) (n_w_al : w ≠ al) (n_al_w : al ≠ w) (n_w_ii : w ≠ ii) (n_ii_w : ii ≠ w) (n_bs_im : bs ≠ im) (n_im_bs : im ≠ bs) (n_bs_rd : bs ≠ rd) (n_rd_bs : rd ≠ bs) (n_bs_rc : bs ≠ rc) (n_rc_bs : rc ≠ bs) (n_bs_mo : bs ≠ mo) (n_mo_bs : mo ≠ bs) (n_bs_al : bs ≠ al) (n_al_bs : al ≠ bs) (n_bs_ii : bs ≠ ii) (n_ii_bs : ii ≠ bs) (n_im_rd : im ≠ rd) (n_rd_im : rd ≠ im) (n_im_rc : im ≠ rc) (n_rc_im : rc ≠ im) (n_im_mo : im ≠ mo) (n_mo_im : mo ≠ im) (n_im_al : im ≠ al) (n_al_im : al ≠ im) (n_im_ii : im ≠ ii) (n_ii_im : ii ≠ im) (n_rd_rc : rd ≠ rc) (n_rc_rd : rc ≠ rd) (n_rd_mo : rd ≠ mo) (n_mo_rd : mo ≠ rd) (n_rd_al : rd ≠ al) (n_al_rd : al ≠ rd) (n_rd_ii : rd ≠ ii) (n_ii_rd : ii ≠ rd) (n_rc_mo : rc ≠ mo) (n_mo_rc : mo ≠ rc) (n_rc_al : rc ≠ al) (n_al_rc : al ≠ rc) (n_rc_ii : rc ≠ ii) (n_ii_rc : ii ≠ rc) (n_mo_al : mo ≠ al) (n_al_mo : al ≠ mo) (n_mo_ii : mo ≠ ii) (n_ii_mo : ii ≠ mo) (n_al_ii : al ≠ ii) (n_ii_al : ii ≠ al) (hi0 : 0 ≤ i.toInt) (hi6 : i.toInt + 6 ≤ (L : Int)) (hcl : cells + 92 ≤ 600000) (hsl : slots + 1627 ≤ 7302250) (hH : mS D kA M T A s.heap Hq_ lcq_) (hl : lv_has ls 4 [(3, .int i), (2, .ref mo), (1, .ref ro), (0, .ref b)]) (kk : ∀ (M1 : mM) (T1 : mT) (H1 : Heap) (locs1 : List Loc) (ls1 : Array Slot) (cl1 sl1 : Nat), LI z kA M1 T1 ro mo → mS D kA M1 T1 A s.heap H1 locs1 → lv_has ls1 4 [(3, .int i), (2, .ref mo), (1, .ref ro), (0, .ref b)] → cl1 ≤ cells + 92 → sl1 ≤ slots + 1627 → W p l e room_1 s m #[Value.ref b] below meth c H1 locs1 cl1 sl1 (lw_Z below #[Value.ref b] s) (F0 m 1370 ls1 [])) : W p l e room_1 s m #[Value.ref b] below meth c Hq_ lcq_ cells slots (lw_Z below #[Value.ref b] s) (F0 m 691 ls []) := by
  obtain ⟨hx, hb, hr, hml, hown, hts, hX, hbl, hlocks, hgv⟩ := id C0
  have hC : CallFix p m c cL_law 4 s #[Value.ref b] TB RL := ⟨hx, hb, hml, hown, fun w h => hts w (TB_in h)⟩
  have hbA : ¬ A b := fun h => absurd (hAq b h) (Nat.not_le.mpr hbl)
  refine lv_aload_n hx hb dL_law_691 rfl (lv_at hl 2 rfl) ?_
  refine lv_aload_n hx hb dL_law_692 rfl (lv_at hl 3 rfl) ?_
  refine lv_iload_n hx hb dL_law_693 rfl (lv_at hl 0 rfl) ?_
  refine lv_iconst (v := 1) hx hb dL_law_694 (by decide) ?_
  refine lv_iadd hx hb dL_law_695 ?_
  refine lv_topi (fun zq1_ e_zq1_ => ?_)
  have h_zq1_ : zq1_.toInt = i.toInt + (1 : Int32).toInt := sIa hi0 hi6 hL e_zq1_ (by decide) (by decide)
  refine va_sld hx hb hX hbl hbA hH.2.1 (sIx hi0 hi6 h_zq1_ (by decide) (by decide)) dL_law_696 ?_
  refine lv_topi (fun vq2_ e_vq2_ => ?_)
  refine lv_aload_n hx hb dL_law_697 rfl (lv_at hl 3 rfl) ?_
  refine lv_iload_n hx hb dL_law_698 rfl (lv_at hl 0 rfl) ?_
  refine lv_iconst (v := 2) hx hb dL_law_699 (by decide) ?_
  refine lv_iadd hx hb dL_law_700 ?_
  refine lv_topi (fun zq3_ e_zq3_ => ?_)
  have h_zq3_ : zq3_.toInt = i.toInt + (2 : Int32).toInt := sIa hi0 hi6 hL e_zq3_ (by decide) (by decide)
  refine va_sld hx hb hX hbl hbA hH.2.1 (sIx hi0 hi6 h_zq3_ (by decide) (by decide)) dL_law_701 ?_
  refine lv_topi (fun vq4_ e_vq4_ => ?_)
  refine lv_aload_n hx hb dL_law_702 rfl (lv_at hl 3 rfl) ?_
  refine lv_iload_n hx hb dL_law_703 rfl (lv_at hl 0 rfl) ?_
  refine lv_iconst (v := 3) hx hb dL_law_704 (by decide) ?_
  refine lv_iadd hx hb dL_law_705 ?_
  refine lv_topi (fun zq5_ e_zq5_ => ?_)
  have h_zq5_ : zq5_.toInt = i.toInt + (3 : Int32).toInt := sIa hi0 hi6 hL e_zq5_ (by decide) (by decide)
  refine va_sld hx hb hX hbl hbA hH.2.1 (sIx hi0 hi6 h_zq5_ (by decide) (by decide)) dL_law_706 ?_
  refine lv_topi (fun vq6_ e_vq6_ => ?_)
  refine jif_eq (tgt := 714) hx hb dL_law_707 (by decide) (fun cq7_ => ?_) (fun cq7_ => ?_)
  · skip
    have cq7_ : vq6_.toInt = 0 := cq7_
    refine lv_iconst (v := 0) hx hb dL_law_714 (by decide) ?_
    have hO_rd := hc_rd
    have hO_rc := hc_rc
    have hO_mo := hc_mo
    have hO_al := hc_al
    have hO_ii := hc_ii
    have hO_im := hc_im
    refine goI hK hH (runV (As := [.int vq2_, .int vq4_, .int 0]) (rest := []) hC hK hH (c_X9_defend hc_ro hn_ro hc_w hn_w hc_bs t_cs t_bs t_tp (by exact htd) (by exact hbc) (by exact htl) hg) mlL_71 (rcvM hK hH hc_ro rfl) ⟨⟨Nat.le_of_ble_eq_true rfl, Nat.le_of_ble_eq_true rfl⟩, lcA hcl, lcA hsl⟩ rfl hl.1 rfl (Nat.le_of_ble_eq_true rfl) dL_law_715) (fun rq10_ Mq8_ Tq9_ Hq_ lcq_ hP hz hH => ?_)
    try dsimp only at hP
    obtain ⟨xq11_, ⟨l_xq11_, g_xq11_⟩, xq12_, ⟨l_xq12_, g_xq12_⟩, xq13_, ⟨l_xq13_, g_xq13_⟩, xq14_, ⟨l_xq14_, g_xq14_⟩, xq15_, ⟨l_xq15_, g_xq15_⟩, xq16_, ⟨l_xq16_, g_xq16_⟩, (hx_w), eT, hfr⟩ := hP
    have eT := eT.symm; subst eT
    have hc_ro : Mq8_ ro = some (.inr (7, [.ref w, .ref im, .ref rd, .ref rc, .ref cu])) := (hfr ro (Or.inl hn_ro) n_ro_w).trans hc_ro
    have hc_w : Mq8_ w = some (.inr (6, [.int xq11_, .int xq12_, .int xq13_, .int xq14_, .int xq15_, .int xq16_, .int tl, .int fp, .ref cs, .ref bs, .ref tp])) := hx_w
    have hc_bs : Mq8_ bs = some (.inl (kA 5, 4, .inr (.inr (.inr (.inr g))))) := (hfr bs (Or.inr (Or.inl t_bs)) n_bs_w).trans hc_bs
    have hc_im : Mq8_ im = some (.inl (kA 6, 3, .inr (.inr (.inr (.inr gi))))) := (hfr im (Or.inl hn_im) n_im_w).trans hc_im
    have hc_rd : Mq8_ rd = some (.inr (3, [.ref nb, .ref (zv z vi), .int no, .int wi, .ref by_, .int le, .int ki, .int pl, .int be, .int vr])) := (hfr rd (Or.inl hn_rd) n_rd_w).trans hc_rd
    have hc_rc : Mq8_ rc = some (.inr (4, [.ref rb, .ref rs, .ref rp, .int pm])) := (hfr rc (Or.inl hn_rc) n_rc_w).trans hc_rc
    have hc_mo : Mq8_ mo = some (.inr (8, [.ref al, .ref mt, .ref ii, .int ta, .int fpm, .ref pa, .int sm, .int nx, .int tk, .int plm, .int ln, .long va, .int wr, .ref li])) := (hfr mo (Or.inl hn_mo) n_mo_w).trans hc_mo
    have hc_al : Mq8_ al = some (.inl (kA 0, 7506, .inl F)) := (hfr al (Or.inl hn_al) n_al_w).trans hc_al
    have hc_ii : Mq8_ ii = some (.inl (kA 2, 3, .inl fi)) := (hfr ii (Or.inl hn_ii) n_ii_w).trans hc_ii
    have him : ImsOK kA Mq8_ T w gi ti := him.mv hn_w (fun q hA hw hk => hfr q (FrA.k hA) hw)
    refine lv_pop hx hb dL_law_718 rfl ?_
    refine lv_aload_n hx hb dL_law_719 rfl (lv_at hl 1 rfl) ?_
    refine lv_aload_n hx hb dL_law_720 rfl (lv_at hl 3 rfl) ?_
    refine lv_iload_n hx hb dL_law_721 rfl (lv_at hl 0 rfl) ?_
    refine lv_iconst (v := 1) hx hb dL_law_722 (by decide) ?_
    refine lv_iadd hx hb dL_law_723 ?_
    refine lv_cst (v := zq1_) e_zq1_.symm ?_
    refine va_sld hx hb hX hbl hbA hH.2.1 (sIx hi0 hi6 h_zq1_ (by decide) (by decide)) dL_law_724 ?_
    refine lv_cst (v := vq2_) e_vq2_.symm ?_
    refine lv_aload_n hx hb dL_law_725 rfl (lv_at hl 3 rfl) ?_
    refine lv_iload_n hx hb dL_law_726 rfl (lv_at hl 0 rfl) ?_
    refine lv_iconst (v := 2) hx hb dL_law_727 (by decide) ?_
    refine lv_iadd hx hb dL_law_728 ?_
    refine lv_cst (v := zq3_) e_zq3_.symm ?_
    refine va_sld hx hb hX hbl hbA hH.2.1 (sIx hi0 hi6 h_zq3_ (by decide) (by decide)) dL_law_729 ?_
    refine lv_cst (v := vq4_) e_vq4_.symm ?_
    refine lv_aload_n hx hb dL_law_730 rfl (lv_at hl 3 rfl) ?_
    refine lv_iload_n hx hb dL_law_731 rfl (lv_at hl 0 rfl) ?_
    refine lv_iconst (v := 3) hx hb dL_law_732 (by decide) ?_
    refine lv_iadd hx hb dL_law_733 ?_
    refine lv_cst (v := zq5_) e_zq5_.symm ?_
    refine va_sld hx hb hX hbl hbA hH.2.1 (sIx hi0 hi6 h_zq5_ (by decide) (by decide)) dL_law_734 ?_
    refine lv_cst (v := vq6_) e_vq6_.symm ?_
    refine jif_eq (tgt := 742) hx hb dL_law_735 (by decide) (fun cq17_ => ?_) (fun cq17_ => absurd cq17_ (by have := iRg vq6_; have : (0 : Int32).toInt = 0 := rfl; omega))
    have cq17_ : vq6_.toInt = 0 := cq17_
    refine lv_iconst (v := 0) hx hb dL_law_742 (by decide) ?_
    have hO_rd := hc_rd
    have hO_rc := hc_rc
    have hO_mo := hc_mo
    have hO_al := hc_al
    have hO_ii := hc_ii
    have hO_im := hc_im
    refine goI hK hH (runV (As := [.int vq2_, .int vq4_, .int 0]) (rest := []) hC hK hH (c_X10_defend hc_mo hn_mo hc_al hn_al t_mt t_pa t_li (by exact hR_F)) mlL_75 (rcvM hK hH hc_mo rfl) ⟨⟨Nat.le_of_ble_eq_true rfl, Nat.le_of_ble_eq_true rfl⟩, lcA hcl, lcA hsl⟩ rfl hl.1 rfl (Nat.le_of_ble_eq_true rfl) dL_law_743) (fun rq20_ Mq18_ Tq19_ Hq_ lcq_ hP hz hH => ?_)
    try dsimp only at hP
    obtain ⟨gq21_, h_gq21_, (hx_al), eT, hfr⟩ := hP
    have eT := eT.symm; subst eT
    have hc_ro : Mq18_ ro = some (.inr (7, [.ref w, .ref im, .ref rd, .ref rc, .ref cu])) := (hfr ro (Or.inl hn_ro) n_ro_al).trans hc_ro
    have hc_w : Mq18_ w = some (.inr (6, [.int xq11_, .int xq12_, .int xq13_, .int xq14_, .int xq15_, .int xq16_, .int tl, .int fp, .ref cs, .ref bs, .ref tp])) := (hfr w (Or.inl hn_w) n_w_al).trans hc_w
    have hc_bs : Mq18_ bs = some (.inl (kA 5, 4, .inr (.inr (.inr (.inr g))))) := (hfr bs (Or.inr (Or.inl t_bs)) n_bs_al).trans hc_bs
    have hc_im : Mq18_ im = some (.inl (kA 6, 3, .inr (.inr (.inr (.inr gi))))) := (hfr im (Or.inl hn_im) n_im_al).trans hc_im
    have hc_rd : Mq18_ rd = some (.inr (3, [.ref nb, .ref (zv z vi), .int no, .int wi, .ref by_, .int le, .int ki, .int pl, .int be, .int vr])) := (hfr rd (Or.inl hn_rd) n_rd_al).trans hc_rd
    have hc_rc : Mq18_ rc = some (.inr (4, [.ref rb, .ref rs, .ref rp, .int pm])) := (hfr rc (Or.inl hn_rc) n_rc_al).trans hc_rc
    have hc_mo : Mq18_ mo = some (.inr (8, [.ref al, .ref mt, .ref ii, .int ta, .int fpm, .ref pa, .int sm, .int nx, .int tk, .int plm, .int ln, .long va, .int wr, .ref li])) := (hfr mo (Or.inl hn_mo) n_mo_al).trans hc_mo
    have hc_al : Mq18_ al = some (.inl (kA 0, 7506, .inl gq21_)) := hx_al
    have hc_ii : Mq18_ ii = some (.inl (kA 2, 3, .inl fi)) := (hfr ii (Or.inl hn_ii) n_ii_al).trans hc_ii
    have hR_gq21_ : Rng gq21_ := h_gq21_.1
    have hRI := hRI.ke (h_gq21_.2)
    have him : ImsOK kA Mq18_ T w gi ti := him.mv hn_w (fun q hA hw hk => hfr q (FrA.k hA) (fun z9 => by rw [z9] at hk; exact nWi (hk _ hO_al)))
    refine lv_pop hx hb dL_law_746 rfl ?_
    refine lv_goto (tgt := 1370) hx hb dL_law_747 (by decide) ?_
    exact kk _ _ _ _ ls _ _ ⟨w, im, rd, rc, cu, cs, bs, tp, nb, by_, vi, rb, rs, rp, al, mt, ii, pa, li, xq11_, xq12_, xq13_, xq14_, xq15_, xq16_, tl, fp, no, wi, le, ki, pl, be, vr, pm, ta, fpm, sm, nx, tk, plm, ln, wr, va, g, gi, ti, fi, gq21_, hc_ro, hc_w, hc_bs, hc_im, hc_rd, hc_rc, hc_mo, hc_al, hc_ii, hn_ro, hn_w, hn_im, hn_rd, hn_rc, hn_mo, hn_al, hn_ii, t_cu, t_cs, t_bs, t_tp, t_nb, t_rb, t_rs, t_rp, t_mt, t_pa, t_li, ⟨l_xq11_, g_xq11_⟩, ⟨l_xq13_, g_xq13_⟩, htl, hvi, hno, hwi, hpm, hta, hRT, hg, hg3, him, hR_gq21_, hRI⟩ hH (lv_sub hl [0, 1, 2, 3] rfl) (Nat.le_add_right _ _) (Nat.le_add_right _ _)
  · skip
    have cq7_ : vq6_.toInt ≠ 0 := cq7_
    refine lv_iconst (v := 1) hx hb dL_law_710 (by decide) ?_
    refine lv_goto (tgt := 715) hx hb dL_law_711 (by decide) ?_
    have hO_rd := hc_rd
    have hO_rc := hc_rc
    have hO_mo := hc_mo
    have hO_al := hc_al
    have hO_ii := hc_ii
    have hO_im := hc_im
    refine goI hK hH (runV (As := [.int vq2_, .int vq4_, .int 1]) (rest := []) hC hK hH (c_X9_defend hc_ro hn_ro hc_w hn_w hc_bs t_cs t_bs t_tp (by exact htd) (by exact hbc) (by exact htl) hg) mlL_71 (rcvM hK hH hc_ro rfl) ⟨⟨Nat.le_of_ble_eq_true rfl, Nat.le_of_ble_eq_true rfl⟩, lcA hcl, lcA hsl⟩ rfl hl.1 rfl (Nat.le_of_ble_eq_true rfl) dL_law_715) (fun rq24_ Mq22_ Tq23_ Hq_ lcq_ hP hz hH => ?_)
    try dsimp only at hP
    obtain ⟨xq25_, ⟨l_xq25_, g_xq25_⟩, xq26_, ⟨l_xq26_, g_xq26_⟩, xq27_, ⟨l_xq27_, g_xq27_⟩, xq28_, ⟨l_xq28_, g_xq28_⟩, xq29_, ⟨l_xq29_, g_xq29_⟩, xq30_, ⟨l_xq30_, g_xq30_⟩, (hx_w), eT, hfr⟩ := hP
    have eT := eT.symm; subst eT
    have hc_ro : Mq22_ ro = some (.inr (7, [.ref w, .ref im, .ref rd, .ref rc, .ref cu])) := (hfr ro (Or.inl hn_ro) n_ro_w).trans hc_ro
    have hc_w : Mq22_ w = some (.inr (6, [.int xq25_, .int xq26_, .int xq27_, .int xq28_, .int xq29_, .int xq30_, .int tl, .int fp, .ref cs, .ref bs, .ref tp])) := hx_w
    have hc_bs : Mq22_ bs = some (.inl (kA 5, 4, .inr (.inr (.inr (.inr g))))) := (hfr bs (Or.inr (Or.inl t_bs)) n_bs_w).trans hc_bs
    have hc_im : Mq22_ im = some (.inl (kA 6, 3, .inr (.inr (.inr (.inr gi))))) := (hfr im (Or.inl hn_im) n_im_w).trans hc_im
    have hc_rd : Mq22_ rd = some (.inr (3, [.ref nb, .ref (zv z vi), .int no, .int wi, .ref by_, .int le, .int ki, .int pl, .int be, .int vr])) := (hfr rd (Or.inl hn_rd) n_rd_w).trans hc_rd
    have hc_rc : Mq22_ rc = some (.inr (4, [.ref rb, .ref rs, .ref rp, .int pm])) := (hfr rc (Or.inl hn_rc) n_rc_w).trans hc_rc
    have hc_mo : Mq22_ mo = some (.inr (8, [.ref al, .ref mt, .ref ii, .int ta, .int fpm, .ref pa, .int sm, .int nx, .int tk, .int plm, .int ln, .long va, .int wr, .ref li])) := (hfr mo (Or.inl hn_mo) n_mo_w).trans hc_mo
    have hc_al : Mq22_ al = some (.inl (kA 0, 7506, .inl F)) := (hfr al (Or.inl hn_al) n_al_w).trans hc_al
    have hc_ii : Mq22_ ii = some (.inl (kA 2, 3, .inl fi)) := (hfr ii (Or.inl hn_ii) n_ii_w).trans hc_ii
    have him : ImsOK kA Mq22_ T w gi ti := him.mv hn_w (fun q hA hw hk => hfr q (FrA.k hA) hw)
    refine lv_pop hx hb dL_law_718 rfl ?_
    refine lv_aload_n hx hb dL_law_719 rfl (lv_at hl 1 rfl) ?_
    refine lv_aload_n hx hb dL_law_720 rfl (lv_at hl 3 rfl) ?_
    refine lv_iload_n hx hb dL_law_721 rfl (lv_at hl 0 rfl) ?_
    refine lv_iconst (v := 1) hx hb dL_law_722 (by decide) ?_
    refine lv_iadd hx hb dL_law_723 ?_
    refine lv_cst (v := zq1_) e_zq1_.symm ?_
    refine va_sld hx hb hX hbl hbA hH.2.1 (sIx hi0 hi6 h_zq1_ (by decide) (by decide)) dL_law_724 ?_
    refine lv_cst (v := vq2_) e_vq2_.symm ?_
    refine lv_aload_n hx hb dL_law_725 rfl (lv_at hl 3 rfl) ?_
    refine lv_iload_n hx hb dL_law_726 rfl (lv_at hl 0 rfl) ?_
    refine lv_iconst (v := 2) hx hb dL_law_727 (by decide) ?_
    refine lv_iadd hx hb dL_law_728 ?_
    refine lv_cst (v := zq3_) e_zq3_.symm ?_
    refine va_sld hx hb hX hbl hbA hH.2.1 (sIx hi0 hi6 h_zq3_ (by decide) (by decide)) dL_law_729 ?_
    refine lv_cst (v := vq4_) e_vq4_.symm ?_
    refine lv_aload_n hx hb dL_law_730 rfl (lv_at hl 3 rfl) ?_
    refine lv_iload_n hx hb dL_law_731 rfl (lv_at hl 0 rfl) ?_
    refine lv_iconst (v := 3) hx hb dL_law_732 (by decide) ?_
    refine lv_iadd hx hb dL_law_733 ?_
    refine lv_cst (v := zq5_) e_zq5_.symm ?_
    refine va_sld hx hb hX hbl hbA hH.2.1 (sIx hi0 hi6 h_zq5_ (by decide) (by decide)) dL_law_734 ?_
    refine lv_cst (v := vq6_) e_vq6_.symm ?_
    refine jif_eq (tgt := 742) hx hb dL_law_735 (by decide) (fun cq31_ => ?_) (fun cq31_ => ?_)
    · skip
      have cq31_ : vq6_.toInt = 0 := cq31_
      refine lv_iconst (v := 0) hx hb dL_law_742 (by decide) ?_
      have hO_rd := hc_rd
      have hO_rc := hc_rc
      have hO_mo := hc_mo
      have hO_al := hc_al
      have hO_ii := hc_ii
      have hO_im := hc_im
      refine goI hK hH (runV (As := [.int vq2_, .int vq4_, .int 0]) (rest := []) hC hK hH (c_X10_defend hc_mo hn_mo hc_al hn_al t_mt t_pa t_li (by exact hR_F)) mlL_75 (rcvM hK hH hc_mo rfl) ⟨⟨Nat.le_of_ble_eq_true rfl, Nat.le_of_ble_eq_true rfl⟩, lcA hcl, lcA hsl⟩ rfl hl.1 rfl (Nat.le_of_ble_eq_true rfl) dL_law_743) (fun rq34_ Mq32_ Tq33_ Hq_ lcq_ hP hz hH => ?_)
      try dsimp only at hP
      obtain ⟨gq35_, h_gq35_, (hx_al), eT, hfr⟩ := hP
      have eT := eT.symm; subst eT
      have hc_ro : Mq32_ ro = some (.inr (7, [.ref w, .ref im, .ref rd, .ref rc, .ref cu])) := (hfr ro (Or.inl hn_ro) n_ro_al).trans hc_ro
      have hc_w : Mq32_ w = some (.inr (6, [.int xq25_, .int xq26_, .int xq27_, .int xq28_, .int xq29_, .int xq30_, .int tl, .int fp, .ref cs, .ref bs, .ref tp])) := (hfr w (Or.inl hn_w) n_w_al).trans hc_w
      have hc_bs : Mq32_ bs = some (.inl (kA 5, 4, .inr (.inr (.inr (.inr g))))) := (hfr bs (Or.inr (Or.inl t_bs)) n_bs_al).trans hc_bs
      have hc_im : Mq32_ im = some (.inl (kA 6, 3, .inr (.inr (.inr (.inr gi))))) := (hfr im (Or.inl hn_im) n_im_al).trans hc_im
      have hc_rd : Mq32_ rd = some (.inr (3, [.ref nb, .ref (zv z vi), .int no, .int wi, .ref by_, .int le, .int ki, .int pl, .int be, .int vr])) := (hfr rd (Or.inl hn_rd) n_rd_al).trans hc_rd
      have hc_rc : Mq32_ rc = some (.inr (4, [.ref rb, .ref rs, .ref rp, .int pm])) := (hfr rc (Or.inl hn_rc) n_rc_al).trans hc_rc
      have hc_mo : Mq32_ mo = some (.inr (8, [.ref al, .ref mt, .ref ii, .int ta, .int fpm, .ref pa, .int sm, .int nx, .int tk, .int plm, .int ln, .long va, .int wr, .ref li])) := (hfr mo (Or.inl hn_mo) n_mo_al).trans hc_mo
      have hc_al : Mq32_ al = some (.inl (kA 0, 7506, .inl gq35_)) := hx_al
      have hc_ii : Mq32_ ii = some (.inl (kA 2, 3, .inl fi)) := (hfr ii (Or.inl hn_ii) n_ii_al).trans hc_ii
      have hR_gq35_ : Rng gq35_ := h_gq35_.1
      have hRI := hRI.ke (h_gq35_.2)
      have him : ImsOK kA Mq32_ T w gi ti := him.mv hn_w (fun q hA hw hk => hfr q (FrA.k hA) (fun z9 => by rw [z9] at hk; exact nWi (hk _ hO_al)))
      refine lv_pop hx hb dL_law_746 rfl ?_
      refine lv_goto (tgt := 1370) hx hb dL_law_747 (by decide) ?_
      exact kk _ _ _ _ ls _ _ ⟨w, im, rd, rc, cu, cs, bs, tp, nb, by_, vi, rb, rs, rp, al, mt, ii, pa, li, xq25_, xq26_, xq27_, xq28_, xq29_, xq30_, tl, fp, no, wi, le, ki, pl, be, vr, pm, ta, fpm, sm, nx, tk, plm, ln, wr, va, g, gi, ti, fi, gq35_, hc_ro, hc_w, hc_bs, hc_im, hc_rd, hc_rc, hc_mo, hc_al, hc_ii, hn_ro, hn_w, hn_im, hn_rd, hn_rc, hn_mo, hn_al, hn_ii, t_cu, t_cs, t_bs, t_tp, t_nb, t_rb, t_rs, t_rp, t_mt, t_pa, t_li, ⟨l_xq25_, g_xq25_⟩, ⟨l_xq27_, g_xq27_⟩, htl, hvi, hno, hwi, hpm, hta, hRT, hg, hg3, him, hR_gq35_, hRI⟩ hH (lv_sub hl [0, 1, 2, 3] rfl) (Nat.le_add_right _ _) (Nat.le_add_right _ _)
    · skip
      have cq31_ : vq6_.toInt ≠ 0 := cq31_
      refine lv_iconst (v := 1) hx hb dL_law_738 (by decide) ?_
      refine lv_goto (tgt := 743) hx hb dL_law_739 (by decide) ?_
      have hO_rd := hc_rd
      have hO_rc := hc_rc
      have hO_mo := hc_mo
      have hO_al := hc_al
      have hO_ii := hc_ii
      have hO_im := hc_im
      refine goI hK hH (runV (As := [.int vq2_, .int vq4_, .int 1]) (rest := []) hC hK hH (c_X10_defend hc_mo hn_mo hc_al hn_al t_mt t_pa t_li (by exact hR_F)) mlL_75 (rcvM hK hH hc_mo rfl) ⟨⟨Nat.le_of_ble_eq_true rfl, Nat.le_of_ble_eq_true rfl⟩, lcA hcl, lcA hsl⟩ rfl hl.1 rfl (Nat.le_of_ble_eq_true rfl) dL_law_743) (fun rq38_ Mq36_ Tq37_ Hq_ lcq_ hP hz hH => ?_)
      try dsimp only at hP
      obtain ⟨gq39_, h_gq39_, (hx_al), eT, hfr⟩ := hP
      have eT := eT.symm; subst eT
      have hc_ro : Mq36_ ro = some (.inr (7, [.ref w, .ref im, .ref rd, .ref rc, .ref cu])) := (hfr ro (Or.inl hn_ro) n_ro_al).trans hc_ro
      have hc_w : Mq36_ w = some (.inr (6, [.int xq25_, .int xq26_, .int xq27_, .int xq28_, .int xq29_, .int xq30_, .int tl, .int fp, .ref cs, .ref bs, .ref tp])) := (hfr w (Or.inl hn_w) n_w_al).trans hc_w
      have hc_bs : Mq36_ bs = some (.inl (kA 5, 4, .inr (.inr (.inr (.inr g))))) := (hfr bs (Or.inr (Or.inl t_bs)) n_bs_al).trans hc_bs
      have hc_im : Mq36_ im = some (.inl (kA 6, 3, .inr (.inr (.inr (.inr gi))))) := (hfr im (Or.inl hn_im) n_im_al).trans hc_im
      have hc_rd : Mq36_ rd = some (.inr (3, [.ref nb, .ref (zv z vi), .int no, .int wi, .ref by_, .int le, .int ki, .int pl, .int be, .int vr])) := (hfr rd (Or.inl hn_rd) n_rd_al).trans hc_rd
      have hc_rc : Mq36_ rc = some (.inr (4, [.ref rb, .ref rs, .ref rp, .int pm])) := (hfr rc (Or.inl hn_rc) n_rc_al).trans hc_rc
      have hc_mo : Mq36_ mo = some (.inr (8, [.ref al, .ref mt, .ref ii, .int ta, .int fpm, .ref pa, .int sm, .int nx, .int tk, .int plm, .int ln, .long va, .int wr, .ref li])) := (hfr mo (Or.inl hn_mo) n_mo_al).trans hc_mo
      have hc_al : Mq36_ al = some (.inl (kA 0, 7506, .inl gq39_)) := hx_al
      have hc_ii : Mq36_ ii = some (.inl (kA 2, 3, .inl fi)) := (hfr ii (Or.inl hn_ii) n_ii_al).trans hc_ii
      have hR_gq39_ : Rng gq39_ := h_gq39_.1
      have hRI := hRI.ke (h_gq39_.2)
      have him : ImsOK kA Mq36_ T w gi ti := him.mv hn_w (fun q hA hw hk => hfr q (FrA.k hA) (fun z9 => by rw [z9] at hk; exact nWi (hk _ hO_al)))
      refine lv_pop hx hb dL_law_746 rfl ?_
      refine lv_goto (tgt := 1370) hx hb dL_law_747 (by decide) ?_
      exact kk _ _ _ _ ls _ _ ⟨w, im, rd, rc, cu, cs, bs, tp, nb, by_, vi, rb, rs, rp, al, mt, ii, pa, li, xq25_, xq26_, xq27_, xq28_, xq29_, xq30_, tl, fp, no, wi, le, ki, pl, be, vr, pm, ta, fpm, sm, nx, tk, plm, ln, wr, va, g, gi, ti, fi, gq39_, hc_ro, hc_w, hc_bs, hc_im, hc_rd, hc_rc, hc_mo, hc_al, hc_ii, hn_ro, hn_w, hn_im, hn_rd, hn_rc, hn_mo, hn_al, hn_ii, t_cu, t_cs, t_bs, t_tp, t_nb, t_rb, t_rs, t_rp, t_mt, t_pa, t_li, ⟨l_xq25_, g_xq25_⟩, ⟨l_xq27_, g_xq27_⟩, htl, hvi, hno, hwi, hpm, hta, hRT, hg, hg3, him, hR_gq39_, hRI⟩ hH (lv_sub hl [0, 1, 2, 3] rfl) (Nat.le_add_right _ _) (Nat.le_add_right _ _)
set_option maxHeartbeats 4000000 in
set_option maxRecDepth 100000 in
theorem law_case_14 {p : Program} {e : Env} {s : State} {m : MethodId} {below : List Frame} {meth : Method} {c : Code} {l : Launch} {b L : Nat} {xs : Nat → Int32} (C0 : lw_At p s m meth c b L xs) (hL : L ≤ 3072) {z : zD} {D : va_G} {kA : Nat → ClassId} (hK : mK D kA s) {M : mM} {T : mT} {A : Nat → Prop} (hAq : ∀ q, A q → s.heap.size ≤ q) (hZ : zB z A s) {Hq_ : Heap} {lcq_ : List Loc} {ls : Array Slot} {ro mo : Nat} {i : Int32} {cells slots : Nat} {w im rd rc cu cs bs tp nb by_ vi rb rs rp al mt ii pa li : Nat} {td gd bc py rf lt tl fp no wi le ki pl be vr pm ta fpm sm nx tk plm ln wr : Int32} {va : Int64} {g gi : Nat → Option Nat} {ti fi F : Nat → Int32} (hc_ro : M ro = some (.inr (7, [.ref w, .ref im, .ref rd, .ref rc, .ref cu]))) (hc_w : M w = some (.inr (6, [.int td, .int gd, .int bc, .int py, .int rf, .int lt, .int tl, .int fp, .ref cs, .ref bs, .ref tp]))) (hc_bs : M bs = some (.inl (kA 5, 4, .inr (.inr (.inr (.inr g)))))) (hc_im : M im = some (.inl (kA 6, 3, .inr (.inr (.inr (.inr gi)))))) (hc_rd : M rd = some (.inr (3, [.ref nb, .ref (zv z vi), .int no, .int wi, .ref by_, .int le, .int ki, .int pl, .int be, .int vr]))) (hc_rc : M rc = some (.inr (4, [.ref rb, .ref rs, .ref rp, .int pm]))) (hc_mo : M mo = some (.inr (8, [.ref al, .ref mt, .ref ii, .int ta, .int fpm, .ref pa, .int sm, .int nx, .int tk, .int plm, .int ln, .long va, .int wr, .ref li]))) (hc_al : M al = some (.inl (kA 0, 7506, .inl F))) (hc_ii : M ii = some (.inl (kA 2, 3, .inl fi))) (hn_ro : T ro = none) (hn_w : T w = none) (hn_im : T im = none) (hn_rd : T rd = none) (hn_rc : T rc = none) (hn_mo : T mo = none) (hn_al : T al = none) (hn_ii : T ii = none) (t_cu : T cu = some 9) (t_cs : T cs = some 3) (t_bs : T bs = some 6) (t_tp : T tp = some 7) (t_nb : T nb = some 12) (t_rb : T rb = some 2) (t_rs : T rs = some 3) (t_rp : T rp = some 5) (t_mt : T mt = some 11) (t_pa : T pa = some 13) (t_li : T li = some 14) (htd : 0 ≤ td.toInt ∧ td.toInt ≤ 999) (hbc : 0 ≤ bc.toInt ∧ bc.toInt ≤ 4) (htl : 0 ≤ tl.toInt ∧ tl.toInt ≤ 600) (hvi : vi < 19) (hno : 0 ≤ no.toInt ∧ no.toInt ≤ 1) (hwi : 0 ≤ wi.toInt ∧ wi.toInt ≤ 1) (hpm : 0 ≤ pm.toInt ∧ pm.toInt ≤ 14) (hta : 0 ≤ ta.toInt ∧ ta.toInt ≤ 600) (hRT : ta.toInt = tl.toInt) (hg : ∀ j, j < 4 → ∃ q, g j = some q ∧ T q = some 2) (hg3 : ∀ j, 3 ≤ j → gi j = none) (him : ImsOK kA M T w gi ti) (hR_F : Rng F) (hRI : RelI gi ti fi F) (n_ro_w : ro ≠ w) (n_w_ro : w ≠ ro) (n_ro_bs : ro ≠ bs) (n_bs_ro : bs ≠ ro) (n_ro_im : ro ≠ im) (n_im_ro : im ≠ ro) (n_ro_rd : ro ≠ rd) (n_rd_ro : rd ≠ ro) (n_ro_rc : ro ≠ rc) (n_rc_ro : rc ≠ ro) (n_ro_mo : ro ≠ mo) (n_mo_ro : mo ≠ ro) (n_ro_al : ro ≠ al) (n_al_ro : al ≠ ro) (n_ro_ii : ro ≠ ii) (n_ii_ro : ii ≠ ro) (n_w_bs : w ≠ bs) (n_bs_w : bs ≠ w) (n_w_im : w ≠ im) (n_im_w : im ≠ w) (n_w_rd : w ≠ rd) (n_rd_w : rd ≠ w) (n_w_rc : w ≠ rc) (n_rc_w : rc ≠ w) (n_w_mo : w ≠ mo) (n_mo_w : mo ≠ w) (n_w_al : w ≠ al) (n_al_w : al ≠ w) (n_w_ii : w ≠ ii) (n_ii_w : ii ≠ w) (n_bs_im : bs ≠ im) (n_im_bs : im ≠ bs) (n_bs_rd : bs ≠ rd) (n_rd_bs : rd ≠ bs) (n_bs_rc : bs ≠ rc) (n_rc_bs : rc ≠ bs) (n_bs_mo : bs ≠ mo) (n_mo_bs : mo ≠ bs) (n_bs_al : bs ≠ al) (n_al_bs : al ≠ bs) (n_bs_ii : bs ≠ ii) (n_ii_bs : ii ≠ bs) (n_im_rd : im ≠ rd) (n_rd_im : rd ≠ im) (n_im_rc : im ≠ rc) (n_rc_im : rc ≠ im) (n_im_mo : im ≠ mo) (n_mo_im : mo ≠ im) (n_im_al : im ≠ al) (n_al_im : al ≠ im) (n_im_ii : im ≠ ii) (n_ii_im : ii ≠ im) (n_rd_rc : rd ≠ rc) (n_rc_rd : rc ≠ rd) (n_rd_mo : rd ≠ mo) (n_mo_rd : mo ≠ rd) (n_rd_al : rd ≠ al) (n_al_rd : al ≠ rd) (n_rd_ii : rd ≠ ii) (n_ii_rd : ii ≠ rd) (n_rc_mo : rc ≠ mo) (n_mo_rc : mo ≠ rc) (n_rc_al : rc ≠ al) (n_al_rc : al ≠ rc) (n_rc_ii : rc ≠ ii) (n_ii_rc : ii ≠ rc) (n_mo_al : mo ≠ al) (n_al_mo : al ≠ mo) (n_mo_ii : mo ≠ ii) (n_ii_mo : ii ≠ mo) (n_al_ii : al ≠ ii) (n_ii_al : ii ≠ al) (hi0 : 0 ≤ i.toInt) (hi6 : i.toInt + 6 ≤ (L : Int)) (hcl : cells + 92 ≤ 600000) (hsl : slots + 1627 ≤ 7302250) (hH : mS D kA M T A s.heap Hq_ lcq_) (hl : lv_has ls 4 [(3, .int i), (2, .ref mo), (1, .ref ro), (0, .ref b)]) (kk : ∀ (M1 : mM) (T1 : mT) (H1 : Heap) (locs1 : List Loc) (ls1 : Array Slot) (cl1 sl1 : Nat), LI z kA M1 T1 ro mo → mS D kA M1 T1 A s.heap H1 locs1 → lv_has ls1 4 [(3, .int i), (2, .ref mo), (1, .ref ro), (0, .ref b)] → cl1 ≤ cells + 92 → sl1 ≤ slots + 1627 → W p l e room_1 s m #[Value.ref b] below meth c H1 locs1 cl1 sl1 (lw_Z below #[Value.ref b] s) (F0 m 1370 ls1 [])) : W p l e room_1 s m #[Value.ref b] below meth c Hq_ lcq_ cells slots (lw_Z below #[Value.ref b] s) (F0 m 750 ls []) := by
  obtain ⟨hx, hb, hr, hml, hown, hts, hX, hbl, hlocks, hgv⟩ := id C0
  have hC : CallFix p m c cL_law 4 s #[Value.ref b] TB RL := ⟨hx, hb, hml, hown, fun w h => hts w (TB_in h)⟩
  have hbA : ¬ A b := fun h => absurd (hAq b h) (Nat.not_le.mpr hbl)
  refine lv_aload_n hx hb dL_law_750 rfl (lv_at hl 2 rfl) ?_
  refine lv_aload_n hx hb dL_law_751 rfl (lv_at hl 3 rfl) ?_
  refine lv_iload_n hx hb dL_law_752 rfl (lv_at hl 0 rfl) ?_
  refine lv_iconst (v := 1) hx hb dL_law_753 (by decide) ?_
  refine lv_iadd hx hb dL_law_754 ?_
  refine lv_topi (fun zq1_ e_zq1_ => ?_)
  have h_zq1_ : zq1_.toInt = i.toInt + (1 : Int32).toInt := sIa hi0 hi6 hL e_zq1_ (by decide) (by decide)
  refine va_sld hx hb hX hbl hbA hH.2.1 (sIx hi0 hi6 h_zq1_ (by decide) (by decide)) dL_law_755 ?_
  refine lv_topi (fun vq2_ e_vq2_ => ?_)
  have hO_rd := hc_rd
  have hO_rc := hc_rc
  have hO_mo := hc_mo
  have hO_al := hc_al
  have hO_ii := hc_ii
  have hO_im := hc_im
  refine goI hK hH (runV (As := [.int vq2_]) (rest := []) hC hK hH (c_X9_present hc_ro hn_ro hc_w hn_w hc_bs t_cs t_bs t_tp (by exact htd) (by exact hbc) (by exact htl) hg) mlL_76 (rcvM hK hH hc_ro rfl) ⟨⟨Nat.le_of_ble_eq_true rfl, Nat.le_of_ble_eq_true rfl⟩, lcA hcl, lcA hsl⟩ rfl hl.1 rfl (Nat.le_of_ble_eq_true rfl) dL_law_756) (fun rq5_ Mq3_ Tq4_ Hq_ lcq_ hP hz hH => ?_)
  try dsimp only at hP
  obtain ⟨xq6_, ⟨l_xq6_, g_xq6_⟩, xq7_, ⟨l_xq7_, g_xq7_⟩, xq8_, ⟨l_xq8_, g_xq8_⟩, xq9_, ⟨l_xq9_, g_xq9_⟩, xq10_, ⟨l_xq10_, g_xq10_⟩, xq11_, ⟨l_xq11_, g_xq11_⟩, (hx_w), eT, hfr⟩ := hP
  have eT := eT.symm; subst eT
  have hc_ro : Mq3_ ro = some (.inr (7, [.ref w, .ref im, .ref rd, .ref rc, .ref cu])) := (hfr ro (Or.inl hn_ro) n_ro_w).trans hc_ro
  have hc_w : Mq3_ w = some (.inr (6, [.int xq6_, .int xq7_, .int xq8_, .int xq9_, .int xq10_, .int xq11_, .int tl, .int fp, .ref cs, .ref bs, .ref tp])) := hx_w
  have hc_bs : Mq3_ bs = some (.inl (kA 5, 4, .inr (.inr (.inr (.inr g))))) := (hfr bs (Or.inr t_bs) n_bs_w).trans hc_bs
  have hc_im : Mq3_ im = some (.inl (kA 6, 3, .inr (.inr (.inr (.inr gi))))) := (hfr im (Or.inl hn_im) n_im_w).trans hc_im
  have hc_rd : Mq3_ rd = some (.inr (3, [.ref nb, .ref (zv z vi), .int no, .int wi, .ref by_, .int le, .int ki, .int pl, .int be, .int vr])) := (hfr rd (Or.inl hn_rd) n_rd_w).trans hc_rd
  have hc_rc : Mq3_ rc = some (.inr (4, [.ref rb, .ref rs, .ref rp, .int pm])) := (hfr rc (Or.inl hn_rc) n_rc_w).trans hc_rc
  have hc_mo : Mq3_ mo = some (.inr (8, [.ref al, .ref mt, .ref ii, .int ta, .int fpm, .ref pa, .int sm, .int nx, .int tk, .int plm, .int ln, .long va, .int wr, .ref li])) := (hfr mo (Or.inl hn_mo) n_mo_w).trans hc_mo
  have hc_al : Mq3_ al = some (.inl (kA 0, 7506, .inl F)) := (hfr al (Or.inl hn_al) n_al_w).trans hc_al
  have hc_ii : Mq3_ ii = some (.inl (kA 2, 3, .inl fi)) := (hfr ii (Or.inl hn_ii) n_ii_w).trans hc_ii
  have him : ImsOK kA Mq3_ T w gi ti := him.mv hn_w (fun q hA hw hk => hfr q hA hw)
  refine lv_pop hx hb dL_law_759 rfl ?_
  refine lv_aload_n hx hb dL_law_760 rfl (lv_at hl 1 rfl) ?_
  refine lv_aload_n hx hb dL_law_761 rfl (lv_at hl 3 rfl) ?_
  refine lv_iload_n hx hb dL_law_762 rfl (lv_at hl 0 rfl) ?_
  refine lv_iconst (v := 1) hx hb dL_law_763 (by decide) ?_
  refine lv_iadd hx hb dL_law_764 ?_
  refine lv_cst (v := zq1_) e_zq1_.symm ?_
  refine va_sld hx hb hX hbl hbA hH.2.1 (sIx hi0 hi6 h_zq1_ (by decide) (by decide)) dL_law_765 ?_
  refine lv_cst (v := vq2_) e_vq2_.symm ?_
  have hO_rd := hc_rd
  have hO_rc := hc_rc
  have hO_mo := hc_mo
  have hO_al := hc_al
  have hO_ii := hc_ii
  have hO_im := hc_im
  refine goI hK hH (runV (As := [.int vq2_]) (rest := []) hC hK hH (c_X10_present hc_mo hn_mo hc_al hn_al t_mt t_pa t_li (by exact hR_F)) mlL_79 (rcvM hK hH hc_mo rfl) ⟨⟨Nat.le_of_ble_eq_true rfl, Nat.le_of_ble_eq_true rfl⟩, lcA hcl, lcA hsl⟩ rfl hl.1 rfl (Nat.le_of_ble_eq_true rfl) dL_law_766) (fun rq14_ Mq12_ Tq13_ Hq_ lcq_ hP hz hH => ?_)
  try dsimp only at hP
  obtain ⟨gq15_, h_gq15_, (hx_al), eT, hfr⟩ := hP
  have eT := eT.symm; subst eT
  have hc_ro : Mq12_ ro = some (.inr (7, [.ref w, .ref im, .ref rd, .ref rc, .ref cu])) := (hfr ro (Or.inl hn_ro) n_ro_al).trans hc_ro
  have hc_w : Mq12_ w = some (.inr (6, [.int xq6_, .int xq7_, .int xq8_, .int xq9_, .int xq10_, .int xq11_, .int tl, .int fp, .ref cs, .ref bs, .ref tp])) := (hfr w (Or.inl hn_w) n_w_al).trans hc_w
  have hc_bs : Mq12_ bs = some (.inl (kA 5, 4, .inr (.inr (.inr (.inr g))))) := (hfr bs (Or.inr (Or.inl t_bs)) n_bs_al).trans hc_bs
  have hc_im : Mq12_ im = some (.inl (kA 6, 3, .inr (.inr (.inr (.inr gi))))) := (hfr im (Or.inl hn_im) n_im_al).trans hc_im
  have hc_rd : Mq12_ rd = some (.inr (3, [.ref nb, .ref (zv z vi), .int no, .int wi, .ref by_, .int le, .int ki, .int pl, .int be, .int vr])) := (hfr rd (Or.inl hn_rd) n_rd_al).trans hc_rd
  have hc_rc : Mq12_ rc = some (.inr (4, [.ref rb, .ref rs, .ref rp, .int pm])) := (hfr rc (Or.inl hn_rc) n_rc_al).trans hc_rc
  have hc_mo : Mq12_ mo = some (.inr (8, [.ref al, .ref mt, .ref ii, .int ta, .int fpm, .ref pa, .int sm, .int nx, .int tk, .int plm, .int ln, .long va, .int wr, .ref li])) := (hfr mo (Or.inl hn_mo) n_mo_al).trans hc_mo
  have hc_al : Mq12_ al = some (.inl (kA 0, 7506, .inl gq15_)) := hx_al
  have hc_ii : Mq12_ ii = some (.inl (kA 2, 3, .inl fi)) := (hfr ii (Or.inl hn_ii) n_ii_al).trans hc_ii
  have hR_gq15_ : Rng gq15_ := h_gq15_.1
  have hRI := hRI.ke (h_gq15_.2)
  have him : ImsOK kA Mq12_ T w gi ti := him.mv hn_w (fun q hA hw hk => hfr q (FrA.k hA) (fun z9 => by rw [z9] at hk; exact nWi (hk _ hO_al)))
  refine lv_pop hx hb dL_law_769 rfl ?_
  refine lv_goto (tgt := 1370) hx hb dL_law_770 (by decide) ?_
  exact kk _ _ _ _ ls _ _ ⟨w, im, rd, rc, cu, cs, bs, tp, nb, by_, vi, rb, rs, rp, al, mt, ii, pa, li, xq6_, xq7_, xq8_, xq9_, xq10_, xq11_, tl, fp, no, wi, le, ki, pl, be, vr, pm, ta, fpm, sm, nx, tk, plm, ln, wr, va, g, gi, ti, fi, gq15_, hc_ro, hc_w, hc_bs, hc_im, hc_rd, hc_rc, hc_mo, hc_al, hc_ii, hn_ro, hn_w, hn_im, hn_rd, hn_rc, hn_mo, hn_al, hn_ii, t_cu, t_cs, t_bs, t_tp, t_nb, t_rb, t_rs, t_rp, t_mt, t_pa, t_li, ⟨l_xq6_, g_xq6_⟩, ⟨l_xq8_, g_xq8_⟩, htl, hvi, hno, hwi, hpm, hta, hRT, hg, hg3, him, hR_gq15_, hRI⟩ hH (lv_sub hl [0, 1, 2, 3] rfl) (Nat.le_add_right _ _) (Nat.le_add_right _ _)
set_option maxHeartbeats 4000000 in
set_option maxRecDepth 100000 in
theorem law_case_15 {p : Program} {e : Env} {s : State} {m : MethodId} {below : List Frame} {meth : Method} {c : Code} {l : Launch} {b L : Nat} {xs : Nat → Int32} (C0 : lw_At p s m meth c b L xs) (hL : L ≤ 3072) {z : zD} {D : va_G} {kA : Nat → ClassId} (hK : mK D kA s) {M : mM} {T : mT} {A : Nat → Prop} (hAq : ∀ q, A q → s.heap.size ≤ q) (hZ : zB z A s) {Hq_ : Heap} {lcq_ : List Loc} {ls : Array Slot} {ro mo : Nat} {i : Int32} {cells slots : Nat} {w im rd rc cu cs bs tp nb by_ vi rb rs rp al mt ii pa li : Nat} {td gd bc py rf lt tl fp no wi le ki pl be vr pm ta fpm sm nx tk plm ln wr : Int32} {va : Int64} {g gi : Nat → Option Nat} {ti fi F : Nat → Int32} (hc_ro : M ro = some (.inr (7, [.ref w, .ref im, .ref rd, .ref rc, .ref cu]))) (hc_w : M w = some (.inr (6, [.int td, .int gd, .int bc, .int py, .int rf, .int lt, .int tl, .int fp, .ref cs, .ref bs, .ref tp]))) (hc_bs : M bs = some (.inl (kA 5, 4, .inr (.inr (.inr (.inr g)))))) (hc_im : M im = some (.inl (kA 6, 3, .inr (.inr (.inr (.inr gi)))))) (hc_rd : M rd = some (.inr (3, [.ref nb, .ref (zv z vi), .int no, .int wi, .ref by_, .int le, .int ki, .int pl, .int be, .int vr]))) (hc_rc : M rc = some (.inr (4, [.ref rb, .ref rs, .ref rp, .int pm]))) (hc_mo : M mo = some (.inr (8, [.ref al, .ref mt, .ref ii, .int ta, .int fpm, .ref pa, .int sm, .int nx, .int tk, .int plm, .int ln, .long va, .int wr, .ref li]))) (hc_al : M al = some (.inl (kA 0, 7506, .inl F))) (hc_ii : M ii = some (.inl (kA 2, 3, .inl fi))) (hn_ro : T ro = none) (hn_w : T w = none) (hn_im : T im = none) (hn_rd : T rd = none) (hn_rc : T rc = none) (hn_mo : T mo = none) (hn_al : T al = none) (hn_ii : T ii = none) (t_cu : T cu = some 9) (t_cs : T cs = some 3) (t_bs : T bs = some 6) (t_tp : T tp = some 7) (t_nb : T nb = some 12) (t_rb : T rb = some 2) (t_rs : T rs = some 3) (t_rp : T rp = some 5) (t_mt : T mt = some 11) (t_pa : T pa = some 13) (t_li : T li = some 14) (htd : 0 ≤ td.toInt ∧ td.toInt ≤ 999) (hbc : 0 ≤ bc.toInt ∧ bc.toInt ≤ 4) (htl : 0 ≤ tl.toInt ∧ tl.toInt ≤ 600) (hvi : vi < 19) (hno : 0 ≤ no.toInt ∧ no.toInt ≤ 1) (hwi : 0 ≤ wi.toInt ∧ wi.toInt ≤ 1) (hpm : 0 ≤ pm.toInt ∧ pm.toInt ≤ 14) (hta : 0 ≤ ta.toInt ∧ ta.toInt ≤ 600) (hRT : ta.toInt = tl.toInt) (hg : ∀ j, j < 4 → ∃ q, g j = some q ∧ T q = some 2) (hg3 : ∀ j, 3 ≤ j → gi j = none) (him : ImsOK kA M T w gi ti) (hR_F : Rng F) (hRI : RelI gi ti fi F) (n_ro_w : ro ≠ w) (n_w_ro : w ≠ ro) (n_ro_bs : ro ≠ bs) (n_bs_ro : bs ≠ ro) (n_ro_im : ro ≠ im) (n_im_ro : im ≠ ro) (n_ro_rd : ro ≠ rd) (n_rd_ro : rd ≠ ro) (n_ro_rc : ro ≠ rc) (n_rc_ro : rc ≠ ro) (n_ro_mo : ro ≠ mo) (n_mo_ro : mo ≠ ro) (n_ro_al : ro ≠ al) (n_al_ro : al ≠ ro) (n_ro_ii : ro ≠ ii) (n_ii_ro : ii ≠ ro) (n_w_bs : w ≠ bs) (n_bs_w : bs ≠ w) (n_w_im : w ≠ im) (n_im_w : im ≠ w) (n_w_rd : w ≠ rd) (n_rd_w : rd ≠ w) (n_w_rc : w ≠ rc) (n_rc_w : rc ≠ w) (n_w_mo : w ≠ mo) (n_mo_w : mo ≠ w) (n_w_al : w ≠ al) (n_al_w : al ≠ w) (n_w_ii : w ≠ ii) (n_ii_w : ii ≠ w) (n_bs_im : bs ≠ im) (n_im_bs : im ≠ bs) (n_bs_rd : bs ≠ rd) (n_rd_bs : rd ≠ bs) (n_bs_rc : bs ≠ rc) (n_rc_bs : rc ≠ bs) (n_bs_mo : bs ≠ mo) (n_mo_bs : mo ≠ bs) (n_bs_al : bs ≠ al) (n_al_bs : al ≠ bs) (n_bs_ii : bs ≠ ii) (n_ii_bs : ii ≠ bs) (n_im_rd : im ≠ rd) (n_rd_im : rd ≠ im) (n_im_rc : im ≠ rc) (n_rc_im : rc ≠ im) (n_im_mo : im ≠ mo) (n_mo_im : mo ≠ im) (n_im_al : im ≠ al) (n_al_im : al ≠ im) (n_im_ii : im ≠ ii) (n_ii_im : ii ≠ im) (n_rd_rc : rd ≠ rc) (n_rc_rd : rc ≠ rd) (n_rd_mo : rd ≠ mo) (n_mo_rd : mo ≠ rd) (n_rd_al : rd ≠ al) (n_al_rd : al ≠ rd) (n_rd_ii : rd ≠ ii) (n_ii_rd : ii ≠ rd) (n_rc_mo : rc ≠ mo) (n_mo_rc : mo ≠ rc) (n_rc_al : rc ≠ al) (n_al_rc : al ≠ rc) (n_rc_ii : rc ≠ ii) (n_ii_rc : ii ≠ rc) (n_mo_al : mo ≠ al) (n_al_mo : al ≠ mo) (n_mo_ii : mo ≠ ii) (n_ii_mo : ii ≠ mo) (n_al_ii : al ≠ ii) (n_ii_al : ii ≠ al) (hi0 : 0 ≤ i.toInt) (hi6 : i.toInt + 6 ≤ (L : Int)) (hcl : cells + 92 ≤ 600000) (hsl : slots + 1627 ≤ 7302250) (hH : mS D kA M T A s.heap Hq_ lcq_) (hl : lv_has ls 4 [(3, .int i), (2, .ref mo), (1, .ref ro), (0, .ref b)]) (kk : ∀ (M1 : mM) (T1 : mT) (H1 : Heap) (locs1 : List Loc) (ls1 : Array Slot) (cl1 sl1 : Nat), LI z kA M1 T1 ro mo → mS D kA M1 T1 A s.heap H1 locs1 → lv_has ls1 4 [(3, .int i), (2, .ref mo), (1, .ref ro), (0, .ref b)] → cl1 ≤ cells + 92 → sl1 ≤ slots + 1627 → W p l e room_1 s m #[Value.ref b] below meth c H1 locs1 cl1 sl1 (lw_Z below #[Value.ref b] s) (F0 m 1370 ls1 [])) : W p l e room_1 s m #[Value.ref b] below meth c Hq_ lcq_ cells slots (lw_Z below #[Value.ref b] s) (F0 m 773 ls []) := by
  obtain ⟨hx, hb, hr, hml, hown, hts, hX, hbl, hlocks, hgv⟩ := id C0
  have hC : CallFix p m c cL_law 4 s #[Value.ref b] TB RL := ⟨hx, hb, hml, hown, fun w h => hts w (TB_in h)⟩
  have hbA : ¬ A b := fun h => absurd (hAq b h) (Nat.not_le.mpr hbl)
  refine lv_aload_n hx hb dL_law_773 rfl (lv_at hl 2 rfl) ?_
  refine lv_aload_n hx hb dL_law_774 rfl (lv_at hl 3 rfl) ?_
  refine lv_iload_n hx hb dL_law_775 rfl (lv_at hl 0 rfl) ?_
  refine lv_iconst (v := 1) hx hb dL_law_776 (by decide) ?_
  refine lv_iadd hx hb dL_law_777 ?_
  refine lv_topi (fun zq1_ e_zq1_ => ?_)
  have h_zq1_ : zq1_.toInt = i.toInt + (1 : Int32).toInt := sIa hi0 hi6 hL e_zq1_ (by decide) (by decide)
  refine va_sld hx hb hX hbl hbA hH.2.1 (sIx hi0 hi6 h_zq1_ (by decide) (by decide)) dL_law_778 ?_
  refine lv_topi (fun vq2_ e_vq2_ => ?_)
  refine lv_aload_n hx hb dL_law_779 rfl (lv_at hl 3 rfl) ?_
  refine lv_iload_n hx hb dL_law_780 rfl (lv_at hl 0 rfl) ?_
  refine lv_iconst (v := 2) hx hb dL_law_781 (by decide) ?_
  refine lv_iadd hx hb dL_law_782 ?_
  refine lv_topi (fun zq3_ e_zq3_ => ?_)
  have h_zq3_ : zq3_.toInt = i.toInt + (2 : Int32).toInt := sIa hi0 hi6 hL e_zq3_ (by decide) (by decide)
  refine va_sld hx hb hX hbl hbA hH.2.1 (sIx hi0 hi6 h_zq3_ (by decide) (by decide)) dL_law_783 ?_
  refine lv_topi (fun vq4_ e_vq4_ => ?_)
  refine lv_aload_n hx hb dL_law_784 rfl (lv_at hl 3 rfl) ?_
  refine lv_iload_n hx hb dL_law_785 rfl (lv_at hl 0 rfl) ?_
  refine lv_iconst (v := 3) hx hb dL_law_786 (by decide) ?_
  refine lv_iadd hx hb dL_law_787 ?_
  refine lv_topi (fun zq5_ e_zq5_ => ?_)
  have h_zq5_ : zq5_.toInt = i.toInt + (3 : Int32).toInt := sIa hi0 hi6 hL e_zq5_ (by decide) (by decide)
  refine va_sld hx hb hX hbl hbA hH.2.1 (sIx hi0 hi6 h_zq5_ (by decide) (by decide)) dL_law_788 ?_
  refine lv_topi (fun vq6_ e_vq6_ => ?_)
  have hO_rd := hc_rd
  have hO_rc := hc_rc
  have hO_mo := hc_mo
  have hO_al := hc_al
  have hO_ii := hc_ii
  have hO_im := hc_im
  refine goI hK hH (runV (As := [.int vq2_, .int vq4_, .int vq6_]) (rest := []) hC hK hH (c_X9_tell hc_ro hn_ro hc_w hn_w hc_bs t_cs t_bs t_tp (by exact htd) (by exact hbc) (by exact htl) hg) mlL_80 (rcvM hK hH hc_ro rfl) ⟨⟨Nat.le_of_ble_eq_true rfl, Nat.le_of_ble_eq_true rfl⟩, lcA hcl, lcA hsl⟩ rfl hl.1 rfl (Nat.le_of_ble_eq_true rfl) dL_law_789) (fun rq9_ Mq7_ Tq8_ Hq_ lcq_ hP hz hH => ?_)
  try dsimp only at hP
  obtain ⟨xq10_, ⟨l_xq10_, g_xq10_⟩, xq11_, ⟨l_xq11_, g_xq11_⟩, xq12_, ⟨l_xq12_, g_xq12_⟩, xq13_, ⟨l_xq13_, g_xq13_⟩, xq14_, ⟨l_xq14_, g_xq14_⟩, xq15_, ⟨l_xq15_, g_xq15_⟩, (hx_w), eT, hfr⟩ := hP
  have eT := eT.symm; subst eT
  have hc_ro : Mq7_ ro = some (.inr (7, [.ref w, .ref im, .ref rd, .ref rc, .ref cu])) := (hfr ro (Or.inl hn_ro) n_ro_w).trans hc_ro
  have hc_w : Mq7_ w = some (.inr (6, [.int xq10_, .int xq11_, .int xq12_, .int xq13_, .int xq14_, .int xq15_, .int tl, .int fp, .ref cs, .ref bs, .ref tp])) := hx_w
  have hc_bs : Mq7_ bs = some (.inl (kA 5, 4, .inr (.inr (.inr (.inr g))))) := (hfr bs (Or.inr (Or.inl t_bs)) n_bs_w).trans hc_bs
  have hc_im : Mq7_ im = some (.inl (kA 6, 3, .inr (.inr (.inr (.inr gi))))) := (hfr im (Or.inl hn_im) n_im_w).trans hc_im
  have hc_rd : Mq7_ rd = some (.inr (3, [.ref nb, .ref (zv z vi), .int no, .int wi, .ref by_, .int le, .int ki, .int pl, .int be, .int vr])) := (hfr rd (Or.inl hn_rd) n_rd_w).trans hc_rd
  have hc_rc : Mq7_ rc = some (.inr (4, [.ref rb, .ref rs, .ref rp, .int pm])) := (hfr rc (Or.inl hn_rc) n_rc_w).trans hc_rc
  have hc_mo : Mq7_ mo = some (.inr (8, [.ref al, .ref mt, .ref ii, .int ta, .int fpm, .ref pa, .int sm, .int nx, .int tk, .int plm, .int ln, .long va, .int wr, .ref li])) := (hfr mo (Or.inl hn_mo) n_mo_w).trans hc_mo
  have hc_al : Mq7_ al = some (.inl (kA 0, 7506, .inl F)) := (hfr al (Or.inl hn_al) n_al_w).trans hc_al
  have hc_ii : Mq7_ ii = some (.inl (kA 2, 3, .inl fi)) := (hfr ii (Or.inl hn_ii) n_ii_w).trans hc_ii
  have him : ImsOK kA Mq7_ T w gi ti := him.mv hn_w (fun q hA hw hk => hfr q (FrA.k hA) hw)
  refine lv_pop hx hb dL_law_792 rfl ?_
  refine lv_aload_n hx hb dL_law_793 rfl (lv_at hl 1 rfl) ?_
  refine lv_aload_n hx hb dL_law_794 rfl (lv_at hl 3 rfl) ?_
  refine lv_iload_n hx hb dL_law_795 rfl (lv_at hl 0 rfl) ?_
  refine lv_iconst (v := 1) hx hb dL_law_796 (by decide) ?_
  refine lv_iadd hx hb dL_law_797 ?_
  refine lv_cst (v := zq1_) e_zq1_.symm ?_
  refine va_sld hx hb hX hbl hbA hH.2.1 (sIx hi0 hi6 h_zq1_ (by decide) (by decide)) dL_law_798 ?_
  refine lv_cst (v := vq2_) e_vq2_.symm ?_
  refine lv_aload_n hx hb dL_law_799 rfl (lv_at hl 3 rfl) ?_
  refine lv_iload_n hx hb dL_law_800 rfl (lv_at hl 0 rfl) ?_
  refine lv_iconst (v := 2) hx hb dL_law_801 (by decide) ?_
  refine lv_iadd hx hb dL_law_802 ?_
  refine lv_cst (v := zq3_) e_zq3_.symm ?_
  refine va_sld hx hb hX hbl hbA hH.2.1 (sIx hi0 hi6 h_zq3_ (by decide) (by decide)) dL_law_803 ?_
  refine lv_cst (v := vq4_) e_vq4_.symm ?_
  refine lv_aload_n hx hb dL_law_804 rfl (lv_at hl 3 rfl) ?_
  refine lv_iload_n hx hb dL_law_805 rfl (lv_at hl 0 rfl) ?_
  refine lv_iconst (v := 3) hx hb dL_law_806 (by decide) ?_
  refine lv_iadd hx hb dL_law_807 ?_
  refine lv_cst (v := zq5_) e_zq5_.symm ?_
  refine va_sld hx hb hX hbl hbA hH.2.1 (sIx hi0 hi6 h_zq5_ (by decide) (by decide)) dL_law_808 ?_
  refine lv_cst (v := vq6_) e_vq6_.symm ?_
  have hO_rd := hc_rd
  have hO_rc := hc_rc
  have hO_mo := hc_mo
  have hO_al := hc_al
  have hO_ii := hc_ii
  have hO_im := hc_im
  refine goI hK hH (runV (As := [.int vq2_, .int vq4_, .int vq6_]) (rest := []) hC hK hH (c_X10_tell hc_mo hn_mo hc_al hn_al t_mt t_pa t_li (by exact hR_F)) mlL_84 (rcvM hK hH hc_mo rfl) ⟨⟨Nat.le_of_ble_eq_true rfl, Nat.le_of_ble_eq_true rfl⟩, lcA hcl, lcA hsl⟩ rfl hl.1 rfl (Nat.le_of_ble_eq_true rfl) dL_law_809) (fun rq18_ Mq16_ Tq17_ Hq_ lcq_ hP hz hH => ?_)
  try dsimp only at hP
  obtain ⟨gq19_, h_gq19_, (hx_al), eT, hfr⟩ := hP
  have eT := eT.symm; subst eT
  have hc_ro : Mq16_ ro = some (.inr (7, [.ref w, .ref im, .ref rd, .ref rc, .ref cu])) := (hfr ro (Or.inl hn_ro) n_ro_al).trans hc_ro
  have hc_w : Mq16_ w = some (.inr (6, [.int xq10_, .int xq11_, .int xq12_, .int xq13_, .int xq14_, .int xq15_, .int tl, .int fp, .ref cs, .ref bs, .ref tp])) := (hfr w (Or.inl hn_w) n_w_al).trans hc_w
  have hc_bs : Mq16_ bs = some (.inl (kA 5, 4, .inr (.inr (.inr (.inr g))))) := (hfr bs (Or.inr (Or.inl t_bs)) n_bs_al).trans hc_bs
  have hc_im : Mq16_ im = some (.inl (kA 6, 3, .inr (.inr (.inr (.inr gi))))) := (hfr im (Or.inl hn_im) n_im_al).trans hc_im
  have hc_rd : Mq16_ rd = some (.inr (3, [.ref nb, .ref (zv z vi), .int no, .int wi, .ref by_, .int le, .int ki, .int pl, .int be, .int vr])) := (hfr rd (Or.inl hn_rd) n_rd_al).trans hc_rd
  have hc_rc : Mq16_ rc = some (.inr (4, [.ref rb, .ref rs, .ref rp, .int pm])) := (hfr rc (Or.inl hn_rc) n_rc_al).trans hc_rc
  have hc_mo : Mq16_ mo = some (.inr (8, [.ref al, .ref mt, .ref ii, .int ta, .int fpm, .ref pa, .int sm, .int nx, .int tk, .int plm, .int ln, .long va, .int wr, .ref li])) := (hfr mo (Or.inl hn_mo) n_mo_al).trans hc_mo
  have hc_al : Mq16_ al = some (.inl (kA 0, 7506, .inl gq19_)) := hx_al
  have hc_ii : Mq16_ ii = some (.inl (kA 2, 3, .inl fi)) := (hfr ii (Or.inl hn_ii) n_ii_al).trans hc_ii
  have hR_gq19_ : Rng gq19_ := h_gq19_.1
  have hRI := hRI.ke (h_gq19_.2)
  have him : ImsOK kA Mq16_ T w gi ti := him.mv hn_w (fun q hA hw hk => hfr q (FrA.k hA) (fun z9 => by rw [z9] at hk; exact nWi (hk _ hO_al)))
  refine lv_pop hx hb dL_law_812 rfl ?_
  refine lv_goto (tgt := 1370) hx hb dL_law_813 (by decide) ?_
  exact kk _ _ _ _ ls _ _ ⟨w, im, rd, rc, cu, cs, bs, tp, nb, by_, vi, rb, rs, rp, al, mt, ii, pa, li, xq10_, xq11_, xq12_, xq13_, xq14_, xq15_, tl, fp, no, wi, le, ki, pl, be, vr, pm, ta, fpm, sm, nx, tk, plm, ln, wr, va, g, gi, ti, fi, gq19_, hc_ro, hc_w, hc_bs, hc_im, hc_rd, hc_rc, hc_mo, hc_al, hc_ii, hn_ro, hn_w, hn_im, hn_rd, hn_rc, hn_mo, hn_al, hn_ii, t_cu, t_cs, t_bs, t_tp, t_nb, t_rb, t_rs, t_rp, t_mt, t_pa, t_li, ⟨l_xq10_, g_xq10_⟩, ⟨l_xq12_, g_xq12_⟩, htl, hvi, hno, hwi, hpm, hta, hRT, hg, hg3, him, hR_gq19_, hRI⟩ hH (lv_sub hl [0, 1, 2, 3] rfl) (Nat.le_add_right _ _) (Nat.le_add_right _ _)
