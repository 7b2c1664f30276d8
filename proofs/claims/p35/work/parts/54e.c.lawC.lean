set_option maxHeartbeats 4000000 in
set_option maxRecDepth 100000 in
theorem law_case_16 {p : Program} {e : Env} {s : State} {m : MethodId} {below : List Frame} {meth : Method} {c : Code} {l : Launch} {b L : Nat} {xs : Nat → Int32} (C0 : lw_At p s m meth c b L xs) (hL : L ≤ 3072) {z : zD} {D : va_G} {kA : Nat → ClassId} (hK : mK D kA s) {M : mM} {T : mT} {A : Nat → Prop} (hAq : ∀ q, A q → s.heap.size ≤ q) (hZ : zB z A s) {Hq_ : Heap} {lcq_ : List Loc} {ls : Array Slot} {ro mo : Nat} {i : Int32} {cells slots : Nat} {w im rd rc cu cs bs tp nb by_ vi rb rs rp al mt ii pa li : Nat} {td gd bc py rf lt tl fp no wi le ki pl be vr pm ta fpm sm nx tk plm ln wr : Int32} {va : Int64} {g gi : Nat → Option Nat} {ti fi F : Nat → Int32} (hc_ro : M ro = some (.inr (7, [.ref w, .ref im, .ref rd, .ref rc, .ref cu]))) (hc_w : M w = some (.inr (6, [.int td, .int gd, .int bc, .int py, .int rf, .int lt, .int tl, .int fp, .ref cs, .ref bs, .ref tp]))) (hc_bs : M bs = some (.inl (kA 5, 4, .inr (.inr (.inr (.inr g)))))) (hc_im : M im = some (.inl (kA 6, 3, .inr (.inr (.inr (.inr gi)))))) (hc_rd : M rd = some (.inr (3, [.ref nb, .ref (zv z vi), .int no, .int wi, .ref by_, .int le, .int ki, .int pl, .int be, .int vr]))) (hc_rc : M rc = some (.inr (4, [.ref rb, .ref rs, .ref rp, .int pm]))) (hc_mo : M mo = some (.inr (8, [.ref al, .ref mt, .ref ii, .int ta, .int fpm, .ref pa, .int sm, .int nx, .int tk, .int plm, .int ln, .long va, .int wr, .ref li]))) (hc_al : M al = some (.inl (kA 0, 7506, .inl F))) (hc_ii : M ii = some (.inl (kA 2, 3, .inl fi))) (hn_ro : T ro = none) (hn_w : T w = none) (hn_im : T im = none) (hn_rd : T rd = none) (hn_rc : T rc = none) (hn_mo : T mo = none) (hn_al : T al = none) (hn_ii : T ii = none) (t_cu : T cu = some 9) (t_cs : T cs = some 3) (t_bs : T bs = some 6) (t_tp : T tp = some 7) (t_nb : T nb = some 12) (t_rb : T rb = some 2) (t_rs : T rs = some 3) (t_rp : T rp = some 5) (t_mt : T mt = some 11) (t_pa : T pa = some 13) (t_li : T li = some 14) (htd : 0 ≤ td.toInt ∧ td.toInt ≤ 999) (hbc : 0 ≤ bc.toInt ∧ bc.toInt ≤ 4) (htl : 0 ≤ tl.toInt ∧ tl.toInt ≤ 600) (hvi : vi < 19) (hno : 0 ≤ no.toInt ∧ no.toInt ≤ 1) (hwi : 0 ≤ wi.toInt ∧ wi.toInt ≤ 1) (hpm : 0 ≤ pm.toInt ∧ pm.toInt ≤ 14) (hta : 0 ≤ ta.toInt ∧ ta.toInt ≤ 600) (hRT : ta.toInt = tl.toInt) (hg : ∀ j, j < 4 → ∃ q, g j = some q ∧ T q = some 2) (hg3 : ∀ j, 3 ≤ j → gi j = none) (him : ImsOK kA M T w gi ti) (hR_F : Rng F) (hRI : RelI gi ti fi F) (n_ro_w : ro ≠ w) (n_w_ro : w ≠ ro) (n_ro_bs : ro ≠ bs) (n_bs_ro : bs ≠ ro) (n_ro_im : ro ≠ im) (n_im_ro : im ≠ ro) (n_ro_rd : ro ≠ rd) (n_rd_ro : rd ≠ ro) (n_ro_rc : ro ≠ rc) (n_rc_ro : rc ≠ ro) (n_ro_mo : ro ≠ mo) (n_mo_ro : mo ≠ ro) (n_ro_al : ro ≠ al) (n_al_ro : al ≠ ro) (n_ro_ii : ro ≠ ii) (n_ii_ro : ii ≠ ro) (n_w_bs : w ≠ bs) (n_bs_w : bs ≠ w) (n_w_im : w ≠ im) (n_im_w : im ≠ w) (n_w_rd : w ≠ rd) (n_rd_w : rd ≠ w) (n_w_rc : w ≠ rc) (n_rc_w : rc ≠ w) (n_w_mo : w ≠ mo) (n_mo_w : mo ≠ w) (n_w_al : w ≠ al) (n_al_w : al ≠ w) (n_w_ii : w ≠ ii) (n_ii_w : ii ≠ w) (n_bs_im : bs ≠ im) (n_im_bs : im ≠ bs) (n_bs_rd : bs ≠ rd) (n_rd_bs : rd ≠ bs) (n_bs_rc : bs ≠ rc) (n_rc_bs : rc ≠ bs) (n_bs_mo : bs ≠ mo) (n_mo_bs : mo ≠ bs) (n_bs_al : bs ≠ al) (n_al_bs : al ≠ bs) (n_bs_ii : bs ≠ ii) (n_ii_bs : ii ≠ bs) (n_im_rd : im ≠ rd) (n_rd_im : rd ≠ im) (n_im_rc : im ≠ rc) (n_rc_im : rc ≠ im) (n_im_mo : im ≠ mo) (n_mo_im : mo ≠ im) (n_im_al : im ≠ al) (n_al_im : al ≠ im) (n_im_ii : im ≠ ii) (n_ii_im : ii ≠ im) (n_rd_rc : rd ≠ rc) (n_rc_rd : rc ≠ rd) (n_rd_mo : rd ≠ mo) (n_mo_rd : mo ≠ rd) (n_rd_al : rd ≠ al) (n_al_rd : al ≠ rd) (n_rd_ii : rd ≠ ii) (n_ii_rd : ii ≠ rd) (n_rc_mo : rc ≠ mo) (n_mo_rc : mo ≠ rc) (n_rc_al : rc ≠ al) (n_al_rc : al ≠ rc) (n_rc_ii : rc ≠ ii) (n_ii_rc : ii ≠ rc) (n_mo_al : mo ≠ al) (n_al_mo : al ≠ mo) (n_mo_ii : mo ≠ ii) (n_ii_mo : ii ≠ mo) (n_al_ii : al ≠ ii) (n_ii_al : ii ≠ al) (hi0 : 0 ≤ i.toInt) (hi6 : i.toInt + 6 ≤ (L : Int)) (hcl : cells + 92 ≤ 600000) (hsl : slots + 1627 ≤ 7302250) (hH : mS D kA M T A s.heap Hq_ lcq_) (hl : lv_has ls 4 [(3, .int i), (2, .ref mo), (1, .ref ro), (0, .ref b)]) (kk : ∀ (M1 : mM) (T1 : mT) (H1 : Heap) (locs1 : List Loc) (ls1 : Array Slot) (cl1 sl1 : Nat), LI z kA M1 T1 ro mo → mS D kA M1 T1 A s.heap H1 locs1 → lv_has ls1 4 [(3, .int i), (2, .ref mo), (1, .ref ro), (0, .ref b)] → cl1 ≤ cells + 92 → sl1 ≤ slots + 1627 → W p l e room_1 s m #[Value.ref b] below meth c H1 locs1 cl1 sl1 (lw_Z below #[Value.ref b] s) (F0 m 1370 ls1 [])) : W p l e room_1 s m #[Value.ref b] below meth c Hq_ lcq_ cells slots (lw_Z below #[Value.ref b] s) (F0 m 816 ls []) := by
  obtain ⟨hx, hb, hr, hml, hown, hts, hX, hbl, hlocks, hgv⟩ := id C0
  have hC : CallFix p m c cL_law 4 s #[Value.ref b] TB RL := ⟨hx, hb, hml, hown, fun w h => hts w (TB_in h)⟩
  have hbA : ¬ A b := fun h => absurd (hAq b h) (Nat.not_le.mpr hbl)
  refine lv_aload_n hx hb dL_law_816 rfl (lv_at hl 2 rfl) ?_
  refine lv_aload_n hx hb dL_law_817 rfl (lv_at hl 3 rfl) ?_
  refine lv_iload_n hx hb dL_law_818 rfl (lv_at hl 0 rfl) ?_
  refine lv_iconst (v := 1) hx hb dL_law_819 (by decide) ?_
  refine lv_iadd hx hb dL_law_820 ?_
  refine lv_topi (fun zq1_ e_zq1_ => ?_)
  have h_zq1_ : zq1_.toInt = i.toInt + (1 : Int32).toInt := sIa hi0 hi6 hL e_zq1_ (by decide) (by decide)
  refine va_sld hx hb hX hbl hbA hH.2.1 (sIx hi0 hi6 h_zq1_ (by decide) (by decide)) dL_law_821 ?_
  refine lv_topi (fun vq2_ e_vq2_ => ?_)
  refine lv_aload_n hx hb dL_law_822 rfl (lv_at hl 3 rfl) ?_
  refine lv_iload_n hx hb dL_law_823 rfl (lv_at hl 0 rfl) ?_
  refine lv_iconst (v := 2) hx hb dL_law_824 (by decide) ?_
  refine lv_iadd hx hb dL_law_825 ?_
  refine lv_topi (fun zq3_ e_zq3_ => ?_)
  have h_zq3_ : zq3_.toInt = i.toInt + (2 : Int32).toInt := sIa hi0 hi6 hL e_zq3_ (by decide) (by decide)
  refine va_sld hx hb hX hbl hbA hH.2.1 (sIx hi0 hi6 h_zq3_ (by decide) (by decide)) dL_law_826 ?_
  refine lv_topi (fun vq4_ e_vq4_ => ?_)
  have hO_rd := hc_rd
  have hO_rc := hc_rc
  have hO_mo := hc_mo
  have hO_al := hc_al
  have hO_ii := hc_ii
  have hO_im := hc_im
  refine goI hK hH (runV (As := [.int vq2_, .int vq4_]) (rest := []) hC hK hH (c_X9_release hc_ro hn_ro hc_w hn_w hc_bs t_cs t_bs t_tp (by exact htd) (by exact hbc) (by exact htl) hg) mlL_85 (rcvM hK hH hc_ro rfl) ⟨⟨Nat.le_of_ble_eq_true rfl, Nat.le_of_ble_eq_true rfl⟩, lcA hcl, lcA hsl⟩ rfl hl.1 rfl (Nat.le_of_ble_eq_true rfl) dL_law_827) (fun rq7_ Mq5_ Tq6_ Hq_ lcq_ hP hz hH => ?_)
  try dsimp only at hP
  obtain ⟨xq8_, ⟨l_xq8_, g_xq8_⟩, xq9_, ⟨l_xq9_, g_xq9_⟩, xq10_, ⟨l_xq10_, g_xq10_⟩, xq11_, ⟨l_xq11_, g_xq11_⟩, xq12_, ⟨l_xq12_, g_xq12_⟩, xq13_, ⟨l_xq13_, g_xq13_⟩, (hx_w), eT, hfr⟩ := hP
  have eT := eT.symm; subst eT
  have hc_ro : Mq5_ ro = some (.inr (7, [.ref w, .ref im, .ref rd, .ref rc, .ref cu])) := (hfr ro (Or.inl hn_ro) n_ro_w).trans hc_ro
  have hc_w : Mq5_ w = some (.inr (6, [.int xq8_, .int xq9_, .int xq10_, .int xq11_, .int xq12_, .int xq13_, .int tl, .int fp, .ref cs, .ref bs, .ref tp])) := hx_w
  have hc_bs : Mq5_ bs = some (.inl (kA 5, 4, .inr (.inr (.inr (.inr g))))) := (hfr bs (Or.inr (Or.inl t_bs)) n_bs_w).trans hc_bs
  have hc_im : Mq5_ im = some (.inl (kA 6, 3, .inr (.inr (.inr (.inr gi))))) := (hfr im (Or.inl hn_im) n_im_w).trans hc_im
  have hc_rd : Mq5_ rd = some (.inr (3, [.ref nb, .ref (zv z vi), .int no, .int wi, .ref by_, .int le, .int ki, .int pl, .int be, .int vr])) := (hfr rd (Or.inl hn_rd) n_rd_w).trans hc_rd
  have hc_rc : Mq5_ rc = some (.inr (4, [.ref rb, .ref rs, .ref rp, .int pm])) := (hfr rc (Or.inl hn_rc) n_rc_w).trans hc_rc
  have hc_mo : Mq5_ mo = some (.inr (8, [.ref al, .ref mt, .ref ii, .int ta, .int fpm, .ref pa, .int sm, .int nx, .int tk, .int plm, .int ln, .long va, .int wr, .ref li])) := (hfr mo (Or.inl hn_mo) n_mo_w).trans hc_mo
  have hc_al : Mq5_ al = some (.inl (kA 0, 7506, .inl F)) := (hfr al (Or.inl hn_al) n_al_w).trans hc_al
  have hc_ii : Mq5_ ii = some (.inl (kA 2, 3, .inl fi)) := (hfr ii (Or.inl hn_ii) n_ii_w).trans hc_ii
  have him : ImsOK kA Mq5_ T w gi ti := him.mv hn_w (fun q hA hw hk => hfr q (FrA.k hA) hw)
  refine lv_pop hx hb dL_law_830 rfl ?_
  refine lv_aload_n hx hb dL_law_831 rfl (lv_at hl 1 rfl) ?_
  refine lv_aload_n hx hb dL_law_832 rfl (lv_at hl 3 rfl) ?_
  refine lv_iload_n hx hb dL_law_833 rfl (lv_at hl 0 rfl) ?_
  refine lv_iconst (v := 1) hx hb dL_law_834 (by decide) ?_
  refine lv_iadd hx hb dL_law_835 ?_
  refine lv_cst (v := zq1_) e_zq1_.symm ?_
  refine va_sld hx hb hX hbl hbA hH.2.1 (sIx hi0 hi6 h_zq1_ (by decide) (by decide)) dL_law_836 ?_
  refine lv_cst (v := vq2_) e_vq2_.symm ?_
  refine lv_aload_n hx hb dL_law_837 rfl (lv_at hl 3 rfl) ?_
  refine lv_iload_n hx hb dL_law_838 rfl (lv_at hl 0 rfl) ?_
  refine lv_iconst (v := 2) hx hb dL_law_839 (by decide) ?_
  refine lv_iadd hx hb dL_law_840 ?_
  refine lv_cst (v := zq3_) e_zq3_.symm ?_
  refine va_sld hx hb hX hbl hbA hH.2.1 (sIx hi0 hi6 h_zq3_ (by decide) (by decide)) dL_law_841 ?_
  refine lv_cst (v := vq4_) e_vq4_.symm ?_
  have hO_rd := hc_rd
  have hO_rc := hc_rc
  have hO_mo := hc_mo
  have hO_al := hc_al
  have hO_ii := hc_ii
  have hO_im := hc_im
  refine goI hK hH (runV (As := [.int vq2_, .int vq4_]) (rest := []) hC hK hH (c_X10_release hc_mo hn_mo hc_al hn_al t_mt t_pa t_li (by exact hR_F)) mlL_88 (rcvM hK hH hc_mo rfl) ⟨⟨Nat.le_of_ble_eq_true rfl, Nat.le_of_ble_eq_true rfl⟩, lcA hcl, lcA hsl⟩ rfl hl.1 rfl (Nat.le_of_ble_eq_true rfl) dL_law_842) (fun rq16_ Mq14_ Tq15_ Hq_ lcq_ hP hz hH => ?_)
  try dsimp only at hP
  obtain ⟨gq17_, h_gq17_, (hx_al), eT, hfr⟩ := hP
  have eT := eT.symm; subst eT
  have hc_ro : Mq14_ ro = some (.inr (7, [.ref w, .ref im, .ref rd, .ref rc, .ref cu])) := (hfr ro (Or.inl hn_ro) n_ro_al).trans hc_ro
  have hc_w : Mq14_ w = some (.inr (6, [.int xq8_, .int xq9_, .int xq10_, .int xq11_, .int xq12_, .int xq13_, .int tl, .int fp, .ref cs, .ref bs, .ref tp])) := (hfr w (Or.inl hn_w) n_w_al).trans hc_w
  have hc_bs : Mq14_ bs = some (.inl (kA 5, 4, .inr (.inr (.inr (.inr g))))) := (hfr bs (Or.inr (Or.inl t_bs)) n_bs_al).trans hc_bs
  have hc_im : Mq14_ im = some (.inl (kA 6, 3, .inr (.inr (.inr (.inr gi))))) := (hfr im (Or.inl hn_im) n_im_al).trans hc_im
  have hc_rd : Mq14_ rd = some (.inr (3, [.ref nb, .ref (zv z vi), .int no, .int wi, .ref by_, .int le, .int ki, .int pl, .int be, .int vr])) := (hfr rd (Or.inl hn_rd) n_rd_al).trans hc_rd
  have hc_rc : Mq14_ rc = some (.inr (4, [.ref rb, .ref rs, .ref rp, .int pm])) := (hfr rc (Or.inl hn_rc) n_rc_al).trans hc_rc
  have hc_mo : Mq14_ mo = some (.inr (8, [.ref al, .ref mt, .ref ii, .int ta, .int fpm, .ref pa, .int sm, .int nx, .int tk, .int plm, .int ln, .long va, .int wr, .ref li])) := (hfr mo (Or.inl hn_mo) n_mo_al).trans hc_mo
  have hc_al : Mq14_ al = some (.inl (kA 0, 7506, .inl gq17_)) := hx_al
  have hc_ii : Mq14_ ii = some (.inl (kA 2, 3, .inl fi)) := (hfr ii (Or.inl hn_ii) n_ii_al).trans hc_ii
  have hR_gq17_ : Rng gq17_ := h_gq17_.1
  have hRI := hRI.ke (h_gq17_.2)
  have him : ImsOK kA Mq14_ T w gi ti := him.mv hn_w (fun q hA hw hk => hfr q (FrA.k hA) (fun z9 => by rw [z9] at hk; exact nWi (hk _ hO_al)))
  refine lv_pop hx hb dL_law_845 rfl ?_
  refine lv_goto (tgt := 1370) hx hb dL_law_846 (by decide) ?_
  exact kk _ _ _ _ ls _ _ ⟨w, im, rd, rc, cu, cs, bs, tp, nb, by_, vi, rb, rs, rp, al, mt, ii, pa, li, xq8_, xq9_, xq10_, xq11_, xq12_, xq13_, tl, fp, no, wi, le, ki, pl, be, vr, pm, ta, fpm, sm, nx, tk, plm, ln, wr, va, g, gi, ti, fi, gq17_, hc_ro, hc_w, hc_bs, hc_im, hc_rd, hc_rc, hc_mo, hc_al, hc_ii, hn_ro, hn_w, hn_im, hn_rd, hn_rc, hn_mo, hn_al, hn_ii, t_cu, t_cs, t_bs, t_tp, t_nb, t_rb, t_rs, t_rp, t_mt, t_pa, t_li, ⟨l_xq8_, g_xq8_⟩, ⟨l_xq10_, g_xq10_⟩, htl, hvi, hno, hwi, hpm, hta, hRT, hg, hg3, him, hR_gq17_, hRI⟩ hH (lv_sub hl [0, 1, 2, 3] rfl) (Nat.le_add_right _ _) (Nat.le_add_right _ _)
set_option maxHeartbeats 4000000 in
set_option maxRecDepth 100000 in
theorem law_case_17 {p : Program} {e : Env} {s : State} {m : MethodId} {below : List Frame} {meth : Method} {c : Code} {l : Launch} {b L : Nat} {xs : Nat → Int32} (C0 : lw_At p s m meth c b L xs) (hL : L ≤ 3072) {z : zD} {D : va_G} {kA : Nat → ClassId} (hK : mK D kA s) {M : mM} {T : mT} {A : Nat → Prop} (hAq : ∀ q, A q → s.heap.size ≤ q) (hZ : zB z A s) {Hq_ : Heap} {lcq_ : List Loc} {ls : Array Slot} {ro mo : Nat} {i : Int32} {cells slots : Nat} {w im rd rc cu cs bs tp nb by_ vi rb rs rp al mt ii pa li : Nat} {td gd bc py rf lt tl fp no wi le ki pl be vr pm ta fpm sm nx tk plm ln wr : Int32} {va : Int64} {g gi : Nat → Option Nat} {ti fi F : Nat → Int32} (hc_ro : M ro = some (.inr (7, [.ref w, .ref im, .ref rd, .ref rc, .ref cu]))) (hc_w : M w = some (.inr (6, [.int td, .int gd, .int bc, .int py, .int rf, .int lt, .int tl, .int fp, .ref cs, .ref bs, .ref tp]))) (hc_bs : M bs = some (.inl (kA 5, 4, .inr (.inr (.inr (.inr g)))))) (hc_im : M im = some (.inl (kA 6, 3, .inr (.inr (.inr (.inr gi)))))) (hc_rd : M rd = some (.inr (3, [.ref nb, .ref (zv z vi), .int no, .int wi, .ref by_, .int le, .int ki, .int pl, .int be, .int vr]))) (hc_rc : M rc = some (.inr (4, [.ref rb, .ref rs, .ref rp, .int pm]))) (hc_mo : M mo = some (.inr (8, [.ref al, .ref mt, .ref ii, .int ta, .int fpm, .ref pa, .int sm, .int nx, .int tk, .int plm, .int ln, .long va, .int wr, .ref li]))) (hc_al : M al = some (.inl (kA 0, 7506, .inl F))) (hc_ii : M ii = some (.inl (kA 2, 3, .inl fi))) (hn_ro : T ro = none) (hn_w : T w = none) (hn_im : T im = none) (hn_rd : T rd = none) (hn_rc : T rc = none) (hn_mo : T mo = none) (hn_al : T al = none) (hn_ii : T ii = none) (t_cu : T cu = some 9) (t_cs : T cs = some 3) (t_bs : T bs = some 6) (t_tp : T tp = some 7) (t_nb : T nb = some 12) (t_rb : T rb = some 2) (t_rs : T rs = some 3) (t_rp : T rp = some 5) (t_mt : T mt = some 11) (t_pa : T pa = some 13) (t_li : T li = some 14) (htd : 0 ≤ td.toInt ∧ td.toInt ≤ 999) (hbc : 0 ≤ bc.toInt ∧ bc.toInt ≤ 4) (htl : 0 ≤ tl.toInt ∧ tl.toInt ≤ 600) (hvi : vi < 19) (hno : 0 ≤ no.toInt ∧ no.toInt ≤ 1) (hwi : 0 ≤ wi.toInt ∧ wi.toInt ≤ 1) (hpm : 0 ≤ pm.toInt ∧ pm.toInt ≤ 14) (hta : 0 ≤ ta.toInt ∧ ta.toInt ≤ 600) (hRT : ta.toInt = tl.toInt) (hg : ∀ j, j < 4 → ∃ q, g j = some q ∧ T q = some 2) (hg3 : ∀ j, 3 ≤ j → gi j = none) (him : ImsOK kA M T w gi ti) (hR_F : Rng F) (hRI : RelI gi ti fi F) (n_ro_w : ro ≠ w) (n_w_ro : w ≠ ro) (n_ro_bs : ro ≠ bs) (n_bs_ro : bs ≠ ro) (n_ro_im : ro ≠ im) (n_im_ro : im ≠ ro) (n_ro_rd : ro ≠ rd) (n_rd_ro : rd ≠ ro) (n_ro_rc : ro ≠ rc) (n_rc_ro : rc ≠ ro) (n_ro_mo : ro ≠ mo) (n_mo_ro : mo ≠ ro) (n_ro_al : ro ≠ al) (n_al_ro : al ≠ ro) (n_ro_ii : ro ≠ ii) (n_ii_ro : ii ≠ ro) (n_w_bs : w ≠ bs) (n_bs_w : bs ≠ w) (n_w_im : w ≠ im) (n_im_w : im ≠ w) (n_w_rd : w ≠ rd) (n_rd_w : rd ≠ w) (n_w_rc : w ≠ rc) (n_rc_w : rc ≠ w) (n_w_mo : w ≠ mo) (n_mo_w : mo ≠ w) (n_w_al : w ≠ al) (n_al_w : al ≠ w) (n_w_ii : w ≠ ii) (n_ii_w : ii ≠ w) (n_bs_im : bs ≠ im) (n_im_bs : im ≠ bs) (n_bs_rd : bs ≠ rd) (n_rd_bs : rd ≠ bs) (n_bs_rc : bs ≠ rc) (n_rc_bs : rc ≠ bs) (n_bs_mo : bs ≠ mo) (n_mo_bs : mo ≠ bs) (n_bs_al : bs ≠ al) (n_al_bs : al ≠ bs) (n_bs_ii : bs ≠ ii) (n_ii_bs : ii ≠ bs) (n_im_rd : im ≠ rd) (n_rd_im : rd ≠ im) (n_im_rc : im ≠ rc) (n_rc_im : rc ≠ im) (n_im_mo : im ≠ mo) (n_mo_im : mo ≠ im) (n_im_al : im ≠ al) (n_al_im : al ≠ im) (n_im_ii : im ≠ ii) (n_ii_im : ii ≠ im) (n_rd_rc : rd ≠ rc) (n_rc_rd : rc ≠ rd) (n_rd_mo : rd ≠ mo) (n_mo_rd : mo ≠ rd) (n_rd_al : rd ≠ al) (n_al_rd : al ≠ rd) (n_rd_ii : rd ≠ ii) (n_ii_rd : ii ≠ rd) (n_rc_mo : rc ≠ mo) (n_mo_rc : mo ≠ rc) (n_rc_al : rc ≠ al) (n_al_rc : al ≠ rc) (n_rc_ii : rc ≠ ii) (n_ii_rc : ii ≠ rc) (n_mo_al : mo ≠ al) (n_al_mo : al ≠ mo) (n_mo_ii : mo ≠ ii) (n_ii_mo : ii ≠ mo) (n_al_ii : al ≠ ii) (n_ii_al : ii ≠ al) (hi0 : 0 ≤ i.toInt) (hi6 : i.toInt + 6 ≤ (L : Int)) (hcl : cells + 92 ≤ 600000) (hsl : slots + 1627 ≤ 7302250) (hH : mS D kA M T A s.heap Hq_ lcq_) (hl : lv_has ls 4 [(3, .int i), (2, .ref mo), (1, .ref ro), (0, .ref b)]) (kk : ∀ (M1 : mM) (T1 : mT) (H1 : Heap) (locs1 : List Loc) (ls1 : Array Slot) (cl1 sl1 : Nat), LI z kA M1 T1 ro mo → mS D kA M1 T1 A s.heap H1 locs1 → lv_has ls1 4 [(3, .int i), (2, .ref mo), (1, .ref ro), (0, .ref b)] → cl1 ≤ cells + 92 → sl1 ≤ slots + 1627 → W p l e room_1 s m #[Value.ref b] below meth c H1 locs1 cl1 sl1 (lw_Z below #[Value.ref b] s) (F0 m 1370 ls1 [])) : W p l e room_1 s m #[Value.ref b] below meth c Hq_ lcq_ cells slots (lw_Z below #[Value.ref b] s) (F0 m 849 ls []) := by
  obtain ⟨hx, hb, hr, hml, hown, hts, hX, hbl, hlocks, hgv⟩ := id C0
  have hC : CallFix p m c cL_law 4 s #[Value.ref b] TB RL := ⟨hx, hb, hml, hown, fun w h => hts w (TB_in h)⟩
  have hbA : ¬ A b := fun h => absurd (hAq b h) (Nat.not_le.mpr hbl)
  refine lv_aload_n hx hb dL_law_849 rfl (lv_at hl 2 rfl) ?_
  refine lv_aload_n hx hb dL_law_850 rfl (lv_at hl 3 rfl) ?_
  refine lv_iload_n hx hb dL_law_851 rfl (lv_at hl 0 rfl) ?_
  refine lv_iconst (v := 1) hx hb dL_law_852 (by decide) ?_
  refine lv_iadd hx hb dL_law_853 ?_
  refine lv_topi (fun zq1_ e_zq1_ => ?_)
  have h_zq1_ : zq1_.toInt = i.toInt + (1 : Int32).toInt := sIa hi0 hi6 hL e_zq1_ (by decide) (by decide)
  refine va_sld hx hb hX hbl hbA hH.2.1 (sIx hi0 hi6 h_zq1_ (by decide) (by decide)) dL_law_854 ?_
  refine lv_topi (fun vq2_ e_vq2_ => ?_)
  refine lv_aload_n hx hb dL_law_855 rfl (lv_at hl 3 rfl) ?_
  refine lv_iload_n hx hb dL_law_856 rfl (lv_at hl 0 rfl) ?_
  refine lv_iconst (v := 2) hx hb dL_law_857 (by decide) ?_
  refine lv_iadd hx hb dL_law_858 ?_
  refine lv_topi (fun zq3_ e_zq3_ => ?_)
  have h_zq3_ : zq3_.toInt = i.toInt + (2 : Int32).toInt := sIa hi0 hi6 hL e_zq3_ (by decide) (by decide)
  refine va_sld hx hb hX hbl hbA hH.2.1 (sIx hi0 hi6 h_zq3_ (by decide) (by decide)) dL_law_859 ?_
  refine lv_topi (fun vq4_ e_vq4_ => ?_)
  have hO_rd := hc_rd
  have hO_rc := hc_rc
  have hO_mo := hc_mo
  have hO_al := hc_al
  have hO_ii := hc_ii
  have hO_im := hc_im
  refine goI hK hH (runV (As := [.int vq2_, .int vq4_]) (rest := []) hC hK hH (c_X9_pay hc_ro hn_ro hc_w hn_w hc_bs t_cs t_bs t_tp (by exact htd) (by exact hbc) (by exact htl) hg) mlL_89 (rcvM hK hH hc_ro rfl) ⟨⟨Nat.le_of_ble_eq_true rfl, Nat.le_of_ble_eq_true rfl⟩, lcA hcl, lcA hsl⟩ rfl hl.1 rfl (Nat.le_of_ble_eq_true rfl) dL_law_860) (fun rq7_ Mq5_ Tq6_ Hq_ lcq_ hP hz hH => ?_)
  try dsimp only at hP
  obtain ⟨xq8_, ⟨l_xq8_, g_xq8_⟩, xq9_, ⟨l_xq9_, g_xq9_⟩, xq10_, ⟨l_xq10_, g_xq10_⟩, xq11_, ⟨l_xq11_, g_xq11_⟩, xq12_, ⟨l_xq12_, g_xq12_⟩, xq13_, ⟨l_xq13_, g_xq13_⟩, (hx_w), eT, hfr⟩ := hP
  have eT := eT.symm; subst eT
  have hc_ro : Mq5_ ro = some (.inr (7, [.ref w, .ref im, .ref rd, .ref rc, .ref cu])) := (hfr ro (Or.inl hn_ro) n_ro_w).trans hc_ro
  have hc_w : Mq5_ w = some (.inr (6, [.int xq8_, .int xq9_, .int xq10_, .int xq11_, .int xq12_, .int xq13_, .int tl, .int fp, .ref cs, .ref bs, .ref tp])) := hx_w
  have hc_bs : Mq5_ bs = some (.inl (kA 5, 4, .inr (.inr (.inr (.inr g))))) := (hfr bs (Or.inr t_bs) n_bs_w).trans hc_bs
  have hc_im : Mq5_ im = some (.inl (kA 6, 3, .inr (.inr (.inr (.inr gi))))) := (hfr im (Or.inl hn_im) n_im_w).trans hc_im
  have hc_rd : Mq5_ rd = some (.inr (3, [.ref nb, .ref (zv z vi), .int no, .int wi, .ref by_, .int le, .int ki, .int pl, .int be, .int vr])) := (hfr rd (Or.inl hn_rd) n_rd_w).trans hc_rd
  have hc_rc : Mq5_ rc = some (.inr (4, [.ref rb, .ref rs, .ref rp, .int pm])) := (hfr rc (Or.inl hn_rc) n_rc_w).trans hc_rc
  have hc_mo : Mq5_ mo = some (.inr (8, [.ref al, .ref mt, .ref ii, .int ta, .int fpm, .ref pa, .int sm, .int nx, .int tk, .int plm, .int ln, .long va, .int wr, .ref li])) := (hfr mo (Or.inl hn_mo) n_mo_w).trans hc_mo
  have hc_al : Mq5_ al = some (.inl (kA 0, 7506, .inl F)) := (hfr al (Or.inl hn_al) n_al_w).trans hc_al
  have hc_ii : Mq5_ ii = some (.inl (kA 2, 3, .inl fi)) := (hfr ii (Or.inl hn_ii) n_ii_w).trans hc_ii
  have him : ImsOK kA Mq5_ T w gi ti := him.mv hn_w (fun q hA hw hk => hfr q hA hw)
  refine lv_pop hx hb dL_law_863 rfl ?_
  refine lv_aload_n hx hb dL_law_864 rfl (lv_at hl 1 rfl) ?_
  refine lv_aload_n hx hb dL_law_865 rfl (lv_at hl 3 rfl) ?_
  refine lv_iload_n hx hb dL_law_866 rfl (lv_at hl 0 rfl) ?_
  refine lv_iconst (v := 1) hx hb dL_law_867 (by decide) ?_
  refine lv_iadd hx hb dL_law_868 ?_
  refine lv_cst (v := zq1_) e_zq1_.symm ?_
  refine va_sld hx hb hX hbl hbA hH.2.1 (sIx hi0 hi6 h_zq1_ (by decide) (by decide)) dL_law_869 ?_
  refine lv_cst (v := vq2_) e_vq2_.symm ?_
  refine lv_aload_n hx hb dL_law_870 rfl (lv_at hl 3 rfl) ?_
  refine lv_iload_n hx hb dL_law_871 rfl (lv_at hl 0 rfl) ?_
  refine lv_iconst (v := 2) hx hb dL_law_872 (by decide) ?_
  refine lv_iadd hx hb dL_law_873 ?_
  refine lv_cst (v := zq3_) e_zq3_.symm ?_
  refine va_sld hx hb hX hbl hbA hH.2.1 (sIx hi0 hi6 h_zq3_ (by decide) (by decide)) dL_law_874 ?_
  refine lv_cst (v := vq4_) e_vq4_.symm ?_
  have hO_rd := hc_rd
  have hO_rc := hc_rc
  have hO_mo := hc_mo
  have hO_al := hc_al
  have hO_ii := hc_ii
  have hO_im := hc_im
  refine goI hK hH (runV (As := [.int vq2_, .int vq4_]) (rest := []) hC hK hH (c_X10_pay hc_mo hn_mo hc_al hn_al t_mt t_pa t_li (by exact hR_F)) mlL_92 (rcvM hK hH hc_mo rfl) ⟨⟨Nat.le_of_ble_eq_true rfl, Nat.le_of_ble_eq_true rfl⟩, lcA hcl, lcA hsl⟩ rfl hl.1 rfl (Nat.le_of_ble_eq_true rfl) dL_law_875) (fun rq16_ Mq14_ Tq15_ Hq_ lcq_ hP hz hH => ?_)
  try dsimp only at hP
  obtain ⟨gq17_, h_gq17_, (hx_al), eT, hfr⟩ := hP
  have eT := eT.symm; subst eT
  have hc_ro : Mq14_ ro = some (.inr (7, [.ref w, .ref im, .ref rd, .ref rc, .ref cu])) := (hfr ro (Or.inl hn_ro) n_ro_al).trans hc_ro
  have hc_w : Mq14_ w = some (.inr (6, [.int xq8_, .int xq9_, .int xq10_, .int xq11_, .int xq12_, .int xq13_, .int tl, .int fp, .ref cs, .ref bs, .ref tp])) := (hfr w (Or.inl hn_w) n_w_al).trans hc_w
  have hc_bs : Mq14_ bs = some (.inl (kA 5, 4, .inr (.inr (.inr (.inr g))))) := (hfr bs (Or.inr (Or.inl t_bs)) n_bs_al).trans hc_bs
  have hc_im : Mq14_ im = some (.inl (kA 6, 3, .inr (.inr (.inr (.inr gi))))) := (hfr im (Or.inl hn_im) n_im_al).trans hc_im
  have hc_rd : Mq14_ rd = some (.inr (3, [.ref nb, .ref (zv z vi), .int no, .int wi, .ref by_, .int le, .int ki, .int pl, .int be, .int vr])) := (hfr rd (Or.inl hn_rd) n_rd_al).trans hc_rd
  have hc_rc : Mq14_ rc = some (.inr (4, [.ref rb, .ref rs, .ref rp, .int pm])) := (hfr rc (Or.inl hn_rc) n_rc_al).trans hc_rc
  have hc_mo : Mq14_ mo = some (.inr (8, [.ref al, .ref mt, .ref ii, .int ta, .int fpm, .ref pa, .int sm, .int nx, .int tk, .int plm, .int ln, .long va, .int wr, .ref li])) := (hfr mo (Or.inl hn_mo) n_mo_al).trans hc_mo
  have hc_al : Mq14_ al = some (.inl (kA 0, 7506, .inl gq17_)) := hx_al
  have hc_ii : Mq14_ ii = some (.inl (kA 2, 3, .inl fi)) := (hfr ii (Or.inl hn_ii) n_ii_al).trans hc_ii
  have hR_gq17_ : Rng gq17_ := h_gq17_.1
  have hRI := hRI.ke (h_gq17_.2)
  have him : ImsOK kA Mq14_ T w gi ti := him.mv hn_w (fun q hA hw hk => hfr q (FrA.k hA) (fun z9 => by rw [z9] at hk; exact nWi (hk _ hO_al)))
  refine lv_pop hx hb dL_law_878 rfl ?_
  refine lv_goto (tgt := 1370) hx hb dL_law_879 (by decide) ?_
  exact kk _ _ _ _ ls _ _ ⟨w, im, rd, rc, cu, cs, bs, tp, nb, by_, vi, rb, rs, rp, al, mt, ii, pa, li, xq8_, xq9_, xq10_, xq11_, xq12_, xq13_, tl, fp, no, wi, le, ki, pl, be, vr, pm, ta, fpm, sm, nx, tk, plm, ln, wr, va, g, gi, ti, fi, gq17_, hc_ro, hc_w, hc_bs, hc_im, hc_rd, hc_rc, hc_mo, hc_al, hc_ii, hn_ro, hn_w, hn_im, hn_rd, hn_rc, hn_mo, hn_al, hn_ii, t_cu, t_cs, t_bs, t_tp, t_nb, t_rb, t_rs, t_rp, t_mt, t_pa, t_li, ⟨l_xq8_, g_xq8_⟩, ⟨l_xq10_, g_xq10_⟩, htl, hvi, hno, hwi, hpm, hta, hRT, hg, hg3, him, hR_gq17_, hRI⟩ hH (lv_sub hl [0, 1, 2, 3] rfl) (Nat.le_add_right _ _) (Nat.le_add_right _ _)
set_option maxHeartbeats 4000000 in
set_option maxRecDepth 100000 in
theorem law_case_18 {p : Program} {e : Env} {s : State} {m : MethodId} {below : List Frame} {meth : Method} {c : Code} {l : Launch} {b L : Nat} {xs : Nat → Int32} (C0 : lw_At p s m meth c b L xs) (hL : L ≤ 3072) {z : zD} {D : va_G} {kA : Nat → ClassId} (hK : mK D kA s) {M : mM} {T : mT} {A : Nat → Prop} (hAq : ∀ q, A q → s.heap.size ≤ q) (hZ : zB z A s) {Hq_ : Heap} {lcq_ : List Loc} {ls : Array Slot} {ro mo : Nat} {i : Int32} {cells slots : Nat} {w im rd rc cu cs bs tp nb by_ vi rb rs rp al mt ii pa li : Nat} {td gd bc py rf lt tl fp no wi le ki pl be vr pm ta fpm sm nx tk plm ln wr : Int32} {va : Int64} {g gi : Nat → Option Nat} {ti fi F : Nat → Int32} (hc_ro : M ro = some (.inr (7, [.ref w, .ref im, .ref rd, .ref rc, .ref cu]))) (hc_w : M w = some (.inr (6, [.int td, .int gd, .int bc, .int py, .int rf, .int lt, .int tl, .int fp, .ref cs, .ref bs, .ref tp]))) (hc_bs : M bs = some (.inl (kA 5, 4, .inr (.inr (.inr (.inr g)))))) (hc_im : M im = some (.inl (kA 6, 3, .inr (.inr (.inr (.inr gi)))))) (hc_rd : M rd = some (.inr (3, [.ref nb, .ref (zv z vi), .int no, .int wi, .ref by_, .int le, .int ki, .int pl, .int be, .int vr]))) (hc_rc : M rc = some (.inr (4, [.ref rb, .ref rs, .ref rp, .int pm]))) (hc_mo : M mo = some (.inr (8, [.ref al, .ref mt, .ref ii, .int ta, .int fpm, .ref pa, .int sm, .int nx, .int tk, .int plm, .int ln, .long va, .int wr, .ref li]))) (hc_al : M al = some (.inl (kA 0, 7506, .inl F))) (hc_ii : M ii = some (.inl (kA 2, 3, .inl fi))) (hn_ro : T ro = none) (hn_w : T w = none) (hn_im : T im = none) (hn_rd : T rd = none) (hn_rc : T rc = none) (hn_mo : T mo = none) (hn_al : T al = none) (hn_ii : T ii = none) (t_cu : T cu = some 9) (t_cs : T cs = some 3) (t_bs : T bs = some 6) (t_tp : T tp = some 7) (t_nb : T nb = some 12) (t_rb : T rb = some 2) (t_rs : T rs = some 3) (t_rp : T rp = some 5) (t_mt : T mt = some 11) (t_pa : T pa = some 13) (t_li : T li = some 14) (htd : 0 ≤ td.toInt ∧ td.toInt ≤ 999) (hbc : 0 ≤ bc.toInt ∧ bc.toInt ≤ 4) (htl : 0 ≤ tl.toInt ∧ tl.toInt ≤ 600) (hvi : vi < 19) (hno : 0 ≤ no.toInt ∧ no.toInt ≤ 1) (hwi : 0 ≤ wi.toInt ∧ wi.toInt ≤ 1) (hpm : 0 ≤ pm.toInt ∧ pm.toInt ≤ 14) (hta : 0 ≤ ta.toInt ∧ ta.toInt ≤ 600) (hRT : ta.toInt = tl.toInt) (hg : ∀ j, j < 4 → ∃ q, g j = some q ∧ T q = some 2) (hg3 : ∀ j, 3 ≤ j → gi j = none) (him : ImsOK kA M T w gi ti) (hR_F : Rng F) (hRI : RelI gi ti fi F) (n_ro_w : ro ≠ w) (n_w_ro : w ≠ ro) (n_ro_bs : ro ≠ bs) (n_bs_ro : bs ≠ ro) (n_ro_im : ro ≠ im) (n_im_ro : im ≠ ro) (n_ro_rd : ro ≠ rd) (n_rd_ro : rd ≠ ro) (n_ro_rc : ro ≠ rc) (n_rc_ro : rc ≠ ro) (n_ro_mo : ro ≠ mo) (n_mo_ro : mo ≠ ro) (n_ro_al : ro ≠ al) (n_al_ro : al ≠ ro) (n_ro_ii : ro ≠ ii) (n_ii_ro : ii ≠ ro) (n_w_bs : w ≠ bs) (n_bs_w : bs ≠ w) (n_w_im : w ≠ im) (n_im_w : im ≠ w) (n_w_rd : w ≠ rd) (n_rd_w : rd ≠ w) (n_w_rc : w ≠ rc) (n_rc_w : rc ≠ w) (n_w_mo : w ≠ mo) (n_mo_w : mo ≠ w) (n_w_al : w ≠ al) (n_al_w : al ≠ w) (n_w_ii : w ≠ ii) (n_ii_w : ii ≠ w) (n_bs_im : bs ≠ im) (n_im_bs : im ≠ bs) (n_bs_rd : bs ≠ rd) (n_rd_bs : rd ≠ bs) (n_bs_rc : bs ≠ rc) (n_rc_bs : rc ≠ bs) (n_bs_mo : bs ≠ mo) (n_mo_bs : mo ≠ bs) (n_bs_al : bs ≠ al) (n_al_bs : al ≠ bs) (n_bs_ii : bs ≠ ii) (n_ii_bs : ii ≠ bs) (n_im_rd : im ≠ rd) (n_rd_im : rd ≠ im) (n_im_rc : im ≠ rc) (n_rc_im : rc ≠ im) (n_im_mo : im ≠ mo) (n_mo_im : mo ≠ im) (n_im_al : im ≠ al) (n_al_im : al ≠ im) (n_im_ii : im ≠ ii) (n_ii_im : ii ≠ im) (n_rd_rc : rd ≠ rc) (n_rc_rd : rc ≠ rd) (n_rd_mo : rd ≠ mo) (n_mo_rd : mo ≠ rd) (n_rd_al : rd ≠ al) (n_al_rd : al ≠ rd) (n_rd_ii : rd ≠ ii) (n_ii_rd : ii ≠ rd) (n_rc_mo : rc ≠ mo) (n_mo_rc : mo ≠ rc) (n_rc_al : rc ≠ al) (n_al_rc : al ≠ rc) (n_rc_ii : rc ≠ ii) (n_ii_rc : ii ≠ rc) (n_mo_al : mo ≠ al) (n_al_mo : al ≠ mo) (n_mo_ii : mo ≠ ii) (n_ii_mo : ii ≠ mo) (n_al_ii : al ≠ ii) (n_ii_al : ii ≠ al) (hi0 : 0 ≤ i.toInt) (hi6 : i.toInt + 6 ≤ (L : Int)) (hcl : cells + 92 ≤ 600000) (hsl : slots + 1627 ≤ 7302250) (hH : mS D kA M T A s.heap Hq_ lcq_) (hl : lv_has ls 4 [(3, .int i), (2, .ref mo), (1, .ref ro), (0, .ref b)]) (kk : ∀ (M1 : mM) (T1 : mT) (H1 : Heap) (locs1 : List Loc) (ls1 : Array Slot) (cl1 sl1 : Nat), LI z kA M1 T1 ro mo → mS D kA M1 T1 A s.heap H1 locs1 → lv_has ls1 4 [(3, .int i), (2, .ref mo), (1, .ref ro), (0, .ref b)] → cl1 ≤ cells + 92 → sl1 ≤ slots + 1627 → W p l e room_1 s m #[Value.ref b] below meth c H1 locs1 cl1 sl1 (lw_Z below #[Value.ref b] s) (F0 m 1370 ls1 [])) : W p l e room_1 s m #[Value.ref b] below meth c Hq_ lcq_ cells slots (lw_Z below #[Value.ref b] s) (F0 m 882 ls []) := by
  obtain ⟨hx, hb, hr, hml, hown, hts, hX, hbl, hlocks, hgv⟩ := id C0
  have hC : CallFix p m c cL_law 4 s #[Value.ref b] TB RL := ⟨hx, hb, hml, hown, fun w h => hts w (TB_in h)⟩
  have hbA : ¬ A b := fun h => absurd (hAq b h) (Nat.not_le.mpr hbl)
  refine lv_aload_n hx hb dL_law_882 rfl (lv_at hl 2 rfl) ?_
  refine lv_aload_n hx hb dL_law_883 rfl (lv_at hl 3 rfl) ?_
  refine lv_iload_n hx hb dL_law_884 rfl (lv_at hl 0 rfl) ?_
  refine lv_iconst (v := 1) hx hb dL_law_885 (by decide) ?_
  refine lv_iadd hx hb dL_law_886 ?_
  refine lv_topi (fun zq1_ e_zq1_ => ?_)
  have h_zq1_ : zq1_.toInt = i.toInt + (1 : Int32).toInt := sIa hi0 hi6 hL e_zq1_ (by decide) (by decide)
  refine va_sld hx hb hX hbl hbA hH.2.1 (sIx hi0 hi6 h_zq1_ (by decide) (by decide)) dL_law_887 ?_
  refine lv_topi (fun vq2_ e_vq2_ => ?_)
  have hO_rd := hc_rd
  have hO_rc := hc_rc
  have hO_mo := hc_mo
  have hO_al := hc_al
  have hO_ii := hc_ii
  have hO_im := hc_im
  refine goI hK hH (runV (As := [.int vq2_]) (rest := []) hC hK hH (c_X9_count hc_ro hn_ro hc_w hn_w hc_bs t_cs t_bs t_tp (by exact htd) (by exact hbc) (by exact htl) hg) mlL_93 (rcvM hK hH hc_ro rfl) ⟨⟨Nat.le_of_ble_eq_true rfl, Nat.le_of_ble_eq_true rfl⟩, lcA hcl, lcA hsl⟩ rfl hl.1 rfl (Nat.le_of_ble_eq_true rfl) dL_law_888) (fun rq5_ Mq3_ Tq4_ Hq_ lcq_ hP hz hH => ?_)
  try dsimp only at hP
  obtain ⟨(-), eT, eM⟩ := hP
  have eT := eT.symm; subst eT
  have eM := eM.symm; subst eM
  refine lv_pop hx hb dL_law_891 rfl ?_
  refine lv_aload_n hx hb dL_law_892 rfl (lv_at hl 1 rfl) ?_
  refine lv_aload_n hx hb dL_law_893 rfl (lv_at hl 3 rfl) ?_
  refine lv_iload_n hx hb dL_law_894 rfl (lv_at hl 0 rfl) ?_
  refine lv_iconst (v := 1) hx hb dL_law_895 (by decide) ?_
  refine lv_iadd hx hb dL_law_896 ?_
  refine lv_cst (v := zq1_) e_zq1_.symm ?_
  refine va_sld hx hb hX hbl hbA hH.2.1 (sIx hi0 hi6 h_zq1_ (by decide) (by decide)) dL_law_897 ?_
  refine lv_cst (v := vq2_) e_vq2_.symm ?_
  have hO_rd := hc_rd
  have hO_rc := hc_rc
  have hO_mo := hc_mo
  have hO_al := hc_al
  have hO_ii := hc_ii
  have hO_im := hc_im
  refine goI hK hH (runV (As := [.int vq2_]) (rest := []) hC hK hH (c_X10_count hc_mo hn_mo hc_al hn_al t_mt t_pa t_li (by exact hR_F)) mlL_96 (rcvM hK hH hc_mo rfl) ⟨⟨Nat.le_of_ble_eq_true rfl, Nat.le_of_ble_eq_true rfl⟩, lcA hcl, lcA hsl⟩ rfl hl.1 rfl (Nat.le_of_ble_eq_true rfl) dL_law_898) (fun rq8_ Mq6_ Tq7_ Hq_ lcq_ hP hz hH => ?_)
  try dsimp only at hP
  obtain ⟨(-), eT, eM⟩ := hP
  have eT := eT.symm; subst eT
  have eM := eM.symm; subst eM
  refine lv_pop hx hb dL_law_901 rfl ?_
  refine lv_goto (tgt := 1370) hx hb dL_law_902 (by decide) ?_
  exact kk _ _ _ _ ls _ _ ⟨w, im, rd, rc, cu, cs, bs, tp, nb, by_, vi, rb, rs, rp, al, mt, ii, pa, li, td, gd, bc, py, rf, lt, tl, fp, no, wi, le, ki, pl, be, vr, pm, ta, fpm, sm, nx, tk, plm, ln, wr, va, g, gi, ti, fi, F, hc_ro, hc_w, hc_bs, hc_im, hc_rd, hc_rc, hc_mo, hc_al, hc_ii, hn_ro, hn_w, hn_im, hn_rd, hn_rc, hn_mo, hn_al, hn_ii, t_cu, t_cs, t_bs, t_tp, t_nb, t_rb, t_rs, t_rp, t_mt, t_pa, t_li, htd, hbc, htl, hvi, hno, hwi, hpm, hta, hRT, hg, hg3, him, hR_F, hRI⟩ hH (lv_sub hl [0, 1, 2, 3] rfl) (Nat.le_add_right _ _) (Nat.le_add_right _ _)
set_option maxHeartbeats 4000000 in
set_option maxRecDepth 100000 in
theorem law_case_19 {p : Program} {e : Env} {s : State} {m : MethodId} {below : List Frame} {meth : Method} {c : Code} {l : Launch} {b L : Nat} {xs : Nat → Int32} (C0 : lw_At p s m meth c b L xs) (hL : L ≤ 3072) {z : zD} {D : va_G} {kA : Nat → ClassId} (hK : mK D kA s) {M : mM} {T : mT} {A : Nat → Prop} (hAq : ∀ q, A q → s.heap.size ≤ q) (hZ : zB z A s) {Hq_ : Heap} {lcq_ : List Loc} {ls : Array Slot} {ro mo : Nat} {i : Int32} {cells slots : Nat} {w im rd rc cu cs bs tp nb by_ vi rb rs rp al mt ii pa li : Nat} {td gd bc py rf lt tl fp no wi le ki pl be vr pm ta fpm sm nx tk plm ln wr : Int32} {va : Int64} {g gi : Nat → Option Nat} {ti fi F : Nat → Int32} (hc_ro : M ro = some (.inr (7, [.ref w, .ref im, .ref rd, .ref rc, .ref cu]))) (hc_w : M w = some (.inr (6, [.int td, .int gd, .int bc, .int py, .int rf, .int lt, .int tl, .int fp, .ref cs, .ref bs, .ref tp]))) (hc_bs : M bs = some (.inl (kA 5, 4, .inr (.inr (.inr (.inr g)))))) (hc_im : M im = some (.inl (kA 6, 3, .inr (.inr (.inr (.inr gi)))))) (hc_rd : M rd = some (.inr (3, [.ref nb, .ref (zv z vi), .int no, .int wi, .ref by_, .int le, .int ki, .int pl, .int be, .int vr]))) (hc_rc : M rc = some (.inr (4, [.ref rb, .ref rs, .ref rp, .int pm]))) (hc_mo : M mo = some (.inr (8, [.ref al, .ref mt, .ref ii, .int ta, .int fpm, .ref pa, .int sm, .int nx, .int tk, .int plm, .int ln, .long va, .int wr, .ref li]))) (hc_al : M al = some (.inl (kA 0, 7506, .inl F))) (hc_ii : M ii = some (.inl (kA 2, 3, .inl fi))) (hn_ro : T ro = none) (hn_w : T w = none) (hn_im : T im = none) (hn_rd : T rd = none) (hn_rc : T rc = none) (hn_mo : T mo = none) (hn_al : T al = none) (hn_ii : T ii = none) (t_cu : T cu = some 9) (t_cs : T cs = some 3) (t_bs : T bs = some 6) (t_tp : T tp = some 7) (t_nb : T nb = some 12) (t_rb : T rb = some 2) (t_rs : T rs = some 3) (t_rp : T rp = some 5) (t_mt : T mt = some 11) (t_pa : T pa = some 13) (t_li : T li = some 14) (htd : 0 ≤ td.toInt ∧ td.toInt ≤ 999) (hbc : 0 ≤ bc.toInt ∧ bc.toInt ≤ 4) (htl : 0 ≤ tl.toInt ∧ tl.toInt ≤ 600) (hvi : vi < 19) (hno : 0 ≤ no.toInt ∧ no.toInt ≤ 1) (hwi : 0 ≤ wi.toInt ∧ wi.toInt ≤ 1) (hpm : 0 ≤ pm.toInt ∧ pm.toInt ≤ 14) (hta : 0 ≤ ta.toInt ∧ ta.toInt ≤ 600) (hRT : ta.toInt = tl.toInt) (hg : ∀ j, j < 4 → ∃ q, g j = some q ∧ T q = some 2) (hg3 : ∀ j, 3 ≤ j → gi j = none) (him : ImsOK kA M T w gi ti) (hR_F : Rng F) (hRI : RelI gi ti fi F) (n_ro_w : ro ≠ w) (n_w_ro : w ≠ ro) (n_ro_bs : ro ≠ bs) (n_bs_ro : bs ≠ ro) (n_ro_im : ro ≠ im) (n_im_ro : im ≠ ro) (n_ro_rd : ro ≠ rd) (n_rd_ro : rd ≠ ro) (n_ro_rc : ro ≠ rc) (n_rc_ro : rc ≠ ro) (n_ro_mo : ro ≠ mo) (n_mo_ro : mo ≠ ro) (n_ro_al : ro ≠ al) (n_al_ro : al ≠ ro) (n_ro_ii : ro ≠ ii) (n_ii_ro : ii ≠ ro) (n_w_bs : w ≠ bs) (n_bs_w : bs ≠ w) (n_w_im : w ≠ im) (n_im_w : im ≠ w) (n_w_rd : w ≠ rd) (n_rd_w : rd ≠ w) (n_w_rc : w ≠ rc) (n_rc_w : rc ≠ w) (n_w_mo : w ≠ mo) (n_mo_w : mo ≠ w) (n_w_al : w ≠ al) (n_al_w : al ≠ w) (n_w_ii : w ≠ ii) (n_ii_w : ii ≠ w) (n_bs_im : bs ≠ im) (n_im_bs : im ≠ bs) (n_bs_rd : bs ≠ rd) (n_rd_bs : rd ≠ bs) (n_bs_rc : bs ≠ rc) (n_rc_bs : rc ≠ bs) (n_bs_mo : bs ≠ mo) (n_mo_bs : mo ≠ bs) (n_bs_al : bs ≠ al) (n_al_bs : al ≠ bs) (n_bs_ii : bs ≠ ii) (n_ii_bs : ii ≠ bs) (n_im_rd : im ≠ rd) (n_rd_im : rd ≠ im) (n_im_rc : im ≠ rc) (n_rc_im : rc ≠ im) (n_im_mo : im ≠ mo) (n_mo_im : mo ≠ im) (n_im_al : im ≠ al) (n_al_im : al ≠ im) (n_im_ii : im ≠ ii) (n_ii_im : ii ≠ im) (n_rd_rc : rd ≠ rc) (n_rc_rd : rc ≠ rd) (n_rd_mo : rd ≠ mo) (n_mo_rd : mo ≠ rd) (n_rd_al : rd ≠ al) (n_al_rd : al ≠ rd) (n_rd_ii : rd ≠ ii) (n_ii_rd : ii ≠ rd) (n_rc_mo : rc ≠ mo) (n_mo_rc : mo ≠ rc) (n_rc_al : rc ≠ al) (n_al_rc : al ≠ rc) (n_rc_ii : rc ≠ ii) (n_ii_rc : ii ≠ rc) (n_mo_al : mo ≠ al) (n_al_mo : al ≠ mo) (n_mo_ii : mo ≠ ii) (n_ii_mo : ii ≠ mo) (n_al_ii : al ≠ ii) (n_ii_al : ii ≠ al) (hi0 : 0 ≤ i.toInt) (hi6 : i.toInt + 6 ≤ (L : Int)) (hcl : cells + 92 ≤ 600000) (hsl : slots + 1627 ≤ 7302250) (hH : mS D kA M T A s.heap Hq_ lcq_) (hl : lv_has ls 4 [(3, .int i), (2, .ref mo), (1, .ref ro), (0, .ref b)]) (kk : ∀ (M1 : mM) (T1 : mT) (H1 : Heap) (locs1 : List Loc) (ls1 : Array Slot) (cl1 sl1 : Nat), LI z kA M1 T1 ro mo → mS D kA M1 T1 A s.heap H1 locs1 → lv_has ls1 4 [(3, .int i), (2, .ref mo), (1, .ref ro), (0, .ref b)] → cl1 ≤ cells + 92 → sl1 ≤ slots + 1627 → W p l e room_1 s m #[Value.ref b] below meth c H1 locs1 cl1 sl1 (lw_Z below #[Value.ref b] s) (F0 m 1370 ls1 [])) : W p l e room_1 s m #[Value.ref b] below meth c Hq_ lcq_ cells slots (lw_Z below #[Value.ref b] s) (F0 m 905 ls []) := by
  obtain ⟨hx, hb, hr, hml, hown, hts, hX, hbl, hlocks, hgv⟩ := id C0
  have hC : CallFix p m c cL_law 4 s #[Value.ref b] TB RL := ⟨hx, hb, hml, hown, fun w h => hts w (TB_in h)⟩
  have hbA : ¬ A b := fun h => absurd (hAq b h) (Nat.not_le.mpr hbl)
  refine lv_aload_n hx hb dL_law_905 rfl (lv_at hl 2 rfl) ?_
  refine lv_aload_n hx hb dL_law_906 rfl (lv_at hl 3 rfl) ?_
  refine lv_iload_n hx hb dL_law_907 rfl (lv_at hl 0 rfl) ?_
  refine lv_iconst (v := 1) hx hb dL_law_908 (by decide) ?_
  refine lv_iadd hx hb dL_law_909 ?_
  refine lv_topi (fun zq1_ e_zq1_ => ?_)
  have h_zq1_ : zq1_.toInt = i.toInt + (1 : Int32).toInt := sIa hi0 hi6 hL e_zq1_ (by decide) (by decide)
  refine va_sld hx hb hX hbl hbA hH.2.1 (sIx hi0 hi6 h_zq1_ (by decide) (by decide)) dL_law_910 ?_
  refine lv_topi (fun vq2_ e_vq2_ => ?_)
  refine lv_aload_n hx hb dL_law_911 rfl (lv_at hl 3 rfl) ?_
  refine lv_iload_n hx hb dL_law_912 rfl (lv_at hl 0 rfl) ?_
  refine lv_iconst (v := 2) hx hb dL_law_913 (by decide) ?_
  refine lv_iadd hx hb dL_law_914 ?_
  refine lv_topi (fun zq3_ e_zq3_ => ?_)
  have h_zq3_ : zq3_.toInt = i.toInt + (2 : Int32).toInt := sIa hi0 hi6 hL e_zq3_ (by decide) (by decide)
  refine va_sld hx hb hX hbl hbA hH.2.1 (sIx hi0 hi6 h_zq3_ (by decide) (by decide)) dL_law_915 ?_
  refine lv_topi (fun vq4_ e_vq4_ => ?_)
  have hO_rd := hc_rd
  have hO_rc := hc_rc
  have hO_mo := hc_mo
  have hO_al := hc_al
  have hO_ii := hc_ii
  have hO_im := hc_im
  refine goI hK hH (runV (As := [.int vq2_, .int vq4_]) (rest := []) hC hK hH (c_X9_bill hc_ro hn_ro hc_w hn_w hc_bs t_cs t_bs t_tp t_cu (by exact htd) (by exact hbc) (by exact htl) hg) mlL_97 (rcvM hK hH hc_ro rfl) ⟨⟨Nat.le_of_ble_eq_true rfl, Nat.le_of_ble_eq_true rfl⟩, lcA hcl, lcA hsl⟩ rfl hl.1 rfl (Nat.le_of_ble_eq_true rfl) dL_law_916) (fun rq7_ Mq5_ Tq6_ Hq_ lcq_ hP hz hH => ?_)
  try dsimp only at hP
  obtain ⟨(-), eT, hfr⟩ := hP
  have eT := eT.symm; subst eT
  have hc_ro : Mq5_ ro = some (.inr (7, [.ref w, .ref im, .ref rd, .ref rc, .ref cu])) := (hfr ro (Or.inl hn_ro) ).trans hc_ro
  have hc_w : Mq5_ w = some (.inr (6, [.int td, .int gd, .int bc, .int py, .int rf, .int lt, .int tl, .int fp, .ref cs, .ref bs, .ref tp])) := (hfr w (Or.inl hn_w) ).trans hc_w
  have hc_bs : Mq5_ bs = some (.inl (kA 5, 4, .inr (.inr (.inr (.inr g))))) := (hfr bs (Or.inr (Or.inl t_bs)) ).trans hc_bs
  have hc_im : Mq5_ im = some (.inl (kA 6, 3, .inr (.inr (.inr (.inr gi))))) := (hfr im (Or.inl hn_im) ).trans hc_im
  have hc_rd : Mq5_ rd = some (.inr (3, [.ref nb, .ref (zv z vi), .int no, .int wi, .ref by_, .int le, .int ki, .int pl, .int be, .int vr])) := (hfr rd (Or.inl hn_rd) ).trans hc_rd
  have hc_rc : Mq5_ rc = some (.inr (4, [.ref rb, .ref rs, .ref rp, .int pm])) := (hfr rc (Or.inl hn_rc) ).trans hc_rc
  have hc_mo : Mq5_ mo = some (.inr (8, [.ref al, .ref mt, .ref ii, .int ta, .int fpm, .ref pa, .int sm, .int nx, .int tk, .int plm, .int ln, .long va, .int wr, .ref li])) := (hfr mo (Or.inl hn_mo) ).trans hc_mo
  have hc_al : Mq5_ al = some (.inl (kA 0, 7506, .inl F)) := (hfr al (Or.inl hn_al) ).trans hc_al
  have hc_ii : Mq5_ ii = some (.inl (kA 2, 3, .inl fi)) := (hfr ii (Or.inl hn_ii) ).trans hc_ii
  have him : ImsOK kA Mq5_ T w gi ti := him.mv hn_w (fun q hA hw hk => hfr q (FrA.k hA) )
  refine lv_pop hx hb dL_law_919 rfl ?_
  refine lv_aload_n hx hb dL_law_920 rfl (lv_at hl 1 rfl) ?_
  refine lv_aload_n hx hb dL_law_921 rfl (lv_at hl 3 rfl) ?_
  refine lv_iload_n hx hb dL_law_922 rfl (lv_at hl 0 rfl) ?_
  refine lv_iconst (v := 1) hx hb dL_law_923 (by decide) ?_
  refine lv_iadd hx hb dL_law_924 ?_
  refine lv_cst (v := zq1_) e_zq1_.symm ?_
  refine va_sld hx hb hX hbl hbA hH.2.1 (sIx hi0 hi6 h_zq1_ (by decide) (by decide)) dL_law_925 ?_
  refine lv_cst (v := vq2_) e_vq2_.symm ?_
  refine lv_aload_n hx hb dL_law_926 rfl (lv_at hl 3 rfl) ?_
  refine lv_iload_n hx hb dL_law_927 rfl (lv_at hl 0 rfl) ?_
  refine lv_iconst (v := 2) hx hb dL_law_928 (by decide) ?_
  refine lv_iadd hx hb dL_law_929 ?_
  refine lv_cst (v := zq3_) e_zq3_.symm ?_
  refine va_sld hx hb hX hbl hbA hH.2.1 (sIx hi0 hi6 h_zq3_ (by decide) (by decide)) dL_law_930 ?_
  refine lv_cst (v := vq4_) e_vq4_.symm ?_
  have hO_rd := hc_rd
  have hO_rc := hc_rc
  have hO_mo := hc_mo
  have hO_al := hc_al
  have hO_ii := hc_ii
  have hO_im := hc_im
  refine goI hK hH (runV (As := [.int vq2_, .int vq4_]) (rest := []) hC hK hH (c_X10_bill hc_mo hn_mo hc_al hn_al t_mt t_pa t_li (by exact hR_F)) mlL_100 (rcvM hK hH hc_mo rfl) ⟨⟨Nat.le_of_ble_eq_true rfl, Nat.le_of_ble_eq_true rfl⟩, lcA hcl, lcA hsl⟩ rfl hl.1 rfl (Nat.le_of_ble_eq_true rfl) dL_law_931) (fun rq10_ Mq8_ Tq9_ Hq_ lcq_ hP hz hH => ?_)
  try dsimp only at hP
  obtain ⟨gq11_, h_gq11_, (hx_al), eT, hfr⟩ := hP
  have eT := eT.symm; subst eT
  have hc_ro : Mq8_ ro = some (.inr (7, [.ref w, .ref im, .ref rd, .ref rc, .ref cu])) := (hfr ro (Or.inl hn_ro) n_ro_al).trans hc_ro
  have hc_w : Mq8_ w = some (.inr (6, [.int td, .int gd, .int bc, .int py, .int rf, .int lt, .int tl, .int fp, .ref cs, .ref bs, .ref tp])) := (hfr w (Or.inl hn_w) n_w_al).trans hc_w
  have hc_bs : Mq8_ bs = some (.inl (kA 5, 4, .inr (.inr (.inr (.inr g))))) := (hfr bs (Or.inr (Or.inl t_bs)) n_bs_al).trans hc_bs
  have hc_im : Mq8_ im = some (.inl (kA 6, 3, .inr (.inr (.inr (.inr gi))))) := (hfr im (Or.inl hn_im) n_im_al).trans hc_im
  have hc_rd : Mq8_ rd = some (.inr (3, [.ref nb, .ref (zv z vi), .int no, .int wi, .ref by_, .int le, .int ki, .int pl, .int be, .int vr])) := (hfr rd (Or.inl hn_rd) n_rd_al).trans hc_rd
  have hc_rc : Mq8_ rc = some (.inr (4, [.ref rb, .ref rs, .ref rp, .int pm])) := (hfr rc (Or.inl hn_rc) n_rc_al).trans hc_rc
  have hc_mo : Mq8_ mo = some (.inr (8, [.ref al, .ref mt, .ref ii, .int ta, .int fpm, .ref pa, .int sm, .int nx, .int tk, .int plm, .int ln, .long va, .int wr, .ref li])) := (hfr mo (Or.inl hn_mo) n_mo_al).trans hc_mo
  have hc_al : Mq8_ al = some (.inl (kA 0, 7506, .inl gq11_)) := hx_al
  have hc_ii : Mq8_ ii = some (.inl (kA 2, 3, .inl fi)) := (hfr ii (Or.inl hn_ii) n_ii_al).trans hc_ii
  have hR_gq11_ : Rng gq11_ := h_gq11_.1
  have hRI := hRI.ke (h_gq11_.2)
  have him : ImsOK kA Mq8_ T w gi ti := him.mv hn_w (fun q hA hw hk => hfr q (FrA.k hA) (fun z9 => by rw [z9] at hk; exact nWi (hk _ hO_al)))
  refine lv_pop hx hb dL_law_934 rfl ?_
  refine lv_goto (tgt := 1370) hx hb dL_law_935 (by decide) ?_
  exact kk _ _ _ _ ls _ _ ⟨w, im, rd, rc, cu, cs, bs, tp, nb, by_, vi, rb, rs, rp, al, mt, ii, pa, li, td, gd, bc, py, rf, lt, tl, fp, no, wi, le, ki, pl, be, vr, pm, ta, fpm, sm, nx, tk, plm, ln, wr, va, g, gi, ti, fi, gq11_, hc_ro, hc_w, hc_bs, hc_im, hc_rd, hc_rc, hc_mo, hc_al, hc_ii, hn_ro, hn_w, hn_im, hn_rd, hn_rc, hn_mo, hn_al, hn_ii, t_cu, t_cs, t_bs, t_tp, t_nb, t_rb, t_rs, t_rp, t_mt, t_pa, t_li, htd, hbc, htl, hvi, hno, hwi, hpm, hta, hRT, hg, hg3, him, hR_gq11_, hRI⟩ hH (lv_sub hl [0, 1, 2, 3] rfl) (Nat.le_add_right _ _) (Nat.le_add_right _ _)
