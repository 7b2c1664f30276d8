set_option maxHeartbeats 4000000 in
set_option maxRecDepth 100000 in
theorem law_case_8 {p : Program} {e : Env} {s : State} {m : MethodId} {below : List Frame} {meth : Method} {c : Code} {l : Launch} {b L : Nat} {xs : Nat → Int32} (C0 : lw_At p s m meth c b L xs) (hL : L ≤ 3072) {z : zD} {D : va_G} {kA : Nat → ClassId} (hK : mK D kA s) {M : mM} {T : mT} {A : Nat → Prop} (hAq : ∀ q, A q → s.heap.size ≤ q) (hZ : zB z A s) {Hq_ : Heap} {lcq_ : List Loc} {ls : Array Slot} {ro mo : Nat} {i : Int32} {cells slots : Nat} {w im rd rc cu cs bs tp nb by_ vi rb rs rp al mt ii pa li : Nat} {td gd bc py rf lt tl fp no wi le ki pl be vr pm ta fpm sm nx tk plm ln wr : Int32} {va : Int64} {g gi : Nat → Option Nat} {ti fi F : Nat → Int32} (hc_ro : M ro = some (.inr (7, [.ref w, .ref im, .ref rd, .ref rc, .ref cu]))) (hc_w : M w = some (.inr (6, [.int td, .int gd, .int bc, .int py, .int rf, .int lt, .int tl, .int fp, .ref cs, .ref bs, .ref tp]))) (hc_bs : M bs = some (.inl (kA 5, 4, .inr (.inr (.inr (.inr g)))))) (hc_im : M im = some (.inl (kA 6, 3, .inr (.inr (.inr (.inr gi)))))) (hc_rd : M rd = some (.inr (3, [.ref nb, .ref (zv z vi), .int no, .int wi, .ref by_, .int le, .int ki, .int pl, .int be, .int vr]))) (hc_rc : M rc = some (.inr (4, [.ref rb, .ref rs, .ref rp, .int pm]))) (hc_mo : M mo = some (.inr (8, [.ref al, .ref mt, .ref ii, .int ta, .int fpm, .ref pa, .int sm, .int nx, .int tk, .int plm, .int ln, .long va, .int wr, .ref li]))) (hc_al : M al = some (.inl (kA 0, 7506, .inl F))) (hc_ii : M ii = some (.inl (kA 2, 3, .inl fi))) (hn_ro : T ro = none) (hn_w : T w = none) (hn_im : T im = none) (hn_rd : T rd = none) (hn_rc : T rc = none) (hn_mo : T mo = none) (hn_al : T al = none) (hn_ii : T ii = none) (t_cu : T cu = some 9) (t_cs : T cs = some 3) (t_bs : T bs = some 6) (t_tp : T tp = some 7) (t_nb : T nb = some 12) (t_rb : T rb = some 2) (t_rs : T rs = some 3) (t_rp : T rp = some 5) (t_mt : T mt = some 11) (t_pa : T pa = some 13) (t_li : T li = some 14) (htd : 0 ≤ td.toInt ∧ td.toInt ≤ 999) (hbc : 0 ≤ bc.toInt ∧ bc.toInt ≤ 4) (htl : 0 ≤ tl.toInt ∧ tl.toInt ≤ 600) (hvi : vi < 19) (hno : 0 ≤ no.toInt ∧ no.toInt ≤ 1) (hwi : 0 ≤ wi.toInt ∧ wi.toInt ≤ 1) (hpm : 0 ≤ pm.toInt ∧ pm.toInt ≤ 14) (hta : 0 ≤ ta.toInt ∧ ta.toInt ≤ 600) (hRT : ta.toInt = tl.toInt) (hg : ∀ j, j < 4 → ∃ q, g j = some q ∧ T q = some 2) (hg3 : ∀ j, 3 ≤ j → gi j = none) (him : ImsOK kA M T w gi ti) (hR_F : Rng F) (hRI : RelI gi ti fi F) (n_ro_w : ro ≠ w) (n_w_ro : w ≠ ro) (n_ro_bs : ro ≠ bs) (n_bs_ro : bs ≠ ro) (n_ro_im : ro ≠ im) (n_im_ro : im ≠ ro) (n_ro_rd : ro ≠ rd) (n_rd_ro : rd ≠ ro) (n_ro_rc : ro ≠ rc) (n_rc_ro : rc ≠ ro) (n_ro_mo : ro ≠ mo) (n_mo_ro : mo ≠ ro) (n_ro_al : ro ≠ al) (n_al_ro : al ≠ ro) (n_ro_ii : ro ≠ ii) (n_ii_ro : ii ≠ ro) (n_w_bs : w ≠ bs) (n_bs_w : bs ≠ w) (n_w_im : w ≠ im) (n_im_w : im ≠ w) (n_w_rd : w ≠ rd) (n_rd_w : rd ≠ w) (n_w_rc : w ≠ rc) (n_rc_w : rc ≠ w) (n_w_mo : w ≠ mo) (n_mo_w : mo ≠ w) (n_w_al : w ≠ al) (n_al_w : al ≠ w) (n_w_ii : w ≠ ii) (n_ii_w : ii ≠ w) (n_bs_im : bs ≠ im) (n_im_bs : im ≠ bs) (n_bs_rd : bs ≠ rd) (n_rd_bs : rd ≠ bs) (n_bs_rc : bs ≠ rc) (n_rc_bs : rc ≠ bs) (n_bs_mo : bs ≠ mo) (n_mo_bs : mo ≠ bs) (n_bs_al : bs ≠ al) (n_al_bs : al ≠ bs) (n_bs_ii : bs ≠ ii) (n_ii_bs : ii ≠ bs) (n_im_rd : im ≠ rd) (n_rd_im : rd ≠ im) (n_im_rc : im ≠ rc) (n_rc_im : rc ≠ im) (n_im_mo : im ≠ mo) (n_mo_im : mo ≠ im) (n_im_al : im ≠ al) (n_al_im : al ≠ im) (n_im_ii : im ≠ ii) (n_ii_im : ii ≠ im) (n_rd_rc : rd ≠ rc) (n_rc_rd : rc ≠ rd) (n_rd_mo : rd ≠ mo) (n_mo_rd : mo ≠ rd) (n_rd_al : rd ≠ al) (n_al_rd : al ≠ rd) (n_rd_ii : rd ≠ ii) (n_ii_rd : ii ≠ rd) (n_rc_mo : rc ≠ mo) (n_mo_rc : mo ≠ rc) (n_rc_al : rc ≠ al) (n_al_rc : al ≠ rc) (n_rc_ii : rc ≠ ii) (n_ii_rc : ii ≠ rc) (n_mo_al : mo ≠ al) (n_al_mo : al ≠ mo) (n_mo_ii : mo ≠ ii) (n_ii_mo : ii ≠ mo) (n_al_ii : al ≠ ii) (n_ii_al : ii ≠ al) (hi0 : 0 ≤ i.toInt) (hi6 : i.toInt + 6 ≤ (L : Int)) (hcl : cells + 92 ≤ 600000) (hsl : slots + 1627 ≤ 7302250) (hH : mS D kA M T A s.heap Hq_ lcq_) (hl : lv_has ls 4 [(3, .int i), (2, .ref mo), (1, .ref ro), (0, .ref b)]) (kk : ∀ (M1 : mM) (T1 : mT) (H1 : Heap) (locs1 : List Loc) (ls1 : Array Slot) (cl1 sl1 : Nat), LI z kA M1 T1 ro mo → mS D kA M1 T1 A s.heap H1 locs1 → lv_has ls1 4 [(3, .int i), (2, .ref mo), (1, .ref ro), (0, .ref b)] → cl1 ≤ cells + 92 → sl1 ≤ slots + 1627 → W p l e room_1 s m #[Value.ref b] below meth c H1 locs1 cl1 sl1 (lw_Z below #[Value.ref b] s) (F0 m 1370 ls1 [])) : W p l e room_1 s m #[Value.ref b] below meth c Hq_ lcq_ cells slots (lw_Z below #[Value.ref b] s) (F0 m 414 ls []) := by
  obtain ⟨hx, hb, hr, hml, hown, hts, hX, hbl, hlocks, hgv⟩ := id C0
  have hC : CallFix p m c cL_law 4 s #[Value.ref b] TB RL := ⟨hx, hb, hml, hown, fun w h => hts w (TB_in h)⟩
  have hbA : ¬ A b := fun h => absurd (hAq b h) (Nat.not_le.mpr hbl)
  refine lv_aload_n hx hb dL_law_414 rfl (lv_at hl 2 rfl) ?_
  refine lv_aload_n hx hb dL_law_415 rfl (lv_at hl 3 rfl) ?_
  refine lv_iload_n hx hb dL_law_416 rfl (lv_at hl 0 rfl) ?_
  refine lv_iconst (v := 1) hx hb dL_law_417 (by decide) ?_
  refine lv_iadd hx hb dL_law_418 ?_
  refine lv_topi (fun zq1_ e_zq1_ => ?_)
  have h_zq1_ : zq1_.toInt = i.toInt + (1 : Int32).toInt := sIa hi0 hi6 hL e_zq1_ (by decide) (by decide)
  refine va_sld hx hb hX hbl hbA hH.2.1 (sIx hi0 hi6 h_zq1_ (by decide) (by decide)) dL_law_419 ?_
  refine lv_topi (fun vq2_ e_vq2_ => ?_)
  refine lv_aload_n hx hb dL_law_420 rfl (lv_at hl 3 rfl) ?_
  refine lv_iload_n hx hb dL_law_421 rfl (lv_at hl 0 rfl) ?_
  refine lv_iconst (v := 2) hx hb dL_law_422 (by decide) ?_
  refine lv_iadd hx hb dL_law_423 ?_
  refine lv_topi (fun zq3_ e_zq3_ => ?_)
  have h_zq3_ : zq3_.toInt = i.toInt + (2 : Int32).toInt := sIa hi0 hi6 hL e_zq3_ (by decide) (by decide)
  refine va_sld hx hb hX hbl hbA hH.2.1 (sIx hi0 hi6 h_zq3_ (by decide) (by decide)) dL_law_424 ?_
  refine lv_topi (fun vq4_ e_vq4_ => ?_)
  refine lv_aload_n hx hb dL_law_425 rfl (lv_at hl 3 rfl) ?_
  refine lv_iload_n hx hb dL_law_426 rfl (lv_at hl 0 rfl) ?_
  refine lv_iconst (v := 3) hx hb dL_law_427 (by decide) ?_
  refine lv_iadd hx hb dL_law_428 ?_
  refine lv_topi (fun zq5_ e_zq5_ => ?_)
  have h_zq5_ : zq5_.toInt = i.toInt + (3 : Int32).toInt := sIa hi0 hi6 hL e_zq5_ (by decide) (by decide)
  refine va_sld hx hb hX hbl hbA hH.2.1 (sIx hi0 hi6 h_zq5_ (by decide) (by decide)) dL_law_429 ?_
  refine lv_topi (fun vq6_ e_vq6_ => ?_)
  refine lv_aload_n hx hb dL_law_430 rfl (lv_at hl 3 rfl) ?_
  refine lv_iload_n hx hb dL_law_431 rfl (lv_at hl 0 rfl) ?_
  refine lv_iconst (v := 4) hx hb dL_law_432 (by decide) ?_
  refine lv_iadd hx hb dL_law_433 ?_
  refine lv_topi (fun zq7_ e_zq7_ => ?_)
  have h_zq7_ : zq7_.toInt = i.toInt + (4 : Int32).toInt := sIa hi0 hi6 hL e_zq7_ (by decide) (by decide)
  refine va_sld hx hb hX hbl hbA hH.2.1 (sIx hi0 hi6 h_zq7_ (by decide) (by decide)) dL_law_434 ?_
  refine lv_topi (fun vq8_ e_vq8_ => ?_)
  refine lv_aload_n hx hb dL_law_435 rfl (lv_at hl 3 rfl) ?_
  refine lv_iload_n hx hb dL_law_436 rfl (lv_at hl 0 rfl) ?_
  refine lv_iconst (v := 5) hx hb dL_law_437 (by decide) ?_
  refine lv_iadd hx hb dL_law_438 ?_
  refine lv_topi (fun zq9_ e_zq9_ => ?_)
  have h_zq9_ : zq9_.toInt = i.toInt + (5 : Int32).toInt := sIa hi0 hi6 hL e_zq9_ (by decide) (by decide)
  refine va_sld hx hb hX hbl hbA hH.2.1 (sIx hi0 hi6 h_zq9_ (by decide) (by decide)) dL_law_439 ?_
  refine lv_topi (fun vq10_ e_vq10_ => ?_)
  have hO_rd := hc_rd
  have hO_rc := hc_rc
  have hO_mo := hc_mo
  have hO_al := hc_al
  have hO_ii := hc_ii
  have hO_im := hc_im
  refine goI hK hH (runV (As := [.int vq2_, .int vq4_, .int vq6_, .int vq8_, .int vq10_]) (rest := []) hC hK hH (c_X9_draw hc_ro hn_ro hc_w hn_w hc_bs t_cs t_bs t_tp (by exact htd) (by exact hbc) (by exact htl) hg) mlL_50 (rcvM hK hH hc_ro rfl) ⟨⟨Nat.le_of_ble_eq_true rfl, Nat.le_of_ble_eq_true rfl⟩, lcA hcl, lcA hsl⟩ rfl hl.1 rfl (Nat.le_of_ble_eq_true rfl) dL_law_440) (fun rq13_ Mq11_ Tq12_ Hq_ lcq_ hP hz hH => ?_)
  try dsimp only at hP
  obtain ⟨xq14_, ⟨l_xq14_, g_xq14_⟩, xq15_, ⟨l_xq15_, g_xq15_⟩, xq16_, ⟨l_xq16_, g_xq16_⟩, xq17_, ⟨l_xq17_, g_xq17_⟩, xq18_, ⟨l_xq18_, g_xq18_⟩, xq19_, ⟨l_xq19_, g_xq19_⟩, (hx_w), eT, hfr⟩ := hP
  have eT := eT.symm; subst eT
  have hc_ro : Mq11_ ro = some (.inr (7, [.ref w, .ref im, .ref rd, .ref rc, .ref cu])) := (hfr ro (Or.inl hn_ro) n_ro_w).trans hc_ro
  have hc_w : Mq11_ w = some (.inr (6, [.int xq14_, .int xq15_, .int xq16_, .int xq17_, .int xq18_, .int xq19_, .int tl, .int fp, .ref cs, .ref bs, .ref tp])) := hx_w
  have hc_bs : Mq11_ bs = some (.inl (kA 5, 4, .inr (.inr (.inr (.inr g))))) := (hfr bs (Or.inr t_bs) n_bs_w).trans hc_bs
  have hc_im : Mq11_ im = some (.inl (kA 6, 3, .inr (.inr (.inr (.inr gi))))) := (hfr im (Or.inl hn_im) n_im_w).trans hc_im
  have hc_rd : Mq11_ rd = some (.inr (3, [.ref nb, .ref (zv z vi), .int no, .int wi, .ref by_, .int le, .int ki, .int pl, .int be, .int vr])) := (hfr rd (Or.inl hn_rd) n_rd_w).trans hc_rd
  have hc_rc : Mq11_ rc = some (.inr (4, [.ref rb, .ref rs, .ref rp, .int pm])) := (hfr rc (Or.inl hn_rc) n_rc_w).trans hc_rc
  have hc_mo : Mq11_ mo = some (.inr (8, [.ref al, .ref mt, .ref ii, .int ta, .int fpm, .ref pa, .int sm, .int nx, .int tk, .int plm, .int ln, .long va, .int wr, .ref li])) := (hfr mo (Or.inl hn_mo) n_mo_w).trans hc_mo
  have hc_al : Mq11_ al = some (.inl (kA 0, 7506, .inl F)) := (hfr al (Or.inl hn_al) n_al_w).trans hc_al
  have hc_ii : Mq11_ ii = some (.inl (kA 2, 3, .inl fi)) := (hfr ii (Or.inl hn_ii) n_ii_w).trans hc_ii
  have him : ImsOK kA Mq11_ T w gi ti := him.mv hn_w (fun q hA hw hk => hfr q hA hw)
  refine lv_pop hx hb dL_law_443 rfl ?_
  refine lv_aload_n hx hb dL_law_444 rfl (lv_at hl 1 rfl) ?_
  refine lv_aload_n hx hb dL_law_445 rfl (lv_at hl 3 rfl) ?_
  refine lv_iload_n hx hb dL_law_446 rfl (lv_at hl 0 rfl) ?_
  refine lv_iconst (v := 1) hx hb dL_law_447 (by decide) ?_
  refine lv_iadd hx hb dL_law_448 ?_
  refine lv_cst (v := zq1_) e_zq1_.symm ?_
  refine va_sld hx hb hX hbl hbA hH.2.1 (sIx hi0 hi6 h_zq1_ (by decide) (by decide)) dL_law_449 ?_
  refine lv_cst (v := vq2_) e_vq2_.symm ?_
  refine lv_aload_n hx hb dL_law_450 rfl (lv_at hl 3 rfl) ?_
  refine lv_iload_n hx hb dL_law_451 rfl (lv_at hl 0 rfl) ?_
  refine lv_iconst (v := 2) hx hb dL_law_452 (by decide) ?_
  refine lv_iadd hx hb dL_law_453 ?_
  refine lv_cst (v := zq3_) e_zq3_.symm ?_
  refine va_sld hx hb hX hbl hbA hH.2.1 (sIx hi0 hi6 h_zq3_ (by decide) (by decide)) dL_law_454 ?_
  refine lv_cst (v := vq4_) e_vq4_.symm ?_
  refine lv_aload_n hx hb dL_law_455 rfl (lv_at hl 3 rfl) ?_
  refine lv_iload_n hx hb dL_law_456 rfl (lv_at hl 0 rfl) ?_
  refine lv_iconst (v := 3) hx hb dL_law_457 (by decide) ?_
  refine lv_iadd hx hb dL_law_458 ?_
  refine lv_cst (v := zq5_) e_zq5_.symm ?_
  refine va_sld hx hb hX hbl hbA hH.2.1 (sIx hi0 hi6 h_zq5_ (by decide) (by decide)) dL_law_459 ?_
  refine lv_cst (v := vq6_) e_vq6_.symm ?_
  refine lv_aload_n hx hb dL_law_460 rfl (lv_at hl 3 rfl) ?_
  refine lv_iload_n hx hb dL_law_461 rfl (lv_at hl 0 rfl) ?_
  refine lv_iconst (v := 4) hx hb dL_law_462 (by decide) ?_
  refine lv_iadd hx hb dL_law_463 ?_
  refine lv_cst (v := zq7_) e_zq7_.symm ?_
  refine va_sld hx hb hX hbl hbA hH.2.1 (sIx hi0 hi6 h_zq7_ (by decide) (by decide)) dL_law_464 ?_
  refine lv_cst (v := vq8_) e_vq8_.symm ?_
  refine lv_aload_n hx hb dL_law_465 rfl (lv_at hl 3 rfl) ?_
  refine lv_iload_n hx hb dL_law_466 rfl (lv_at hl 0 rfl) ?_
  refine lv_iconst (v := 5) hx hb dL_law_467 (by decide) ?_
  refine lv_iadd hx hb dL_law_468 ?_
  refine lv_cst (v := zq9_) e_zq9_.symm ?_
  refine va_sld hx hb hX hbl hbA hH.2.1 (sIx hi0 hi6 h_zq9_ (by decide) (by decide)) dL_law_469 ?_
  refine lv_cst (v := vq10_) e_vq10_.symm ?_
  have hO_rd := hc_rd
  have hO_rc := hc_rc
  have hO_mo := hc_mo
  have hO_al := hc_al
  have hO_ii := hc_ii
  have hO_im := hc_im
  refine goI hK hH (runV (As := [.int vq2_, .int vq4_, .int vq6_, .int vq8_, .int vq10_]) (rest := []) hC hK hH (c_X10_draw hc_mo hn_mo hc_al hn_al t_mt t_pa t_li (by exact hR_F)) mlL_53 (rcvM hK hH hc_mo rfl) ⟨⟨Nat.le_of_ble_eq_true rfl, Nat.le_of_ble_eq_true rfl⟩, lcA hcl, lcA hsl⟩ rfl hl.1 rfl (Nat.le_of_ble_eq_true rfl) dL_law_470) (fun rq22_ Mq20_ Tq21_ Hq_ lcq_ hP hz hH => ?_)
  try dsimp only at hP
  obtain ⟨gq23_, h_gq23_, (hx_al), eT, hfr⟩ := hP
  have eT := eT.symm; subst eT
  have hc_ro : Mq20_ ro = some (.inr (7, [.ref w, .ref im, .ref rd, .ref rc, .ref cu])) := (hfr ro (Or.inl hn_ro) n_ro_al).trans hc_ro
  have hc_w : Mq20_ w = some (.inr (6, [.int xq14_, .int xq15_, .int xq16_, .int xq17_, .int xq18_, .int xq19_, .int tl, .int fp, .ref cs, .ref bs, .ref tp])) := (hfr w (Or.inl hn_w) n_w_al).trans hc_w
  have hc_bs : Mq20_ bs = some (.inl (kA 5, 4, .inr (.inr (.inr (.inr g))))) := (hfr bs (Or.inr (Or.inl t_bs)) n_bs_al).trans hc_bs
  have hc_im : Mq20_ im = some (.inl (kA 6, 3, .inr (.inr (.inr (.inr gi))))) := (hfr im (Or.inl hn_im) n_im_al).trans hc_im
  have hc_rd : Mq20_ rd = some (.inr (3, [.ref nb, .ref (zv z vi), .int no, .int wi, .ref by_, .int le, .int ki, .int pl, .int be, .int vr])) := (hfr rd (Or.inl hn_rd) n_rd_al).trans hc_rd
  have hc_rc : Mq20_ rc = some (.inr (4, [.ref rb, .ref rs, .ref rp, .int pm])) := (hfr rc (Or.inl hn_rc) n_rc_al).trans hc_rc
  have hc_mo : Mq20_ mo = some (.inr (8, [.ref al, .ref mt, .ref ii, .int ta, .int fpm, .ref pa, .int sm, .int nx, .int tk, .int plm, .int ln, .long va, .int wr, .ref li])) := (hfr mo (Or.inl hn_mo) n_mo_al).trans hc_mo
  have hc_al : Mq20_ al = some (.inl (kA 0, 7506, .inl gq23_)) := hx_al
  have hc_ii : Mq20_ ii = some (.inl (kA 2, 3, .inl fi)) := (hfr ii (Or.inl hn_ii) n_ii_al).trans hc_ii
  have hR_gq23_ : Rng gq23_ := h_gq23_.1
  have hRI := hRI.ke (h_gq23_.2)
  have him : ImsOK kA Mq20_ T w gi ti := him.mv hn_w (fun q hA hw hk => hfr q (FrA.k hA) (fun z9 => by rw [z9] at hk; exact nWi (hk _ hO_al)))
  refine lv_pop hx hb dL_law_473 rfl ?_
  refine lv_goto (tgt := 1370) hx hb dL_law_474 (by decide) ?_
  exact kk _ _ _ _ ls _ _ ⟨w, im, rd, rc, cu, cs, bs, tp, nb, by_, vi, rb, rs, rp, al, mt, ii, pa, li, xq14_, xq15_, xq16_, xq17_, xq18_, xq19_, tl, fp, no, wi, le, ki, pl, be, vr, pm, ta, fpm, sm, nx, tk, plm, ln, wr, va, g, gi, ti, fi, gq23_, hc_ro, hc_w, hc_bs, hc_im, hc_rd, hc_rc, hc_mo, hc_al, hc_ii, hn_ro, hn_w, hn_im, hn_rd, hn_rc, hn_mo, hn_al, hn_ii, t_cu, t_cs, t_bs, t_tp, t_nb, t_rb, t_rs, t_rp, t_mt, t_pa, t_li, ⟨l_xq14_, g_xq14_⟩, ⟨l_xq16_, g_xq16_⟩, htl, hvi, hno, hwi, hpm, hta, hRT, hg, hg3, him, hR_gq23_, hRI⟩ hH (lv_sub hl [0, 1, 2, 3] rfl) (Nat.le_add_right _ _) (Nat.le_add_right _ _)
set_option maxHeartbeats 4000000 in
set_option maxRecDepth 100000 in
theorem law_case_9 {p : Program} {e : Env} {s : State} {m : MethodId} {below : List Frame} {meth : Method} {c : Code} {l : Launch} {b L : Nat} {xs : Nat → Int32} (C0 : lw_At p s m meth c b L xs) (hL : L ≤ 3072) {z : zD} {D : va_G} {kA : Nat → ClassId} (hK : mK D kA s) {M : mM} {T : mT} {A : Nat → Prop} (hAq : ∀ q, A q → s.heap.size ≤ q) (hZ : zB z A s) {Hq_ : Heap} {lcq_ : List Loc} {ls : Array Slot} {ro mo : Nat} {i : Int32} {cells slots : Nat} {w im rd rc cu cs bs tp nb by_ vi rb rs rp al mt ii pa li : Nat} {td gd bc py rf lt tl fp no wi le ki pl be vr pm ta fpm sm nx tk plm ln wr : Int32} {va : Int64} {g gi : Nat → Option Nat} {ti fi F : Nat → Int32} (hc_ro : M ro = some (.inr (7, [.ref w, .ref im, .ref rd, .ref rc, .ref cu]))) (hc_w : M w = some (.inr (6, [.int td, .int gd, .int bc, .int py, .int rf, .int lt, .int tl, .int fp, .ref cs, .ref bs, .ref tp]))) (hc_bs : M bs = some (.inl (kA 5, 4, .inr (.inr (.inr (.inr g)))))) (hc_im : M im = some (.inl (kA 6, 3, .inr (.inr (.inr (.inr gi)))))) (hc_rd : M rd = some (.inr (3, [.ref nb, .ref (zv z vi), .int no, .int wi, .ref by_, .int le, .int ki, .int pl, .int be, .int vr]))) (hc_rc : M rc = some (.inr (4, [.ref rb, .ref rs, .ref rp, .int pm]))) (hc_mo : M mo = some (.inr (8, [.ref al, .ref mt, .ref ii, .int ta, .int fpm, .ref pa, .int sm, .int nx, .int tk, .int plm, .int ln, .long va, .int wr, .ref li]))) (hc_al : M al = some (.inl (kA 0, 7506, .inl F))) (hc_ii : M ii = some (.inl (kA 2, 3, .inl fi))) (hn_ro : T ro = none) (hn_w : T w = none) (hn_im : T im = none) (hn_rd : T rd = none) (hn_rc : T rc = none) (hn_mo : T mo = none) (hn_al : T al = none) (hn_ii : T ii = none) (t_cu : T cu = some 9) (t_cs : T cs = some 3) (t_bs : T bs = some 6) (t_tp : T tp = some 7) (t_nb : T nb = some 12) (t_rb : T rb = some 2) (t_rs : T rs = some 3) (t_rp : T rp = some 5) (t_mt : T mt = some 11) (t_pa : T pa = some 13) (t_li : T li = some 14) (htd : 0 ≤ td.toInt ∧ td.toInt ≤ 999) (hbc : 0 ≤ bc.toInt ∧ bc.toInt ≤ 4) (htl : 0 ≤ tl.toInt ∧ tl.toInt ≤ 600) (hvi : vi < 19) (hno : 0 ≤ no.toInt ∧ no.toInt ≤ 1) (hwi : 0 ≤ wi.toInt ∧ wi.toInt ≤ 1) (hpm : 0 ≤ pm.toInt ∧ pm.toInt ≤ 14) (hta : 0 ≤ ta.toInt ∧ ta.toInt ≤ 600) (hRT : ta.toInt = tl.toInt) (hg : ∀ j, j < 4 → ∃ q, g j = some q ∧ T q = some 2) (hg3 : ∀ j, 3 ≤ j → gi j = none) (him : ImsOK kA M T w gi ti) (hR_F : Rng F) (hRI : RelI gi ti fi F) (n_ro_w : ro ≠ w) (n_w_ro : w ≠ ro) (n_ro_bs : ro ≠ bs) (n_bs_ro : bs ≠ ro) (n_ro_im : ro ≠ im) (n_im_ro : im ≠ ro) (n_ro_rd : ro ≠ rd) (n_rd_ro : rd ≠ ro) (n_ro_rc : ro ≠ rc) (n_rc_ro : rc ≠ ro) (n_ro_mo : ro ≠ mo) (n_mo_ro : mo ≠ ro) (n_ro_al : ro ≠ al) (n_al_ro : al ≠ ro) (n_ro_ii : ro ≠ ii) (n_ii_ro : ii ≠ ro) (n_w_bs : w ≠ bs) (n_bs_w : bs ≠ w) (n_w_im : w ≠ im) (n_im_w : im ≠ w) (n_w_rd : w ≠ rd) (n_rd_w : rd ≠ w) (n_w_rc : w ≠ rc) (n_rc_w : rc ≠ w) (n_w_mo : w ≠ mo) (n_mo_w : mo ≠ w) (n_w_al : w ≠ al) (n_al_w : al ≠ w) (n_w_ii : w ≠ ii) (n_ii_w : ii ≠ w) (n_bs_im : bs ≠ im) (n_im_bs : im ≠ bs) (n_bs_rd : bs ≠ rd) (n_rd_bs : rd ≠ bs) (n_bs_rc : bs ≠ rc) (n_rc_bs : rc ≠ bs) (n_bs_mo : bs ≠ mo) (n_mo_bs : mo ≠ bs) (n_bs_al : bs ≠ al) (n_al_bs : al ≠ bs) (n_bs_ii : bs ≠ ii) (n_ii_bs : ii ≠ bs) (n_im_rd : im ≠ rd) (n_rd_im : rd ≠ im) (n_im_rc : im ≠ rc) (n_rc_im : rc ≠ im) (n_im_mo : im ≠ mo) (n_mo_im : mo ≠ im) (n_im_al : im ≠ al) (n_al_im : al ≠ im) (n_im_ii : im ≠ ii) (n_ii_im : ii ≠ im) (n_rd_rc : rd ≠ rc) (n_rc_rd : rc ≠ rd) (n_rd_mo : rd ≠ mo) (n_mo_rd : mo ≠ rd) (n_rd_al : rd ≠ al) (n_al_rd : al ≠ rd) (n_rd_ii : rd ≠ ii) (n_ii_rd : ii ≠ rd) (n_rc_mo : rc ≠ mo) (n_mo_rc : mo ≠ rc) (n_rc_al : rc ≠ al) (n_al_rc : al ≠ rc) (n_rc_ii : rc ≠ ii) (n_ii_rc : ii ≠ rc) (n_mo_al : mo ≠ al) (n_al_mo : al ≠ mo) (n_mo_ii : mo ≠ ii) (n_ii_mo : ii ≠ mo) (n_al_ii : al ≠ ii) (n_ii_al : ii ≠ al) (hi0 : 0 ≤ i.toInt) (hi6 : i.toInt + 6 ≤ (L : Int)) (hcl : cells + 92 ≤ 600000) (hsl : slots + 1627 ≤ 7302250) (hH : mS D kA M T A s.heap Hq_ lcq_) (hl : lv_has ls 4 [(3, .int i), (2, .ref mo), (1, .ref ro), (0, .ref b)]) (kk : ∀ (M1 : mM) (T1 : mT) (H1 : Heap) (locs1 : List Loc) (ls1 : Array Slot) (cl1 sl1 : Nat), LI z kA M1 T1 ro mo → mS D kA M1 T1 A s.heap H1 locs1 → lv_has ls1 4 [(3, .int i), (2, .ref mo), (1, .ref ro), (0, .ref b)] → cl1 ≤ cells + 92 → sl1 ≤ slots + 1627 → W p l e room_1 s m #[Value.ref b] below meth c H1 locs1 cl1 sl1 (lw_Z below #[Value.ref b] s) (F0 m 1370 ls1 [])) : W p l e room_1 s m #[Value.ref b] below meth c Hq_ lcq_ cells slots (lw_Z below #[Value.ref b] s) (F0 m 477 ls []) := by
  obtain ⟨hx, hb, hr, hml, hown, hts, hX, hbl, hlocks, hgv⟩ := id C0
  have hC : CallFix p m c cL_law 4 s #[Value.ref b] TB RL := ⟨hx, hb, hml, hown, fun w h => hts w (TB_in h)⟩
  have hbA : ¬ A b := fun h => absurd (hAq b h) (Nat.not_le.mpr hbl)
  refine lv_aload_n hx hb dL_law_477 rfl (lv_at hl 2 rfl) ?_
  refine lv_aload_n hx hb dL_law_478 rfl (lv_at hl 3 rfl) ?_
  refine lv_iload_n hx hb dL_law_479 rfl (lv_at hl 0 rfl) ?_
  refine lv_iconst (v := 1) hx hb dL_law_480 (by decide) ?_
  refine lv_iadd hx hb dL_law_481 ?_
  refine lv_topi (fun zq1_ e_zq1_ => ?_)
  have h_zq1_ : zq1_.toInt = i.toInt + (1 : Int32).toInt := sIa hi0 hi6 hL e_zq1_ (by decide) (by decide)
  refine va_sld hx hb hX hbl hbA hH.2.1 (sIx hi0 hi6 h_zq1_ (by decide) (by decide)) dL_law_482 ?_
  refine lv_topi (fun vq2_ e_vq2_ => ?_)
  have hO_rd := hc_rd
  have hO_rc := hc_rc
  have hO_mo := hc_mo
  have hO_al := hc_al
  have hO_ii := hc_ii
  have hO_im := hc_im
  refine goI hK hH (runV (As := [.int vq2_]) (rest := []) hC hK hH (c_X9_accept hc_ro hn_ro hc_w hn_w hc_bs t_cs t_bs t_tp (by exact htd) (by exact hbc) (by exact htl) hg) mlL_54 (rcvM hK hH hc_ro rfl) ⟨⟨Nat.le_of_ble_eq_true rfl, Nat.le_of_ble_eq_true rfl⟩, lcA hcl, lcA hsl⟩ rfl hl.1 rfl (Nat.le_of_ble_eq_true rfl) dL_law_483) (fun rq5_ Mq3_ Tq4_ Hq_ lcq_ hP hz hH => ?_)
  try dsimp only at hP
  obtain ⟨xq6_, ⟨l_xq6_, g_xq6_⟩, xq7_, ⟨l_xq7_, g_xq7_⟩, xq8_, ⟨l_xq8_, g_xq8_⟩, xq9_, ⟨l_xq9_, g_xq9_⟩, xq10_, ⟨l_xq10_, g_xq10_⟩, xq11_, ⟨l_xq11_, g_xq11_⟩, (hx_w), eT, hfr⟩ := hP
  have eT := eT.symm; subst eT
  have hc_ro : Mq3_ ro = some (.inr (7, [.ref w, .ref im, .ref rd, .ref rc, .ref cu])) := (hfr ro (Or.inl hn_ro) n_ro_w).trans hc_ro
  have hc_w : Mq3_ w = some (.inr (6, [.int xq6_, .int xq7_, .int xq8_, .int xq9_, .int xq10_, .int xq11_, .int tl, .int fp, .ref cs, .ref bs, .ref tp])) := hx_w
  have hc_bs : Mq3_ bs = some (.inl (kA 5, 4, .inr (.inr (.inr (.inr g))))) := (hfr bs (Or.inr t_bs) n_bs_w).trans hc_bs
  have hc_im : Mq3_ im = some (.inl (kA 6, 3, .inr (.inr (.inr (.inr gi))))) := (hfr im (Or.inl hn_im) n_im_w).trans hc_im
  have hc_rd : Mq3_ rd = some (.inr (3, [.ref nb, .ref (zv z vi), .int no, .int wi, .ref by_, .int le, .int ki, .int pl, .int be, .int vr])) := (hfr rd (Or.inl hn_rd) n_rd_w).trans hc_rd
  have hc_rc : Mq3_ rc = some (.inr (4, [.ref rb, .ref rs, .ref rp, .int pm])) := (hfr rc (Or.inl hn_rc) n_rc_w).trans hc_rc
  have hc_mo : Mq3_ mo = some (.inr (8, [.ref al, .ref mt, .ref ii, .int ta, .int fpm, .ref pa, .int sm, .int nx, .int tk, .int plm, .int ln, .long va, .int wr, .ref li])) := (hfr mo (Or.inl hn_mo) n_mo_w).trans hc_mo
  have hc_al : Mq3_ al = some (.inl (kA 0, 7506, .inl F)) := (hfr al (Or.inl hn_al) n_al_w).trans hc_al
  have hc_ii : Mq3_ ii = some (.inl (kA 2, 3, .inl fi)) := (hfr ii (Or.inl hn_ii) n_ii_w).trans hc_ii
  have him : ImsOK kA Mq3_ T w gi ti := him.mv hn_w (fun q hA hw hk => hfr q hA hw)
  refine lv_pop hx hb dL_law_486 rfl ?_
  refine lv_aload_n hx hb dL_law_487 rfl (lv_at hl 1 rfl) ?_
  refine lv_aload_n hx hb dL_law_488 rfl (lv_at hl 3 rfl) ?_
  refine lv_iload_n hx hb dL_law_489 rfl (lv_at hl 0 rfl) ?_
  refine lv_iconst (v := 1) hx hb dL_law_490 (by decide) ?_
  refine lv_iadd hx hb dL_law_491 ?_
  refine lv_cst (v := zq1_) e_zq1_.symm ?_
  refine va_sld hx hb hX hbl hbA hH.2.1 (sIx hi0 hi6 h_zq1_ (by decide) (by decide)) dL_law_492 ?_
  refine lv_cst (v := vq2_) e_vq2_.symm ?_
  have hO_rd := hc_rd
  have hO_rc := hc_rc
  have hO_mo := hc_mo
  have hO_al := hc_al
  have hO_ii := hc_ii
  have hO_im := hc_im
  refine goI hK hH (runV (As := [.int vq2_]) (rest := []) hC hK hH (c_X10_accept hc_mo hn_mo hc_al hn_al t_mt t_pa t_li (by exact hR_F)) mlL_57 (rcvM hK hH hc_mo rfl) ⟨⟨Nat.le_of_ble_eq_true rfl, Nat.le_of_ble_eq_true rfl⟩, lcA hcl, lcA hsl⟩ rfl hl.1 rfl (Nat.le_of_ble_eq_true rfl) dL_law_493) (fun rq14_ Mq12_ Tq13_ Hq_ lcq_ hP hz hH => ?_)
  try dsimp only at hP
  obtain ⟨gq15_, h_gq15_, (hx_al), eT, hfr⟩ := hP
  have eT := eT.symm; subst eT
  have hc_ro : Mq12_ ro = some (.inr (7, [.ref w, .ref im, .ref rd, .ref rc, .ref cu])) := (hfr ro (Or.inl hn_ro) n_ro_al).trans hc_ro
  have hc_w : Mq12_ w = some (.inr (6, [.int xq6_, .int xq7_, .int xq8_, .int xq9_, .int xq10_, .int xq11_, .int tl, .int fp, .ref cs, .ref bs, .ref tp])) := (hfr w (Or.inl hn_w) n_w_al).trans hc_w
  have hc_bs : Mq12_ bs = some (.inl (kA 5, 4, .inr (.inr (.inr (.inr g))))) := (hfr bs (Or.inr (Or.inl t_bs)) n_bs_al).trans hc_bs
  have hc_im : Mq12_ im = some (.inl (kA 6, 3, .inr (.inr (.inr (.inr gi))))) := (hfr im (Or.inl hn_im) n_im_al).trans hc_im
  have hc_rd : Mq12_ rd = some (.inr (3, [.ref nb, .ref (zv z vi), .int no, .int wi, .ref by_, .int le, .int ki, .int pl, .int be, .int vr])) := (hfr rd (Or.inl hn_rd) n_rd_al).trans hc_rd
  have hc_rc : Mq12_ rc = some (.inr (4, [.ref rb, .ref rs, .ref rp, .int pm])) := (hfr rc (Or.inl hn_rc) n_rc_al).trans hc_rc
  have hc_mo : Mq12_ mo = some (.inr (8, [.ref al, .ref mt, .ref ii, .int ta, .int fpm, .ref pa, .int sm, .int nx, .int tk, .int plm, .int ln, .long va, .int wr, .ref li])) := (hfr mo (Or.inl hn_mo) n_mo_al).trans hc_mo
  have hc_al : Mq12_ al = some (.inl (kA 0, 7506, .inl gq15_)) := hx_al
  have hc_ii : Mq12_ ii = some (.inl (kA 2, 3, .inl fi)) := (hfr ii (Or.inl hn_ii) n_ii_al).trans hc_ii
  have hR_gq15_ : Rng gq15_ := h_gq15_.1
  have hRI := hRI.ke (h_gq15_.2)
  have him : ImsOK kA Mq12_ T w gi ti := him.mv hn_w (fun q hA hw hk => hfr q (FrA.k hA) (fun z9 => by rw [z9] at hk; exact nWi (hk _ hO_al)))
  refine lv_pop hx hb dL_law_496 rfl ?_
  refine lv_goto (tgt := 1370) hx hb dL_law_497 (by decide) ?_
  exact kk _ _ _ _ ls _ _ ⟨w, im, rd, rc, cu, cs, bs, tp, nb, by_, vi, rb, rs, rp, al, mt, ii, pa, li, xq6_, xq7_, xq8_, xq9_, xq10_, xq11_, tl, fp, no, wi, le, ki, pl, be, vr, pm, ta, fpm, sm, nx, tk, plm, ln, wr, va, g, gi, ti, fi, gq15_, hc_ro, hc_w, hc_bs, hc_im, hc_rd, hc_rc, hc_mo, hc_al, hc_ii, hn_ro, hn_w, hn_im, hn_rd, hn_rc, hn_mo, hn_al, hn_ii, t_cu, t_cs, t_bs, t_tp, t_nb, t_rb, t_rs, t_rp, t_mt, t_pa, t_li, ⟨l_xq6_, g_xq6_⟩, ⟨l_xq8_, g_xq8_⟩, htl, hvi, hno, hwi, hpm, hta, hRT, hg, hg3, him, hR_gq15_, hRI⟩ hH (lv_sub hl [0, 1, 2, 3] rfl) (Nat.le_add_right _ _) (Nat.le_add_right _ _)
set_option maxHeartbeats 4000000 in
set_option maxRecDepth 100000 in
theorem law_case_10 {p : Program} {e : Env} {s : State} {m : MethodId} {below : List Frame} {meth : Method} {c : Code} {l : Launch} {b L : Nat} {xs : Nat → Int32} (C0 : lw_At p s m meth c b L xs) (hL : L ≤ 3072) {z : zD} {D : va_G} {kA : Nat → ClassId} (hK : mK D kA s) {M : mM} {T : mT} {A : Nat → Prop} (hAq : ∀ q, A q → s.heap.size ≤ q) (hZ : zB z A s) {Hq_ : Heap} {lcq_ : List Loc} {ls : Array Slot} {ro mo : Nat} {i : Int32} {cells slots : Nat} {w im rd rc cu cs bs tp nb by_ vi rb rs rp al mt ii pa li : Nat} {td gd bc py rf lt tl fp no wi le ki pl be vr pm ta fpm sm nx tk plm ln wr : Int32} {va : Int64} {g gi : Nat → Option Nat} {ti fi F : Nat → Int32} (hc_ro : M ro = some (.inr (7, [.ref w, .ref im, .ref rd, .ref rc, .ref cu]))) (hc_w : M w = some (.inr (6, [.int td, .int gd, .int bc, .int py, .int rf, .int lt, .int tl, .int fp, .ref cs, .ref bs, .ref tp]))) (hc_bs : M bs = some (.inl (kA 5, 4, .inr (.inr (.inr (.inr g)))))) (hc_im : M im = some (.inl (kA 6, 3, .inr (.inr (.inr (.inr gi)))))) (hc_rd : M rd = some (.inr (3, [.ref nb, .ref (zv z vi), .int no, .int wi, .ref by_, .int le, .int ki, .int pl, .int be, .int vr]))) (hc_rc : M rc = some (.inr (4, [.ref rb, .ref rs, .ref rp, .int pm]))) (hc_mo : M mo = some (.inr (8, [.ref al, .ref mt, .ref ii, .int ta, .int fpm, .ref pa, .int sm, .int nx, .int tk, .int plm, .int ln, .long va, .int wr, .ref li]))) (hc_al : M al = some (.inl (kA 0, 7506, .inl F))) (hc_ii : M ii = some (.inl (kA 2, 3, .inl fi))) (hn_ro : T ro = none) (hn_w : T w = none) (hn_im : T im = none) (hn_rd : T rd = none) (hn_rc : T rc = none) (hn_mo : T mo = none) (hn_al : T al = none) (hn_ii : T ii = none) (t_cu : T cu = some 9) (t_cs : T cs = some 3) (t_bs : T bs = some 6) (t_tp : T tp = some 7) (t_nb : T nb = some 12) (t_rb : T rb = some 2) (t_rs : T rs = some 3) (t_rp : T rp = some 5) (t_mt : T mt = some 11) (t_pa : T pa = some 13) (t_li : T li = some 14) (htd : 0 ≤ td.toInt ∧ td.toInt ≤ 999) (hbc : 0 ≤ bc.toInt ∧ bc.toInt ≤ 4) (htl : 0 ≤ tl.toInt ∧ tl.toInt ≤ 600) (hvi : vi < 19) (hno : 0 ≤ no.toInt ∧ no.toInt ≤ 1) (hwi : 0 ≤ wi.toInt ∧ wi.toInt ≤ 1) (hpm : 0 ≤ pm.toInt ∧ pm.toInt ≤ 14) (hta : 0 ≤ ta.toInt ∧ ta.toInt ≤ 600) (hRT : ta.toInt = tl.toInt) (hg : ∀ j, j < 4 → ∃ q, g j = some q ∧ T q = some 2) (hg3 : ∀ j, 3 ≤ j → gi j = none) (him : ImsOK kA M T w gi ti) (hR_F : Rng F) (hRI : RelI gi ti fi F) (n_ro_w : ro ≠ w) (n_w_ro : w ≠ ro) (n_ro_bs : ro ≠ bs) (n_bs_ro : bs ≠ ro) (n_ro_im : ro ≠ im) (n_im_ro : im ≠ ro) (n_ro_rd : ro ≠ rd) (n_rd_ro : rd ≠ ro) (n_ro_rc : ro ≠ rc) (n_rc_ro : rc ≠ ro) (n_ro_mo : ro ≠ mo) (n_mo_ro : mo ≠ ro) (n_ro_al : ro ≠ al) (n_al_ro : al ≠ ro) (n_ro_ii : ro ≠ ii) (n_ii_ro : ii ≠ ro) (n_w_bs : w ≠ bs) (n_bs_w : bs ≠ w) (n_w_im : w ≠ im) (n_im_w : im ≠ w) (n_w_rd : w ≠ rd) (n_rd_w : rd ≠ w) (n_w_rc : w ≠ rc) (n_rc_w : rc ≠ w) (n_w_mo : w ≠ mo) (n_mo_w : mo ≠ w) (n_w_al : w ≠ al) (n_al_w : al ≠ w) (n_w_ii : w ≠ ii) (n_ii_w : ii ≠ w) (n_bs_im : bs ≠ im) (n_im_bs : im ≠ bs) (n_bs_rd : bs ≠ rd) (n_rd_bs : rd ≠ bs) (n_bs_rc : bs ≠ rc) (n_rc_bs : rc ≠ bs) (n_bs_mo : bs ≠ mo) (n_mo_bs : mo ≠ bs) (n_bs_al : bs ≠ al) (n_al_bs : al ≠ bs) (n_bs_ii : bs ≠ ii) (n_ii_bs : ii ≠ bs) (n_im_rd : im ≠ rd) (n_rd_im : rd ≠ im) (n_im_rc : im ≠ rc) (n_rc_im : rc ≠ im) (n_im_mo : im ≠ mo) (n_mo_im : mo ≠ im) (n_im_al : im ≠ al) (n_al_im : al ≠ im) (n_im_ii : im ≠ ii) (n_ii_im : ii ≠ im) (n_rd_rc : rd ≠ rc) (n_rc_rd : rc ≠ rd) (n_rd_mo : rd ≠ mo) (n_mo_rd : mo ≠ rd) (n_rd_al : rd ≠ al) (n_al_rd : al ≠ rd) (n_rd_ii : rd ≠ ii) (n_ii_rd : ii ≠ rd) (n_rc_mo : rc ≠ mo) (n_mo_rc : mo ≠ rc) (n_rc_al : rc ≠ al) (n_al_rc : al ≠ rc) (n_rc_ii : rc ≠ ii) (n_ii_rc : ii ≠ rc) (n_mo_al : mo ≠ al) (n_al_mo : al ≠ mo) (n_mo_ii : mo ≠ ii) (n_ii_mo : ii ≠ mo) (n_al_ii : al ≠ ii) (n_ii_al : ii ≠ al) (hi0 : 0 ≤ i.toInt) (hi6 : i.toInt + 6 ≤ (L : Int)) (hcl : cells + 92 ≤ 600000) (hsl : slots + 1627 ≤ 7302250) (hH : mS D kA M T A s.heap Hq_ lcq_) (hl : lv_has ls 4 [(3, .int i), (2, .ref mo), (1, .ref ro), (0, .ref b)]) (kk : ∀ (M1 : mM) (T1 : mT) (H1 : Heap) (locs1 : List Loc) (ls1 : Array Slot) (cl1 sl1 : Nat), LI z kA M1 T1 ro mo → mS D kA M1 T1 A s.heap H1 locs1 → lv_has ls1 4 [(3, .int i), (2, .ref mo), (1, .ref ro), (0, .ref b)] → cl1 ≤ cells + 92 → sl1 ≤ slots + 1627 → W p l e room_1 s m #[Value.ref b] below meth c H1 locs1 cl1 sl1 (lw_Z below #[Value.ref b] s) (F0 m 1370 ls1 [])) : W p l e room_1 s m #[Value.ref b] below meth c Hq_ lcq_ cells slots (lw_Z below #[Value.ref b] s) (F0 m 500 ls []) := by
  obtain ⟨hx, hb, hr, hml, hown, hts, hX, hbl, hlocks, hgv⟩ := id C0
  have hC : CallFix p m c cL_law 4 s #[Value.ref b] TB RL := ⟨hx, hb, hml, hown, fun w h => hts w (TB_in h)⟩
  have hbA : ¬ A b := fun h => absurd (hAq b h) (Nat.not_le.mpr hbl)
  refine lv_aload_n hx hb dL_law_500 rfl (lv_at hl 2 rfl) ?_
  refine lv_aload_n hx hb dL_law_501 rfl (lv_at hl 3 rfl) ?_
  refine lv_iload_n hx hb dL_law_502 rfl (lv_at hl 0 rfl) ?_
  refine lv_iconst (v := 1) hx hb dL_law_503 (by decide) ?_
  refine lv_iadd hx hb dL_law_504 ?_
  refine lv_topi (fun zq1_ e_zq1_ => ?_)
  have h_zq1_ : zq1_.toInt = i.toInt + (1 : Int32).toInt := sIa hi0 hi6 hL e_zq1_ (by decide) (by decide)
  refine va_sld hx hb hX hbl hbA hH.2.1 (sIx hi0 hi6 h_zq1_ (by decide) (by decide)) dL_law_505 ?_
  refine lv_topi (fun vq2_ e_vq2_ => ?_)
  refine lv_aload_n hx hb dL_law_506 rfl (lv_at hl 3 rfl) ?_
  refine lv_iload_n hx hb dL_law_507 rfl (lv_at hl 0 rfl) ?_
  refine lv_iconst (v := 2) hx hb dL_law_508 (by decide) ?_
  refine lv_iadd hx hb dL_law_509 ?_
  refine lv_topi (fun zq3_ e_zq3_ => ?_)
  have h_zq3_ : zq3_.toInt = i.toInt + (2 : Int32).toInt := sIa hi0 hi6 hL e_zq3_ (by decide) (by decide)
  refine va_sld hx hb hX hbl hbA hH.2.1 (sIx hi0 hi6 h_zq3_ (by decide) (by decide)) dL_law_510 ?_
  refine lv_topi (fun vq4_ e_vq4_ => ?_)
  refine lv_aload_n hx hb dL_law_511 rfl (lv_at hl 3 rfl) ?_
  refine lv_iload_n hx hb dL_law_512 rfl (lv_at hl 0 rfl) ?_
  refine lv_iconst (v := 3) hx hb dL_law_513 (by decide) ?_
  refine lv_iadd hx hb dL_law_514 ?_
  refine lv_topi (fun zq5_ e_zq5_ => ?_)
  have h_zq5_ : zq5_.toInt = i.toInt + (3 : Int32).toInt := sIa hi0 hi6 hL e_zq5_ (by decide) (by decide)
  refine va_sld hx hb hX hbl hbA hH.2.1 (sIx hi0 hi6 h_zq5_ (by decide) (by decide)) dL_law_515 ?_
  refine lv_topi (fun vq6_ e_vq6_ => ?_)
  refine lv_aload_n hx hb dL_law_516 rfl (lv_at hl 3 rfl) ?_
  refine lv_iload_n hx hb dL_law_517 rfl (lv_at hl 0 rfl) ?_
  refine lv_iconst (v := 4) hx hb dL_law_518 (by decide) ?_
  refine lv_iadd hx hb dL_law_519 ?_
  refine lv_topi (fun zq7_ e_zq7_ => ?_)
  have h_zq7_ : zq7_.toInt = i.toInt + (4 : Int32).toInt := sIa hi0 hi6 hL e_zq7_ (by decide) (by decide)
  refine va_sld hx hb hX hbl hbA hH.2.1 (sIx hi0 hi6 h_zq7_ (by decide) (by decide)) dL_law_520 ?_
  refine lv_topi (fun vq8_ e_vq8_ => ?_)
  refine lv_aload_n hx hb dL_law_521 rfl (lv_at hl 3 rfl) ?_
  refine lv_iload_n hx hb dL_law_522 rfl (lv_at hl 0 rfl) ?_
  refine lv_iconst (v := 5) hx hb dL_law_523 (by decide) ?_
  refine lv_iadd hx hb dL_law_524 ?_
  refine lv_topi (fun zq9_ e_zq9_ => ?_)
  have h_zq9_ : zq9_.toInt = i.toInt + (5 : Int32).toInt := sIa hi0 hi6 hL e_zq9_ (by decide) (by decide)
  refine va_sld hx hb hX hbl hbA hH.2.1 (sIx hi0 hi6 h_zq9_ (by decide) (by decide)) dL_law_525 ?_
  refine lv_topi (fun vq10_ e_vq10_ => ?_)
  refine jif_eq (tgt := 533) hx hb dL_law_526 (by decide) (fun cq11_ => ?_) (fun cq11_ => ?_)
  · skip
    have cq11_ : vq10_.toInt = 0 := cq11_
    refine lv_iconst (v := 0) hx hb dL_law_533 (by decide) ?_
    have hO_rd := hc_rd
    have hO_rc := hc_rc
    have hO_mo := hc_mo
    have hO_al := hc_al
    have hO_ii := hc_ii
    have hO_im := hc_im
    refine goI hK hH (runV (As := [.int vq2_, .int vq4_, .int vq6_, .int vq8_, .int 0]) (rest := []) hC hK hH (c_X9_pass hc_ro hn_ro hc_w hn_w hc_bs t_cs t_bs t_tp (by exact htd) (by exact hbc) (by exact htl) (by decide) hg) mlL_58 (rcvM hK hH hc_ro rfl) ⟨⟨Nat.le_of_ble_eq_true rfl, Nat.le_of_ble_eq_true rfl⟩, lcA hcl, lcA hsl⟩ rfl hl.1 rfl (Nat.le_of_ble_eq_true rfl) dL_law_534) (fun rq14_ Mq12_ Tq13_ Hq_ lcq_ hP hz hH => ?_)
    try dsimp only at hP
    obtain ⟨xq15_, ⟨l_xq15_, g_xq15_⟩, xq16_, ⟨l_xq16_, g_xq16_⟩, xq17_, ⟨l_xq17_, g_xq17_⟩, xq18_, ⟨l_xq18_, g_xq18_⟩, xq19_, ⟨l_xq19_, g_xq19_⟩, xq20_, ⟨l_xq20_, g_xq20_⟩, (hx_w), eT, hfr⟩ := hP
    have eT := eT.symm; subst eT
    have hc_ro : Mq12_ ro = some (.inr (7, [.ref w, .ref im, .ref rd, .ref rc, .ref cu])) := (hfr ro (Or.inl hn_ro) n_ro_w).trans hc_ro
    have hc_w : Mq12_ w = some (.inr (6, [.int xq15_, .int xq16_, .int xq17_, .int xq18_, .int xq19_, .int xq20_, .int tl, .int fp, .ref cs, .ref bs, .ref tp])) := hx_w
    have hc_bs : Mq12_ bs = some (.inl (kA 5, 4, .inr (.inr (.inr (.inr g))))) := (hfr bs (Or.inr t_bs) n_bs_w).trans hc_bs
    have hc_im : Mq12_ im = some (.inl (kA 6, 3, .inr (.inr (.inr (.inr gi))))) := (hfr im (Or.inl hn_im) n_im_w).trans hc_im
    have hc_rd : Mq12_ rd = some (.inr (3, [.ref nb, .ref (zv z vi), .int no, .int wi, .ref by_, .int le, .int ki, .int pl, .int be, .int vr])) := (hfr rd (Or.inl hn_rd) n_rd_w).trans hc_rd
    have hc_rc : Mq12_ rc = some (.inr (4, [.ref rb, .ref rs, .ref rp, .int pm])) := (hfr rc (Or.inl hn_rc) n_rc_w).trans hc_rc
    have hc_mo : Mq12_ mo = some (.inr (8, [.ref al, .ref mt, .ref ii, .int ta, .int fpm, .ref pa, .int sm, .int nx, .int tk, .int plm, .int ln, .long va, .int wr, .ref li])) := (hfr mo (Or.inl hn_mo) n_mo_w).trans hc_mo
    have hc_al : Mq12_ al = some (.inl (kA 0, 7506, .inl F)) := (hfr al (Or.inl hn_al) n_al_w).trans hc_al
    have hc_ii : Mq12_ ii = some (.inl (kA 2, 3, .inl fi)) := (hfr ii (Or.inl hn_ii) n_ii_w).trans hc_ii
    have him : ImsOK kA Mq12_ T w gi ti := him.mv hn_w (fun q hA hw hk => hfr q hA hw)
    refine lv_pop hx hb dL_law_537 rfl ?_
    refine lv_aload_n hx hb dL_law_538 rfl (lv_at hl 1 rfl) ?_
    refine lv_aload_n hx hb dL_law_539 rfl (lv_at hl 3 rfl) ?_
    refine lv_iload_n hx hb dL_law_540 rfl (lv_at hl 0 rfl) ?_
    refine lv_iconst (v := 1) hx hb dL_law_541 (by decide) ?_
    refine lv_iadd hx hb dL_law_542 ?_
    refine lv_cst (v := zq1_) e_zq1_.symm ?_
    refine va_sld hx hb hX hbl hbA hH.2.1 (sIx hi0 hi6 h_zq1_ (by decide) (by decide)) dL_law_543 ?_
    refine lv_cst (v := vq2_) e_vq2_.symm ?_
    refine lv_aload_n hx hb dL_law_544 rfl (lv_at hl 3 rfl) ?_
    refine lv_iload_n hx hb dL_law_545 rfl (lv_at hl 0 rfl) ?_
    refine lv_iconst (v := 2) hx hb dL_law_546 (by decide) ?_
    refine lv_iadd hx hb dL_law_547 ?_
    refine lv_cst (v := zq3_) e_zq3_.symm ?_
    refine va_sld hx hb hX hbl hbA hH.2.1 (sIx hi0 hi6 h_zq3_ (by decide) (by decide)) dL_law_548 ?_
    refine lv_cst (v := vq4_) e_vq4_.symm ?_
    refine lv_aload_n hx hb dL_law_549 rfl (lv_at hl 3 rfl) ?_
    refine lv_iload_n hx hb dL_law_550 rfl (lv_at hl 0 rfl) ?_
    refine lv_iconst (v := 3) hx hb dL_law_551 (by decide) ?_
    refine lv_iadd hx hb dL_law_552 ?_
    refine lv_cst (v := zq5_) e_zq5_.symm ?_
    refine va_sld hx hb hX hbl hbA hH.2.1 (sIx hi0 hi6 h_zq5_ (by decide) (by decide)) dL_law_553 ?_
    refine lv_cst (v := vq6_) e_vq6_.symm ?_
    refine lv_aload_n hx hb dL_law_554 rfl (lv_at hl 3 rfl) ?_
    refine lv_iload_n hx hb dL_law_555 rfl (lv_at hl 0 rfl) ?_
    refine lv_iconst (v := 4) hx hb dL_law_556 (by decide) ?_
    refine lv_iadd hx hb dL_law_557 ?_
    refine lv_cst (v := zq7_) e_zq7_.symm ?_
    refine va_sld hx hb hX hbl hbA hH.2.1 (sIx hi0 hi6 h_zq7_ (by decide) (by decide)) dL_law_558 ?_
    refine lv_cst (v := vq8_) e_vq8_.symm ?_
    refine lv_aload_n hx hb dL_law_559 rfl (lv_at hl 3 rfl) ?_
    refine lv_iload_n hx hb dL_law_560 rfl (lv_at hl 0 rfl) ?_
    refine lv_iconst (v := 5) hx hb dL_law_561 (by decide) ?_
    refine lv_iadd hx hb dL_law_562 ?_
    refine lv_cst (v := zq9_) e_zq9_.symm ?_
    refine va_sld hx hb hX hbl hbA hH.2.1 (sIx hi0 hi6 h_zq9_ (by decide) (by decide)) dL_law_563 ?_
    refine lv_cst (v := vq10_) e_vq10_.symm ?_
    refine jif_eq (tgt := 571) hx hb dL_law_564 (by decide) (fun cq21_ => ?_) (fun cq21_ => absurd cq21_ (by have := iRg vq10_; have : (0 : Int32).toInt = 0 := rfl; omega))
    have cq21_ : vq10_.toInt = 0 := cq21_
    refine lv_iconst (v := 0) hx hb dL_law_571 (by decide) ?_
    have hO_rd := hc_rd
    have hO_rc := hc_rc
    have hO_mo := hc_mo
    have hO_al := hc_al
    have hO_ii := hc_ii
    have hO_im := hc_im
    refine goI hK hH (runV (As := [.int vq2_, .int vq4_, .int vq6_, .int vq8_, .int 0]) (rest := []) hC hK hH (c_X10_pass hc_mo hn_mo hc_al hn_al t_mt t_pa t_li (by exact hR_F)) mlL_62 (rcvM hK hH hc_mo rfl) ⟨⟨Nat.le_of_ble_eq_true rfl, Nat.le_of_ble_eq_true rfl⟩, lcA hcl, lcA hsl⟩ rfl hl.1 rfl (Nat.le_of_ble_eq_true rfl) dL_law_572) (fun rq24_ Mq22_ Tq23_ Hq_ lcq_ hP hz hH => ?_)
    try dsimp only at hP
    obtain ⟨gq25_, h_gq25_, (hx_al), eT, hfr⟩ := hP
    have eT := eT.symm; subst eT
    have hc_ro : Mq22_ ro = some (.inr (7, [.ref w, .ref im, .ref rd, .ref rc, .ref cu])) := (hfr ro (Or.inl hn_ro) n_ro_al).trans hc_ro
    have hc_w : Mq22_ w = some (.inr (6, [.int xq15_, .int xq16_, .int xq17_, .int xq18_, .int xq19_, .int xq20_, .int tl, .int fp, .ref cs, .ref bs, .ref tp])) := (hfr w (Or.inl hn_w) n_w_al).trans hc_w
    have hc_bs : Mq22_ bs = some (.inl (kA 5, 4, .inr (.inr (.inr (.inr g))))) := (hfr bs (Or.inr (Or.inl t_bs)) n_bs_al).trans hc_bs
    have hc_im : Mq22_ im = some (.inl (kA 6, 3, .inr (.inr (.inr (.inr gi))))) := (hfr im (Or.inl hn_im) n_im_al).trans hc_im
    have hc_rd : Mq22_ rd = some (.inr (3, [.ref nb, .ref (zv z vi), .int no, .int wi, .ref by_, .int le, .int ki, .int pl, .int be, .int vr])) := (hfr rd (Or.inl hn_rd) n_rd_al).trans hc_rd
    have hc_rc : Mq22_ rc = some (.inr (4, [.ref rb, .ref rs, .ref rp, .int pm])) := (hfr rc (Or.inl hn_rc) n_rc_al).trans hc_rc
    have hc_mo : Mq22_ mo = some (.inr (8, [.ref al, .ref mt, .ref ii, .int ta, .int fpm, .ref pa, .int sm, .int nx, .int tk, .int plm, .int ln, .long va, .int wr, .ref li])) := (hfr mo (Or.inl hn_mo) n_mo_al).trans hc_mo
    have hc_al : Mq22_ al = some (.inl (kA 0, 7506, .inl gq25_)) := hx_al
    have hc_ii : Mq22_ ii = some (.inl (kA 2, 3, .inl fi)) := (hfr ii (Or.inl hn_ii) n_ii_al).trans hc_ii
    have hR_gq25_ : Rng gq25_ := h_gq25_.1
    have hRI := hRI.ke (h_gq25_.2)
    have him : ImsOK kA Mq22_ T w gi ti := him.mv hn_w (fun q hA hw hk => hfr q (FrA.k hA) (fun z9 => by rw [z9] at hk; exact nWi (hk _ hO_al)))
    refine lv_pop hx hb dL_law_575 rfl ?_
    refine lv_goto (tgt := 1370) hx hb dL_law_576 (by decide) ?_
    exact kk _ _ _ _ ls _ _ ⟨w, im, rd, rc, cu, cs, bs, tp, nb, by_, vi, rb, rs, rp, al, mt, ii, pa, li, xq15_, xq16_, xq17_, xq18_, xq19_, xq20_, tl, fp, no, wi, le, ki, pl, be, vr, pm, ta, fpm, sm, nx, tk, plm, ln, wr, va, g, gi, ti, fi, gq25_, hc_ro, hc_w, hc_bs, hc_im, hc_rd, hc_rc, hc_mo, hc_al, hc_ii, hn_ro, hn_w, hn_im, hn_rd, hn_rc, hn_mo, hn_al, hn_ii, t_cu, t_cs, t_bs, t_tp, t_nb, t_rb, t_rs, t_rp, t_mt, t_pa, t_li, ⟨l_xq15_, g_xq15_⟩, ⟨l_xq17_, g_xq17_⟩, htl, hvi, hno, hwi, hpm, hta, hRT, hg, hg3, him, hR_gq25_, hRI⟩ hH (lv_sub hl [0, 1, 2, 3] rfl) (Nat.le_add_right _ _) (Nat.le_add_right _ _)
  · skip
    have cq11_ : vq10_.toInt ≠ 0 := cq11_
    refine lv_iconst (v := 1) hx hb dL_law_529 (by decide) ?_
    refine lv_goto (tgt := 534) hx hb dL_law_530 (by decide) ?_
    have hO_rd := hc_rd
    have hO_rc := hc_rc
    have hO_mo := hc_mo
    have hO_al := hc_al
    have hO_ii := hc_ii
    have hO_im := hc_im
    refine goI hK hH (runV (As := [.int vq2_, .int vq4_, .int vq6_, .int vq8_, .int 1]) (rest := []) hC hK hH (c_X9_pass hc_ro hn_ro hc_w hn_w hc_bs t_cs t_bs t_tp (by exact htd) (by exact hbc) (by exact htl) (by decide) hg) mlL_58 (rcvM hK hH hc_ro rfl) ⟨⟨Nat.le_of_ble_eq_true rfl, Nat.le_of_ble_eq_true rfl⟩, lcA hcl, lcA hsl⟩ rfl hl.1 rfl (Nat.le_of_ble_eq_true rfl) dL_law_534) (fun rq28_ Mq26_ Tq27_ Hq_ lcq_ hP hz hH => ?_)
    try dsimp only at hP
    obtain ⟨xq29_, ⟨l_xq29_, g_xq29_⟩, xq30_, ⟨l_xq30_, g_xq30_⟩, xq31_, ⟨l_xq31_, g_xq31_⟩, xq32_, ⟨l_xq32_, g_xq32_⟩, xq33_, ⟨l_xq33_, g_xq33_⟩, xq34_, ⟨l_xq34_, g_xq34_⟩, (hx_w), eT, hfr⟩ := hP
    have eT := eT.symm; subst eT
    have hc_ro : Mq26_ ro = some (.inr (7, [.ref w, .ref im, .ref rd, .ref rc, .ref cu])) := (hfr ro (Or.inl hn_ro) n_ro_w).trans hc_ro
    have hc_w : Mq26_ w = some (.inr (6, [.int xq29_, .int xq30_, .int xq31_, .int xq32_, .int xq33_, .int xq34_, .int tl, .int fp, .ref cs, .ref bs, .ref tp])) := hx_w
    have hc_bs : Mq26_ bs = some (.inl (kA 5, 4, .inr (.inr (.inr (.inr g))))) := (hfr bs (Or.inr t_bs) n_bs_w).trans hc_bs
    have hc_im : Mq26_ im = some (.inl (kA 6, 3, .inr (.inr (.inr (.inr gi))))) := (hfr im (Or.inl hn_im) n_im_w).trans hc_im
    have hc_rd : Mq26_ rd = some (.inr (3, [.ref nb, .ref (zv z vi), .int no, .int wi, .ref by_, .int le, .int ki, .int pl, .int be, .int vr])) := (hfr rd (Or.inl hn_rd) n_rd_w).trans hc_rd
    have hc_rc : Mq26_ rc = some (.inr (4, [.ref rb, .ref rs, .ref rp, .int pm])) := (hfr rc (Or.inl hn_rc) n_rc_w).trans hc_rc
    have hc_mo : Mq26_ mo = some (.inr (8, [.ref al, .ref mt, .ref ii, .int ta, .int fpm, .ref pa, .int sm, .int nx, .int tk, .int plm, .int ln, .long va, .int wr, .ref li])) := (hfr mo (Or.inl hn_mo) n_mo_w).trans hc_mo
    have hc_al : Mq26_ al = some (.inl (kA 0, 7506, .inl F)) := (hfr al (Or.inl hn_al) n_al_w).trans hc_al
    have hc_ii : Mq26_ ii = some (.inl (kA 2, 3, .inl fi)) := (hfr ii (Or.inl hn_ii) n_ii_w).trans hc_ii
    have him : ImsOK kA Mq26_ T w gi ti := him.mv hn_w (fun q hA hw hk => hfr q hA hw)
    refine lv_pop hx hb dL_law_537 rfl ?_
    refine lv_aload_n hx hb dL_law_538 rfl (lv_at hl 1 rfl) ?_
    refine lv_aload_n hx hb dL_law_539 rfl (lv_at hl 3 rfl) ?_
    refine lv_iload_n hx hb dL_law_540 rfl (lv_at hl 0 rfl) ?_
    refine lv_iconst (v := 1) hx hb dL_law_541 (by decide) ?_
    refine lv_iadd hx hb dL_law_542 ?_
    refine lv_cst (v := zq1_) e_zq1_.symm ?_
    refine va_sld hx hb hX hbl hbA hH.2.1 (sIx hi0 hi6 h_zq1_ (by decide) (by decide)) dL_law_543 ?_
    refine lv_cst (v := vq2_) e_vq2_.symm ?_
    refine lv_aload_n hx hb dL_law_544 rfl (lv_at hl 3 rfl) ?_
    refine lv_iload_n hx hb dL_law_545 rfl (lv_at hl 0 rfl) ?_
    refine lv_iconst (v := 2) hx hb dL_law_546 (by decide) ?_
    refine lv_iadd hx hb dL_law_547 ?_
    refine lv_cst (v := zq3_) e_zq3_.symm ?_
    refine va_sld hx hb hX hbl hbA hH.2.1 (sIx hi0 hi6 h_zq3_ (by decide) (by decide)) dL_law_548 ?_
    refine lv_cst (v := vq4_) e_vq4_.symm ?_
    refine lv_aload_n hx hb dL_law_549 rfl (lv_at hl 3 rfl) ?_
    refine lv_iload_n hx hb dL_law_550 rfl (lv_at hl 0 rfl) ?_
    refine lv_iconst (v := 3) hx hb dL_law_551 (by decide) ?_
    refine lv_iadd hx hb dL_law_552 ?_
    refine lv_cst (v := zq5_) e_zq5_.symm ?_
    refine va_sld hx hb hX hbl hbA hH.2.1 (sIx hi0 hi6 h_zq5_ (by decide) (by decide)) dL_law_553 ?_
    refine lv_cst (v := vq6_) e_vq6_.symm ?_
    refine lv_aload_n hx hb dL_law_554 rfl (lv_at hl 3 rfl) ?_
    refine lv_iload_n hx hb dL_law_555 rfl (lv_at hl 0 rfl) ?_
    refine lv_iconst (v := 4) hx hb dL_law_556 (by decide) ?_
    refine lv_iadd hx hb dL_law_557 ?_
    refine lv_cst (v := zq7_) e_zq7_.symm ?_
    refine va_sld hx hb hX hbl hbA hH.2.1 (sIx hi0 hi6 h_zq7_ (by decide) (by decide)) dL_law_558 ?_
    refine lv_cst (v := vq8_) e_vq8_.symm ?_
    refine lv_aload_n hx hb dL_law_559 rfl (lv_at hl 3 rfl) ?_
    refine lv_iload_n hx hb dL_law_560 rfl (lv_at hl 0 rfl) ?_
    refine lv_iconst (v := 5) hx hb dL_law_561 (by decide) ?_
    refine lv_iadd hx hb dL_law_562 ?_
    refine lv_cst (v := zq9_) e_zq9_.symm ?_
    refine va_sld hx hb hX hbl hbA hH.2.1 (sIx hi0 hi6 h_zq9_ (by decide) (by decide)) dL_law_563 ?_
    refine lv_cst (v := vq10_) e_vq10_.symm ?_
    refine jif_eq (tgt := 571) hx hb dL_law_564 (by decide) (fun cq35_ => ?_) (fun cq35_ => ?_)
    · skip
      have cq35_ : vq10_.toInt = 0 := cq35_
      refine lv_iconst (v := 0) hx hb dL_law_571 (by decide) ?_
      have hO_rd := hc_rd
      have hO_rc := hc_rc
      have hO_mo := hc_mo
      have hO_al := hc_al
      have hO_ii := hc_ii
      have hO_im := hc_im
      refine goI hK hH (runV (As := [.int vq2_, .int vq4_, .int vq6_, .int vq8_, .int 0]) (rest := []) hC hK hH (c_X10_pass hc_mo hn_mo hc_al hn_al t_mt t_pa t_li (by exact hR_F)) mlL_62 (rcvM hK hH hc_mo rfl) ⟨⟨Nat.le_of_ble_eq_true rfl, Nat.le_of_ble_eq_true rfl⟩, lcA hcl, lcA hsl⟩ rfl hl.1 rfl (Nat.le_of_ble_eq_true rfl) dL_law_572) (fun rq38_ Mq36_ Tq37_ Hq_ lcq_ hP hz hH => ?_)
      try dsimp only at hP
      obtain ⟨gq39_, h_gq39_, (hx_al), eT, hfr⟩ := hP
      have eT := eT.symm; subst eT
      have hc_ro : Mq36_ ro = some (.inr (7, [.ref w, .ref im, .ref rd, .ref rc, .ref cu])) := (hfr ro (Or.inl hn_ro) n_ro_al).trans hc_ro
      have hc_w : Mq36_ w = some (.inr (6, [.int xq29_, .int xq30_, .int xq31_, .int xq32_, .int xq33_, .int xq34_, .int tl, .int fp, .ref cs, .ref bs, .ref tp])) := (hfr w (Or.inl hn_w) n_w_al).trans hc_w
      have hc_bs : Mq36_ bs = some (.inl (kA 5, 4, .inr (.inr (.inr (.inr g))))) := (hfr bs (Or.inr (Or.inl t_bs)) n_bs_al).trans hc_bs
      have hc_im : Mq36_ im = some (.inl (kA 6, 3, .inr (.inr (.inr (.inr gi))))) := (hfr im (Or.inl hn_im) n_im_al).trans hc_im
      have hc_rd : Mq36_ rd = some (.inr (3, [.ref nb, .ref (zv z vi), .int no, .int wi, .ref by_, .int le, .int ki, .int pl, .int be, .int vr])) := (hfr rd (Or.inl hn_rd) n_rd_al).trans hc_rd
      have hc_rc : Mq36_ rc = some (.inr (4, [.ref rb, .ref rs, .ref rp, .int pm])) := (hfr rc (Or.inl hn_rc) n_rc_al).trans hc_rc
      have hc_mo : Mq36_ mo = some (.inr (8, [.ref al, .ref mt, .ref ii, .int ta, .int fpm, .ref pa, .int sm, .int nx, .int tk, .int plm, .int ln, .long va, .int wr, .ref li])) := (hfr mo (Or.inl hn_mo) n_mo_al).trans hc_mo
      have hc_al : Mq36_ al = some (.inl (kA 0, 7506, .inl gq39_)) := hx_al
      have hc_ii : Mq36_ ii = some (.inl (kA 2, 3, .inl fi)) := (hfr ii (Or.inl hn_ii) n_ii_al).trans hc_ii
      have hR_gq39_ : Rng gq39_ := h_gq39_.1
      have hRI := hRI.ke (h_gq39_.2)
      have him : ImsOK kA Mq36_ T w gi ti := him.mv hn_w (fun q hA hw hk => hfr q (FrA.k hA) (fun z9 => by rw [z9] at hk; exact nWi (hk _ hO_al)))
      refine lv_pop hx hb dL_law_575 rfl ?_
      refine lv_goto (tgt := 1370) hx hb dL_law_576 (by decide) ?_
      exact kk _ _ _ _ ls _ _ ⟨w, im, rd, rc, cu, cs, bs, tp, nb, by_, vi, rb, rs, rp, al, mt, ii, pa, li, xq29_, xq30_, xq31_, xq32_, xq33_, xq34_, tl, fp, no, wi, le, ki, pl, be, vr, pm, ta, fpm, sm, nx, tk, plm, ln, wr, va, g, gi, ti, fi, gq39_, hc_ro, hc_w, hc_bs, hc_im, hc_rd, hc_rc, hc_mo, hc_al, hc_ii, hn_ro, hn_w, hn_im, hn_rd, hn_rc, hn_mo, hn_al, hn_ii, t_cu, t_cs, t_bs, t_tp, t_nb, t_rb, t_rs, t_rp, t_mt, t_pa, t_li, ⟨l_xq29_, g_xq29_⟩, ⟨l_xq31_, g_xq31_⟩, htl, hvi, hno, hwi, hpm, hta, hRT, hg, hg3, him, hR_gq39_, hRI⟩ hH (lv_sub hl [0, 1, 2, 3] rfl) (Nat.le_add_right _ _) (Nat.le_add_right _ _)
    · skip
      have cq35_ : vq10_.toInt ≠ 0 := cq35_
      refine lv_iconst (v := 1) hx hb dL_law_567 (by decide) ?_
      refine lv_goto (tgt := 572) hx hb dL_law_568 (by decide) ?_
      have hO_rd := hc_rd
      have hO_rc := hc_rc
      have hO_mo := hc_mo
      have hO_al := hc_al
      have hO_ii := hc_ii
      have hO_im := hc_im
      refine goI hK hH (runV (As := [.int vq2_, .int vq4_, .int vq6_, .int vq8_, .int 1]) (rest := []) hC hK hH (c_X10_pass hc_mo hn_mo hc_al hn_al t_mt t_pa t_li (by exact hR_F)) mlL_62 (rcvM hK hH hc_mo rfl) ⟨⟨Nat.le_of_ble_eq_true rfl, Nat.le_of_ble_eq_true rfl⟩, lcA hcl, lcA hsl⟩ rfl hl.1 rfl (Nat.le_of_ble_eq_true rfl) dL_law_572) (fun rq42_ Mq40_ Tq41_ Hq_ lcq_ hP hz hH => ?_)
      try dsimp only at hP
      obtain ⟨gq43_, h_gq43_, (hx_al), eT, hfr⟩ := hP
      have eT := eT.symm; subst eT
      have hc_ro : Mq40_ ro = some (.inr (7, [.ref w, .ref im, .ref rd, .ref rc, .ref cu])) := (hfr ro (Or.inl hn_ro) n_ro_al).trans hc_ro
      have hc_w : Mq40_ w = some (.inr (6, [.int xq29_, .int xq30_, .int xq31_, .int xq32_, .int xq33_, .int xq34_, .int tl, .int fp, .ref cs, .ref bs, .ref tp])) := (hfr w (Or.inl hn_w) n_w_al).trans hc_w
      have hc_bs : Mq40_ bs = some (.inl (kA 5, 4, .inr (.inr (.inr (.inr g))))) := (hfr bs (Or.inr (Or.inl t_bs)) n_bs_al).trans hc_bs
      have hc_im : Mq40_ im = some (.inl (kA 6, 3, .inr (.inr (.inr (.inr gi))))) := (hfr im (Or.inl hn_im) n_im_al).trans hc_im
      have hc_rd : Mq40_ rd = some (.inr (3, [.ref nb, .ref (zv z vi), .int no, .int wi, .ref by_, .int le, .int ki, .int pl, .int be, .int vr])) := (hfr rd (Or.inl hn_rd) n_rd_al).trans hc_rd
      have hc_rc : Mq40_ rc = some (.inr (4, [.ref rb, .ref rs, .ref rp, .int pm])) := (hfr rc (Or.inl hn_rc) n_rc_al).trans hc_rc
      have hc_mo : Mq40_ mo = some (.inr (8, [.ref al, .ref mt, .ref ii, .int ta, .int fpm, .ref pa, .int sm, .int nx, .int tk, .int plm, .int ln, .long va, .int wr, .ref li])) := (hfr mo (Or.inl hn_mo) n_mo_al).trans hc_mo
      have hc_al : Mq40_ al = some (.inl (kA 0, 7506, .inl gq43_)) := hx_al
      have hc_ii : Mq40_ ii = some (.inl (kA 2, 3, .inl fi)) := (hfr ii (Or.inl hn_ii) n_ii_al).trans hc_ii
      have hR_gq43_ : Rng gq43_ := h_gq43_.1
      have hRI := hRI.ke (h_gq43_.2)
      have him : ImsOK kA Mq40_ T w gi ti := him.mv hn_w (fun q hA hw hk => hfr q (FrA.k hA) (fun z9 => by rw [z9] at hk; exact nWi (hk _ hO_al)))
      refine lv_pop hx hb dL_law_575 rfl ?_
      refine lv_goto (tgt := 1370) hx hb dL_law_576 (by decide) ?_
      exact kk _ _ _ _ ls _ _ ⟨w, im, rd, rc, cu, cs, bs, tp, nb, by_, vi, rb, rs, rp, al, mt, ii, pa, li, xq29_, xq30_, xq31_, xq32_, xq33_, xq34_, tl, fp, no, wi, le, ki, pl, be, vr, pm, ta, fpm, sm, nx, tk, plm, ln, wr, va, g, gi, ti, fi, gq43_, hc_ro, hc_w, hc_bs, hc_im, hc_rd, hc_rc, hc_mo, hc_al, hc_ii, hn_ro, hn_w, hn_im, hn_rd, hn_rc, hn_mo, hn_al, hn_ii, t_cu, t_cs, t_bs, t_tp, t_nb, t_rb, t_rs, t_rp, t_mt, t_pa, t_li, ⟨l_xq29_, g_xq29_⟩, ⟨l_xq31_, g_xq31_⟩, htl, hvi, hno, hwi, hpm, hta, hRT, hg, hg3, him, hR_gq43_, hRI⟩ hH (lv_sub hl [0, 1, 2, 3] rfl) (Nat.le_add_right _ _) (Nat.le_add_right _ _)
set_option maxHeartbeats 4000000 in
set_option maxRecDepth 100000 in
theorem law_case_11 {p : Program} {e : Env} {s : State} {m : MethodId} {below : List Frame} {meth : Method} {c : Code} {l : Launch} {b L : Nat} {xs : Nat → Int32} (C0 : lw_At p s m meth c b L xs) (hL : L ≤ 3072) {z : zD} {D : va_G} {kA : Nat → ClassId} (hK : mK D kA s) {M : mM} {T : mT} {A : Nat → Prop} (hAq : ∀ q, A q → s.heap.size ≤ q) (hZ : zB z A s) {Hq_ : Heap} {lcq_ : List Loc} {ls : Array Slot} {ro mo : Nat} {i : Int32} {cells slots : Nat} {w im rd rc cu cs bs tp nb by_ vi rb rs rp al mt ii pa li : Nat} {td gd bc py rf lt tl fp no wi le ki pl be vr pm ta fpm sm nx tk plm ln wr : Int32} {va : Int64} {g gi : Nat → Option Nat} {ti fi F : Nat → Int32} (hc_ro : M ro = some (.inr (7, [.ref w, .ref im, .ref rd, .ref rc, .ref cu]))) (hc_w : M w = some (.inr (6, [.int td, .int gd, .int bc, .int py, .int rf, .int lt, .int tl, .int fp, .ref cs, .ref bs, .ref tp]))) (hc_bs : M bs = some (.inl (kA 5, 4, .inr (.inr (.inr (.inr g)))))) (hc_im : M im = some (.inl (kA 6, 3, .inr (.inr (.inr (.inr gi)))))) (hc_rd : M rd = some (.inr (3, [.ref nb, .ref (zv z vi), .int no, .int wi, .ref by_, .int le, .int ki, .int pl, .int be, .int vr]))) (hc_rc : M rc = some (.inr (4, [.ref rb, .ref rs, .ref rp, .int pm]))) (hc_mo : M mo = some (.inr (8, [.ref al, .ref mt, .ref ii, .int ta, .int fpm, .ref pa, .int sm, .int nx, .int tk, .int plm, .int ln, .long va, .int wr, .ref li]))) (hc_al : M al = some (.inl (kA 0, 7506, .inl F))) (hc_ii : M ii = some (.inl (kA 2, 3, .inl fi))) (hn_ro : T ro = none) (hn_w : T w = none) (hn_im : T im = none) (hn_rd : T rd = none) (hn_rc : T rc = none) (hn_mo : T mo = none) (hn_al : T al = none) (hn_ii : T ii = none) (t_cu : T cu = some 9) (t_cs : T cs = some 3) (t_bs : T bs = some 6) (t_tp : T tp = some 7) (t_nb : T nb = some 12) (t_rb : T rb = some 2) (t_rs : T rs = some 3) (t_rp : T rp = some 5) (t_mt : T mt = some 11) (t_pa : T pa = some 13) (t_li : T li = some 14) (htd : 0 ≤ td.toInt ∧ td.toInt ≤ 999) (hbc : 0 ≤ bc.toInt ∧ bc.toInt ≤ 4) (htl : 0 ≤ tl.toInt ∧ tl.toInt ≤ 600) (hvi : vi < 19) (hno : 0 ≤ no.toInt ∧ no.toInt ≤ 1) (hwi : 0 ≤ wi.toInt ∧ wi.toInt ≤ 1) (hpm : 0 ≤ pm.toInt ∧ pm.toInt ≤ 14) (hta : 0 ≤ ta.toInt ∧ ta.toInt ≤ 600) (hRT : ta.toInt = tl.toInt) (hg : ∀ j, j < 4 → ∃ q, g j = some q ∧ T q = some 2) (hg3 : ∀ j, 3 ≤ j → gi j = none) (him : ImsOK kA M T w gi ti) (hR_F : Rng F) (hRI : RelI gi ti fi F) (n_ro_w : ro ≠ w) (n_w_ro : w ≠ ro) (n_ro_bs : ro ≠ bs) (n_bs_ro : bs ≠ ro) (n_ro_im : ro ≠ im) (n_im_ro : im ≠ ro) (n_ro_rd : ro ≠ rd) (n_rd_ro : rd ≠ ro) (n_ro_rc : ro ≠ rc) (n_rc_ro : rc ≠ ro) (n_ro_mo : ro ≠ mo) (n_mo_ro : mo ≠ ro) (n_ro_al : ro ≠ al) (n_al_ro : al ≠ ro) (n_ro_ii : ro ≠ ii) (n_ii_ro : ii ≠ ro) (n_w_bs : w ≠ bs) (n_bs_w : bs ≠ w) (n_w_im : w ≠ im) (n_im_w : im ≠ w) (n_w_rd : w ≠ rd) (n_rd_w : rd ≠ w) (n_w_rc : w ≠ rc) (n_rc_w : rc ≠ w) (n_w_mo : w ≠ mo) (n_mo_w : mo ≠ w) (n_w_al : w ≠ al) (n_al_w : al ≠ w) (n_w_ii : w ≠ ii) (n_ii_w : ii ≠ w) (n_bs_im : bs ≠ im) (n_im_bs : im ≠ bs) (n_bs_rd : bs ≠ rd) (n_rd_bs : rd ≠ bs) (n_bs_rc : bs ≠ rc) (n_rc_bs : rc ≠ bs) (n_bs_mo : bs ≠ mo) (n_mo_bs : mo ≠ bs) (n_bs_al : bs ≠ al) (n_al_bs : al ≠ bs) (n_bs_ii : bs ≠ ii) (n_ii_bs : ii ≠ bs) (n_im_rd : im ≠ rd) (n_rd_im : rd ≠ im) (n_im_rc : im ≠ rc) (n_rc_im : rc ≠ im) (n_im_mo : im ≠ mo) (n_mo_im : mo ≠ im) (n_im_al : im ≠ al) (n_al_im : al ≠ im) (n_im_ii : im ≠ ii) (n_ii_im : ii ≠ im) (n_rd_rc : rd ≠ rc) (n_rc_rd : rc ≠ rd) (n_rd_mo : rd ≠ mo) (n_mo_rd : mo ≠ rd) (n_rd_al : rd ≠ al) (n_al_rd : al ≠ rd) (n_rd_ii : rd ≠ ii) (n_ii_rd : ii ≠ rd) (n_rc_mo : rc ≠ mo) (n_mo_rc : mo ≠ rc) (n_rc_al : rc ≠ al) (n_al_rc : al ≠ rc) (n_rc_ii : rc ≠ ii) (n_ii_rc : ii ≠ rc) (n_mo_al : mo ≠ al) (n_al_mo : al ≠ mo) (n_mo_ii : mo ≠ ii) (n_ii_mo : ii ≠ mo) (n_al_ii : al ≠ ii) (n_ii_al : ii ≠ al) (hi0 : 0 ≤ i.toInt) (hi6 : i.toInt + 6 ≤ (L : Int)) (hcl : cells + 92 ≤ 600000) (hsl : slots + 1627 ≤ 7302250) (hH : mS D kA M T A s.heap Hq_ lcq_) (hl : lv_has ls 4 [(3, .int i), (2, .ref mo), (1, .ref ro), (0, .ref b)]) (kk : ∀ (M1 : mM) (T1 : mT) (H1 : Heap) (locs1 : List Loc) (ls1 : Array Slot) (cl1 sl1 : Nat), LI z kA M1 T1 ro mo → mS D kA M1 T1 A s.heap H1 locs1 → lv_has ls1 4 [(3, .int i), (2, .ref mo), (1, .ref ro), (0, .ref b)] → cl1 ≤ cells + 92 → sl1 ≤ slots + 1627 → W p l e room_1 s m #[Value.ref b] below meth c H1 locs1 cl1 sl1 (lw_Z below #[Value.ref b] s) (F0 m 1370 ls1 [])) : W p l e room_1 s m #[Value.ref b] below meth c Hq_ lcq_ cells slots (lw_Z below #[Value.ref b] s) (F0 m 579 ls []) := by
  obtain ⟨hx, hb, hr, hml, hown, hts, hX, hbl, hlocks, hgv⟩ := id C0
  have hC : CallFix p m c cL_law 4 s #[Value.ref b] TB RL := ⟨hx, hb, hml, hown, fun w h => hts w (TB_in h)⟩
  have hbA : ¬ A b := fun h => absurd (hAq b h) (Nat.not_le.mpr hbl)
  refine lv_aload_n hx hb dL_law_579 rfl (lv_at hl 2 rfl) ?_
  refine lv_aload_n hx hb dL_law_580 rfl (lv_at hl 3 rfl) ?_
  refine lv_iload_n hx hb dL_law_581 rfl (lv_at hl 0 rfl) ?_
  refine lv_iconst (v := 1) hx hb dL_law_582 (by decide) ?_
  refine lv_iadd hx hb dL_law_583 ?_
  refine lv_topi (fun zq1_ e_zq1_ => ?_)
  have h_zq1_ : zq1_.toInt = i.toInt + (1 : Int32).toInt := sIa hi0 hi6 hL e_zq1_ (by decide) (by decide)
  refine va_sld hx hb hX hbl hbA hH.2.1 (sIx hi0 hi6 h_zq1_ (by decide) (by decide)) dL_law_584 ?_
  refine lv_topi (fun vq2_ e_vq2_ => ?_)
  refine lv_aload_n hx hb dL_law_585 rfl (lv_at hl 3 rfl) ?_
  refine lv_iload_n hx hb dL_law_586 rfl (lv_at hl 0 rfl) ?_
  refine lv_iconst (v := 2) hx hb dL_law_587 (by decide) ?_
  refine lv_iadd hx hb dL_law_588 ?_
  refine lv_topi (fun zq3_ e_zq3_ => ?_)
  have h_zq3_ : zq3_.toInt = i.toInt + (2 : Int32).toInt := sIa hi0 hi6 hL e_zq3_ (by decide) (by decide)
  refine va_sld hx hb hX hbl hbA hH.2.1 (sIx hi0 hi6 h_zq3_ (by decide) (by decide)) dL_law_589 ?_
  refine lv_topi (fun vq4_ e_vq4_ => ?_)
  refine lv_aload_n hx hb dL_law_590 rfl (lv_at hl 3 rfl) ?_
  refine lv_iload_n hx hb dL_law_591 rfl (lv_at hl 0 rfl) ?_
  refine lv_iconst (v := 3) hx hb dL_law_592 (by decide) ?_
  refine lv_iadd hx hb dL_law_593 ?_
  refine lv_topi (fun zq5_ e_zq5_ => ?_)
  have h_zq5_ : zq5_.toInt = i.toInt + (3 : Int32).toInt := sIa hi0 hi6 hL e_zq5_ (by decide) (by decide)
  refine va_sld hx hb hX hbl hbA hH.2.1 (sIx hi0 hi6 h_zq5_ (by decide) (by decide)) dL_law_594 ?_
  refine lv_topi (fun vq6_ e_vq6_ => ?_)
  refine lv_aload_n hx hb dL_law_595 rfl (lv_at hl 3 rfl) ?_
  refine lv_iload_n hx hb dL_law_596 rfl (lv_at hl 0 rfl) ?_
  refine lv_iconst (v := 4) hx hb dL_law_597 (by decide) ?_
  refine lv_iadd hx hb dL_law_598 ?_
  refine lv_topi (fun zq7_ e_zq7_ => ?_)
  have h_zq7_ : zq7_.toInt = i.toInt + (4 : Int32).toInt := sIa hi0 hi6 hL e_zq7_ (by decide) (by decide)
  refine va_sld hx hb hX hbl hbA hH.2.1 (sIx hi0 hi6 h_zq7_ (by decide) (by decide)) dL_law_599 ?_
  refine lv_topi (fun vq8_ e_vq8_ => ?_)
  refine lv_aload_n hx hb dL_law_600 rfl (lv_at hl 3 rfl) ?_
  refine lv_iload_n hx hb dL_law_601 rfl (lv_at hl 0 rfl) ?_
  refine lv_iconst (v := 5) hx hb dL_law_602 (by decide) ?_
  refine lv_iadd hx hb dL_law_603 ?_
  refine lv_topi (fun zq9_ e_zq9_ => ?_)
  have h_zq9_ : zq9_.toInt = i.toInt + (5 : Int32).toInt := sIa hi0 hi6 hL e_zq9_ (by decide) (by decide)
  refine va_sld hx hb hX hbl hbA hH.2.1 (sIx hi0 hi6 h_zq9_ (by decide) (by decide)) dL_law_604 ?_
  refine lv_topi (fun vq10_ e_vq10_ => ?_)
  refine jif_eq (tgt := 612) hx hb dL_law_605 (by decide) (fun cq11_ => ?_) (fun cq11_ => ?_)
  · skip
    have cq11_ : vq10_.toInt = 0 := cq11_
    refine lv_iconst (v := 0) hx hb dL_law_612 (by decide) ?_
    have hO_rd := hc_rd
    have hO_rc := hc_rc
    have hO_mo := hc_mo
    have hO_al := hc_al
    have hO_ii := hc_ii
    have hO_im := hc_im
    refine goI hK hH (runV (As := [.int vq2_, .int vq4_, .int vq6_, .int vq8_, .int 0]) (rest := []) hC hK hH (c_X9_forge hc_ro hn_ro hc_w hn_w hc_bs t_cs t_bs t_tp (by exact htd) (by exact hbc) (by exact htl) (by decide) hg) mlL_63 (rcvM hK hH hc_ro rfl) ⟨⟨Nat.le_of_ble_eq_true rfl, Nat.le_of_ble_eq_true rfl⟩, lcA hcl, lcA hsl⟩ rfl hl.1 rfl (Nat.le_of_ble_eq_true rfl) dL_law_613) (fun rq14_ Mq12_ Tq13_ Hq_ lcq_ hP hz hH => ?_)
    try dsimp only at hP
    obtain ⟨xq15_, ⟨l_xq15_, g_xq15_⟩, xq16_, ⟨l_xq16_, g_xq16_⟩, xq17_, ⟨l_xq17_, g_xq17_⟩, xq18_, ⟨l_xq18_, g_xq18_⟩, xq19_, ⟨l_xq19_, g_xq19_⟩, xq20_, ⟨l_xq20_, g_xq20_⟩, (hx_w), eT, hfr⟩ := hP
    have eT := eT.symm; subst eT
    have hc_ro : Mq12_ ro = some (.inr (7, [.ref w, .ref im, .ref rd, .ref rc, .ref cu])) := (hfr ro (Or.inl hn_ro) n_ro_w).trans hc_ro
    have hc_w : Mq12_ w = some (.inr (6, [.int xq15_, .int xq16_, .int xq17_, .int xq18_, .int xq19_, .int xq20_, .int tl, .int fp, .ref cs, .ref bs, .ref tp])) := hx_w
    have hc_bs : Mq12_ bs = some (.inl (kA 5, 4, .inr (.inr (.inr (.inr g))))) := (hfr bs (Or.inr t_bs) n_bs_w).trans hc_bs
    have hc_im : Mq12_ im = some (.inl (kA 6, 3, .inr (.inr (.inr (.inr gi))))) := (hfr im (Or.inl hn_im) n_im_w).trans hc_im
    have hc_rd : Mq12_ rd = some (.inr (3, [.ref nb, .ref (zv z vi), .int no, .int wi, .ref by_, .int le, .int ki, .int pl, .int be, .int vr])) := (hfr rd (Or.inl hn_rd) n_rd_w).trans hc_rd
    have hc_rc : Mq12_ rc = some (.inr (4, [.ref rb, .ref rs, .ref rp, .int pm])) := (hfr rc (Or.inl hn_rc) n_rc_w).trans hc_rc
    have hc_mo : Mq12_ mo = some (.inr (8, [.ref al, .ref mt, .ref ii, .int ta, .int fpm, .ref pa, .int sm, .int nx, .int tk, .int plm, .int ln, .long va, .int wr, .ref li])) := (hfr mo (Or.inl hn_mo) n_mo_w).trans hc_mo
    have hc_al : Mq12_ al = some (.inl (kA 0, 7506, .inl F)) := (hfr al (Or.inl hn_al) n_al_w).trans hc_al
    have hc_ii : Mq12_ ii = some (.inl (kA 2, 3, .inl fi)) := (hfr ii (Or.inl hn_ii) n_ii_w).trans hc_ii
    have him : ImsOK kA Mq12_ T w gi ti := him.mv hn_w (fun q hA hw hk => hfr q hA hw)
    refine lv_pop hx hb dL_law_616 rfl ?_
    refine lv_aload_n hx hb dL_law_617 rfl (lv_at hl 1 rfl) ?_
    refine lv_aload_n hx hb dL_law_618 rfl (lv_at hl 3 rfl) ?_
    refine lv_iload_n hx hb dL_law_619 rfl (lv_at hl 0 rfl) ?_
    refine lv_iconst (v := 1) hx hb dL_law_620 (by decide) ?_
    refine lv_iadd hx hb dL_law_621 ?_
    refine lv_cst (v := zq1_) e_zq1_.symm ?_
    refine va_sld hx hb hX hbl hbA hH.2.1 (sIx hi0 hi6 h_zq1_ (by decide) (by decide)) dL_law_622 ?_
    refine lv_cst (v := vq2_) e_vq2_.symm ?_
    refine lv_aload_n hx hb dL_law_623 rfl (lv_at hl 3 rfl) ?_
    refine lv_iload_n hx hb dL_law_624 rfl (lv_at hl 0 rfl) ?_
    refine lv_iconst (v := 2) hx hb dL_law_625 (by decide) ?_
    refine lv_iadd hx hb dL_law_626 ?_
    refine lv_cst (v := zq3_) e_zq3_.symm ?_
    refine va_sld hx hb hX hbl hbA hH.2.1 (sIx hi0 hi6 h_zq3_ (by decide) (by decide)) dL_law_627 ?_
    refine lv_cst (v := vq4_) e_vq4_.symm ?_
    refine lv_aload_n hx hb dL_law_628 rfl (lv_at hl 3 rfl) ?_
    refine lv_iload_n hx hb dL_law_629 rfl (lv_at hl 0 rfl) ?_
    refine lv_iconst (v := 3) hx hb dL_law_630 (by decide) ?_
    refine lv_iadd hx hb dL_law_631 ?_
    refine lv_cst (v := zq5_) e_zq5_.symm ?_
    refine va_sld hx hb hX hbl hbA hH.2.1 (sIx hi0 hi6 h_zq5_ (by decide) (by decide)) dL_law_632 ?_
    refine lv_cst (v := vq6_) e_vq6_.symm ?_
    refine lv_aload_n hx hb dL_law_633 rfl (lv_at hl 3 rfl) ?_
    refine lv_iload_n hx hb dL_law_634 rfl (lv_at hl 0 rfl) ?_
    refine lv_iconst (v := 4) hx hb dL_law_635 (by decide) ?_
    refine lv_iadd hx hb dL_law_636 ?_
    refine lv_cst (v := zq7_) e_zq7_.symm ?_
    refine va_sld hx hb hX hbl hbA hH.2.1 (sIx hi0 hi6 h_zq7_ (by decide) (by decide)) dL_law_637 ?_
    refine lv_cst (v := vq8_) e_vq8_.symm ?_
    refine lv_aload_n hx hb dL_law_638 rfl (lv_at hl 3 rfl) ?_
    refine lv_iload_n hx hb dL_law_639 rfl (lv_at hl 0 rfl) ?_
    refine lv_iconst (v := 5) hx hb dL_law_640 (by decide) ?_
    refine lv_iadd hx hb dL_law_641 ?_
    refine lv_cst (v := zq9_) e_zq9_.symm ?_
    refine va_sld hx hb hX hbl hbA hH.2.1 (sIx hi0 hi6 h_zq9_ (by decide) (by decide)) dL_law_642 ?_
    refine lv_cst (v := vq10_) e_vq10_.symm ?_
    refine jif_eq (tgt := 650) hx hb dL_law_643 (by decide) (fun cq21_ => ?_) (fun cq21_ => absurd cq21_ (by have := iRg vq10_; have : (0 : Int32).toInt = 0 := rfl; omega))
    have cq21_ : vq10_.toInt = 0 := cq21_
    refine lv_iconst (v := 0) hx hb dL_law_650 (by decide) ?_
    have hO_rd := hc_rd
    have hO_rc := hc_rc
    have hO_mo := hc_mo
    have hO_al := hc_al
    have hO_ii := hc_ii
    have hO_im := hc_im
    refine goI hK hH (runV (As := [.int vq2_, .int vq4_, .int vq6_, .int vq8_, .int 0]) (rest := []) hC hK hH (c_X10_forge hc_mo hn_mo hc_al hn_al t_mt t_pa t_li (by exact hR_F)) mlL_66 (rcvM hK hH hc_mo rfl) ⟨⟨Nat.le_of_ble_eq_true rfl, Nat.le_of_ble_eq_true rfl⟩, lcA hcl, lcA hsl⟩ rfl hl.1 rfl (Nat.le_of_ble_eq_true rfl) dL_law_651) (fun rq24_ Mq22_ Tq23_ Hq_ lcq_ hP hz hH => ?_)
    try dsimp only at hP
    obtain ⟨gq25_, h_gq25_, (hx_al), eT, hfr⟩ := hP
    have eT := eT.symm; subst eT
    have hc_ro : Mq22_ ro = some (.inr (7, [.ref w, .ref im, .ref rd, .ref rc, .ref cu])) := (hfr ro (Or.inl hn_ro) n_ro_al).trans hc_ro
    have hc_w : Mq22_ w = some (.inr (6, [.int xq15_, .int xq16_, .int xq17_, .int xq18_, .int xq19_, .int xq20_, .int tl, .int fp, .ref cs, .ref bs, .ref tp])) := (hfr w (Or.inl hn_w) n_w_al).trans hc_w
    have hc_bs : Mq22_ bs = some (.inl (kA 5, 4, .inr (.inr (.inr (.inr g))))) := (hfr bs (Or.inr (Or.inl t_bs)) n_bs_al).trans hc_bs
    have hc_im : Mq22_ im = some (.inl (kA 6, 3, .inr (.inr (.inr (.inr gi))))) := (hfr im (Or.inl hn_im) n_im_al).trans hc_im
    have hc_rd : Mq22_ rd = some (.inr (3, [.ref nb, .ref (zv z vi), .int no, .int wi, .ref by_, .int le, .int ki, .int pl, .int be, .int vr])) := (hfr rd (Or.inl hn_rd) n_rd_al).trans hc_rd
    have hc_rc : Mq22_ rc = some (.inr (4, [.ref rb, .ref rs, .ref rp, .int pm])) := (hfr rc (Or.inl hn_rc) n_rc_al).trans hc_rc
    have hc_mo : Mq22_ mo = some (.inr (8, [.ref al, .ref mt, .ref ii, .int ta, .int fpm, .ref pa, .int sm, .int nx, .int tk, .int plm, .int ln, .long va, .int wr, .ref li])) := (hfr mo (Or.inl hn_mo) n_mo_al).trans hc_mo
    have hc_al : Mq22_ al = some (.inl (kA 0, 7506, .inl gq25_)) := hx_al
    have hc_ii : Mq22_ ii = some (.inl (kA 2, 3, .inl fi)) := (hfr ii (Or.inl hn_ii) n_ii_al).trans hc_ii
    have hR_gq25_ : Rng gq25_ := h_gq25_.1
    have hRI := hRI.ke (h_gq25_.2)
    have him : ImsOK kA Mq22_ T w gi ti := him.mv hn_w (fun q hA hw hk => hfr q (FrA.k hA) (fun z9 => by rw [z9] at hk; exact nWi (hk _ hO_al)))
    refine lv_pop hx hb dL_law_654 rfl ?_
    refine lv_goto (tgt := 1370) hx hb dL_law_655 (by decide) ?_
    exact kk _ _ _ _ ls _ _ ⟨w, im, rd, rc, cu, cs, bs, tp, nb, by_, vi, rb, rs, rp, al, mt, ii, pa, li, xq15_, xq16_, xq17_, xq18_, xq19_, xq20_, tl, fp, no, wi, le, ki, pl, be, vr, pm, ta, fpm, sm, nx, tk, plm, ln, wr, va, g, gi, ti, fi, gq25_, hc_ro, hc_w, hc_bs, hc_im, hc_rd, hc_rc, hc_mo, hc_al, hc_ii, hn_ro, hn_w, hn_im, hn_rd, hn_rc, hn_mo, hn_al, hn_ii, t_cu, t_cs, t_bs, t_tp, t_nb, t_rb, t_rs, t_rp, t_mt, t_pa, t_li, ⟨l_xq15_, g_xq15_⟩, ⟨l_xq17_, g_xq17_⟩, htl, hvi, hno, hwi, hpm, hta, hRT, hg, hg3, him, hR_gq25_, hRI⟩ hH (lv_sub hl [0, 1, 2, 3] rfl) (Nat.le_add_right _ _) (Nat.le_add_right _ _)
  · skip
    have cq11_ : vq10_.toInt ≠ 0 := cq11_
    refine lv_iconst (v := 1) hx hb dL_law_608 (by decide) ?_
    refine lv_goto (tgt := 613) hx hb dL_law_609 (by decide) ?_
    have hO_rd := hc_rd
    have hO_rc := hc_rc
    have hO_mo := hc_mo
    have hO_al := hc_al
    have hO_ii := hc_ii
    have hO_im := hc_im
    refine goI hK hH (runV (As := [.int vq2_, .int vq4_, .int vq6_, .int vq8_, .int 1]) (rest := []) hC hK hH (c_X9_forge hc_ro hn_ro hc_w hn_w hc_bs t_cs t_bs t_tp (by exact htd) (by exact hbc) (by exact htl) (by decide) hg) mlL_63 (rcvM hK hH hc_ro rfl) ⟨⟨Nat.le_of_ble_eq_true rfl, Nat.le_of_ble_eq_true rfl⟩, lcA hcl, lcA hsl⟩ rfl hl.1 rfl (Nat.le_of_ble_eq_true rfl) dL_law_613) (fun rq28_ Mq26_ Tq27_ Hq_ lcq_ hP hz hH => ?_)
    try dsimp only at hP
    obtain ⟨xq29_, ⟨l_xq29_, g_xq29_⟩, xq30_, ⟨l_xq30_, g_xq30_⟩, xq31_, ⟨l_xq31_, g_xq31_⟩, xq32_, ⟨l_xq32_, g_xq32_⟩, xq33_, ⟨l_xq33_, g_xq33_⟩, xq34_, ⟨l_xq34_, g_xq34_⟩, (hx_w), eT, hfr⟩ := hP
    have eT := eT.symm; subst eT
    have hc_ro : Mq26_ ro = some (.inr (7, [.ref w, .ref im, .ref rd, .ref rc, .ref cu])) := (hfr ro (Or.inl hn_ro) n_ro_w).trans hc_ro
    have hc_w : Mq26_ w = some (.inr (6, [.int xq29_, .int xq30_, .int xq31_, .int xq32_, .int xq33_, .int xq34_, .int tl, .int fp, .ref cs, .ref bs, .ref tp])) := hx_w
    have hc_bs : Mq26_ bs = some (.inl (kA 5, 4, .inr (.inr (.inr (.inr g))))) := (hfr bs (Or.inr t_bs) n_bs_w).trans hc_bs
    have hc_im : Mq26_ im = some (.inl (kA 6, 3, .inr (.inr (.inr (.inr gi))))) := (hfr im (Or.inl hn_im) n_im_w).trans hc_im
    have hc_rd : Mq26_ rd = some (.inr (3, [.ref nb, .ref (zv z vi), .int no, .int wi, .ref by_, .int le, .int ki, .int pl, .int be, .int vr])) := (hfr rd (Or.inl hn_rd) n_rd_w).trans hc_rd
    have hc_rc : Mq26_ rc = some (.inr (4, [.ref rb, .ref rs, .ref rp, .int pm])) := (hfr rc (Or.inl hn_rc) n_rc_w).trans hc_rc
    have hc_mo : Mq26_ mo = some (.inr (8, [.ref al, .ref mt, .ref ii, .int ta, .int fpm, .ref pa, .int sm, .int nx, .int tk, .int plm, .int ln, .long va, .int wr, .ref li])) := (hfr mo (Or.inl hn_mo) n_mo_w).trans hc_mo
    have hc_al : Mq26_ al = some (.inl (kA 0, 7506, .inl F)) := (hfr al (Or.inl hn_al) n_al_w).trans hc_al
    have hc_ii : Mq26_ ii = some (.inl (kA 2, 3, .inl fi)) := (hfr ii (Or.inl hn_ii) n_ii_w).trans hc_ii
    have him : ImsOK kA Mq26_ T w gi ti := him.mv hn_w (fun q hA hw hk => hfr q hA hw)
    refine lv_pop hx hb dL_law_616 rfl ?_
    refine lv_aload_n hx hb dL_law_617 rfl (lv_at hl 1 rfl) ?_
    refine lv_aload_n hx hb dL_law_618 rfl (lv_at hl 3 rfl) ?_
    refine lv_iload_n hx hb dL_law_619 rfl (lv_at hl 0 rfl) ?_
    refine lv_iconst (v := 1) hx hb dL_law_620 (by decide) ?_
    refine lv_iadd hx hb dL_law_621 ?_
    refine lv_cst (v := zq1_) e_zq1_.symm ?_
    refine va_sld hx hb hX hbl hbA hH.2.1 (sIx hi0 hi6 h_zq1_ (by decide) (by decide)) dL_law_622 ?_
    refine lv_cst (v := vq2_) e_vq2_.symm ?_
    refine lv_aload_n hx hb dL_law_623 rfl (lv_at hl 3 rfl) ?_
    refine lv_iload_n hx hb dL_law_624 rfl (lv_at hl 0 rfl) ?_
    refine lv_iconst (v := 2) hx hb dL_law_625 (by decide) ?_
    refine lv_iadd hx hb dL_law_626 ?_
    refine lv_cst (v := zq3_) e_zq3_.symm ?_
    refine va_sld hx hb hX hbl hbA hH.2.1 (sIx hi0 hi6 h_zq3_ (by decide) (by decide)) dL_law_627 ?_
    refine lv_cst (v := vq4_) e_vq4_.symm ?_
    refine lv_aload_n hx hb dL_law_628 rfl (lv_at hl 3 rfl) ?_
    refine lv_iload_n hx hb dL_law_629 rfl (lv_at hl 0 rfl) ?_
    refine lv_iconst (v := 3) hx hb dL_law_630 (by decide) ?_
    refine lv_iadd hx hb dL_law_631 ?_
    refine lv_cst (v := zq5_) e_zq5_.symm ?_
    refine va_sld hx hb hX hbl hbA hH.2.1 (sIx hi0 hi6 h_zq5_ (by decide) (by decide)) dL_law_632 ?_
    refine lv_cst (v := vq6_) e_vq6_.symm ?_
    refine lv_aload_n hx hb dL_law_633 rfl (lv_at hl 3 rfl) ?_
    refine lv_iload_n hx hb dL_law_634 rfl (lv_at hl 0 rfl) ?_
    refine lv_iconst (v := 4) hx hb dL_law_635 (by decide) ?_
    refine lv_iadd hx hb dL_law_636 ?_
    refine lv_cst (v := zq7_) e_zq7_.symm ?_
    refine va_sld hx hb hX hbl hbA hH.2.1 (sIx hi0 hi6 h_zq7_ (by decide) (by decide)) dL_law_637 ?_
    refine lv_cst (v := vq8_) e_vq8_.symm ?_
    refine lv_aload_n hx hb dL_law_638 rfl (lv_at hl 3 rfl) ?_
    refine lv_iload_n hx hb dL_law_639 rfl (lv_at hl 0 rfl) ?_
    refine lv_iconst (v := 5) hx hb dL_law_640 (by decide) ?_
    refine lv_iadd hx hb dL_law_641 ?_
    refine lv_cst (v := zq9_) e_zq9_.symm ?_
    refine va_sld hx hb hX hbl hbA hH.2.1 (sIx hi0 hi6 h_zq9_ (by decide) (by decide)) dL_law_642 ?_
    refine lv_cst (v := vq10_) e_vq10_.symm ?_
    refine jif_eq (tgt := 650) hx hb dL_law_643 (by decide) (fun cq35_ => ?_) (fun cq35_ => ?_)
    · skip
      have cq35_ : vq10_.toInt = 0 := cq35_
      refine lv_iconst (v := 0) hx hb dL_law_650 (by decide) ?_
      have hO_rd := hc_rd
      have hO_rc := hc_rc
      have hO_mo := hc_mo
      have hO_al := hc_al
      have hO_ii := hc_ii
      have hO_im := hc_im
      refine goI hK hH (runV (As := [.int vq2_, .int vq4_, .int vq6_, .int vq8_, .int 0]) (rest := []) hC hK hH (c_X10_forge hc_mo hn_mo hc_al hn_al t_mt t_pa t_li (by exact hR_F)) mlL_66 (rcvM hK hH hc_mo rfl) ⟨⟨Nat.le_of_ble_eq_true rfl, Nat.le_of_ble_eq_true rfl⟩, lcA hcl, lcA hsl⟩ rfl hl.1 rfl (Nat.le_of_ble_eq_true rfl) dL_law_651) (fun rq38_ Mq36_ Tq37_ Hq_ lcq_ hP hz hH => ?_)
      try dsimp only at hP
      obtain ⟨gq39_, h_gq39_, (hx_al), eT, hfr⟩ := hP
      have eT := eT.symm; subst eT
      have hc_ro : Mq36_ ro = some (.inr (7, [.ref w, .ref im, .ref rd, .ref rc, .ref cu])) := (hfr ro (Or.inl hn_ro) n_ro_al).trans hc_ro
      have hc_w : Mq36_ w = some (.inr (6, [.int xq29_, .int xq30_, .int xq31_, .int xq32_, .int xq33_, .int xq34_, .int tl, .int fp, .ref cs, .ref bs, .ref tp])) := (hfr w (Or.inl hn_w) n_w_al).trans hc_w
      have hc_bs : Mq36_ bs = some (.inl (kA 5, 4, .inr (.inr (.inr (.inr g))))) := (hfr bs (Or.inr (Or.inl t_bs)) n_bs_al).trans hc_bs
      have hc_im : Mq36_ im = some (.inl (kA 6, 3, .inr (.inr (.inr (.inr gi))))) := (hfr im (Or.inl hn_im) n_im_al).trans hc_im
      have hc_rd : Mq36_ rd = some (.inr (3, [.ref nb, .ref (zv z vi), .int no, .int wi, .ref by_, .int le, .int ki, .int pl, .int be, .int vr])) := (hfr rd (Or.inl hn_rd) n_rd_al).trans hc_rd
      have hc_rc : Mq36_ rc = some (.inr (4, [.ref rb, .ref rs, .ref rp, .int pm])) := (hfr rc (Or.inl hn_rc) n_rc_al).trans hc_rc
      have hc_mo : Mq36_ mo = some (.inr (8, [.ref al, .ref mt, .ref ii, .int ta, .int fpm, .ref pa, .int sm, .int nx, .int tk, .int plm, .int ln, .long va, .int wr, .ref li])) := (hfr mo (Or.inl hn_mo) n_mo_al).trans hc_mo
      have hc_al : Mq36_ al = some (.inl (kA 0, 7506, .inl gq39_)) := hx_al
      have hc_ii : Mq36_ ii = some (.inl (kA 2, 3, .inl fi)) := (hfr ii (Or.inl hn_ii) n_ii_al).trans hc_ii
      have hR_gq39_ : Rng gq39_ := h_gq39_.1
      have hRI := hRI.ke (h_gq39_.2)
      have him : ImsOK kA Mq36_ T w gi ti := him.mv hn_w (fun q hA hw hk => hfr q (FrA.k hA) (fun z9 => by rw [z9] at hk; exact nWi (hk _ hO_al)))
      refine lv_pop hx hb dL_law_654 rfl ?_
      refine lv_goto (tgt := 1370) hx hb dL_law_655 (by decide) ?_
      exact kk _ _ _ _ ls _ _ ⟨w, im, rd, rc, cu, cs, bs, tp, nb, by_, vi, rb, rs, rp, al, mt, ii, pa, li, xq29_, xq30_, xq31_, xq32_, xq33_, xq34_, tl, fp, no, wi, le, ki, pl, be, vr, pm, ta, fpm, sm, nx, tk, plm, ln, wr, va, g, gi, ti, fi, gq39_, hc_ro, hc_w, hc_bs, hc_im, hc_rd, hc_rc, hc_mo, hc_al, hc_ii, hn_ro, hn_w, hn_im, hn_rd, hn_rc, hn_mo, hn_al, hn_ii, t_cu, t_cs, t_bs, t_tp, t_nb, t_rb, t_rs, t_rp, t_mt, t_pa, t_li, ⟨l_xq29_, g_xq29_⟩, ⟨l_xq31_, g_xq31_⟩, htl, hvi, hno, hwi, hpm, hta, hRT, hg, hg3, him, hR_gq39_, hRI⟩ hH (lv_sub hl [0, 1, 2, 3] rfl) (Nat.le_add_right _ _) (Nat.le_add_right _ _)
    · skip
      have cq35_ : vq10_.toInt ≠ 0 := cq35_
      refine lv_iconst (v := 1) hx hb dL_law_646 (by decide) ?_
      refine lv_goto (tgt := 651) hx hb dL_law_647 (by decide) ?_
      have hO_rd := hc_rd
      have hO_rc := hc_rc
      have hO_mo := hc_mo
      have hO_al := hc_al
      have hO_ii := hc_ii
      have hO_im := hc_im
      refine goI hK hH (runV (As := [.int vq2_, .int vq4_, .int vq6_, .int vq8_, .int 1]) (rest := []) hC hK hH (c_X10_forge hc_mo hn_mo hc_al hn_al t_mt t_pa t_li (by exact hR_F)) mlL_66 (rcvM hK hH hc_mo rfl) ⟨⟨Nat.le_of_ble_eq_true rfl, Nat.le_of_ble_eq_true rfl⟩, lcA hcl, lcA hsl⟩ rfl hl.1 rfl (Nat.le_of_ble_eq_true rfl) dL_law_651) (fun rq42_ Mq40_ Tq41_ Hq_ lcq_ hP hz hH => ?_)
      try dsimp only at hP
      obtain ⟨gq43_, h_gq43_, (hx_al), eT, hfr⟩ := hP
      have eT := eT.symm; subst eT
      have hc_ro : Mq40_ ro = some (.inr (7, [.ref w, .ref im, .ref rd, .ref rc, .ref cu])) := (hfr ro (Or.inl hn_ro) n_ro_al).trans hc_ro
      have hc_w : Mq40_ w = some (.inr (6, [.int xq29_, .int xq30_, .int xq31_, .int xq32_, .int xq33_, .int xq34_, .int tl, .int fp, .ref cs, .ref bs, .ref tp])) := (hfr w (Or.inl hn_w) n_w_al).trans hc_w
      have hc_bs : Mq40_ bs = some (.inl (kA 5, 4, .inr (.inr (.inr (.inr g))))) := (hfr bs (Or.inr (Or.inl t_bs)) n_bs_al).trans hc_bs
      have hc_im : Mq40_ im = some (.inl (kA 6, 3, .inr (.inr (.inr (.inr gi))))) := (hfr im (Or.inl hn_im) n_im_al).trans hc_im
      have hc_rd : Mq40_ rd = some (.inr (3, [.ref nb, .ref (zv z vi), .int no, .int wi, .ref by_, .int le, .int ki, .int pl, .int be, .int vr])) := (hfr rd (Or.inl hn_rd) n_rd_al).trans hc_rd
      have hc_rc : Mq40_ rc = some (.inr (4, [.ref rb, .ref rs, .ref rp, .int pm])) := (hfr rc (Or.inl hn_rc) n_rc_al).trans hc_rc
      have hc_mo : Mq40_ mo = some (.inr (8, [.ref al, .ref mt, .ref ii, .int ta, .int fpm, .ref pa, .int sm, .int nx, .int tk, .int plm, .int ln, .long va, .int wr, .ref li])) := (hfr mo (Or.inl hn_mo) n_mo_al).trans hc_mo
      have hc_al : Mq40_ al = some (.inl (kA 0, 7506, .inl gq43_)) := hx_al
      have hc_ii : Mq40_ ii = some (.inl (kA 2, 3, .inl fi)) := (hfr ii (Or.inl hn_ii) n_ii_al).trans hc_ii
      have hR_gq43_ : Rng gq43_ := h_gq43_.1
      have hRI := hRI.ke (h_gq43_.2)
      have him : ImsOK kA Mq40_ T w gi ti := him.mv hn_w (fun q hA hw hk => hfr q (FrA.k hA) (fun z9 => by rw [z9] at hk; exact nWi (hk _ hO_al)))
      refine lv_pop hx hb dL_law_654 rfl ?_
      refine lv_goto (tgt := 1370) hx hb dL_law_655 (by decide) ?_
      exact kk _ _ _ _ ls _ _ ⟨w, im, rd, rc, cu, cs, bs, tp, nb, by_, vi, rb, rs, rp, al, mt, ii, pa, li, xq29_, xq30_, xq31_, xq32_, xq33_, xq34_, tl, fp, no, wi, le, ki, pl, be, vr, pm, ta, fpm, sm, nx, tk, plm, ln, wr, va, g, gi, ti, fi, gq43_, hc_ro, hc_w, hc_bs, hc_im, hc_rd, hc_rc, hc_mo, hc_al, hc_ii, hn_ro, hn_w, hn_im, hn_rd, hn_rc, hn_mo, hn_al, hn_ii, t_cu, t_cs, t_bs, t_tp, t_nb, t_rb, t_rs, t_rp, t_mt, t_pa, t_li, ⟨l_xq29_, g_xq29_⟩, ⟨l_xq31_, g_xq31_⟩, htl, hvi, hno, hwi, hpm, hta, hRT, hg, hg3, him, hR_gq43_, hRI⟩ hH (lv_sub hl [0, 1, 2, 3] rfl) (Nat.le_add_right _ _) (Nat.le_add_right _ _)
