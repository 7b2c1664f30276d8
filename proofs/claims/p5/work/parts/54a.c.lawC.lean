set_option maxHeartbeats 4000000 in
set_option maxRecDepth 100000 in
theorem law_case_0 {p : Program} {e : Env} {s : State} {m : MethodId} {below : List Frame} {meth : Method} {c : Code} {l : Launch} {b L : Nat} {xs : Nat → Int32} (C0 : lw_At p s m meth c b L xs) (hL : L ≤ 3072) {z : zD} {D : va_G} {kA : Nat → ClassId} (hK : mK D kA s) {M : mM} {T : mT} {A : Nat → Prop} (hAq : ∀ q, A q → s.heap.size ≤ q) (hZ : zB z A s) {Hq_ : Heap} {lcq_ : List Loc} {ls : Array Slot} {ro mo : Nat} {i : Int32} {cells slots : Nat} {w im rd rc cu cs bs tp nb by_ vi rb rs rp al mt ii pa li : Nat} {td gd bc py rf lt tl fp no wi le ki pl be vr pm ta fpm sm nx tk plm ln wr : Int32} {va : Int64} {g gi : Nat → Option Nat} {ai : Nat → Nat} {ti pi fi F fb ft : Nat → Int32} {bi : Nat → Nat → Int} (hc_ro : M ro = some (.inr (7, [.ref w, .ref im, .ref rd, .ref rc, .ref cu]))) (hc_w : M w = some (.inr (6, [.int td, .int gd, .int bc, .int py, .int rf, .int lt, .int tl, .int fp, .ref cs, .ref bs, .ref tp]))) (hc_bs : M bs = some (.inl (kA 5, 4, .inr (.inr (.inr (.inr g)))))) (hc_tp : M tp = some (.inl (kA 1, 600, .inl fb))) (hc_im : M im = some (.inl (kA 6, 3, .inr (.inr (.inr (.inr gi)))))) (hc_rd : M rd = some (.inr (3, [.ref nb, .ref (zv z vi), .int no, .int wi, .ref by_, .int le, .int ki, .int pl, .int be, .int vr]))) (hc_rc : M rc = some (.inr (4, [.ref rb, .ref rs, .ref rp, .int pm]))) (hc_mo : M mo = some (.inr (8, [.ref al, .ref mt, .ref ii, .int ta, .int fpm, .ref pa, .int sm, .int nx, .int tk, .int plm, .int ln, .long va, .int wr, .ref li]))) (hc_al : M al = some (.inl (kA 0, 7506, .inl F))) (hc_mt : M mt = some (.inl (kA 0, 600, .inl ft))) (hc_ii : M ii = some (.inl (kA 2, 3, .inl fi))) (hn_ro : T ro = none) (hn_w : T w = none) (hn_tp : T tp = none) (hn_im : T im = none) (hn_rd : T rd = none) (hn_rc : T rc = none) (hn_mo : T mo = none) (hn_al : T al = none) (hn_mt : T mt = none) (hn_ii : T ii = none) (t_cu : T cu = some 9) (t_cs : T cs = some 3) (t_bs : T bs = some 6) (t_nb : T nb = some 12) (t_rb : T rb = some 2) (t_rs : T rs = some 3) (t_rp : T rp = some 5) (t_pa : T pa = some 13) (t_li : T li = some 14) (htd : 0 ≤ td.toInt ∧ td.toInt ≤ 999) (hbc : 0 ≤ bc.toInt ∧ bc.toInt ≤ 4) (htl : 0 ≤ tl.toInt ∧ tl.toInt ≤ 600) (hvi : vi < 19) (hno : 0 ≤ no.toInt ∧ no.toInt ≤ 1) (hwi : 0 ≤ wi.toInt ∧ wi.toInt ≤ 1) (hpm : 0 ≤ pm.toInt ∧ pm.toInt ≤ 14) (hta : 0 ≤ ta.toInt ∧ ta.toInt ≤ 600) (hRT : ta.toInt = tl.toInt) (hFQ : fpm.toInt = fp.toInt) (hby : Byt fb) (hTX : nC ft = nC fb) (hnn : NN ft) (hg : ∀ j, j < 4 → ∃ q, g j = some q ∧ T q = some 2) (hg3 : ∀ j, 3 ≤ j → gi j = none) (him : ImsOK kA M T w tp gi ai ti pi bi) (hR_F : Rng F) (hRI : RelI gi ti pi bi fi F) (n_ro_w : ro ≠ w) (n_w_ro : w ≠ ro) (n_ro_bs : ro ≠ bs) (n_bs_ro : bs ≠ ro) (n_ro_tp : ro ≠ tp) (n_tp_ro : tp ≠ ro) (n_ro_im : ro ≠ im) (n_im_ro : im ≠ ro) (n_ro_rd : ro ≠ rd) (n_rd_ro : rd ≠ ro) (n_ro_rc : ro ≠ rc) (n_rc_ro : rc ≠ ro) (n_ro_mo : ro ≠ mo) (n_mo_ro : mo ≠ ro) (n_ro_al : ro ≠ al) (n_al_ro : al ≠ ro) (n_ro_mt : ro ≠ mt) (n_mt_ro : mt ≠ ro) (n_ro_ii : ro ≠ ii) (n_ii_ro : ii ≠ ro) (n_w_bs : w ≠ bs) (n_bs_w : bs ≠ w) (n_w_tp : w ≠ tp) (n_tp_w : tp ≠ w) (n_w_im : w ≠ im) (n_im_w : im ≠ w) (n_w_rd : w ≠ rd) (n_rd_w : rd ≠ w) (n_w_rc : w ≠ rc) (n_rc_w : rc ≠ w) (n_w_mo : w ≠ mo) (n_mo_w : mo ≠ w) (n_w_al : w ≠ al) (n_al_w : al ≠ w) (n_w_mt : w ≠ mt) (n_mt_w : mt ≠ w) (n_w_ii : w ≠ ii) (n_ii_w : ii ≠ w) (n_bs_tp : bs ≠ tp) (n_tp_bs : tp ≠ bs) (n_bs_im : bs ≠ im) (n_im_bs : im ≠ bs) (n_bs_rd : bs ≠ rd) (n_rd_bs : rd ≠ bs) (n_bs_rc : bs ≠ rc) (n_rc_bs : rc ≠ bs) (n_bs_mo : bs ≠ mo) (n_mo_bs : mo ≠ bs) (n_bs_al : bs ≠ al) (n_al_bs : al ≠ bs) (n_bs_mt : bs ≠ mt) (n_mt_bs : mt ≠ bs) (n_bs_ii : bs ≠ ii) (n_ii_bs : ii ≠ bs) (n_tp_im : tp ≠ im) (n_im_tp : im ≠ tp) (n_tp_rd : tp ≠ rd) (n_rd_tp : rd ≠ tp) (n_tp_rc : tp ≠ rc) (n_rc_tp : rc ≠ tp) (n_tp_mo : tp ≠ mo) (n_mo_tp : mo ≠ tp) (n_tp_al : tp ≠ al) (n_al_tp : al ≠ tp) (n_tp_mt : tp ≠ mt) (n_mt_tp : mt ≠ tp) (n_tp_ii : tp ≠ ii) (n_ii_tp : ii ≠ tp) (n_im_rd : im ≠ rd) (n_rd_im : rd ≠ im) (n_im_rc : im ≠ rc) (n_rc_im : rc ≠ im) (n_im_mo : im ≠ mo) (n_mo_im : mo ≠ im) (n_im_al : im ≠ al) (n_al_im : al ≠ im) (n_im_mt : im ≠ mt) (n_mt_im : mt ≠ im) (n_im_ii : im ≠ ii) (n_ii_im : ii ≠ im) (n_rd_rc : rd ≠ rc) (n_rc_rd : rc ≠ rd) (n_rd_mo : rd ≠ mo) (n_mo_rd : mo ≠ rd) (n_rd_al : rd ≠ al) (n_al_rd : al ≠ rd) (n_rd_mt : rd ≠ mt) (n_mt_rd : mt ≠ rd) (n_rd_ii : rd ≠ ii) (n_ii_rd : ii ≠ rd) (n_rc_mo : rc ≠ mo) (n_mo_rc : mo ≠ rc) (n_rc_al : rc ≠ al) (n_al_rc : al ≠ rc) (n_rc_mt : rc ≠ mt) (n_mt_rc : mt ≠ rc) (n_rc_ii : rc ≠ ii) (n_ii_rc : ii ≠ rc) (n_mo_al : mo ≠ al) (n_al_mo : al ≠ mo) (n_mo_mt : mo ≠ mt) (n_mt_mo : mt ≠ mo) (n_mo_ii : mo ≠ ii) (n_ii_mo : ii ≠ mo) (n_al_mt : al ≠ mt) (n_mt_al : mt ≠ al) (n_al_ii : al ≠ ii) (n_ii_al : ii ≠ al) (n_mt_ii : mt ≠ ii) (n_ii_mt : ii ≠ mt) (hi0 : 0 ≤ i.toInt) (hi6 : i.toInt + 6 ≤ (L : Int)) (hcl : cells + 92 ≤ 600000) (hsl : slots + 1627 ≤ 7302250) (hH : mS D kA M T A s.heap Hq_ lcq_) (hl : lv_has ls 4 [(3, .int i), (2, .ref mo), (1, .ref ro), (0, .ref b)]) (kk : ∀ (M1 : mM) (T1 : mT) (H1 : Heap) (locs1 : List Loc) (ls1 : Array Slot) (cl1 sl1 : Nat), LI z kA M1 T1 ro mo → mS D kA M1 T1 A s.heap H1 locs1 → lv_has ls1 4 [(3, .int i), (2, .ref mo), (1, .ref ro), (0, .ref b)] → cl1 ≤ cells + 92 → sl1 ≤ slots + 1627 → W p l e room_1 s m #[Value.ref b] below meth c H1 locs1 cl1 sl1 (lw_Z below #[Value.ref b] s) (F0 m 1370 ls1 [])) : W p l e room_1 s m #[Value.ref b] below meth c Hq_ lcq_ cells slots (lw_Z below #[Value.ref b] s) (F0 m 184 ls []) := by
  obtain ⟨hx, hb, hr, hml, hown, hts, hX, hbl, hlocks, hgv⟩ := id C0
  have hC : CallFix p m c cL_law 4 s #[Value.ref b] TB RL := ⟨hx, hb, hml, hown, fun w h => hts w (TB_in h)⟩
  have hbA : ¬ A b := fun h => absurd (hAq b h) (Nat.not_le.mpr hbl)
  refine lv_aload_n hx hb dL_law_184 rfl (lv_at hl 2 rfl) ?_
  refine lv_aload_n hx hb dL_law_185 rfl (lv_at hl 3 rfl) ?_
  refine lv_iload_n hx hb dL_law_186 rfl (lv_at hl 0 rfl) ?_
  refine lv_iconst (v := 1) hx hb dL_law_187 (by decide) ?_
  refine lv_iadd hx hb dL_law_188 ?_
  refine lv_topi (fun zq1_ e_zq1_ => ?_)
  have h_zq1_ : zq1_.toInt = i.toInt + (1 : Int32).toInt := sIa hi0 hi6 hL e_zq1_ (by decide) (by decide)
  refine va_sld hx hb hX hbl hbA hH.2.1 (sIx hi0 hi6 h_zq1_ (by decide) (by decide)) dL_law_189 ?_
  refine lv_topi (fun vq2_ e_vq2_ => ?_)
  refine lv_aload_n hx hb dL_law_190 rfl (lv_at hl 3 rfl) ?_
  refine lv_iload_n hx hb dL_law_191 rfl (lv_at hl 0 rfl) ?_
  refine lv_iconst (v := 2) hx hb dL_law_192 (by decide) ?_
  refine lv_iadd hx hb dL_law_193 ?_
  refine lv_topi (fun zq3_ e_zq3_ => ?_)
  have h_zq3_ : zq3_.toInt = i.toInt + (2 : Int32).toInt := sIa hi0 hi6 hL e_zq3_ (by decide) (by decide)
  refine va_sld hx hb hX hbl hbA hH.2.1 (sIx hi0 hi6 h_zq3_ (by decide) (by decide)) dL_law_194 ?_
  refine lv_topi (fun vq4_ e_vq4_ => ?_)
  refine lv_aload_n hx hb dL_law_195 rfl (lv_at hl 3 rfl) ?_
  refine lv_iload_n hx hb dL_law_196 rfl (lv_at hl 0 rfl) ?_
  refine lv_iconst (v := 3) hx hb dL_law_197 (by decide) ?_
  refine lv_iadd hx hb dL_law_198 ?_
  refine lv_topi (fun zq5_ e_zq5_ => ?_)
  have h_zq5_ : zq5_.toInt = i.toInt + (3 : Int32).toInt := sIa hi0 hi6 hL e_zq5_ (by decide) (by decide)
  refine va_sld hx hb hX hbl hbA hH.2.1 (sIx hi0 hi6 h_zq5_ (by decide) (by decide)) dL_law_199 ?_
  refine lv_topi (fun vq6_ e_vq6_ => ?_)
  refine lv_aload_n hx hb dL_law_200 rfl (lv_at hl 3 rfl) ?_
  refine lv_iload_n hx hb dL_law_201 rfl (lv_at hl 0 rfl) ?_
  refine lv_iconst (v := 4) hx hb dL_law_202 (by decide) ?_
  refine lv_iadd hx hb dL_law_203 ?_
  refine lv_topi (fun zq7_ e_zq7_ => ?_)
  have h_zq7_ : zq7_.toInt = i.toInt + (4 : Int32).toInt := sIa hi0 hi6 hL e_zq7_ (by decide) (by decide)
  refine va_sld hx hb hX hbl hbA hH.2.1 (sIx hi0 hi6 h_zq7_ (by decide) (by decide)) dL_law_204 ?_
  refine lv_topi (fun vq8_ e_vq8_ => ?_)
  refine lv_aload_n hx hb dL_law_205 rfl (lv_at hl 3 rfl) ?_
  refine lv_iload_n hx hb dL_law_206 rfl (lv_at hl 0 rfl) ?_
  refine lv_iconst (v := 5) hx hb dL_law_207 (by decide) ?_
  refine lv_iadd hx hb dL_law_208 ?_
  refine lv_topi (fun zq9_ e_zq9_ => ?_)
  have h_zq9_ : zq9_.toInt = i.toInt + (5 : Int32).toInt := sIa hi0 hi6 hL e_zq9_ (by decide) (by decide)
  refine va_sld hx hb hX hbl hbA hH.2.1 (sIx hi0 hi6 h_zq9_ (by decide) (by decide)) dL_law_209 ?_
  refine lv_topi (fun vq10_ e_vq10_ => ?_)
  have hO_rd := hc_rd
  have hO_rc := hc_rc
  have hO_mo := hc_mo
  have hO_al := hc_al
  have hO_ii := hc_ii
  have hO_im := hc_im
  have hO_mt := hc_mt
  refine goI hK hH (runV (As := [.int vq2_, .int vq4_, .int vq6_, .int vq8_, .int vq10_]) (rest := []) hC hK hH (c_X9_feed hc_ro hn_ro hc_w hn_w hc_bs hc_tp hn_tp t_cs t_bs (by exact htd) (by exact hbc) (by exact htl) (by exact hby) hg) mlL_13 (rcvM hK hH hc_ro rfl) ⟨⟨Nat.le_of_ble_eq_true rfl, Nat.le_of_ble_eq_true rfl⟩, lcA hcl, lcA hsl⟩ rfl hl.1 rfl (Nat.le_of_ble_eq_true rfl) dL_law_210) (fun rq13_ Mq11_ Tq12_ Hq_ lcq_ hP hz hH => ?_)
  try dsimp only at hP
  obtain ⟨gq17_, h_gq17_, xq16_, ⟨l_xq16_, g_xq16_⟩, (⟨cq14_, hx_w, hx_tp⟩ | ⟨cq15_, hx_w, hx_tp⟩), eT, hfr⟩ := hP
  · skip
    have eT := eT.symm; subst eT
    have hc_ro : Mq11_ ro = some (.inr (7, [.ref w, .ref im, .ref rd, .ref rc, .ref cu])) := (hfr ro (Or.inl hn_ro) n_ro_w n_ro_tp).trans hc_ro
    have hc_w : Mq11_ w = some (.inr (6, [.int td, .int gd, .int bc, .int py, .int rf, .int lt, .int xq16_, .int fp, .ref cs, .ref bs, .ref tp])) := hx_w
    have hc_bs : Mq11_ bs = some (.inl (kA 5, 4, .inr (.inr (.inr (.inr g))))) := (hfr bs (Or.inr (Or.inl t_bs)) n_bs_w n_bs_tp).trans hc_bs
    have hc_tp : Mq11_ tp = some (.inl (kA 1, 600, .inl gq17_)) := hx_tp
    have hc_im : Mq11_ im = some (.inl (kA 6, 3, .inr (.inr (.inr (.inr gi))))) := (hfr im (Or.inl hn_im) n_im_w n_im_tp).trans hc_im
    have hc_rd : Mq11_ rd = some (.inr (3, [.ref nb, .ref (zv z vi), .int no, .int wi, .ref by_, .int le, .int ki, .int pl, .int be, .int vr])) := (hfr rd (Or.inl hn_rd) n_rd_w n_rd_tp).trans hc_rd
    have hc_rc : Mq11_ rc = some (.inr (4, [.ref rb, .ref rs, .ref rp, .int pm])) := (hfr rc (Or.inl hn_rc) n_rc_w n_rc_tp).trans hc_rc
    have hc_mo : Mq11_ mo = some (.inr (8, [.ref al, .ref mt, .ref ii, .int ta, .int fpm, .ref pa, .int sm, .int nx, .int tk, .int plm, .int ln, .long va, .int wr, .ref li])) := (hfr mo (Or.inl hn_mo) n_mo_w n_mo_tp).trans hc_mo
    have hc_al : Mq11_ al = some (.inl (kA 0, 7506, .inl F)) := (hfr al (Or.inl hn_al) n_al_w n_al_tp).trans hc_al
    have hc_mt : Mq11_ mt = some (.inl (kA 0, 600, .inl ft)) := (hfr mt (Or.inl hn_mt) n_mt_w n_mt_tp).trans hc_mt
    have hc_ii : Mq11_ ii = some (.inl (kA 2, 3, .inl fi)) := (hfr ii (Or.inl hn_ii) n_ii_w n_ii_tp).trans hc_ii
    have cq14_ : tl.toInt ≤ 580 ∧ rq13_.toInt = tl.toInt + 20 ∧ xq16_.toInt = tl.toInt + 20 ∧ nC gq17_ = fdK (nC fb) tl.toInt.toNat vq2_ vq4_ vq6_ vq8_ vq10_ 20 := cq14_
    have him : ImsOK kA Mq11_ T w tp gi ai ti pi bi := him.mv hn_w hn_tp (fun q hA hw hp hk => hfr q (FrA.k hA) hw hp)
    refine lv_pop hx hb dL_law_213 rfl ?_
    refine lv_aload_n hx hb dL_law_214 rfl (lv_at hl 1 rfl) ?_
    refine lv_aload_n hx hb dL_law_215 rfl (lv_at hl 3 rfl) ?_
    refine lv_iload_n hx hb dL_law_216 rfl (lv_at hl 0 rfl) ?_
    refine lv_iconst (v := 1) hx hb dL_law_217 (by decide) ?_
    refine lv_iadd hx hb dL_law_218 ?_
    refine lv_cst (v := zq1_) e_zq1_.symm ?_
    refine va_sld hx hb hX hbl hbA hH.2.1 (sIx hi0 hi6 h_zq1_ (by decide) (by decide)) dL_law_219 ?_
    refine lv_cst (v := vq2_) e_vq2_.symm ?_
    refine lv_aload_n hx hb dL_law_220 rfl (lv_at hl 3 rfl) ?_
    refine lv_iload_n hx hb dL_law_221 rfl (lv_at hl 0 rfl) ?_
    refine lv_iconst (v := 2) hx hb dL_law_222 (by decide) ?_
    refine lv_iadd hx hb dL_law_223 ?_
    refine lv_cst (v := zq3_) e_zq3_.symm ?_
    refine va_sld hx hb hX hbl hbA hH.2.1 (sIx hi0 hi6 h_zq3_ (by decide) (by decide)) dL_law_224 ?_
    refine lv_cst (v := vq4_) e_vq4_.symm ?_
    refine lv_aload_n hx hb dL_law_225 rfl (lv_at hl 3 rfl) ?_
    refine lv_iload_n hx hb dL_law_226 rfl (lv_at hl 0 rfl) ?_
    refine lv_iconst (v := 3) hx hb dL_law_227 (by decide) ?_
    refine lv_iadd hx hb dL_law_228 ?_
    refine lv_cst (v := zq5_) e_zq5_.symm ?_
    refine va_sld hx hb hX hbl hbA hH.2.1 (sIx hi0 hi6 h_zq5_ (by decide) (by decide)) dL_law_229 ?_
    refine lv_cst (v := vq6_) e_vq6_.symm ?_
    refine lv_aload_n hx hb dL_law_230 rfl (lv_at hl 3 rfl) ?_
    refine lv_iload_n hx hb dL_law_231 rfl (lv_at hl 0 rfl) ?_
    refine lv_iconst (v := 4) hx hb dL_law_232 (by decide) ?_
    refine lv_iadd hx hb dL_law_233 ?_
    refine lv_cst (v := zq7_) e_zq7_.symm ?_
    refine va_sld hx hb hX hbl hbA hH.2.1 (sIx hi0 hi6 h_zq7_ (by decide) (by decide)) dL_law_234 ?_
    refine lv_cst (v := vq8_) e_vq8_.symm ?_
    refine lv_aload_n hx hb dL_law_235 rfl (lv_at hl 3 rfl) ?_
    refine lv_iload_n hx hb dL_law_236 rfl (lv_at hl 0 rfl) ?_
    refine lv_iconst (v := 5) hx hb dL_law_237 (by decide) ?_
    refine lv_iadd hx hb dL_law_238 ?_
    refine lv_cst (v := zq9_) e_zq9_.symm ?_
    refine va_sld hx hb hX hbl hbA hH.2.1 (sIx hi0 hi6 h_zq9_ (by decide) (by decide)) dL_law_239 ?_
    refine lv_cst (v := vq10_) e_vq10_.symm ?_
    have hO_rd := hc_rd
    have hO_rc := hc_rc
    have hO_mo := hc_mo
    have hO_al := hc_al
    have hO_ii := hc_ii
    have hO_im := hc_im
    have hO_mt := hc_mt
    refine goI hK hH (runV (As := [.int vq2_, .int vq4_, .int vq6_, .int vq8_, .int vq10_]) (rest := []) hC hK hH (c_X10_feed hc_mo hn_mo hc_mt hn_mt t_pa t_li (by exact hta) (by exact hnn)) mlL_17 (rcvM hK hH hc_mo rfl) ⟨⟨Nat.le_of_ble_eq_true rfl, Nat.le_of_ble_eq_true rfl⟩, lcA hcl, lcA hsl⟩ rfl hl.1 rfl (Nat.le_of_ble_eq_true rfl) dL_law_240) (fun rq20_ Mq18_ Tq19_ Hq_ lcq_ hP hz hH => ?_)
    try dsimp only at hP
    obtain ⟨gq24_, h_gq24_, xq23_, ⟨l_xq23_, g_xq23_⟩, (⟨cq21_, hx_mo, hx_mt⟩ | ⟨cq22_, hx_mo, hx_mt⟩), eT, hfr⟩ := hP
    · skip
      have eT := eT.symm; subst eT
      have hc_ro : Mq18_ ro = some (.inr (7, [.ref w, .ref im, .ref rd, .ref rc, .ref cu])) := (hfr ro (Or.inl hn_ro) n_ro_mo n_ro_mt).trans hc_ro
      have hc_w : Mq18_ w = some (.inr (6, [.int td, .int gd, .int bc, .int py, .int rf, .int lt, .int xq16_, .int fp, .ref cs, .ref bs, .ref tp])) := (hfr w (Or.inl hn_w) n_w_mo n_w_mt).trans hc_w
      have hc_bs : Mq18_ bs = some (.inl (kA 5, 4, .inr (.inr (.inr (.inr g))))) := (hfr bs (Or.inr (Or.inl t_bs)) n_bs_mo n_bs_mt).trans hc_bs
      have hc_tp : Mq18_ tp = some (.inl (kA 1, 600, .inl gq17_)) := (hfr tp (Or.inl hn_tp) n_tp_mo n_tp_mt).trans hc_tp
      have hc_im : Mq18_ im = some (.inl (kA 6, 3, .inr (.inr (.inr (.inr gi))))) := (hfr im (Or.inl hn_im) n_im_mo n_im_mt).trans hc_im
      have hc_rd : Mq18_ rd = some (.inr (3, [.ref nb, .ref (zv z vi), .int no, .int wi, .ref by_, .int le, .int ki, .int pl, .int be, .int vr])) := (hfr rd (Or.inl hn_rd) n_rd_mo n_rd_mt).trans hc_rd
      have hc_rc : Mq18_ rc = some (.inr (4, [.ref rb, .ref rs, .ref rp, .int pm])) := (hfr rc (Or.inl hn_rc) n_rc_mo n_rc_mt).trans hc_rc
      have hc_mo : Mq18_ mo = some (.inr (8, [.ref al, .ref mt, .ref ii, .int xq23_, .int fpm, .ref pa, .int sm, .int nx, .int tk, .int plm, .int ln, .long va, .int wr, .ref li])) := hx_mo
      have hc_al : Mq18_ al = some (.inl (kA 0, 7506, .inl F)) := (hfr al (Or.inl hn_al) n_al_mo n_al_mt).trans hc_al
      have hc_mt : Mq18_ mt = some (.inl (kA 0, 600, .inl gq24_)) := hx_mt
      have hc_ii : Mq18_ ii = some (.inl (kA 2, 3, .inl fi)) := (hfr ii (Or.inl hn_ii) n_ii_mo n_ii_mt).trans hc_ii
      have cq21_ : ta.toInt ≤ 580 ∧ rq20_.toInt = ta.toInt + 20 ∧ xq23_.toInt = ta.toInt + 20 ∧ nC gq24_ = fdK (nC ft) ta.toInt.toNat vq2_ vq4_ vq6_ vq8_ vq10_ 20 := cq21_
      have him : ImsOK kA Mq18_ T w tp gi ai ti pi bi := him.mv hn_w hn_tp (fun q hA hw hp hk => hfr q (FrA.k hA) (fun z9 => by rw [z9] at hk; exact nW3 (by decide) (hk _ hO_mo)) (fun z9 => by rw [z9] at hk; exact nWt (kA01 hK) (hk _ hO_mt)))
      have hTX9 : nC gq24_ = nC gq17_ := by rw [cq21_.2.2.2, cq14_.2.2.2, hTX, show ta.toInt.toNat = tl.toInt.toNat by omega]
      refine lv_pop hx hb dL_law_243 rfl ?_
      refine lv_goto (tgt := 1370) hx hb dL_law_244 (by decide) ?_
      exact kk _ _ _ _ ls _ _ ⟨w, im, rd, rc, cu, cs, bs, tp, nb, by_, vi, rb, rs, rp, al, mt, ii, pa, li, td, gd, bc, py, rf, lt, xq16_, fp, no, wi, le, ki, pl, be, vr, pm, xq23_, fpm, sm, nx, tk, plm, ln, wr, va, g, gi, ai, ti, pi, fi, F, gq17_, gq24_, bi, hc_ro, hc_w, hc_bs, hc_tp, hc_im, hc_rd, hc_rc, hc_mo, hc_al, hc_mt, hc_ii, hn_ro, hn_w, hn_tp, hn_im, hn_rd, hn_rc, hn_mo, hn_al, hn_mt, hn_ii, t_cu, t_cs, t_bs, t_nb, t_rb, t_rs, t_rp, t_pa, t_li, htd, hbc, ⟨l_xq16_, g_xq16_⟩, hvi, hno, hwi, hpm, ⟨l_xq23_, g_xq23_⟩, (by omega), hFQ, h_gq17_, hTX9, h_gq24_, hg, hg3, him, hR_F, hRI⟩ hH (lv_sub hl [0, 1, 2, 3] rfl) (Nat.le_add_right _ _) (Nat.le_add_right _ _)
    · skip
      have eT := eT.symm; subst eT
      have hc_ro : Mq18_ ro = some (.inr (7, [.ref w, .ref im, .ref rd, .ref rc, .ref cu])) := (hfr ro (Or.inl hn_ro) n_ro_mo n_ro_mt).trans hc_ro
      have hc_w : Mq18_ w = some (.inr (6, [.int td, .int gd, .int bc, .int py, .int rf, .int lt, .int xq16_, .int fp, .ref cs, .ref bs, .ref tp])) := (hfr w (Or.inl hn_w) n_w_mo n_w_mt).trans hc_w
      have hc_bs : Mq18_ bs = some (.inl (kA 5, 4, .inr (.inr (.inr (.inr g))))) := (hfr bs (Or.inr (Or.inl t_bs)) n_bs_mo n_bs_mt).trans hc_bs
      have hc_tp : Mq18_ tp = some (.inl (kA 1, 600, .inl gq17_)) := (hfr tp (Or.inl hn_tp) n_tp_mo n_tp_mt).trans hc_tp
      have hc_im : Mq18_ im = some (.inl (kA 6, 3, .inr (.inr (.inr (.inr gi))))) := (hfr im (Or.inl hn_im) n_im_mo n_im_mt).trans hc_im
      have hc_rd : Mq18_ rd = some (.inr (3, [.ref nb, .ref (zv z vi), .int no, .int wi, .ref by_, .int le, .int ki, .int pl, .int be, .int vr])) := (hfr rd (Or.inl hn_rd) n_rd_mo n_rd_mt).trans hc_rd
      have hc_rc : Mq18_ rc = some (.inr (4, [.ref rb, .ref rs, .ref rp, .int pm])) := (hfr rc (Or.inl hn_rc) n_rc_mo n_rc_mt).trans hc_rc
      have hc_mo : Mq18_ mo = some (.inr (8, [.ref al, .ref mt, .ref ii, .int xq23_, .int fpm, .ref pa, .int sm, .int nx, .int tk, .int plm, .int ln, .long va, .int wr, .ref li])) := hx_mo
      have hc_al : Mq18_ al = some (.inl (kA 0, 7506, .inl F)) := (hfr al (Or.inl hn_al) n_al_mo n_al_mt).trans hc_al
      have hc_mt : Mq18_ mt = some (.inl (kA 0, 600, .inl gq24_)) := hx_mt
      have hc_ii : Mq18_ ii = some (.inl (kA 2, 3, .inl fi)) := (hfr ii (Or.inl hn_ii) n_ii_mo n_ii_mt).trans hc_ii
      have cq22_ : 580 < ta.toInt ∧ rq20_.toInt = -1 ∧ xq23_.toInt = ta.toInt ∧ nC gq24_ = nC ft := cq22_
      have him : ImsOK kA Mq18_ T w tp gi ai ti pi bi := him.mv hn_w hn_tp (fun q hA hw hp hk => hfr q (FrA.k hA) (fun z9 => by rw [z9] at hk; exact nW3 (by decide) (hk _ hO_mo)) (fun z9 => by rw [z9] at hk; exact nWt (kA01 hK) (hk _ hO_mt)))
      exfalso; omega
  · skip
    have eT := eT.symm; subst eT
    have hc_ro : Mq11_ ro = some (.inr (7, [.ref w, .ref im, .ref rd, .ref rc, .ref cu])) := (hfr ro (Or.inl hn_ro) n_ro_w n_ro_tp).trans hc_ro
    have hc_w : Mq11_ w = some (.inr (6, [.int td, .int gd, .int bc, .int py, .int rf, .int lt, .int xq16_, .int fp, .ref cs, .ref bs, .ref tp])) := hx_w
    have hc_bs : Mq11_ bs = some (.inl (kA 5, 4, .inr (.inr (.inr (.inr g))))) := (hfr bs (Or.inr (Or.inl t_bs)) n_bs_w n_bs_tp).trans hc_bs
    have hc_tp : Mq11_ tp = some (.inl (kA 1, 600, .inl gq17_)) := hx_tp
    have hc_im : Mq11_ im = some (.inl (kA 6, 3, .inr (.inr (.inr (.inr gi))))) := (hfr im (Or.inl hn_im) n_im_w n_im_tp).trans hc_im
    have hc_rd : Mq11_ rd = some (.inr (3, [.ref nb, .ref (zv z vi), .int no, .int wi, .ref by_, .int le, .int ki, .int pl, .int be, .int vr])) := (hfr rd (Or.inl hn_rd) n_rd_w n_rd_tp).trans hc_rd
    have hc_rc : Mq11_ rc = some (.inr (4, [.ref rb, .ref rs, .ref rp, .int pm])) := (hfr rc (Or.inl hn_rc) n_rc_w n_rc_tp).trans hc_rc
    have hc_mo : Mq11_ mo = some (.inr (8, [.ref al, .ref mt, .ref ii, .int ta, .int fpm, .ref pa, .int sm, .int nx, .int tk, .int plm, .int ln, .long va, .int wr, .ref li])) := (hfr mo (Or.inl hn_mo) n_mo_w n_mo_tp).trans hc_mo
    have hc_al : Mq11_ al = some (.inl (kA 0, 7506, .inl F)) := (hfr al (Or.inl hn_al) n_al_w n_al_tp).trans hc_al
    have hc_mt : Mq11_ mt = some (.inl (kA 0, 600, .inl ft)) := (hfr mt (Or.inl hn_mt) n_mt_w n_mt_tp).trans hc_mt
    have hc_ii : Mq11_ ii = some (.inl (kA 2, 3, .inl fi)) := (hfr ii (Or.inl hn_ii) n_ii_w n_ii_tp).trans hc_ii
    have cq15_ : 580 < tl.toInt ∧ rq13_.toInt = -1 ∧ xq16_.toInt = tl.toInt ∧ nC gq17_ = nC fb := cq15_
    have him : ImsOK kA Mq11_ T w tp gi ai ti pi bi := him.mv hn_w hn_tp (fun q hA hw hp hk => hfr q (FrA.k hA) hw hp)
    refine lv_pop hx hb dL_law_213 rfl ?_
    refine lv_aload_n hx hb dL_law_214 rfl (lv_at hl 1 rfl) ?_
    refine lv_aload_n hx hb dL_law_215 rfl (lv_at hl 3 rfl) ?_
    refine lv_iload_n hx hb dL_law_216 rfl (lv_at hl 0 rfl) ?_
    refine lv_iconst (v := 1) hx hb dL_law_217 (by decide) ?_
    refine lv_iadd hx hb dL_law_218 ?_
    refine lv_cst (v := zq1_) e_zq1_.symm ?_
    refine va_sld hx hb hX hbl hbA hH.2.1 (sIx hi0 hi6 h_zq1_ (by decide) (by decide)) dL_law_219 ?_
    refine lv_cst (v := vq2_) e_vq2_.symm ?_
    refine lv_aload_n hx hb dL_law_220 rfl (lv_at hl 3 rfl) ?_
    refine lv_iload_n hx hb dL_law_221 rfl (lv_at hl 0 rfl) ?_
    refine lv_iconst (v := 2) hx hb dL_law_222 (by decide) ?_
    refine lv_iadd hx hb dL_law_223 ?_
    refine lv_cst (v := zq3_) e_zq3_.symm ?_
    refine va_sld hx hb hX hbl hbA hH.2.1 (sIx hi0 hi6 h_zq3_ (by decide) (by decide)) dL_law_224 ?_
    refine lv_cst (v := vq4_) e_vq4_.symm ?_
    refine lv_aload_n hx hb dL_law_225 rfl (lv_at hl 3 rfl) ?_
    refine lv_iload_n hx hb dL_law_226 rfl (lv_at hl 0 rfl) ?_
    refine lv_iconst (v := 3) hx hb dL_law_227 (by decide) ?_
    refine lv_iadd hx hb dL_law_228 ?_
    refine lv_cst (v := zq5_) e_zq5_.symm ?_
    refine va_sld hx hb hX hbl hbA hH.2.1 (sIx hi0 hi6 h_zq5_ (by decide) (by decide)) dL_law_229 ?_
    refine lv_cst (v := vq6_) e_vq6_.symm ?_
    refine lv_aload_n hx hb dL_law_230 rfl (lv_at hl 3 rfl) ?_
    refine lv_iload_n hx hb dL_law_231 rfl (lv_at hl 0 rfl) ?_
    refine lv_iconst (v := 4) hx hb dL_law_232 (by decide) ?_
    refine lv_iadd hx hb dL_law_233 ?_
    refine lv_cst (v := zq7_) e_zq7_.symm ?_
    refine va_sld hx hb hX hbl hbA hH.2.1 (sIx hi0 hi6 h_zq7_ (by decide) (by decide)) dL_law_234 ?_
    refine lv_cst (v := vq8_) e_vq8_.symm ?_
    refine lv_aload_n hx hb dL_law_235 rfl (lv_at hl 3 rfl) ?_
    refine lv_iload_n hx hb dL_law_236 rfl (lv_at hl 0 rfl) ?_
    refine lv_iconst (v := 5) hx hb dL_law_237 (by decide) ?_
    refine lv_iadd hx hb dL_law_238 ?_
    refine lv_cst (v := zq9_) e_zq9_.symm ?_
    refine va_sld hx hb hX hbl hbA hH.2.1 (sIx hi0 hi6 h_zq9_ (by decide) (by decide)) dL_law_239 ?_
    refine lv_cst (v := vq10_) e_vq10_.symm ?_
    have hO_rd := hc_rd
    have hO_rc := hc_rc
    have hO_mo := hc_mo
    have hO_al := hc_al
    have hO_ii := hc_ii
    have hO_im := hc_im
    have hO_mt := hc_mt
    refine goI hK hH (runV (As := [.int vq2_, .int vq4_, .int vq6_, .int vq8_, .int vq10_]) (rest := []) hC hK hH (c_X10_feed hc_mo hn_mo hc_mt hn_mt t_pa t_li (by exact hta) (by exact hnn)) mlL_17 (rcvM hK hH hc_mo rfl) ⟨⟨Nat.le_of_ble_eq_true rfl, Nat.le_of_ble_eq_true rfl⟩, lcA hcl, lcA hsl⟩ rfl hl.1 rfl (Nat.le_of_ble_eq_true rfl) dL_law_240) (fun rq27_ Mq25_ Tq26_ Hq_ lcq_ hP hz hH => ?_)
    try dsimp only at hP
    obtain ⟨gq31_, h_gq31_, xq30_, ⟨l_xq30_, g_xq30_⟩, (⟨cq28_, hx_mo, hx_mt⟩ | ⟨cq29_, hx_mo, hx_mt⟩), eT, hfr⟩ := hP
    · skip
      have eT := eT.symm; subst eT
      have hc_ro : Mq25_ ro = some (.inr (7, [.ref w, .ref im, .ref rd, .ref rc, .ref cu])) := (hfr ro (Or.inl hn_ro) n_ro_mo n_ro_mt).trans hc_ro
      have hc_w : Mq25_ w = some (.inr (6, [.int td, .int gd, .int bc, .int py, .int rf, .int lt, .int xq16_, .int fp, .ref cs, .ref bs, .ref tp])) := (hfr w (Or.inl hn_w) n_w_mo n_w_mt).trans hc_w
      have hc_bs : Mq25_ bs = some (.inl (kA 5, 4, .inr (.inr (.inr (.inr g))))) := (hfr bs (Or.inr (Or.inl t_bs)) n_bs_mo n_bs_mt).trans hc_bs
      have hc_tp : Mq25_ tp = some (.inl (kA 1, 600, .inl gq17_)) := (hfr tp (Or.inl hn_tp) n_tp_mo n_tp_mt).trans hc_tp
      have hc_im : Mq25_ im = some (.inl (kA 6, 3, .inr (.inr (.inr (.inr gi))))) := (hfr im (Or.inl hn_im) n_im_mo n_im_mt).trans hc_im
      have hc_rd : Mq25_ rd = some (.inr (3, [.ref nb, .ref (zv z vi), .int no, .int wi, .ref by_, .int le, .int ki, .int pl, .int be, .int vr])) := (hfr rd (Or.inl hn_rd) n_rd_mo n_rd_mt).trans hc_rd
      have hc_rc : Mq25_ rc = some (.inr (4, [.ref rb, .ref rs, .ref rp, .int pm])) := (hfr rc (Or.inl hn_rc) n_rc_mo n_rc_mt).trans hc_rc
      have hc_mo : Mq25_ mo = some (.inr (8, [.ref al, .ref mt, .ref ii, .int xq30_, .int fpm, .ref pa, .int sm, .int nx, .int tk, .int plm, .int ln, .long va, .int wr, .ref li])) := hx_mo
      have hc_al : Mq25_ al = some (.inl (kA 0, 7506, .inl F)) := (hfr al (Or.inl hn_al) n_al_mo n_al_mt).trans hc_al
      have hc_mt : Mq25_ mt = some (.inl (kA 0, 600, .inl gq31_)) := hx_mt
      have hc_ii : Mq25_ ii = some (.inl (kA 2, 3, .inl fi)) := (hfr ii (Or.inl hn_ii) n_ii_mo n_ii_mt).trans hc_ii
      have cq28_ : ta.toInt ≤ 580 ∧ rq27_.toInt = ta.toInt + 20 ∧ xq30_.toInt = ta.toInt + 20 ∧ nC gq31_ = fdK (nC ft) ta.toInt.toNat vq2_ vq4_ vq6_ vq8_ vq10_ 20 := cq28_
      have him : ImsOK kA Mq25_ T w tp gi ai ti pi bi := him.mv hn_w hn_tp (fun q hA hw hp hk => hfr q (FrA.k hA) (fun z9 => by rw [z9] at hk; exact nW3 (by decide) (hk _ hO_mo)) (fun z9 => by rw [z9] at hk; exact nWt (kA01 hK) (hk _ hO_mt)))
      exfalso; omega
    · skip
      have eT := eT.symm; subst eT
      have hc_ro : Mq25_ ro = some (.inr (7, [.ref w, .ref im, .ref rd, .ref rc, .ref cu])) := (hfr ro (Or.inl hn_ro) n_ro_mo n_ro_mt).trans hc_ro
      have hc_w : Mq25_ w = some (.inr (6, [.int td, .int gd, .int bc, .int py, .int rf, .int lt, .int xq16_, .int fp, .ref cs, .ref bs, .ref tp])) := (hfr w (Or.inl hn_w) n_w_mo n_w_mt).trans hc_w
      have hc_bs : Mq25_ bs = some (.inl (kA 5, 4, .inr (.inr (.inr (.inr g))))) := (hfr bs (Or.inr (Or.inl t_bs)) n_bs_mo n_bs_mt).trans hc_bs
      have hc_tp : Mq25_ tp = some (.inl (kA 1, 600, .inl gq17_)) := (hfr tp (Or.inl hn_tp) n_tp_mo n_tp_mt).trans hc_tp
      have hc_im : Mq25_ im = some (.inl (kA 6, 3, .inr (.inr (.inr (.inr gi))))) := (hfr im (Or.inl hn_im) n_im_mo n_im_mt).trans hc_im
      have hc_rd : Mq25_ rd = some (.inr (3, [.ref nb, .ref (zv z vi), .int no, .int wi, .ref by_, .int le, .int ki, .int pl, .int be, .int vr])) := (hfr rd (Or.inl hn_rd) n_rd_mo n_rd_mt).trans hc_rd
      have hc_rc : Mq25_ rc = some (.inr (4, [.ref rb, .ref rs, .ref rp, .int pm])) := (hfr rc (Or.inl hn_rc) n_rc_mo n_rc_mt).trans hc_rc
      have hc_mo : Mq25_ mo = some (.inr (8, [.ref al, .ref mt, .ref ii, .int xq30_, .int fpm, .ref pa, .int sm, .int nx, .int tk, .int plm, .int ln, .long va, .int wr, .ref li])) := hx_mo
      have hc_al : Mq25_ al = some (.inl (kA 0, 7506, .inl F)) := (hfr al (Or.inl hn_al) n_al_mo n_al_mt).trans hc_al
      have hc_mt : Mq25_ mt = some (.inl (kA 0, 600, .inl gq31_)) := hx_mt
      have hc_ii : Mq25_ ii = some (.inl (kA 2, 3, .inl fi)) := (hfr ii (Or.inl hn_ii) n_ii_mo n_ii_mt).trans hc_ii
      have cq29_ : 580 < ta.toInt ∧ rq27_.toInt = -1 ∧ xq30_.toInt = ta.toInt ∧ nC gq31_ = nC ft := cq29_
      have him : ImsOK kA Mq25_ T w tp gi ai ti pi bi := him.mv hn_w hn_tp (fun q hA hw hp hk => hfr q (FrA.k hA) (fun z9 => by rw [z9] at hk; exact nW3 (by decide) (hk _ hO_mo)) (fun z9 => by rw [z9] at hk; exact nWt (kA01 hK) (hk _ hO_mt)))
      have hTX9 : nC gq31_ = nC gq17_ := by rw [cq29_.2.2.2, cq15_.2.2.2]; exact hTX
      refine lv_pop hx hb dL_law_243 rfl ?_
      refine lv_goto (tgt := 1370) hx hb dL_law_244 (by decide) ?_
      exact kk _ _ _ _ ls _ _ ⟨w, im, rd, rc, cu, cs, bs, tp, nb, by_, vi, rb, rs, rp, al, mt, ii, pa, li, td, gd, bc, py, rf, lt, xq16_, fp, no, wi, le, ki, pl, be, vr, pm, xq30_, fpm, sm, nx, tk, plm, ln, wr, va, g, gi, ai, ti, pi, fi, F, gq17_, gq31_, bi, hc_ro, hc_w, hc_bs, hc_tp, hc_im, hc_rd, hc_rc, hc_mo, hc_al, hc_mt, hc_ii, hn_ro, hn_w, hn_tp, hn_im, hn_rd, hn_rc, hn_mo, hn_al, hn_mt, hn_ii, t_cu, t_cs, t_bs, t_nb, t_rb, t_rs, t_rp, t_pa, t_li, htd, hbc, ⟨l_xq16_, g_xq16_⟩, hvi, hno, hwi, hpm, ⟨l_xq30_, g_xq30_⟩, (by omega), hFQ, h_gq17_, hTX9, h_gq31_, hg, hg3, him, hR_F, hRI⟩ hH (lv_sub hl [0, 1, 2, 3] rfl) (Nat.le_add_right _ _) (Nat.le_add_right _ _)
set_option maxHeartbeats 4000000 in
set_option maxRecDepth 100000 in
theorem law_case_1 {p : Program} {e : Env} {s : State} {m : MethodId} {below : List Frame} {meth : Method} {c : Code} {l : Launch} {b L : Nat} {xs : Nat → Int32} (C0 : lw_At p s m meth c b L xs) (hL : L ≤ 3072) {z : zD} {D : va_G} {kA : Nat → ClassId} (hK : mK D kA s) {M : mM} {T : mT} {A : Nat → Prop} (hAq : ∀ q, A q → s.heap.size ≤ q) (hZ : zB z A s) {Hq_ : Heap} {lcq_ : List Loc} {ls : Array Slot} {ro mo : Nat} {i : Int32} {cells slots : Nat} {w im rd rc cu cs bs tp nb by_ vi rb rs rp al mt ii pa li : Nat} {td gd bc py rf lt tl fp no wi le ki pl be vr pm ta fpm sm nx tk plm ln wr : Int32} {va : Int64} {g gi : Nat → Option Nat} {ai : Nat → Nat} {ti pi fi F fb ft : Nat → Int32} {bi : Nat → Nat → Int} (hc_ro : M ro = some (.inr (7, [.ref w, .ref im, .ref rd, .ref rc, .ref cu]))) (hc_w : M w = some (.inr (6, [.int td, .int gd, .int bc, .int py, .int rf, .int lt, .int tl, .int fp, .ref cs, .ref bs, .ref tp]))) (hc_bs : M bs = some (.inl (kA 5, 4, .inr (.inr (.inr (.inr g)))))) (hc_tp : M tp = some (.inl (kA 1, 600, .inl fb))) (hc_im : M im = some (.inl (kA 6, 3, .inr (.inr (.inr (.inr gi)))))) (hc_rd : M rd = some (.inr (3, [.ref nb, .ref (zv z vi), .int no, .int wi, .ref by_, .int le, .int ki, .int pl, .int be, .int vr]))) (hc_rc : M rc = some (.inr (4, [.ref rb, .ref rs, .ref rp, .int pm]))) (hc_mo : M mo = some (.inr (8, [.ref al, .ref mt, .ref ii, .int ta, .int fpm, .ref pa, .int sm, .int nx, .int tk, .int plm, .int ln, .long va, .int wr, .ref li]))) (hc_al : M al = some (.inl (kA 0, 7506, .inl F))) (hc_mt : M mt = some (.inl (kA 0, 600, .inl ft))) (hc_ii : M ii = some (.inl (kA 2, 3, .inl fi))) (hn_ro : T ro = none) (hn_w : T w = none) (hn_tp : T tp = none) (hn_im : T im = none) (hn_rd : T rd = none) (hn_rc : T rc = none) (hn_mo : T mo = none) (hn_al : T al = none) (hn_mt : T mt = none) (hn_ii : T ii = none) (t_cu : T cu = some 9) (t_cs : T cs = some 3) (t_bs : T bs = some 6) (t_nb : T nb = some 12) (t_rb : T rb = some 2) (t_rs : T rs = some 3) (t_rp : T rp = some 5) (t_pa : T pa = some 13) (t_li : T li = some 14) (htd : 0 ≤ td.toInt ∧ td.toInt ≤ 999) (hbc : 0 ≤ bc.toInt ∧ bc.toInt ≤ 4) (htl : 0 ≤ tl.toInt ∧ tl.toInt ≤ 600) (hvi : vi < 19) (hno : 0 ≤ no.toInt ∧ no.toInt ≤ 1) (hwi : 0 ≤ wi.toInt ∧ wi.toInt ≤ 1) (hpm : 0 ≤ pm.toInt ∧ pm.toInt ≤ 14) (hta : 0 ≤ ta.toInt ∧ ta.toInt ≤ 600) (hRT : ta.toInt = tl.toInt) (hFQ : fpm.toInt = fp.toInt) (hby : Byt fb) (hTX : nC ft = nC fb) (hnn : NN ft) (hg : ∀ j, j < 4 → ∃ q, g j = some q ∧ T q = some 2) (hg3 : ∀ j, 3 ≤ j → gi j = none) (him : ImsOK kA M T w tp gi ai ti pi bi) (hR_F : Rng F) (hRI : RelI gi ti pi bi fi F) (n_ro_w : ro ≠ w) (n_w_ro : w ≠ ro) (n_ro_bs : ro ≠ bs) (n_bs_ro : bs ≠ ro) (n_ro_tp : ro ≠ tp) (n_tp_ro : tp ≠ ro) (n_ro_im : ro ≠ im) (n_im_ro : im ≠ ro) (n_ro_rd : ro ≠ rd) (n_rd_ro : rd ≠ ro) (n_ro_rc : ro ≠ rc) (n_rc_ro : rc ≠ ro) (n_ro_mo : ro ≠ mo) (n_mo_ro : mo ≠ ro) (n_ro_al : ro ≠ al) (n_al_ro : al ≠ ro) (n_ro_mt : ro ≠ mt) (n_mt_ro : mt ≠ ro) (n_ro_ii : ro ≠ ii) (n_ii_ro : ii ≠ ro) (n_w_bs : w ≠ bs) (n_bs_w : bs ≠ w) (n_w_tp : w ≠ tp) (n_tp_w : tp ≠ w) (n_w_im : w ≠ im) (n_im_w : im ≠ w) (n_w_rd : w ≠ rd) (n_rd_w : rd ≠ w) (n_w_rc : w ≠ rc) (n_rc_w : rc ≠ w) (n_w_mo : w ≠ mo) (n_mo_w : mo ≠ w) (n_w_al : w ≠ al) (n_al_w : al ≠ w) (n_w_mt : w ≠ mt) (n_mt_w : mt ≠ w) (n_w_ii : w ≠ ii) (n_ii_w : ii ≠ w) (n_bs_tp : bs ≠ tp) (n_tp_bs : tp ≠ bs) (n_bs_im : bs ≠ im) (n_im_bs : im ≠ bs) (n_bs_rd : bs ≠ rd) (n_rd_bs : rd ≠ bs) (n_bs_rc : bs ≠ rc) (n_rc_bs : rc ≠ bs) (n_bs_mo : bs ≠ mo) (n_mo_bs : mo ≠ bs) (n_bs_al : bs ≠ al) (n_al_bs : al ≠ bs) (n_bs_mt : bs ≠ mt) (n_mt_bs : mt ≠ bs) (n_bs_ii : bs ≠ ii) (n_ii_bs : ii ≠ bs) (n_tp_im : tp ≠ im) (n_im_tp : im ≠ tp) (n_tp_rd : tp ≠ rd) (n_rd_tp : rd ≠ tp) (n_tp_rc : tp ≠ rc) (n_rc_tp : rc ≠ tp) (n_tp_mo : tp ≠ mo) (n_mo_tp : mo ≠ tp) (n_tp_al : tp ≠ al) (n_al_tp : al ≠ tp) (n_tp_mt : tp ≠ mt) (n_mt_tp : mt ≠ tp) (n_tp_ii : tp ≠ ii) (n_ii_tp : ii ≠ tp) (n_im_rd : im ≠ rd) (n_rd_im : rd ≠ im) (n_im_rc : im ≠ rc) (n_rc_im : rc ≠ im) (n_im_mo : im ≠ mo) (n_mo_im : mo ≠ im) (n_im_al : im ≠ al) (n_al_im : al ≠ im) (n_im_mt : im ≠ mt) (n_mt_im : mt ≠ im) (n_im_ii : im ≠ ii) (n_ii_im : ii ≠ im) (n_rd_rc : rd ≠ rc) (n_rc_rd : rc ≠ rd) (n_rd_mo : rd ≠ mo) (n_mo_rd : mo ≠ rd) (n_rd_al : rd ≠ al) (n_al_rd : al ≠ rd) (n_rd_mt : rd ≠ mt) (n_mt_rd : mt ≠ rd) (n_rd_ii : rd ≠ ii) (n_ii_rd : ii ≠ rd) (n_rc_mo : rc ≠ mo) (n_mo_rc : mo ≠ rc) (n_rc_al : rc ≠ al) (n_al_rc : al ≠ rc) (n_rc_mt : rc ≠ mt) (n_mt_rc : mt ≠ rc) (n_rc_ii : rc ≠ ii) (n_ii_rc : ii ≠ rc) (n_mo_al : mo ≠ al) (n_al_mo : al ≠ mo) (n_mo_mt : mo ≠ mt) (n_mt_mo : mt ≠ mo) (n_mo_ii : mo ≠ ii) (n_ii_mo : ii ≠ mo) (n_al_mt : al ≠ mt) (n_mt_al : mt ≠ al) (n_al_ii : al ≠ ii) (n_ii_al : ii ≠ al) (n_mt_ii : mt ≠ ii) (n_ii_mt : ii ≠ mt) (hi0 : 0 ≤ i.toInt) (hi6 : i.toInt + 6 ≤ (L : Int)) (hcl : cells + 92 ≤ 600000) (hsl : slots + 1627 ≤ 7302250) (hH : mS D kA M T A s.heap Hq_ lcq_) (hl : lv_has ls 4 [(3, .int i), (2, .ref mo), (1, .ref ro), (0, .ref b)]) (kk : ∀ (M1 : mM) (T1 : mT) (H1 : Heap) (locs1 : List Loc) (ls1 : Array Slot) (cl1 sl1 : Nat), LI z kA M1 T1 ro mo → mS D kA M1 T1 A s.heap H1 locs1 → lv_has ls1 4 [(3, .int i), (2, .ref mo), (1, .ref ro), (0, .ref b)] → cl1 ≤ cells + 92 → sl1 ≤ slots + 1627 → W p l e room_1 s m #[Value.ref b] below meth c H1 locs1 cl1 sl1 (lw_Z below #[Value.ref b] s) (F0 m 1370 ls1 [])) : W p l e room_1 s m #[Value.ref b] below meth c Hq_ lcq_ cells slots (lw_Z below #[Value.ref b] s) (F0 m 247 ls []) := by
  obtain ⟨hx, hb, hr, hml, hown, hts, hX, hbl, hlocks, hgv⟩ := id C0
  have hC : CallFix p m c cL_law 4 s #[Value.ref b] TB RL := ⟨hx, hb, hml, hown, fun w h => hts w (TB_in h)⟩
  have hbA : ¬ A b := fun h => absurd (hAq b h) (Nat.not_le.mpr hbl)
  refine lv_aload_n hx hb dL_law_247 rfl (lv_at hl 2 rfl) ?_
  refine lv_aload_n hx hb dL_law_248 rfl (lv_at hl 3 rfl) ?_
  refine lv_iload_n hx hb dL_law_249 rfl (lv_at hl 0 rfl) ?_
  refine lv_iconst (v := 1) hx hb dL_law_250 (by decide) ?_
  refine lv_iadd hx hb dL_law_251 ?_
  refine lv_topi (fun zq1_ e_zq1_ => ?_)
  have h_zq1_ : zq1_.toInt = i.toInt + (1 : Int32).toInt := sIa hi0 hi6 hL e_zq1_ (by decide) (by decide)
  refine va_sld hx hb hX hbl hbA hH.2.1 (sIx hi0 hi6 h_zq1_ (by decide) (by decide)) dL_law_252 ?_
  refine lv_topi (fun vq2_ e_vq2_ => ?_)
  have hO_rd := hc_rd
  have hO_rc := hc_rc
  have hO_mo := hc_mo
  have hO_al := hc_al
  have hO_ii := hc_ii
  have hO_im := hc_im
  have hO_mt := hc_mt
  refine goI hK hH (runV (As := [.int vq2_]) (rest := []) hC hK hH (c_X9_end hc_ro hn_ro hc_w hn_w hc_bs t_cs t_bs (by exact htd) (by exact hbc) (by exact htl) hg) mlL_18 (rcvM hK hH hc_ro rfl) ⟨⟨Nat.le_of_ble_eq_true rfl, Nat.le_of_ble_eq_true rfl⟩, lcA hcl, lcA hsl⟩ rfl hl.1 rfl (Nat.le_of_ble_eq_true rfl) dL_law_253) (fun rq5_ Mq3_ Tq4_ Hq_ lcq_ hP hz hH => ?_)
  try dsimp only at hP
  obtain ⟨xq8_, ⟨l_xq8_, g_xq8_⟩, (⟨cq6_, hx_w⟩ | ⟨cq7_, hx_w⟩), eT, hfr⟩ := hP
  · skip
    have eT := eT.symm; subst eT
    have hc_ro : Mq3_ ro = some (.inr (7, [.ref w, .ref im, .ref rd, .ref rc, .ref cu])) := (hfr ro (Or.inl hn_ro) n_ro_w).trans hc_ro
    have hc_w : Mq3_ w = some (.inr (6, [.int td, .int gd, .int bc, .int py, .int rf, .int lt, .int xq8_, .int fp, .ref cs, .ref bs, .ref tp])) := hx_w
    have hc_bs : Mq3_ bs = some (.inl (kA 5, 4, .inr (.inr (.inr (.inr g))))) := (hfr bs (Or.inr (Or.inl t_bs)) n_bs_w).trans hc_bs
    have hc_tp : Mq3_ tp = some (.inl (kA 1, 600, .inl fb)) := (hfr tp (Or.inl hn_tp) n_tp_w).trans hc_tp
    have hc_im : Mq3_ im = some (.inl (kA 6, 3, .inr (.inr (.inr (.inr gi))))) := (hfr im (Or.inl hn_im) n_im_w).trans hc_im
    have hc_rd : Mq3_ rd = some (.inr (3, [.ref nb, .ref (zv z vi), .int no, .int wi, .ref by_, .int le, .int ki, .int pl, .int be, .int vr])) := (hfr rd (Or.inl hn_rd) n_rd_w).trans hc_rd
    have hc_rc : Mq3_ rc = some (.inr (4, [.ref rb, .ref rs, .ref rp, .int pm])) := (hfr rc (Or.inl hn_rc) n_rc_w).trans hc_rc
    have hc_mo : Mq3_ mo = some (.inr (8, [.ref al, .ref mt, .ref ii, .int ta, .int fpm, .ref pa, .int sm, .int nx, .int tk, .int plm, .int ln, .long va, .int wr, .ref li])) := (hfr mo (Or.inl hn_mo) n_mo_w).trans hc_mo
    have hc_al : Mq3_ al = some (.inl (kA 0, 7506, .inl F)) := (hfr al (Or.inl hn_al) n_al_w).trans hc_al
    have hc_mt : Mq3_ mt = some (.inl (kA 0, 600, .inl ft)) := (hfr mt (Or.inl hn_mt) n_mt_w).trans hc_mt
    have hc_ii : Mq3_ ii = some (.inl (kA 2, 3, .inl fi)) := (hfr ii (Or.inl hn_ii) n_ii_w).trans hc_ii
    have cq6_ : 0 ≤ vq2_.toInt ∧ vq2_.toInt ≤ tl.toInt ∧ rq5_.toInt = vq2_.toInt ∧ xq8_.toInt = vq2_.toInt := cq6_
    have him : ImsOK kA Mq3_ T w tp gi ai ti pi bi := him.mv hn_w hn_tp (fun q hA hw hp hk => hfr q (FrA.k hA) hw)
    refine lv_pop hx hb dL_law_256 rfl ?_
    refine lv_aload_n hx hb dL_law_257 rfl (lv_at hl 1 rfl) ?_
    refine lv_aload_n hx hb dL_law_258 rfl (lv_at hl 3 rfl) ?_
    refine lv_iload_n hx hb dL_law_259 rfl (lv_at hl 0 rfl) ?_
    refine lv_iconst (v := 1) hx hb dL_law_260 (by decide) ?_
    refine lv_iadd hx hb dL_law_261 ?_
    refine lv_cst (v := zq1_) e_zq1_.symm ?_
    refine va_sld hx hb hX hbl hbA hH.2.1 (sIx hi0 hi6 h_zq1_ (by decide) (by decide)) dL_law_262 ?_
    refine lv_cst (v := vq2_) e_vq2_.symm ?_
    have hO_rd := hc_rd
    have hO_rc := hc_rc
    have hO_mo := hc_mo
    have hO_al := hc_al
    have hO_ii := hc_ii
    have hO_im := hc_im
    have hO_mt := hc_mt
    refine goI hK hH (runV (As := [.int vq2_]) (rest := []) hC hK hH (c_X10_end hc_mo hn_mo t_pa t_li (by exact hta)) mlL_22 (rcvM hK hH hc_mo rfl) ⟨⟨Nat.le_of_ble_eq_true rfl, Nat.le_of_ble_eq_true rfl⟩, lcA hcl, lcA hsl⟩ rfl hl.1 rfl (Nat.le_of_ble_eq_true rfl) dL_law_263) (fun rq11_ Mq9_ Tq10_ Hq_ lcq_ hP hz hH => ?_)
    try dsimp only at hP
    obtain ⟨xq14_, ⟨l_xq14_, g_xq14_⟩, (⟨cq12_, hx_mo⟩ | ⟨cq13_, hx_mo⟩), eT, hfr⟩ := hP
    · skip
      have eT := eT.symm; subst eT
      have hc_ro : Mq9_ ro = some (.inr (7, [.ref w, .ref im, .ref rd, .ref rc, .ref cu])) := (hfr ro (Or.inl hn_ro) n_ro_mo).trans hc_ro
      have hc_w : Mq9_ w = some (.inr (6, [.int td, .int gd, .int bc, .int py, .int rf, .int lt, .int xq8_, .int fp, .ref cs, .ref bs, .ref tp])) := (hfr w (Or.inl hn_w) n_w_mo).trans hc_w
      have hc_bs : Mq9_ bs = some (.inl (kA 5, 4, .inr (.inr (.inr (.inr g))))) := (hfr bs (Or.inr (Or.inl t_bs)) n_bs_mo).trans hc_bs
      have hc_tp : Mq9_ tp = some (.inl (kA 1, 600, .inl fb)) := (hfr tp (Or.inl hn_tp) n_tp_mo).trans hc_tp
      have hc_im : Mq9_ im = some (.inl (kA 6, 3, .inr (.inr (.inr (.inr gi))))) := (hfr im (Or.inl hn_im) n_im_mo).trans hc_im
      have hc_rd : Mq9_ rd = some (.inr (3, [.ref nb, .ref (zv z vi), .int no, .int wi, .ref by_, .int le, .int ki, .int pl, .int be, .int vr])) := (hfr rd (Or.inl hn_rd) n_rd_mo).trans hc_rd
      have hc_rc : Mq9_ rc = some (.inr (4, [.ref rb, .ref rs, .ref rp, .int pm])) := (hfr rc (Or.inl hn_rc) n_rc_mo).trans hc_rc
      have hc_mo : Mq9_ mo = some (.inr (8, [.ref al, .ref mt, .ref ii, .int xq14_, .int fpm, .ref pa, .int sm, .int nx, .int tk, .int plm, .int ln, .long va, .int wr, .ref li])) := hx_mo
      have hc_al : Mq9_ al = some (.inl (kA 0, 7506, .inl F)) := (hfr al (Or.inl hn_al) n_al_mo).trans hc_al
      have hc_mt : Mq9_ mt = some (.inl (kA 0, 600, .inl ft)) := (hfr mt (Or.inl hn_mt) n_mt_mo).trans hc_mt
      have hc_ii : Mq9_ ii = some (.inl (kA 2, 3, .inl fi)) := (hfr ii (Or.inl hn_ii) n_ii_mo).trans hc_ii
      have cq12_ : 0 ≤ vq2_.toInt ∧ vq2_.toInt ≤ ta.toInt ∧ rq11_.toInt = vq2_.toInt ∧ xq14_.toInt = vq2_.toInt := cq12_
      have him : ImsOK kA Mq9_ T w tp gi ai ti pi bi := him.mv hn_w hn_tp (fun q hA hw hp hk => hfr q (FrA.k hA) (fun z9 => by rw [z9] at hk; exact nW3 (by decide) (hk _ hO_mo)))
      refine lv_pop hx hb dL_law_266 rfl ?_
      refine lv_goto (tgt := 1370) hx hb dL_law_267 (by decide) ?_
      exact kk _ _ _ _ ls _ _ ⟨w, im, rd, rc, cu, cs, bs, tp, nb, by_, vi, rb, rs, rp, al, mt, ii, pa, li, td, gd, bc, py, rf, lt, xq8_, fp, no, wi, le, ki, pl, be, vr, pm, xq14_, fpm, sm, nx, tk, plm, ln, wr, va, g, gi, ai, ti, pi, fi, F, fb, ft, bi, hc_ro, hc_w, hc_bs, hc_tp, hc_im, hc_rd, hc_rc, hc_mo, hc_al, hc_mt, hc_ii, hn_ro, hn_w, hn_tp, hn_im, hn_rd, hn_rc, hn_mo, hn_al, hn_mt, hn_ii, t_cu, t_cs, t_bs, t_nb, t_rb, t_rs, t_rp, t_pa, t_li, htd, hbc, ⟨l_xq8_, g_xq8_⟩, hvi, hno, hwi, hpm, ⟨l_xq14_, g_xq14_⟩, (by omega), hFQ, hby, hTX, hnn, hg, hg3, him, hR_F, hRI⟩ hH (lv_sub hl [0, 1, 2, 3] rfl) (Nat.le_add_right _ _) (Nat.le_add_right _ _)
    · skip
      have eT := eT.symm; subst eT
      have hc_ro : Mq9_ ro = some (.inr (7, [.ref w, .ref im, .ref rd, .ref rc, .ref cu])) := (hfr ro (Or.inl hn_ro) n_ro_mo).trans hc_ro
      have hc_w : Mq9_ w = some (.inr (6, [.int td, .int gd, .int bc, .int py, .int rf, .int lt, .int xq8_, .int fp, .ref cs, .ref bs, .ref tp])) := (hfr w (Or.inl hn_w) n_w_mo).trans hc_w
      have hc_bs : Mq9_ bs = some (.inl (kA 5, 4, .inr (.inr (.inr (.inr g))))) := (hfr bs (Or.inr (Or.inl t_bs)) n_bs_mo).trans hc_bs
      have hc_tp : Mq9_ tp = some (.inl (kA 1, 600, .inl fb)) := (hfr tp (Or.inl hn_tp) n_tp_mo).trans hc_tp
      have hc_im : Mq9_ im = some (.inl (kA 6, 3, .inr (.inr (.inr (.inr gi))))) := (hfr im (Or.inl hn_im) n_im_mo).trans hc_im
      have hc_rd : Mq9_ rd = some (.inr (3, [.ref nb, .ref (zv z vi), .int no, .int wi, .ref by_, .int le, .int ki, .int pl, .int be, .int vr])) := (hfr rd (Or.inl hn_rd) n_rd_mo).trans hc_rd
      have hc_rc : Mq9_ rc = some (.inr (4, [.ref rb, .ref rs, .ref rp, .int pm])) := (hfr rc (Or.inl hn_rc) n_rc_mo).trans hc_rc
      have hc_mo : Mq9_ mo = some (.inr (8, [.ref al, .ref mt, .ref ii, .int xq14_, .int fpm, .ref pa, .int sm, .int nx, .int tk, .int plm, .int ln, .long va, .int wr, .ref li])) := hx_mo
      have hc_al : Mq9_ al = some (.inl (kA 0, 7506, .inl F)) := (hfr al (Or.inl hn_al) n_al_mo).trans hc_al
      have hc_mt : Mq9_ mt = some (.inl (kA 0, 600, .inl ft)) := (hfr mt (Or.inl hn_mt) n_mt_mo).trans hc_mt
      have hc_ii : Mq9_ ii = some (.inl (kA 2, 3, .inl fi)) := (hfr ii (Or.inl hn_ii) n_ii_mo).trans hc_ii
      have cq13_ : ¬ (0 ≤ vq2_.toInt ∧ vq2_.toInt ≤ ta.toInt) ∧ rq11_.toInt = -1 ∧ xq14_.toInt = ta.toInt := cq13_
      have him : ImsOK kA Mq9_ T w tp gi ai ti pi bi := him.mv hn_w hn_tp (fun q hA hw hp hk => hfr q (FrA.k hA) (fun z9 => by rw [z9] at hk; exact nW3 (by decide) (hk _ hO_mo)))
      refine lv_pop hx hb dL_law_266 rfl ?_
      refine lv_goto (tgt := 1370) hx hb dL_law_267 (by decide) ?_
      exact kk _ _ _ _ ls _ _ ⟨w, im, rd, rc, cu, cs, bs, tp, nb, by_, vi, rb, rs, rp, al, mt, ii, pa, li, td, gd, bc, py, rf, lt, xq8_, fp, no, wi, le, ki, pl, be, vr, pm, xq14_, fpm, sm, nx, tk, plm, ln, wr, va, g, gi, ai, ti, pi, fi, F, fb, ft, bi, hc_ro, hc_w, hc_bs, hc_tp, hc_im, hc_rd, hc_rc, hc_mo, hc_al, hc_mt, hc_ii, hn_ro, hn_w, hn_tp, hn_im, hn_rd, hn_rc, hn_mo, hn_al, hn_mt, hn_ii, t_cu, t_cs, t_bs, t_nb, t_rb, t_rs, t_rp, t_pa, t_li, htd, hbc, ⟨l_xq8_, g_xq8_⟩, hvi, hno, hwi, hpm, ⟨l_xq14_, g_xq14_⟩, (by omega), hFQ, hby, hTX, hnn, hg, hg3, him, hR_F, hRI⟩ hH (lv_sub hl [0, 1, 2, 3] rfl) (Nat.le_add_right _ _) (Nat.le_add_right _ _)
  · skip
    have eT := eT.symm; subst eT
    have hc_ro : Mq3_ ro = some (.inr (7, [.ref w, .ref im, .ref rd, .ref rc, .ref cu])) := (hfr ro (Or.inl hn_ro) n_ro_w).trans hc_ro
    have hc_w : Mq3_ w = some (.inr (6, [.int td, .int gd, .int bc, .int py, .int rf, .int lt, .int xq8_, .int fp, .ref cs, .ref bs, .ref tp])) := hx_w
    have hc_bs : Mq3_ bs = some (.inl (kA 5, 4, .inr (.inr (.inr (.inr g))))) := (hfr bs (Or.inr (Or.inl t_bs)) n_bs_w).trans hc_bs
    have hc_tp : Mq3_ tp = some (.inl (kA 1, 600, .inl fb)) := (hfr tp (Or.inl hn_tp) n_tp_w).trans hc_tp
    have hc_im : Mq3_ im = some (.inl (kA 6, 3, .inr (.inr (.inr (.inr gi))))) := (hfr im (Or.inl hn_im) n_im_w).trans hc_im
    have hc_rd : Mq3_ rd = some (.inr (3, [.ref nb, .ref (zv z vi), .int no, .int wi, .ref by_, .int le, .int ki, .int pl, .int be, .int vr])) := (hfr rd (Or.inl hn_rd) n_rd_w).trans hc_rd
    have hc_rc : Mq3_ rc = some (.inr (4, [.ref rb, .ref rs, .ref rp, .int pm])) := (hfr rc (Or.inl hn_rc) n_rc_w).trans hc_rc
    have hc_mo : Mq3_ mo = some (.inr (8, [.ref al, .ref mt, .ref ii, .int ta, .int fpm, .ref pa, .int sm, .int nx, .int tk, .int plm, .int ln, .long va, .int wr, .ref li])) := (hfr mo (Or.inl hn_mo) n_mo_w).trans hc_mo
    have hc_al : Mq3_ al = some (.inl (kA 0, 7506, .inl F)) := (hfr al (Or.inl hn_al) n_al_w).trans hc_al
    have hc_mt : Mq3_ mt = some (.inl (kA 0, 600, .inl ft)) := (hfr mt (Or.inl hn_mt) n_mt_w).trans hc_mt
    have hc_ii : Mq3_ ii = some (.inl (kA 2, 3, .inl fi)) := (hfr ii (Or.inl hn_ii) n_ii_w).trans hc_ii
    have cq7_ : ¬ (0 ≤ vq2_.toInt ∧ vq2_.toInt ≤ tl.toInt) ∧ rq5_.toInt = -1 ∧ xq8_.toInt = tl.toInt := cq7_
    have him : ImsOK kA Mq3_ T w tp gi ai ti pi bi := him.mv hn_w hn_tp (fun q hA hw hp hk => hfr q (FrA.k hA) hw)
    refine lv_pop hx hb dL_law_256 rfl ?_
    refine lv_aload_n hx hb dL_law_257 rfl (lv_at hl 1 rfl) ?_
    refine lv_aload_n hx hb dL_law_258 rfl (lv_at hl 3 rfl) ?_
    refine lv_iload_n hx hb dL_law_259 rfl (lv_at hl 0 rfl) ?_
    refine lv_iconst (v := 1) hx hb dL_law_260 (by decide) ?_
    refine lv_iadd hx hb dL_law_261 ?_
    refine lv_cst (v := zq1_) e_zq1_.symm ?_
    refine va_sld hx hb hX hbl hbA hH.2.1 (sIx hi0 hi6 h_zq1_ (by decide) (by decide)) dL_law_262 ?_
    refine lv_cst (v := vq2_) e_vq2_.symm ?_
    have hO_rd := hc_rd
    have hO_rc := hc_rc
    have hO_mo := hc_mo
    have hO_al := hc_al
    have hO_ii := hc_ii
    have hO_im := hc_im
    have hO_mt := hc_mt
    refine goI hK hH (runV (As := [.int vq2_]) (rest := []) hC hK hH (c_X10_end hc_mo hn_mo t_pa t_li (by exact hta)) mlL_22 (rcvM hK hH hc_mo rfl) ⟨⟨Nat.le_of_ble_eq_true rfl, Nat.le_of_ble_eq_true rfl⟩, lcA hcl, lcA hsl⟩ rfl hl.1 rfl (Nat.le_of_ble_eq_true rfl) dL_law_263) (fun rq17_ Mq15_ Tq16_ Hq_ lcq_ hP hz hH => ?_)
    try dsimp only at hP
    obtain ⟨xq20_, ⟨l_xq20_, g_xq20_⟩, (⟨cq18_, hx_mo⟩ | ⟨cq19_, hx_mo⟩), eT, hfr⟩ := hP
    · skip
      have eT := eT.symm; subst eT
      have hc_ro : Mq15_ ro = some (.inr (7, [.ref w, .ref im, .ref rd, .ref rc, .ref cu])) := (hfr ro (Or.inl hn_ro) n_ro_mo).trans hc_ro
      have hc_w : Mq15_ w = some (.inr (6, [.int td, .int gd, .int bc, .int py, .int rf, .int lt, .int xq8_, .int fp, .ref cs, .ref bs, .ref tp])) := (hfr w (Or.inl hn_w) n_w_mo).trans hc_w
      have hc_bs : Mq15_ bs = some (.inl (kA 5, 4, .inr (.inr (.inr (.inr g))))) := (hfr bs (Or.inr (Or.inl t_bs)) n_bs_mo).trans hc_bs
      have hc_tp : Mq15_ tp = some (.inl (kA 1, 600, .inl fb)) := (hfr tp (Or.inl hn_tp) n_tp_mo).trans hc_tp
      have hc_im : Mq15_ im = some (.inl (kA 6, 3, .inr (.inr (.inr (.inr gi))))) := (hfr im (Or.inl hn_im) n_im_mo).trans hc_im
      have hc_rd : Mq15_ rd = some (.inr (3, [.ref nb, .ref (zv z vi), .int no, .int wi, .ref by_, .int le, .int ki, .int pl, .int be, .int vr])) := (hfr rd (Or.inl hn_rd) n_rd_mo).trans hc_rd
      have hc_rc : Mq15_ rc = some (.inr (4, [.ref rb, .ref rs, .ref rp, .int pm])) := (hfr rc (Or.inl hn_rc) n_rc_mo).trans hc_rc
      have hc_mo : Mq15_ mo = some (.inr (8, [.ref al, .ref mt, .ref ii, .int xq20_, .int fpm, .ref pa, .int sm, .int nx, .int tk, .int plm, .int ln, .long va, .int wr, .ref li])) := hx_mo
      have hc_al : Mq15_ al = some (.inl (kA 0, 7506, .inl F)) := (hfr al (Or.inl hn_al) n_al_mo).trans hc_al
      have hc_mt : Mq15_ mt = some (.inl (kA 0, 600, .inl ft)) := (hfr mt (Or.inl hn_mt) n_mt_mo).trans hc_mt
      have hc_ii : Mq15_ ii = some (.inl (kA 2, 3, .inl fi)) := (hfr ii (Or.inl hn_ii) n_ii_mo).trans hc_ii
      have cq18_ : 0 ≤ vq2_.toInt ∧ vq2_.toInt ≤ ta.toInt ∧ rq17_.toInt = vq2_.toInt ∧ xq20_.toInt = vq2_.toInt := cq18_
      have him : ImsOK kA Mq15_ T w tp gi ai ti pi bi := him.mv hn_w hn_tp (fun q hA hw hp hk => hfr q (FrA.k hA) (fun z9 => by rw [z9] at hk; exact nW3 (by decide) (hk _ hO_mo)))
      refine lv_pop hx hb dL_law_266 rfl ?_
      refine lv_goto (tgt := 1370) hx hb dL_law_267 (by decide) ?_
      exact kk _ _ _ _ ls _ _ ⟨w, im, rd, rc, cu, cs, bs, tp, nb, by_, vi, rb, rs, rp, al, mt, ii, pa, li, td, gd, bc, py, rf, lt, xq8_, fp, no, wi, le, ki, pl, be, vr, pm, xq20_, fpm, sm, nx, tk, plm, ln, wr, va, g, gi, ai, ti, pi, fi, F, fb, ft, bi, hc_ro, hc_w, hc_bs, hc_tp, hc_im, hc_rd, hc_rc, hc_mo, hc_al, hc_mt, hc_ii, hn_ro, hn_w, hn_tp, hn_im, hn_rd, hn_rc, hn_mo, hn_al, hn_mt, hn_ii, t_cu, t_cs, t_bs, t_nb, t_rb, t_rs, t_rp, t_pa, t_li, htd, hbc, ⟨l_xq8_, g_xq8_⟩, hvi, hno, hwi, hpm, ⟨l_xq20_, g_xq20_⟩, (by omega), hFQ, hby, hTX, hnn, hg, hg3, him, hR_F, hRI⟩ hH (lv_sub hl [0, 1, 2, 3] rfl) (Nat.le_add_right _ _) (Nat.le_add_right _ _)
    · skip
      have eT := eT.symm; subst eT
      have hc_ro : Mq15_ ro = some (.inr (7, [.ref w, .ref im, .ref rd, .ref rc, .ref cu])) := (hfr ro (Or.inl hn_ro) n_ro_mo).trans hc_ro
      have hc_w : Mq15_ w = some (.inr (6, [.int td, .int gd, .int bc, .int py, .int rf, .int lt, .int xq8_, .int fp, .ref cs, .ref bs, .ref tp])) := (hfr w (Or.inl hn_w) n_w_mo).trans hc_w
      have hc_bs : Mq15_ bs = some (.inl (kA 5, 4, .inr (.inr (.inr (.inr g))))) := (hfr bs (Or.inr (Or.inl t_bs)) n_bs_mo).trans hc_bs
      have hc_tp : Mq15_ tp = some (.inl (kA 1, 600, .inl fb)) := (hfr tp (Or.inl hn_tp) n_tp_mo).trans hc_tp
      have hc_im : Mq15_ im = some (.inl (kA 6, 3, .inr (.inr (.inr (.inr gi))))) := (hfr im (Or.inl hn_im) n_im_mo).trans hc_im
      have hc_rd : Mq15_ rd = some (.inr (3, [.ref nb, .ref (zv z vi), .int no, .int wi, .ref by_, .int le, .int ki, .int pl, .int be, .int vr])) := (hfr rd (Or.inl hn_rd) n_rd_mo).trans hc_rd
      have hc_rc : Mq15_ rc = some (.inr (4, [.ref rb, .ref rs, .ref rp, .int pm])) := (hfr rc (Or.inl hn_rc) n_rc_mo).trans hc_rc
      have hc_mo : Mq15_ mo = some (.inr (8, [.ref al, .ref mt, .ref ii, .int xq20_, .int fpm, .ref pa, .int sm, .int nx, .int tk, .int plm, .int ln, .long va, .int wr, .ref li])) := hx_mo
      have hc_al : Mq15_ al = some (.inl (kA 0, 7506, .inl F)) := (hfr al (Or.inl hn_al) n_al_mo).trans hc_al
      have hc_mt : Mq15_ mt = some (.inl (kA 0, 600, .inl ft)) := (hfr mt (Or.inl hn_mt) n_mt_mo).trans hc_mt
      have hc_ii : Mq15_ ii = some (.inl (kA 2, 3, .inl fi)) := (hfr ii (Or.inl hn_ii) n_ii_mo).trans hc_ii
      have cq19_ : ¬ (0 ≤ vq2_.toInt ∧ vq2_.toInt ≤ ta.toInt) ∧ rq17_.toInt = -1 ∧ xq20_.toInt = ta.toInt := cq19_
      have him : ImsOK kA Mq15_ T w tp gi ai ti pi bi := him.mv hn_w hn_tp (fun q hA hw hp hk => hfr q (FrA.k hA) (fun z9 => by rw [z9] at hk; exact nW3 (by decide) (hk _ hO_mo)))
      refine lv_pop hx hb dL_law_266 rfl ?_
      refine lv_goto (tgt := 1370) hx hb dL_law_267 (by decide) ?_
      exact kk _ _ _ _ ls _ _ ⟨w, im, rd, rc, cu, cs, bs, tp, nb, by_, vi, rb, rs, rp, al, mt, ii, pa, li, td, gd, bc, py, rf, lt, xq8_, fp, no, wi, le, ki, pl, be, vr, pm, xq20_, fpm, sm, nx, tk, plm, ln, wr, va, g, gi, ai, ti, pi, fi, F, fb, ft, bi, hc_ro, hc_w, hc_bs, hc_tp, hc_im, hc_rd, hc_rc, hc_mo, hc_al, hc_mt, hc_ii, hn_ro, hn_w, hn_tp, hn_im, hn_rd, hn_rc, hn_mo, hn_al, hn_mt, hn_ii, t_cu, t_cs, t_bs, t_nb, t_rb, t_rs, t_rp, t_pa, t_li, htd, hbc, ⟨l_xq8_, g_xq8_⟩, hvi, hno, hwi, hpm, ⟨l_xq20_, g_xq20_⟩, (by omega), hFQ, hby, hTX, hnn, hg, hg3, him, hR_F, hRI⟩ hH (lv_sub hl [0, 1, 2, 3] rfl) (Nat.le_add_right _ _) (Nat.le_add_right _ _)
set_option maxHeartbeats 4000000 in
set_option maxRecDepth 100000 in
theorem law_case_2 {p : Program} {e : Env} {s : State} {m : MethodId} {below : List Frame} {meth : Method} {c : Code} {l : Launch} {b L : Nat} {xs : Nat → Int32} (C0 : lw_At p s m meth c b L xs) (hL : L ≤ 3072) {z : zD} {D : va_G} {kA : Nat → ClassId} (hK : mK D kA s) {M : mM} {T : mT} {A : Nat → Prop} (hAq : ∀ q, A q → s.heap.size ≤ q) (hZ : zB z A s) {Hq_ : Heap} {lcq_ : List Loc} {ls : Array Slot} {ro mo : Nat} {i : Int32} {cells slots : Nat} {w im rd rc cu cs bs tp nb by_ vi rb rs rp al mt ii pa li : Nat} {td gd bc py rf lt tl fp no wi le ki pl be vr pm ta fpm sm nx tk plm ln wr : Int32} {va : Int64} {g gi : Nat → Option Nat} {ai : Nat → Nat} {ti pi fi F fb ft : Nat → Int32} {bi : Nat → Nat → Int} (hc_ro : M ro = some (.inr (7, [.ref w, .ref im, .ref rd, .ref rc, .ref cu]))) (hc_w : M w = some (.inr (6, [.int td, .int gd, .int bc, .int py, .int rf, .int lt, .int tl, .int fp, .ref cs, .ref bs, .ref tp]))) (hc_bs : M bs = some (.inl (kA 5, 4, .inr (.inr (.inr (.inr g)))))) (hc_tp : M tp = some (.inl (kA 1, 600, .inl fb))) (hc_im : M im = some (.inl (kA 6, 3, .inr (.inr (.inr (.inr gi)))))) (hc_rd : M rd = some (.inr (3, [.ref nb, .ref (zv z vi), .int no, .int wi, .ref by_, .int le, .int ki, .int pl, .int be, .int vr]))) (hc_rc : M rc = some (.inr (4, [.ref rb, .ref rs, .ref rp, .int pm]))) (hc_mo : M mo = some (.inr (8, [.ref al, .ref mt, .ref ii, .int ta, .int fpm, .ref pa, .int sm, .int nx, .int tk, .int plm, .int ln, .long va, .int wr, .ref li]))) (hc_al : M al = some (.inl (kA 0, 7506, .inl F))) (hc_mt : M mt = some (.inl (kA 0, 600, .inl ft))) (hc_ii : M ii = some (.inl (kA 2, 3, .inl fi))) (hn_ro : T ro = none) (hn_w : T w = none) (hn_tp : T tp = none) (hn_im : T im = none) (hn_rd : T rd = none) (hn_rc : T rc = none) (hn_mo : T mo = none) (hn_al : T al = none) (hn_mt : T mt = none) (hn_ii : T ii = none) (t_cu : T cu = some 9) (t_cs : T cs = some 3) (t_bs : T bs = some 6) (t_nb : T nb = some 12) (t_rb : T rb = some 2) (t_rs : T rs = some 3) (t_rp : T rp = some 5) (t_pa : T pa = some 13) (t_li : T li = some 14) (htd : 0 ≤ td.toInt ∧ td.toInt ≤ 999) (hbc : 0 ≤ bc.toInt ∧ bc.toInt ≤ 4) (htl : 0 ≤ tl.toInt ∧ tl.toInt ≤ 600) (hvi : vi < 19) (hno : 0 ≤ no.toInt ∧ no.toInt ≤ 1) (hwi : 0 ≤ wi.toInt ∧ wi.toInt ≤ 1) (hpm : 0 ≤ pm.toInt ∧ pm.toInt ≤ 14) (hta : 0 ≤ ta.toInt ∧ ta.toInt ≤ 600) (hRT : ta.toInt = tl.toInt) (hFQ : fpm.toInt = fp.toInt) (hby : Byt fb) (hTX : nC ft = nC fb) (hnn : NN ft) (hg : ∀ j, j < 4 → ∃ q, g j = some q ∧ T q = some 2) (hg3 : ∀ j, 3 ≤ j → gi j = none) (him : ImsOK kA M T w tp gi ai ti pi bi) (hR_F : Rng F) (hRI : RelI gi ti pi bi fi F) (n_ro_w : ro ≠ w) (n_w_ro : w ≠ ro) (n_ro_bs : ro ≠ bs) (n_bs_ro : bs ≠ ro) (n_ro_tp : ro ≠ tp) (n_tp_ro : tp ≠ ro) (n_ro_im : ro ≠ im) (n_im_ro : im ≠ ro) (n_ro_rd : ro ≠ rd) (n_rd_ro : rd ≠ ro) (n_ro_rc : ro ≠ rc) (n_rc_ro : rc ≠ ro) (n_ro_mo : ro ≠ mo) (n_mo_ro : mo ≠ ro) (n_ro_al : ro ≠ al) (n_al_ro : al ≠ ro) (n_ro_mt : ro ≠ mt) (n_mt_ro : mt ≠ ro) (n_ro_ii : ro ≠ ii) (n_ii_ro : ii ≠ ro) (n_w_bs : w ≠ bs) (n_bs_w : bs ≠ w) (n_w_tp : w ≠ tp) (n_tp_w : tp ≠ w) (n_w_im : w ≠ im) (n_im_w : im ≠ w) (n_w_rd : w ≠ rd) (n_rd_w : rd ≠ w) (n_w_rc : w ≠ rc) (n_rc_w : rc ≠ w) (n_w_mo : w ≠ mo) (n_mo_w : mo ≠ w) (n_w_al : w ≠ al) (n_al_w : al ≠ w) (n_w_mt : w ≠ mt) (n_mt_w : mt ≠ w) (n_w_ii : w ≠ ii) (n_ii_w : ii ≠ w) (n_bs_tp : bs ≠ tp) (n_tp_bs : tp ≠ bs) (n_bs_im : bs ≠ im) (n_im_bs : im ≠ bs) (n_bs_rd : bs ≠ rd) (n_rd_bs : rd ≠ bs) (n_bs_rc : bs ≠ rc) (n_rc_bs : rc ≠ bs) (n_bs_mo : bs ≠ mo) (n_mo_bs : mo ≠ bs) (n_bs_al : bs ≠ al) (n_al_bs : al ≠ bs) (n_bs_mt : bs ≠ mt) (n_mt_bs : mt ≠ bs) (n_bs_ii : bs ≠ ii) (n_ii_bs : ii ≠ bs) (n_tp_im : tp ≠ im) (n_im_tp : im ≠ tp) (n_tp_rd : tp ≠ rd) (n_rd_tp : rd ≠ tp) (n_tp_rc : tp ≠ rc) (n_rc_tp : rc ≠ tp) (n_tp_mo : tp ≠ mo) (n_mo_tp : mo ≠ tp) (n_tp_al : tp ≠ al) (n_al_tp : al ≠ tp) (n_tp_mt : tp ≠ mt) (n_mt_tp : mt ≠ tp) (n_tp_ii : tp ≠ ii) (n_ii_tp : ii ≠ tp) (n_im_rd : im ≠ rd) (n_rd_im : rd ≠ im) (n_im_rc : im ≠ rc) (n_rc_im : rc ≠ im) (n_im_mo : im ≠ mo) (n_mo_im : mo ≠ im) (n_im_al : im ≠ al) (n_al_im : al ≠ im) (n_im_mt : im ≠ mt) (n_mt_im : mt ≠ im) (n_im_ii : im ≠ ii) (n_ii_im : ii ≠ im) (n_rd_rc : rd ≠ rc) (n_rc_rd : rc ≠ rd) (n_rd_mo : rd ≠ mo) (n_mo_rd : mo ≠ rd) (n_rd_al : rd ≠ al) (n_al_rd : al ≠ rd) (n_rd_mt : rd ≠ mt) (n_mt_rd : mt ≠ rd) (n_rd_ii : rd ≠ ii) (n_ii_rd : ii ≠ rd) (n_rc_mo : rc ≠ mo) (n_mo_rc : mo ≠ rc) (n_rc_al : rc ≠ al) (n_al_rc : al ≠ rc) (n_rc_mt : rc ≠ mt) (n_mt_rc : mt ≠ rc) (n_rc_ii : rc ≠ ii) (n_ii_rc : ii ≠ rc) (n_mo_al : mo ≠ al) (n_al_mo : al ≠ mo) (n_mo_mt : mo ≠ mt) (n_mt_mo : mt ≠ mo) (n_mo_ii : mo ≠ ii) (n_ii_mo : ii ≠ mo) (n_al_mt : al ≠ mt) (n_mt_al : mt ≠ al) (n_al_ii : al ≠ ii) (n_ii_al : ii ≠ al) (n_mt_ii : mt ≠ ii) (n_ii_mt : ii ≠ mt) (hi0 : 0 ≤ i.toInt) (hi6 : i.toInt + 6 ≤ (L : Int)) (hcl : cells + 92 ≤ 600000) (hsl : slots + 1627 ≤ 7302250) (hH : mS D kA M T A s.heap Hq_ lcq_) (hl : lv_has ls 4 [(3, .int i), (2, .ref mo), (1, .ref ro), (0, .ref b)]) (kk : ∀ (M1 : mM) (T1 : mT) (H1 : Heap) (locs1 : List Loc) (ls1 : Array Slot) (cl1 sl1 : Nat), LI z kA M1 T1 ro mo → mS D kA M1 T1 A s.heap H1 locs1 → lv_has ls1 4 [(3, .int i), (2, .ref mo), (1, .ref ro), (0, .ref b)] → cl1 ≤ cells + 92 → sl1 ≤ slots + 1627 → W p l e room_1 s m #[Value.ref b] below meth c H1 locs1 cl1 sl1 (lw_Z below #[Value.ref b] s) (F0 m 1370 ls1 [])) : W p l e room_1 s m #[Value.ref b] below meth c Hq_ lcq_ cells slots (lw_Z below #[Value.ref b] s) (F0 m 270 ls []) := by
  obtain ⟨hx, hb, hr, hml, hown, hts, hX, hbl, hlocks, hgv⟩ := id C0
  have hC : CallFix p m c cL_law 4 s #[Value.ref b] TB RL := ⟨hx, hb, hml, hown, fun w h => hts w (TB_in h)⟩
  have hbA : ¬ A b := fun h => absurd (hAq b h) (Nat.not_le.mpr hbl)
  refine lv_aload_n hx hb dL_law_270 rfl (lv_at hl 2 rfl) ?_
  refine lv_aload_n hx hb dL_law_271 rfl (lv_at hl 3 rfl) ?_
  refine lv_iload_n hx hb dL_law_272 rfl (lv_at hl 0 rfl) ?_
  refine lv_iconst (v := 1) hx hb dL_law_273 (by decide) ?_
  refine lv_iadd hx hb dL_law_274 ?_
  refine lv_topi (fun zq1_ e_zq1_ => ?_)
  have h_zq1_ : zq1_.toInt = i.toInt + (1 : Int32).toInt := sIa hi0 hi6 hL e_zq1_ (by decide) (by decide)
  refine va_sld hx hb hX hbl hbA hH.2.1 (sIx hi0 hi6 h_zq1_ (by decide) (by decide)) dL_law_275 ?_
  refine lv_topi (fun vq2_ e_vq2_ => ?_)
  refine jif_eq (tgt := 283) hx hb dL_law_276 (by decide) (fun cq3_ => ?_) (fun cq3_ => ?_)
  · skip
    have cq3_ : vq2_.toInt = 0 := cq3_
    refine lv_iconst (v := 0) hx hb dL_law_283 (by decide) ?_
    have hO_rd := hc_rd
    have hO_rc := hc_rc
    have hO_mo := hc_mo
    have hO_al := hc_al
    have hO_ii := hc_ii
    have hO_im := hc_im
    have hO_mt := hc_mt
    refine goI hK hH (runVB (As := [.int 0]) (rest := []) hC hK hH hZ (c_X9_text hc_ro hn_ro hc_w hn_w hc_bs hc_rd hn_rd hc_tp hn_tp t_cs t_bs t_nb (by exact htd) (by exact hbc) (by exact htl) (by exact hvi) (by exact hno) (by exact hwi) hg) mlL_23 (rcvM hK hH hc_ro rfl) ⟨⟨Nat.le_of_ble_eq_true rfl, Nat.le_of_ble_eq_true rfl⟩, lcA hcl, lcA hsl⟩ rfl hl.1 rfl (Nat.le_of_ble_eq_true rfl) dL_law_284) (fun rq6_ Mq4_ Tq5_ Hq_ lcq_ hP hz hH => ?_)
    try dsimp only at hP
    obtain ⟨xq9_, ⟨l_xq9_, g_xq9_⟩, xq10_, ⟨l_xq10_, g_xq10_⟩, xq11_, ⟨l_xq11_, g_xq11_⟩, xq12_, ⟨l_xq12_, g_xq12_⟩, xq13_, ⟨l_xq13_, g_xq13_⟩, xq14_, ⟨l_xq14_, g_xq14_⟩, xq15_, ⟨l_xq15_, g_xq15_⟩, xq16_, ⟨l_xq16_, g_xq16_⟩, xq17_, ⟨l_xq17_, g_xq17_⟩, xq18_, ⟨l_xq18_, g_xq18_⟩, xq19_, ⟨l_xq19_, g_xq19_⟩, xq20_, ⟨l_xq20_, g_xq20_⟩, xq21_, ⟨l_xq21_, g_xq21_⟩, xq22_, ⟨l_xq22_, g_xq22_⟩, vq8_, h_vq8_, (⟨cq7_, hx_w, hx_rd⟩), eT, hfr⟩ := hP
    have eT := eT.symm; subst eT
    have hc_ro : Mq4_ ro = some (.inr (7, [.ref w, .ref im, .ref rd, .ref rc, .ref cu])) := (hfr ro (Or.inl hn_ro) n_ro_w n_ro_rd).trans hc_ro
    have hc_w : Mq4_ w = some (.inr (6, [.int xq9_, .int xq10_, .int xq11_, .int xq12_, .int xq13_, .int xq14_, .int 0, .int xq15_, .ref cs, .ref bs, .ref tp])) := hx_w
    have hc_bs : Mq4_ bs = some (.inl (kA 5, 4, .inr (.inr (.inr (.inr g))))) := (hfr bs (Or.inr t_bs) n_bs_w n_bs_rd).trans hc_bs
    have hc_tp : Mq4_ tp = some (.inl (kA 1, 600, .inl fb)) := (hfr tp (Or.inl hn_tp) n_tp_w n_tp_rd).trans hc_tp
    have hc_im : Mq4_ im = some (.inl (kA 6, 3, .inr (.inr (.inr (.inr gi))))) := (hfr im (Or.inl hn_im) n_im_w n_im_rd).trans hc_im
    have hc_rd : Mq4_ rd = some (.inr (3, [.ref nb, .ref (zv z vq8_), .int xq17_, .int xq18_, .ref tp, .int xq16_, .int xq19_, .int xq20_, .int xq21_, .int xq22_])) := hx_rd
    have hc_rc : Mq4_ rc = some (.inr (4, [.ref rb, .ref rs, .ref rp, .int pm])) := (hfr rc (Or.inl hn_rc) n_rc_w n_rc_rd).trans hc_rc
    have hc_mo : Mq4_ mo = some (.inr (8, [.ref al, .ref mt, .ref ii, .int ta, .int fpm, .ref pa, .int sm, .int nx, .int tk, .int plm, .int ln, .long va, .int wr, .ref li])) := (hfr mo (Or.inl hn_mo) n_mo_w n_mo_rd).trans hc_mo
    have hc_al : Mq4_ al = some (.inl (kA 0, 7506, .inl F)) := (hfr al (Or.inl hn_al) n_al_w n_al_rd).trans hc_al
    have hc_mt : Mq4_ mt = some (.inl (kA 0, 600, .inl ft)) := (hfr mt (Or.inl hn_mt) n_mt_w n_mt_rd).trans hc_mt
    have hc_ii : Mq4_ ii = some (.inl (kA 2, 3, .inl fi)) := (hfr ii (Or.inl hn_ii) n_ii_w n_ii_rd).trans hc_ii
    have cq7_ : xq15_.toInt = FT fb tl.toInt.toNat := cq7_
    have him : ImsOK kA Mq4_ T w tp gi ai ti pi bi := him.mv hn_w hn_tp (fun q hA hw hp hk => hfr q hA hw (fun z9 => by rw [z9] at hk; exact nW3 (by decide) (hk _ hO_rd)))
    refine lv_pop hx hb dL_law_287 rfl ?_
    refine lv_aload_n hx hb dL_law_288 rfl (lv_at hl 1 rfl) ?_
    refine lv_aload_n hx hb dL_law_289 rfl (lv_at hl 3 rfl) ?_
    refine lv_iload_n hx hb dL_law_290 rfl (lv_at hl 0 rfl) ?_
    refine lv_iconst (v := 1) hx hb dL_law_291 (by decide) ?_
    refine lv_iadd hx hb dL_law_292 ?_
    refine lv_cst (v := zq1_) e_zq1_.symm ?_
    refine va_sld hx hb hX hbl hbA hH.2.1 (sIx hi0 hi6 h_zq1_ (by decide) (by decide)) dL_law_293 ?_
    refine lv_cst (v := vq2_) e_vq2_.symm ?_
    refine jif_eq (tgt := 301) hx hb dL_law_294 (by decide) (fun cq23_ => ?_) (fun cq23_ => absurd cq23_ (by have := iRg vq2_; have : (0 : Int32).toInt = 0 := rfl; omega))
    have cq23_ : vq2_.toInt = 0 := cq23_
    refine lv_iconst (v := 0) hx hb dL_law_301 (by decide) ?_
    have hO_rd := hc_rd
    have hO_rc := hc_rc
    have hO_mo := hc_mo
    have hO_al := hc_al
    have hO_ii := hc_ii
    have hO_im := hc_im
    have hO_mt := hc_mt
    refine goI hK hH (runVB (As := [.int 0]) (rest := []) hC hK hH hZ (c_X10_text hc_mo hn_mo hc_al hn_al hc_mt hn_mt t_pa t_li (by exact hR_F) (by exact hta) (by exact hnn)) mlL_27 (rcvM hK hH hc_mo rfl) ⟨⟨Nat.le_of_ble_eq_true rfl, Nat.le_of_ble_eq_true rfl⟩, lcA hcl, lcA hsl⟩ rfl hl.1 rfl (Nat.le_of_ble_eq_true rfl) dL_law_302) (fun rq27_ Mq25_ Tq26_ Hq_ lcq_ hP hz hH => ?_)
    try dsimp only at hP
    obtain ⟨xq24_, gq36_, h_gq36_, xq29_, ⟨l_xq29_, g_xq29_⟩, xq30_, ⟨l_xq30_, g_xq30_⟩, xq31_, ⟨l_xq31_, g_xq31_⟩, xq32_, ⟨l_xq32_, g_xq32_⟩, xq33_, ⟨l_xq33_, g_xq33_⟩, xq34_, ⟨l_xq34_, g_xq34_⟩, xq35_, ⟨l_xq35_, g_xq35_⟩, (⟨cq28_, hx_al, hx_mo⟩), eT, hfr⟩ := hP
    have eT := eT.symm; subst eT
    have hc_ro : Mq25_ ro = some (.inr (7, [.ref w, .ref im, .ref rd, .ref rc, .ref cu])) := (hfr ro (Or.inl hn_ro) n_ro_al n_ro_mo).trans hc_ro
    have hc_w : Mq25_ w = some (.inr (6, [.int xq9_, .int xq10_, .int xq11_, .int xq12_, .int xq13_, .int xq14_, .int 0, .int xq15_, .ref cs, .ref bs, .ref tp])) := (hfr w (Or.inl hn_w) n_w_al n_w_mo).trans hc_w
    have hc_bs : Mq25_ bs = some (.inl (kA 5, 4, .inr (.inr (.inr (.inr g))))) := (hfr bs (Or.inr (Or.inl t_bs)) n_bs_al n_bs_mo).trans hc_bs
    have hc_tp : Mq25_ tp = some (.inl (kA 1, 600, .inl fb)) := (hfr tp (Or.inl hn_tp) n_tp_al n_tp_mo).trans hc_tp
    have hc_im : Mq25_ im = some (.inl (kA 6, 3, .inr (.inr (.inr (.inr gi))))) := (hfr im (Or.inl hn_im) n_im_al n_im_mo).trans hc_im
    have hc_rd : Mq25_ rd = some (.inr (3, [.ref nb, .ref (zv z vq8_), .int xq17_, .int xq18_, .ref tp, .int xq16_, .int xq19_, .int xq20_, .int xq21_, .int xq22_])) := (hfr rd (Or.inl hn_rd) n_rd_al n_rd_mo).trans hc_rd
    have hc_rc : Mq25_ rc = some (.inr (4, [.ref rb, .ref rs, .ref rp, .int pm])) := (hfr rc (Or.inl hn_rc) n_rc_al n_rc_mo).trans hc_rc
    have hc_mo : Mq25_ mo = some (.inr (8, [.ref al, .ref mt, .ref ii, .int 0, .int xq29_, .ref pa, .int xq30_, .int xq31_, .int xq32_, .int xq33_, .int xq34_, .long xq24_, .int xq35_, .ref li])) := hx_mo
    have hc_al : Mq25_ al = some (.inl (kA 0, 7506, .inl gq36_)) := hx_al
    have hc_mt : Mq25_ mt = some (.inl (kA 0, 600, .inl ft)) := (hfr mt (Or.inl hn_mt) n_mt_al n_mt_mo).trans hc_mt
    have hc_ii : Mq25_ ii = some (.inl (kA 2, 3, .inl fi)) := (hfr ii (Or.inl hn_ii) n_ii_al n_ii_mo).trans hc_ii
    have hR_gq36_ : Rng gq36_ := h_gq36_.1
    have hRI := hRI.ke (h_gq36_.2)
    have cq28_ : xq29_.toInt = FT ft ta.toInt.toNat := cq28_
    have him : ImsOK kA Mq25_ T w tp gi ai ti pi bi := him.mv hn_w hn_tp (fun q hA hw hp hk => hfr q (FrA.k hA) (fun z9 => by rw [z9] at hk; exact nWi (by decide) (hk _ hO_al)) (fun z9 => by rw [z9] at hk; exact nW3 (by decide) (hk _ hO_mo)))
    have hFQ9 : xq29_.toInt = xq15_.toInt := by rw [cq28_, cq7_, FT_eq hTX, show ta.toInt.toNat = tl.toInt.toNat by omega]
    refine lv_pop hx hb dL_law_305 rfl ?_
    refine lv_goto (tgt := 1370) hx hb dL_law_306 (by decide) ?_
    exact kk _ _ _ _ ls _ _ ⟨w, im, rd, rc, cu, cs, bs, tp, nb, tp, vq8_, rb, rs, rp, al, mt, ii, pa, li, xq9_, xq10_, xq11_, xq12_, xq13_, xq14_, 0, xq15_, xq17_, xq18_, xq16_, xq19_, xq20_, xq21_, xq22_, pm, 0, xq29_, xq30_, xq31_, xq32_, xq33_, xq34_, xq35_, xq24_, g, gi, ai, ti, pi, fi, gq36_, fb, ft, bi, hc_ro, hc_w, hc_bs, hc_tp, hc_im, hc_rd, hc_rc, hc_mo, hc_al, hc_mt, hc_ii, hn_ro, hn_w, hn_tp, hn_im, hn_rd, hn_rc, hn_mo, hn_al, hn_mt, hn_ii, t_cu, t_cs, t_bs, t_nb, t_rb, t_rs, t_rp, t_pa, t_li, ⟨l_xq9_, g_xq9_⟩, ⟨l_xq11_, g_xq11_⟩, (by decide), h_vq8_, ⟨l_xq17_, g_xq17_⟩, ⟨l_xq18_, g_xq18_⟩, hpm, (by decide), (by have : (0 : Int32).toInt = 0 := rfl; omega), (by omega), hby, hTX, hnn, hg, hg3, him, hR_gq36_, hRI⟩ hH (lv_sub hl [0, 1, 2, 3] rfl) (Nat.le_add_right _ _) (Nat.le_add_right _ _)
  · skip
    have cq3_ : vq2_.toInt ≠ 0 := cq3_
    refine lv_iconst (v := 1) hx hb dL_law_279 (by decide) ?_
    refine lv_goto (tgt := 284) hx hb dL_law_280 (by decide) ?_
    have hO_rd := hc_rd
    have hO_rc := hc_rc
    have hO_mo := hc_mo
    have hO_al := hc_al
    have hO_ii := hc_ii
    have hO_im := hc_im
    have hO_mt := hc_mt
    refine goI hK hH (runVB (As := [.int 1]) (rest := []) hC hK hH hZ (c_X9_text hc_ro hn_ro hc_w hn_w hc_bs hc_rd hn_rd hc_tp hn_tp t_cs t_bs t_nb (by exact htd) (by exact hbc) (by exact htl) (by exact hvi) (by exact hno) (by exact hwi) hg) mlL_23 (rcvM hK hH hc_ro rfl) ⟨⟨Nat.le_of_ble_eq_true rfl, Nat.le_of_ble_eq_true rfl⟩, lcA hcl, lcA hsl⟩ rfl hl.1 rfl (Nat.le_of_ble_eq_true rfl) dL_law_284) (fun rq39_ Mq37_ Tq38_ Hq_ lcq_ hP hz hH => ?_)
    try dsimp only at hP
    obtain ⟨xq42_, ⟨l_xq42_, g_xq42_⟩, xq43_, ⟨l_xq43_, g_xq43_⟩, xq44_, ⟨l_xq44_, g_xq44_⟩, xq45_, ⟨l_xq45_, g_xq45_⟩, xq46_, ⟨l_xq46_, g_xq46_⟩, xq47_, ⟨l_xq47_, g_xq47_⟩, xq48_, ⟨l_xq48_, g_xq48_⟩, xq49_, ⟨l_xq49_, g_xq49_⟩, xq50_, ⟨l_xq50_, g_xq50_⟩, xq51_, ⟨l_xq51_, g_xq51_⟩, xq52_, ⟨l_xq52_, g_xq52_⟩, xq53_, ⟨l_xq53_, g_xq53_⟩, xq54_, ⟨l_xq54_, g_xq54_⟩, xq55_, ⟨l_xq55_, g_xq55_⟩, vq41_, h_vq41_, (⟨cq40_, hx_w, hx_rd⟩), eT, hfr⟩ := hP
    have eT := eT.symm; subst eT
    have hc_ro : Mq37_ ro = some (.inr (7, [.ref w, .ref im, .ref rd, .ref rc, .ref cu])) := (hfr ro (Or.inl hn_ro) n_ro_w n_ro_rd).trans hc_ro
    have hc_w : Mq37_ w = some (.inr (6, [.int xq42_, .int xq43_, .int xq44_, .int xq45_, .int xq46_, .int xq47_, .int 0, .int xq48_, .ref cs, .ref bs, .ref tp])) := hx_w
    have hc_bs : Mq37_ bs = some (.inl (kA 5, 4, .inr (.inr (.inr (.inr g))))) := (hfr bs (Or.inr t_bs) n_bs_w n_bs_rd).trans hc_bs
    have hc_tp : Mq37_ tp = some (.inl (kA 1, 600, .inl fb)) := (hfr tp (Or.inl hn_tp) n_tp_w n_tp_rd).trans hc_tp
    have hc_im : Mq37_ im = some (.inl (kA 6, 3, .inr (.inr (.inr (.inr gi))))) := (hfr im (Or.inl hn_im) n_im_w n_im_rd).trans hc_im
    have hc_rd : Mq37_ rd = some (.inr (3, [.ref nb, .ref (zv z vq41_), .int xq50_, .int xq51_, .ref tp, .int xq49_, .int xq52_, .int xq53_, .int xq54_, .int xq55_])) := hx_rd
    have hc_rc : Mq37_ rc = some (.inr (4, [.ref rb, .ref rs, .ref rp, .int pm])) := (hfr rc (Or.inl hn_rc) n_rc_w n_rc_rd).trans hc_rc
    have hc_mo : Mq37_ mo = some (.inr (8, [.ref al, .ref mt, .ref ii, .int ta, .int fpm, .ref pa, .int sm, .int nx, .int tk, .int plm, .int ln, .long va, .int wr, .ref li])) := (hfr mo (Or.inl hn_mo) n_mo_w n_mo_rd).trans hc_mo
    have hc_al : Mq37_ al = some (.inl (kA 0, 7506, .inl F)) := (hfr al (Or.inl hn_al) n_al_w n_al_rd).trans hc_al
    have hc_mt : Mq37_ mt = some (.inl (kA 0, 600, .inl ft)) := (hfr mt (Or.inl hn_mt) n_mt_w n_mt_rd).trans hc_mt
    have hc_ii : Mq37_ ii = some (.inl (kA 2, 3, .inl fi)) := (hfr ii (Or.inl hn_ii) n_ii_w n_ii_rd).trans hc_ii
    have cq40_ : xq48_.toInt = FT fb tl.toInt.toNat := cq40_
    have him : ImsOK kA Mq37_ T w tp gi ai ti pi bi := him.mv hn_w hn_tp (fun q hA hw hp hk => hfr q hA hw (fun z9 => by rw [z9] at hk; exact nW3 (by decide) (hk _ hO_rd)))
    refine lv_pop hx hb dL_law_287 rfl ?_
    refine lv_aload_n hx hb dL_law_288 rfl (lv_at hl 1 rfl) ?_
    refine lv_aload_n hx hb dL_law_289 rfl (lv_at hl 3 rfl) ?_
    refine lv_iload_n hx hb dL_law_290 rfl (lv_at hl 0 rfl) ?_
    refine lv_iconst (v := 1) hx hb dL_law_291 (by decide) ?_
    refine lv_iadd hx hb dL_law_292 ?_
    refine lv_cst (v := zq1_) e_zq1_.symm ?_
    refine va_sld hx hb hX hbl hbA hH.2.1 (sIx hi0 hi6 h_zq1_ (by decide) (by decide)) dL_law_293 ?_
    refine lv_cst (v := vq2_) e_vq2_.symm ?_
    refine jif_eq (tgt := 301) hx hb dL_law_294 (by decide) (fun cq56_ => ?_) (fun cq56_ => ?_)
    · skip
      have cq56_ : vq2_.toInt = 0 := cq56_
      refine lv_iconst (v := 0) hx hb dL_law_301 (by decide) ?_
      have hO_rd := hc_rd
      have hO_rc := hc_rc
      have hO_mo := hc_mo
      have hO_al := hc_al
      have hO_ii := hc_ii
      have hO_im := hc_im
      have hO_mt := hc_mt
      refine goI hK hH (runVB (As := [.int 0]) (rest := []) hC hK hH hZ (c_X10_text hc_mo hn_mo hc_al hn_al hc_mt hn_mt t_pa t_li (by exact hR_F) (by exact hta) (by exact hnn)) mlL_27 (rcvM hK hH hc_mo rfl) ⟨⟨Nat.le_of_ble_eq_true rfl, Nat.le_of_ble_eq_true rfl⟩, lcA hcl, lcA hsl⟩ rfl hl.1 rfl (Nat.le_of_ble_eq_true rfl) dL_law_302) (fun rq60_ Mq58_ Tq59_ Hq_ lcq_ hP hz hH => ?_)
      try dsimp only at hP
      obtain ⟨xq57_, gq69_, h_gq69_, xq62_, ⟨l_xq62_, g_xq62_⟩, xq63_, ⟨l_xq63_, g_xq63_⟩, xq64_, ⟨l_xq64_, g_xq64_⟩, xq65_, ⟨l_xq65_, g_xq65_⟩, xq66_, ⟨l_xq66_, g_xq66_⟩, xq67_, ⟨l_xq67_, g_xq67_⟩, xq68_, ⟨l_xq68_, g_xq68_⟩, (⟨cq61_, hx_al, hx_mo⟩), eT, hfr⟩ := hP
      have eT := eT.symm; subst eT
      have hc_ro : Mq58_ ro = some (.inr (7, [.ref w, .ref im, .ref rd, .ref rc, .ref cu])) := (hfr ro (Or.inl hn_ro) n_ro_al n_ro_mo).trans hc_ro
      have hc_w : Mq58_ w = some (.inr (6, [.int xq42_, .int xq43_, .int xq44_, .int xq45_, .int xq46_, .int xq47_, .int 0, .int xq48_, .ref cs, .ref bs, .ref tp])) := (hfr w (Or.inl hn_w) n_w_al n_w_mo).trans hc_w
      have hc_bs : Mq58_ bs = some (.inl (kA 5, 4, .inr (.inr (.inr (.inr g))))) := (hfr bs (Or.inr (Or.inl t_bs)) n_bs_al n_bs_mo).trans hc_bs
      have hc_tp : Mq58_ tp = some (.inl (kA 1, 600, .inl fb)) := (hfr tp (Or.inl hn_tp) n_tp_al n_tp_mo).trans hc_tp
      have hc_im : Mq58_ im = some (.inl (kA 6, 3, .inr (.inr (.inr (.inr gi))))) := (hfr im (Or.inl hn_im) n_im_al n_im_mo).trans hc_im
      have hc_rd : Mq58_ rd = some (.inr (3, [.ref nb, .ref (zv z vq41_), .int xq50_, .int xq51_, .ref tp, .int xq49_, .int xq52_, .int xq53_, .int xq54_, .int xq55_])) := (hfr rd (Or.inl hn_rd) n_rd_al n_rd_mo).trans hc_rd
      have hc_rc : Mq58_ rc = some (.inr (4, [.ref rb, .ref rs, .ref rp, .int pm])) := (hfr rc (Or.inl hn_rc) n_rc_al n_rc_mo).trans hc_rc
      have hc_mo : Mq58_ mo = some (.inr (8, [.ref al, .ref mt, .ref ii, .int 0, .int xq62_, .ref pa, .int xq63_, .int xq64_, .int xq65_, .int xq66_, .int xq67_, .long xq57_, .int xq68_, .ref li])) := hx_mo
      have hc_al : Mq58_ al = some (.inl (kA 0, 7506, .inl gq69_)) := hx_al
      have hc_mt : Mq58_ mt = some (.inl (kA 0, 600, .inl ft)) := (hfr mt (Or.inl hn_mt) n_mt_al n_mt_mo).trans hc_mt
      have hc_ii : Mq58_ ii = some (.inl (kA 2, 3, .inl fi)) := (hfr ii (Or.inl hn_ii) n_ii_al n_ii_mo).trans hc_ii
      have hR_gq69_ : Rng gq69_ := h_gq69_.1
      have hRI := hRI.ke (h_gq69_.2)
      have cq61_ : xq62_.toInt = FT ft ta.toInt.toNat := cq61_
      have him : ImsOK kA Mq58_ T w tp gi ai ti pi bi := him.mv hn_w hn_tp (fun q hA hw hp hk => hfr q (FrA.k hA) (fun z9 => by rw [z9] at hk; exact nWi (by decide) (hk _ hO_al)) (fun z9 => by rw [z9] at hk; exact nW3 (by decide) (hk _ hO_mo)))
      have hFQ9 : xq62_.toInt = xq48_.toInt := by rw [cq61_, cq40_, FT_eq hTX, show ta.toInt.toNat = tl.toInt.toNat by omega]
      refine lv_pop hx hb dL_law_305 rfl ?_
      refine lv_goto (tgt := 1370) hx hb dL_law_306 (by decide) ?_
      exact kk _ _ _ _ ls _ _ ⟨w, im, rd, rc, cu, cs, bs, tp, nb, tp, vq41_, rb, rs, rp, al, mt, ii, pa, li, xq42_, xq43_, xq44_, xq45_, xq46_, xq47_, 0, xq48_, xq50_, xq51_, xq49_, xq52_, xq53_, xq54_, xq55_, pm, 0, xq62_, xq63_, xq64_, xq65_, xq66_, xq67_, xq68_, xq57_, g, gi, ai, ti, pi, fi, gq69_, fb, ft, bi, hc_ro, hc_w, hc_bs, hc_tp, hc_im, hc_rd, hc_rc, hc_mo, hc_al, hc_mt, hc_ii, hn_ro, hn_w, hn_tp, hn_im, hn_rd, hn_rc, hn_mo, hn_al, hn_mt, hn_ii, t_cu, t_cs, t_bs, t_nb, t_rb, t_rs, t_rp, t_pa, t_li, ⟨l_xq42_, g_xq42_⟩, ⟨l_xq44_, g_xq44_⟩, (by decide), h_vq41_, ⟨l_xq50_, g_xq50_⟩, ⟨l_xq51_, g_xq51_⟩, hpm, (by decide), (by have : (0 : Int32).toInt = 0 := rfl; omega), (by omega), hby, hTX, hnn, hg, hg3, him, hR_gq69_, hRI⟩ hH (lv_sub hl [0, 1, 2, 3] rfl) (Nat.le_add_right _ _) (Nat.le_add_right _ _)
    · skip
      have cq56_ : vq2_.toInt ≠ 0 := cq56_
      refine lv_iconst (v := 1) hx hb dL_law_297 (by decide) ?_
      refine lv_goto (tgt := 302) hx hb dL_law_298 (by decide) ?_
      have hO_rd := hc_rd
      have hO_rc := hc_rc
      have hO_mo := hc_mo
      have hO_al := hc_al
      have hO_ii := hc_ii
      have hO_im := hc_im
      have hO_mt := hc_mt
      refine goI hK hH (runVB (As := [.int 1]) (rest := []) hC hK hH hZ (c_X10_text hc_mo hn_mo hc_al hn_al hc_mt hn_mt t_pa t_li (by exact hR_F) (by exact hta) (by exact hnn)) mlL_27 (rcvM hK hH hc_mo rfl) ⟨⟨Nat.le_of_ble_eq_true rfl, Nat.le_of_ble_eq_true rfl⟩, lcA hcl, lcA hsl⟩ rfl hl.1 rfl (Nat.le_of_ble_eq_true rfl) dL_law_302) (fun rq73_ Mq71_ Tq72_ Hq_ lcq_ hP hz hH => ?_)
      try dsimp only at hP
      obtain ⟨xq70_, gq82_, h_gq82_, xq75_, ⟨l_xq75_, g_xq75_⟩, xq76_, ⟨l_xq76_, g_xq76_⟩, xq77_, ⟨l_xq77_, g_xq77_⟩, xq78_, ⟨l_xq78_, g_xq78_⟩, xq79_, ⟨l_xq79_, g_xq79_⟩, xq80_, ⟨l_xq80_, g_xq80_⟩, xq81_, ⟨l_xq81_, g_xq81_⟩, (⟨cq74_, hx_al, hx_mo⟩), eT, hfr⟩ := hP
      have eT := eT.symm; subst eT
      have hc_ro : Mq71_ ro = some (.inr (7, [.ref w, .ref im, .ref rd, .ref rc, .ref cu])) := (hfr ro (Or.inl hn_ro) n_ro_al n_ro_mo).trans hc_ro
      have hc_w : Mq71_ w = some (.inr (6, [.int xq42_, .int xq43_, .int xq44_, .int xq45_, .int xq46_, .int xq47_, .int 0, .int xq48_, .ref cs, .ref bs, .ref tp])) := (hfr w (Or.inl hn_w) n_w_al n_w_mo).trans hc_w
      have hc_bs : Mq71_ bs = some (.inl (kA 5, 4, .inr (.inr (.inr (.inr g))))) := (hfr bs (Or.inr (Or.inl t_bs)) n_bs_al n_bs_mo).trans hc_bs
      have hc_tp : Mq71_ tp = some (.inl (kA 1, 600, .inl fb)) := (hfr tp (Or.inl hn_tp) n_tp_al n_tp_mo).trans hc_tp
      have hc_im : Mq71_ im = some (.inl (kA 6, 3, .inr (.inr (.inr (.inr gi))))) := (hfr im (Or.inl hn_im) n_im_al n_im_mo).trans hc_im
      have hc_rd : Mq71_ rd = some (.inr (3, [.ref nb, .ref (zv z vq41_), .int xq50_, .int xq51_, .ref tp, .int xq49_, .int xq52_, .int xq53_, .int xq54_, .int xq55_])) := (hfr rd (Or.inl hn_rd) n_rd_al n_rd_mo).trans hc_rd
      have hc_rc : Mq71_ rc = some (.inr (4, [.ref rb, .ref rs, .ref rp, .int pm])) := (hfr rc (Or.inl hn_rc) n_rc_al n_rc_mo).trans hc_rc
      have hc_mo : Mq71_ mo = some (.inr (8, [.ref al, .ref mt, .ref ii, .int 0, .int xq75_, .ref pa, .int xq76_, .int xq77_, .int xq78_, .int xq79_, .int xq80_, .long xq70_, .int xq81_, .ref li])) := hx_mo
      have hc_al : Mq71_ al = some (.inl (kA 0, 7506, .inl gq82_)) := hx_al
      have hc_mt : Mq71_ mt = some (.inl (kA 0, 600, .inl ft)) := (hfr mt (Or.inl hn_mt) n_mt_al n_mt_mo).trans hc_mt
      have hc_ii : Mq71_ ii = some (.inl (kA 2, 3, .inl fi)) := (hfr ii (Or.inl hn_ii) n_ii_al n_ii_mo).trans hc_ii
      have hR_gq82_ : Rng gq82_ := h_gq82_.1
      have hRI := hRI.ke (h_gq82_.2)
      have cq74_ : xq75_.toInt = FT ft ta.toInt.toNat := cq74_
      have him : ImsOK kA Mq71_ T w tp gi ai ti pi bi := him.mv hn_w hn_tp (fun q hA hw hp hk => hfr q (FrA.k hA) (fun z9 => by rw [z9] at hk; exact nWi (by decide) (hk _ hO_al)) (fun z9 => by rw [z9] at hk; exact nW3 (by decide) (hk _ hO_mo)))
      have hFQ9 : xq75_.toInt = xq48_.toInt := by rw [cq74_, cq40_, FT_eq hTX, show ta.toInt.toNat = tl.toInt.toNat by omega]
      refine lv_pop hx hb dL_law_305 rfl ?_
      refine lv_goto (tgt := 1370) hx hb dL_law_306 (by decide) ?_
      exact kk _ _ _ _ ls _ _ ⟨w, im, rd, rc, cu, cs, bs, tp, nb, tp, vq41_, rb, rs, rp, al, mt, ii, pa, li, xq42_, xq43_, xq44_, xq45_, xq46_, xq47_, 0, xq48_, xq50_, xq51_, xq49_, xq52_, xq53_, xq54_, xq55_, pm, 0, xq75_, xq76_, xq77_, xq78_, xq79_, xq80_, xq81_, xq70_, g, gi, ai, ti, pi, fi, gq82_, fb, ft, bi, hc_ro, hc_w, hc_bs, hc_tp, hc_im, hc_rd, hc_rc, hc_mo, hc_al, hc_mt, hc_ii, hn_ro, hn_w, hn_tp, hn_im, hn_rd, hn_rc, hn_mo, hn_al, hn_mt, hn_ii, t_cu, t_cs, t_bs, t_nb, t_rb, t_rs, t_rp, t_pa, t_li, ⟨l_xq42_, g_xq42_⟩, ⟨l_xq44_, g_xq44_⟩, (by decide), h_vq41_, ⟨l_xq50_, g_xq50_⟩, ⟨l_xq51_, g_xq51_⟩, hpm, (by decide), (by have : (0 : Int32).toInt = 0 := rfl; omega), (by omega), hby, hTX, hnn, hg, hg3, him, hR_gq82_, hRI⟩ hH (lv_sub hl [0, 1, 2, 3] rfl) (Nat.le_add_right _ _) (Nat.le_add_right _ _)
set_option maxHeartbeats 4000000 in
set_option maxRecDepth 100000 in
theorem law_case_3 {p : Program} {e : Env} {s : State} {m : MethodId} {below : List Frame} {meth : Method} {c : Code} {l : Launch} {b L : Nat} {xs : Nat → Int32} (C0 : lw_At p s m meth c b L xs) (hL : L ≤ 3072) {z : zD} {D : va_G} {kA : Nat → ClassId} (hK : mK D kA s) {M : mM} {T : mT} {A : Nat → Prop} (hAq : ∀ q, A q → s.heap.size ≤ q) (hZ : zB z A s) {Hq_ : Heap} {lcq_ : List Loc} {ls : Array Slot} {ro mo : Nat} {i : Int32} {cells slots : Nat} {w im rd rc cu cs bs tp nb by_ vi rb rs rp al mt ii pa li : Nat} {td gd bc py rf lt tl fp no wi le ki pl be vr pm ta fpm sm nx tk plm ln wr : Int32} {va : Int64} {g gi : Nat → Option Nat} {ai : Nat → Nat} {ti pi fi F fb ft : Nat → Int32} {bi : Nat → Nat → Int} (hc_ro : M ro = some (.inr (7, [.ref w, .ref im, .ref rd, .ref rc, .ref cu]))) (hc_w : M w = some (.inr (6, [.int td, .int gd, .int bc, .int py, .int rf, .int lt, .int tl, .int fp, .ref cs, .ref bs, .ref tp]))) (hc_bs : M bs = some (.inl (kA 5, 4, .inr (.inr (.inr (.inr g)))))) (hc_tp : M tp = some (.inl (kA 1, 600, .inl fb))) (hc_im : M im = some (.inl (kA 6, 3, .inr (.inr (.inr (.inr gi)))))) (hc_rd : M rd = some (.inr (3, [.ref nb, .ref (zv z vi), .int no, .int wi, .ref by_, .int le, .int ki, .int pl, .int be, .int vr]))) (hc_rc : M rc = some (.inr (4, [.ref rb, .ref rs, .ref rp, .int pm]))) (hc_mo : M mo = some (.inr (8, [.ref al, .ref mt, .ref ii, .int ta, .int fpm, .ref pa, .int sm, .int nx, .int tk, .int plm, .int ln, .long va, .int wr, .ref li]))) (hc_al : M al = some (.inl (kA 0, 7506, .inl F))) (hc_mt : M mt = some (.inl (kA 0, 600, .inl ft))) (hc_ii : M ii = some (.inl (kA 2, 3, .inl fi))) (hn_ro : T ro = none) (hn_w : T w = none) (hn_tp : T tp = none) (hn_im : T im = none) (hn_rd : T rd = none) (hn_rc : T rc = none) (hn_mo : T mo = none) (hn_al : T al = none) (hn_mt : T mt = none) (hn_ii : T ii = none) (t_cu : T cu = some 9) (t_cs : T cs = some 3) (t_bs : T bs = some 6) (t_nb : T nb = some 12) (t_rb : T rb = some 2) (t_rs : T rs = some 3) (t_rp : T rp = some 5) (t_pa : T pa = some 13) (t_li : T li = some 14) (htd : 0 ≤ td.toInt ∧ td.toInt ≤ 999) (hbc : 0 ≤ bc.toInt ∧ bc.toInt ≤ 4) (htl : 0 ≤ tl.toInt ∧ tl.toInt ≤ 600) (hvi : vi < 19) (hno : 0 ≤ no.toInt ∧ no.toInt ≤ 1) (hwi : 0 ≤ wi.toInt ∧ wi.toInt ≤ 1) (hpm : 0 ≤ pm.toInt ∧ pm.toInt ≤ 14) (hta : 0 ≤ ta.toInt ∧ ta.toInt ≤ 600) (hRT : ta.toInt = tl.toInt) (hFQ : fpm.toInt = fp.toInt) (hby : Byt fb) (hTX : nC ft = nC fb) (hnn : NN ft) (hg : ∀ j, j < 4 → ∃ q, g j = some q ∧ T q = some 2) (hg3 : ∀ j, 3 ≤ j → gi j = none) (him : ImsOK kA M T w tp gi ai ti pi bi) (hR_F : Rng F) (hRI : RelI gi ti pi bi fi F) (n_ro_w : ro ≠ w) (n_w_ro : w ≠ ro) (n_ro_bs : ro ≠ bs) (n_bs_ro : bs ≠ ro) (n_ro_tp : ro ≠ tp) (n_tp_ro : tp ≠ ro) (n_ro_im : ro ≠ im) (n_im_ro : im ≠ ro) (n_ro_rd : ro ≠ rd) (n_rd_ro : rd ≠ ro) (n_ro_rc : ro ≠ rc) (n_rc_ro : rc ≠ ro) (n_ro_mo : ro ≠ mo) (n_mo_ro : mo ≠ ro) (n_ro_al : ro ≠ al) (n_al_ro : al ≠ ro) (n_ro_mt : ro ≠ mt) (n_mt_ro : mt ≠ ro) (n_ro_ii : ro ≠ ii) (n_ii_ro : ii ≠ ro) (n_w_bs : w ≠ bs) (n_bs_w : bs ≠ w) (n_w_tp : w ≠ tp) (n_tp_w : tp ≠ w) (n_w_im : w ≠ im) (n_im_w : im ≠ w) (n_w_rd : w ≠ rd) (n_rd_w : rd ≠ w) (n_w_rc : w ≠ rc) (n_rc_w : rc ≠ w) (n_w_mo : w ≠ mo) (n_mo_w : mo ≠ w) (n_w_al : w ≠ al) (n_al_w : al ≠ w) (n_w_mt : w ≠ mt) (n_mt_w : mt ≠ w) (n_w_ii : w ≠ ii) (n_ii_w : ii ≠ w) (n_bs_tp : bs ≠ tp) (n_tp_bs : tp ≠ bs) (n_bs_im : bs ≠ im) (n_im_bs : im ≠ bs) (n_bs_rd : bs ≠ rd) (n_rd_bs : rd ≠ bs) (n_bs_rc : bs ≠ rc) (n_rc_bs : rc ≠ bs) (n_bs_mo : bs ≠ mo) (n_mo_bs : mo ≠ bs) (n_bs_al : bs ≠ al) (n_al_bs : al ≠ bs) (n_bs_mt : bs ≠ mt) (n_mt_bs : mt ≠ bs) (n_bs_ii : bs ≠ ii) (n_ii_bs : ii ≠ bs) (n_tp_im : tp ≠ im) (n_im_tp : im ≠ tp) (n_tp_rd : tp ≠ rd) (n_rd_tp : rd ≠ tp) (n_tp_rc : tp ≠ rc) (n_rc_tp : rc ≠ tp) (n_tp_mo : tp ≠ mo) (n_mo_tp : mo ≠ tp) (n_tp_al : tp ≠ al) (n_al_tp : al ≠ tp) (n_tp_mt : tp ≠ mt) (n_mt_tp : mt ≠ tp) (n_tp_ii : tp ≠ ii) (n_ii_tp : ii ≠ tp) (n_im_rd : im ≠ rd) (n_rd_im : rd ≠ im) (n_im_rc : im ≠ rc) (n_rc_im : rc ≠ im) (n_im_mo : im ≠ mo) (n_mo_im : mo ≠ im) (n_im_al : im ≠ al) (n_al_im : al ≠ im) (n_im_mt : im ≠ mt) (n_mt_im : mt ≠ im) (n_im_ii : im ≠ ii) (n_ii_im : ii ≠ im) (n_rd_rc : rd ≠ rc) (n_rc_rd : rc ≠ rd) (n_rd_mo : rd ≠ mo) (n_mo_rd : mo ≠ rd) (n_rd_al : rd ≠ al) (n_al_rd : al ≠ rd) (n_rd_mt : rd ≠ mt) (n_mt_rd : mt ≠ rd) (n_rd_ii : rd ≠ ii) (n_ii_rd : ii ≠ rd) (n_rc_mo : rc ≠ mo) (n_mo_rc : mo ≠ rc) (n_rc_al : rc ≠ al) (n_al_rc : al ≠ rc) (n_rc_mt : rc ≠ mt) (n_mt_rc : mt ≠ rc) (n_rc_ii : rc ≠ ii) (n_ii_rc : ii ≠ rc) (n_mo_al : mo ≠ al) (n_al_mo : al ≠ mo) (n_mo_mt : mo ≠ mt) (n_mt_mo : mt ≠ mo) (n_mo_ii : mo ≠ ii) (n_ii_mo : ii ≠ mo) (n_al_mt : al ≠ mt) (n_mt_al : mt ≠ al) (n_al_ii : al ≠ ii) (n_ii_al : ii ≠ al) (n_mt_ii : mt ≠ ii) (n_ii_mt : ii ≠ mt) (hi0 : 0 ≤ i.toInt) (hi6 : i.toInt + 6 ≤ (L : Int)) (hcl : cells + 92 ≤ 600000) (hsl : slots + 1627 ≤ 7302250) (hH : mS D kA M T A s.heap Hq_ lcq_) (hl : lv_has ls 4 [(3, .int i), (2, .ref mo), (1, .ref ro), (0, .ref b)]) (kk : ∀ (M1 : mM) (T1 : mT) (H1 : Heap) (locs1 : List Loc) (ls1 : Array Slot) (cl1 sl1 : Nat), LI z kA M1 T1 ro mo → mS D kA M1 T1 A s.heap H1 locs1 → lv_has ls1 4 [(3, .int i), (2, .ref mo), (1, .ref ro), (0, .ref b)] → cl1 ≤ cells + 92 → sl1 ≤ slots + 1627 → W p l e room_1 s m #[Value.ref b] below meth c H1 locs1 cl1 sl1 (lw_Z below #[Value.ref b] s) (F0 m 1370 ls1 [])) : W p l e room_1 s m #[Value.ref b] below meth c Hq_ lcq_ cells slots (lw_Z below #[Value.ref b] s) (F0 m 309 ls []) := by
  obtain ⟨hx, hb, hr, hml, hown, hts, hX, hbl, hlocks, hgv⟩ := id C0
  have hC : CallFix p m c cL_law 4 s #[Value.ref b] TB RL := ⟨hx, hb, hml, hown, fun w h => hts w (TB_in h)⟩
  have hbA : ¬ A b := fun h => absurd (hAq b h) (Nat.not_le.mpr hbl)
  refine lv_aload_n hx hb dL_law_309 rfl (lv_at hl 2 rfl) ?_
  have hO_rd := hc_rd
  have hO_rc := hc_rc
  have hO_mo := hc_mo
  have hO_al := hc_al
  have hO_ii := hc_ii
  have hO_im := hc_im
  have hO_mt := hc_mt
  refine goI hK hH (runV (As := []) (rest := []) hC hK hH (c_X9_fault hc_ro hn_ro hc_w hn_w hc_bs t_cs t_bs (by exact htd) (by exact hbc) (by exact htl) hg) mlL_28 (rcvM hK hH hc_ro rfl) ⟨⟨Nat.le_of_ble_eq_true rfl, Nat.le_of_ble_eq_true rfl⟩, lcA hcl, lcA hsl⟩ rfl hl.1 rfl (Nat.le_of_ble_eq_true rfl) dL_law_310) (fun rq3_ Mq1_ Tq2_ Hq_ lcq_ hP hz hH => ?_)
  try dsimp only at hP
  obtain ⟨(cq4_), eT, eM⟩ := hP
  have eT := eT.symm; subst eT
  have eM := eM.symm; subst eM
  have cq4_ : rq3_.toInt = fp.toInt := cq4_
  refine lv_aload_n hx hb dL_law_313 rfl (lv_at hl 1 rfl) ?_
  have hO_rd := hc_rd
  have hO_rc := hc_rc
  have hO_mo := hc_mo
  have hO_al := hc_al
  have hO_ii := hc_ii
  have hO_im := hc_im
  have hO_mt := hc_mt
  refine goI hK hH (runV (As := []) (rest := [.int rq3_]) hC hK hH (c_X10_fault hc_mo hn_mo t_pa t_li) mlL_32 (rcvM hK hH hc_mo rfl) ⟨⟨Nat.le_of_ble_eq_true rfl, Nat.le_of_ble_eq_true rfl⟩, lcA hcl, lcA hsl⟩ rfl hl.1 rfl (Nat.le_of_ble_eq_true rfl) dL_law_314) (fun rq7_ Mq5_ Tq6_ Hq_ lcq_ hP hz hH => ?_)
  try dsimp only at hP
  obtain ⟨(cq8_), eT, eM⟩ := hP
  have eT := eT.symm; subst eT
  have eM := eM.symm; subst eM
  have cq8_ : rq7_.toInt = fpm.toInt := cq8_
  refine jic_eq (tgt := 1370) hx hb dL_law_317 (by decide) (fun cq9_ => ?_) (fun cq9_ => by exfalso; have cq9_ : rq3_.toInt ≠ rq7_.toInt := cq9_; omega)
  exact kk _ _ _ _ ls _ _ ⟨w, im, rd, rc, cu, cs, bs, tp, nb, by_, vi, rb, rs, rp, al, mt, ii, pa, li, td, gd, bc, py, rf, lt, tl, fp, no, wi, le, ki, pl, be, vr, pm, ta, fpm, sm, nx, tk, plm, ln, wr, va, g, gi, ai, ti, pi, fi, F, fb, ft, bi, hc_ro, hc_w, hc_bs, hc_tp, hc_im, hc_rd, hc_rc, hc_mo, hc_al, hc_mt, hc_ii, hn_ro, hn_w, hn_tp, hn_im, hn_rd, hn_rc, hn_mo, hn_al, hn_mt, hn_ii, t_cu, t_cs, t_bs, t_nb, t_rb, t_rs, t_rp, t_pa, t_li, htd, hbc, htl, hvi, hno, hwi, hpm, hta, hRT, hFQ, hby, hTX, hnn, hg, hg3, him, hR_F, hRI⟩ hH (lv_sub hl [0, 1, 2, 3] rfl) (Nat.le_add_right _ _) (Nat.le_add_right _ _)
