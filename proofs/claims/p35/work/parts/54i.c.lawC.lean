set_option maxHeartbeats 4000000 in
set_option maxRecDepth 100000 in
theorem law_case_32 {p : Program} {e : Env} {s : State} {m : MethodId} {below : List Frame} {meth : Method} {c : Code} {l : Launch} {b L : Nat} {xs : Nat → Int32} (C0 : lw_At p s m meth c b L xs) (hL : L ≤ 3072) {z : zD} {D : va_G} {kA : Nat → ClassId} (hK : mK D kA s) {M : mM} {T : mT} {A : Nat → Prop} (hAq : ∀ q, A q → s.heap.size ≤ q) (hZ : zB z A s) {Hq_ : Heap} {lcq_ : List Loc} {ls : Array Slot} {ro mo : Nat} {i : Int32} {cells slots : Nat} {w im rd rc cu cs bs tp nb by_ vi rb rs rp al mt ii pa li : Nat} {td gd bc py rf lt tl fp no wi le ki pl be vr pm ta fpm sm nx tk plm ln wr : Int32} {va : Int64} {g gi : Nat → Option Nat} {ti fi F : Nat → Int32} (hc_ro : M ro = some (.inr (7, [.ref w, .ref im, .ref rd, .ref rc, .ref cu]))) (hc_w : M w = some (.inr (6, [.int td, .int gd, .int bc, .int py, .int rf, .int lt, .int tl, .int fp, .ref cs, .ref bs, .ref tp]))) (hc_bs : M bs = some (.inl (kA 5, 4, .inr (.inr (.inr (.inr g)))))) (hc_im : M im = some (.inl (kA 6, 3, .inr (.inr (.inr (.inr gi)))))) (hc_rd : M rd = some (.inr (3, [.ref nb, .ref (zv z vi), .int no, .int wi, .ref by_, .int le, .int ki, .int pl, .int be, .int vr]))) (hc_rc : M rc = some (.inr (4, [.ref rb, .ref rs, .ref rp, .int pm]))) (hc_mo : M mo = some (.inr (8, [.ref al, .ref mt, .ref ii, .int ta, .int fpm, .ref pa, .int sm, .int nx, .int tk, .int plm, .int ln, .long va, .int wr, .ref li]))) (hc_al : M al = some (.inl (kA 0, 7506, .inl F))) (hc_ii : M ii = some (.inl (kA 2, 3, .inl fi))) (hn_ro : T ro = none) (hn_w : T w = none) (hn_im : T im = none) (hn_rd : T rd = none) (hn_rc : T rc = none) (hn_mo : T mo = none) (hn_al : T al = none) (hn_ii : T ii = none) (t_cu : T cu = some 9) (t_cs : T cs = some 3) (t_bs : T bs = some 6) (t_tp : T tp = some 7) (t_nb : T nb = some 12) (t_rb : T rb = some 2) (t_rs : T rs = some 3) (t_rp : T rp = some 5) (t_mt : T mt = some 11) (t_pa : T pa = some 13) (t_li : T li = some 14) (htd : 0 ≤ td.toInt ∧ td.toInt ≤ 999) (hbc : 0 ≤ bc.toInt ∧ bc.toInt ≤ 4) (htl : 0 ≤ tl.toInt ∧ tl.toInt ≤ 600) (hvi : vi < 19) (hno : 0 ≤ no.toInt ∧ no.toInt ≤ 1) (hwi : 0 ≤ wi.toInt ∧ wi.toInt ≤ 1) (hpm : 0 ≤ pm.toInt ∧ pm.toInt ≤ 14) (hta : 0 ≤ ta.toInt ∧ ta.toInt ≤ 600) (hRT : ta.toInt = tl.toInt) (hg : ∀ j, j < 4 → ∃ q, g j = some q ∧ T q = some 2) (hg3 : ∀ j, 3 ≤ j → gi j = none) (him : ImsOK kA M T w gi ti) (hR_F : Rng F) (hRI : RelI gi ti fi F) (n_ro_w : ro ≠ w) (n_w_ro : w ≠ ro) (n_ro_bs : ro ≠ bs) (n_bs_ro : bs ≠ ro) (n_ro_im : ro ≠ im) (n_im_ro : im ≠ ro) (n_ro_rd : ro ≠ rd) (n_rd_ro : rd ≠ ro) (n_ro_rc : ro ≠ rc) (n_rc_ro : rc ≠ ro) (n_ro_mo : ro ≠ mo) (n_mo_ro : mo ≠ ro) (n_ro_al : ro ≠ al) (n_al_ro : al ≠ ro) (n_ro_ii : ro ≠ ii) (n_ii_ro : ii ≠ ro) (n_w_bs : w ≠ bs) (n_bs_w : bs ≠ w) (n_w_im : w ≠ im) (n_im_w : im ≠ w) (n_w_rd : w ≠ rd) (n_rd_w : rd ≠ w) (n_w_rc : w ≠ rc) (n_rc_w : rc ≠ w) (n_w_mo : w ≠ mo) (n_mo_w : mo ≠ w) (n_w_al : w ≠ al) (n_al_w : al ≠ w) (n_w_ii : w ≠ ii) (n_ii_w : ii ≠ w) (n_bs_im : bs ≠ im) (n_im_bs : im ≠ bs) (n_bs_rd : bs ≠ rd) (n_rd_bs : rd ≠ bs) (n_bs_rc : bs ≠ rc) (n_rc_bs : rc ≠ bs) (n_bs_mo : bs ≠ mo) (n_mo_bs : mo ≠ bs) (n_bs_al : bs ≠ al) (n_al_bs : al ≠ bs) (n_bs_ii : bs ≠ ii) (n_ii_bs : ii ≠ bs) (n_im_rd : im ≠ rd) (n_rd_im : rd ≠ im) (n_im_rc : im ≠ rc) (n_rc_im : rc ≠ im) (n_im_mo : im ≠ mo) (n_mo_im : mo ≠ im) (n_im_al : im ≠ al) (n_al_im : al ≠ im) (n_im_ii : im ≠ ii) (n_ii_im : ii ≠ im) (n_rd_rc : rd ≠ rc) (n_rc_rd : rc ≠ rd) (n_rd_mo : rd ≠ mo) (n_mo_rd : mo ≠ rd) (n_rd_al : rd ≠ al) (n_al_rd : al ≠ rd) (n_rd_ii : rd ≠ ii) (n_ii_rd : ii ≠ rd) (n_rc_mo : rc ≠ mo) (n_mo_rc : mo ≠ rc) (n_rc_al : rc ≠ al) (n_al_rc : al ≠ rc) (n_rc_ii : rc ≠ ii) (n_ii_rc : ii ≠ rc) (n_mo_al : mo ≠ al) (n_al_mo : al ≠ mo) (n_mo_ii : mo ≠ ii) (n_ii_mo : ii ≠ mo) (n_al_ii : al ≠ ii) (n_ii_al : ii ≠ al) (hi0 : 0 ≤ i.toInt) (hi6 : i.toInt + 6 ≤ (L : Int)) (hcl : cells + 92 ≤ 600000) (hsl : slots + 1627 ≤ 7302250) (hH : mS D kA M T A s.heap Hq_ lcq_) (hl : lv_has ls 4 [(3, .int i), (2, .ref mo), (1, .ref ro), (0, .ref b)]) (kk : ∀ (M1 : mM) (T1 : mT) (H1 : Heap) (locs1 : List Loc) (ls1 : Array Slot) (cl1 sl1 : Nat), LI z kA M1 T1 ro mo → mS D kA M1 T1 A s.heap H1 locs1 → lv_has ls1 4 [(3, .int i), (2, .ref mo), (1, .ref ro), (0, .ref b)] → cl1 ≤ cells + 92 → sl1 ≤ slots + 1627 → W p l e room_1 s m #[Value.ref b] below meth c H1 locs1 cl1 sl1 (lw_Z below #[Value.ref b] s) (F0 m 1370 ls1 [])) : W p l e room_1 s m #[Value.ref b] below meth c Hq_ lcq_ cells slots (lw_Z below #[Value.ref b] s) (F0 m 1324 ls []) := by
  obtain ⟨hx, hb, hr, hml, hown, hts, hX, hbl, hlocks, hgv⟩ := id C0
  have hC : CallFix p m c cL_law 4 s #[Value.ref b] TB RL := ⟨hx, hb, hml, hown, fun w h => hts w (TB_in h)⟩
  have hbA : ¬ A b := fun h => absurd (hAq b h) (Nat.not_le.mpr hbl)
  refine lv_aload_n hx hb dL_law_1324 rfl (lv_at hl 2 rfl) ?_
  refine lv_aload_n hx hb dL_law_1325 rfl (lv_at hl 3 rfl) ?_
  refine lv_iload_n hx hb dL_law_1326 rfl (lv_at hl 0 rfl) ?_
  refine lv_iconst (v := 1) hx hb dL_law_1327 (by decide) ?_
  refine lv_iadd hx hb dL_law_1328 ?_
  refine lv_topi (fun zq1_ e_zq1_ => ?_)
  have h_zq1_ : zq1_.toInt = i.toInt + (1 : Int32).toInt := sIa hi0 hi6 hL e_zq1_ (by decide) (by decide)
  refine va_sld hx hb hX hbl hbA hH.2.1 (sIx hi0 hi6 h_zq1_ (by decide) (by decide)) dL_law_1329 ?_
  refine lv_topi (fun vq2_ e_vq2_ => ?_)
  have lt_ro : ro < Array.size Hq_ := hH.1.ltM (by rw [hc_ro]; simp)
  have lt_w : w < Array.size Hq_ := hH.1.ltM (by rw [hc_w]; simp)
  have lt_bs : bs < Array.size Hq_ := hH.1.ltM (by rw [hc_bs]; simp)
  have lt_rd : rd < Array.size Hq_ := hH.1.ltM (by rw [hc_rd]; simp)
  have lt_rc : rc < Array.size Hq_ := hH.1.ltM (by rw [hc_rc]; simp)
  have lt_mo : mo < Array.size Hq_ := hH.1.ltM (by rw [hc_mo]; simp)
  have lt_al : al < Array.size Hq_ := hH.1.ltM (by rw [hc_al]; simp)
  have lt_ii : ii < Array.size Hq_ := hH.1.ltM (by rw [hc_ii]; simp)
  have ng_ro : gi (Int32.toNatClampNeg vq2_) ≠ some ro := him.ne3 hg3 _ hc_ro (fun z9 => by obtain ⟨fs, h9⟩ := z9; simp at h9)
  have ng_w : gi (Int32.toNatClampNeg vq2_) ≠ some w := him.nw3 hg3 _
  have ng_bs : gi (Int32.toNatClampNeg vq2_) ≠ some bs := him.ne3 hg3 _ hc_bs (fun z9 => by obtain ⟨fs, h9⟩ := z9; simp at h9)
  have ng_rd : gi (Int32.toNatClampNeg vq2_) ≠ some rd := him.ne3 hg3 _ hc_rd (fun z9 => by obtain ⟨fs, h9⟩ := z9; simp at h9)
  have ng_rc : gi (Int32.toNatClampNeg vq2_) ≠ some rc := him.ne3 hg3 _ hc_rc (fun z9 => by obtain ⟨fs, h9⟩ := z9; simp at h9)
  have ng_mo : gi (Int32.toNatClampNeg vq2_) ≠ some mo := him.ne3 hg3 _ hc_mo (fun z9 => by obtain ⟨fs, h9⟩ := z9; simp at h9)
  have ng_al : gi (Int32.toNatClampNeg vq2_) ≠ some al := him.ne3 hg3 _ hc_al (fun z9 => by obtain ⟨fs, h9⟩ := z9; simp at h9)
  have ng_ii : gi (Int32.toNatClampNeg vq2_) ≠ some ii := him.ne3 hg3 _ hc_ii (fun z9 => by obtain ⟨fs, h9⟩ := z9; simp at h9)
  refine goI hK hH (runV (As := [.int vq2_]) (rest := []) hC hK hH (c_X9_image hc_ro hn_ro hc_w hn_w hc_bs hc_im hn_im t_cs t_bs t_tp htd hbc htl him hg) mlL_150 (rcvM hK hH hc_ro rfl) ⟨⟨Nat.le_of_ble_eq_true rfl, Nat.le_of_ble_eq_true rfl⟩, hcl, hsl⟩ rfl hl.1 rfl (Nat.le_of_ble_eq_true rfl) dL_law_1330) (fun rq5_ Mq3_ Tq4_ Hq_ lcq_ hP hz hH => ?_)
  try dsimp only at hP
  obtain ⟨giq_, tiq_, hc_im, hn_im, him, hcase, hsub, hTF, hfr⟩ := hP
  have hc_ro : Mq3_ ro = some (.inr (7, [.ref w, .ref im, .ref rd, .ref rc, .ref cu])) := (hfr ro (Or.inl hn_ro) n_ro_im lt_ro ng_ro).trans hc_ro
  have hn_ro : Tq4_ ro = none := (hTF ro n_ro_im lt_ro).trans hn_ro
  have hc_w : Mq3_ w = some (.inr (6, [.int td, .int gd, .int bc, .int py, .int rf, .int lt, .int tl, .int fp, .ref cs, .ref bs, .ref tp])) := (hfr w (Or.inl hn_w) n_w_im lt_w ng_w).trans hc_w
  have hn_w : Tq4_ w = none := (hTF w n_w_im lt_w).trans hn_w
  have hc_bs : Mq3_ bs = some (.inl (kA 5, 4, .inr (.inr (.inr (.inr g))))) := (hfr bs (Or.inr t_bs) n_bs_im lt_bs ng_bs).trans hc_bs
  have hc_rd : Mq3_ rd = some (.inr (3, [.ref nb, .ref (zv z vi), .int no, .int wi, .ref by_, .int le, .int ki, .int pl, .int be, .int vr])) := (hfr rd (Or.inl hn_rd) n_rd_im lt_rd ng_rd).trans hc_rd
  have hn_rd : Tq4_ rd = none := (hTF rd n_rd_im lt_rd).trans hn_rd
  have hc_rc : Mq3_ rc = some (.inr (4, [.ref rb, .ref rs, .ref rp, .int pm])) := (hfr rc (Or.inl hn_rc) n_rc_im lt_rc ng_rc).trans hc_rc
  have hn_rc : Tq4_ rc = none := (hTF rc n_rc_im lt_rc).trans hn_rc
  have hc_mo : Mq3_ mo = some (.inr (8, [.ref al, .ref mt, .ref ii, .int ta, .int fpm, .ref pa, .int sm, .int nx, .int tk, .int plm, .int ln, .long va, .int wr, .ref li])) := (hfr mo (Or.inl hn_mo) n_mo_im lt_mo ng_mo).trans hc_mo
  have hn_mo : Tq4_ mo = none := (hTF mo n_mo_im lt_mo).trans hn_mo
  have hc_al : Mq3_ al = some (.inl (kA 0, 7506, .inl F)) := (hfr al (Or.inl hn_al) n_al_im lt_al ng_al).trans hc_al
  have hn_al : Tq4_ al = none := (hTF al n_al_im lt_al).trans hn_al
  have hc_ii : Mq3_ ii = some (.inl (kA 2, 3, .inl fi)) := (hfr ii (Or.inl hn_ii) n_ii_im lt_ii ng_ii).trans hc_ii
  have hn_ii : Tq4_ ii = none := (hTF ii n_ii_im lt_ii).trans hn_ii
  have t_cu : Tq4_ cu = some 9 := hsub _ _ t_cu
  have t_cs : Tq4_ cs = some 3 := hsub _ _ t_cs
  have t_bs : Tq4_ bs = some 6 := hsub _ _ t_bs
  have t_tp : Tq4_ tp = some 7 := hsub _ _ t_tp
  have t_nb : Tq4_ nb = some 12 := hsub _ _ t_nb
  have t_rb : Tq4_ rb = some 2 := hsub _ _ t_rb
  have t_rs : Tq4_ rs = some 3 := hsub _ _ t_rs
  have t_rp : Tq4_ rp = some 5 := hsub _ _ t_rp
  have t_mt : Tq4_ mt = some 11 := hsub _ _ t_mt
  have t_pa : Tq4_ pa = some 13 := hsub _ _ t_pa
  have t_li : Tq4_ li = some 14 := hsub _ _ t_li
  have hg : ∀ j, j < 4 → ∃ q, g j = some q ∧ Tq4_ q = some 2 := fun j hj => (hg j hj).imp (fun q h => ⟨h.1, hsub _ _ h.2⟩)
  rcases hcase with ⟨hkr, er, ⟨q9, egi⟩, eti⟩ | ⟨hkr, er, egi, eti⟩
  · skip
    have er := er.symm; subst er
    have hkr : 0 ≤ vq2_.toInt ∧ vq2_.toInt ≤ 2 := hkr
    have hkn9 : (Int32.toNatClampNeg vq2_) < 3 := by have := iCl (x := vq2_) (by omega); omega
    have hg3 : ∀ j, 3 ≤ j → giq_ j = none := fun j hj => by rw [egi, upN _ _ (by omega)]; exact hg3 j hj
    refine lv_pop hx hb dL_law_1333 rfl ?_
    refine lv_aload_n hx hb dL_law_1334 rfl (lv_at hl 1 rfl) ?_
    refine lv_aload_n hx hb dL_law_1335 rfl (lv_at hl 3 rfl) ?_
    refine lv_iload_n hx hb dL_law_1336 rfl (lv_at hl 0 rfl) ?_
    refine lv_iconst (v := 1) hx hb dL_law_1337 (by decide) ?_
    refine lv_iadd hx hb dL_law_1338 ?_
    refine lv_cst (v := zq1_) e_zq1_.symm ?_
    refine va_sld hx hb hX hbl hbA hH.2.1 (sIx hi0 hi6 h_zq1_ (by decide) (by decide)) dL_law_1339 ?_
    refine lv_cst (v := vq2_) e_vq2_.symm ?_
    have hO_rd := hc_rd
    have hO_rc := hc_rc
    have hO_mo := hc_mo
    have hO_al := hc_al
    have hO_ii := hc_ii
    have hO_im := hc_im
    refine goI hK hH (runV (As := [.int vq2_]) (rest := []) hC hK hH (c_X10_image hc_mo hn_mo hc_al hn_al hc_ii hn_ii t_mt t_pa t_li (by exact hR_F)) mlL_154 (rcvM hK hH hc_mo rfl) ⟨⟨Nat.le_of_ble_eq_true rfl, Nat.le_of_ble_eq_true rfl⟩, hcl, hsl⟩ rfl hl.1 rfl (Nat.le_of_ble_eq_true rfl) dL_law_1340) (fun rq8_ Mq6_ Tq7_ Hq_ lcq_ hP hz hH => ?_)
    try dsimp only at hP
    obtain ⟨gq11_, h_gq11_, gq12_, h_gq12_, (⟨cq9_, er_rq8_, hx_al, hx_ii⟩ | ⟨cq10_, er_rq8_, hx_al, hx_ii⟩), eT, hfr⟩ := hP
    · skip
      have eT := eT.symm; subst eT
      have er_rq8_ := er_rq8_.symm; subst er_rq8_
      have hc_ro : Mq6_ ro = some (.inr (7, [.ref w, .ref im, .ref rd, .ref rc, .ref cu])) := (hfr ro (Or.inl hn_ro) n_ro_al n_ro_ii).trans hc_ro
      have hc_w : Mq6_ w = some (.inr (6, [.int td, .int gd, .int bc, .int py, .int rf, .int lt, .int tl, .int fp, .ref cs, .ref bs, .ref tp])) := (hfr w (Or.inl hn_w) n_w_al n_w_ii).trans hc_w
      have hc_bs : Mq6_ bs = some (.inl (kA 5, 4, .inr (.inr (.inr (.inr g))))) := (hfr bs (Or.inr (Or.inl t_bs)) n_bs_al n_bs_ii).trans hc_bs
      have hc_im : Mq6_ im = some (.inl (kA 6, 3, .inr (.inr (.inr (.inr giq_))))) := (hfr im (Or.inl hn_im) n_im_al n_im_ii).trans hc_im
      have hc_rd : Mq6_ rd = some (.inr (3, [.ref nb, .ref (zv z vi), .int no, .int wi, .ref by_, .int le, .int ki, .int pl, .int be, .int vr])) := (hfr rd (Or.inl hn_rd) n_rd_al n_rd_ii).trans hc_rd
      have hc_rc : Mq6_ rc = some (.inr (4, [.ref rb, .ref rs, .ref rp, .int pm])) := (hfr rc (Or.inl hn_rc) n_rc_al n_rc_ii).trans hc_rc
      have hc_mo : Mq6_ mo = some (.inr (8, [.ref al, .ref mt, .ref ii, .int ta, .int fpm, .ref pa, .int sm, .int nx, .int tk, .int plm, .int ln, .long va, .int wr, .ref li])) := (hfr mo (Or.inl hn_mo) n_mo_al n_mo_ii).trans hc_mo
      have hc_al : Mq6_ al = some (.inl (kA 0, 7506, .inl gq11_)) := hx_al
      have hc_ii : Mq6_ ii = some (.inl (kA 2, 3, .inl gq12_)) := hx_ii
      have hR_gq11_ : Rng gq11_ := h_gq11_.1
      have cq9_ : 0 ≤ vq2_.toInt ∧ vq2_.toInt ≤ 2 := cq9_
      have him : ImsOK kA Mq6_ Tq4_ w giq_ tiq_ := him.mv hn_w (fun q hA hw hk => hfr q (FrA.k hA) (fun z9 => by rw [z9] at hk; exact nWi (hk _ hO_al)) (fun z9 => by rw [z9] at hk; exact nWi (hk _ hO_ii)))
      have efj := h_gq12_.1 hkr
      have eta : ta = tl := iEq.mpr hRT
      have hRI : RelI giq_ tiq_ gq12_ gq11_ := by rw [egi, eti, efj]; exact hRI.put h_gq11_.2.1 ((h_gq11_.2.2.1 hkr).trans eta)
      refine lv_pop hx hb dL_law_1343 rfl ?_
      refine lv_goto (tgt := 1370) hx hb dL_law_1344 (by decide) ?_
      exact kk _ _ _ _ ls _ _ ⟨w, im, rd, rc, cu, cs, bs, tp, nb, by_, vi, rb, rs, rp, al, mt, ii, pa, li, td, gd, bc, py, rf, lt, tl, fp, no, wi, le, ki, pl, be, vr, pm, ta, fpm, sm, nx, tk, plm, ln, wr, va, g, giq_, tiq_, gq12_, gq11_, hc_ro, hc_w, hc_bs, hc_im, hc_rd, hc_rc, hc_mo, hc_al, hc_ii, hn_ro, hn_w, hn_im, hn_rd, hn_rc, hn_mo, hn_al, hn_ii, t_cu, t_cs, t_bs, t_tp, t_nb, t_rb, t_rs, t_rp, t_mt, t_pa, t_li, htd, hbc, htl, hvi, hno, hwi, hpm, hta, hRT, hg, hg3, him, hR_gq11_, hRI⟩ hH (lv_sub hl [0, 1, 2, 3] rfl) (Nat.le_refl _) (Nat.le_refl _)
    · skip
      have eT := eT.symm; subst eT
      have er_rq8_ := er_rq8_.symm; subst er_rq8_
      have hc_ro : Mq6_ ro = some (.inr (7, [.ref w, .ref im, .ref rd, .ref rc, .ref cu])) := (hfr ro (Or.inl hn_ro) n_ro_al n_ro_ii).trans hc_ro
      have hc_w : Mq6_ w = some (.inr (6, [.int td, .int gd, .int bc, .int py, .int rf, .int lt, .int tl, .int fp, .ref cs, .ref bs, .ref tp])) := (hfr w (Or.inl hn_w) n_w_al n_w_ii).trans hc_w
      have hc_bs : Mq6_ bs = some (.inl (kA 5, 4, .inr (.inr (.inr (.inr g))))) := (hfr bs (Or.inr (Or.inl t_bs)) n_bs_al n_bs_ii).trans hc_bs
      have hc_im : Mq6_ im = some (.inl (kA 6, 3, .inr (.inr (.inr (.inr giq_))))) := (hfr im (Or.inl hn_im) n_im_al n_im_ii).trans hc_im
      have hc_rd : Mq6_ rd = some (.inr (3, [.ref nb, .ref (zv z vi), .int no, .int wi, .ref by_, .int le, .int ki, .int pl, .int be, .int vr])) := (hfr rd (Or.inl hn_rd) n_rd_al n_rd_ii).trans hc_rd
      have hc_rc : Mq6_ rc = some (.inr (4, [.ref rb, .ref rs, .ref rp, .int pm])) := (hfr rc (Or.inl hn_rc) n_rc_al n_rc_ii).trans hc_rc
      have hc_mo : Mq6_ mo = some (.inr (8, [.ref al, .ref mt, .ref ii, .int ta, .int fpm, .ref pa, .int sm, .int nx, .int tk, .int plm, .int ln, .long va, .int wr, .ref li])) := (hfr mo (Or.inl hn_mo) n_mo_al n_mo_ii).trans hc_mo
      have hc_al : Mq6_ al = some (.inl (kA 0, 7506, .inl gq11_)) := hx_al
      have hc_ii : Mq6_ ii = some (.inl (kA 2, 3, .inl gq12_)) := hx_ii
      have hR_gq11_ : Rng gq11_ := h_gq11_.1
      have cq10_ : ¬ (0 ≤ vq2_.toInt ∧ vq2_.toInt ≤ 2) := cq10_
      exfalso; omega
  · skip
    have er := er.symm; subst er
    have hkr : ¬ (0 ≤ vq2_.toInt ∧ vq2_.toInt ≤ 2) := hkr
    have hg3 : ∀ j, 3 ≤ j → giq_ j = none := fun j hj => by rw [egi]; exact hg3 j hj
    refine lv_pop hx hb dL_law_1333 rfl ?_
    refine lv_aload_n hx hb dL_law_1334 rfl (lv_at hl 1 rfl) ?_
    refine lv_aload_n hx hb dL_law_1335 rfl (lv_at hl 3 rfl) ?_
    refine lv_iload_n hx hb dL_law_1336 rfl (lv_at hl 0 rfl) ?_
    refine lv_iconst (v := 1) hx hb dL_law_1337 (by decide) ?_
    refine lv_iadd hx hb dL_law_1338 ?_
    refine lv_cst (v := zq1_) e_zq1_.symm ?_
    refine va_sld hx hb hX hbl hbA hH.2.1 (sIx hi0 hi6 h_zq1_ (by decide) (by decide)) dL_law_1339 ?_
    refine lv_cst (v := vq2_) e_vq2_.symm ?_
    have hO_rd := hc_rd
    have hO_rc := hc_rc
    have hO_mo := hc_mo
    have hO_al := hc_al
    have hO_ii := hc_ii
    have hO_im := hc_im
    refine goI hK hH (runV (As := [.int vq2_]) (rest := []) hC hK hH (c_X10_image hc_mo hn_mo hc_al hn_al hc_ii hn_ii t_mt t_pa t_li (by exact hR_F)) mlL_154 (rcvM hK hH hc_mo rfl) ⟨⟨Nat.le_of_ble_eq_true rfl, Nat.le_of_ble_eq_true rfl⟩, hcl, hsl⟩ rfl hl.1 rfl (Nat.le_of_ble_eq_true rfl) dL_law_1340) (fun rq15_ Mq13_ Tq14_ Hq_ lcq_ hP hz hH => ?_)
    try dsimp only at hP
    obtain ⟨gq18_, h_gq18_, gq19_, h_gq19_, (⟨cq16_, er_rq15_, hx_al, hx_ii⟩ | ⟨cq17_, er_rq15_, hx_al, hx_ii⟩), eT, hfr⟩ := hP
    · skip
      have eT := eT.symm; subst eT
      have er_rq15_ := er_rq15_.symm; subst er_rq15_
      have hc_ro : Mq13_ ro = some (.inr (7, [.ref w, .ref im, .ref rd, .ref rc, .ref cu])) := (hfr ro (Or.inl hn_ro) n_ro_al n_ro_ii).trans hc_ro
      have hc_w : Mq13_ w = some (.inr (6, [.int td, .int gd, .int bc, .int py, .int rf, .int lt, .int tl, .int fp, .ref cs, .ref bs, .ref tp])) := (hfr w (Or.inl hn_w) n_w_al n_w_ii).trans hc_w
      have hc_bs : Mq13_ bs = some (.inl (kA 5, 4, .inr (.inr (.inr (.inr g))))) := (hfr bs (Or.inr (Or.inl t_bs)) n_bs_al n_bs_ii).trans hc_bs
      have hc_im : Mq13_ im = some (.inl (kA 6, 3, .inr (.inr (.inr (.inr giq_))))) := (hfr im (Or.inl hn_im) n_im_al n_im_ii).trans hc_im
      have hc_rd : Mq13_ rd = some (.inr (3, [.ref nb, .ref (zv z vi), .int no, .int wi, .ref by_, .int le, .int ki, .int pl, .int be, .int vr])) := (hfr rd (Or.inl hn_rd) n_rd_al n_rd_ii).trans hc_rd
      have hc_rc : Mq13_ rc = some (.inr (4, [.ref rb, .ref rs, .ref rp, .int pm])) := (hfr rc (Or.inl hn_rc) n_rc_al n_rc_ii).trans hc_rc
      have hc_mo : Mq13_ mo = some (.inr (8, [.ref al, .ref mt, .ref ii, .int ta, .int fpm, .ref pa, .int sm, .int nx, .int tk, .int plm, .int ln, .long va, .int wr, .ref li])) := (hfr mo (Or.inl hn_mo) n_mo_al n_mo_ii).trans hc_mo
      have hc_al : Mq13_ al = some (.inl (kA 0, 7506, .inl gq18_)) := hx_al
      have hc_ii : Mq13_ ii = some (.inl (kA 2, 3, .inl gq19_)) := hx_ii
      have hR_gq18_ : Rng gq18_ := h_gq18_.1
      have cq16_ : 0 ≤ vq2_.toInt ∧ vq2_.toInt ≤ 2 := cq16_
      exfalso; omega
    · skip
      have eT := eT.symm; subst eT
      have er_rq15_ := er_rq15_.symm; subst er_rq15_
      have hc_ro : Mq13_ ro = some (.inr (7, [.ref w, .ref im, .ref rd, .ref rc, .ref cu])) := (hfr ro (Or.inl hn_ro) n_ro_al n_ro_ii).trans hc_ro
      have hc_w : Mq13_ w = some (.inr (6, [.int td, .int gd, .int bc, .int py, .int rf, .int lt, .int tl, .int fp, .ref cs, .ref bs, .ref tp])) := (hfr w (Or.inl hn_w) n_w_al n_w_ii).trans hc_w
      have hc_bs : Mq13_ bs = some (.inl (kA 5, 4, .inr (.inr (.inr (.inr g))))) := (hfr bs (Or.inr (Or.inl t_bs)) n_bs_al n_bs_ii).trans hc_bs
      have hc_im : Mq13_ im = some (.inl (kA 6, 3, .inr (.inr (.inr (.inr giq_))))) := (hfr im (Or.inl hn_im) n_im_al n_im_ii).trans hc_im
      have hc_rd : Mq13_ rd = some (.inr (3, [.ref nb, .ref (zv z vi), .int no, .int wi, .ref by_, .int le, .int ki, .int pl, .int be, .int vr])) := (hfr rd (Or.inl hn_rd) n_rd_al n_rd_ii).trans hc_rd
      have hc_rc : Mq13_ rc = some (.inr (4, [.ref rb, .ref rs, .ref rp, .int pm])) := (hfr rc (Or.inl hn_rc) n_rc_al n_rc_ii).trans hc_rc
      have hc_mo : Mq13_ mo = some (.inr (8, [.ref al, .ref mt, .ref ii, .int ta, .int fpm, .ref pa, .int sm, .int nx, .int tk, .int plm, .int ln, .long va, .int wr, .ref li])) := (hfr mo (Or.inl hn_mo) n_mo_al n_mo_ii).trans hc_mo
      have hc_al : Mq13_ al = some (.inl (kA 0, 7506, .inl gq18_)) := hx_al
      have hc_ii : Mq13_ ii = some (.inl (kA 2, 3, .inl gq19_)) := hx_ii
      have hR_gq18_ : Rng gq18_ := h_gq18_.1
      have cq17_ : ¬ (0 ≤ vq2_.toInt ∧ vq2_.toInt ≤ 2) := cq17_
      have him : ImsOK kA Mq13_ Tq4_ w giq_ tiq_ := him.mv hn_w (fun q hA hw hk => hfr q (FrA.k hA) (fun z9 => by rw [z9] at hk; exact nWi (hk _ hO_al)) (fun z9 => by rw [z9] at hk; exact nWi (hk _ hO_ii)))
      have efj := h_gq19_.2 hkr
      have egg := h_gq18_.2.2.2 hkr
      have hRI : RelI giq_ tiq_ gq19_ gq18_ := by rw [egi, eti, efj, egg]; exact hRI
      refine lv_pop hx hb dL_law_1343 rfl ?_
      refine lv_goto (tgt := 1370) hx hb dL_law_1344 (by decide) ?_
      exact kk _ _ _ _ ls _ _ ⟨w, im, rd, rc, cu, cs, bs, tp, nb, by_, vi, rb, rs, rp, al, mt, ii, pa, li, td, gd, bc, py, rf, lt, tl, fp, no, wi, le, ki, pl, be, vr, pm, ta, fpm, sm, nx, tk, plm, ln, wr, va, g, giq_, tiq_, gq19_, gq18_, hc_ro, hc_w, hc_bs, hc_im, hc_rd, hc_rc, hc_mo, hc_al, hc_ii, hn_ro, hn_w, hn_im, hn_rd, hn_rc, hn_mo, hn_al, hn_ii, t_cu, t_cs, t_bs, t_tp, t_nb, t_rb, t_rs, t_rp, t_mt, t_pa, t_li, htd, hbc, htl, hvi, hno, hwi, hpm, hta, hRT, hg, hg3, him, hR_gq18_, hRI⟩ hH (lv_sub hl [0, 1, 2, 3] rfl) (Nat.le_refl _) (Nat.le_refl _)
set_option maxHeartbeats 4000000 in
set_option maxRecDepth 100000 in
theorem law_case_33 {p : Program} {e : Env} {s : State} {m : MethodId} {below : List Frame} {meth : Method} {c : Code} {l : Launch} {b L : Nat} {xs : Nat → Int32} (C0 : lw_At p s m meth c b L xs) (hL : L ≤ 3072) {z : zD} {D : va_G} {kA : Nat → ClassId} (hK : mK D kA s) {M : mM} {T : mT} {A : Nat → Prop} (hAq : ∀ q, A q → s.heap.size ≤ q) (hZ : zB z A s) {Hq_ : Heap} {lcq_ : List Loc} {ls : Array Slot} {ro mo : Nat} {i : Int32} {cells slots : Nat} {w im rd rc cu cs bs tp nb by_ vi rb rs rp al mt ii pa li : Nat} {td gd bc py rf lt tl fp no wi le ki pl be vr pm ta fpm sm nx tk plm ln wr : Int32} {va : Int64} {g gi : Nat → Option Nat} {ti fi F : Nat → Int32} (hc_ro : M ro = some (.inr (7, [.ref w, .ref im, .ref rd, .ref rc, .ref cu]))) (hc_w : M w = some (.inr (6, [.int td, .int gd, .int bc, .int py, .int rf, .int lt, .int tl, .int fp, .ref cs, .ref bs, .ref tp]))) (hc_bs : M bs = some (.inl (kA 5, 4, .inr (.inr (.inr (.inr g)))))) (hc_im : M im = some (.inl (kA 6, 3, .inr (.inr (.inr (.inr gi)))))) (hc_rd : M rd = some (.inr (3, [.ref nb, .ref (zv z vi), .int no, .int wi, .ref by_, .int le, .int ki, .int pl, .int be, .int vr]))) (hc_rc : M rc = some (.inr (4, [.ref rb, .ref rs, .ref rp, .int pm]))) (hc_mo : M mo = some (.inr (8, [.ref al, .ref mt, .ref ii, .int ta, .int fpm, .ref pa, .int sm, .int nx, .int tk, .int plm, .int ln, .long va, .int wr, .ref li]))) (hc_al : M al = some (.inl (kA 0, 7506, .inl F))) (hc_ii : M ii = some (.inl (kA 2, 3, .inl fi))) (hn_ro : T ro = none) (hn_w : T w = none) (hn_im : T im = none) (hn_rd : T rd = none) (hn_rc : T rc = none) (hn_mo : T mo = none) (hn_al : T al = none) (hn_ii : T ii = none) (t_cu : T cu = some 9) (t_cs : T cs = some 3) (t_bs : T bs = some 6) (t_tp : T tp = some 7) (t_nb : T nb = some 12) (t_rb : T rb = some 2) (t_rs : T rs = some 3) (t_rp : T rp = some 5) (t_mt : T mt = some 11) (t_pa : T pa = some 13) (t_li : T li = some 14) (htd : 0 ≤ td.toInt ∧ td.toInt ≤ 999) (hbc : 0 ≤ bc.toInt ∧ bc.toInt ≤ 4) (htl : 0 ≤ tl.toInt ∧ tl.toInt ≤ 600) (hvi : vi < 19) (hno : 0 ≤ no.toInt ∧ no.toInt ≤ 1) (hwi : 0 ≤ wi.toInt ∧ wi.toInt ≤ 1) (hpm : 0 ≤ pm.toInt ∧ pm.toInt ≤ 14) (hta : 0 ≤ ta.toInt ∧ ta.toInt ≤ 600) (hRT : ta.toInt = tl.toInt) (hg : ∀ j, j < 4 → ∃ q, g j = some q ∧ T q = some 2) (hg3 : ∀ j, 3 ≤ j → gi j = none) (him : ImsOK kA M T w gi ti) (hR_F : Rng F) (hRI : RelI gi ti fi F) (n_ro_w : ro ≠ w) (n_w_ro : w ≠ ro) (n_ro_bs : ro ≠ bs) (n_bs_ro : bs ≠ ro) (n_ro_im : ro ≠ im) (n_im_ro : im ≠ ro) (n_ro_rd : ro ≠ rd) (n_rd_ro : rd ≠ ro) (n_ro_rc : ro ≠ rc) (n_rc_ro : rc ≠ ro) (n_ro_mo : ro ≠ mo) (n_mo_ro : mo ≠ ro) (n_ro_al : ro ≠ al) (n_al_ro : al ≠ ro) (n_ro_ii : ro ≠ ii) (n_ii_ro : ii ≠ ro) (n_w_bs : w ≠ bs) (n_bs_w : bs ≠ w) (n_w_im : w ≠ im) (n_im_w : im ≠ w) (n_w_rd : w ≠ rd) (n_rd_w : rd ≠ w) (n_w_rc : w ≠ rc) (n_rc_w : rc ≠ w) (n_w_mo : w ≠ mo) (n_mo_w : mo ≠ w) (n_w_al : w ≠ al) (n_al_w : al ≠ w) (n_w_ii : w ≠ ii) (n_ii_w : ii ≠ w) (n_bs_im : bs ≠ im) (n_im_bs : im ≠ bs) (n_bs_rd : bs ≠ rd) (n_rd_bs : rd ≠ bs) (n_bs_rc : bs ≠ rc) (n_rc_bs : rc ≠ bs) (n_bs_mo : bs ≠ mo) (n_mo_bs : mo ≠ bs) (n_bs_al : bs ≠ al) (n_al_bs : al ≠ bs) (n_bs_ii : bs ≠ ii) (n_ii_bs : ii ≠ bs) (n_im_rd : im ≠ rd) (n_rd_im : rd ≠ im) (n_im_rc : im ≠ rc) (n_rc_im : rc ≠ im) (n_im_mo : im ≠ mo) (n_mo_im : mo ≠ im) (n_im_al : im ≠ al) (n_al_im : al ≠ im) (n_im_ii : im ≠ ii) (n_ii_im : ii ≠ im) (n_rd_rc : rd ≠ rc) (n_rc_rd : rc ≠ rd) (n_rd_mo : rd ≠ mo) (n_mo_rd : mo ≠ rd) (n_rd_al : rd ≠ al) (n_al_rd : al ≠ rd) (n_rd_ii : rd ≠ ii) (n_ii_rd : ii ≠ rd) (n_rc_mo : rc ≠ mo) (n_mo_rc : mo ≠ rc) (n_rc_al : rc ≠ al) (n_al_rc : al ≠ rc) (n_rc_ii : rc ≠ ii) (n_ii_rc : ii ≠ rc) (n_mo_al : mo ≠ al) (n_al_mo : al ≠ mo) (n_mo_ii : mo ≠ ii) (n_ii_mo : ii ≠ mo) (n_al_ii : al ≠ ii) (n_ii_al : ii ≠ al) (hi0 : 0 ≤ i.toInt) (hi6 : i.toInt + 6 ≤ (L : Int)) (hcl : cells + 92 ≤ 600000) (hsl : slots + 1627 ≤ 7302250) (hH : mS D kA M T A s.heap Hq_ lcq_) (hl : lv_has ls 4 [(3, .int i), (2, .ref mo), (1, .ref ro), (0, .ref b)]) (kk : ∀ (M1 : mM) (T1 : mT) (H1 : Heap) (locs1 : List Loc) (ls1 : Array Slot) (cl1 sl1 : Nat), LI z kA M1 T1 ro mo → mS D kA M1 T1 A s.heap H1 locs1 → lv_has ls1 4 [(3, .int i), (2, .ref mo), (1, .ref ro), (0, .ref b)] → cl1 ≤ cells + 92 → sl1 ≤ slots + 1627 → W p l e room_1 s m #[Value.ref b] below meth c H1 locs1 cl1 sl1 (lw_Z below #[Value.ref b] s) (F0 m 1370 ls1 [])) : W p l e room_1 s m #[Value.ref b] below meth c Hq_ lcq_ cells slots (lw_Z below #[Value.ref b] s) (F0 m 1347 ls []) := by
  obtain ⟨hx, hb, hr, hml, hown, hts, hX, hbl, hlocks, hgv⟩ := id C0
  have hC : CallFix p m c cL_law 4 s #[Value.ref b] TB RL := ⟨hx, hb, hml, hown, fun w h => hts w (TB_in h)⟩
  have hbA : ¬ A b := fun h => absurd (hAq b h) (Nat.not_le.mpr hbl)
  refine lv_aload_n hx hb dL_law_1347 rfl (lv_at hl 2 rfl) ?_
  refine lv_aload_n hx hb dL_law_1348 rfl (lv_at hl 3 rfl) ?_
  refine lv_iload_n hx hb dL_law_1349 rfl (lv_at hl 0 rfl) ?_
  refine lv_iconst (v := 1) hx hb dL_law_1350 (by decide) ?_
  refine lv_iadd hx hb dL_law_1351 ?_
  refine lv_topi (fun zq1_ e_zq1_ => ?_)
  have h_zq1_ : zq1_.toInt = i.toInt + (1 : Int32).toInt := sIa hi0 hi6 hL e_zq1_ (by decide) (by decide)
  refine va_sld hx hb hX hbl hbA hH.2.1 (sIx hi0 hi6 h_zq1_ (by decide) (by decide)) dL_law_1352 ?_
  refine lv_topi (fun vq2_ e_vq2_ => ?_)
  have hO_rd := hc_rd
  have hO_rc := hc_rc
  have hO_mo := hc_mo
  have hO_al := hc_al
  have hO_ii := hc_ii
  have hO_im := hc_im
  refine goI hK hH (runV (As := [.int vq2_]) (rest := []) hC hK hH (c_X9_again hc_ro hn_ro hc_w hn_w hc_bs hc_im hn_im t_cs t_bs t_tp (by exact htd) (by exact hbc) (by exact htl) (by exact him) hg) mlL_155 (rcvM hK hH hc_ro rfl) ⟨⟨Nat.le_of_ble_eq_true rfl, Nat.le_of_ble_eq_true rfl⟩, lcA hcl, lcA hsl⟩ rfl hl.1 rfl (Nat.le_of_ble_eq_true rfl) dL_law_1353) (fun rq5_ Mq3_ Tq4_ Hq_ lcq_ hP hz hH => ?_)
  try dsimp only at hP
  obtain ⟨xq8_, ⟨l_xq8_, g_xq8_⟩, xq9_, ⟨l_xq9_, g_xq9_⟩, xq10_, ⟨l_xq10_, g_xq10_⟩, xq11_, ⟨l_xq11_, g_xq11_⟩, xq12_, ⟨l_xq12_, g_xq12_⟩, xq13_, ⟨l_xq13_, g_xq13_⟩, xq14_, ⟨l_xq14_, g_xq14_⟩, xq15_, ⟨l_xq15_, g_xq15_⟩, (⟨cq6_, er_rq5_, hx_w⟩ | ⟨cq7_, er_rq5_, hx_w⟩), eT, hfr⟩ := hP
  · skip
    have eT := eT.symm; subst eT
    have er_rq5_ := er_rq5_.symm; subst er_rq5_
    have hc_ro : Mq3_ ro = some (.inr (7, [.ref w, .ref im, .ref rd, .ref rc, .ref cu])) := (hfr ro (Or.inl hn_ro) n_ro_w).trans hc_ro
    have hc_w : Mq3_ w = some (.inr (6, [.int xq8_, .int xq9_, .int xq10_, .int xq11_, .int xq12_, .int xq13_, .int xq14_, .int xq15_, .ref cs, .ref bs, .ref tp])) := hx_w
    have hc_bs : Mq3_ bs = some (.inl (kA 5, 4, .inr (.inr (.inr (.inr g))))) := (hfr bs (Or.inr t_bs) n_bs_w).trans hc_bs
    have hc_im : Mq3_ im = some (.inl (kA 6, 3, .inr (.inr (.inr (.inr gi))))) := (hfr im (Or.inl hn_im) n_im_w).trans hc_im
    have hc_rd : Mq3_ rd = some (.inr (3, [.ref nb, .ref (zv z vi), .int no, .int wi, .ref by_, .int le, .int ki, .int pl, .int be, .int vr])) := (hfr rd (Or.inl hn_rd) n_rd_w).trans hc_rd
    have hc_rc : Mq3_ rc = some (.inr (4, [.ref rb, .ref rs, .ref rp, .int pm])) := (hfr rc (Or.inl hn_rc) n_rc_w).trans hc_rc
    have hc_mo : Mq3_ mo = some (.inr (8, [.ref al, .ref mt, .ref ii, .int ta, .int fpm, .ref pa, .int sm, .int nx, .int tk, .int plm, .int ln, .long va, .int wr, .ref li])) := (hfr mo (Or.inl hn_mo) n_mo_w).trans hc_mo
    have hc_al : Mq3_ al = some (.inl (kA 0, 7506, .inl F)) := (hfr al (Or.inl hn_al) n_al_w).trans hc_al
    have hc_ii : Mq3_ ii = some (.inl (kA 2, 3, .inl fi)) := (hfr ii (Or.inl hn_ii) n_ii_w).trans hc_ii
    have cq6_ : (0 ≤ vq2_.toInt ∧ vq2_.toInt ≤ 2 ∧ gi (Int32.toNatClampNeg vq2_) ≠ none) ∧ xq14_ = ti (Int32.toNatClampNeg vq2_) := cq6_
    have him : ImsOK kA Mq3_ T w gi ti := him.mv hn_w (fun q hA hw hk => hfr q hA hw)
    refine lv_aload_n hx hb dL_law_1356 rfl (lv_at hl 1 rfl) ?_
    refine lv_aload_n hx hb dL_law_1357 rfl (lv_at hl 3 rfl) ?_
    refine lv_iload_n hx hb dL_law_1358 rfl (lv_at hl 0 rfl) ?_
    refine lv_iconst (v := 1) hx hb dL_law_1359 (by decide) ?_
    refine lv_iadd hx hb dL_law_1360 ?_
    refine lv_cst (v := zq1_) e_zq1_.symm ?_
    refine va_sld hx hb hX hbl hbA hH.2.1 (sIx hi0 hi6 h_zq1_ (by decide) (by decide)) dL_law_1361 ?_
    refine lv_cst (v := vq2_) e_vq2_.symm ?_
    have hRI0 := hRI
    have hO_rd := hc_rd
    have hO_rc := hc_rc
    have hO_mo := hc_mo
    have hO_al := hc_al
    have hO_ii := hc_ii
    have hO_im := hc_im
    refine goI hK hH (runV (As := [.int vq2_]) (rest := [.int 1]) hC hK hH (c_X10_again hc_mo hn_mo hc_al hn_al hc_ii hn_ii t_mt t_pa t_li (by exact hR_F) (by exact hta) (by exact hRI.him him)) mlL_158 (rcvM hK hH hc_mo rfl) ⟨⟨Nat.le_of_ble_eq_true rfl, Nat.le_of_ble_eq_true rfl⟩, lcA hcl, lcA hsl⟩ rfl hl.1 rfl (Nat.le_of_ble_eq_true rfl) dL_law_1362) (fun rq18_ Mq16_ Tq17_ Hq_ lcq_ hP hz hH => ?_)
    try dsimp only at hP
    obtain ⟨gq23_, h_gq23_, xq21_, ⟨l_xq21_, g_xq21_⟩, xq22_, ⟨l_xq22_, g_xq22_⟩, (⟨cq19_, er_rq18_, hx_al, hx_mo⟩ | ⟨cq20_, er_rq18_, hx_al, hx_mo⟩), eT, hfr⟩ := hP
    · skip
      have eT := eT.symm; subst eT
      have er_rq18_ := er_rq18_.symm; subst er_rq18_
      have hc_ro : Mq16_ ro = some (.inr (7, [.ref w, .ref im, .ref rd, .ref rc, .ref cu])) := (hfr ro (Or.inl hn_ro) n_ro_al n_ro_mo).trans hc_ro
      have hc_w : Mq16_ w = some (.inr (6, [.int xq8_, .int xq9_, .int xq10_, .int xq11_, .int xq12_, .int xq13_, .int xq14_, .int xq15_, .ref cs, .ref bs, .ref tp])) := (hfr w (Or.inl hn_w) n_w_al n_w_mo).trans hc_w
      have hc_bs : Mq16_ bs = some (.inl (kA 5, 4, .inr (.inr (.inr (.inr g))))) := (hfr bs (Or.inr (Or.inl t_bs)) n_bs_al n_bs_mo).trans hc_bs
      have hc_im : Mq16_ im = some (.inl (kA 6, 3, .inr (.inr (.inr (.inr gi))))) := (hfr im (Or.inl hn_im) n_im_al n_im_mo).trans hc_im
      have hc_rd : Mq16_ rd = some (.inr (3, [.ref nb, .ref (zv z vi), .int no, .int wi, .ref by_, .int le, .int ki, .int pl, .int be, .int vr])) := (hfr rd (Or.inl hn_rd) n_rd_al n_rd_mo).trans hc_rd
      have hc_rc : Mq16_ rc = some (.inr (4, [.ref rb, .ref rs, .ref rp, .int pm])) := (hfr rc (Or.inl hn_rc) n_rc_al n_rc_mo).trans hc_rc
      have hc_mo : Mq16_ mo = some (.inr (8, [.ref al, .ref mt, .ref ii, .int xq21_, .int xq22_, .ref pa, .int sm, .int nx, .int tk, .int plm, .int ln, .long va, .int wr, .ref li])) := hx_mo
      have hc_al : Mq16_ al = some (.inl (kA 0, 7506, .inl gq23_)) := hx_al
      have hc_ii : Mq16_ ii = some (.inl (kA 2, 3, .inl fi)) := (hfr ii (Or.inl hn_ii) n_ii_al n_ii_mo).trans hc_ii
      have hR_gq23_ : Rng gq23_ := h_gq23_.1
      have hRI := hRI.ke (h_gq23_.2)
      have cq19_ : (0 ≤ vq2_.toInt ∧ vq2_.toInt ≤ 2 ∧ (fi vq2_.toInt.toNat).toInt ≠ 0) ∧ xq21_ = F (2280 + 1742 * vq2_.toInt.toNat + 1740) := cq19_
      have him : ImsOK kA Mq16_ T w gi ti := him.mv hn_w (fun q hA hw hk => hfr q (FrA.k hA) (fun z9 => by rw [z9] at hk; exact nWi (hk _ hO_al)) (fun z9 => by rw [z9] at hk; exact nW3 (by decide) (hk _ hO_mo)))
      have hRT9 : xq21_.toInt = xq14_.toInt := by rcases hRI0 (Int32.toNatClampNeg vq2_) (by have := iCl (x := vq2_) (by omega); omega) with h9 | h9; exact absurd h9.1 cq6_.1.2.2; rw [cq19_.2, cq6_.2]; exact congrArg Int32.toInt h9.2.2
      refine jic_eq (tgt := 1370) hx hb dL_law_1365 (by decide) (fun cq24_ => ?_) (fun cq24_ => by exfalso; have cq24_ : (1 : Int32).toInt ≠ (1 : Int32).toInt := cq24_; have : (1 : Int32).toInt = 1 := rfl; omega)
      exact kk _ _ _ _ ls _ _ ⟨w, im, rd, rc, cu, cs, bs, tp, nb, by_, vi, rb, rs, rp, al, mt, ii, pa, li, xq8_, xq9_, xq10_, xq11_, xq12_, xq13_, xq14_, xq15_, no, wi, le, ki, pl, be, vr, pm, xq21_, xq22_, sm, nx, tk, plm, ln, wr, va, g, gi, ti, fi, gq23_, hc_ro, hc_w, hc_bs, hc_im, hc_rd, hc_rc, hc_mo, hc_al, hc_ii, hn_ro, hn_w, hn_im, hn_rd, hn_rc, hn_mo, hn_al, hn_ii, t_cu, t_cs, t_bs, t_tp, t_nb, t_rb, t_rs, t_rp, t_mt, t_pa, t_li, ⟨l_xq8_, g_xq8_⟩, ⟨l_xq10_, g_xq10_⟩, ⟨l_xq14_, g_xq14_⟩, hvi, hno, hwi, hpm, ⟨l_xq21_, g_xq21_⟩, (by omega), hg, hg3, him, hR_gq23_, hRI⟩ hH (lv_sub hl [0, 1, 2, 3] rfl) (Nat.le_add_right _ _) (Nat.le_add_right _ _)
    · skip
      have eT := eT.symm; subst eT
      have er_rq18_ := er_rq18_.symm; subst er_rq18_
      have hc_ro : Mq16_ ro = some (.inr (7, [.ref w, .ref im, .ref rd, .ref rc, .ref cu])) := (hfr ro (Or.inl hn_ro) n_ro_al n_ro_mo).trans hc_ro
      have hc_w : Mq16_ w = some (.inr (6, [.int xq8_, .int xq9_, .int xq10_, .int xq11_, .int xq12_, .int xq13_, .int xq14_, .int xq15_, .ref cs, .ref bs, .ref tp])) := (hfr w (Or.inl hn_w) n_w_al n_w_mo).trans hc_w
      have hc_bs : Mq16_ bs = some (.inl (kA 5, 4, .inr (.inr (.inr (.inr g))))) := (hfr bs (Or.inr (Or.inl t_bs)) n_bs_al n_bs_mo).trans hc_bs
      have hc_im : Mq16_ im = some (.inl (kA 6, 3, .inr (.inr (.inr (.inr gi))))) := (hfr im (Or.inl hn_im) n_im_al n_im_mo).trans hc_im
      have hc_rd : Mq16_ rd = some (.inr (3, [.ref nb, .ref (zv z vi), .int no, .int wi, .ref by_, .int le, .int ki, .int pl, .int be, .int vr])) := (hfr rd (Or.inl hn_rd) n_rd_al n_rd_mo).trans hc_rd
      have hc_rc : Mq16_ rc = some (.inr (4, [.ref rb, .ref rs, .ref rp, .int pm])) := (hfr rc (Or.inl hn_rc) n_rc_al n_rc_mo).trans hc_rc
      have hc_mo : Mq16_ mo = some (.inr (8, [.ref al, .ref mt, .ref ii, .int xq21_, .int xq22_, .ref pa, .int sm, .int nx, .int tk, .int plm, .int ln, .long va, .int wr, .ref li])) := hx_mo
      have hc_al : Mq16_ al = some (.inl (kA 0, 7506, .inl gq23_)) := hx_al
      have hc_ii : Mq16_ ii = some (.inl (kA 2, 3, .inl fi)) := (hfr ii (Or.inl hn_ii) n_ii_al n_ii_mo).trans hc_ii
      have hR_gq23_ : Rng gq23_ := h_gq23_.1
      have hRI := hRI.ke (h_gq23_.2)
      have cq20_ : ¬ (0 ≤ vq2_.toInt ∧ vq2_.toInt ≤ 2 ∧ (fi vq2_.toInt.toNat).toInt ≠ 0) ∧ xq21_ = ta := cq20_
      have him : ImsOK kA Mq16_ T w gi ti := him.mv hn_w (fun q hA hw hk => hfr q (FrA.k hA) (fun z9 => by rw [z9] at hk; exact nWi (hk _ hO_al)) (fun z9 => by rw [z9] at hk; exact nW3 (by decide) (hk _ hO_mo)))
      exfalso; rcases hRI0 (Int32.toNatClampNeg vq2_) (by have := iCl (x := vq2_) (by omega); omega) with h9 | h9; exact cq6_.1.2.2 h9.1; exact cq20_.1 ⟨cq6_.1.1, cq6_.1.2.1, h9.2.1⟩
  · skip
    have eT := eT.symm; subst eT
    have er_rq5_ := er_rq5_.symm; subst er_rq5_
    have hc_ro : Mq3_ ro = some (.inr (7, [.ref w, .ref im, .ref rd, .ref rc, .ref cu])) := (hfr ro (Or.inl hn_ro) n_ro_w).trans hc_ro
    have hc_w : Mq3_ w = some (.inr (6, [.int xq8_, .int xq9_, .int xq10_, .int xq11_, .int xq12_, .int xq13_, .int xq14_, .int xq15_, .ref cs, .ref bs, .ref tp])) := hx_w
    have hc_bs : Mq3_ bs = some (.inl (kA 5, 4, .inr (.inr (.inr (.inr g))))) := (hfr bs (Or.inr t_bs) n_bs_w).trans hc_bs
    have hc_im : Mq3_ im = some (.inl (kA 6, 3, .inr (.inr (.inr (.inr gi))))) := (hfr im (Or.inl hn_im) n_im_w).trans hc_im
    have hc_rd : Mq3_ rd = some (.inr (3, [.ref nb, .ref (zv z vi), .int no, .int wi, .ref by_, .int le, .int ki, .int pl, .int be, .int vr])) := (hfr rd (Or.inl hn_rd) n_rd_w).trans hc_rd
    have hc_rc : Mq3_ rc = some (.inr (4, [.ref rb, .ref rs, .ref rp, .int pm])) := (hfr rc (Or.inl hn_rc) n_rc_w).trans hc_rc
    have hc_mo : Mq3_ mo = some (.inr (8, [.ref al, .ref mt, .ref ii, .int ta, .int fpm, .ref pa, .int sm, .int nx, .int tk, .int plm, .int ln, .long va, .int wr, .ref li])) := (hfr mo (Or.inl hn_mo) n_mo_w).trans hc_mo
    have hc_al : Mq3_ al = some (.inl (kA 0, 7506, .inl F)) := (hfr al (Or.inl hn_al) n_al_w).trans hc_al
    have hc_ii : Mq3_ ii = some (.inl (kA 2, 3, .inl fi)) := (hfr ii (Or.inl hn_ii) n_ii_w).trans hc_ii
    have cq7_ : ¬ (0 ≤ vq2_.toInt ∧ vq2_.toInt ≤ 2 ∧ gi (Int32.toNatClampNeg vq2_) ≠ none) ∧ xq14_ = tl := cq7_
    have him : ImsOK kA Mq3_ T w gi ti := him.mv hn_w (fun q hA hw hk => hfr q hA hw)
    refine lv_aload_n hx hb dL_law_1356 rfl (lv_at hl 1 rfl) ?_
    refine lv_aload_n hx hb dL_law_1357 rfl (lv_at hl 3 rfl) ?_
    refine lv_iload_n hx hb dL_law_1358 rfl (lv_at hl 0 rfl) ?_
    refine lv_iconst (v := 1) hx hb dL_law_1359 (by decide) ?_
    refine lv_iadd hx hb dL_law_1360 ?_
    refine lv_cst (v := zq1_) e_zq1_.symm ?_
    refine va_sld hx hb hX hbl hbA hH.2.1 (sIx hi0 hi6 h_zq1_ (by decide) (by decide)) dL_law_1361 ?_
    refine lv_cst (v := vq2_) e_vq2_.symm ?_
    have hRI0 := hRI
    have hO_rd := hc_rd
    have hO_rc := hc_rc
    have hO_mo := hc_mo
    have hO_al := hc_al
    have hO_ii := hc_ii
    have hO_im := hc_im
    refine goI hK hH (runV (As := [.int vq2_]) (rest := [.int 0]) hC hK hH (c_X10_again hc_mo hn_mo hc_al hn_al hc_ii hn_ii t_mt t_pa t_li (by exact hR_F) (by exact hta) (by exact hRI.him him)) mlL_158 (rcvM hK hH hc_mo rfl) ⟨⟨Nat.le_of_ble_eq_true rfl, Nat.le_of_ble_eq_true rfl⟩, lcA hcl, lcA hsl⟩ rfl hl.1 rfl (Nat.le_of_ble_eq_true rfl) dL_law_1362) (fun rq27_ Mq25_ Tq26_ Hq_ lcq_ hP hz hH => ?_)
    try dsimp only at hP
    obtain ⟨gq32_, h_gq32_, xq30_, ⟨l_xq30_, g_xq30_⟩, xq31_, ⟨l_xq31_, g_xq31_⟩, (⟨cq28_, er_rq27_, hx_al, hx_mo⟩ | ⟨cq29_, er_rq27_, hx_al, hx_mo⟩), eT, hfr⟩ := hP
    · skip
      have eT := eT.symm; subst eT
      have er_rq27_ := er_rq27_.symm; subst er_rq27_
      have hc_ro : Mq25_ ro = some (.inr (7, [.ref w, .ref im, .ref rd, .ref rc, .ref cu])) := (hfr ro (Or.inl hn_ro) n_ro_al n_ro_mo).trans hc_ro
      have hc_w : Mq25_ w = some (.inr (6, [.int xq8_, .int xq9_, .int xq10_, .int xq11_, .int xq12_, .int xq13_, .int xq14_, .int xq15_, .ref cs, .ref bs, .ref tp])) := (hfr w (Or.inl hn_w) n_w_al n_w_mo).trans hc_w
      have hc_bs : Mq25_ bs = some (.inl (kA 5, 4, .inr (.inr (.inr (.inr g))))) := (hfr bs (Or.inr (Or.inl t_bs)) n_bs_al n_bs_mo).trans hc_bs
      have hc_im : Mq25_ im = some (.inl (kA 6, 3, .inr (.inr (.inr (.inr gi))))) := (hfr im (Or.inl hn_im) n_im_al n_im_mo).trans hc_im
      have hc_rd : Mq25_ rd = some (.inr (3, [.ref nb, .ref (zv z vi), .int no, .int wi, .ref by_, .int le, .int ki, .int pl, .int be, .int vr])) := (hfr rd (Or.inl hn_rd) n_rd_al n_rd_mo).trans hc_rd
      have hc_rc : Mq25_ rc = some (.inr (4, [.ref rb, .ref rs, .ref rp, .int pm])) := (hfr rc (Or.inl hn_rc) n_rc_al n_rc_mo).trans hc_rc
      have hc_mo : Mq25_ mo = some (.inr (8, [.ref al, .ref mt, .ref ii, .int xq30_, .int xq31_, .ref pa, .int sm, .int nx, .int tk, .int plm, .int ln, .long va, .int wr, .ref li])) := hx_mo
      have hc_al : Mq25_ al = some (.inl (kA 0, 7506, .inl gq32_)) := hx_al
      have hc_ii : Mq25_ ii = some (.inl (kA 2, 3, .inl fi)) := (hfr ii (Or.inl hn_ii) n_ii_al n_ii_mo).trans hc_ii
      have hR_gq32_ : Rng gq32_ := h_gq32_.1
      have hRI := hRI.ke (h_gq32_.2)
      have cq28_ : (0 ≤ vq2_.toInt ∧ vq2_.toInt ≤ 2 ∧ (fi vq2_.toInt.toNat).toInt ≠ 0) ∧ xq30_ = F (2280 + 1742 * vq2_.toInt.toNat + 1740) := cq28_
      have him : ImsOK kA Mq25_ T w gi ti := him.mv hn_w (fun q hA hw hk => hfr q (FrA.k hA) (fun z9 => by rw [z9] at hk; exact nWi (hk _ hO_al)) (fun z9 => by rw [z9] at hk; exact nW3 (by decide) (hk _ hO_mo)))
      exfalso; rcases hRI0 (Int32.toNatClampNeg vq2_) (by have := iCl (x := vq2_) (by omega); omega) with h9 | h9; exact cq28_.1.2.2 h9.2; exact cq7_.1 ⟨cq28_.1.1, cq28_.1.2.1, h9.1⟩
    · skip
      have eT := eT.symm; subst eT
      have er_rq27_ := er_rq27_.symm; subst er_rq27_
      have hc_ro : Mq25_ ro = some (.inr (7, [.ref w, .ref im, .ref rd, .ref rc, .ref cu])) := (hfr ro (Or.inl hn_ro) n_ro_al n_ro_mo).trans hc_ro
      have hc_w : Mq25_ w = some (.inr (6, [.int xq8_, .int xq9_, .int xq10_, .int xq11_, .int xq12_, .int xq13_, .int xq14_, .int xq15_, .ref cs, .ref bs, .ref tp])) := (hfr w (Or.inl hn_w) n_w_al n_w_mo).trans hc_w
      have hc_bs : Mq25_ bs = some (.inl (kA 5, 4, .inr (.inr (.inr (.inr g))))) := (hfr bs (Or.inr (Or.inl t_bs)) n_bs_al n_bs_mo).trans hc_bs
      have hc_im : Mq25_ im = some (.inl (kA 6, 3, .inr (.inr (.inr (.inr gi))))) := (hfr im (Or.inl hn_im) n_im_al n_im_mo).trans hc_im
      have hc_rd : Mq25_ rd = some (.inr (3, [.ref nb, .ref (zv z vi), .int no, .int wi, .ref by_, .int le, .int ki, .int pl, .int be, .int vr])) := (hfr rd (Or.inl hn_rd) n_rd_al n_rd_mo).trans hc_rd
      have hc_rc : Mq25_ rc = some (.inr (4, [.ref rb, .ref rs, .ref rp, .int pm])) := (hfr rc (Or.inl hn_rc) n_rc_al n_rc_mo).trans hc_rc
      have hc_mo : Mq25_ mo = some (.inr (8, [.ref al, .ref mt, .ref ii, .int xq30_, .int xq31_, .ref pa, .int sm, .int nx, .int tk, .int plm, .int ln, .long va, .int wr, .ref li])) := hx_mo
      have hc_al : Mq25_ al = some (.inl (kA 0, 7506, .inl gq32_)) := hx_al
      have hc_ii : Mq25_ ii = some (.inl (kA 2, 3, .inl fi)) := (hfr ii (Or.inl hn_ii) n_ii_al n_ii_mo).trans hc_ii
      have hR_gq32_ : Rng gq32_ := h_gq32_.1
      have hRI := hRI.ke (h_gq32_.2)
      have cq29_ : ¬ (0 ≤ vq2_.toInt ∧ vq2_.toInt ≤ 2 ∧ (fi vq2_.toInt.toNat).toInt ≠ 0) ∧ xq30_ = ta := cq29_
      have him : ImsOK kA Mq25_ T w gi ti := him.mv hn_w (fun q hA hw hk => hfr q (FrA.k hA) (fun z9 => by rw [z9] at hk; exact nWi (hk _ hO_al)) (fun z9 => by rw [z9] at hk; exact nW3 (by decide) (hk _ hO_mo)))
      have hRT9 : xq30_.toInt = xq14_.toInt := by rw [cq29_.2, cq7_.2]; exact hRT
      refine jic_eq (tgt := 1370) hx hb dL_law_1365 (by decide) (fun cq33_ => ?_) (fun cq33_ => by exfalso; have cq33_ : (0 : Int32).toInt ≠ (0 : Int32).toInt := cq33_; have : (0 : Int32).toInt = 0 := rfl; omega)
      exact kk _ _ _ _ ls _ _ ⟨w, im, rd, rc, cu, cs, bs, tp, nb, by_, vi, rb, rs, rp, al, mt, ii, pa, li, xq8_, xq9_, xq10_, xq11_, xq12_, xq13_, xq14_, xq15_, no, wi, le, ki, pl, be, vr, pm, xq30_, xq31_, sm, nx, tk, plm, ln, wr, va, g, gi, ti, fi, gq32_, hc_ro, hc_w, hc_bs, hc_im, hc_rd, hc_rc, hc_mo, hc_al, hc_ii, hn_ro, hn_w, hn_im, hn_rd, hn_rc, hn_mo, hn_al, hn_ii, t_cu, t_cs, t_bs, t_tp, t_nb, t_rb, t_rs, t_rp, t_mt, t_pa, t_li, ⟨l_xq8_, g_xq8_⟩, ⟨l_xq10_, g_xq10_⟩, ⟨l_xq14_, g_xq14_⟩, hvi, hno, hwi, hpm, ⟨l_xq30_, g_xq30_⟩, (by omega), hg, hg3, him, hR_gq32_, hRI⟩ hH (lv_sub hl [0, 1, 2, 3] rfl) (Nat.le_add_right _ _) (Nat.le_add_right _ _)
