set_option maxHeartbeats 4000000 in
set_option maxRecDepth 100000 in
theorem law_case_28 {p : Program} {e : Env} {s : State} {m : MethodId} {below : List Frame} {meth : Method} {c : Code} {l : Launch} {b L : Nat} {xs : Nat → Int32} (C0 : lw_At p s m meth c b L xs) (hL : L ≤ 3072) {z : zD} {D : va_G} {kA : Nat → ClassId} (hK : mK D kA s) {M : mM} {T : mT} {A : Nat → Prop} (hAq : ∀ q, A q → s.heap.size ≤ q) (hZ : zB z A s) {Hq_ : Heap} {lcq_ : List Loc} {ls : Array Slot} {ro mo : Nat} {i : Int32} {cells slots : Nat} (hLI : LI z kA M T ro mo) (hi0 : 0 ≤ i.toInt) (hi6 : i.toInt + 6 ≤ (L : Int)) (hcl : cells + 92 ≤ 600000) (hsl : slots + 1627 ≤ 7302250) (hH : mS D kA M T A s.heap Hq_ lcq_) (hl : lv_has ls 4 [(3, .int i), (2, .ref mo), (1, .ref ro), (0, .ref b)]) (kk : ∀ (M1 : mM) (T1 : mT) (H1 : Heap) (locs1 : List Loc) (ls1 : Array Slot) (cl1 sl1 : Nat), LI z kA M1 T1 ro mo → mS D kA M1 T1 A s.heap H1 locs1 → lv_has ls1 4 [(3, .int i), (2, .ref mo), (1, .ref ro), (0, .ref b)] → cl1 ≤ cells + 92 → sl1 ≤ slots + 1627 → W p l e room_1 s m #[Value.ref b] below meth c H1 locs1 cl1 sl1 (lw_Z below #[Value.ref b] s) (F0 m 1370 ls1 [])) : W p l e room_1 s m #[Value.ref b] below meth c Hq_ lcq_ cells slots (lw_Z below #[Value.ref b] s) (F0 m 1212 ls []) := by
  obtain ⟨hx, hb, hr, hml, hown, hts, hX, hbl, hlocks, hgv⟩ := id C0
  have hC : CallFix p m c cL_law 4 s #[Value.ref b] TB RL := ⟨hx, hb, hml, hown, fun w h => hts w (TB_in h)⟩
  have hbA : ¬ A b := fun h => absurd (hAq b h) (Nat.not_le.mpr hbl)
  obtain ⟨w, im, rd, rc, cu, cs, bs, tp, nb, by_, vi, rb, rs, rp, al, mt, ii, pa, li, td, gd, bc, py, rf, lt, tl, fp, no, wi, le, ki, pl, be, vr, pm, ta, fpm, sm, nx, tk, plm, ln, wr, va, g, gi, ti, fi, F, hc_ro, hc_w, hc_bs, hc_im, hc_rd, hc_rc, hc_mo, hc_al, hc_ii, hn_ro, hn_w, hn_im, hn_rd, hn_rc, hn_mo, hn_al, hn_ii, t_cu, t_cs, t_bs, t_tp, t_nb, t_rb, t_rs, t_rp, t_mt, t_pa, t_li, htd, hbc, htl, hvi, hno, hwi, hpm, hta, hRT, hg, hg3, him, hR_F, hRI⟩ := hLI
  obtain ⟨n_ro_w, n_w_ro, n_ro_bs, n_bs_ro, n_ro_im, n_im_ro, n_ro_rd, n_rd_ro, n_ro_rc, n_rc_ro, n_ro_mo, n_mo_ro, n_ro_al, n_al_ro, n_ro_ii, n_ii_ro, n_w_bs, n_bs_w, n_w_im, n_im_w, n_w_rd, n_rd_w, n_w_rc, n_rc_w, n_w_mo, n_mo_w, n_w_al, n_al_w, n_w_ii, n_ii_w, n_bs_im, n_im_bs, n_bs_rd, n_rd_bs, n_bs_rc, n_rc_bs, n_bs_mo, n_mo_bs, n_bs_al, n_al_bs, n_bs_ii, n_ii_bs, n_im_rd, n_rd_im, n_im_rc, n_rc_im, n_im_mo, n_mo_im, n_im_al, n_al_im, n_im_ii, n_ii_im, n_rd_rc, n_rc_rd, n_rd_mo, n_mo_rd, n_rd_al, n_al_rd, n_rd_ii, n_ii_rd, n_rc_mo, n_mo_rc, n_rc_al, n_al_rc, n_rc_ii, n_ii_rc, n_mo_al, n_al_mo, n_mo_ii, n_ii_mo, n_al_ii, n_ii_al⟩ := ap9 hc_ro hc_w hc_bs hc_im hc_rd hc_rc hc_mo hc_al hc_ii
  refine lv_aload_n hx hb dL_law_1212 rfl (lv_at hl 2 rfl) ?_
  refine lv_aload_n hx hb dL_law_1213 rfl (lv_at hl 3 rfl) ?_
  refine lv_iload_n hx hb dL_law_1214 rfl (lv_at hl 0 rfl) ?_
  refine lv_iconst (v := 1) hx hb dL_law_1215 (by decide) ?_
  refine lv_iadd hx hb dL_law_1216 ?_
  refine lv_topi (fun zq1_ e_zq1_ => ?_)
  have h_zq1_ : zq1_.toInt = i.toInt + (1 : Int32).toInt := sIa hi0 hi6 hL e_zq1_ (by decide) (by decide)
  refine va_sld hx hb hX hbl hbA hH.2.1 (sIx hi0 hi6 h_zq1_ (by decide) (by decide)) dL_law_1217 ?_
  refine lv_topi (fun vq2_ e_vq2_ => ?_)
  have hO_rd := hc_rd
  have hO_rc := hc_rc
  have hO_mo := hc_mo
  have hO_al := hc_al
  have hO_ii := hc_ii
  have hO_im := hc_im
  refine goI hK hH (runV (As := [.int vq2_]) (rest := []) hC hK hH (c_X9_owes hc_ro hn_ro hc_w hn_w hc_bs t_cs t_bs t_tp (by exact htd) (by exact hbc) (by exact htl) hg) mlL_134 (rcvM hK hH hc_ro rfl) ⟨⟨Nat.le_of_ble_eq_true rfl, Nat.le_of_ble_eq_true rfl⟩, lcA hcl, lcA hsl⟩ rfl hl.1 rfl (Nat.le_of_ble_eq_true rfl) dL_law_1218) (fun rq5_ Mq3_ Tq4_ Hq_ lcq_ hP hz hH => ?_)
  try dsimp only at hP
  obtain ⟨(-), eT, eM⟩ := hP
  have eT := eT.symm; subst eT
  have eM := eM.symm; subst eM
  refine lv_pop hx hb dL_law_1221 rfl ?_
  refine lv_aload_n hx hb dL_law_1222 rfl (lv_at hl 1 rfl) ?_
  refine lv_aload_n hx hb dL_law_1223 rfl (lv_at hl 3 rfl) ?_
  refine lv_iload_n hx hb dL_law_1224 rfl (lv_at hl 0 rfl) ?_
  refine lv_iconst (v := 1) hx hb dL_law_1225 (by decide) ?_
  refine lv_iadd hx hb dL_law_1226 ?_
  refine lv_cst (v := zq1_) e_zq1_.symm ?_
  refine va_sld hx hb hX hbl hbA hH.2.1 (sIx hi0 hi6 h_zq1_ (by decide) (by decide)) dL_law_1227 ?_
  refine lv_cst (v := vq2_) e_vq2_.symm ?_
  have hO_rd := hc_rd
  have hO_rc := hc_rc
  have hO_mo := hc_mo
  have hO_al := hc_al
  have hO_ii := hc_ii
  have hO_im := hc_im
  refine goI hK hH (runV (As := [.int vq2_]) (rest := []) hC hK hH (c_X10_owes hc_mo hn_mo hc_al hn_al t_mt t_pa t_li (by exact hR_F)) mlL_137 (rcvM hK hH hc_mo rfl) ⟨⟨Nat.le_of_ble_eq_true rfl, Nat.le_of_ble_eq_true rfl⟩, lcA hcl, lcA hsl⟩ rfl hl.1 rfl (Nat.le_of_ble_eq_true rfl) dL_law_1228) (fun rq8_ Mq6_ Tq7_ Hq_ lcq_ hP hz hH => ?_)
  try dsimp only at hP
  obtain ⟨(-), eT, eM⟩ := hP
  have eT := eT.symm; subst eT
  have eM := eM.symm; subst eM
  refine lv_pop hx hb dL_law_1231 rfl ?_
  refine lv_goto (tgt := 1370) hx hb dL_law_1232 (by decide) ?_
  exact kk _ _ _ _ ls _ _ ⟨w, im, rd, rc, cu, cs, bs, tp, nb, by_, vi, rb, rs, rp, al, mt, ii, pa, li, td, gd, bc, py, rf, lt, tl, fp, no, wi, le, ki, pl, be, vr, pm, ta, fpm, sm, nx, tk, plm, ln, wr, va, g, gi, ti, fi, F, hc_ro, hc_w, hc_bs, hc_im, hc_rd, hc_rc, hc_mo, hc_al, hc_ii, hn_ro, hn_w, hn_im, hn_rd, hn_rc, hn_mo, hn_al, hn_ii, t_cu, t_cs, t_bs, t_tp, t_nb, t_rb, t_rs, t_rp, t_mt, t_pa, t_li, htd, hbc, htl, hvi, hno, hwi, hpm, hta, hRT, hg, hg3, him, hR_F, hRI⟩ hH (lv_sub hl [0, 1, 2, 3] rfl) (Nat.le_add_right _ _) (Nat.le_add_right _ _)
set_option maxHeartbeats 4000000 in
set_option maxRecDepth 100000 in
theorem law_case_29 {p : Program} {e : Env} {s : State} {m : MethodId} {below : List Frame} {meth : Method} {c : Code} {l : Launch} {b L : Nat} {xs : Nat → Int32} (C0 : lw_At p s m meth c b L xs) (hL : L ≤ 3072) {z : zD} {D : va_G} {kA : Nat → ClassId} (hK : mK D kA s) {M : mM} {T : mT} {A : Nat → Prop} (hAq : ∀ q, A q → s.heap.size ≤ q) (hZ : zB z A s) {Hq_ : Heap} {lcq_ : List Loc} {ls : Array Slot} {ro mo : Nat} {i : Int32} {cells slots : Nat} (hLI : LI z kA M T ro mo) (hi0 : 0 ≤ i.toInt) (hi6 : i.toInt + 6 ≤ (L : Int)) (hcl : cells + 92 ≤ 600000) (hsl : slots + 1627 ≤ 7302250) (hH : mS D kA M T A s.heap Hq_ lcq_) (hl : lv_has ls 4 [(3, .int i), (2, .ref mo), (1, .ref ro), (0, .ref b)]) (kk : ∀ (M1 : mM) (T1 : mT) (H1 : Heap) (locs1 : List Loc) (ls1 : Array Slot) (cl1 sl1 : Nat), LI z kA M1 T1 ro mo → mS D kA M1 T1 A s.heap H1 locs1 → lv_has ls1 4 [(3, .int i), (2, .ref mo), (1, .ref ro), (0, .ref b)] → cl1 ≤ cells + 92 → sl1 ≤ slots + 1627 → W p l e room_1 s m #[Value.ref b] below meth c H1 locs1 cl1 sl1 (lw_Z below #[Value.ref b] s) (F0 m 1370 ls1 [])) : W p l e room_1 s m #[Value.ref b] below meth c Hq_ lcq_ cells slots (lw_Z below #[Value.ref b] s) (F0 m 1235 ls []) := by
  obtain ⟨hx, hb, hr, hml, hown, hts, hX, hbl, hlocks, hgv⟩ := id C0
  have hC : CallFix p m c cL_law 4 s #[Value.ref b] TB RL := ⟨hx, hb, hml, hown, fun w h => hts w (TB_in h)⟩
  have hbA : ¬ A b := fun h => absurd (hAq b h) (Nat.not_le.mpr hbl)
  obtain ⟨w, im, rd, rc, cu, cs, bs, tp, nb, by_, vi, rb, rs, rp, al, mt, ii, pa, li, td, gd, bc, py, rf, lt, tl, fp, no, wi, le, ki, pl, be, vr, pm, ta, fpm, sm, nx, tk, plm, ln, wr, va, g, gi, ti, fi, F, hc_ro, hc_w, hc_bs, hc_im, hc_rd, hc_rc, hc_mo, hc_al, hc_ii, hn_ro, hn_w, hn_im, hn_rd, hn_rc, hn_mo, hn_al, hn_ii, t_cu, t_cs, t_bs, t_tp, t_nb, t_rb, t_rs, t_rp, t_mt, t_pa, t_li, htd, hbc, htl, hvi, hno, hwi, hpm, hta, hRT, hg, hg3, him, hR_F, hRI⟩ := hLI
  obtain ⟨n_ro_w, n_w_ro, n_ro_bs, n_bs_ro, n_ro_im, n_im_ro, n_ro_rd, n_rd_ro, n_ro_rc, n_rc_ro, n_ro_mo, n_mo_ro, n_ro_al, n_al_ro, n_ro_ii, n_ii_ro, n_w_bs, n_bs_w, n_w_im, n_im_w, n_w_rd, n_rd_w, n_w_rc, n_rc_w, n_w_mo, n_mo_w, n_w_al, n_al_w, n_w_ii, n_ii_w, n_bs_im, n_im_bs, n_bs_rd, n_rd_bs, n_bs_rc, n_rc_bs, n_bs_mo, n_mo_bs, n_bs_al, n_al_bs, n_bs_ii, n_ii_bs, n_im_rd, n_rd_im, n_im_rc, n_rc_im, n_im_mo, n_mo_im, n_im_al, n_al_im, n_im_ii, n_ii_im, n_rd_rc, n_rc_rd, n_rd_mo, n_mo_rd, n_rd_al, n_al_rd, n_rd_ii, n_ii_rd, n_rc_mo, n_mo_rc, n_rc_al, n_al_rc, n_rc_ii, n_ii_rc, n_mo_al, n_al_mo, n_mo_ii, n_ii_mo, n_al_ii, n_ii_al⟩ := ap9 hc_ro hc_w hc_bs hc_im hc_rd hc_rc hc_mo hc_al hc_ii
  refine lv_aload_n hx hb dL_law_1235 rfl (lv_at hl 2 rfl) ?_
  refine lv_aload_n hx hb dL_law_1236 rfl (lv_at hl 3 rfl) ?_
  refine lv_iload_n hx hb dL_law_1237 rfl (lv_at hl 0 rfl) ?_
  refine lv_iconst (v := 1) hx hb dL_law_1238 (by decide) ?_
  refine lv_iadd hx hb dL_law_1239 ?_
  refine lv_topi (fun zq1_ e_zq1_ => ?_)
  have h_zq1_ : zq1_.toInt = i.toInt + (1 : Int32).toInt := sIa hi0 hi6 hL e_zq1_ (by decide) (by decide)
  refine va_sld hx hb hX hbl hbA hH.2.1 (sIx hi0 hi6 h_zq1_ (by decide) (by decide)) dL_law_1240 ?_
  refine lv_topi (fun vq2_ e_vq2_ => ?_)
  have hO_rd := hc_rd
  have hO_rc := hc_rc
  have hO_mo := hc_mo
  have hO_al := hc_al
  have hO_ii := hc_ii
  have hO_im := hc_im
  refine goI hK hH (runV (As := [.int vq2_]) (rest := []) hC hK hH (c_X9_worth hc_ro hn_ro hc_w hn_w hc_bs t_cs t_bs t_tp (by exact htd) (by exact hbc) (by exact htl) hg) mlL_138 (rcvM hK hH hc_ro rfl) ⟨⟨Nat.le_of_ble_eq_true rfl, Nat.le_of_ble_eq_true rfl⟩, lcA hcl, lcA hsl⟩ rfl hl.1 rfl (Nat.le_of_ble_eq_true rfl) dL_law_1241) (fun rq5_ Mq3_ Tq4_ Hq_ lcq_ hP hz hH => ?_)
  try dsimp only at hP
  obtain ⟨(-), eT, eM⟩ := hP
  have eT := eT.symm; subst eT
  have eM := eM.symm; subst eM
  refine lv_pop hx hb dL_law_1244 rfl ?_
  refine lv_aload_n hx hb dL_law_1245 rfl (lv_at hl 1 rfl) ?_
  refine lv_aload_n hx hb dL_law_1246 rfl (lv_at hl 3 rfl) ?_
  refine lv_iload_n hx hb dL_law_1247 rfl (lv_at hl 0 rfl) ?_
  refine lv_iconst (v := 1) hx hb dL_law_1248 (by decide) ?_
  refine lv_iadd hx hb dL_law_1249 ?_
  refine lv_cst (v := zq1_) e_zq1_.symm ?_
  refine va_sld hx hb hX hbl hbA hH.2.1 (sIx hi0 hi6 h_zq1_ (by decide) (by decide)) dL_law_1250 ?_
  refine lv_cst (v := vq2_) e_vq2_.symm ?_
  have hO_rd := hc_rd
  have hO_rc := hc_rc
  have hO_mo := hc_mo
  have hO_al := hc_al
  have hO_ii := hc_ii
  have hO_im := hc_im
  refine goI hK hH (runV (As := [.int vq2_]) (rest := []) hC hK hH (c_X10_worth hc_mo hn_mo hc_al hn_al t_mt t_pa t_li (by exact hR_F)) mlL_141 (rcvM hK hH hc_mo rfl) ⟨⟨Nat.le_of_ble_eq_true rfl, Nat.le_of_ble_eq_true rfl⟩, lcA hcl, lcA hsl⟩ rfl hl.1 rfl (Nat.le_of_ble_eq_true rfl) dL_law_1251) (fun rq8_ Mq6_ Tq7_ Hq_ lcq_ hP hz hH => ?_)
  try dsimp only at hP
  obtain ⟨(-), eT, eM⟩ := hP
  have eT := eT.symm; subst eT
  have eM := eM.symm; subst eM
  refine lv_pop hx hb dL_law_1254 rfl ?_
  refine lv_goto (tgt := 1370) hx hb dL_law_1255 (by decide) ?_
  exact kk _ _ _ _ ls _ _ ⟨w, im, rd, rc, cu, cs, bs, tp, nb, by_, vi, rb, rs, rp, al, mt, ii, pa, li, td, gd, bc, py, rf, lt, tl, fp, no, wi, le, ki, pl, be, vr, pm, ta, fpm, sm, nx, tk, plm, ln, wr, va, g, gi, ti, fi, F, hc_ro, hc_w, hc_bs, hc_im, hc_rd, hc_rc, hc_mo, hc_al, hc_ii, hn_ro, hn_w, hn_im, hn_rd, hn_rc, hn_mo, hn_al, hn_ii, t_cu, t_cs, t_bs, t_tp, t_nb, t_rb, t_rs, t_rp, t_mt, t_pa, t_li, htd, hbc, htl, hvi, hno, hwi, hpm, hta, hRT, hg, hg3, him, hR_F, hRI⟩ hH (lv_sub hl [0, 1, 2, 3] rfl) (Nat.le_add_right _ _) (Nat.le_add_right _ _)
set_option maxHeartbeats 4000000 in
set_option maxRecDepth 100000 in
theorem law_case_30 {p : Program} {e : Env} {s : State} {m : MethodId} {below : List Frame} {meth : Method} {c : Code} {l : Launch} {b L : Nat} {xs : Nat → Int32} (C0 : lw_At p s m meth c b L xs) (hL : L ≤ 3072) {z : zD} {D : va_G} {kA : Nat → ClassId} (hK : mK D kA s) {M : mM} {T : mT} {A : Nat → Prop} (hAq : ∀ q, A q → s.heap.size ≤ q) (hZ : zB z A s) {Hq_ : Heap} {lcq_ : List Loc} {ls : Array Slot} {ro mo : Nat} {i : Int32} {cells slots : Nat} (hLI : LI z kA M T ro mo) (hi0 : 0 ≤ i.toInt) (hi6 : i.toInt + 6 ≤ (L : Int)) (hcl : cells + 92 ≤ 600000) (hsl : slots + 1627 ≤ 7302250) (hH : mS D kA M T A s.heap Hq_ lcq_) (hl : lv_has ls 4 [(3, .int i), (2, .ref mo), (1, .ref ro), (0, .ref b)]) (kk : ∀ (M1 : mM) (T1 : mT) (H1 : Heap) (locs1 : List Loc) (ls1 : Array Slot) (cl1 sl1 : Nat), LI z kA M1 T1 ro mo → mS D kA M1 T1 A s.heap H1 locs1 → lv_has ls1 4 [(3, .int i), (2, .ref mo), (1, .ref ro), (0, .ref b)] → cl1 ≤ cells + 92 → sl1 ≤ slots + 1627 → W p l e room_1 s m #[Value.ref b] below meth c H1 locs1 cl1 sl1 (lw_Z below #[Value.ref b] s) (F0 m 1370 ls1 [])) : W p l e room_1 s m #[Value.ref b] below meth c Hq_ lcq_ cells slots (lw_Z below #[Value.ref b] s) (F0 m 1258 ls []) := by
  obtain ⟨hx, hb, hr, hml, hown, hts, hX, hbl, hlocks, hgv⟩ := id C0
  have hC : CallFix p m c cL_law 4 s #[Value.ref b] TB RL := ⟨hx, hb, hml, hown, fun w h => hts w (TB_in h)⟩
  have hbA : ¬ A b := fun h => absurd (hAq b h) (Nat.not_le.mpr hbl)
  obtain ⟨w, im, rd, rc, cu, cs, bs, tp, nb, by_, vi, rb, rs, rp, al, mt, ii, pa, li, td, gd, bc, py, rf, lt, tl, fp, no, wi, le, ki, pl, be, vr, pm, ta, fpm, sm, nx, tk, plm, ln, wr, va, g, gi, ti, fi, F, hc_ro, hc_w, hc_bs, hc_im, hc_rd, hc_rc, hc_mo, hc_al, hc_ii, hn_ro, hn_w, hn_im, hn_rd, hn_rc, hn_mo, hn_al, hn_ii, t_cu, t_cs, t_bs, t_tp, t_nb, t_rb, t_rs, t_rp, t_mt, t_pa, t_li, htd, hbc, htl, hvi, hno, hwi, hpm, hta, hRT, hg, hg3, him, hR_F, hRI⟩ := hLI
  obtain ⟨n_ro_w, n_w_ro, n_ro_bs, n_bs_ro, n_ro_im, n_im_ro, n_ro_rd, n_rd_ro, n_ro_rc, n_rc_ro, n_ro_mo, n_mo_ro, n_ro_al, n_al_ro, n_ro_ii, n_ii_ro, n_w_bs, n_bs_w, n_w_im, n_im_w, n_w_rd, n_rd_w, n_w_rc, n_rc_w, n_w_mo, n_mo_w, n_w_al, n_al_w, n_w_ii, n_ii_w, n_bs_im, n_im_bs, n_bs_rd, n_rd_bs, n_bs_rc, n_rc_bs, n_bs_mo, n_mo_bs, n_bs_al, n_al_bs, n_bs_ii, n_ii_bs, n_im_rd, n_rd_im, n_im_rc, n_rc_im, n_im_mo, n_mo_im, n_im_al, n_al_im, n_im_ii, n_ii_im, n_rd_rc, n_rc_rd, n_rd_mo, n_mo_rd, n_rd_al, n_al_rd, n_rd_ii, n_ii_rd, n_rc_mo, n_mo_rc, n_rc_al, n_al_rc, n_rc_ii, n_ii_rc, n_mo_al, n_al_mo, n_mo_ii, n_ii_mo, n_al_ii, n_ii_al⟩ := ap9 hc_ro hc_w hc_bs hc_im hc_rd hc_rc hc_mo hc_al hc_ii
  refine lv_aload_n hx hb dL_law_1258 rfl (lv_at hl 2 rfl) ?_
  refine lv_aload_n hx hb dL_law_1259 rfl (lv_at hl 3 rfl) ?_
  refine lv_iload_n hx hb dL_law_1260 rfl (lv_at hl 0 rfl) ?_
  refine lv_iconst (v := 1) hx hb dL_law_1261 (by decide) ?_
  refine lv_iadd hx hb dL_law_1262 ?_
  refine lv_topi (fun zq1_ e_zq1_ => ?_)
  have h_zq1_ : zq1_.toInt = i.toInt + (1 : Int32).toInt := sIa hi0 hi6 hL e_zq1_ (by decide) (by decide)
  refine va_sld hx hb hX hbl hbA hH.2.1 (sIx hi0 hi6 h_zq1_ (by decide) (by decide)) dL_law_1263 ?_
  refine lv_topi (fun vq2_ e_vq2_ => ?_)
  refine lv_aload_n hx hb dL_law_1264 rfl (lv_at hl 3 rfl) ?_
  refine lv_iload_n hx hb dL_law_1265 rfl (lv_at hl 0 rfl) ?_
  refine lv_iconst (v := 2) hx hb dL_law_1266 (by decide) ?_
  refine lv_iadd hx hb dL_law_1267 ?_
  refine lv_topi (fun zq3_ e_zq3_ => ?_)
  have h_zq3_ : zq3_.toInt = i.toInt + (2 : Int32).toInt := sIa hi0 hi6 hL e_zq3_ (by decide) (by decide)
  refine va_sld hx hb hX hbl hbA hH.2.1 (sIx hi0 hi6 h_zq3_ (by decide) (by decide)) dL_law_1268 ?_
  refine lv_topi (fun vq4_ e_vq4_ => ?_)
  have hO_rd := hc_rd
  have hO_rc := hc_rc
  have hO_mo := hc_mo
  have hO_al := hc_al
  have hO_ii := hc_ii
  have hO_im := hc_im
  refine goI hK hH (runV (As := [.int vq2_, .int vq4_]) (rest := []) hC hK hH (c_X9_until hc_ro hn_ro hc_w hn_w hc_bs t_cs t_bs t_tp (by exact htd) (by exact hbc) (by exact htl) hg) mlL_142 (rcvM hK hH hc_ro rfl) ⟨⟨Nat.le_of_ble_eq_true rfl, Nat.le_of_ble_eq_true rfl⟩, lcA hcl, lcA hsl⟩ rfl hl.1 rfl (Nat.le_of_ble_eq_true rfl) dL_law_1269) (fun rq7_ Mq5_ Tq6_ Hq_ lcq_ hP hz hH => ?_)
  try dsimp only at hP
  obtain ⟨(-), eT, eM⟩ := hP
  have eT := eT.symm; subst eT
  have eM := eM.symm; subst eM
  refine lv_pop hx hb dL_law_1272 rfl ?_
  refine lv_aload_n hx hb dL_law_1273 rfl (lv_at hl 1 rfl) ?_
  refine lv_aload_n hx hb dL_law_1274 rfl (lv_at hl 3 rfl) ?_
  refine lv_iload_n hx hb dL_law_1275 rfl (lv_at hl 0 rfl) ?_
  refine lv_iconst (v := 1) hx hb dL_law_1276 (by decide) ?_
  refine lv_iadd hx hb dL_law_1277 ?_
  refine lv_cst (v := zq1_) e_zq1_.symm ?_
  refine va_sld hx hb hX hbl hbA hH.2.1 (sIx hi0 hi6 h_zq1_ (by decide) (by decide)) dL_law_1278 ?_
  refine lv_cst (v := vq2_) e_vq2_.symm ?_
  refine lv_aload_n hx hb dL_law_1279 rfl (lv_at hl 3 rfl) ?_
  refine lv_iload_n hx hb dL_law_1280 rfl (lv_at hl 0 rfl) ?_
  refine lv_iconst (v := 2) hx hb dL_law_1281 (by decide) ?_
  refine lv_iadd hx hb dL_law_1282 ?_
  refine lv_cst (v := zq3_) e_zq3_.symm ?_
  refine va_sld hx hb hX hbl hbA hH.2.1 (sIx hi0 hi6 h_zq3_ (by decide) (by decide)) dL_law_1283 ?_
  refine lv_cst (v := vq4_) e_vq4_.symm ?_
  have hO_rd := hc_rd
  have hO_rc := hc_rc
  have hO_mo := hc_mo
  have hO_al := hc_al
  have hO_ii := hc_ii
  have hO_im := hc_im
  refine goI hK hH (runV (As := [.int vq2_, .int vq4_]) (rest := []) hC hK hH (c_X10_until hc_mo hn_mo hc_al hn_al t_mt t_pa t_li (by exact hR_F)) mlL_145 (rcvM hK hH hc_mo rfl) ⟨⟨Nat.le_of_ble_eq_true rfl, Nat.le_of_ble_eq_true rfl⟩, lcA hcl, lcA hsl⟩ rfl hl.1 rfl (Nat.le_of_ble_eq_true rfl) dL_law_1284) (fun rq10_ Mq8_ Tq9_ Hq_ lcq_ hP hz hH => ?_)
  try dsimp only at hP
  obtain ⟨(-), eT, eM⟩ := hP
  have eT := eT.symm; subst eT
  have eM := eM.symm; subst eM
  refine lv_pop hx hb dL_law_1287 rfl ?_
  refine lv_goto (tgt := 1370) hx hb dL_law_1288 (by decide) ?_
  exact kk _ _ _ _ ls _ _ ⟨w, im, rd, rc, cu, cs, bs, tp, nb, by_, vi, rb, rs, rp, al, mt, ii, pa, li, td, gd, bc, py, rf, lt, tl, fp, no, wi, le, ki, pl, be, vr, pm, ta, fpm, sm, nx, tk, plm, ln, wr, va, g, gi, ti, fi, F, hc_ro, hc_w, hc_bs, hc_im, hc_rd, hc_rc, hc_mo, hc_al, hc_ii, hn_ro, hn_w, hn_im, hn_rd, hn_rc, hn_mo, hn_al, hn_ii, t_cu, t_cs, t_bs, t_tp, t_nb, t_rb, t_rs, t_rp, t_mt, t_pa, t_li, htd, hbc, htl, hvi, hno, hwi, hpm, hta, hRT, hg, hg3, him, hR_F, hRI⟩ hH (lv_sub hl [0, 1, 2, 3] rfl) (Nat.le_add_right _ _) (Nat.le_add_right _ _)
set_option maxHeartbeats 4000000 in
set_option maxRecDepth 100000 in
theorem law_case_31 {p : Program} {e : Env} {s : State} {m : MethodId} {below : List Frame} {meth : Method} {c : Code} {l : Launch} {b L : Nat} {xs : Nat → Int32} (C0 : lw_At p s m meth c b L xs) (hL : L ≤ 3072) {z : zD} {D : va_G} {kA : Nat → ClassId} (hK : mK D kA s) {M : mM} {T : mT} {A : Nat → Prop} (hAq : ∀ q, A q → s.heap.size ≤ q) (hZ : zB z A s) {Hq_ : Heap} {lcq_ : List Loc} {ls : Array Slot} {ro mo : Nat} {i : Int32} {cells slots : Nat} (hLI : LI z kA M T ro mo) (hi0 : 0 ≤ i.toInt) (hi6 : i.toInt + 6 ≤ (L : Int)) (hcl : cells + 92 ≤ 600000) (hsl : slots + 1627 ≤ 7302250) (hH : mS D kA M T A s.heap Hq_ lcq_) (hl : lv_has ls 4 [(3, .int i), (2, .ref mo), (1, .ref ro), (0, .ref b)]) (kk : ∀ (M1 : mM) (T1 : mT) (H1 : Heap) (locs1 : List Loc) (ls1 : Array Slot) (cl1 sl1 : Nat), LI z kA M1 T1 ro mo → mS D kA M1 T1 A s.heap H1 locs1 → lv_has ls1 4 [(3, .int i), (2, .ref mo), (1, .ref ro), (0, .ref b)] → cl1 ≤ cells + 92 → sl1 ≤ slots + 1627 → W p l e room_1 s m #[Value.ref b] below meth c H1 locs1 cl1 sl1 (lw_Z below #[Value.ref b] s) (F0 m 1370 ls1 [])) : W p l e room_1 s m #[Value.ref b] below meth c Hq_ lcq_ cells slots (lw_Z below #[Value.ref b] s) (F0 m 1291 ls []) := by
  obtain ⟨hx, hb, hr, hml, hown, hts, hX, hbl, hlocks, hgv⟩ := id C0
  have hC : CallFix p m c cL_law 4 s #[Value.ref b] TB RL := ⟨hx, hb, hml, hown, fun w h => hts w (TB_in h)⟩
  have hbA : ¬ A b := fun h => absurd (hAq b h) (Nat.not_le.mpr hbl)
  obtain ⟨w, im, rd, rc, cu, cs, bs, tp, nb, by_, vi, rb, rs, rp, al, mt, ii, pa, li, td, gd, bc, py, rf, lt, tl, fp, no, wi, le, ki, pl, be, vr, pm, ta, fpm, sm, nx, tk, plm, ln, wr, va, g, gi, ti, fi, F, hc_ro, hc_w, hc_bs, hc_im, hc_rd, hc_rc, hc_mo, hc_al, hc_ii, hn_ro, hn_w, hn_im, hn_rd, hn_rc, hn_mo, hn_al, hn_ii, t_cu, t_cs, t_bs, t_tp, t_nb, t_rb, t_rs, t_rp, t_mt, t_pa, t_li, htd, hbc, htl, hvi, hno, hwi, hpm, hta, hRT, hg, hg3, him, hR_F, hRI⟩ := hLI
  obtain ⟨n_ro_w, n_w_ro, n_ro_bs, n_bs_ro, n_ro_im, n_im_ro, n_ro_rd, n_rd_ro, n_ro_rc, n_rc_ro, n_ro_mo, n_mo_ro, n_ro_al, n_al_ro, n_ro_ii, n_ii_ro, n_w_bs, n_bs_w, n_w_im, n_im_w, n_w_rd, n_rd_w, n_w_rc, n_rc_w, n_w_mo, n_mo_w, n_w_al, n_al_w, n_w_ii, n_ii_w, n_bs_im, n_im_bs, n_bs_rd, n_rd_bs, n_bs_rc, n_rc_bs, n_bs_mo, n_mo_bs, n_bs_al, n_al_bs, n_bs_ii, n_ii_bs, n_im_rd, n_rd_im, n_im_rc, n_rc_im, n_im_mo, n_mo_im, n_im_al, n_al_im, n_im_ii, n_ii_im, n_rd_rc, n_rc_rd, n_rd_mo, n_mo_rd, n_rd_al, n_al_rd, n_rd_ii, n_ii_rd, n_rc_mo, n_mo_rc, n_rc_al, n_al_rc, n_rc_ii, n_ii_rc, n_mo_al, n_al_mo, n_mo_ii, n_ii_mo, n_al_ii, n_ii_al⟩ := ap9 hc_ro hc_w hc_bs hc_im hc_rd hc_rc hc_mo hc_al hc_ii
  refine lv_aload_n hx hb dL_law_1291 rfl (lv_at hl 2 rfl) ?_
  refine lv_aload_n hx hb dL_law_1292 rfl (lv_at hl 3 rfl) ?_
  refine lv_iload_n hx hb dL_law_1293 rfl (lv_at hl 0 rfl) ?_
  refine lv_iconst (v := 1) hx hb dL_law_1294 (by decide) ?_
  refine lv_iadd hx hb dL_law_1295 ?_
  refine lv_topi (fun zq1_ e_zq1_ => ?_)
  have h_zq1_ : zq1_.toInt = i.toInt + (1 : Int32).toInt := sIa hi0 hi6 hL e_zq1_ (by decide) (by decide)
  refine va_sld hx hb hX hbl hbA hH.2.1 (sIx hi0 hi6 h_zq1_ (by decide) (by decide)) dL_law_1296 ?_
  refine lv_topi (fun vq2_ e_vq2_ => ?_)
  refine lv_aload_n hx hb dL_law_1297 rfl (lv_at hl 3 rfl) ?_
  refine lv_iload_n hx hb dL_law_1298 rfl (lv_at hl 0 rfl) ?_
  refine lv_iconst (v := 2) hx hb dL_law_1299 (by decide) ?_
  refine lv_iadd hx hb dL_law_1300 ?_
  refine lv_topi (fun zq3_ e_zq3_ => ?_)
  have h_zq3_ : zq3_.toInt = i.toInt + (2 : Int32).toInt := sIa hi0 hi6 hL e_zq3_ (by decide) (by decide)
  refine va_sld hx hb hX hbl hbA hH.2.1 (sIx hi0 hi6 h_zq3_ (by decide) (by decide)) dL_law_1301 ?_
  refine lv_topi (fun vq4_ e_vq4_ => ?_)
  have hO_rd := hc_rd
  have hO_rc := hc_rc
  have hO_mo := hc_mo
  have hO_al := hc_al
  have hO_ii := hc_ii
  have hO_im := hc_im
  refine goI hK hH (runV (As := [.int vq2_, .int vq4_]) (rest := []) hC hK hH (c_X9_sorts hc_ro hn_ro hc_w hn_w hc_bs t_cs t_bs t_tp (by exact htd) (by exact hbc) (by exact htl) hg) mlL_146 (rcvM hK hH hc_ro rfl) ⟨⟨Nat.le_of_ble_eq_true rfl, Nat.le_of_ble_eq_true rfl⟩, lcA hcl, lcA hsl⟩ rfl hl.1 rfl (Nat.le_of_ble_eq_true rfl) dL_law_1302) (fun rq7_ Mq5_ Tq6_ Hq_ lcq_ hP hz hH => ?_)
  try dsimp only at hP
  obtain ⟨(-), eT, eM⟩ := hP
  have eT := eT.symm; subst eT
  have eM := eM.symm; subst eM
  refine lv_pop hx hb dL_law_1305 rfl ?_
  refine lv_aload_n hx hb dL_law_1306 rfl (lv_at hl 1 rfl) ?_
  refine lv_aload_n hx hb dL_law_1307 rfl (lv_at hl 3 rfl) ?_
  refine lv_iload_n hx hb dL_law_1308 rfl (lv_at hl 0 rfl) ?_
  refine lv_iconst (v := 1) hx hb dL_law_1309 (by decide) ?_
  refine lv_iadd hx hb dL_law_1310 ?_
  refine lv_cst (v := zq1_) e_zq1_.symm ?_
  refine va_sld hx hb hX hbl hbA hH.2.1 (sIx hi0 hi6 h_zq1_ (by decide) (by decide)) dL_law_1311 ?_
  refine lv_cst (v := vq2_) e_vq2_.symm ?_
  refine lv_aload_n hx hb dL_law_1312 rfl (lv_at hl 3 rfl) ?_
  refine lv_iload_n hx hb dL_law_1313 rfl (lv_at hl 0 rfl) ?_
  refine lv_iconst (v := 2) hx hb dL_law_1314 (by decide) ?_
  refine lv_iadd hx hb dL_law_1315 ?_
  refine lv_cst (v := zq3_) e_zq3_.symm ?_
  refine va_sld hx hb hX hbl hbA hH.2.1 (sIx hi0 hi6 h_zq3_ (by decide) (by decide)) dL_law_1316 ?_
  refine lv_cst (v := vq4_) e_vq4_.symm ?_
  have hO_rd := hc_rd
  have hO_rc := hc_rc
  have hO_mo := hc_mo
  have hO_al := hc_al
  have hO_ii := hc_ii
  have hO_im := hc_im
  refine goI hK hH (runV (As := [.int vq2_, .int vq4_]) (rest := []) hC hK hH (c_X10_sorts hc_mo hn_mo hc_al hn_al t_mt t_pa t_li (by exact hR_F)) mlL_149 (rcvM hK hH hc_mo rfl) ⟨⟨Nat.le_of_ble_eq_true rfl, Nat.le_of_ble_eq_true rfl⟩, lcA hcl, lcA hsl⟩ rfl hl.1 rfl (Nat.le_of_ble_eq_true rfl) dL_law_1317) (fun rq10_ Mq8_ Tq9_ Hq_ lcq_ hP hz hH => ?_)
  try dsimp only at hP
  obtain ⟨(-), eT, eM⟩ := hP
  have eT := eT.symm; subst eT
  have eM := eM.symm; subst eM
  refine lv_pop hx hb dL_law_1320 rfl ?_
  refine lv_goto (tgt := 1370) hx hb dL_law_1321 (by decide) ?_
  exact kk _ _ _ _ ls _ _ ⟨w, im, rd, rc, cu, cs, bs, tp, nb, by_, vi, rb, rs, rp, al, mt, ii, pa, li, td, gd, bc, py, rf, lt, tl, fp, no, wi, le, ki, pl, be, vr, pm, ta, fpm, sm, nx, tk, plm, ln, wr, va, g, gi, ti, fi, F, hc_ro, hc_w, hc_bs, hc_im, hc_rd, hc_rc, hc_mo, hc_al, hc_ii, hn_ro, hn_w, hn_im, hn_rd, hn_rc, hn_mo, hn_al, hn_ii, t_cu, t_cs, t_bs, t_tp, t_nb, t_rb, t_rs, t_rp, t_mt, t_pa, t_li, htd, hbc, htl, hvi, hno, hwi, hpm, hta, hRT, hg, hg3, him, hR_F, hRI⟩ hH (lv_sub hl [0, 1, 2, 3] rfl) (Nat.le_add_right _ _) (Nat.le_add_right _ _)
