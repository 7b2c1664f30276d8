set_option maxHeartbeats 4000000 in
set_option maxRecDepth 100000 in
theorem law_case_18 {p : Program} {e : Env} {s : State} {m : MethodId} {below : List Frame} {meth : Method} {c : Code} {l : Launch} {b L : Nat} {xs : Nat → Int32} (C0 : lw_At p s m meth c b L xs) (hL : L ≤ 3072) {z : zD} {D : va_G} {kA : Nat → ClassId} (hK : mK D kA s) {M : mM} {T : mT} {A : Nat → Prop} (hAq : ∀ q, A q → s.heap.size ≤ q) (hZ : zB z A s) {Hq_ : Heap} {lcq_ : List Loc} {ls : Array Slot} {ro mo : Nat} {i : Int32} {cells slots : Nat} (hLI : LI z kA M T ro mo) (hi0 : 0 ≤ i.toInt) (hi6 : i.toInt + 6 ≤ (L : Int)) (hcl : cells + 92 ≤ 600000) (hsl : slots + 1627 ≤ 7302250) (hH : mS D kA M T A s.heap Hq_ lcq_) (hl : lv_has ls 4 [(3, .int i), (2, .ref mo), (1, .ref ro), (0, .ref b)]) (kk : ∀ (M1 : mM) (T1 : mT) (H1 : Heap) (locs1 : List Loc) (ls1 : Array Slot) (cl1 sl1 : Nat), LI z kA M1 T1 ro mo → mS D kA M1 T1 A s.heap H1 locs1 → lv_has ls1 4 [(3, .int i), (2, .ref mo), (1, .ref ro), (0, .ref b)] → cl1 ≤ cells + 92 → sl1 ≤ slots + 1627 → W p l e room_1 s m #[Value.ref b] below meth c H1 locs1 cl1 sl1 (lw_Z below #[Value.ref b] s) (F0 m 1370 ls1 [])) : W p l e room_1 s m #[Value.ref b] below meth c Hq_ lcq_ cells slots (lw_Z below #[Value.ref b] s) (F0 m 882 ls []) := by
  obtain ⟨hx, hb, hr, hml, hown, hts, hX, hbl, hlocks, hgv⟩ := id C0
  have hC : CallFix p m c cL_law 4 s #[Value.ref b] TB RL := ⟨hx, hb, hml, hown, fun w h => hts w (TB_in h)⟩
  have hbA : ¬ A b := fun h => absurd (hAq b h) (Nat.not_le.mpr hbl)
  obtain ⟨w, im, rd, rc, cu, cs, bs, tp, nb, by_, vi, rb, rs, rp, al, mt, ii, pa, li, td, gd, bc, py, rf, lt, tl, fp, no, wi, le, ki, pl, be, vr, pm, ta, fpm, sm, nx, tk, plm, ln, wr, va, g, gi, ti, fi, F, hc_ro, hc_w, hc_bs, hc_im, hc_rd, hc_rc, hc_mo, hc_al, hc_ii, hn_ro, hn_w, hn_im, hn_rd, hn_rc, hn_mo, hn_al, hn_ii, t_cu, t_cs, t_bs, t_tp, t_nb, t_rb, t_rs, t_rp, t_mt, t_pa, t_li, htd, hbc, htl, hvi, hno, hwi, hpm, hta, hRT, hg, hg3, him, hR_F, hRI⟩ := hLI
  have n_ro_w : ro ≠ w := neM hc_ro hc_w (by simp)
  have n_ro_bs : ro ≠ bs := neM hc_ro hc_bs (by simp)
  have n_ro_im : ro ≠ im := neM hc_ro hc_im (by simp)
  have n_ro_rd : ro ≠ rd := neM hc_ro hc_rd (by simp)
  have n_ro_rc : ro ≠ rc := neM hc_ro hc_rc (by simp)
  have n_ro_mo : ro ≠ mo := neM hc_ro hc_mo (by simp)
  have n_ro_al : ro ≠ al := neM hc_ro hc_al (by simp)
  have n_ro_ii : ro ≠ ii := neM hc_ro hc_ii (by simp)
  have n_w_ro : w ≠ ro := neM hc_w hc_ro (by simp)
  have n_w_bs : w ≠ bs := neM hc_w hc_bs (by simp)
  have n_w_im : w ≠ im := neM hc_w hc_im (by simp)
  have n_w_rd : w ≠ rd := neM hc_w hc_rd (by simp)
  have n_w_rc : w ≠ rc := neM hc_w hc_rc (by simp)
  have n_w_mo : w ≠ mo := neM hc_w hc_mo (by simp)
  have n_w_al : w ≠ al := neM hc_w hc_al (by simp)
  have n_w_ii : w ≠ ii := neM hc_w hc_ii (by simp)
  have n_bs_ro : bs ≠ ro := neM hc_bs hc_ro (by simp)
  have n_bs_w : bs ≠ w := neM hc_bs hc_w (by simp)
  have n_bs_im : bs ≠ im := neM hc_bs hc_im (by simp)
  have n_bs_rd : bs ≠ rd := neM hc_bs hc_rd (by simp)
  have n_bs_rc : bs ≠ rc := neM hc_bs hc_rc (by simp)
  have n_bs_mo : bs ≠ mo := neM hc_bs hc_mo (by simp)
  have n_bs_al : bs ≠ al := neM hc_bs hc_al (by simp)
  have n_bs_ii : bs ≠ ii := neM hc_bs hc_ii (by simp)
  have n_im_ro : im ≠ ro := neM hc_im hc_ro (by simp)
  have n_im_w : im ≠ w := neM hc_im hc_w (by simp)
  have n_im_bs : im ≠ bs := neM hc_im hc_bs (by simp)
  have n_im_rd : im ≠ rd := neM hc_im hc_rd (by simp)
  have n_im_rc : im ≠ rc := neM hc_im hc_rc (by simp)
  have n_im_mo : im ≠ mo := neM hc_im hc_mo (by simp)
  have n_im_al : im ≠ al := neM hc_im hc_al (by simp)
  have n_im_ii : im ≠ ii := neM hc_im hc_ii (by simp)
  have n_rd_ro : rd ≠ ro := neM hc_rd hc_ro (by simp)
  have n_rd_w : rd ≠ w := neM hc_rd hc_w (by simp)
  have n_rd_bs : rd ≠ bs := neM hc_rd hc_bs (by simp)
  have n_rd_im : rd ≠ im := neM hc_rd hc_im (by simp)
  have n_rd_rc : rd ≠ rc := neM hc_rd hc_rc (by simp)
  have n_rd_mo : rd ≠ mo := neM hc_rd hc_mo (by simp)
  have n_rd_al : rd ≠ al := neM hc_rd hc_al (by simp)
  have n_rd_ii : rd ≠ ii := neM hc_rd hc_ii (by simp)
  have n_rc_ro : rc ≠ ro := neM hc_rc hc_ro (by simp)
  have n_rc_w : rc ≠ w := neM hc_rc hc_w (by simp)
  have n_rc_bs : rc ≠ bs := neM hc_rc hc_bs (by simp)
  have n_rc_im : rc ≠ im := neM hc_rc hc_im (by simp)
  have n_rc_rd : rc ≠ rd := neM hc_rc hc_rd (by simp)
  have n_rc_mo : rc ≠ mo := neM hc_rc hc_mo (by simp)
  have n_rc_al : rc ≠ al := neM hc_rc hc_al (by simp)
  have n_rc_ii : rc ≠ ii := neM hc_rc hc_ii (by simp)
  have n_mo_ro : mo ≠ ro := neM hc_mo hc_ro (by simp)
  have n_mo_w : mo ≠ w := neM hc_mo hc_w (by simp)
  have n_mo_bs : mo ≠ bs := neM hc_mo hc_bs (by simp)
  have n_mo_im : mo ≠ im := neM hc_mo hc_im (by simp)
  have n_mo_rd : mo ≠ rd := neM hc_mo hc_rd (by simp)
  have n_mo_rc : mo ≠ rc := neM hc_mo hc_rc (by simp)
  have n_mo_al : mo ≠ al := neM hc_mo hc_al (by simp)
  have n_mo_ii : mo ≠ ii := neM hc_mo hc_ii (by simp)
  have n_al_ro : al ≠ ro := neM hc_al hc_ro (by simp)
  have n_al_w : al ≠ w := neM hc_al hc_w (by simp)
  have n_al_bs : al ≠ bs := neM hc_al hc_bs (by simp)
  have n_al_im : al ≠ im := neM hc_al hc_im (by simp)
  have n_al_rd : al ≠ rd := neM hc_al hc_rd (by simp)
  have n_al_rc : al ≠ rc := neM hc_al hc_rc (by simp)
  have n_al_mo : al ≠ mo := neM hc_al hc_mo (by simp)
  have n_al_ii : al ≠ ii := neM hc_al hc_ii (by simp)
  have n_ii_ro : ii ≠ ro := neM hc_ii hc_ro (by simp)
  have n_ii_w : ii ≠ w := neM hc_ii hc_w (by simp)
  have n_ii_bs : ii ≠ bs := neM hc_ii hc_bs (by simp)
  have n_ii_im : ii ≠ im := neM hc_ii hc_im (by simp)
  have n_ii_rd : ii ≠ rd := neM hc_ii hc_rd (by simp)
  have n_ii_rc : ii ≠ rc := neM hc_ii hc_rc (by simp)
  have n_ii_mo : ii ≠ mo := neM hc_ii hc_mo (by simp)
  have n_ii_al : ii ≠ al := neM hc_ii hc_al (by simp)
  refine lv_aload_n hx hb dL_law_882 rfl (lv_at hl 2 rfl) ?_
  refine lv_aload_n hx hb dL_law_883 rfl (lv_at hl 3 rfl) ?_
  refine lv_iload_n hx hb dL_law_884 rfl (lv_at hl 0 rfl) ?_
  refine lv_iconst (v := 1) hx hb dL_law_885 (by decide) ?_
  refine lv_iadd hx hb dL_law_886 ?_
  refine lv_topi (fun zq1_ e_zq1_ => ?_)
  have h_zq1_ : zq1_.toInt = i.toInt + 1 := by rw [e_zq1_, iAdd (by have := iRg i; have : (1 : Int32).toInt = 1 := rfl; omega) (by have := iRg i; have : (1 : Int32).toInt = 1 := rfl; omega)]; rfl
  refine va_sld hx hb hX hbl hbA hH.2.1 (iIn (by omega) (by omega)) dL_law_887 ?_
  refine lv_topi (fun vq2_ e_vq2_ => ?_)
  have hO_rd := hc_rd
  have hO_rc := hc_rc
  have hO_mo := hc_mo
  have hO_al := hc_al
  have hO_ii := hc_ii
  have hO_im := hc_im
  refine goI hK hH (runV (As := [.int vq2_]) (rest := []) hC hK hH (c_X9_count hc_ro hn_ro hc_w hn_w hc_bs t_cs t_bs t_tp (by omega) (by omega) (by omega) hg) mlL_93 (rcvM hK hH hc_ro rfl) ⟨⟨Nat.le_of_ble_eq_true rfl, Nat.le_of_ble_eq_true rfl⟩, (by show _ ≤ 600000; omega), (by show _ ≤ 7302250; omega)⟩ rfl hl.1 rfl (Nat.le_of_ble_eq_true rfl) dL_law_888) (fun rq5_ Mq3_ Tq4_ Hq_ lcq_ hP hz hH => ?_)
  try dsimp only at hP
  obtain ⟨(-), eT, eM⟩ := hP
  have eT := eT.symm; subst eT
  have eM := eM.symm; subst eM
  refine lv_pop hx hb dL_law_891 rfl ?_
  refine lv_aload_n hx hb dL_law_892 rfl (lv_at hl 1 rfl) ?_
  refine lv_aload_n hx hb dL_law_893 rfl (lv_at hl 3 rfl) ?_
  refine lv_iload_n hx hb dL_law_894 rfl (lv_at hl 0 rfl) ?_
  refine lv_iconst (v := 1) hx hb dL_law_895 (by decide) ?_
  refine lv_iadd hx hb dL_law_896 ?_
  refine lv_cst (v := zq1_) e_zq1_.symm ?_
  refine va_sld hx hb hX hbl hbA hH.2.1 (iIn (by omega) (by omega)) dL_law_897 ?_
  refine lv_cst (v := vq2_) e_vq2_.symm ?_
  have hO_rd := hc_rd
  have hO_rc := hc_rc
  have hO_mo := hc_mo
  have hO_al := hc_al
  have hO_ii := hc_ii
  have hO_im := hc_im
  refine goI hK hH (runV (As := [.int vq2_]) (rest := []) hC hK hH (c_X10_count hc_mo hn_mo hc_al hn_al t_mt t_pa t_li (by exact hR_F)) mlL_96 (rcvM hK hH hc_mo rfl) ⟨⟨Nat.le_of_ble_eq_true rfl, Nat.le_of_ble_eq_true rfl⟩, (by show _ ≤ 600000; omega), (by show _ ≤ 7302250; omega)⟩ rfl hl.1 rfl (Nat.le_of_ble_eq_true rfl) dL_law_898) (fun rq8_ Mq6_ Tq7_ Hq_ lcq_ hP hz hH => ?_)
  try dsimp only at hP
  obtain ⟨(-), eT, eM⟩ := hP
  have eT := eT.symm; subst eT
  have eM := eM.symm; subst eM
  refine lv_pop hx hb dL_law_901 rfl ?_
  refine lv_goto (tgt := 1370) hx hb dL_law_902 (by decide) ?_
  exact kk _ _ _ _ ls _ _ ⟨w, im, rd, rc, cu, cs, bs, tp, nb, by_, vi, rb, rs, rp, al, mt, ii, pa, li, td, gd, bc, py, rf, lt, tl, fp, no, wi, le, ki, pl, be, vr, pm, ta, fpm, sm, nx, tk, plm, ln, wr, va, g, gi, ti, fi, F, hc_ro, hc_w, hc_bs, hc_im, hc_rd, hc_rc, hc_mo, hc_al, hc_ii, hn_ro, hn_w, hn_im, hn_rd, hn_rc, hn_mo, hn_al, hn_ii, t_cu, t_cs, t_bs, t_tp, t_nb, t_rb, t_rs, t_rp, t_mt, t_pa, t_li, (by omega), (by omega), (by omega), (by omega), (by omega), (by omega), (by omega), (by omega), (by omega), hg, hg3, him, hR_F, hRI⟩ hH (lv_sub hl [0, 1, 2, 3] rfl) (by omega) (by omega)
set_option maxHeartbeats 4000000 in
set_option maxRecDepth 100000 in
theorem law_case_19 {p : Program} {e : Env} {s : State} {m : MethodId} {below : List Frame} {meth : Method} {c : Code} {l : Launch} {b L : Nat} {xs : Nat → Int32} (C0 : lw_At p s m meth c b L xs) (hL : L ≤ 3072) {z : zD} {D : va_G} {kA : Nat → ClassId} (hK : mK D kA s) {M : mM} {T : mT} {A : Nat → Prop} (hAq : ∀ q, A q → s.heap.size ≤ q) (hZ : zB z A s) {Hq_ : Heap} {lcq_ : List Loc} {ls : Array Slot} {ro mo : Nat} {i : Int32} {cells slots : Nat} (hLI : LI z kA M T ro mo) (hi0 : 0 ≤ i.toInt) (hi6 : i.toInt + 6 ≤ (L : Int)) (hcl : cells + 92 ≤ 600000) (hsl : slots + 1627 ≤ 7302250) (hH : mS D kA M T A s.heap Hq_ lcq_) (hl : lv_has ls 4 [(3, .int i), (2, .ref mo), (1, .ref ro), (0, .ref b)]) (kk : ∀ (M1 : mM) (T1 : mT) (H1 : Heap) (locs1 : List Loc) (ls1 : Array Slot) (cl1 sl1 : Nat), LI z kA M1 T1 ro mo → mS D kA M1 T1 A s.heap H1 locs1 → lv_has ls1 4 [(3, .int i), (2, .ref mo), (1, .ref ro), (0, .ref b)] → cl1 ≤ cells + 92 → sl1 ≤ slots + 1627 → W p l e room_1 s m #[Value.ref b] below meth c H1 locs1 cl1 sl1 (lw_Z below #[Value.ref b] s) (F0 m 1370 ls1 [])) : W p l e room_1 s m #[Value.ref b] below meth c Hq_ lcq_ cells slots (lw_Z below #[Value.ref b] s) (F0 m 905 ls []) := by
  obtain ⟨hx, hb, hr, hml, hown, hts, hX, hbl, hlocks, hgv⟩ := id C0
  have hC : CallFix p m c cL_law 4 s #[Value.ref b] TB RL := ⟨hx, hb, hml, hown, fun w h => hts w (TB_in h)⟩
  have hbA : ¬ A b := fun h => absurd (hAq b h) (Nat.not_le.mpr hbl)
  obtain ⟨w, im, rd, rc, cu, cs, bs, tp, nb, by_, vi, rb, rs, rp, al, mt, ii, pa, li, td, gd, bc, py, rf, lt, tl, fp, no, wi, le, ki, pl, be, vr, pm, ta, fpm, sm, nx, tk, plm, ln, wr, va, g, gi, ti, fi, F, hc_ro, hc_w, hc_bs, hc_im, hc_rd, hc_rc, hc_mo, hc_al, hc_ii, hn_ro, hn_w, hn_im, hn_rd, hn_rc, hn_mo, hn_al, hn_ii, t_cu, t_cs, t_bs, t_tp, t_nb, t_rb, t_rs, t_rp, t_mt, t_pa, t_li, htd, hbc, htl, hvi, hno, hwi, hpm, hta, hRT, hg, hg3, him, hR_F, hRI⟩ := hLI
  have n_ro_w : ro ≠ w := neM hc_ro hc_w (by simp)
  have n_ro_bs : ro ≠ bs := neM hc_ro hc_bs (by simp)
  have n_ro_im : ro ≠ im := neM hc_ro hc_im (by simp)
  have n_ro_rd : ro ≠ rd := neM hc_ro hc_rd (by simp)
  have n_ro_rc : ro ≠ rc := neM hc_ro hc_rc (by simp)
  have n_ro_mo : ro ≠ mo := neM hc_ro hc_mo (by simp)
  have n_ro_al : ro ≠ al := neM hc_ro hc_al (by simp)
  have n_ro_ii : ro ≠ ii := neM hc_ro hc_ii (by simp)
  have n_w_ro : w ≠ ro := neM hc_w hc_ro (by simp)
  have n_w_bs : w ≠ bs := neM hc_w hc_bs (by simp)
  have n_w_im : w ≠ im := neM hc_w hc_im (by simp)
  have n_w_rd : w ≠ rd := neM hc_w hc_rd (by simp)
  have n_w_rc : w ≠ rc := neM hc_w hc_rc (by simp)
  have n_w_mo : w ≠ mo := neM hc_w hc_mo (by simp)
  have n_w_al : w ≠ al := neM hc_w hc_al (by simp)
  have n_w_ii : w ≠ ii := neM hc_w hc_ii (by simp)
  have n_bs_ro : bs ≠ ro := neM hc_bs hc_ro (by simp)
  have n_bs_w : bs ≠ w := neM hc_bs hc_w (by simp)
  have n_bs_im : bs ≠ im := neM hc_bs hc_im (by simp)
  have n_bs_rd : bs ≠ rd := neM hc_bs hc_rd (by simp)
  have n_bs_rc : bs ≠ rc := neM hc_bs hc_rc (by simp)
  have n_bs_mo : bs ≠ mo := neM hc_bs hc_mo (by simp)
  have n_bs_al : bs ≠ al := neM hc_bs hc_al (by simp)
  have n_bs_ii : bs ≠ ii := neM hc_bs hc_ii (by simp)
  have n_im_ro : im ≠ ro := neM hc_im hc_ro (by simp)
  have n_im_w : im ≠ w := neM hc_im hc_w (by simp)
  have n_im_bs : im ≠ bs := neM hc_im hc_bs (by simp)
  have n_im_rd : im ≠ rd := neM hc_im hc_rd (by simp)
  have n_im_rc : im ≠ rc := neM hc_im hc_rc (by simp)
  have n_im_mo : im ≠ mo := neM hc_im hc_mo (by simp)
  have n_im_al : im ≠ al := neM hc_im hc_al (by simp)
  have n_im_ii : im ≠ ii := neM hc_im hc_ii (by simp)
  have n_rd_ro : rd ≠ ro := neM hc_rd hc_ro (by simp)
  have n_rd_w : rd ≠ w := neM hc_rd hc_w (by simp)
  have n_rd_bs : rd ≠ bs := neM hc_rd hc_bs (by simp)
  have n_rd_im : rd ≠ im := neM hc_rd hc_im (by simp)
  have n_rd_rc : rd ≠ rc := neM hc_rd hc_rc (by simp)
  have n_rd_mo : rd ≠ mo := neM hc_rd hc_mo (by simp)
  have n_rd_al : rd ≠ al := neM hc_rd hc_al (by simp)
  have n_rd_ii : rd ≠ ii := neM hc_rd hc_ii (by simp)
  have n_rc_ro : rc ≠ ro := neM hc_rc hc_ro (by simp)
  have n_rc_w : rc ≠ w := neM hc_rc hc_w (by simp)
  have n_rc_bs : rc ≠ bs := neM hc_rc hc_bs (by simp)
  have n_rc_im : rc ≠ im := neM hc_rc hc_im (by simp)
  have n_rc_rd : rc ≠ rd := neM hc_rc hc_rd (by simp)
  have n_rc_mo : rc ≠ mo := neM hc_rc hc_mo (by simp)
  have n_rc_al : rc ≠ al := neM hc_rc hc_al (by simp)
  have n_rc_ii : rc ≠ ii := neM hc_rc hc_ii (by simp)
  have n_mo_ro : mo ≠ ro := neM hc_mo hc_ro (by simp)
  have n_mo_w : mo ≠ w := neM hc_mo hc_w (by simp)
  have n_mo_bs : mo ≠ bs := neM hc_mo hc_bs (by simp)
  have n_mo_im : mo ≠ im := neM hc_mo hc_im (by simp)
  have n_mo_rd : mo ≠ rd := neM hc_mo hc_rd (by simp)
  have n_mo_rc : mo ≠ rc := neM hc_mo hc_rc (by simp)
  have n_mo_al : mo ≠ al := neM hc_mo hc_al (by simp)
  have n_mo_ii : mo ≠ ii := neM hc_mo hc_ii (by simp)
  have n_al_ro : al ≠ ro := neM hc_al hc_ro (by simp)
  have n_al_w : al ≠ w := neM hc_al hc_w (by simp)
  have n_al_bs : al ≠ bs := neM hc_al hc_bs (by simp)
  have n_al_im : al ≠ im := neM hc_al hc_im (by simp)
  have n_al_rd : al ≠ rd := neM hc_al hc_rd (by simp)
  have n_al_rc : al ≠ rc := neM hc_al hc_rc (by simp)
  have n_al_mo : al ≠ mo := neM hc_al hc_mo (by simp)
  have n_al_ii : al ≠ ii := neM hc_al hc_ii (by simp)
  have n_ii_ro : ii ≠ ro := neM hc_ii hc_ro (by simp)
  have n_ii_w : ii ≠ w := neM hc_ii hc_w (by simp)
  have n_ii_bs : ii ≠ bs := neM hc_ii hc_bs (by simp)
  have n_ii_im : ii ≠ im := neM hc_ii hc_im (by simp)
  have n_ii_rd : ii ≠ rd := neM hc_ii hc_rd (by simp)
  have n_ii_rc : ii ≠ rc := neM hc_ii hc_rc (by simp)
  have n_ii_mo : ii ≠ mo := neM hc_ii hc_mo (by simp)
  have n_ii_al : ii ≠ al := neM hc_ii hc_al (by simp)
  refine lv_aload_n hx hb dL_law_905 rfl (lv_at hl 2 rfl) ?_
  refine lv_aload_n hx hb dL_law_906 rfl (lv_at hl 3 rfl) ?_
  refine lv_iload_n hx hb dL_law_907 rfl (lv_at hl 0 rfl) ?_
  refine lv_iconst (v := 1) hx hb dL_law_908 (by decide) ?_
  refine lv_iadd hx hb dL_law_909 ?_
  refine lv_topi (fun zq1_ e_zq1_ => ?_)
  have h_zq1_ : zq1_.toInt = i.toInt + 1 := by rw [e_zq1_, iAdd (by have := iRg i; have : (1 : Int32).toInt = 1 := rfl; omega) (by have := iRg i; have : (1 : Int32).toInt = 1 := rfl; omega)]; rfl
  refine va_sld hx hb hX hbl hbA hH.2.1 (iIn (by omega) (by omega)) dL_law_910 ?_
  refine lv_topi (fun vq2_ e_vq2_ => ?_)
  refine lv_aload_n hx hb dL_law_911 rfl (lv_at hl 3 rfl) ?_
  refine lv_iload_n hx hb dL_law_912 rfl (lv_at hl 0 rfl) ?_
  refine lv_iconst (v := 2) hx hb dL_law_913 (by decide) ?_
  refine lv_iadd hx hb dL_law_914 ?_
  refine lv_topi (fun zq3_ e_zq3_ => ?_)
  have h_zq3_ : zq3_.toInt = i.toInt + 2 := by rw [e_zq3_, iAdd (by have := iRg i; have : (2 : Int32).toInt = 2 := rfl; omega) (by have := iRg i; have : (2 : Int32).toInt = 2 := rfl; omega)]; rfl
  refine va_sld hx hb hX hbl hbA hH.2.1 (iIn (by omega) (by omega)) dL_law_915 ?_
  refine lv_topi (fun vq4_ e_vq4_ => ?_)
  have hO_rd := hc_rd
  have hO_rc := hc_rc
  have hO_mo := hc_mo
  have hO_al := hc_al
  have hO_ii := hc_ii
  have hO_im := hc_im
  refine goI hK hH (runV (As := [.int vq2_, .int vq4_]) (rest := []) hC hK hH (c_X9_bill hc_ro hn_ro hc_w hn_w hc_bs t_cs t_bs t_tp t_cu (by omega) (by omega) (by omega) hg) mlL_97 (rcvM hK hH hc_ro rfl) ⟨⟨Nat.le_of_ble_eq_true rfl, Nat.le_of_ble_eq_true rfl⟩, (by show _ ≤ 600000; omega), (by show _ ≤ 7302250; omega)⟩ rfl hl.1 rfl (Nat.le_of_ble_eq_true rfl) dL_law_916) (fun rq7_ Mq5_ Tq6_ Hq_ lcq_ hP hz hH => ?_)
  try dsimp only at hP
  obtain ⟨(-), eT, hfr⟩ := hP
  have eT := eT.symm; subst eT
  have hc_ro : Mq5_ ro = some (.inr (7, [.ref w, .ref im, .ref rd, .ref rc, .ref cu])) := (hfr ro (Or.inl hn_ro) ).trans hc_ro
  have hc_w : Mq5_ w = some (.inr (6, [.int td, .int gd, .int bc, .int py, .int rf, .int lt, .int tl, .int fp, .ref cs, .ref bs, .ref tp])) := (hfr w (Or.inl hn_w) ).trans hc_w
  have hc_bs : Mq5_ bs = some (.inl (kA 5, 4, .inr (.inr (.inr (.inr g))))) := (hfr bs (Or.inr (Or.inl t_bs)) ).trans hc_bs
  have hc_im : Mq5_ im = some (.inl (kA 6, 3, .inr (.inr (.inr (.inr gi))))) := (hfr im (Or.inl hn_im) ).trans hc_im
  have hc_rd : Mq5_ rd = some (.inr (3, [.ref nb, .ref (zv z vi), .int no, .int wi, .ref by_, .int le, .int ki, .int pl, .int be, .int vr])) := (hfr rd (Or.inl hn_rd) ).trans hc_rd
  have hc_rc : Mq5_ rc = some (.inr (4, [.ref rb, .ref rs, .ref rp, .int pm])) := (hfr rc (Or.inl hn_rc) ).trans hc_rc
  have hc_mo : Mq5_ mo = some (.inr (8, [.ref al, .ref mt, .ref ii, .int ta, .int fpm, .ref pa, .int sm, .int nx, .int tk, .int plm, .int ln, .long va, .int wr, .ref li])) := (hfr mo (Or.inl hn_mo) ).trans hc_mo
  have hc_al : Mq5_ al = some (.inl (kA 0, 7506, .inl F)) := (hfr al (Or.inl hn_al) ).trans hc_al
  have hc_ii : Mq5_ ii = some (.inl (kA 2, 3, .inl fi)) := (hfr ii (Or.inl hn_ii) ).trans hc_ii
  have him : ImsOK kA Mq5_ T w gi ti := him.mv hn_w (fun q hA hw hk => hfr q (FrA.k hA) )
  refine lv_pop hx hb dL_law_919 rfl ?_
  refine lv_aload_n hx hb dL_law_920 rfl (lv_at hl 1 rfl) ?_
  refine lv_aload_n hx hb dL_law_921 rfl (lv_at hl 3 rfl) ?_
  refine lv_iload_n hx hb dL_law_922 rfl (lv_at hl 0 rfl) ?_
  refine lv_iconst (v := 1) hx hb dL_law_923 (by decide) ?_
  refine lv_iadd hx hb dL_law_924 ?_
  refine lv_cst (v := zq1_) e_zq1_.symm ?_
  refine va_sld hx hb hX hbl hbA hH.2.1 (iIn (by omega) (by omega)) dL_law_925 ?_
  refine lv_cst (v := vq2_) e_vq2_.symm ?_
  refine lv_aload_n hx hb dL_law_926 rfl (lv_at hl 3 rfl) ?_
  refine lv_iload_n hx hb dL_law_927 rfl (lv_at hl 0 rfl) ?_
  refine lv_iconst (v := 2) hx hb dL_law_928 (by decide) ?_
  refine lv_iadd hx hb dL_law_929 ?_
  refine lv_cst (v := zq3_) e_zq3_.symm ?_
  refine va_sld hx hb hX hbl hbA hH.2.1 (iIn (by omega) (by omega)) dL_law_930 ?_
  refine lv_cst (v := vq4_) e_vq4_.symm ?_
  have hO_rd := hc_rd
  have hO_rc := hc_rc
  have hO_mo := hc_mo
  have hO_al := hc_al
  have hO_ii := hc_ii
  have hO_im := hc_im
  refine goI hK hH (runV (As := [.int vq2_, .int vq4_]) (rest := []) hC hK hH (c_X10_bill hc_mo hn_mo hc_al hn_al t_mt t_pa t_li (by exact hR_F)) mlL_100 (rcvM hK hH hc_mo rfl) ⟨⟨Nat.le_of_ble_eq_true rfl, Nat.le_of_ble_eq_true rfl⟩, (by show _ ≤ 600000; omega), (by show _ ≤ 7302250; omega)⟩ rfl hl.1 rfl (Nat.le_of_ble_eq_true rfl) dL_law_931) (fun rq10_ Mq8_ Tq9_ Hq_ lcq_ hP hz hH => ?_)
  try dsimp only at hP
  obtain ⟨gq11_, h_gq11_, (hx_al), eT, hfr⟩ := hP
  have eT := eT.symm; subst eT
  have hc_ro : Mq8_ ro = some (.inr (7, [.ref w, .ref im, .ref rd, .ref rc, .ref cu])) := (hfr ro (Or.inl hn_ro) n_ro_al).trans hc_ro
  have hc_w : Mq8_ w = some (.inr (6, [.int td, .int gd, .int bc, .int py, .int rf, .int lt, .int tl, .int fp, .ref cs, .ref bs, .ref tp])) := (hfr w (Or.inl hn_w) n_w_al).trans hc_w
  have hc_bs : Mq8_ bs = some (.inl (kA 5, 4, .inr (.inr (.inr (.inr g))))) := (hfr bs (Or.inr (Or.inl t_bs)) n_bs_al).trans hc_bs
  have hc_im : Mq8_ im = some (.inl (kA 6, 3, .inr (.inr (.inr (.inr gi))))) := (hfr im (Or.inl hn_im) n_im_al).trans hc_im
  have hc_rd : Mq8_ rd = some (.inr (3, [.ref nb, .ref (zv z vi), .int no, .int wi, .ref by_, .int le, .int ki, .int pl, .int be, .int vr])) := (hfr rd (Or.inl hn_rd) n_rd_al).trans hc_rd
  have hc_rc : Mq8_ rc = some (.inr (4, [.ref rb, .ref rs, .ref rp, .int pm])) := (hfr rc (Or.inl hn_rc) n_rc_al).trans hc_rc
  have hc_mo : Mq8_ mo = some (.inr (8, [.ref al, .ref mt, .ref ii, .int ta, .int fpm, .ref pa, .int sm, .int nx, .int tk, .int plm, .int ln, .long va, .int wr, .ref li])) := (hfr mo (Or.inl hn_mo) n_mo_al).trans hc_mo
  have hc_al : Mq8_ al = some (.inl (kA 0, 7506, .inl gq11_)) := hx_al
  have hc_ii : Mq8_ ii = some (.inl (kA 2, 3, .inl fi)) := (hfr ii (Or.inl hn_ii) n_ii_al).trans hc_ii
  have hR_gq11_ : Rng gq11_ := h_gq11_.1
  have hRI := hRI.ke (h_gq11_.2)
  have him : ImsOK kA Mq8_ T w gi ti := him.mv hn_w (fun q hA hw hk => hfr q (FrA.k hA) (fun z9 => by rw [z9] at hk; exact nWB (hk _ hO_al) (fun fs h => by simp at h) (fun g9 h => by simp at h)))
  refine lv_pop hx hb dL_law_934 rfl ?_
  refine lv_goto (tgt := 1370) hx hb dL_law_935 (by decide) ?_
  exact kk _ _ _ _ ls _ _ ⟨w, im, rd, rc, cu, cs, bs, tp, nb, by_, vi, rb, rs, rp, al, mt, ii, pa, li, td, gd, bc, py, rf, lt, tl, fp, no, wi, le, ki, pl, be, vr, pm, ta, fpm, sm, nx, tk, plm, ln, wr, va, g, gi, ti, fi, gq11_, hc_ro, hc_w, hc_bs, hc_im, hc_rd, hc_rc, hc_mo, hc_al, hc_ii, hn_ro, hn_w, hn_im, hn_rd, hn_rc, hn_mo, hn_al, hn_ii, t_cu, t_cs, t_bs, t_tp, t_nb, t_rb, t_rs, t_rp, t_mt, t_pa, t_li, (by omega), (by omega), (by omega), (by omega), (by omega), (by omega), (by omega), (by omega), (by omega), hg, hg3, him, hR_gq11_, hRI⟩ hH (lv_sub hl [0, 1, 2, 3] rfl) (by omega) (by omega)
set_option maxHeartbeats 4000000 in
set_option maxRecDepth 100000 in
theorem law_case_20 {p : Program} {e : Env} {s : State} {m : MethodId} {below : List Frame} {meth : Method} {c : Code} {l : Launch} {b L : Nat} {xs : Nat → Int32} (C0 : lw_At p s m meth c b L xs) (hL : L ≤ 3072) {z : zD} {D : va_G} {kA : Nat → ClassId} (hK : mK D kA s) {M : mM} {T : mT} {A : Nat → Prop} (hAq : ∀ q, A q → s.heap.size ≤ q) (hZ : zB z A s) {Hq_ : Heap} {lcq_ : List Loc} {ls : Array Slot} {ro mo : Nat} {i : Int32} {cells slots : Nat} (hLI : LI z kA M T ro mo) (hi0 : 0 ≤ i.toInt) (hi6 : i.toInt + 6 ≤ (L : Int)) (hcl : cells + 92 ≤ 600000) (hsl : slots + 1627 ≤ 7302250) (hH : mS D kA M T A s.heap Hq_ lcq_) (hl : lv_has ls 4 [(3, .int i), (2, .ref mo), (1, .ref ro), (0, .ref b)]) (kk : ∀ (M1 : mM) (T1 : mT) (H1 : Heap) (locs1 : List Loc) (ls1 : Array Slot) (cl1 sl1 : Nat), LI z kA M1 T1 ro mo → mS D kA M1 T1 A s.heap H1 locs1 → lv_has ls1 4 [(3, .int i), (2, .ref mo), (1, .ref ro), (0, .ref b)] → cl1 ≤ cells + 92 → sl1 ≤ slots + 1627 → W p l e room_1 s m #[Value.ref b] below meth c H1 locs1 cl1 sl1 (lw_Z below #[Value.ref b] s) (F0 m 1370 ls1 [])) : W p l e room_1 s m #[Value.ref b] below meth c Hq_ lcq_ cells slots (lw_Z below #[Value.ref b] s) (F0 m 938 ls []) := by
  obtain ⟨hx, hb, hr, hml, hown, hts, hX, hbl, hlocks, hgv⟩ := id C0
  have hC : CallFix p m c cL_law 4 s #[Value.ref b] TB RL := ⟨hx, hb, hml, hown, fun w h => hts w (TB_in h)⟩
  have hbA : ¬ A b := fun h => absurd (hAq b h) (Nat.not_le.mpr hbl)
  obtain ⟨w, im, rd, rc, cu, cs, bs, tp, nb, by_, vi, rb, rs, rp, al, mt, ii, pa, li, td, gd, bc, py, rf, lt, tl, fp, no, wi, le, ki, pl, be, vr, pm, ta, fpm, sm, nx, tk, plm, ln, wr, va, g, gi, ti, fi, F, hc_ro, hc_w, hc_bs, hc_im, hc_rd, hc_rc, hc_mo, hc_al, hc_ii, hn_ro, hn_w, hn_im, hn_rd, hn_rc, hn_mo, hn_al, hn_ii, t_cu, t_cs, t_bs, t_tp, t_nb, t_rb, t_rs, t_rp, t_mt, t_pa, t_li, htd, hbc, htl, hvi, hno, hwi, hpm, hta, hRT, hg, hg3, him, hR_F, hRI⟩ := hLI
  have n_ro_w : ro ≠ w := neM hc_ro hc_w (by simp)
  have n_ro_bs : ro ≠ bs := neM hc_ro hc_bs (by simp)
  have n_ro_im : ro ≠ im := neM hc_ro hc_im (by simp)
  have n_ro_rd : ro ≠ rd := neM hc_ro hc_rd (by simp)
  have n_ro_rc : ro ≠ rc := neM hc_ro hc_rc (by simp)
  have n_ro_mo : ro ≠ mo := neM hc_ro hc_mo (by simp)
  have n_ro_al : ro ≠ al := neM hc_ro hc_al (by simp)
  have n_ro_ii : ro ≠ ii := neM hc_ro hc_ii (by simp)
  have n_w_ro : w ≠ ro := neM hc_w hc_ro (by simp)
  have n_w_bs : w ≠ bs := neM hc_w hc_bs (by simp)
  have n_w_im : w ≠ im := neM hc_w hc_im (by simp)
  have n_w_rd : w ≠ rd := neM hc_w hc_rd (by simp)
  have n_w_rc : w ≠ rc := neM hc_w hc_rc (by simp)
  have n_w_mo : w ≠ mo := neM hc_w hc_mo (by simp)
  have n_w_al : w ≠ al := neM hc_w hc_al (by simp)
  have n_w_ii : w ≠ ii := neM hc_w hc_ii (by simp)
  have n_bs_ro : bs ≠ ro := neM hc_bs hc_ro (by simp)
  have n_bs_w : bs ≠ w := neM hc_bs hc_w (by simp)
  have n_bs_im : bs ≠ im := neM hc_bs hc_im (by simp)
  have n_bs_rd : bs ≠ rd := neM hc_bs hc_rd (by simp)
  have n_bs_rc : bs ≠ rc := neM hc_bs hc_rc (by simp)
  have n_bs_mo : bs ≠ mo := neM hc_bs hc_mo (by simp)
  have n_bs_al : bs ≠ al := neM hc_bs hc_al (by simp)
  have n_bs_ii : bs ≠ ii := neM hc_bs hc_ii (by simp)
  have n_im_ro : im ≠ ro := neM hc_im hc_ro (by simp)
  have n_im_w : im ≠ w := neM hc_im hc_w (by simp)
  have n_im_bs : im ≠ bs := neM hc_im hc_bs (by simp)
  have n_im_rd : im ≠ rd := neM hc_im hc_rd (by simp)
  have n_im_rc : im ≠ rc := neM hc_im hc_rc (by simp)
  have n_im_mo : im ≠ mo := neM hc_im hc_mo (by simp)
  have n_im_al : im ≠ al := neM hc_im hc_al (by simp)
  have n_im_ii : im ≠ ii := neM hc_im hc_ii (by simp)
  have n_rd_ro : rd ≠ ro := neM hc_rd hc_ro (by simp)
  have n_rd_w : rd ≠ w := neM hc_rd hc_w (by simp)
  have n_rd_bs : rd ≠ bs := neM hc_rd hc_bs (by simp)
  have n_rd_im : rd ≠ im := neM hc_rd hc_im (by simp)
  have n_rd_rc : rd ≠ rc := neM hc_rd hc_rc (by simp)
  have n_rd_mo : rd ≠ mo := neM hc_rd hc_mo (by simp)
  have n_rd_al : rd ≠ al := neM hc_rd hc_al (by simp)
  have n_rd_ii : rd ≠ ii := neM hc_rd hc_ii (by simp)
  have n_rc_ro : rc ≠ ro := neM hc_rc hc_ro (by simp)
  have n_rc_w : rc ≠ w := neM hc_rc hc_w (by simp)
  have n_rc_bs : rc ≠ bs := neM hc_rc hc_bs (by simp)
  have n_rc_im : rc ≠ im := neM hc_rc hc_im (by simp)
  have n_rc_rd : rc ≠ rd := neM hc_rc hc_rd (by simp)
  have n_rc_mo : rc ≠ mo := neM hc_rc hc_mo (by simp)
  have n_rc_al : rc ≠ al := neM hc_rc hc_al (by simp)
  have n_rc_ii : rc ≠ ii := neM hc_rc hc_ii (by simp)
  have n_mo_ro : mo ≠ ro := neM hc_mo hc_ro (by simp)
  have n_mo_w : mo ≠ w := neM hc_mo hc_w (by simp)
  have n_mo_bs : mo ≠ bs := neM hc_mo hc_bs (by simp)
  have n_mo_im : mo ≠ im := neM hc_mo hc_im (by simp)
  have n_mo_rd : mo ≠ rd := neM hc_mo hc_rd (by simp)
  have n_mo_rc : mo ≠ rc := neM hc_mo hc_rc (by simp)
  have n_mo_al : mo ≠ al := neM hc_mo hc_al (by simp)
  have n_mo_ii : mo ≠ ii := neM hc_mo hc_ii (by simp)
  have n_al_ro : al ≠ ro := neM hc_al hc_ro (by simp)
  have n_al_w : al ≠ w := neM hc_al hc_w (by simp)
  have n_al_bs : al ≠ bs := neM hc_al hc_bs (by simp)
  have n_al_im : al ≠ im := neM hc_al hc_im (by simp)
  have n_al_rd : al ≠ rd := neM hc_al hc_rd (by simp)
  have n_al_rc : al ≠ rc := neM hc_al hc_rc (by simp)
  have n_al_mo : al ≠ mo := neM hc_al hc_mo (by simp)
  have n_al_ii : al ≠ ii := neM hc_al hc_ii (by simp)
  have n_ii_ro : ii ≠ ro := neM hc_ii hc_ro (by simp)
  have n_ii_w : ii ≠ w := neM hc_ii hc_w (by simp)
  have n_ii_bs : ii ≠ bs := neM hc_ii hc_bs (by simp)
  have n_ii_im : ii ≠ im := neM hc_ii hc_im (by simp)
  have n_ii_rd : ii ≠ rd := neM hc_ii hc_rd (by simp)
  have n_ii_rc : ii ≠ rc := neM hc_ii hc_rc (by simp)
  have n_ii_mo : ii ≠ mo := neM hc_ii hc_mo (by simp)
  have n_ii_al : ii ≠ al := neM hc_ii hc_al (by simp)
  refine lv_aload_n hx hb dL_law_938 rfl (lv_at hl 2 rfl) ?_
  refine lv_aload_n hx hb dL_law_939 rfl (lv_at hl 3 rfl) ?_
  refine lv_iload_n hx hb dL_law_940 rfl (lv_at hl 0 rfl) ?_
  refine lv_iconst (v := 1) hx hb dL_law_941 (by decide) ?_
  refine lv_iadd hx hb dL_law_942 ?_
  refine lv_topi (fun zq1_ e_zq1_ => ?_)
  have h_zq1_ : zq1_.toInt = i.toInt + 1 := by rw [e_zq1_, iAdd (by have := iRg i; have : (1 : Int32).toInt = 1 := rfl; omega) (by have := iRg i; have : (1 : Int32).toInt = 1 := rfl; omega)]; rfl
  refine va_sld hx hb hX hbl hbA hH.2.1 (iIn (by omega) (by omega)) dL_law_943 ?_
  refine lv_topi (fun vq2_ e_vq2_ => ?_)
  refine lv_aload_n hx hb dL_law_944 rfl (lv_at hl 3 rfl) ?_
  refine lv_iload_n hx hb dL_law_945 rfl (lv_at hl 0 rfl) ?_
  refine lv_iconst (v := 2) hx hb dL_law_946 (by decide) ?_
  refine lv_iadd hx hb dL_law_947 ?_
  refine lv_topi (fun zq3_ e_zq3_ => ?_)
  have h_zq3_ : zq3_.toInt = i.toInt + 2 := by rw [e_zq3_, iAdd (by have := iRg i; have : (2 : Int32).toInt = 2 := rfl; omega) (by have := iRg i; have : (2 : Int32).toInt = 2 := rfl; omega)]; rfl
  refine va_sld hx hb hX hbl hbA hH.2.1 (iIn (by omega) (by omega)) dL_law_948 ?_
  refine lv_topi (fun vq4_ e_vq4_ => ?_)
  refine lv_aload_n hx hb dL_law_949 rfl (lv_at hl 3 rfl) ?_
  refine lv_iload_n hx hb dL_law_950 rfl (lv_at hl 0 rfl) ?_
  refine lv_iconst (v := 3) hx hb dL_law_951 (by decide) ?_
  refine lv_iadd hx hb dL_law_952 ?_
  refine lv_topi (fun zq5_ e_zq5_ => ?_)
  have h_zq5_ : zq5_.toInt = i.toInt + 3 := by rw [e_zq5_, iAdd (by have := iRg i; have : (3 : Int32).toInt = 3 := rfl; omega) (by have := iRg i; have : (3 : Int32).toInt = 3 := rfl; omega)]; rfl
  refine va_sld hx hb hX hbl hbA hH.2.1 (iIn (by omega) (by omega)) dL_law_953 ?_
  refine lv_topi (fun vq6_ e_vq6_ => ?_)
  have hO_rd := hc_rd
  have hO_rc := hc_rc
  have hO_mo := hc_mo
  have hO_al := hc_al
  have hO_ii := hc_ii
  have hO_im := hc_im
  refine goI hK hH (runV (As := [.int vq2_, .int vq4_, .int vq6_]) (rest := []) hC hK hH (c_X9_step hc_ro hn_ro hc_w hn_w hc_bs t_cs t_bs t_tp (by omega) (by omega) (by omega) hg) mlL_101 (rcvM hK hH hc_ro rfl) ⟨⟨Nat.le_of_ble_eq_true rfl, Nat.le_of_ble_eq_true rfl⟩, (by show _ ≤ 600000; omega), (by show _ ≤ 7302250; omega)⟩ rfl hl.1 rfl (Nat.le_of_ble_eq_true rfl) dL_law_954) (fun rq9_ Mq7_ Tq8_ Hq_ lcq_ hP hz hH => ?_)
  try dsimp only at hP
  obtain ⟨(-), eT, eM⟩ := hP
  have eT := eT.symm; subst eT
  have eM := eM.symm; subst eM
  refine lv_pop hx hb dL_law_957 rfl ?_
  refine lv_aload_n hx hb dL_law_958 rfl (lv_at hl 1 rfl) ?_
  refine lv_aload_n hx hb dL_law_959 rfl (lv_at hl 3 rfl) ?_
  refine lv_iload_n hx hb dL_law_960 rfl (lv_at hl 0 rfl) ?_
  refine lv_iconst (v := 1) hx hb dL_law_961 (by decide) ?_
  refine lv_iadd hx hb dL_law_962 ?_
  refine lv_cst (v := zq1_) e_zq1_.symm ?_
  refine va_sld hx hb hX hbl hbA hH.2.1 (iIn (by omega) (by omega)) dL_law_963 ?_
  refine lv_cst (v := vq2_) e_vq2_.symm ?_
  refine lv_aload_n hx hb dL_law_964 rfl (lv_at hl 3 rfl) ?_
  refine lv_iload_n hx hb dL_law_965 rfl (lv_at hl 0 rfl) ?_
  refine lv_iconst (v := 2) hx hb dL_law_966 (by decide) ?_
  refine lv_iadd hx hb dL_law_967 ?_
  refine lv_cst (v := zq3_) e_zq3_.symm ?_
  refine va_sld hx hb hX hbl hbA hH.2.1 (iIn (by omega) (by omega)) dL_law_968 ?_
  refine lv_cst (v := vq4_) e_vq4_.symm ?_
  refine lv_aload_n hx hb dL_law_969 rfl (lv_at hl 3 rfl) ?_
  refine lv_iload_n hx hb dL_law_970 rfl (lv_at hl 0 rfl) ?_
  refine lv_iconst (v := 3) hx hb dL_law_971 (by decide) ?_
  refine lv_iadd hx hb dL_law_972 ?_
  refine lv_cst (v := zq5_) e_zq5_.symm ?_
  refine va_sld hx hb hX hbl hbA hH.2.1 (iIn (by omega) (by omega)) dL_law_973 ?_
  refine lv_cst (v := vq6_) e_vq6_.symm ?_
  have hO_rd := hc_rd
  have hO_rc := hc_rc
  have hO_mo := hc_mo
  have hO_al := hc_al
  have hO_ii := hc_ii
  have hO_im := hc_im
  refine goI hK hH (runV (As := [.int vq2_, .int vq4_, .int vq6_]) (rest := []) hC hK hH (c_X10_step hc_mo hn_mo hc_al hn_al t_mt t_pa t_li (by exact hR_F)) mlL_104 (rcvM hK hH hc_mo rfl) ⟨⟨Nat.le_of_ble_eq_true rfl, Nat.le_of_ble_eq_true rfl⟩, (by show _ ≤ 600000; omega), (by show _ ≤ 7302250; omega)⟩ rfl hl.1 rfl (Nat.le_of_ble_eq_true rfl) dL_law_974) (fun rq12_ Mq10_ Tq11_ Hq_ lcq_ hP hz hH => ?_)
  try dsimp only at hP
  obtain ⟨(-), eT, eM⟩ := hP
  have eT := eT.symm; subst eT
  have eM := eM.symm; subst eM
  refine lv_pop hx hb dL_law_977 rfl ?_
  refine lv_goto (tgt := 1370) hx hb dL_law_978 (by decide) ?_
  exact kk _ _ _ _ ls _ _ ⟨w, im, rd, rc, cu, cs, bs, tp, nb, by_, vi, rb, rs, rp, al, mt, ii, pa, li, td, gd, bc, py, rf, lt, tl, fp, no, wi, le, ki, pl, be, vr, pm, ta, fpm, sm, nx, tk, plm, ln, wr, va, g, gi, ti, fi, F, hc_ro, hc_w, hc_bs, hc_im, hc_rd, hc_rc, hc_mo, hc_al, hc_ii, hn_ro, hn_w, hn_im, hn_rd, hn_rc, hn_mo, hn_al, hn_ii, t_cu, t_cs, t_bs, t_tp, t_nb, t_rb, t_rs, t_rp, t_mt, t_pa, t_li, (by omega), (by omega), (by omega), (by omega), (by omega), (by omega), (by omega), (by omega), (by omega), hg, hg3, him, hR_F, hRI⟩ hH (lv_sub hl [0, 1, 2, 3] rfl) (by omega) (by omega)
set_option maxHeartbeats 4000000 in
set_option maxRecDepth 100000 in
theorem law_case_21 {p : Program} {e : Env} {s : State} {m : MethodId} {below : List Frame} {meth : Method} {c : Code} {l : Launch} {b L : Nat} {xs : Nat → Int32} (C0 : lw_At p s m meth c b L xs) (hL : L ≤ 3072) {z : zD} {D : va_G} {kA : Nat → ClassId} (hK : mK D kA s) {M : mM} {T : mT} {A : Nat → Prop} (hAq : ∀ q, A q → s.heap.size ≤ q) (hZ : zB z A s) {Hq_ : Heap} {lcq_ : List Loc} {ls : Array Slot} {ro mo : Nat} {i : Int32} {cells slots : Nat} (hLI : LI z kA M T ro mo) (hi0 : 0 ≤ i.toInt) (hi6 : i.toInt + 6 ≤ (L : Int)) (hcl : cells + 92 ≤ 600000) (hsl : slots + 1627 ≤ 7302250) (hH : mS D kA M T A s.heap Hq_ lcq_) (hl : lv_has ls 4 [(3, .int i), (2, .ref mo), (1, .ref ro), (0, .ref b)]) (kk : ∀ (M1 : mM) (T1 : mT) (H1 : Heap) (locs1 : List Loc) (ls1 : Array Slot) (cl1 sl1 : Nat), LI z kA M1 T1 ro mo → mS D kA M1 T1 A s.heap H1 locs1 → lv_has ls1 4 [(3, .int i), (2, .ref mo), (1, .ref ro), (0, .ref b)] → cl1 ≤ cells + 92 → sl1 ≤ slots + 1627 → W p l e room_1 s m #[Value.ref b] below meth c H1 locs1 cl1 sl1 (lw_Z below #[Value.ref b] s) (F0 m 1370 ls1 [])) : W p l e room_1 s m #[Value.ref b] below meth c Hq_ lcq_ cells slots (lw_Z below #[Value.ref b] s) (F0 m 981 ls []) := by
  obtain ⟨hx, hb, hr, hml, hown, hts, hX, hbl, hlocks, hgv⟩ := id C0
  have hC : CallFix p m c cL_law 4 s #[Value.ref b] TB RL := ⟨hx, hb, hml, hown, fun w h => hts w (TB_in h)⟩
  have hbA : ¬ A b := fun h => absurd (hAq b h) (Nat.not_le.mpr hbl)
  obtain ⟨w, im, rd, rc, cu, cs, bs, tp, nb, by_, vi, rb, rs, rp, al, mt, ii, pa, li, td, gd, bc, py, rf, lt, tl, fp, no, wi, le, ki, pl, be, vr, pm, ta, fpm, sm, nx, tk, plm, ln, wr, va, g, gi, ti, fi, F, hc_ro, hc_w, hc_bs, hc_im, hc_rd, hc_rc, hc_mo, hc_al, hc_ii, hn_ro, hn_w, hn_im, hn_rd, hn_rc, hn_mo, hn_al, hn_ii, t_cu, t_cs, t_bs, t_tp, t_nb, t_rb, t_rs, t_rp, t_mt, t_pa, t_li, htd, hbc, htl, hvi, hno, hwi, hpm, hta, hRT, hg, hg3, him, hR_F, hRI⟩ := hLI
  have n_ro_w : ro ≠ w := neM hc_ro hc_w (by simp)
  have n_ro_bs : ro ≠ bs := neM hc_ro hc_bs (by simp)
  have n_ro_im : ro ≠ im := neM hc_ro hc_im (by simp)
  have n_ro_rd : ro ≠ rd := neM hc_ro hc_rd (by simp)
  have n_ro_rc : ro ≠ rc := neM hc_ro hc_rc (by simp)
  have n_ro_mo : ro ≠ mo := neM hc_ro hc_mo (by simp)
  have n_ro_al : ro ≠ al := neM hc_ro hc_al (by simp)
  have n_ro_ii : ro ≠ ii := neM hc_ro hc_ii (by simp)
  have n_w_ro : w ≠ ro := neM hc_w hc_ro (by simp)
  have n_w_bs : w ≠ bs := neM hc_w hc_bs (by simp)
  have n_w_im : w ≠ im := neM hc_w hc_im (by simp)
  have n_w_rd : w ≠ rd := neM hc_w hc_rd (by simp)
  have n_w_rc : w ≠ rc := neM hc_w hc_rc (by simp)
  have n_w_mo : w ≠ mo := neM hc_w hc_mo (by simp)
  have n_w_al : w ≠ al := neM hc_w hc_al (by simp)
  have n_w_ii : w ≠ ii := neM hc_w hc_ii (by simp)
  have n_bs_ro : bs ≠ ro := neM hc_bs hc_ro (by simp)
  have n_bs_w : bs ≠ w := neM hc_bs hc_w (by simp)
  have n_bs_im : bs ≠ im := neM hc_bs hc_im (by simp)
  have n_bs_rd : bs ≠ rd := neM hc_bs hc_rd (by simp)
  have n_bs_rc : bs ≠ rc := neM hc_bs hc_rc (by simp)
  have n_bs_mo : bs ≠ mo := neM hc_bs hc_mo (by simp)
  have n_bs_al : bs ≠ al := neM hc_bs hc_al (by simp)
  have n_bs_ii : bs ≠ ii := neM hc_bs hc_ii (by simp)
  have n_im_ro : im ≠ ro := neM hc_im hc_ro (by simp)
  have n_im_w : im ≠ w := neM hc_im hc_w (by simp)
  have n_im_bs : im ≠ bs := neM hc_im hc_bs (by simp)
  have n_im_rd : im ≠ rd := neM hc_im hc_rd (by simp)
  have n_im_rc : im ≠ rc := neM hc_im hc_rc (by simp)
  have n_im_mo : im ≠ mo := neM hc_im hc_mo (by simp)
  have n_im_al : im ≠ al := neM hc_im hc_al (by simp)
  have n_im_ii : im ≠ ii := neM hc_im hc_ii (by simp)
  have n_rd_ro : rd ≠ ro := neM hc_rd hc_ro (by simp)
  have n_rd_w : rd ≠ w := neM hc_rd hc_w (by simp)
  have n_rd_bs : rd ≠ bs := neM hc_rd hc_bs (by simp)
  have n_rd_im : rd ≠ im := neM hc_rd hc_im (by simp)
  have n_rd_rc : rd ≠ rc := neM hc_rd hc_rc (by simp)
  have n_rd_mo : rd ≠ mo := neM hc_rd hc_mo (by simp)
  have n_rd_al : rd ≠ al := neM hc_rd hc_al (by simp)
  have n_rd_ii : rd ≠ ii := neM hc_rd hc_ii (by simp)
  have n_rc_ro : rc ≠ ro := neM hc_rc hc_ro (by simp)
  have n_rc_w : rc ≠ w := neM hc_rc hc_w (by simp)
  have n_rc_bs : rc ≠ bs := neM hc_rc hc_bs (by simp)
  have n_rc_im : rc ≠ im := neM hc_rc hc_im (by simp)
  have n_rc_rd : rc ≠ rd := neM hc_rc hc_rd (by simp)
  have n_rc_mo : rc ≠ mo := neM hc_rc hc_mo (by simp)
  have n_rc_al : rc ≠ al := neM hc_rc hc_al (by simp)
  have n_rc_ii : rc ≠ ii := neM hc_rc hc_ii (by simp)
  have n_mo_ro : mo ≠ ro := neM hc_mo hc_ro (by simp)
  have n_mo_w : mo ≠ w := neM hc_mo hc_w (by simp)
  have n_mo_bs : mo ≠ bs := neM hc_mo hc_bs (by simp)
  have n_mo_im : mo ≠ im := neM hc_mo hc_im (by simp)
  have n_mo_rd : mo ≠ rd := neM hc_mo hc_rd (by simp)
  have n_mo_rc : mo ≠ rc := neM hc_mo hc_rc (by simp)
  have n_mo_al : mo ≠ al := neM hc_mo hc_al (by simp)
  have n_mo_ii : mo ≠ ii := neM hc_mo hc_ii (by simp)
  have n_al_ro : al ≠ ro := neM hc_al hc_ro (by simp)
  have n_al_w : al ≠ w := neM hc_al hc_w (by simp)
  have n_al_bs : al ≠ bs := neM hc_al hc_bs (by simp)
  have n_al_im : al ≠ im := neM hc_al hc_im (by simp)
  have n_al_rd : al ≠ rd := neM hc_al hc_rd (by simp)
  have n_al_rc : al ≠ rc := neM hc_al hc_rc (by simp)
  have n_al_mo : al ≠ mo := neM hc_al hc_mo (by simp)
  have n_al_ii : al ≠ ii := neM hc_al hc_ii (by simp)
  have n_ii_ro : ii ≠ ro := neM hc_ii hc_ro (by simp)
  have n_ii_w : ii ≠ w := neM hc_ii hc_w (by simp)
  have n_ii_bs : ii ≠ bs := neM hc_ii hc_bs (by simp)
  have n_ii_im : ii ≠ im := neM hc_ii hc_im (by simp)
  have n_ii_rd : ii ≠ rd := neM hc_ii hc_rd (by simp)
  have n_ii_rc : ii ≠ rc := neM hc_ii hc_rc (by simp)
  have n_ii_mo : ii ≠ mo := neM hc_ii hc_mo (by simp)
  have n_ii_al : ii ≠ al := neM hc_ii hc_al (by simp)
  refine lv_aload_n hx hb dL_law_981 rfl (lv_at hl 2 rfl) ?_
  refine lv_aload_n hx hb dL_law_982 rfl (lv_at hl 3 rfl) ?_
  refine lv_iload_n hx hb dL_law_983 rfl (lv_at hl 0 rfl) ?_
  refine lv_iconst (v := 1) hx hb dL_law_984 (by decide) ?_
  refine lv_iadd hx hb dL_law_985 ?_
  refine lv_topi (fun zq1_ e_zq1_ => ?_)
  have h_zq1_ : zq1_.toInt = i.toInt + 1 := by rw [e_zq1_, iAdd (by have := iRg i; have : (1 : Int32).toInt = 1 := rfl; omega) (by have := iRg i; have : (1 : Int32).toInt = 1 := rfl; omega)]; rfl
  refine va_sld hx hb hX hbl hbA hH.2.1 (iIn (by omega) (by omega)) dL_law_986 ?_
  refine lv_topi (fun vq2_ e_vq2_ => ?_)
  refine lv_aload_n hx hb dL_law_987 rfl (lv_at hl 3 rfl) ?_
  refine lv_iload_n hx hb dL_law_988 rfl (lv_at hl 0 rfl) ?_
  refine lv_iconst (v := 2) hx hb dL_law_989 (by decide) ?_
  refine lv_iadd hx hb dL_law_990 ?_
  refine lv_topi (fun zq3_ e_zq3_ => ?_)
  have h_zq3_ : zq3_.toInt = i.toInt + 2 := by rw [e_zq3_, iAdd (by have := iRg i; have : (2 : Int32).toInt = 2 := rfl; omega) (by have := iRg i; have : (2 : Int32).toInt = 2 := rfl; omega)]; rfl
  refine va_sld hx hb hX hbl hbA hH.2.1 (iIn (by omega) (by omega)) dL_law_991 ?_
  refine lv_topi (fun vq4_ e_vq4_ => ?_)
  refine lv_aload_n hx hb dL_law_992 rfl (lv_at hl 3 rfl) ?_
  refine lv_iload_n hx hb dL_law_993 rfl (lv_at hl 0 rfl) ?_
  refine lv_iconst (v := 3) hx hb dL_law_994 (by decide) ?_
  refine lv_iadd hx hb dL_law_995 ?_
  refine lv_topi (fun zq5_ e_zq5_ => ?_)
  have h_zq5_ : zq5_.toInt = i.toInt + 3 := by rw [e_zq5_, iAdd (by have := iRg i; have : (3 : Int32).toInt = 3 := rfl; omega) (by have := iRg i; have : (3 : Int32).toInt = 3 := rfl; omega)]; rfl
  refine va_sld hx hb hX hbl hbA hH.2.1 (iIn (by omega) (by omega)) dL_law_996 ?_
  refine lv_topi (fun vq6_ e_vq6_ => ?_)
  have hO_rd := hc_rd
  have hO_rc := hc_rc
  have hO_mo := hc_mo
  have hO_al := hc_al
  have hO_ii := hc_ii
  have hO_im := hc_im
  refine goI hK hH (runV (As := [.int vq2_, .int vq4_, .int vq6_]) (rest := []) hC hK hH (c_X9_party hc_ro hn_ro hc_w hn_w hc_bs t_cs t_bs t_tp (by omega) (by omega) (by omega) hg) mlL_105 (rcvM hK hH hc_ro rfl) ⟨⟨Nat.le_of_ble_eq_true rfl, Nat.le_of_ble_eq_true rfl⟩, (by show _ ≤ 600000; omega), (by show _ ≤ 7302250; omega)⟩ rfl hl.1 rfl (Nat.le_of_ble_eq_true rfl) dL_law_997) (fun rq9_ Mq7_ Tq8_ Hq_ lcq_ hP hz hH => ?_)
  try dsimp only at hP
  obtain ⟨(-), eT, eM⟩ := hP
  have eT := eT.symm; subst eT
  have eM := eM.symm; subst eM
  refine lv_pop hx hb dL_law_1000 rfl ?_
  refine lv_aload_n hx hb dL_law_1001 rfl (lv_at hl 1 rfl) ?_
  refine lv_aload_n hx hb dL_law_1002 rfl (lv_at hl 3 rfl) ?_
  refine lv_iload_n hx hb dL_law_1003 rfl (lv_at hl 0 rfl) ?_
  refine lv_iconst (v := 1) hx hb dL_law_1004 (by decide) ?_
  refine lv_iadd hx hb dL_law_1005 ?_
  refine lv_cst (v := zq1_) e_zq1_.symm ?_
  refine va_sld hx hb hX hbl hbA hH.2.1 (iIn (by omega) (by omega)) dL_law_1006 ?_
  refine lv_cst (v := vq2_) e_vq2_.symm ?_
  refine lv_aload_n hx hb dL_law_1007 rfl (lv_at hl 3 rfl) ?_
  refine lv_iload_n hx hb dL_law_1008 rfl (lv_at hl 0 rfl) ?_
  refine lv_iconst (v := 2) hx hb dL_law_1009 (by decide) ?_
  refine lv_iadd hx hb dL_law_1010 ?_
  refine lv_cst (v := zq3_) e_zq3_.symm ?_
  refine va_sld hx hb hX hbl hbA hH.2.1 (iIn (by omega) (by omega)) dL_law_1011 ?_
  refine lv_cst (v := vq4_) e_vq4_.symm ?_
  refine lv_aload_n hx hb dL_law_1012 rfl (lv_at hl 3 rfl) ?_
  refine lv_iload_n hx hb dL_law_1013 rfl (lv_at hl 0 rfl) ?_
  refine lv_iconst (v := 3) hx hb dL_law_1014 (by decide) ?_
  refine lv_iadd hx hb dL_law_1015 ?_
  refine lv_cst (v := zq5_) e_zq5_.symm ?_
  refine va_sld hx hb hX hbl hbA hH.2.1 (iIn (by omega) (by omega)) dL_law_1016 ?_
  refine lv_cst (v := vq6_) e_vq6_.symm ?_
  have hO_rd := hc_rd
  have hO_rc := hc_rc
  have hO_mo := hc_mo
  have hO_al := hc_al
  have hO_ii := hc_ii
  have hO_im := hc_im
  refine goI hK hH (runV (As := [.int vq2_, .int vq4_, .int vq6_]) (rest := []) hC hK hH (c_X10_party hc_mo hn_mo hc_al hn_al t_mt t_pa t_li (by exact hR_F)) mlL_108 (rcvM hK hH hc_mo rfl) ⟨⟨Nat.le_of_ble_eq_true rfl, Nat.le_of_ble_eq_true rfl⟩, (by show _ ≤ 600000; omega), (by show _ ≤ 7302250; omega)⟩ rfl hl.1 rfl (Nat.le_of_ble_eq_true rfl) dL_law_1017) (fun rq12_ Mq10_ Tq11_ Hq_ lcq_ hP hz hH => ?_)
  try dsimp only at hP
  obtain ⟨(-), eT, eM⟩ := hP
  have eT := eT.symm; subst eT
  have eM := eM.symm; subst eM
  refine lv_pop hx hb dL_law_1020 rfl ?_
  refine lv_goto (tgt := 1370) hx hb dL_law_1021 (by decide) ?_
  exact kk _ _ _ _ ls _ _ ⟨w, im, rd, rc, cu, cs, bs, tp, nb, by_, vi, rb, rs, rp, al, mt, ii, pa, li, td, gd, bc, py, rf, lt, tl, fp, no, wi, le, ki, pl, be, vr, pm, ta, fpm, sm, nx, tk, plm, ln, wr, va, g, gi, ti, fi, F, hc_ro, hc_w, hc_bs, hc_im, hc_rd, hc_rc, hc_mo, hc_al, hc_ii, hn_ro, hn_w, hn_im, hn_rd, hn_rc, hn_mo, hn_al, hn_ii, t_cu, t_cs, t_bs, t_tp, t_nb, t_rb, t_rs, t_rp, t_mt, t_pa, t_li, (by omega), (by omega), (by omega), (by omega), (by omega), (by omega), (by omega), (by omega), (by omega), hg, hg3, him, hR_F, hRI⟩ hH (lv_sub hl [0, 1, 2, 3] rfl) (by omega) (by omega)
set_option maxHeartbeats 4000000 in
set_option maxRecDepth 100000 in
theorem law_case_22 {p : Program} {e : Env} {s : State} {m : MethodId} {below : List Frame} {meth : Method} {c : Code} {l : Launch} {b L : Nat} {xs : Nat → Int32} (C0 : lw_At p s m meth c b L xs) (hL : L ≤ 3072) {z : zD} {D : va_G} {kA : Nat → ClassId} (hK : mK D kA s) {M : mM} {T : mT} {A : Nat → Prop} (hAq : ∀ q, A q → s.heap.size ≤ q) (hZ : zB z A s) {Hq_ : Heap} {lcq_ : List Loc} {ls : Array Slot} {ro mo : Nat} {i : Int32} {cells slots : Nat} (hLI : LI z kA M T ro mo) (hi0 : 0 ≤ i.toInt) (hi6 : i.toInt + 6 ≤ (L : Int)) (hcl : cells + 92 ≤ 600000) (hsl : slots + 1627 ≤ 7302250) (hH : mS D kA M T A s.heap Hq_ lcq_) (hl : lv_has ls 4 [(3, .int i), (2, .ref mo), (1, .ref ro), (0, .ref b)]) (kk : ∀ (M1 : mM) (T1 : mT) (H1 : Heap) (locs1 : List Loc) (ls1 : Array Slot) (cl1 sl1 : Nat), LI z kA M1 T1 ro mo → mS D kA M1 T1 A s.heap H1 locs1 → lv_has ls1 4 [(3, .int i), (2, .ref mo), (1, .ref ro), (0, .ref b)] → cl1 ≤ cells + 92 → sl1 ≤ slots + 1627 → W p l e room_1 s m #[Value.ref b] below meth c H1 locs1 cl1 sl1 (lw_Z below #[Value.ref b] s) (F0 m 1370 ls1 [])) : W p l e room_1 s m #[Value.ref b] below meth c Hq_ lcq_ cells slots (lw_Z below #[Value.ref b] s) (F0 m 1024 ls []) := by
  obtain ⟨hx, hb, hr, hml, hown, hts, hX, hbl, hlocks, hgv⟩ := id C0
  have hC : CallFix p m c cL_law 4 s #[Value.ref b] TB RL := ⟨hx, hb, hml, hown, fun w h => hts w (TB_in h)⟩
  have hbA : ¬ A b := fun h => absurd (hAq b h) (Nat.not_le.mpr hbl)
  obtain ⟨w, im, rd, rc, cu, cs, bs, tp, nb, by_, vi, rb, rs, rp, al, mt, ii, pa, li, td, gd, bc, py, rf, lt, tl, fp, no, wi, le, ki, pl, be, vr, pm, ta, fpm, sm, nx, tk, plm, ln, wr, va, g, gi, ti, fi, F, hc_ro, hc_w, hc_bs, hc_im, hc_rd, hc_rc, hc_mo, hc_al, hc_ii, hn_ro, hn_w, hn_im, hn_rd, hn_rc, hn_mo, hn_al, hn_ii, t_cu, t_cs, t_bs, t_tp, t_nb, t_rb, t_rs, t_rp, t_mt, t_pa, t_li, htd, hbc, htl, hvi, hno, hwi, hpm, hta, hRT, hg, hg3, him, hR_F, hRI⟩ := hLI
  have n_ro_w : ro ≠ w := neM hc_ro hc_w (by simp)
  have n_ro_bs : ro ≠ bs := neM hc_ro hc_bs (by simp)
  have n_ro_im : ro ≠ im := neM hc_ro hc_im (by simp)
  have n_ro_rd : ro ≠ rd := neM hc_ro hc_rd (by simp)
  have n_ro_rc : ro ≠ rc := neM hc_ro hc_rc (by simp)
  have n_ro_mo : ro ≠ mo := neM hc_ro hc_mo (by simp)
  have n_ro_al : ro ≠ al := neM hc_ro hc_al (by simp)
  have n_ro_ii : ro ≠ ii := neM hc_ro hc_ii (by simp)
  have n_w_ro : w ≠ ro := neM hc_w hc_ro (by simp)
  have n_w_bs : w ≠ bs := neM hc_w hc_bs (by simp)
  have n_w_im : w ≠ im := neM hc_w hc_im (by simp)
  have n_w_rd : w ≠ rd := neM hc_w hc_rd (by simp)
  have n_w_rc : w ≠ rc := neM hc_w hc_rc (by simp)
  have n_w_mo : w ≠ mo := neM hc_w hc_mo (by simp)
  have n_w_al : w ≠ al := neM hc_w hc_al (by simp)
  have n_w_ii : w ≠ ii := neM hc_w hc_ii (by simp)
  have n_bs_ro : bs ≠ ro := neM hc_bs hc_ro (by simp)
  have n_bs_w : bs ≠ w := neM hc_bs hc_w (by simp)
  have n_bs_im : bs ≠ im := neM hc_bs hc_im (by simp)
  have n_bs_rd : bs ≠ rd := neM hc_bs hc_rd (by simp)
  have n_bs_rc : bs ≠ rc := neM hc_bs hc_rc (by simp)
  have n_bs_mo : bs ≠ mo := neM hc_bs hc_mo (by simp)
  have n_bs_al : bs ≠ al := neM hc_bs hc_al (by simp)
  have n_bs_ii : bs ≠ ii := neM hc_bs hc_ii (by simp)
  have n_im_ro : im ≠ ro := neM hc_im hc_ro (by simp)
  have n_im_w : im ≠ w := neM hc_im hc_w (by simp)
  have n_im_bs : im ≠ bs := neM hc_im hc_bs (by simp)
  have n_im_rd : im ≠ rd := neM hc_im hc_rd (by simp)
  have n_im_rc : im ≠ rc := neM hc_im hc_rc (by simp)
  have n_im_mo : im ≠ mo := neM hc_im hc_mo (by simp)
  have n_im_al : im ≠ al := neM hc_im hc_al (by simp)
  have n_im_ii : im ≠ ii := neM hc_im hc_ii (by simp)
  have n_rd_ro : rd ≠ ro := neM hc_rd hc_ro (by simp)
  have n_rd_w : rd ≠ w := neM hc_rd hc_w (by simp)
  have n_rd_bs : rd ≠ bs := neM hc_rd hc_bs (by simp)
  have n_rd_im : rd ≠ im := neM hc_rd hc_im (by simp)
  have n_rd_rc : rd ≠ rc := neM hc_rd hc_rc (by simp)
  have n_rd_mo : rd ≠ mo := neM hc_rd hc_mo (by simp)
  have n_rd_al : rd ≠ al := neM hc_rd hc_al (by simp)
  have n_rd_ii : rd ≠ ii := neM hc_rd hc_ii (by simp)
  have n_rc_ro : rc ≠ ro := neM hc_rc hc_ro (by simp)
  have n_rc_w : rc ≠ w := neM hc_rc hc_w (by simp)
  have n_rc_bs : rc ≠ bs := neM hc_rc hc_bs (by simp)
  have n_rc_im : rc ≠ im := neM hc_rc hc_im (by simp)
  have n_rc_rd : rc ≠ rd := neM hc_rc hc_rd (by simp)
  have n_rc_mo : rc ≠ mo := neM hc_rc hc_mo (by simp)
  have n_rc_al : rc ≠ al := neM hc_rc hc_al (by simp)
  have n_rc_ii : rc ≠ ii := neM hc_rc hc_ii (by simp)
  have n_mo_ro : mo ≠ ro := neM hc_mo hc_ro (by simp)
  have n_mo_w : mo ≠ w := neM hc_mo hc_w (by simp)
  have n_mo_bs : mo ≠ bs := neM hc_mo hc_bs (by simp)
  have n_mo_im : mo ≠ im := neM hc_mo hc_im (by simp)
  have n_mo_rd : mo ≠ rd := neM hc_mo hc_rd (by simp)
  have n_mo_rc : mo ≠ rc := neM hc_mo hc_rc (by simp)
  have n_mo_al : mo ≠ al := neM hc_mo hc_al (by simp)
  have n_mo_ii : mo ≠ ii := neM hc_mo hc_ii (by simp)
  have n_al_ro : al ≠ ro := neM hc_al hc_ro (by simp)
  have n_al_w : al ≠ w := neM hc_al hc_w (by simp)
  have n_al_bs : al ≠ bs := neM hc_al hc_bs (by simp)
  have n_al_im : al ≠ im := neM hc_al hc_im (by simp)
  have n_al_rd : al ≠ rd := neM hc_al hc_rd (by simp)
  have n_al_rc : al ≠ rc := neM hc_al hc_rc (by simp)
  have n_al_mo : al ≠ mo := neM hc_al hc_mo (by simp)
  have n_al_ii : al ≠ ii := neM hc_al hc_ii (by simp)
  have n_ii_ro : ii ≠ ro := neM hc_ii hc_ro (by simp)
  have n_ii_w : ii ≠ w := neM hc_ii hc_w (by simp)
  have n_ii_bs : ii ≠ bs := neM hc_ii hc_bs (by simp)
  have n_ii_im : ii ≠ im := neM hc_ii hc_im (by simp)
  have n_ii_rd : ii ≠ rd := neM hc_ii hc_rd (by simp)
  have n_ii_rc : ii ≠ rc := neM hc_ii hc_rc (by simp)
  have n_ii_mo : ii ≠ mo := neM hc_ii hc_mo (by simp)
  have n_ii_al : ii ≠ al := neM hc_ii hc_al (by simp)
  refine lv_aload_n hx hb dL_law_1024 rfl (lv_at hl 2 rfl) ?_
  refine lv_aload_n hx hb dL_law_1025 rfl (lv_at hl 3 rfl) ?_
  refine lv_iload_n hx hb dL_law_1026 rfl (lv_at hl 0 rfl) ?_
  refine lv_iconst (v := 1) hx hb dL_law_1027 (by decide) ?_
  refine lv_iadd hx hb dL_law_1028 ?_
  refine lv_topi (fun zq1_ e_zq1_ => ?_)
  have h_zq1_ : zq1_.toInt = i.toInt + 1 := by rw [e_zq1_, iAdd (by have := iRg i; have : (1 : Int32).toInt = 1 := rfl; omega) (by have := iRg i; have : (1 : Int32).toInt = 1 := rfl; omega)]; rfl
  refine va_sld hx hb hX hbl hbA hH.2.1 (iIn (by omega) (by omega)) dL_law_1029 ?_
  refine lv_topi (fun vq2_ e_vq2_ => ?_)
  refine lv_aload_n hx hb dL_law_1030 rfl (lv_at hl 3 rfl) ?_
  refine lv_iload_n hx hb dL_law_1031 rfl (lv_at hl 0 rfl) ?_
  refine lv_iconst (v := 2) hx hb dL_law_1032 (by decide) ?_
  refine lv_iadd hx hb dL_law_1033 ?_
  refine lv_topi (fun zq3_ e_zq3_ => ?_)
  have h_zq3_ : zq3_.toInt = i.toInt + 2 := by rw [e_zq3_, iAdd (by have := iRg i; have : (2 : Int32).toInt = 2 := rfl; omega) (by have := iRg i; have : (2 : Int32).toInt = 2 := rfl; omega)]; rfl
  refine va_sld hx hb hX hbl hbA hH.2.1 (iIn (by omega) (by omega)) dL_law_1034 ?_
  refine lv_topi (fun vq4_ e_vq4_ => ?_)
  refine lv_aload_n hx hb dL_law_1035 rfl (lv_at hl 3 rfl) ?_
  refine lv_iload_n hx hb dL_law_1036 rfl (lv_at hl 0 rfl) ?_
  refine lv_iconst (v := 3) hx hb dL_law_1037 (by decide) ?_
  refine lv_iadd hx hb dL_law_1038 ?_
  refine lv_topi (fun zq5_ e_zq5_ => ?_)
  have h_zq5_ : zq5_.toInt = i.toInt + 3 := by rw [e_zq5_, iAdd (by have := iRg i; have : (3 : Int32).toInt = 3 := rfl; omega) (by have := iRg i; have : (3 : Int32).toInt = 3 := rfl; omega)]; rfl
  refine va_sld hx hb hX hbl hbA hH.2.1 (iIn (by omega) (by omega)) dL_law_1039 ?_
  refine lv_topi (fun vq6_ e_vq6_ => ?_)
  refine lv_aload_n hx hb dL_law_1040 rfl (lv_at hl 3 rfl) ?_
  refine lv_iload_n hx hb dL_law_1041 rfl (lv_at hl 0 rfl) ?_
  refine lv_iconst (v := 4) hx hb dL_law_1042 (by decide) ?_
  refine lv_iadd hx hb dL_law_1043 ?_
  refine lv_topi (fun zq7_ e_zq7_ => ?_)
  have h_zq7_ : zq7_.toInt = i.toInt + 4 := by rw [e_zq7_, iAdd (by have := iRg i; have : (4 : Int32).toInt = 4 := rfl; omega) (by have := iRg i; have : (4 : Int32).toInt = 4 := rfl; omega)]; rfl
  refine va_sld hx hb hX hbl hbA hH.2.1 (iIn (by omega) (by omega)) dL_law_1044 ?_
  refine lv_topi (fun vq8_ e_vq8_ => ?_)
  have hO_rd := hc_rd
  have hO_rc := hc_rc
  have hO_mo := hc_mo
  have hO_al := hc_al
  have hO_ii := hc_ii
  have hO_im := hc_im
  refine goI hK hH (runV (As := [.int vq2_, .int vq4_, .int vq6_, .int vq8_]) (rest := []) hC hK hH (c_X9_why hc_ro hn_ro hc_w hn_w hc_bs t_cs t_bs t_tp (by omega) (by omega) (by omega) hg) mlL_109 (rcvM hK hH hc_ro rfl) ⟨⟨Nat.le_of_ble_eq_true rfl, Nat.le_of_ble_eq_true rfl⟩, (by show _ ≤ 600000; omega), (by show _ ≤ 7302250; omega)⟩ rfl hl.1 rfl (Nat.le_of_ble_eq_true rfl) dL_law_1045) (fun rq11_ Mq9_ Tq10_ Hq_ lcq_ hP hz hH => ?_)
  try dsimp only at hP
  obtain ⟨(-), eT, eM⟩ := hP
  have eT := eT.symm; subst eT
  have eM := eM.symm; subst eM
  refine lv_pop hx hb dL_law_1048 rfl ?_
  refine lv_aload_n hx hb dL_law_1049 rfl (lv_at hl 1 rfl) ?_
  refine lv_aload_n hx hb dL_law_1050 rfl (lv_at hl 3 rfl) ?_
  refine lv_iload_n hx hb dL_law_1051 rfl (lv_at hl 0 rfl) ?_
  refine lv_iconst (v := 1) hx hb dL_law_1052 (by decide) ?_
  refine lv_iadd hx hb dL_law_1053 ?_
  refine lv_cst (v := zq1_) e_zq1_.symm ?_
  refine va_sld hx hb hX hbl hbA hH.2.1 (iIn (by omega) (by omega)) dL_law_1054 ?_
  refine lv_cst (v := vq2_) e_vq2_.symm ?_
  refine lv_aload_n hx hb dL_law_1055 rfl (lv_at hl 3 rfl) ?_
  refine lv_iload_n hx hb dL_law_1056 rfl (lv_at hl 0 rfl) ?_
  refine lv_iconst (v := 2) hx hb dL_law_1057 (by decide) ?_
  refine lv_iadd hx hb dL_law_1058 ?_
  refine lv_cst (v := zq3_) e_zq3_.symm ?_
  refine va_sld hx hb hX hbl hbA hH.2.1 (iIn (by omega) (by omega)) dL_law_1059 ?_
  refine lv_cst (v := vq4_) e_vq4_.symm ?_
  refine lv_aload_n hx hb dL_law_1060 rfl (lv_at hl 3 rfl) ?_
  refine lv_iload_n hx hb dL_law_1061 rfl (lv_at hl 0 rfl) ?_
  refine lv_iconst (v := 3) hx hb dL_law_1062 (by decide) ?_
  refine lv_iadd hx hb dL_law_1063 ?_
  refine lv_cst (v := zq5_) e_zq5_.symm ?_
  refine va_sld hx hb hX hbl hbA hH.2.1 (iIn (by omega) (by omega)) dL_law_1064 ?_
  refine lv_cst (v := vq6_) e_vq6_.symm ?_
  refine lv_aload_n hx hb dL_law_1065 rfl (lv_at hl 3 rfl) ?_
  refine lv_iload_n hx hb dL_law_1066 rfl (lv_at hl 0 rfl) ?_
  refine lv_iconst (v := 4) hx hb dL_law_1067 (by decide) ?_
  refine lv_iadd hx hb dL_law_1068 ?_
  refine lv_cst (v := zq7_) e_zq7_.symm ?_
  refine va_sld hx hb hX hbl hbA hH.2.1 (iIn (by omega) (by omega)) dL_law_1069 ?_
  refine lv_cst (v := vq8_) e_vq8_.symm ?_
  have hO_rd := hc_rd
  have hO_rc := hc_rc
  have hO_mo := hc_mo
  have hO_al := hc_al
  have hO_ii := hc_ii
  have hO_im := hc_im
  refine goI hK hH (runV (As := [.int vq2_, .int vq4_, .int vq6_, .int vq8_]) (rest := []) hC hK hH (c_X10_why hc_mo hn_mo hc_al hn_al t_mt t_pa t_li (by exact hR_F)) mlL_113 (rcvM hK hH hc_mo rfl) ⟨⟨Nat.le_of_ble_eq_true rfl, Nat.le_of_ble_eq_true rfl⟩, (by show _ ≤ 600000; omega), (by show _ ≤ 7302250; omega)⟩ rfl hl.1 rfl (Nat.le_of_ble_eq_true rfl) dL_law_1070) (fun rq14_ Mq12_ Tq13_ Hq_ lcq_ hP hz hH => ?_)
  try dsimp only at hP
  obtain ⟨(-), eT, eM⟩ := hP
  have eT := eT.symm; subst eT
  have eM := eM.symm; subst eM
  refine lv_pop hx hb dL_law_1073 rfl ?_
  refine lv_goto (tgt := 1370) hx hb dL_law_1074 (by decide) ?_
  exact kk _ _ _ _ ls _ _ ⟨w, im, rd, rc, cu, cs, bs, tp, nb, by_, vi, rb, rs, rp, al, mt, ii, pa, li, td, gd, bc, py, rf, lt, tl, fp, no, wi, le, ki, pl, be, vr, pm, ta, fpm, sm, nx, tk, plm, ln, wr, va, g, gi, ti, fi, F, hc_ro, hc_w, hc_bs, hc_im, hc_rd, hc_rc, hc_mo, hc_al, hc_ii, hn_ro, hn_w, hn_im, hn_rd, hn_rc, hn_mo, hn_al, hn_ii, t_cu, t_cs, t_bs, t_tp, t_nb, t_rb, t_rs, t_rp, t_mt, t_pa, t_li, (by omega), (by omega), (by omega), (by omega), (by omega), (by omega), (by omega), (by omega), (by omega), hg, hg3, him, hR_F, hRI⟩ hH (lv_sub hl [0, 1, 2, 3] rfl) (by omega) (by omega)
set_option maxHeartbeats 4000000 in
set_option maxRecDepth 100000 in
theorem law_case_23 {p : Program} {e : Env} {s : State} {m : MethodId} {below : List Frame} {meth : Method} {c : Code} {l : Launch} {b L : Nat} {xs : Nat → Int32} (C0 : lw_At p s m meth c b L xs) (hL : L ≤ 3072) {z : zD} {D : va_G} {kA : Nat → ClassId} (hK : mK D kA s) {M : mM} {T : mT} {A : Nat → Prop} (hAq : ∀ q, A q → s.heap.size ≤ q) (hZ : zB z A s) {Hq_ : Heap} {lcq_ : List Loc} {ls : Array Slot} {ro mo : Nat} {i : Int32} {cells slots : Nat} (hLI : LI z kA M T ro mo) (hi0 : 0 ≤ i.toInt) (hi6 : i.toInt + 6 ≤ (L : Int)) (hcl : cells + 92 ≤ 600000) (hsl : slots + 1627 ≤ 7302250) (hH : mS D kA M T A s.heap Hq_ lcq_) (hl : lv_has ls 4 [(3, .int i), (2, .ref mo), (1, .ref ro), (0, .ref b)]) (kk : ∀ (M1 : mM) (T1 : mT) (H1 : Heap) (locs1 : List Loc) (ls1 : Array Slot) (cl1 sl1 : Nat), LI z kA M1 T1 ro mo → mS D kA M1 T1 A s.heap H1 locs1 → lv_has ls1 4 [(3, .int i), (2, .ref mo), (1, .ref ro), (0, .ref b)] → cl1 ≤ cells + 92 → sl1 ≤ slots + 1627 → W p l e room_1 s m #[Value.ref b] below meth c H1 locs1 cl1 sl1 (lw_Z below #[Value.ref b] s) (F0 m 1370 ls1 [])) : W p l e room_1 s m #[Value.ref b] below meth c Hq_ lcq_ cells slots (lw_Z below #[Value.ref b] s) (F0 m 1077 ls []) := by
  obtain ⟨hx, hb, hr, hml, hown, hts, hX, hbl, hlocks, hgv⟩ := id C0
  have hC : CallFix p m c cL_law 4 s #[Value.ref b] TB RL := ⟨hx, hb, hml, hown, fun w h => hts w (TB_in h)⟩
  have hbA : ¬ A b := fun h => absurd (hAq b h) (Nat.not_le.mpr hbl)
  obtain ⟨w, im, rd, rc, cu, cs, bs, tp, nb, by_, vi, rb, rs, rp, al, mt, ii, pa, li, td, gd, bc, py, rf, lt, tl, fp, no, wi, le, ki, pl, be, vr, pm, ta, fpm, sm, nx, tk, plm, ln, wr, va, g, gi, ti, fi, F, hc_ro, hc_w, hc_bs, hc_im, hc_rd, hc_rc, hc_mo, hc_al, hc_ii, hn_ro, hn_w, hn_im, hn_rd, hn_rc, hn_mo, hn_al, hn_ii, t_cu, t_cs, t_bs, t_tp, t_nb, t_rb, t_rs, t_rp, t_mt, t_pa, t_li, htd, hbc, htl, hvi, hno, hwi, hpm, hta, hRT, hg, hg3, him, hR_F, hRI⟩ := hLI
  have n_ro_w : ro ≠ w := neM hc_ro hc_w (by simp)
  have n_ro_bs : ro ≠ bs := neM hc_ro hc_bs (by simp)
  have n_ro_im : ro ≠ im := neM hc_ro hc_im (by simp)
  have n_ro_rd : ro ≠ rd := neM hc_ro hc_rd (by simp)
  have n_ro_rc : ro ≠ rc := neM hc_ro hc_rc (by simp)
  have n_ro_mo : ro ≠ mo := neM hc_ro hc_mo (by simp)
  have n_ro_al : ro ≠ al := neM hc_ro hc_al (by simp)
  have n_ro_ii : ro ≠ ii := neM hc_ro hc_ii (by simp)
  have n_w_ro : w ≠ ro := neM hc_w hc_ro (by simp)
  have n_w_bs : w ≠ bs := neM hc_w hc_bs (by simp)
  have n_w_im : w ≠ im := neM hc_w hc_im (by simp)
  have n_w_rd : w ≠ rd := neM hc_w hc_rd (by simp)
  have n_w_rc : w ≠ rc := neM hc_w hc_rc (by simp)
  have n_w_mo : w ≠ mo := neM hc_w hc_mo (by simp)
  have n_w_al : w ≠ al := neM hc_w hc_al (by simp)
  have n_w_ii : w ≠ ii := neM hc_w hc_ii (by simp)
  have n_bs_ro : bs ≠ ro := neM hc_bs hc_ro (by simp)
  have n_bs_w : bs ≠ w := neM hc_bs hc_w (by simp)
  have n_bs_im : bs ≠ im := neM hc_bs hc_im (by simp)
  have n_bs_rd : bs ≠ rd := neM hc_bs hc_rd (by simp)
  have n_bs_rc : bs ≠ rc := neM hc_bs hc_rc (by simp)
  have n_bs_mo : bs ≠ mo := neM hc_bs hc_mo (by simp)
  have n_bs_al : bs ≠ al := neM hc_bs hc_al (by simp)
  have n_bs_ii : bs ≠ ii := neM hc_bs hc_ii (by simp)
  have n_im_ro : im ≠ ro := neM hc_im hc_ro (by simp)
  have n_im_w : im ≠ w := neM hc_im hc_w (by simp)
  have n_im_bs : im ≠ bs := neM hc_im hc_bs (by simp)
  have n_im_rd : im ≠ rd := neM hc_im hc_rd (by simp)
  have n_im_rc : im ≠ rc := neM hc_im hc_rc (by simp)
  have n_im_mo : im ≠ mo := neM hc_im hc_mo (by simp)
  have n_im_al : im ≠ al := neM hc_im hc_al (by simp)
  have n_im_ii : im ≠ ii := neM hc_im hc_ii (by simp)
  have n_rd_ro : rd ≠ ro := neM hc_rd hc_ro (by simp)
  have n_rd_w : rd ≠ w := neM hc_rd hc_w (by simp)
  have n_rd_bs : rd ≠ bs := neM hc_rd hc_bs (by simp)
  have n_rd_im : rd ≠ im := neM hc_rd hc_im (by simp)
  have n_rd_rc : rd ≠ rc := neM hc_rd hc_rc (by simp)
  have n_rd_mo : rd ≠ mo := neM hc_rd hc_mo (by simp)
  have n_rd_al : rd ≠ al := neM hc_rd hc_al (by simp)
  have n_rd_ii : rd ≠ ii := neM hc_rd hc_ii (by simp)
  have n_rc_ro : rc ≠ ro := neM hc_rc hc_ro (by simp)
  have n_rc_w : rc ≠ w := neM hc_rc hc_w (by simp)
  have n_rc_bs : rc ≠ bs := neM hc_rc hc_bs (by simp)
  have n_rc_im : rc ≠ im := neM hc_rc hc_im (by simp)
  have n_rc_rd : rc ≠ rd := neM hc_rc hc_rd (by simp)
  have n_rc_mo : rc ≠ mo := neM hc_rc hc_mo (by simp)
  have n_rc_al : rc ≠ al := neM hc_rc hc_al (by simp)
  have n_rc_ii : rc ≠ ii := neM hc_rc hc_ii (by simp)
  have n_mo_ro : mo ≠ ro := neM hc_mo hc_ro (by simp)
  have n_mo_w : mo ≠ w := neM hc_mo hc_w (by simp)
  have n_mo_bs : mo ≠ bs := neM hc_mo hc_bs (by simp)
  have n_mo_im : mo ≠ im := neM hc_mo hc_im (by simp)
  have n_mo_rd : mo ≠ rd := neM hc_mo hc_rd (by simp)
  have n_mo_rc : mo ≠ rc := neM hc_mo hc_rc (by simp)
  have n_mo_al : mo ≠ al := neM hc_mo hc_al (by simp)
  have n_mo_ii : mo ≠ ii := neM hc_mo hc_ii (by simp)
  have n_al_ro : al ≠ ro := neM hc_al hc_ro (by simp)
  have n_al_w : al ≠ w := neM hc_al hc_w (by simp)
  have n_al_bs : al ≠ bs := neM hc_al hc_bs (by simp)
  have n_al_im : al ≠ im := neM hc_al hc_im (by simp)
  have n_al_rd : al ≠ rd := neM hc_al hc_rd (by simp)
  have n_al_rc : al ≠ rc := neM hc_al hc_rc (by simp)
  have n_al_mo : al ≠ mo := neM hc_al hc_mo (by simp)
  have n_al_ii : al ≠ ii := neM hc_al hc_ii (by simp)
  have n_ii_ro : ii ≠ ro := neM hc_ii hc_ro (by simp)
  have n_ii_w : ii ≠ w := neM hc_ii hc_w (by simp)
  have n_ii_bs : ii ≠ bs := neM hc_ii hc_bs (by simp)
  have n_ii_im : ii ≠ im := neM hc_ii hc_im (by simp)
  have n_ii_rd : ii ≠ rd := neM hc_ii hc_rd (by simp)
  have n_ii_rc : ii ≠ rc := neM hc_ii hc_rc (by simp)
  have n_ii_mo : ii ≠ mo := neM hc_ii hc_mo (by simp)
  have n_ii_al : ii ≠ al := neM hc_ii hc_al (by simp)
  refine lv_aload_n hx hb dL_law_1077 rfl (lv_at hl 2 rfl) ?_
  refine lv_aload_n hx hb dL_law_1078 rfl (lv_at hl 3 rfl) ?_
  refine lv_iload_n hx hb dL_law_1079 rfl (lv_at hl 0 rfl) ?_
  refine lv_iconst (v := 1) hx hb dL_law_1080 (by decide) ?_
  refine lv_iadd hx hb dL_law_1081 ?_
  refine lv_topi (fun zq1_ e_zq1_ => ?_)
  have h_zq1_ : zq1_.toInt = i.toInt + 1 := by rw [e_zq1_, iAdd (by have := iRg i; have : (1 : Int32).toInt = 1 := rfl; omega) (by have := iRg i; have : (1 : Int32).toInt = 1 := rfl; omega)]; rfl
  refine va_sld hx hb hX hbl hbA hH.2.1 (iIn (by omega) (by omega)) dL_law_1082 ?_
  refine lv_topi (fun vq2_ e_vq2_ => ?_)
  have hO_rd := hc_rd
  have hO_rc := hc_rc
  have hO_mo := hc_mo
  have hO_al := hc_al
  have hO_ii := hc_ii
  have hO_im := hc_im
  refine goI hK hH (runV (As := [.int vq2_]) (rest := []) hC hK hH (c_X9_liable hc_ro hn_ro hc_w hn_w hc_bs t_cs t_bs t_tp (by omega) (by omega) (by omega) hg) mlL_114 (rcvM hK hH hc_ro rfl) ⟨⟨Nat.le_of_ble_eq_true rfl, Nat.le_of_ble_eq_true rfl⟩, (by show _ ≤ 600000; omega), (by show _ ≤ 7302250; omega)⟩ rfl hl.1 rfl (Nat.le_of_ble_eq_true rfl) dL_law_1083) (fun rq5_ Mq3_ Tq4_ Hq_ lcq_ hP hz hH => ?_)
  try dsimp only at hP
  obtain ⟨(-), eT, eM⟩ := hP
  have eT := eT.symm; subst eT
  have eM := eM.symm; subst eM
  refine lv_pop hx hb dL_law_1086 rfl ?_
  refine lv_aload_n hx hb dL_law_1087 rfl (lv_at hl 1 rfl) ?_
  refine lv_aload_n hx hb dL_law_1088 rfl (lv_at hl 3 rfl) ?_
  refine lv_iload_n hx hb dL_law_1089 rfl (lv_at hl 0 rfl) ?_
  refine lv_iconst (v := 1) hx hb dL_law_1090 (by decide) ?_
  refine lv_iadd hx hb dL_law_1091 ?_
  refine lv_cst (v := zq1_) e_zq1_.symm ?_
  refine va_sld hx hb hX hbl hbA hH.2.1 (iIn (by omega) (by omega)) dL_law_1092 ?_
  refine lv_cst (v := vq2_) e_vq2_.symm ?_
  have hO_rd := hc_rd
  have hO_rc := hc_rc
  have hO_mo := hc_mo
  have hO_al := hc_al
  have hO_ii := hc_ii
  have hO_im := hc_im
  refine goI hK hH (runV (As := [.int vq2_]) (rest := []) hC hK hH (c_X10_liable hc_mo hn_mo hc_al hn_al t_mt t_pa t_li (by exact hR_F)) mlL_117 (rcvM hK hH hc_mo rfl) ⟨⟨Nat.le_of_ble_eq_true rfl, Nat.le_of_ble_eq_true rfl⟩, (by show _ ≤ 600000; omega), (by show _ ≤ 7302250; omega)⟩ rfl hl.1 rfl (Nat.le_of_ble_eq_true rfl) dL_law_1093) (fun rq8_ Mq6_ Tq7_ Hq_ lcq_ hP hz hH => ?_)
  try dsimp only at hP
  obtain ⟨(-), eT, eM⟩ := hP
  have eT := eT.symm; subst eT
  have eM := eM.symm; subst eM
  refine lv_pop hx hb dL_law_1096 rfl ?_
  refine lv_goto (tgt := 1370) hx hb dL_law_1097 (by decide) ?_
  exact kk _ _ _ _ ls _ _ ⟨w, im, rd, rc, cu, cs, bs, tp, nb, by_, vi, rb, rs, rp, al, mt, ii, pa, li, td, gd, bc, py, rf, lt, tl, fp, no, wi, le, ki, pl, be, vr, pm, ta, fpm, sm, nx, tk, plm, ln, wr, va, g, gi, ti, fi, F, hc_ro, hc_w, hc_bs, hc_im, hc_rd, hc_rc, hc_mo, hc_al, hc_ii, hn_ro, hn_w, hn_im, hn_rd, hn_rc, hn_mo, hn_al, hn_ii, t_cu, t_cs, t_bs, t_tp, t_nb, t_rb, t_rs, t_rp, t_mt, t_pa, t_li, (by omega), (by omega), (by omega), (by omega), (by omega), (by omega), (by omega), (by omega), (by omega), hg, hg3, him, hR_F, hRI⟩ hH (lv_sub hl [0, 1, 2, 3] rfl) (by omega) (by omega)
