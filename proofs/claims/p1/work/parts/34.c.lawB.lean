set_option maxHeartbeats 4000000 in
set_option maxRecDepth 100000 in
theorem law_case_27 {p : Program} {e : Env} {s : State} {m : MethodId} {below : List Frame} {meth : Method} {c : Code} {l : Launch} {b : Nat} {xs : Nat → Int32} (C0 : lw_At p s m meth c b 6 xs) {D : va_G} {kA : Nat → ClassId} (hK : mK D kA s) {M : mM} {T : mT} {A : Nat → Prop} (hAq : ∀ q, A q → s.heap.size ≤ q) {Hq_ : Heap} {lcq_ : List Loc} {ls : Array Slot} {ro w im rd rc cu cs bs tp nb by_ vb mo al mt ii pa li : Nat} {F : Nat → Int32} (hc_ro : M ro = some (.inr (7, [.ref w, .ref im, .ref rd, .ref rc, .ref cu]))) (hc_w : M w = some (.inr (6, [.int 0, .int 2, .int 0, .int 0, .int 0, .int 0, .int 0, .int (-1), .ref cs, .ref bs, .ref tp]))) (hc_cs : M cs = some (.inl (kA 0, 8, .inl (c100 (fun _ => 0))))) (hc_im : M im = some (.inl (kA 6, 3, .inr (.inr (.inr (.inr (fun _ => none))))))) (hc_rd : M rd = some (.inr (3, [.ref nb, .ref vb, .int 0, .int 0, .ref by_, .int 0, .int 0, .int 0, .int 0, .int 0]))) (hc_mo : M mo = some (.inr (8, [.ref al, .ref mt, .ref ii, .int 0, .int (-1), .ref pa, .int 0, .int 0, .int 0, .int 0, .int 0, .long 0, .int 0, .ref li]))) (hc_al : M al = some (.inl (kA 0, 7506, .inl F))) (hc_ii : M ii = some (.inl (kA 2, 3, .inl (fun _ => 0)))) (ht_bs : T bs = some 6) (ht_tp : T tp = some 7) (ht_mt : T mt = some 11) (hFi : ∀ j, j < 1140 → F j = mIni j) (hH : mS D kA M T A s.heap Hq_ lcq_) (hl : lv_has ls 4 [(3, .int 0), (2, .ref mo), (1, .ref ro), (0, .ref b)]) : W p l e room_1 s m #[Value.ref b] below meth c Hq_ lcq_ 156 11688 (lw_Z below #[Value.ref b] s) (F0 m 1189 ls []) := by
  obtain ⟨hx, hb, hr, hml, hown, hts, hX, hbl, hlocks, hgv⟩ := id C0
  have hC : CallFix p m c cL_law 4 s #[Value.ref b] TB RL := ⟨hx, hb, hml, hown, fun w h => hts w (TB_in h)⟩
  have hbA : ¬ A b := fun h => absurd (hAq b h) (Nat.not_le.mpr hbl)
  have n_ro_w : ro ≠ w := neM hc_ro hc_w (by simp)
  have n_ro_cs : ro ≠ cs := neM hc_ro hc_cs (by simp)
  have n_ro_im : ro ≠ im := neM hc_ro hc_im (by simp)
  have n_ro_rd : ro ≠ rd := neM hc_ro hc_rd (by simp)
  have n_ro_mo : ro ≠ mo := neM hc_ro hc_mo (by simp)
  have n_ro_al : ro ≠ al := neM hc_ro hc_al (by simp)
  have n_ro_ii : ro ≠ ii := neM hc_ro hc_ii (by simp)
  have n_w_ro : w ≠ ro := neM hc_w hc_ro (by simp)
  have n_w_cs : w ≠ cs := neM hc_w hc_cs (by simp)
  have n_w_im : w ≠ im := neM hc_w hc_im (by simp)
  have n_w_rd : w ≠ rd := neM hc_w hc_rd (by simp)
  have n_w_mo : w ≠ mo := neM hc_w hc_mo (by simp)
  have n_w_al : w ≠ al := neM hc_w hc_al (by simp)
  have n_w_ii : w ≠ ii := neM hc_w hc_ii (by simp)
  have n_cs_ro : cs ≠ ro := neM hc_cs hc_ro (by simp)
  have n_cs_w : cs ≠ w := neM hc_cs hc_w (by simp)
  have n_cs_im : cs ≠ im := neM hc_cs hc_im (by simp)
  have n_cs_rd : cs ≠ rd := neM hc_cs hc_rd (by simp)
  have n_cs_mo : cs ≠ mo := neM hc_cs hc_mo (by simp)
  have n_cs_al : cs ≠ al := neM hc_cs hc_al (by simp)
  have n_cs_ii : cs ≠ ii := neM hc_cs hc_ii (by simp)
  have n_im_ro : im ≠ ro := neM hc_im hc_ro (by simp)
  have n_im_w : im ≠ w := neM hc_im hc_w (by simp)
  have n_im_cs : im ≠ cs := neM hc_im hc_cs (by simp)
  have n_im_rd : im ≠ rd := neM hc_im hc_rd (by simp)
  have n_im_mo : im ≠ mo := neM hc_im hc_mo (by simp)
  have n_im_al : im ≠ al := neM hc_im hc_al (by simp)
  have n_im_ii : im ≠ ii := neM hc_im hc_ii (by simp)
  have n_rd_ro : rd ≠ ro := neM hc_rd hc_ro (by simp)
  have n_rd_w : rd ≠ w := neM hc_rd hc_w (by simp)
  have n_rd_cs : rd ≠ cs := neM hc_rd hc_cs (by simp)
  have n_rd_im : rd ≠ im := neM hc_rd hc_im (by simp)
  have n_rd_mo : rd ≠ mo := neM hc_rd hc_mo (by simp)
  have n_rd_al : rd ≠ al := neM hc_rd hc_al (by simp)
  have n_rd_ii : rd ≠ ii := neM hc_rd hc_ii (by simp)
  have n_mo_ro : mo ≠ ro := neM hc_mo hc_ro (by simp)
  have n_mo_w : mo ≠ w := neM hc_mo hc_w (by simp)
  have n_mo_cs : mo ≠ cs := neM hc_mo hc_cs (by simp)
  have n_mo_im : mo ≠ im := neM hc_mo hc_im (by simp)
  have n_mo_rd : mo ≠ rd := neM hc_mo hc_rd (by simp)
  have n_mo_al : mo ≠ al := neM hc_mo hc_al (by simp)
  have n_mo_ii : mo ≠ ii := neM hc_mo hc_ii (by simp)
  have n_al_ro : al ≠ ro := neM hc_al hc_ro (by simp)
  have n_al_w : al ≠ w := neM hc_al hc_w (by simp)
  have n_al_cs : al ≠ cs := neM hc_al hc_cs (by simp)
  have n_al_im : al ≠ im := neM hc_al hc_im (by simp)
  have n_al_rd : al ≠ rd := neM hc_al hc_rd (by simp)
  have n_al_mo : al ≠ mo := neM hc_al hc_mo (by simp)
  have n_al_ii : al ≠ ii := neM hc_al hc_ii (by simp)
  have n_ii_ro : ii ≠ ro := neM hc_ii hc_ro (by simp)
  have n_ii_w : ii ≠ w := neM hc_ii hc_w (by simp)
  have n_ii_cs : ii ≠ cs := neM hc_ii hc_cs (by simp)
  have n_ii_im : ii ≠ im := neM hc_ii hc_im (by simp)
  have n_ii_rd : ii ≠ rd := neM hc_ii hc_rd (by simp)
  have n_ii_mo : ii ≠ mo := neM hc_ii hc_mo (by simp)
  have n_ii_al : ii ≠ al := neM hc_ii hc_al (by simp)
  refine lv_aload_n hx hb dL_law_1189 rfl (lv_at hl 2 rfl) ?_
  refine lv_aload_n hx hb dL_law_1190 rfl (lv_at hl 3 rfl) ?_
  refine lv_iload_n hx hb dL_law_1191 rfl (lv_at hl 0 rfl) ?_
  refine lv_iconst (v := 1) hx hb dL_law_1192 (by decide) ?_
  refine lv_iadd hx hb dL_law_1193 ?_
  refine lv_cst (v := 1) (by decide) ?_
  refine va_sld hx hb hX hbl hbA hH.2.1 (iIn (by decide) (by decide)) dL_law_1194 ?_
  refine lv_topi (fun vq1_ e_vq1_ => ?_)
  refine goI hK hH (runV (As := [.int vq1_]) (rest := []) hC hK hH (c_X9_ends hc_ro hc_w) mlL_130 (rcvM hK hH hc_ro rfl) ⟨⟨Nat.le_of_ble_eq_true rfl, Nat.le_of_ble_eq_true rfl⟩, Nat.le_of_ble_eq_true rfl, Nat.le_of_ble_eq_true rfl⟩ rfl hl.1 rfl (Nat.le_of_ble_eq_true rfl) dL_law_1195) (fun rq4_ Mq2_ Tq3_ Hq_ lcq_ hP hz hH => ?_)
  try dsimp only at hP
  obtain ⟨(rfl), eT, eM⟩ := hP
  have eT := eT.symm; subst eT
  have eM := eM.symm; subst eM
  refine lv_aload_n hx hb dL_law_1198 rfl (lv_at hl 1 rfl) ?_
  refine lv_aload_n hx hb dL_law_1199 rfl (lv_at hl 3 rfl) ?_
  refine lv_iload_n hx hb dL_law_1200 rfl (lv_at hl 0 rfl) ?_
  refine lv_iconst (v := 1) hx hb dL_law_1201 (by decide) ?_
  refine lv_iadd hx hb dL_law_1202 ?_
  refine lv_cst (v := 1) (by decide) ?_
  refine va_sld hx hb hX hbl hbA hH.2.1 (iIn (by decide) (by decide)) dL_law_1203 ?_
  refine lv_cst (v := vq1_) e_vq1_.symm ?_
  refine goI hK hH (runV (As := [.int vq1_]) (rest := [.int (-1)]) hC hK hH (c_X10_ends hc_mo hc_al hFi) mlL_133 (rcvM hK hH hc_mo rfl) ⟨⟨Nat.le_of_ble_eq_true rfl, Nat.le_of_ble_eq_true rfl⟩, Nat.le_of_ble_eq_true rfl, Nat.le_of_ble_eq_true rfl⟩ rfl hl.1 rfl (Nat.le_of_ble_eq_true rfl) dL_law_1204) (fun rq7_ Mq5_ Tq6_ Hq_ lcq_ hP hz hH => ?_)
  try dsimp only at hP
  obtain ⟨(rfl), eT, eM⟩ := hP
  have eT := eT.symm; subst eT
  have eM := eM.symm; subst eM
  refine jic_eq (tgt := 1370) hx hb dL_law_1207 (by decide) (fun cq8_ => ?_) (fun cq8_ => absurd cq8_ (by decide))
  exact law_tail C0 hAq hH.2.1 (lv_sub hl [0, 3] rfl) (Nat.le_of_ble_eq_true rfl) (Nat.le_of_ble_eq_true rfl)
set_option maxHeartbeats 4000000 in
set_option maxRecDepth 100000 in
theorem law_case_28 {p : Program} {e : Env} {s : State} {m : MethodId} {below : List Frame} {meth : Method} {c : Code} {l : Launch} {b : Nat} {xs : Nat → Int32} (C0 : lw_At p s m meth c b 6 xs) {D : va_G} {kA : Nat → ClassId} (hK : mK D kA s) {M : mM} {T : mT} {A : Nat → Prop} (hAq : ∀ q, A q → s.heap.size ≤ q) {Hq_ : Heap} {lcq_ : List Loc} {ls : Array Slot} {ro w im rd rc cu cs bs tp nb by_ vb mo al mt ii pa li : Nat} {F : Nat → Int32} (hc_ro : M ro = some (.inr (7, [.ref w, .ref im, .ref rd, .ref rc, .ref cu]))) (hc_w : M w = some (.inr (6, [.int 0, .int 2, .int 0, .int 0, .int 0, .int 0, .int 0, .int (-1), .ref cs, .ref bs, .ref tp]))) (hc_cs : M cs = some (.inl (kA 0, 8, .inl (c100 (fun _ => 0))))) (hc_im : M im = some (.inl (kA 6, 3, .inr (.inr (.inr (.inr (fun _ => none))))))) (hc_rd : M rd = some (.inr (3, [.ref nb, .ref vb, .int 0, .int 0, .ref by_, .int 0, .int 0, .int 0, .int 0, .int 0]))) (hc_mo : M mo = some (.inr (8, [.ref al, .ref mt, .ref ii, .int 0, .int (-1), .ref pa, .int 0, .int 0, .int 0, .int 0, .int 0, .long 0, .int 0, .ref li]))) (hc_al : M al = some (.inl (kA 0, 7506, .inl F))) (hc_ii : M ii = some (.inl (kA 2, 3, .inl (fun _ => 0)))) (ht_bs : T bs = some 6) (ht_tp : T tp = some 7) (ht_mt : T mt = some 11) (hFi : ∀ j, j < 1140 → F j = mIni j) (hH : mS D kA M T A s.heap Hq_ lcq_) (hl : lv_has ls 4 [(3, .int 0), (2, .ref mo), (1, .ref ro), (0, .ref b)]) : W p l e room_1 s m #[Value.ref b] below meth c Hq_ lcq_ 156 11688 (lw_Z below #[Value.ref b] s) (F0 m 1212 ls []) := by
  obtain ⟨hx, hb, hr, hml, hown, hts, hX, hbl, hlocks, hgv⟩ := id C0
  have hC : CallFix p m c cL_law 4 s #[Value.ref b] TB RL := ⟨hx, hb, hml, hown, fun w h => hts w (TB_in h)⟩
  have hbA : ¬ A b := fun h => absurd (hAq b h) (Nat.not_le.mpr hbl)
  have n_ro_w : ro ≠ w := neM hc_ro hc_w (by simp)
  have n_ro_cs : ro ≠ cs := neM hc_ro hc_cs (by simp)
  have n_ro_im : ro ≠ im := neM hc_ro hc_im (by simp)
  have n_ro_rd : ro ≠ rd := neM hc_ro hc_rd (by simp)
  have n_ro_mo : ro ≠ mo := neM hc_ro hc_mo (by simp)
  have n_ro_al : ro ≠ al := neM hc_ro hc_al (by simp)
  have n_ro_ii : ro ≠ ii := neM hc_ro hc_ii (by simp)
  have n_w_ro : w ≠ ro := neM hc_w hc_ro (by simp)
  have n_w_cs : w ≠ cs := neM hc_w hc_cs (by simp)
  have n_w_im : w ≠ im := neM hc_w hc_im (by simp)
  have n_w_rd : w ≠ rd := neM hc_w hc_rd (by simp)
  have n_w_mo : w ≠ mo := neM hc_w hc_mo (by simp)
  have n_w_al : w ≠ al := neM hc_w hc_al (by simp)
  have n_w_ii : w ≠ ii := neM hc_w hc_ii (by simp)
  have n_cs_ro : cs ≠ ro := neM hc_cs hc_ro (by simp)
  have n_cs_w : cs ≠ w := neM hc_cs hc_w (by simp)
  have n_cs_im : cs ≠ im := neM hc_cs hc_im (by simp)
  have n_cs_rd : cs ≠ rd := neM hc_cs hc_rd (by simp)
  have n_cs_mo : cs ≠ mo := neM hc_cs hc_mo (by simp)
  have n_cs_al : cs ≠ al := neM hc_cs hc_al (by simp)
  have n_cs_ii : cs ≠ ii := neM hc_cs hc_ii (by simp)
  have n_im_ro : im ≠ ro := neM hc_im hc_ro (by simp)
  have n_im_w : im ≠ w := neM hc_im hc_w (by simp)
  have n_im_cs : im ≠ cs := neM hc_im hc_cs (by simp)
  have n_im_rd : im ≠ rd := neM hc_im hc_rd (by simp)
  have n_im_mo : im ≠ mo := neM hc_im hc_mo (by simp)
  have n_im_al : im ≠ al := neM hc_im hc_al (by simp)
  have n_im_ii : im ≠ ii := neM hc_im hc_ii (by simp)
  have n_rd_ro : rd ≠ ro := neM hc_rd hc_ro (by simp)
  have n_rd_w : rd ≠ w := neM hc_rd hc_w (by simp)
  have n_rd_cs : rd ≠ cs := neM hc_rd hc_cs (by simp)
  have n_rd_im : rd ≠ im := neM hc_rd hc_im (by simp)
  have n_rd_mo : rd ≠ mo := neM hc_rd hc_mo (by simp)
  have n_rd_al : rd ≠ al := neM hc_rd hc_al (by simp)
  have n_rd_ii : rd ≠ ii := neM hc_rd hc_ii (by simp)
  have n_mo_ro : mo ≠ ro := neM hc_mo hc_ro (by simp)
  have n_mo_w : mo ≠ w := neM hc_mo hc_w (by simp)
  have n_mo_cs : mo ≠ cs := neM hc_mo hc_cs (by simp)
  have n_mo_im : mo ≠ im := neM hc_mo hc_im (by simp)
  have n_mo_rd : mo ≠ rd := neM hc_mo hc_rd (by simp)
  have n_mo_al : mo ≠ al := neM hc_mo hc_al (by simp)
  have n_mo_ii : mo ≠ ii := neM hc_mo hc_ii (by simp)
  have n_al_ro : al ≠ ro := neM hc_al hc_ro (by simp)
  have n_al_w : al ≠ w := neM hc_al hc_w (by simp)
  have n_al_cs : al ≠ cs := neM hc_al hc_cs (by simp)
  have n_al_im : al ≠ im := neM hc_al hc_im (by simp)
  have n_al_rd : al ≠ rd := neM hc_al hc_rd (by simp)
  have n_al_mo : al ≠ mo := neM hc_al hc_mo (by simp)
  have n_al_ii : al ≠ ii := neM hc_al hc_ii (by simp)
  have n_ii_ro : ii ≠ ro := neM hc_ii hc_ro (by simp)
  have n_ii_w : ii ≠ w := neM hc_ii hc_w (by simp)
  have n_ii_cs : ii ≠ cs := neM hc_ii hc_cs (by simp)
  have n_ii_im : ii ≠ im := neM hc_ii hc_im (by simp)
  have n_ii_rd : ii ≠ rd := neM hc_ii hc_rd (by simp)
  have n_ii_mo : ii ≠ mo := neM hc_ii hc_mo (by simp)
  have n_ii_al : ii ≠ al := neM hc_ii hc_al (by simp)
  refine lv_aload_n hx hb dL_law_1212 rfl (lv_at hl 2 rfl) ?_
  refine lv_aload_n hx hb dL_law_1213 rfl (lv_at hl 3 rfl) ?_
  refine lv_iload_n hx hb dL_law_1214 rfl (lv_at hl 0 rfl) ?_
  refine lv_iconst (v := 1) hx hb dL_law_1215 (by decide) ?_
  refine lv_iadd hx hb dL_law_1216 ?_
  refine lv_cst (v := 1) (by decide) ?_
  refine va_sld hx hb hX hbl hbA hH.2.1 (iIn (by decide) (by decide)) dL_law_1217 ?_
  refine lv_topi (fun vq1_ e_vq1_ => ?_)
  refine goI hK hH (runV (As := [.int vq1_]) (rest := []) hC hK hH (c_X9_owes hc_ro hc_w) mlL_134 (rcvM hK hH hc_ro rfl) ⟨⟨Nat.le_of_ble_eq_true rfl, Nat.le_of_ble_eq_true rfl⟩, Nat.le_of_ble_eq_true rfl, Nat.le_of_ble_eq_true rfl⟩ rfl hl.1 rfl (Nat.le_of_ble_eq_true rfl) dL_law_1218) (fun rq4_ Mq2_ Tq3_ Hq_ lcq_ hP hz hH => ?_)
  try dsimp only at hP
  obtain ⟨(⟨cq5_, rfl⟩ | ⟨cq6_, rfl⟩), eT, eM⟩ := hP
  · skip
    have eT := eT.symm; subst eT
    have eM := eM.symm; subst eM
    have cq5_ : 0 ≤ vq1_.toInt ∧ vq1_.toInt ≤ 7 := cq5_
    refine lv_aload_n hx hb dL_law_1221 rfl (lv_at hl 1 rfl) ?_
    refine lv_aload_n hx hb dL_law_1222 rfl (lv_at hl 3 rfl) ?_
    refine lv_iload_n hx hb dL_law_1223 rfl (lv_at hl 0 rfl) ?_
    refine lv_iconst (v := 1) hx hb dL_law_1224 (by decide) ?_
    refine lv_iadd hx hb dL_law_1225 ?_
    refine lv_cst (v := 1) (by decide) ?_
    refine va_sld hx hb hX hbl hbA hH.2.1 (iIn (by decide) (by decide)) dL_law_1226 ?_
    refine lv_cst (v := vq1_) e_vq1_.symm ?_
    refine goI hK hH (runV (As := [.int vq1_]) (rest := [.int 0]) hC hK hH (c_X10_owes hc_mo hc_al hFi) mlL_137 (rcvM hK hH hc_mo rfl) ⟨⟨Nat.le_of_ble_eq_true rfl, Nat.le_of_ble_eq_true rfl⟩, Nat.le_of_ble_eq_true rfl, Nat.le_of_ble_eq_true rfl⟩ rfl hl.1 rfl (Nat.le_of_ble_eq_true rfl) dL_law_1227) (fun rq9_ Mq7_ Tq8_ Hq_ lcq_ hP hz hH => ?_)
    try dsimp only at hP
    obtain ⟨(⟨cq10_, rfl⟩ | ⟨cq11_, rfl⟩), eT, eM⟩ := hP
    · skip
      have eT := eT.symm; subst eT
      have eM := eM.symm; subst eM
      have cq10_ : 0 ≤ vq1_.toInt ∧ vq1_.toInt ≤ 7 := cq10_
      refine jic_eq (tgt := 1370) hx hb dL_law_1230 (by decide) (fun cq12_ => ?_) (fun cq12_ => absurd cq12_ (by decide))
      exact law_tail C0 hAq hH.2.1 (lv_sub hl [0, 3] rfl) (Nat.le_of_ble_eq_true rfl) (Nat.le_of_ble_eq_true rfl)
    · skip
      have eT := eT.symm; subst eT
      have eM := eM.symm; subst eM
      have cq11_ : ¬ (0 ≤ vq1_.toInt ∧ vq1_.toInt ≤ 7) := cq11_
      exfalso; omega
  · skip
    have eT := eT.symm; subst eT
    have eM := eM.symm; subst eM
    have cq6_ : ¬ (0 ≤ vq1_.toInt ∧ vq1_.toInt ≤ 7) := cq6_
    refine lv_aload_n hx hb dL_law_1221 rfl (lv_at hl 1 rfl) ?_
    refine lv_aload_n hx hb dL_law_1222 rfl (lv_at hl 3 rfl) ?_
    refine lv_iload_n hx hb dL_law_1223 rfl (lv_at hl 0 rfl) ?_
    refine lv_iconst (v := 1) hx hb dL_law_1224 (by decide) ?_
    refine lv_iadd hx hb dL_law_1225 ?_
    refine lv_cst (v := 1) (by decide) ?_
    refine va_sld hx hb hX hbl hbA hH.2.1 (iIn (by decide) (by decide)) dL_law_1226 ?_
    refine lv_cst (v := vq1_) e_vq1_.symm ?_
    refine goI hK hH (runV (As := [.int vq1_]) (rest := [.int (-1)]) hC hK hH (c_X10_owes hc_mo hc_al hFi) mlL_137 (rcvM hK hH hc_mo rfl) ⟨⟨Nat.le_of_ble_eq_true rfl, Nat.le_of_ble_eq_true rfl⟩, Nat.le_of_ble_eq_true rfl, Nat.le_of_ble_eq_true rfl⟩ rfl hl.1 rfl (Nat.le_of_ble_eq_true rfl) dL_law_1227) (fun rq15_ Mq13_ Tq14_ Hq_ lcq_ hP hz hH => ?_)
    try dsimp only at hP
    obtain ⟨(⟨cq16_, rfl⟩ | ⟨cq17_, rfl⟩), eT, eM⟩ := hP
    · skip
      have eT := eT.symm; subst eT
      have eM := eM.symm; subst eM
      have cq16_ : 0 ≤ vq1_.toInt ∧ vq1_.toInt ≤ 7 := cq16_
      exfalso; omega
    · skip
      have eT := eT.symm; subst eT
      have eM := eM.symm; subst eM
      have cq17_ : ¬ (0 ≤ vq1_.toInt ∧ vq1_.toInt ≤ 7) := cq17_
      refine jic_eq (tgt := 1370) hx hb dL_law_1230 (by decide) (fun cq18_ => ?_) (fun cq18_ => absurd cq18_ (by decide))
      exact law_tail C0 hAq hH.2.1 (lv_sub hl [0, 3] rfl) (Nat.le_of_ble_eq_true rfl) (Nat.le_of_ble_eq_true rfl)
set_option maxHeartbeats 4000000 in
set_option maxRecDepth 100000 in
theorem law_case_29 {p : Program} {e : Env} {s : State} {m : MethodId} {below : List Frame} {meth : Method} {c : Code} {l : Launch} {b : Nat} {xs : Nat → Int32} (C0 : lw_At p s m meth c b 6 xs) {D : va_G} {kA : Nat → ClassId} (hK : mK D kA s) {M : mM} {T : mT} {A : Nat → Prop} (hAq : ∀ q, A q → s.heap.size ≤ q) {Hq_ : Heap} {lcq_ : List Loc} {ls : Array Slot} {ro w im rd rc cu cs bs tp nb by_ vb mo al mt ii pa li : Nat} {F : Nat → Int32} (hc_ro : M ro = some (.inr (7, [.ref w, .ref im, .ref rd, .ref rc, .ref cu]))) (hc_w : M w = some (.inr (6, [.int 0, .int 2, .int 0, .int 0, .int 0, .int 0, .int 0, .int (-1), .ref cs, .ref bs, .ref tp]))) (hc_cs : M cs = some (.inl (kA 0, 8, .inl (c100 (fun _ => 0))))) (hc_im : M im = some (.inl (kA 6, 3, .inr (.inr (.inr (.inr (fun _ => none))))))) (hc_rd : M rd = some (.inr (3, [.ref nb, .ref vb, .int 0, .int 0, .ref by_, .int 0, .int 0, .int 0, .int 0, .int 0]))) (hc_mo : M mo = some (.inr (8, [.ref al, .ref mt, .ref ii, .int 0, .int (-1), .ref pa, .int 0, .int 0, .int 0, .int 0, .int 0, .long 0, .int 0, .ref li]))) (hc_al : M al = some (.inl (kA 0, 7506, .inl F))) (hc_ii : M ii = some (.inl (kA 2, 3, .inl (fun _ => 0)))) (ht_bs : T bs = some 6) (ht_tp : T tp = some 7) (ht_mt : T mt = some 11) (hFi : ∀ j, j < 1140 → F j = mIni j) (hH : mS D kA M T A s.heap Hq_ lcq_) (hl : lv_has ls 4 [(3, .int 0), (2, .ref mo), (1, .ref ro), (0, .ref b)]) : W p l e room_1 s m #[Value.ref b] below meth c Hq_ lcq_ 156 11688 (lw_Z below #[Value.ref b] s) (F0 m 1235 ls []) := by
  obtain ⟨hx, hb, hr, hml, hown, hts, hX, hbl, hlocks, hgv⟩ := id C0
  have hC : CallFix p m c cL_law 4 s #[Value.ref b] TB RL := ⟨hx, hb, hml, hown, fun w h => hts w (TB_in h)⟩
  have hbA : ¬ A b := fun h => absurd (hAq b h) (Nat.not_le.mpr hbl)
  have n_ro_w : ro ≠ w := neM hc_ro hc_w (by simp)
  have n_ro_cs : ro ≠ cs := neM hc_ro hc_cs (by simp)
  have n_ro_im : ro ≠ im := neM hc_ro hc_im (by simp)
  have n_ro_rd : ro ≠ rd := neM hc_ro hc_rd (by simp)
  have n_ro_mo : ro ≠ mo := neM hc_ro hc_mo (by simp)
  have n_ro_al : ro ≠ al := neM hc_ro hc_al (by simp)
  have n_ro_ii : ro ≠ ii := neM hc_ro hc_ii (by simp)
  have n_w_ro : w ≠ ro := neM hc_w hc_ro (by simp)
  have n_w_cs : w ≠ cs := neM hc_w hc_cs (by simp)
  have n_w_im : w ≠ im := neM hc_w hc_im (by simp)
  have n_w_rd : w ≠ rd := neM hc_w hc_rd (by simp)
  have n_w_mo : w ≠ mo := neM hc_w hc_mo (by simp)
  have n_w_al : w ≠ al := neM hc_w hc_al (by simp)
  have n_w_ii : w ≠ ii := neM hc_w hc_ii (by simp)
  have n_cs_ro : cs ≠ ro := neM hc_cs hc_ro (by simp)
  have n_cs_w : cs ≠ w := neM hc_cs hc_w (by simp)
  have n_cs_im : cs ≠ im := neM hc_cs hc_im (by simp)
  have n_cs_rd : cs ≠ rd := neM hc_cs hc_rd (by simp)
  have n_cs_mo : cs ≠ mo := neM hc_cs hc_mo (by simp)
  have n_cs_al : cs ≠ al := neM hc_cs hc_al (by simp)
  have n_cs_ii : cs ≠ ii := neM hc_cs hc_ii (by simp)
  have n_im_ro : im ≠ ro := neM hc_im hc_ro (by simp)
  have n_im_w : im ≠ w := neM hc_im hc_w (by simp)
  have n_im_cs : im ≠ cs := neM hc_im hc_cs (by simp)
  have n_im_rd : im ≠ rd := neM hc_im hc_rd (by simp)
  have n_im_mo : im ≠ mo := neM hc_im hc_mo (by simp)
  have n_im_al : im ≠ al := neM hc_im hc_al (by simp)
  have n_im_ii : im ≠ ii := neM hc_im hc_ii (by simp)
  have n_rd_ro : rd ≠ ro := neM hc_rd hc_ro (by simp)
  have n_rd_w : rd ≠ w := neM hc_rd hc_w (by simp)
  have n_rd_cs : rd ≠ cs := neM hc_rd hc_cs (by simp)
  have n_rd_im : rd ≠ im := neM hc_rd hc_im (by simp)
  have n_rd_mo : rd ≠ mo := neM hc_rd hc_mo (by simp)
  have n_rd_al : rd ≠ al := neM hc_rd hc_al (by simp)
  have n_rd_ii : rd ≠ ii := neM hc_rd hc_ii (by simp)
  have n_mo_ro : mo ≠ ro := neM hc_mo hc_ro (by simp)
  have n_mo_w : mo ≠ w := neM hc_mo hc_w (by simp)
  have n_mo_cs : mo ≠ cs := neM hc_mo hc_cs (by simp)
  have n_mo_im : mo ≠ im := neM hc_mo hc_im (by simp)
  have n_mo_rd : mo ≠ rd := neM hc_mo hc_rd (by simp)
  have n_mo_al : mo ≠ al := neM hc_mo hc_al (by simp)
  have n_mo_ii : mo ≠ ii := neM hc_mo hc_ii (by simp)
  have n_al_ro : al ≠ ro := neM hc_al hc_ro (by simp)
  have n_al_w : al ≠ w := neM hc_al hc_w (by simp)
  have n_al_cs : al ≠ cs := neM hc_al hc_cs (by simp)
  have n_al_im : al ≠ im := neM hc_al hc_im (by simp)
  have n_al_rd : al ≠ rd := neM hc_al hc_rd (by simp)
  have n_al_mo : al ≠ mo := neM hc_al hc_mo (by simp)
  have n_al_ii : al ≠ ii := neM hc_al hc_ii (by simp)
  have n_ii_ro : ii ≠ ro := neM hc_ii hc_ro (by simp)
  have n_ii_w : ii ≠ w := neM hc_ii hc_w (by simp)
  have n_ii_cs : ii ≠ cs := neM hc_ii hc_cs (by simp)
  have n_ii_im : ii ≠ im := neM hc_ii hc_im (by simp)
  have n_ii_rd : ii ≠ rd := neM hc_ii hc_rd (by simp)
  have n_ii_mo : ii ≠ mo := neM hc_ii hc_mo (by simp)
  have n_ii_al : ii ≠ al := neM hc_ii hc_al (by simp)
  refine lv_aload_n hx hb dL_law_1235 rfl (lv_at hl 2 rfl) ?_
  refine lv_aload_n hx hb dL_law_1236 rfl (lv_at hl 3 rfl) ?_
  refine lv_iload_n hx hb dL_law_1237 rfl (lv_at hl 0 rfl) ?_
  refine lv_iconst (v := 1) hx hb dL_law_1238 (by decide) ?_
  refine lv_iadd hx hb dL_law_1239 ?_
  refine lv_cst (v := 1) (by decide) ?_
  refine va_sld hx hb hX hbl hbA hH.2.1 (iIn (by decide) (by decide)) dL_law_1240 ?_
  refine lv_topi (fun vq1_ e_vq1_ => ?_)
  refine goI hK hH (runV (As := [.int vq1_]) (rest := []) hC hK hH (c_X9_worth hc_ro hc_w) mlL_138 (rcvM hK hH hc_ro rfl) ⟨⟨Nat.le_of_ble_eq_true rfl, Nat.le_of_ble_eq_true rfl⟩, Nat.le_of_ble_eq_true rfl, Nat.le_of_ble_eq_true rfl⟩ rfl hl.1 rfl (Nat.le_of_ble_eq_true rfl) dL_law_1241) (fun rq4_ Mq2_ Tq3_ Hq_ lcq_ hP hz hH => ?_)
  try dsimp only at hP
  obtain ⟨(⟨cq5_, rfl⟩ | ⟨cq6_, rfl⟩), eT, eM⟩ := hP
  · skip
    have eT := eT.symm; subst eT
    have eM := eM.symm; subst eM
    have cq5_ : 0 ≤ vq1_.toInt ∧ vq1_.toInt ≤ 7 := cq5_
    refine lv_aload_n hx hb dL_law_1244 rfl (lv_at hl 1 rfl) ?_
    refine lv_aload_n hx hb dL_law_1245 rfl (lv_at hl 3 rfl) ?_
    refine lv_iload_n hx hb dL_law_1246 rfl (lv_at hl 0 rfl) ?_
    refine lv_iconst (v := 1) hx hb dL_law_1247 (by decide) ?_
    refine lv_iadd hx hb dL_law_1248 ?_
    refine lv_cst (v := 1) (by decide) ?_
    refine va_sld hx hb hX hbl hbA hH.2.1 (iIn (by decide) (by decide)) dL_law_1249 ?_
    refine lv_cst (v := vq1_) e_vq1_.symm ?_
    refine goI hK hH (runV (As := [.int vq1_]) (rest := [.int 0]) hC hK hH (c_X10_worth hc_mo hc_al hFi) mlL_141 (rcvM hK hH hc_mo rfl) ⟨⟨Nat.le_of_ble_eq_true rfl, Nat.le_of_ble_eq_true rfl⟩, Nat.le_of_ble_eq_true rfl, Nat.le_of_ble_eq_true rfl⟩ rfl hl.1 rfl (Nat.le_of_ble_eq_true rfl) dL_law_1250) (fun rq9_ Mq7_ Tq8_ Hq_ lcq_ hP hz hH => ?_)
    try dsimp only at hP
    obtain ⟨(⟨cq10_, rfl⟩ | ⟨cq11_, rfl⟩), eT, eM⟩ := hP
    · skip
      have eT := eT.symm; subst eT
      have eM := eM.symm; subst eM
      have cq10_ : 0 ≤ vq1_.toInt ∧ vq1_.toInt ≤ 7 := cq10_
      refine jic_eq (tgt := 1370) hx hb dL_law_1253 (by decide) (fun cq12_ => ?_) (fun cq12_ => absurd cq12_ (by decide))
      exact law_tail C0 hAq hH.2.1 (lv_sub hl [0, 3] rfl) (Nat.le_of_ble_eq_true rfl) (Nat.le_of_ble_eq_true rfl)
    · skip
      have eT := eT.symm; subst eT
      have eM := eM.symm; subst eM
      have cq11_ : ¬ (0 ≤ vq1_.toInt ∧ vq1_.toInt ≤ 7) := cq11_
      exfalso; omega
  · skip
    have eT := eT.symm; subst eT
    have eM := eM.symm; subst eM
    have cq6_ : ¬ (0 ≤ vq1_.toInt ∧ vq1_.toInt ≤ 7) := cq6_
    refine lv_aload_n hx hb dL_law_1244 rfl (lv_at hl 1 rfl) ?_
    refine lv_aload_n hx hb dL_law_1245 rfl (lv_at hl 3 rfl) ?_
    refine lv_iload_n hx hb dL_law_1246 rfl (lv_at hl 0 rfl) ?_
    refine lv_iconst (v := 1) hx hb dL_law_1247 (by decide) ?_
    refine lv_iadd hx hb dL_law_1248 ?_
    refine lv_cst (v := 1) (by decide) ?_
    refine va_sld hx hb hX hbl hbA hH.2.1 (iIn (by decide) (by decide)) dL_law_1249 ?_
    refine lv_cst (v := vq1_) e_vq1_.symm ?_
    refine goI hK hH (runV (As := [.int vq1_]) (rest := [.int (-1)]) hC hK hH (c_X10_worth hc_mo hc_al hFi) mlL_141 (rcvM hK hH hc_mo rfl) ⟨⟨Nat.le_of_ble_eq_true rfl, Nat.le_of_ble_eq_true rfl⟩, Nat.le_of_ble_eq_true rfl, Nat.le_of_ble_eq_true rfl⟩ rfl hl.1 rfl (Nat.le_of_ble_eq_true rfl) dL_law_1250) (fun rq15_ Mq13_ Tq14_ Hq_ lcq_ hP hz hH => ?_)
    try dsimp only at hP
    obtain ⟨(⟨cq16_, rfl⟩ | ⟨cq17_, rfl⟩), eT, eM⟩ := hP
    · skip
      have eT := eT.symm; subst eT
      have eM := eM.symm; subst eM
      have cq16_ : 0 ≤ vq1_.toInt ∧ vq1_.toInt ≤ 7 := cq16_
      exfalso; omega
    · skip
      have eT := eT.symm; subst eT
      have eM := eM.symm; subst eM
      have cq17_ : ¬ (0 ≤ vq1_.toInt ∧ vq1_.toInt ≤ 7) := cq17_
      refine jic_eq (tgt := 1370) hx hb dL_law_1253 (by decide) (fun cq18_ => ?_) (fun cq18_ => absurd cq18_ (by decide))
      exact law_tail C0 hAq hH.2.1 (lv_sub hl [0, 3] rfl) (Nat.le_of_ble_eq_true rfl) (Nat.le_of_ble_eq_true rfl)
set_option maxHeartbeats 4000000 in
set_option maxRecDepth 100000 in
theorem law_case_30 {p : Program} {e : Env} {s : State} {m : MethodId} {below : List Frame} {meth : Method} {c : Code} {l : Launch} {b : Nat} {xs : Nat → Int32} (C0 : lw_At p s m meth c b 6 xs) {D : va_G} {kA : Nat → ClassId} (hK : mK D kA s) {M : mM} {T : mT} {A : Nat → Prop} (hAq : ∀ q, A q → s.heap.size ≤ q) {Hq_ : Heap} {lcq_ : List Loc} {ls : Array Slot} {ro w im rd rc cu cs bs tp nb by_ vb mo al mt ii pa li : Nat} {F : Nat → Int32} (hc_ro : M ro = some (.inr (7, [.ref w, .ref im, .ref rd, .ref rc, .ref cu]))) (hc_w : M w = some (.inr (6, [.int 0, .int 2, .int 0, .int 0, .int 0, .int 0, .int 0, .int (-1), .ref cs, .ref bs, .ref tp]))) (hc_cs : M cs = some (.inl (kA 0, 8, .inl (c100 (fun _ => 0))))) (hc_im : M im = some (.inl (kA 6, 3, .inr (.inr (.inr (.inr (fun _ => none))))))) (hc_rd : M rd = some (.inr (3, [.ref nb, .ref vb, .int 0, .int 0, .ref by_, .int 0, .int 0, .int 0, .int 0, .int 0]))) (hc_mo : M mo = some (.inr (8, [.ref al, .ref mt, .ref ii, .int 0, .int (-1), .ref pa, .int 0, .int 0, .int 0, .int 0, .int 0, .long 0, .int 0, .ref li]))) (hc_al : M al = some (.inl (kA 0, 7506, .inl F))) (hc_ii : M ii = some (.inl (kA 2, 3, .inl (fun _ => 0)))) (ht_bs : T bs = some 6) (ht_tp : T tp = some 7) (ht_mt : T mt = some 11) (hFi : ∀ j, j < 1140 → F j = mIni j) (hH : mS D kA M T A s.heap Hq_ lcq_) (hl : lv_has ls 4 [(3, .int 0), (2, .ref mo), (1, .ref ro), (0, .ref b)]) : W p l e room_1 s m #[Value.ref b] below meth c Hq_ lcq_ 156 11688 (lw_Z below #[Value.ref b] s) (F0 m 1258 ls []) := by
  obtain ⟨hx, hb, hr, hml, hown, hts, hX, hbl, hlocks, hgv⟩ := id C0
  have hC : CallFix p m c cL_law 4 s #[Value.ref b] TB RL := ⟨hx, hb, hml, hown, fun w h => hts w (TB_in h)⟩
  have hbA : ¬ A b := fun h => absurd (hAq b h) (Nat.not_le.mpr hbl)
  have n_ro_w : ro ≠ w := neM hc_ro hc_w (by simp)
  have n_ro_cs : ro ≠ cs := neM hc_ro hc_cs (by simp)
  have n_ro_im : ro ≠ im := neM hc_ro hc_im (by simp)
  have n_ro_rd : ro ≠ rd := neM hc_ro hc_rd (by simp)
  have n_ro_mo : ro ≠ mo := neM hc_ro hc_mo (by simp)
  have n_ro_al : ro ≠ al := neM hc_ro hc_al (by simp)
  have n_ro_ii : ro ≠ ii := neM hc_ro hc_ii (by simp)
  have n_w_ro : w ≠ ro := neM hc_w hc_ro (by simp)
  have n_w_cs : w ≠ cs := neM hc_w hc_cs (by simp)
  have n_w_im : w ≠ im := neM hc_w hc_im (by simp)
  have n_w_rd : w ≠ rd := neM hc_w hc_rd (by simp)
  have n_w_mo : w ≠ mo := neM hc_w hc_mo (by simp)
  have n_w_al : w ≠ al := neM hc_w hc_al (by simp)
  have n_w_ii : w ≠ ii := neM hc_w hc_ii (by simp)
  have n_cs_ro : cs ≠ ro := neM hc_cs hc_ro (by simp)
  have n_cs_w : cs ≠ w := neM hc_cs hc_w (by simp)
  have n_cs_im : cs ≠ im := neM hc_cs hc_im (by simp)
  have n_cs_rd : cs ≠ rd := neM hc_cs hc_rd (by simp)
  have n_cs_mo : cs ≠ mo := neM hc_cs hc_mo (by simp)
  have n_cs_al : cs ≠ al := neM hc_cs hc_al (by simp)
  have n_cs_ii : cs ≠ ii := neM hc_cs hc_ii (by simp)
  have n_im_ro : im ≠ ro := neM hc_im hc_ro (by simp)
  have n_im_w : im ≠ w := neM hc_im hc_w (by simp)
  have n_im_cs : im ≠ cs := neM hc_im hc_cs (by simp)
  have n_im_rd : im ≠ rd := neM hc_im hc_rd (by simp)
  have n_im_mo : im ≠ mo := neM hc_im hc_mo (by simp)
  have n_im_al : im ≠ al := neM hc_im hc_al (by simp)
  have n_im_ii : im ≠ ii := neM hc_im hc_ii (by simp)
  have n_rd_ro : rd ≠ ro := neM hc_rd hc_ro (by simp)
  have n_rd_w : rd ≠ w := neM hc_rd hc_w (by simp)
  have n_rd_cs : rd ≠ cs := neM hc_rd hc_cs (by simp)
  have n_rd_im : rd ≠ im := neM hc_rd hc_im (by simp)
  have n_rd_mo : rd ≠ mo := neM hc_rd hc_mo (by simp)
  have n_rd_al : rd ≠ al := neM hc_rd hc_al (by simp)
  have n_rd_ii : rd ≠ ii := neM hc_rd hc_ii (by simp)
  have n_mo_ro : mo ≠ ro := neM hc_mo hc_ro (by simp)
  have n_mo_w : mo ≠ w := neM hc_mo hc_w (by simp)
  have n_mo_cs : mo ≠ cs := neM hc_mo hc_cs (by simp)
  have n_mo_im : mo ≠ im := neM hc_mo hc_im (by simp)
  have n_mo_rd : mo ≠ rd := neM hc_mo hc_rd (by simp)
  have n_mo_al : mo ≠ al := neM hc_mo hc_al (by simp)
  have n_mo_ii : mo ≠ ii := neM hc_mo hc_ii (by simp)
  have n_al_ro : al ≠ ro := neM hc_al hc_ro (by simp)
  have n_al_w : al ≠ w := neM hc_al hc_w (by simp)
  have n_al_cs : al ≠ cs := neM hc_al hc_cs (by simp)
  have n_al_im : al ≠ im := neM hc_al hc_im (by simp)
  have n_al_rd : al ≠ rd := neM hc_al hc_rd (by simp)
  have n_al_mo : al ≠ mo := neM hc_al hc_mo (by simp)
  have n_al_ii : al ≠ ii := neM hc_al hc_ii (by simp)
  have n_ii_ro : ii ≠ ro := neM hc_ii hc_ro (by simp)
  have n_ii_w : ii ≠ w := neM hc_ii hc_w (by simp)
  have n_ii_cs : ii ≠ cs := neM hc_ii hc_cs (by simp)
  have n_ii_im : ii ≠ im := neM hc_ii hc_im (by simp)
  have n_ii_rd : ii ≠ rd := neM hc_ii hc_rd (by simp)
  have n_ii_mo : ii ≠ mo := neM hc_ii hc_mo (by simp)
  have n_ii_al : ii ≠ al := neM hc_ii hc_al (by simp)
  refine lv_aload_n hx hb dL_law_1258 rfl (lv_at hl 2 rfl) ?_
  refine lv_aload_n hx hb dL_law_1259 rfl (lv_at hl 3 rfl) ?_
  refine lv_iload_n hx hb dL_law_1260 rfl (lv_at hl 0 rfl) ?_
  refine lv_iconst (v := 1) hx hb dL_law_1261 (by decide) ?_
  refine lv_iadd hx hb dL_law_1262 ?_
  refine lv_cst (v := 1) (by decide) ?_
  refine va_sld hx hb hX hbl hbA hH.2.1 (iIn (by decide) (by decide)) dL_law_1263 ?_
  refine lv_topi (fun vq1_ e_vq1_ => ?_)
  refine lv_aload_n hx hb dL_law_1264 rfl (lv_at hl 3 rfl) ?_
  refine lv_iload_n hx hb dL_law_1265 rfl (lv_at hl 0 rfl) ?_
  refine lv_iconst (v := 2) hx hb dL_law_1266 (by decide) ?_
  refine lv_iadd hx hb dL_law_1267 ?_
  refine lv_cst (v := 2) (by decide) ?_
  refine va_sld hx hb hX hbl hbA hH.2.1 (iIn (by decide) (by decide)) dL_law_1268 ?_
  refine lv_topi (fun vq2_ e_vq2_ => ?_)
  refine goI hK hH (runV (As := [.int vq1_, .int vq2_]) (rest := []) hC hK hH (c_X9_until hc_ro hc_w) mlL_142 (rcvM hK hH hc_ro rfl) ⟨⟨Nat.le_of_ble_eq_true rfl, Nat.le_of_ble_eq_true rfl⟩, Nat.le_of_ble_eq_true rfl, Nat.le_of_ble_eq_true rfl⟩ rfl hl.1 rfl (Nat.le_of_ble_eq_true rfl) dL_law_1269) (fun rq5_ Mq3_ Tq4_ Hq_ lcq_ hP hz hH => ?_)
  try dsimp only at hP
  obtain ⟨(rfl), eT, eM⟩ := hP
  have eT := eT.symm; subst eT
  have eM := eM.symm; subst eM
  refine lv_aload_n hx hb dL_law_1272 rfl (lv_at hl 1 rfl) ?_
  refine lv_aload_n hx hb dL_law_1273 rfl (lv_at hl 3 rfl) ?_
  refine lv_iload_n hx hb dL_law_1274 rfl (lv_at hl 0 rfl) ?_
  refine lv_iconst (v := 1) hx hb dL_law_1275 (by decide) ?_
  refine lv_iadd hx hb dL_law_1276 ?_
  refine lv_cst (v := 1) (by decide) ?_
  refine va_sld hx hb hX hbl hbA hH.2.1 (iIn (by decide) (by decide)) dL_law_1277 ?_
  refine lv_cst (v := vq1_) e_vq1_.symm ?_
  refine lv_aload_n hx hb dL_law_1278 rfl (lv_at hl 3 rfl) ?_
  refine lv_iload_n hx hb dL_law_1279 rfl (lv_at hl 0 rfl) ?_
  refine lv_iconst (v := 2) hx hb dL_law_1280 (by decide) ?_
  refine lv_iadd hx hb dL_law_1281 ?_
  refine lv_cst (v := 2) (by decide) ?_
  refine va_sld hx hb hX hbl hbA hH.2.1 (iIn (by decide) (by decide)) dL_law_1282 ?_
  refine lv_cst (v := vq2_) e_vq2_.symm ?_
  refine goI hK hH (runV (As := [.int vq1_, .int vq2_]) (rest := [.int (-1)]) hC hK hH (c_X10_until hc_mo hc_al hFi) mlL_145 (rcvM hK hH hc_mo rfl) ⟨⟨Nat.le_of_ble_eq_true rfl, Nat.le_of_ble_eq_true rfl⟩, Nat.le_of_ble_eq_true rfl, Nat.le_of_ble_eq_true rfl⟩ rfl hl.1 rfl (Nat.le_of_ble_eq_true rfl) dL_law_1283) (fun rq8_ Mq6_ Tq7_ Hq_ lcq_ hP hz hH => ?_)
  try dsimp only at hP
  obtain ⟨(rfl), eT, eM⟩ := hP
  have eT := eT.symm; subst eT
  have eM := eM.symm; subst eM
  refine jic_eq (tgt := 1370) hx hb dL_law_1286 (by decide) (fun cq9_ => ?_) (fun cq9_ => absurd cq9_ (by decide))
  exact law_tail C0 hAq hH.2.1 (lv_sub hl [0, 3] rfl) (Nat.le_of_ble_eq_true rfl) (Nat.le_of_ble_eq_true rfl)
set_option maxHeartbeats 4000000 in
set_option maxRecDepth 100000 in
theorem law_case_31 {p : Program} {e : Env} {s : State} {m : MethodId} {below : List Frame} {meth : Method} {c : Code} {l : Launch} {b : Nat} {xs : Nat → Int32} (C0 : lw_At p s m meth c b 6 xs) {D : va_G} {kA : Nat → ClassId} (hK : mK D kA s) {M : mM} {T : mT} {A : Nat → Prop} (hAq : ∀ q, A q → s.heap.size ≤ q) {Hq_ : Heap} {lcq_ : List Loc} {ls : Array Slot} {ro w im rd rc cu cs bs tp nb by_ vb mo al mt ii pa li : Nat} {F : Nat → Int32} (hc_ro : M ro = some (.inr (7, [.ref w, .ref im, .ref rd, .ref rc, .ref cu]))) (hc_w : M w = some (.inr (6, [.int 0, .int 2, .int 0, .int 0, .int 0, .int 0, .int 0, .int (-1), .ref cs, .ref bs, .ref tp]))) (hc_cs : M cs = some (.inl (kA 0, 8, .inl (c100 (fun _ => 0))))) (hc_im : M im = some (.inl (kA 6, 3, .inr (.inr (.inr (.inr (fun _ => none))))))) (hc_rd : M rd = some (.inr (3, [.ref nb, .ref vb, .int 0, .int 0, .ref by_, .int 0, .int 0, .int 0, .int 0, .int 0]))) (hc_mo : M mo = some (.inr (8, [.ref al, .ref mt, .ref ii, .int 0, .int (-1), .ref pa, .int 0, .int 0, .int 0, .int 0, .int 0, .long 0, .int 0, .ref li]))) (hc_al : M al = some (.inl (kA 0, 7506, .inl F))) (hc_ii : M ii = some (.inl (kA 2, 3, .inl (fun _ => 0)))) (ht_bs : T bs = some 6) (ht_tp : T tp = some 7) (ht_mt : T mt = some 11) (hFi : ∀ j, j < 1140 → F j = mIni j) (hH : mS D kA M T A s.heap Hq_ lcq_) (hl : lv_has ls 4 [(3, .int 0), (2, .ref mo), (1, .ref ro), (0, .ref b)]) : W p l e room_1 s m #[Value.ref b] below meth c Hq_ lcq_ 156 11688 (lw_Z below #[Value.ref b] s) (F0 m 1291 ls []) := by
  obtain ⟨hx, hb, hr, hml, hown, hts, hX, hbl, hlocks, hgv⟩ := id C0
  have hC : CallFix p m c cL_law 4 s #[Value.ref b] TB RL := ⟨hx, hb, hml, hown, fun w h => hts w (TB_in h)⟩
  have hbA : ¬ A b := fun h => absurd (hAq b h) (Nat.not_le.mpr hbl)
  have n_ro_w : ro ≠ w := neM hc_ro hc_w (by simp)
  have n_ro_cs : ro ≠ cs := neM hc_ro hc_cs (by simp)
  have n_ro_im : ro ≠ im := neM hc_ro hc_im (by simp)
  have n_ro_rd : ro ≠ rd := neM hc_ro hc_rd (by simp)
  have n_ro_mo : ro ≠ mo := neM hc_ro hc_mo (by simp)
  have n_ro_al : ro ≠ al := neM hc_ro hc_al (by simp)
  have n_ro_ii : ro ≠ ii := neM hc_ro hc_ii (by simp)
  have n_w_ro : w ≠ ro := neM hc_w hc_ro (by simp)
  have n_w_cs : w ≠ cs := neM hc_w hc_cs (by simp)
  have n_w_im : w ≠ im := neM hc_w hc_im (by simp)
  have n_w_rd : w ≠ rd := neM hc_w hc_rd (by simp)
  have n_w_mo : w ≠ mo := neM hc_w hc_mo (by simp)
  have n_w_al : w ≠ al := neM hc_w hc_al (by simp)
  have n_w_ii : w ≠ ii := neM hc_w hc_ii (by simp)
  have n_cs_ro : cs ≠ ro := neM hc_cs hc_ro (by simp)
  have n_cs_w : cs ≠ w := neM hc_cs hc_w (by simp)
  have n_cs_im : cs ≠ im := neM hc_cs hc_im (by simp)
  have n_cs_rd : cs ≠ rd := neM hc_cs hc_rd (by simp)
  have n_cs_mo : cs ≠ mo := neM hc_cs hc_mo (by simp)
  have n_cs_al : cs ≠ al := neM hc_cs hc_al (by simp)
  have n_cs_ii : cs ≠ ii := neM hc_cs hc_ii (by simp)
  have n_im_ro : im ≠ ro := neM hc_im hc_ro (by simp)
  have n_im_w : im ≠ w := neM hc_im hc_w (by simp)
  have n_im_cs : im ≠ cs := neM hc_im hc_cs (by simp)
  have n_im_rd : im ≠ rd := neM hc_im hc_rd (by simp)
  have n_im_mo : im ≠ mo := neM hc_im hc_mo (by simp)
  have n_im_al : im ≠ al := neM hc_im hc_al (by simp)
  have n_im_ii : im ≠ ii := neM hc_im hc_ii (by simp)
  have n_rd_ro : rd ≠ ro := neM hc_rd hc_ro (by simp)
  have n_rd_w : rd ≠ w := neM hc_rd hc_w (by simp)
  have n_rd_cs : rd ≠ cs := neM hc_rd hc_cs (by simp)
  have n_rd_im : rd ≠ im := neM hc_rd hc_im (by simp)
  have n_rd_mo : rd ≠ mo := neM hc_rd hc_mo (by simp)
  have n_rd_al : rd ≠ al := neM hc_rd hc_al (by simp)
  have n_rd_ii : rd ≠ ii := neM hc_rd hc_ii (by simp)
  have n_mo_ro : mo ≠ ro := neM hc_mo hc_ro (by simp)
  have n_mo_w : mo ≠ w := neM hc_mo hc_w (by simp)
  have n_mo_cs : mo ≠ cs := neM hc_mo hc_cs (by simp)
  have n_mo_im : mo ≠ im := neM hc_mo hc_im (by simp)
  have n_mo_rd : mo ≠ rd := neM hc_mo hc_rd (by simp)
  have n_mo_al : mo ≠ al := neM hc_mo hc_al (by simp)
  have n_mo_ii : mo ≠ ii := neM hc_mo hc_ii (by simp)
  have n_al_ro : al ≠ ro := neM hc_al hc_ro (by simp)
  have n_al_w : al ≠ w := neM hc_al hc_w (by simp)
  have n_al_cs : al ≠ cs := neM hc_al hc_cs (by simp)
  have n_al_im : al ≠ im := neM hc_al hc_im (by simp)
  have n_al_rd : al ≠ rd := neM hc_al hc_rd (by simp)
  have n_al_mo : al ≠ mo := neM hc_al hc_mo (by simp)
  have n_al_ii : al ≠ ii := neM hc_al hc_ii (by simp)
  have n_ii_ro : ii ≠ ro := neM hc_ii hc_ro (by simp)
  have n_ii_w : ii ≠ w := neM hc_ii hc_w (by simp)
  have n_ii_cs : ii ≠ cs := neM hc_ii hc_cs (by simp)
  have n_ii_im : ii ≠ im := neM hc_ii hc_im (by simp)
  have n_ii_rd : ii ≠ rd := neM hc_ii hc_rd (by simp)
  have n_ii_mo : ii ≠ mo := neM hc_ii hc_mo (by simp)
  have n_ii_al : ii ≠ al := neM hc_ii hc_al (by simp)
  refine lv_aload_n hx hb dL_law_1291 rfl (lv_at hl 2 rfl) ?_
  refine lv_aload_n hx hb dL_law_1292 rfl (lv_at hl 3 rfl) ?_
  refine lv_iload_n hx hb dL_law_1293 rfl (lv_at hl 0 rfl) ?_
  refine lv_iconst (v := 1) hx hb dL_law_1294 (by decide) ?_
  refine lv_iadd hx hb dL_law_1295 ?_
  refine lv_cst (v := 1) (by decide) ?_
  refine va_sld hx hb hX hbl hbA hH.2.1 (iIn (by decide) (by decide)) dL_law_1296 ?_
  refine lv_topi (fun vq1_ e_vq1_ => ?_)
  refine lv_aload_n hx hb dL_law_1297 rfl (lv_at hl 3 rfl) ?_
  refine lv_iload_n hx hb dL_law_1298 rfl (lv_at hl 0 rfl) ?_
  refine lv_iconst (v := 2) hx hb dL_law_1299 (by decide) ?_
  refine lv_iadd hx hb dL_law_1300 ?_
  refine lv_cst (v := 2) (by decide) ?_
  refine va_sld hx hb hX hbl hbA hH.2.1 (iIn (by decide) (by decide)) dL_law_1301 ?_
  refine lv_topi (fun vq2_ e_vq2_ => ?_)
  refine goI hK hH (runV (As := [.int vq1_, .int vq2_]) (rest := []) hC hK hH (c_X9_sorts hc_ro hc_w) mlL_146 (rcvM hK hH hc_ro rfl) ⟨⟨Nat.le_of_ble_eq_true rfl, Nat.le_of_ble_eq_true rfl⟩, Nat.le_of_ble_eq_true rfl, Nat.le_of_ble_eq_true rfl⟩ rfl hl.1 rfl (Nat.le_of_ble_eq_true rfl) dL_law_1302) (fun rq5_ Mq3_ Tq4_ Hq_ lcq_ hP hz hH => ?_)
  try dsimp only at hP
  obtain ⟨(rfl), eT, eM⟩ := hP
  have eT := eT.symm; subst eT
  have eM := eM.symm; subst eM
  refine lv_aload_n hx hb dL_law_1305 rfl (lv_at hl 1 rfl) ?_
  refine lv_aload_n hx hb dL_law_1306 rfl (lv_at hl 3 rfl) ?_
  refine lv_iload_n hx hb dL_law_1307 rfl (lv_at hl 0 rfl) ?_
  refine lv_iconst (v := 1) hx hb dL_law_1308 (by decide) ?_
  refine lv_iadd hx hb dL_law_1309 ?_
  refine lv_cst (v := 1) (by decide) ?_
  refine va_sld hx hb hX hbl hbA hH.2.1 (iIn (by decide) (by decide)) dL_law_1310 ?_
  refine lv_cst (v := vq1_) e_vq1_.symm ?_
  refine lv_aload_n hx hb dL_law_1311 rfl (lv_at hl 3 rfl) ?_
  refine lv_iload_n hx hb dL_law_1312 rfl (lv_at hl 0 rfl) ?_
  refine lv_iconst (v := 2) hx hb dL_law_1313 (by decide) ?_
  refine lv_iadd hx hb dL_law_1314 ?_
  refine lv_cst (v := 2) (by decide) ?_
  refine va_sld hx hb hX hbl hbA hH.2.1 (iIn (by decide) (by decide)) dL_law_1315 ?_
  refine lv_cst (v := vq2_) e_vq2_.symm ?_
  refine goI hK hH (runV (As := [.int vq1_, .int vq2_]) (rest := [.int (-2)]) hC hK hH (c_X10_sorts hc_mo hc_al hFi) mlL_149 (rcvM hK hH hc_mo rfl) ⟨⟨Nat.le_of_ble_eq_true rfl, Nat.le_of_ble_eq_true rfl⟩, Nat.le_of_ble_eq_true rfl, Nat.le_of_ble_eq_true rfl⟩ rfl hl.1 rfl (Nat.le_of_ble_eq_true rfl) dL_law_1316) (fun rq8_ Mq6_ Tq7_ Hq_ lcq_ hP hz hH => ?_)
  try dsimp only at hP
  obtain ⟨(rfl), eT, eM⟩ := hP
  have eT := eT.symm; subst eT
  have eM := eM.symm; subst eM
  refine jic_eq (tgt := 1370) hx hb dL_law_1319 (by decide) (fun cq9_ => ?_) (fun cq9_ => absurd cq9_ (by decide))
  exact law_tail C0 hAq hH.2.1 (lv_sub hl [0, 3] rfl) (Nat.le_of_ble_eq_true rfl) (Nat.le_of_ble_eq_true rfl)
set_option maxHeartbeats 4000000 in
set_option maxRecDepth 100000 in
theorem law_case_32 {p : Program} {e : Env} {s : State} {m : MethodId} {below : List Frame} {meth : Method} {c : Code} {l : Launch} {b : Nat} {xs : Nat → Int32} (C0 : lw_At p s m meth c b 6 xs) {D : va_G} {kA : Nat → ClassId} (hK : mK D kA s) {M : mM} {T : mT} {A : Nat → Prop} (hAq : ∀ q, A q → s.heap.size ≤ q) {Hq_ : Heap} {lcq_ : List Loc} {ls : Array Slot} {ro w im rd rc cu cs bs tp nb by_ vb mo al mt ii pa li : Nat} {F : Nat → Int32} (hc_ro : M ro = some (.inr (7, [.ref w, .ref im, .ref rd, .ref rc, .ref cu]))) (hc_w : M w = some (.inr (6, [.int 0, .int 2, .int 0, .int 0, .int 0, .int 0, .int 0, .int (-1), .ref cs, .ref bs, .ref tp]))) (hc_cs : M cs = some (.inl (kA 0, 8, .inl (c100 (fun _ => 0))))) (hc_im : M im = some (.inl (kA 6, 3, .inr (.inr (.inr (.inr (fun _ => none))))))) (hc_rd : M rd = some (.inr (3, [.ref nb, .ref vb, .int 0, .int 0, .ref by_, .int 0, .int 0, .int 0, .int 0, .int 0]))) (hc_mo : M mo = some (.inr (8, [.ref al, .ref mt, .ref ii, .int 0, .int (-1), .ref pa, .int 0, .int 0, .int 0, .int 0, .int 0, .long 0, .int 0, .ref li]))) (hc_al : M al = some (.inl (kA 0, 7506, .inl F))) (hc_ii : M ii = some (.inl (kA 2, 3, .inl (fun _ => 0)))) (ht_bs : T bs = some 6) (ht_tp : T tp = some 7) (ht_mt : T mt = some 11) (hFi : ∀ j, j < 1140 → F j = mIni j) (hH : mS D kA M T A s.heap Hq_ lcq_) (hl : lv_has ls 4 [(3, .int 0), (2, .ref mo), (1, .ref ro), (0, .ref b)]) : W p l e room_1 s m #[Value.ref b] below meth c Hq_ lcq_ 156 11688 (lw_Z below #[Value.ref b] s) (F0 m 1324 ls []) := by
  obtain ⟨hx, hb, hr, hml, hown, hts, hX, hbl, hlocks, hgv⟩ := id C0
  have hC : CallFix p m c cL_law 4 s #[Value.ref b] TB RL := ⟨hx, hb, hml, hown, fun w h => hts w (TB_in h)⟩
  have hbA : ¬ A b := fun h => absurd (hAq b h) (Nat.not_le.mpr hbl)
  have n_ro_w : ro ≠ w := neM hc_ro hc_w (by simp)
  have n_ro_cs : ro ≠ cs := neM hc_ro hc_cs (by simp)
  have n_ro_im : ro ≠ im := neM hc_ro hc_im (by simp)
  have n_ro_rd : ro ≠ rd := neM hc_ro hc_rd (by simp)
  have n_ro_mo : ro ≠ mo := neM hc_ro hc_mo (by simp)
  have n_ro_al : ro ≠ al := neM hc_ro hc_al (by simp)
  have n_ro_ii : ro ≠ ii := neM hc_ro hc_ii (by simp)
  have n_w_ro : w ≠ ro := neM hc_w hc_ro (by simp)
  have n_w_cs : w ≠ cs := neM hc_w hc_cs (by simp)
  have n_w_im : w ≠ im := neM hc_w hc_im (by simp)
  have n_w_rd : w ≠ rd := neM hc_w hc_rd (by simp)
  have n_w_mo : w ≠ mo := neM hc_w hc_mo (by simp)
  have n_w_al : w ≠ al := neM hc_w hc_al (by simp)
  have n_w_ii : w ≠ ii := neM hc_w hc_ii (by simp)
  have n_cs_ro : cs ≠ ro := neM hc_cs hc_ro (by simp)
  have n_cs_w : cs ≠ w := neM hc_cs hc_w (by simp)
  have n_cs_im : cs ≠ im := neM hc_cs hc_im (by simp)
  have n_cs_rd : cs ≠ rd := neM hc_cs hc_rd (by simp)
  have n_cs_mo : cs ≠ mo := neM hc_cs hc_mo (by simp)
  have n_cs_al : cs ≠ al := neM hc_cs hc_al (by simp)
  have n_cs_ii : cs ≠ ii := neM hc_cs hc_ii (by simp)
  have n_im_ro : im ≠ ro := neM hc_im hc_ro (by simp)
  have n_im_w : im ≠ w := neM hc_im hc_w (by simp)
  have n_im_cs : im ≠ cs := neM hc_im hc_cs (by simp)
  have n_im_rd : im ≠ rd := neM hc_im hc_rd (by simp)
  have n_im_mo : im ≠ mo := neM hc_im hc_mo (by simp)
  have n_im_al : im ≠ al := neM hc_im hc_al (by simp)
  have n_im_ii : im ≠ ii := neM hc_im hc_ii (by simp)
  have n_rd_ro : rd ≠ ro := neM hc_rd hc_ro (by simp)
  have n_rd_w : rd ≠ w := neM hc_rd hc_w (by simp)
  have n_rd_cs : rd ≠ cs := neM hc_rd hc_cs (by simp)
  have n_rd_im : rd ≠ im := neM hc_rd hc_im (by simp)
  have n_rd_mo : rd ≠ mo := neM hc_rd hc_mo (by simp)
  have n_rd_al : rd ≠ al := neM hc_rd hc_al (by simp)
  have n_rd_ii : rd ≠ ii := neM hc_rd hc_ii (by simp)
  have n_mo_ro : mo ≠ ro := neM hc_mo hc_ro (by simp)
  have n_mo_w : mo ≠ w := neM hc_mo hc_w (by simp)
  have n_mo_cs : mo ≠ cs := neM hc_mo hc_cs (by simp)
  have n_mo_im : mo ≠ im := neM hc_mo hc_im (by simp)
  have n_mo_rd : mo ≠ rd := neM hc_mo hc_rd (by simp)
  have n_mo_al : mo ≠ al := neM hc_mo hc_al (by simp)
  have n_mo_ii : mo ≠ ii := neM hc_mo hc_ii (by simp)
  have n_al_ro : al ≠ ro := neM hc_al hc_ro (by simp)
  have n_al_w : al ≠ w := neM hc_al hc_w (by simp)
  have n_al_cs : al ≠ cs := neM hc_al hc_cs (by simp)
  have n_al_im : al ≠ im := neM hc_al hc_im (by simp)
  have n_al_rd : al ≠ rd := neM hc_al hc_rd (by simp)
  have n_al_mo : al ≠ mo := neM hc_al hc_mo (by simp)
  have n_al_ii : al ≠ ii := neM hc_al hc_ii (by simp)
  have n_ii_ro : ii ≠ ro := neM hc_ii hc_ro (by simp)
  have n_ii_w : ii ≠ w := neM hc_ii hc_w (by simp)
  have n_ii_cs : ii ≠ cs := neM hc_ii hc_cs (by simp)
  have n_ii_im : ii ≠ im := neM hc_ii hc_im (by simp)
  have n_ii_rd : ii ≠ rd := neM hc_ii hc_rd (by simp)
  have n_ii_mo : ii ≠ mo := neM hc_ii hc_mo (by simp)
  have n_ii_al : ii ≠ al := neM hc_ii hc_al (by simp)
  refine lv_aload_n hx hb dL_law_1324 rfl (lv_at hl 2 rfl) ?_
  refine lv_aload_n hx hb dL_law_1325 rfl (lv_at hl 3 rfl) ?_
  refine lv_iload_n hx hb dL_law_1326 rfl (lv_at hl 0 rfl) ?_
  refine lv_iconst (v := 1) hx hb dL_law_1327 (by decide) ?_
  refine lv_iadd hx hb dL_law_1328 ?_
  refine lv_cst (v := 1) (by decide) ?_
  refine va_sld hx hb hX hbl hbA hH.2.1 (iIn (by decide) (by decide)) dL_law_1329 ?_
  refine lv_topi (fun vq1_ e_vq1_ => ?_)
  have lt_mo : mo < Array.size Hq_ := hH.1.ltM (by rw [hc_mo]; simp)
  have lt_al : al < Array.size Hq_ := hH.1.ltM (by rw [hc_al]; simp)
  have lt_ii : ii < Array.size Hq_ := hH.1.ltM (by rw [hc_ii]; simp)
  refine goI hK hH (runV (As := [.int vq1_]) (rest := []) hC hK hH (c_X9_image hc_ro hc_w hc_cs hc_im ht_tp) mlL_150 (rcvM hK hH hc_ro rfl) ⟨⟨Nat.le_of_ble_eq_true rfl, Nat.le_of_ble_eq_true rfl⟩, Nat.le_of_ble_eq_true rfl, Nat.le_of_ble_eq_true rfl⟩ rfl hl.1 rfl (Nat.le_of_ble_eq_true rfl) dL_law_1330) (fun rq4_ Mq2_ Tq3_ Hq_ lcq_ hP hz hH => ?_)
  try dsimp only at hP
  obtain ⟨(⟨cq5_, rfl⟩ | ⟨cq5_, rfl⟩), hsub, hfr⟩ := hP
  · skip
    have hc_mo : Mq2_ mo = some (.inr (8, [.ref al, .ref mt, .ref ii, .int 0, .int (-1), .ref pa, .int 0, .int 0, .int 0, .int 0, .int 0, .long 0, .int 0, .ref li])) := (hfr mo n_mo_im lt_mo).trans hc_mo
    have hc_al : Mq2_ al = some (.inl (kA 0, 7506, .inl F)) := (hfr al n_al_im lt_al).trans hc_al
    have hc_ii : Mq2_ ii = some (.inl (kA 2, 3, .inl (fun _ => 0))) := (hfr ii n_ii_im lt_ii).trans hc_ii
    have ht_mt : Tq3_ mt = some 11 := hsub _ _ ht_mt
    have cq5_ : 0 ≤ vq1_.toInt ∧ vq1_.toInt ≤ 2 := cq5_
    refine lv_aload_n hx hb dL_law_1333 rfl (lv_at hl 1 rfl) ?_
    refine lv_aload_n hx hb dL_law_1334 rfl (lv_at hl 3 rfl) ?_
    refine lv_iload_n hx hb dL_law_1335 rfl (lv_at hl 0 rfl) ?_
    refine lv_iconst (v := 1) hx hb dL_law_1336 (by decide) ?_
    refine lv_iadd hx hb dL_law_1337 ?_
    refine lv_cst (v := 1) (by decide) ?_
    refine va_sld hx hb hX hbl hbA hH.2.1 (iIn (by decide) (by decide)) dL_law_1338 ?_
    refine lv_cst (v := vq1_) e_vq1_.symm ?_
    refine goI hK hH (runV (As := [.int vq1_]) (rest := [.int 1]) hC hK hH (c_X10_image hc_mo hc_al hc_ii ht_mt) mlL_154 (rcvM hK hH hc_mo rfl) ⟨⟨Nat.le_of_ble_eq_true rfl, Nat.le_of_ble_eq_true rfl⟩, Nat.le_of_ble_eq_true rfl, Nat.le_of_ble_eq_true rfl⟩ rfl hl.1 rfl (Nat.le_of_ble_eq_true rfl) dL_law_1339) (fun rq8_ Mq6_ Tq7_ Hq_ lcq_ hP hz hH => ?_)
    try dsimp only at hP
    obtain ⟨(⟨cq9_, rfl⟩ | ⟨cq10_, rfl⟩), eT, hfr⟩ := hP
    · skip
      have eT := eT.symm; subst eT
      have hc_mo : Mq6_ mo = some (.inr (8, [.ref al, .ref mt, .ref ii, .int 0, .int (-1), .ref pa, .int 0, .int 0, .int 0, .int 0, .int 0, .long 0, .int 0, .ref li])) := (hfr mo n_mo_al n_mo_ii).trans hc_mo
      have cq9_ : 0 ≤ vq1_.toInt ∧ vq1_.toInt ≤ 2 := cq9_
      refine jic_eq (tgt := 1370) hx hb dL_law_1342 (by decide) (fun cq11_ => ?_) (fun cq11_ => absurd cq11_ (by decide))
      exact law_tail C0 hAq hH.2.1 (lv_sub hl [0, 3] rfl) (Nat.le_of_ble_eq_true rfl) (Nat.le_of_ble_eq_true rfl)
    · skip
      have eT := eT.symm; subst eT
      have hc_mo : Mq6_ mo = some (.inr (8, [.ref al, .ref mt, .ref ii, .int 0, .int (-1), .ref pa, .int 0, .int 0, .int 0, .int 0, .int 0, .long 0, .int 0, .ref li])) := (hfr mo n_mo_al n_mo_ii).trans hc_mo
      have cq10_ : ¬ (0 ≤ vq1_.toInt ∧ vq1_.toInt ≤ 2) := cq10_
      exfalso; omega
  · skip
    have hc_mo : Mq2_ mo = some (.inr (8, [.ref al, .ref mt, .ref ii, .int 0, .int (-1), .ref pa, .int 0, .int 0, .int 0, .int 0, .int 0, .long 0, .int 0, .ref li])) := (hfr mo n_mo_im lt_mo).trans hc_mo
    have hc_al : Mq2_ al = some (.inl (kA 0, 7506, .inl F)) := (hfr al n_al_im lt_al).trans hc_al
    have hc_ii : Mq2_ ii = some (.inl (kA 2, 3, .inl (fun _ => 0))) := (hfr ii n_ii_im lt_ii).trans hc_ii
    have ht_mt : Tq3_ mt = some 11 := hsub _ _ ht_mt
    have cq5_ : ¬ (0 ≤ vq1_.toInt ∧ vq1_.toInt ≤ 2) := cq5_
    refine lv_aload_n hx hb dL_law_1333 rfl (lv_at hl 1 rfl) ?_
    refine lv_aload_n hx hb dL_law_1334 rfl (lv_at hl 3 rfl) ?_
    refine lv_iload_n hx hb dL_law_1335 rfl (lv_at hl 0 rfl) ?_
    refine lv_iconst (v := 1) hx hb dL_law_1336 (by decide) ?_
    refine lv_iadd hx hb dL_law_1337 ?_
    refine lv_cst (v := 1) (by decide) ?_
    refine va_sld hx hb hX hbl hbA hH.2.1 (iIn (by decide) (by decide)) dL_law_1338 ?_
    refine lv_cst (v := vq1_) e_vq1_.symm ?_
    refine goI hK hH (runV (As := [.int vq1_]) (rest := [.int 0]) hC hK hH (c_X10_image hc_mo hc_al hc_ii ht_mt) mlL_154 (rcvM hK hH hc_mo rfl) ⟨⟨Nat.le_of_ble_eq_true rfl, Nat.le_of_ble_eq_true rfl⟩, Nat.le_of_ble_eq_true rfl, Nat.le_of_ble_eq_true rfl⟩ rfl hl.1 rfl (Nat.le_of_ble_eq_true rfl) dL_law_1339) (fun rq14_ Mq12_ Tq13_ Hq_ lcq_ hP hz hH => ?_)
    try dsimp only at hP
    obtain ⟨(⟨cq15_, rfl⟩ | ⟨cq16_, rfl⟩), eT, hfr⟩ := hP
    · skip
      have eT := eT.symm; subst eT
      have hc_mo : Mq12_ mo = some (.inr (8, [.ref al, .ref mt, .ref ii, .int 0, .int (-1), .ref pa, .int 0, .int 0, .int 0, .int 0, .int 0, .long 0, .int 0, .ref li])) := (hfr mo n_mo_al n_mo_ii).trans hc_mo
      have cq15_ : 0 ≤ vq1_.toInt ∧ vq1_.toInt ≤ 2 := cq15_
      exfalso; omega
    · skip
      have eT := eT.symm; subst eT
      have hc_mo : Mq12_ mo = some (.inr (8, [.ref al, .ref mt, .ref ii, .int 0, .int (-1), .ref pa, .int 0, .int 0, .int 0, .int 0, .int 0, .long 0, .int 0, .ref li])) := (hfr mo n_mo_al n_mo_ii).trans hc_mo
      have cq16_ : ¬ (0 ≤ vq1_.toInt ∧ vq1_.toInt ≤ 2) := cq16_
      refine jic_eq (tgt := 1370) hx hb dL_law_1342 (by decide) (fun cq17_ => ?_) (fun cq17_ => absurd cq17_ (by decide))
      exact law_tail C0 hAq hH.2.1 (lv_sub hl [0, 3] rfl) (Nat.le_of_ble_eq_true rfl) (Nat.le_of_ble_eq_true rfl)
set_option maxHeartbeats 4000000 in
set_option maxRecDepth 100000 in
theorem law_case_33 {p : Program} {e : Env} {s : State} {m : MethodId} {below : List Frame} {meth : Method} {c : Code} {l : Launch} {b : Nat} {xs : Nat → Int32} (C0 : lw_At p s m meth c b 6 xs) {D : va_G} {kA : Nat → ClassId} (hK : mK D kA s) {M : mM} {T : mT} {A : Nat → Prop} (hAq : ∀ q, A q → s.heap.size ≤ q) {Hq_ : Heap} {lcq_ : List Loc} {ls : Array Slot} {ro w im rd rc cu cs bs tp nb by_ vb mo al mt ii pa li : Nat} {F : Nat → Int32} (hc_ro : M ro = some (.inr (7, [.ref w, .ref im, .ref rd, .ref rc, .ref cu]))) (hc_w : M w = some (.inr (6, [.int 0, .int 2, .int 0, .int 0, .int 0, .int 0, .int 0, .int (-1), .ref cs, .ref bs, .ref tp]))) (hc_cs : M cs = some (.inl (kA 0, 8, .inl (c100 (fun _ => 0))))) (hc_im : M im = some (.inl (kA 6, 3, .inr (.inr (.inr (.inr (fun _ => none))))))) (hc_rd : M rd = some (.inr (3, [.ref nb, .ref vb, .int 0, .int 0, .ref by_, .int 0, .int 0, .int 0, .int 0, .int 0]))) (hc_mo : M mo = some (.inr (8, [.ref al, .ref mt, .ref ii, .int 0, .int (-1), .ref pa, .int 0, .int 0, .int 0, .int 0, .int 0, .long 0, .int 0, .ref li]))) (hc_al : M al = some (.inl (kA 0, 7506, .inl F))) (hc_ii : M ii = some (.inl (kA 2, 3, .inl (fun _ => 0)))) (ht_bs : T bs = some 6) (ht_tp : T tp = some 7) (ht_mt : T mt = some 11) (hFi : ∀ j, j < 1140 → F j = mIni j) (hH : mS D kA M T A s.heap Hq_ lcq_) (hl : lv_has ls 4 [(3, .int 0), (2, .ref mo), (1, .ref ro), (0, .ref b)]) : W p l e room_1 s m #[Value.ref b] below meth c Hq_ lcq_ 156 11688 (lw_Z below #[Value.ref b] s) (F0 m 1347 ls []) := by
  obtain ⟨hx, hb, hr, hml, hown, hts, hX, hbl, hlocks, hgv⟩ := id C0
  have hC : CallFix p m c cL_law 4 s #[Value.ref b] TB RL := ⟨hx, hb, hml, hown, fun w h => hts w (TB_in h)⟩
  have hbA : ¬ A b := fun h => absurd (hAq b h) (Nat.not_le.mpr hbl)
  have n_ro_w : ro ≠ w := neM hc_ro hc_w (by simp)
  have n_ro_cs : ro ≠ cs := neM hc_ro hc_cs (by simp)
  have n_ro_im : ro ≠ im := neM hc_ro hc_im (by simp)
  have n_ro_rd : ro ≠ rd := neM hc_ro hc_rd (by simp)
  have n_ro_mo : ro ≠ mo := neM hc_ro hc_mo (by simp)
  have n_ro_al : ro ≠ al := neM hc_ro hc_al (by simp)
  have n_ro_ii : ro ≠ ii := neM hc_ro hc_ii (by simp)
  have n_w_ro : w ≠ ro := neM hc_w hc_ro (by simp)
  have n_w_cs : w ≠ cs := neM hc_w hc_cs (by simp)
  have n_w_im : w ≠ im := neM hc_w hc_im (by simp)
  have n_w_rd : w ≠ rd := neM hc_w hc_rd (by simp)
  have n_w_mo : w ≠ mo := neM hc_w hc_mo (by simp)
  have n_w_al : w ≠ al := neM hc_w hc_al (by simp)
  have n_w_ii : w ≠ ii := neM hc_w hc_ii (by simp)
  have n_cs_ro : cs ≠ ro := neM hc_cs hc_ro (by simp)
  have n_cs_w : cs ≠ w := neM hc_cs hc_w (by simp)
  have n_cs_im : cs ≠ im := neM hc_cs hc_im (by simp)
  have n_cs_rd : cs ≠ rd := neM hc_cs hc_rd (by simp)
  have n_cs_mo : cs ≠ mo := neM hc_cs hc_mo (by simp)
  have n_cs_al : cs ≠ al := neM hc_cs hc_al (by simp)
  have n_cs_ii : cs ≠ ii := neM hc_cs hc_ii (by simp)
  have n_im_ro : im ≠ ro := neM hc_im hc_ro (by simp)
  have n_im_w : im ≠ w := neM hc_im hc_w (by simp)
  have n_im_cs : im ≠ cs := neM hc_im hc_cs (by simp)
  have n_im_rd : im ≠ rd := neM hc_im hc_rd (by simp)
  have n_im_mo : im ≠ mo := neM hc_im hc_mo (by simp)
  have n_im_al : im ≠ al := neM hc_im hc_al (by simp)
  have n_im_ii : im ≠ ii := neM hc_im hc_ii (by simp)
  have n_rd_ro : rd ≠ ro := neM hc_rd hc_ro (by simp)
  have n_rd_w : rd ≠ w := neM hc_rd hc_w (by simp)
  have n_rd_cs : rd ≠ cs := neM hc_rd hc_cs (by simp)
  have n_rd_im : rd ≠ im := neM hc_rd hc_im (by simp)
  have n_rd_mo : rd ≠ mo := neM hc_rd hc_mo (by simp)
  have n_rd_al : rd ≠ al := neM hc_rd hc_al (by simp)
  have n_rd_ii : rd ≠ ii := neM hc_rd hc_ii (by simp)
  have n_mo_ro : mo ≠ ro := neM hc_mo hc_ro (by simp)
  have n_mo_w : mo ≠ w := neM hc_mo hc_w (by simp)
  have n_mo_cs : mo ≠ cs := neM hc_mo hc_cs (by simp)
  have n_mo_im : mo ≠ im := neM hc_mo hc_im (by simp)
  have n_mo_rd : mo ≠ rd := neM hc_mo hc_rd (by simp)
  have n_mo_al : mo ≠ al := neM hc_mo hc_al (by simp)
  have n_mo_ii : mo ≠ ii := neM hc_mo hc_ii (by simp)
  have n_al_ro : al ≠ ro := neM hc_al hc_ro (by simp)
  have n_al_w : al ≠ w := neM hc_al hc_w (by simp)
  have n_al_cs : al ≠ cs := neM hc_al hc_cs (by simp)
  have n_al_im : al ≠ im := neM hc_al hc_im (by simp)
  have n_al_rd : al ≠ rd := neM hc_al hc_rd (by simp)
  have n_al_mo : al ≠ mo := neM hc_al hc_mo (by simp)
  have n_al_ii : al ≠ ii := neM hc_al hc_ii (by simp)
  have n_ii_ro : ii ≠ ro := neM hc_ii hc_ro (by simp)
  have n_ii_w : ii ≠ w := neM hc_ii hc_w (by simp)
  have n_ii_cs : ii ≠ cs := neM hc_ii hc_cs (by simp)
  have n_ii_im : ii ≠ im := neM hc_ii hc_im (by simp)
  have n_ii_rd : ii ≠ rd := neM hc_ii hc_rd (by simp)
  have n_ii_mo : ii ≠ mo := neM hc_ii hc_mo (by simp)
  have n_ii_al : ii ≠ al := neM hc_ii hc_al (by simp)
  refine lv_aload_n hx hb dL_law_1347 rfl (lv_at hl 2 rfl) ?_
  refine lv_aload_n hx hb dL_law_1348 rfl (lv_at hl 3 rfl) ?_
  refine lv_iload_n hx hb dL_law_1349 rfl (lv_at hl 0 rfl) ?_
  refine lv_iconst (v := 1) hx hb dL_law_1350 (by decide) ?_
  refine lv_iadd hx hb dL_law_1351 ?_
  refine lv_cst (v := 1) (by decide) ?_
  refine va_sld hx hb hX hbl hbA hH.2.1 (iIn (by decide) (by decide)) dL_law_1352 ?_
  refine lv_topi (fun vq1_ e_vq1_ => ?_)
  refine goI hK hH (runV (As := [.int vq1_]) (rest := []) hC hK hH (c_X9_again hc_ro hc_w hc_im) mlL_155 (rcvM hK hH hc_ro rfl) ⟨⟨Nat.le_of_ble_eq_true rfl, Nat.le_of_ble_eq_true rfl⟩, Nat.le_of_ble_eq_true rfl, Nat.le_of_ble_eq_true rfl⟩ rfl hl.1 rfl (Nat.le_of_ble_eq_true rfl) dL_law_1353) (fun rq4_ Mq2_ Tq3_ Hq_ lcq_ hP hz hH => ?_)
  try dsimp only at hP
  obtain ⟨(rfl), eT, eM⟩ := hP
  have eT := eT.symm; subst eT
  have eM := eM.symm; subst eM
  refine lv_aload_n hx hb dL_law_1356 rfl (lv_at hl 1 rfl) ?_
  refine lv_aload_n hx hb dL_law_1357 rfl (lv_at hl 3 rfl) ?_
  refine lv_iload_n hx hb dL_law_1358 rfl (lv_at hl 0 rfl) ?_
  refine lv_iconst (v := 1) hx hb dL_law_1359 (by decide) ?_
  refine lv_iadd hx hb dL_law_1360 ?_
  refine lv_cst (v := 1) (by decide) ?_
  refine va_sld hx hb hX hbl hbA hH.2.1 (iIn (by decide) (by decide)) dL_law_1361 ?_
  refine lv_cst (v := vq1_) e_vq1_.symm ?_
  refine goI hK hH (runV (As := [.int vq1_]) (rest := [.int 0]) hC hK hH (c_X10_again hc_mo hc_al hc_ii hFi) mlL_158 (rcvM hK hH hc_mo rfl) ⟨⟨Nat.le_of_ble_eq_true rfl, Nat.le_of_ble_eq_true rfl⟩, Nat.le_of_ble_eq_true rfl, Nat.le_of_ble_eq_true rfl⟩ rfl hl.1 rfl (Nat.le_of_ble_eq_true rfl) dL_law_1362) (fun rq7_ Mq5_ Tq6_ Hq_ lcq_ hP hz hH => ?_)
  try dsimp only at hP
  obtain ⟨(rfl), eT, eM⟩ := hP
  have eT := eT.symm; subst eT
  have eM := eM.symm; subst eM
  refine jic_eq (tgt := 1370) hx hb dL_law_1365 (by decide) (fun cq8_ => ?_) (fun cq8_ => absurd cq8_ (by decide))
  exact law_tail C0 hAq hH.2.1 (lv_sub hl [0, 3] rfl) (Nat.le_of_ble_eq_true rfl) (Nat.le_of_ble_eq_true rfl)
