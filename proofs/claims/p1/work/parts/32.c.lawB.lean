set_option maxHeartbeats 4000000 in
set_option maxRecDepth 100000 in
theorem law_case_9 {p : Program} {e : Env} {s : State} {m : MethodId} {below : List Frame} {meth : Method} {c : Code} {l : Launch} {b : Nat} {xs : Nat → Int32} (C0 : lw_At p s m meth c b 6 xs) {D : va_G} {kA : Nat → ClassId} (hK : mK D kA s) {M : mM} {T : mT} {A : Nat → Prop} (hAq : ∀ q, A q → s.heap.size ≤ q) {Hq_ : Heap} {lcq_ : List Loc} {ls : Array Slot} {ro w im rd rc cu cs bs tp nb by_ vb mo al mt ii pa li : Nat} {F : Nat → Int32} (hc_ro : M ro = some (.inr (7, [.ref w, .ref im, .ref rd, .ref rc, .ref cu]))) (hc_w : M w = some (.inr (6, [.int 0, .int 2, .int 0, .int 0, .int 0, .int 0, .int 0, .int (-1), .ref cs, .ref bs, .ref tp]))) (hc_cs : M cs = some (.inl (kA 0, 8, .inl (c100 (fun _ => 0))))) (hc_im : M im = some (.inl (kA 6, 3, .inr (.inr (.inr (.inr (fun _ => none))))))) (hc_rd : M rd = some (.inr (3, [.ref nb, .ref vb, .int 0, .int 0, .ref by_, .int 0, .int 0, .int 0, .int 0, .int 0]))) (hc_mo : M mo = some (.inr (8, [.ref al, .ref mt, .ref ii, .int 0, .int (-1), .ref pa, .int 0, .int 0, .int 0, .int 0, .int 0, .long 0, .int 0, .ref li]))) (hc_al : M al = some (.inl (kA 0, 7506, .inl F))) (hc_ii : M ii = some (.inl (kA 2, 3, .inl (fun _ => 0)))) (ht_bs : T bs = some 6) (ht_tp : T tp = some 7) (ht_mt : T mt = some 11) (hFi : ∀ j, j < 1140 → F j = mIni j) (hH : mS D kA M T A s.heap Hq_ lcq_) (hl : lv_has ls 4 [(3, .int 0), (2, .ref mo), (1, .ref ro), (0, .ref b)]) : W p l e room_1 s m #[Value.ref b] below meth c Hq_ lcq_ 156 11688 (lw_Z below #[Value.ref b] s) (F0 m 477 ls []) := by
  obtain ⟨hx, hb, hr, hml, hown, hts, hX, hbl, hlocks, hgv⟩ := id C0
  have hC : CallFix p m c cL_law 4 s #[Value.ref b] TB RL := ⟨hx, hb, hml, hown, fun w h => hts w (TB_in h)⟩
  have hbA : ¬ A b := fun h => absurd (hAq b h) (Nat.not_le.mpr hbl)
  have n_ro_w : ro ≠ w := neM hc_ro hc_w (by simp)
  have n_ro_cs : ro ≠ cs := neM hc_ro hc_cs (by simp)
  have n_ro_im : ro ≠ im := neM hc_ro hc_im (by simp)
  have n_ro_rd : ro ≠ rd := neM hc_ro hc_rd (by simp)
  have n_ro_mo : ro ≠ mo := neM hc_ro hc_mo (by simp)
  have n_ro_al : ro ≠ al := neM hc_ro hc_al (by simp)
  have n_ro_ii : ro ≠ ii := neM hc_ro hc_ii (by simp)
  have n_w_ro : w ≠ ro := neM hc_w hc_ro (by simp)
  have n_w_cs : w ≠ cs := neM hc_w hc_cs (by simp)
  have n_w_im : w ≠ im := neM hc_w hc_im (by simp)
  have n_w_rd : w ≠ rd := neM hc_w hc_rd (by simp)
  have n_w_mo : w ≠ mo := neM hc_w hc_mo (by simp)
  have n_w_al : w ≠ al := neM hc_w hc_al (by simp)
  have n_w_ii : w ≠ ii := neM hc_w hc_ii (by simp)
  have n_cs_ro : cs ≠ ro := neM hc_cs hc_ro (by simp)
  have n_cs_w : cs ≠ w := neM hc_cs hc_w (by simp)
  have n_cs_im : cs ≠ im := neM hc_cs hc_im (by simp)
  have n_cs_rd : cs ≠ rd := neM hc_cs hc_rd (by simp)
  have n_cs_mo : cs ≠ mo := neM hc_cs hc_mo (by simp)
  have n_cs_al : cs ≠ al := neM hc_cs hc_al (by simp)
  have n_cs_ii : cs ≠ ii := neM hc_cs hc_ii (by simp)
  have n_im_ro : im ≠ ro := neM hc_im hc_ro (by simp)
  have n_im_w : im ≠ w := neM hc_im hc_w (by simp)
  have n_im_cs : im ≠ cs := neM hc_im hc_cs (by simp)
  have n_im_rd : im ≠ rd := neM hc_im hc_rd (by simp)
  have n_im_mo : im ≠ mo := neM hc_im hc_mo (by simp)
  have n_im_al : im ≠ al := neM hc_im hc_al (by simp)
  have n_im_ii : im ≠ ii := neM hc_im hc_ii (by simp)
  have n_rd_ro : rd ≠ ro := neM hc_rd hc_ro (by simp)
  have n_rd_w : rd ≠ w := neM hc_rd hc_w (by simp)
  have n_rd_cs : rd ≠ cs := neM hc_rd hc_cs (by simp)
  have n_rd_im : rd ≠ im := neM hc_rd hc_im (by simp)
  have n_rd_mo : rd ≠ mo := neM hc_rd hc_mo (by simp)
  have n_rd_al : rd ≠ al := neM hc_rd hc_al (by simp)
  have n_rd_ii : rd ≠ ii := neM hc_rd hc_ii (by simp)
  have n_mo_ro : mo ≠ ro := neM hc_mo hc_ro (by simp)
  have n_mo_w : mo ≠ w := neM hc_mo hc_w (by simp)
  have n_mo_cs : mo ≠ cs := neM hc_mo hc_cs (by simp)
  have n_mo_im : mo ≠ im := neM hc_mo hc_im (by simp)
  have n_mo_rd : mo ≠ rd := neM hc_mo hc_rd (by simp)
  have n_mo_al : mo ≠ al := neM hc_mo hc_al (by simp)
  have n_mo_ii : mo ≠ ii := neM hc_mo hc_ii (by simp)
  have n_al_ro : al ≠ ro := neM hc_al hc_ro (by simp)
  have n_al_w : al ≠ w := neM hc_al hc_w (by simp)
  have n_al_cs : al ≠ cs := neM hc_al hc_cs (by simp)
  have n_al_im : al ≠ im := neM hc_al hc_im (by simp)
  have n_al_rd : al ≠ rd := neM hc_al hc_rd (by simp)
  have n_al_mo : al ≠ mo := neM hc_al hc_mo (by simp)
  have n_al_ii : al ≠ ii := neM hc_al hc_ii (by simp)
  have n_ii_ro : ii ≠ ro := neM hc_ii hc_ro (by simp)
  have n_ii_w : ii ≠ w := neM hc_ii hc_w (by simp)
  have n_ii_cs : ii ≠ cs := neM hc_ii hc_cs (by simp)
  have n_ii_im : ii ≠ im := neM hc_ii hc_im (by simp)
  have n_ii_rd : ii ≠ rd := neM hc_ii hc_rd (by simp)
  have n_ii_mo : ii ≠ mo := neM hc_ii hc_mo (by simp)
  have n_ii_al : ii ≠ al := neM hc_ii hc_al (by simp)
  refine lv_aload_n hx hb dL_law_477 rfl (lv_at hl 2 rfl) ?_
  refine lv_aload_n hx hb dL_law_478 rfl (lv_at hl 3 rfl) ?_
  refine lv_iload_n hx hb dL_law_479 rfl (lv_at hl 0 rfl) ?_
  refine lv_iconst (v := 1) hx hb dL_law_480 (by decide) ?_
  refine lv_iadd hx hb dL_law_481 ?_
  refine lv_cst (v := 1) (by decide) ?_
  refine va_sld hx hb hX hbl hbA hH.2.1 (iIn (by decide) (by decide)) dL_law_482 ?_
  refine lv_topi (fun vq1_ e_vq1_ => ?_)
  refine goI hK hH (runV (As := [.int vq1_]) (rest := []) hC hK hH (c_X9_accept hc_ro hc_w) mlL_54 (rcvM hK hH hc_ro rfl) ⟨⟨Nat.le_of_ble_eq_true rfl, Nat.le_of_ble_eq_true rfl⟩, Nat.le_of_ble_eq_true rfl, Nat.le_of_ble_eq_true rfl⟩ rfl hl.1 rfl (Nat.le_of_ble_eq_true rfl) dL_law_483) (fun rq4_ Mq2_ Tq3_ Hq_ lcq_ hP hz hH => ?_)
  try dsimp only at hP
  obtain ⟨(rfl), eT, hfr⟩ := hP
  have eT := eT.symm; subst eT
  have hc_ro : Mq2_ ro = some (.inr (7, [.ref w, .ref im, .ref rd, .ref rc, .ref cu])) := (hfr ro n_ro_w).trans hc_ro
  have hc_cs : Mq2_ cs = some (.inl (kA 0, 8, .inl (c100 (fun _ => 0)))) := (hfr cs n_cs_w).trans hc_cs
  have hc_im : Mq2_ im = some (.inl (kA 6, 3, .inr (.inr (.inr (.inr (fun _ => none)))))) := (hfr im n_im_w).trans hc_im
  have hc_rd : Mq2_ rd = some (.inr (3, [.ref nb, .ref vb, .int 0, .int 0, .ref by_, .int 0, .int 0, .int 0, .int 0, .int 0])) := (hfr rd n_rd_w).trans hc_rd
  have hc_mo : Mq2_ mo = some (.inr (8, [.ref al, .ref mt, .ref ii, .int 0, .int (-1), .ref pa, .int 0, .int 0, .int 0, .int 0, .int 0, .long 0, .int 0, .ref li])) := (hfr mo n_mo_w).trans hc_mo
  have hc_al : Mq2_ al = some (.inl (kA 0, 7506, .inl F)) := (hfr al n_al_w).trans hc_al
  have hc_ii : Mq2_ ii = some (.inl (kA 2, 3, .inl (fun _ => 0))) := (hfr ii n_ii_w).trans hc_ii
  refine lv_aload_n hx hb dL_law_486 rfl (lv_at hl 1 rfl) ?_
  refine lv_aload_n hx hb dL_law_487 rfl (lv_at hl 3 rfl) ?_
  refine lv_iload_n hx hb dL_law_488 rfl (lv_at hl 0 rfl) ?_
  refine lv_iconst (v := 1) hx hb dL_law_489 (by decide) ?_
  refine lv_iadd hx hb dL_law_490 ?_
  refine lv_cst (v := 1) (by decide) ?_
  refine va_sld hx hb hX hbl hbA hH.2.1 (iIn (by decide) (by decide)) dL_law_491 ?_
  refine lv_cst (v := vq1_) e_vq1_.symm ?_
  refine goI hK hH (runV (As := [.int vq1_]) (rest := [.int 30]) hC hK hH (c_X10_accept hc_mo hc_al hFi) mlL_57 (rcvM hK hH hc_mo rfl) ⟨⟨Nat.le_of_ble_eq_true rfl, Nat.le_of_ble_eq_true rfl⟩, Nat.le_of_ble_eq_true rfl, Nat.le_of_ble_eq_true rfl⟩ rfl hl.1 rfl (Nat.le_of_ble_eq_true rfl) dL_law_492) (fun rq7_ Mq5_ Tq6_ Hq_ lcq_ hP hz hH => ?_)
  try dsimp only at hP
  obtain ⟨(rfl), eT, hfr⟩ := hP
  have eT := eT.symm; subst eT
  have hc_ro : Mq5_ ro = some (.inr (7, [.ref w, .ref im, .ref rd, .ref rc, .ref cu])) := (hfr ro n_ro_al).trans hc_ro
  have hc_cs : Mq5_ cs = some (.inl (kA 0, 8, .inl (c100 (fun _ => 0)))) := (hfr cs n_cs_al).trans hc_cs
  have hc_im : Mq5_ im = some (.inl (kA 6, 3, .inr (.inr (.inr (.inr (fun _ => none)))))) := (hfr im n_im_al).trans hc_im
  have hc_rd : Mq5_ rd = some (.inr (3, [.ref nb, .ref vb, .int 0, .int 0, .ref by_, .int 0, .int 0, .int 0, .int 0, .int 0])) := (hfr rd n_rd_al).trans hc_rd
  have hc_mo : Mq5_ mo = some (.inr (8, [.ref al, .ref mt, .ref ii, .int 0, .int (-1), .ref pa, .int 0, .int 0, .int 0, .int 0, .int 0, .long 0, .int 0, .ref li])) := (hfr mo n_mo_al).trans hc_mo
  have hc_ii : Mq5_ ii = some (.inl (kA 2, 3, .inl (fun _ => 0))) := (hfr ii n_ii_al).trans hc_ii
  refine jic_eq (tgt := 1370) hx hb dL_law_495 (by decide) (fun cq8_ => ?_) (fun cq8_ => absurd cq8_ (by decide))
  exact law_tail C0 hAq hH.2.1 (lv_sub hl [0, 3] rfl) (Nat.le_of_ble_eq_true rfl) (Nat.le_of_ble_eq_true rfl)
set_option maxHeartbeats 4000000 in
set_option maxRecDepth 100000 in
theorem law_case_10 {p : Program} {e : Env} {s : State} {m : MethodId} {below : List Frame} {meth : Method} {c : Code} {l : Launch} {b : Nat} {xs : Nat → Int32} (C0 : lw_At p s m meth c b 6 xs) {D : va_G} {kA : Nat → ClassId} (hK : mK D kA s) {M : mM} {T : mT} {A : Nat → Prop} (hAq : ∀ q, A q → s.heap.size ≤ q) {Hq_ : Heap} {lcq_ : List Loc} {ls : Array Slot} {ro w im rd rc cu cs bs tp nb by_ vb mo al mt ii pa li : Nat} {F : Nat → Int32} (hc_ro : M ro = some (.inr (7, [.ref w, .ref im, .ref rd, .ref rc, .ref cu]))) (hc_w : M w = some (.inr (6, [.int 0, .int 2, .int 0, .int 0, .int 0, .int 0, .int 0, .int (-1), .ref cs, .ref bs, .ref tp]))) (hc_cs : M cs = some (.inl (kA 0, 8, .inl (c100 (fun _ => 0))))) (hc_im : M im = some (.inl (kA 6, 3, .inr (.inr (.inr (.inr (fun _ => none))))))) (hc_rd : M rd = some (.inr (3, [.ref nb, .ref vb, .int 0, .int 0, .ref by_, .int 0, .int 0, .int 0, .int 0, .int 0]))) (hc_mo : M mo = some (.inr (8, [.ref al, .ref mt, .ref ii, .int 0, .int (-1), .ref pa, .int 0, .int 0, .int 0, .int 0, .int 0, .long 0, .int 0, .ref li]))) (hc_al : M al = some (.inl (kA 0, 7506, .inl F))) (hc_ii : M ii = some (.inl (kA 2, 3, .inl (fun _ => 0)))) (ht_bs : T bs = some 6) (ht_tp : T tp = some 7) (ht_mt : T mt = some 11) (hFi : ∀ j, j < 1140 → F j = mIni j) (hH : mS D kA M T A s.heap Hq_ lcq_) (hl : lv_has ls 4 [(3, .int 0), (2, .ref mo), (1, .ref ro), (0, .ref b)]) : W p l e room_1 s m #[Value.ref b] below meth c Hq_ lcq_ 156 11688 (lw_Z below #[Value.ref b] s) (F0 m 500 ls []) := by
  obtain ⟨hx, hb, hr, hml, hown, hts, hX, hbl, hlocks, hgv⟩ := id C0
  have hC : CallFix p m c cL_law 4 s #[Value.ref b] TB RL := ⟨hx, hb, hml, hown, fun w h => hts w (TB_in h)⟩
  have hbA : ¬ A b := fun h => absurd (hAq b h) (Nat.not_le.mpr hbl)
  have n_ro_w : ro ≠ w := neM hc_ro hc_w (by simp)
  have n_ro_cs : ro ≠ cs := neM hc_ro hc_cs (by simp)
  have n_ro_im : ro ≠ im := neM hc_ro hc_im (by simp)
  have n_ro_rd : ro ≠ rd := neM hc_ro hc_rd (by simp)
  have n_ro_mo : ro ≠ mo := neM hc_ro hc_mo (by simp)
  have n_ro_al : ro ≠ al := neM hc_ro hc_al (by simp)
  have n_ro_ii : ro ≠ ii := neM hc_ro hc_ii (by simp)
  have n_w_ro : w ≠ ro := neM hc_w hc_ro (by simp)
  have n_w_cs : w ≠ cs := neM hc_w hc_cs (by simp)
  have n_w_im : w ≠ im := neM hc_w hc_im (by simp)
  have n_w_rd : w ≠ rd := neM hc_w hc_rd (by simp)
  have n_w_mo : w ≠ mo := neM hc_w hc_mo (by simp)
  have n_w_al : w ≠ al := neM hc_w hc_al (by simp)
  have n_w_ii : w ≠ ii := neM hc_w hc_ii (by simp)
  have n_cs_ro : cs ≠ ro := neM hc_cs hc_ro (by simp)
  have n_cs_w : cs ≠ w := neM hc_cs hc_w (by simp)
  have n_cs_im : cs ≠ im := neM hc_cs hc_im (by simp)
  have n_cs_rd : cs ≠ rd := neM hc_cs hc_rd (by simp)
  have n_cs_mo : cs ≠ mo := neM hc_cs hc_mo (by simp)
  have n_cs_al : cs ≠ al := neM hc_cs hc_al (by simp)
  have n_cs_ii : cs ≠ ii := neM hc_cs hc_ii (by simp)
  have n_im_ro : im ≠ ro := neM hc_im hc_ro (by simp)
  have n_im_w : im ≠ w := neM hc_im hc_w (by simp)
  have n_im_cs : im ≠ cs := neM hc_im hc_cs (by simp)
  have n_im_rd : im ≠ rd := neM hc_im hc_rd (by simp)
  have n_im_mo : im ≠ mo := neM hc_im hc_mo (by simp)
  have n_im_al : im ≠ al := neM hc_im hc_al (by simp)
  have n_im_ii : im ≠ ii := neM hc_im hc_ii (by simp)
  have n_rd_ro : rd ≠ ro := neM hc_rd hc_ro (by simp)
  have n_rd_w : rd ≠ w := neM hc_rd hc_w (by simp)
  have n_rd_cs : rd ≠ cs := neM hc_rd hc_cs (by simp)
  have n_rd_im : rd ≠ im := neM hc_rd hc_im (by simp)
  have n_rd_mo : rd ≠ mo := neM hc_rd hc_mo (by simp)
  have n_rd_al : rd ≠ al := neM hc_rd hc_al (by simp)
  have n_rd_ii : rd ≠ ii := neM hc_rd hc_ii (by simp)
  have n_mo_ro : mo ≠ ro := neM hc_mo hc_ro (by simp)
  have n_mo_w : mo ≠ w := neM hc_mo hc_w (by simp)
  have n_mo_cs : mo ≠ cs := neM hc_mo hc_cs (by simp)
  have n_mo_im : mo ≠ im := neM hc_mo hc_im (by simp)
  have n_mo_rd : mo ≠ rd := neM hc_mo hc_rd (by simp)
  have n_mo_al : mo ≠ al := neM hc_mo hc_al (by simp)
  have n_mo_ii : mo ≠ ii := neM hc_mo hc_ii (by simp)
  have n_al_ro : al ≠ ro := neM hc_al hc_ro (by simp)
  have n_al_w : al ≠ w := neM hc_al hc_w (by simp)
  have n_al_cs : al ≠ cs := neM hc_al hc_cs (by simp)
  have n_al_im : al ≠ im := neM hc_al hc_im (by simp)
  have n_al_rd : al ≠ rd := neM hc_al hc_rd (by simp)
  have n_al_mo : al ≠ mo := neM hc_al hc_mo (by simp)
  have n_al_ii : al ≠ ii := neM hc_al hc_ii (by simp)
  have n_ii_ro : ii ≠ ro := neM hc_ii hc_ro (by simp)
  have n_ii_w : ii ≠ w := neM hc_ii hc_w (by simp)
  have n_ii_cs : ii ≠ cs := neM hc_ii hc_cs (by simp)
  have n_ii_im : ii ≠ im := neM hc_ii hc_im (by simp)
  have n_ii_rd : ii ≠ rd := neM hc_ii hc_rd (by simp)
  have n_ii_mo : ii ≠ mo := neM hc_ii hc_mo (by simp)
  have n_ii_al : ii ≠ al := neM hc_ii hc_al (by simp)
  refine lv_aload_n hx hb dL_law_500 rfl (lv_at hl 2 rfl) ?_
  refine lv_aload_n hx hb dL_law_501 rfl (lv_at hl 3 rfl) ?_
  refine lv_iload_n hx hb dL_law_502 rfl (lv_at hl 0 rfl) ?_
  refine lv_iconst (v := 1) hx hb dL_law_503 (by decide) ?_
  refine lv_iadd hx hb dL_law_504 ?_
  refine lv_cst (v := 1) (by decide) ?_
  refine va_sld hx hb hX hbl hbA hH.2.1 (iIn (by decide) (by decide)) dL_law_505 ?_
  refine lv_topi (fun vq1_ e_vq1_ => ?_)
  refine lv_aload_n hx hb dL_law_506 rfl (lv_at hl 3 rfl) ?_
  refine lv_iload_n hx hb dL_law_507 rfl (lv_at hl 0 rfl) ?_
  refine lv_iconst (v := 2) hx hb dL_law_508 (by decide) ?_
  refine lv_iadd hx hb dL_law_509 ?_
  refine lv_cst (v := 2) (by decide) ?_
  refine va_sld hx hb hX hbl hbA hH.2.1 (iIn (by decide) (by decide)) dL_law_510 ?_
  refine lv_topi (fun vq2_ e_vq2_ => ?_)
  refine lv_aload_n hx hb dL_law_511 rfl (lv_at hl 3 rfl) ?_
  refine lv_iload_n hx hb dL_law_512 rfl (lv_at hl 0 rfl) ?_
  refine lv_iconst (v := 3) hx hb dL_law_513 (by decide) ?_
  refine lv_iadd hx hb dL_law_514 ?_
  refine lv_cst (v := 3) (by decide) ?_
  refine va_sld hx hb hX hbl hbA hH.2.1 (iIn (by decide) (by decide)) dL_law_515 ?_
  refine lv_topi (fun vq3_ e_vq3_ => ?_)
  refine lv_aload_n hx hb dL_law_516 rfl (lv_at hl 3 rfl) ?_
  refine lv_iload_n hx hb dL_law_517 rfl (lv_at hl 0 rfl) ?_
  refine lv_iconst (v := 4) hx hb dL_law_518 (by decide) ?_
  refine lv_iadd hx hb dL_law_519 ?_
  refine lv_cst (v := 4) (by decide) ?_
  refine va_sld hx hb hX hbl hbA hH.2.1 (iIn (by decide) (by decide)) dL_law_520 ?_
  refine lv_topi (fun vq4_ e_vq4_ => ?_)
  refine lv_aload_n hx hb dL_law_521 rfl (lv_at hl 3 rfl) ?_
  refine lv_iload_n hx hb dL_law_522 rfl (lv_at hl 0 rfl) ?_
  refine lv_iconst (v := 5) hx hb dL_law_523 (by decide) ?_
  refine lv_iadd hx hb dL_law_524 ?_
  refine lv_cst (v := 5) (by decide) ?_
  refine va_sld hx hb hX hbl hbA hH.2.1 (iIn (by decide) (by decide)) dL_law_525 ?_
  refine lv_topi (fun vq5_ e_vq5_ => ?_)
  refine jif_eq (tgt := 533) hx hb dL_law_526 (by decide) (fun cq6_ => ?_) (fun cq6_ => ?_)
  · skip
    have cq6_ : vq5_.toInt = 0 := cq6_
    refine lv_iconst (v := 0) hx hb dL_law_533 (by decide) ?_
    refine goI hK hH (runV (As := [.int vq1_, .int vq2_, .int vq3_, .int vq4_, .int 0]) (rest := []) hC hK hH (c_X9_pass hc_ro hc_w) mlL_58 (rcvM hK hH hc_ro rfl) ⟨⟨Nat.le_of_ble_eq_true rfl, Nat.le_of_ble_eq_true rfl⟩, Nat.le_of_ble_eq_true rfl, Nat.le_of_ble_eq_true rfl⟩ rfl hl.1 rfl (Nat.le_of_ble_eq_true rfl) dL_law_534) (fun rq9_ Mq7_ Tq8_ Hq_ lcq_ hP hz hH => ?_)
    try dsimp only at hP
    obtain ⟨(rfl), eT, hfr⟩ := hP
    have eT := eT.symm; subst eT
    have hc_ro : Mq7_ ro = some (.inr (7, [.ref w, .ref im, .ref rd, .ref rc, .ref cu])) := (hfr ro n_ro_w).trans hc_ro
    have hc_cs : Mq7_ cs = some (.inl (kA 0, 8, .inl (c100 (fun _ => 0)))) := (hfr cs n_cs_w).trans hc_cs
    have hc_im : Mq7_ im = some (.inl (kA 6, 3, .inr (.inr (.inr (.inr (fun _ => none)))))) := (hfr im n_im_w).trans hc_im
    have hc_rd : Mq7_ rd = some (.inr (3, [.ref nb, .ref vb, .int 0, .int 0, .ref by_, .int 0, .int 0, .int 0, .int 0, .int 0])) := (hfr rd n_rd_w).trans hc_rd
    have hc_mo : Mq7_ mo = some (.inr (8, [.ref al, .ref mt, .ref ii, .int 0, .int (-1), .ref pa, .int 0, .int 0, .int 0, .int 0, .int 0, .long 0, .int 0, .ref li])) := (hfr mo n_mo_w).trans hc_mo
    have hc_al : Mq7_ al = some (.inl (kA 0, 7506, .inl F)) := (hfr al n_al_w).trans hc_al
    have hc_ii : Mq7_ ii = some (.inl (kA 2, 3, .inl (fun _ => 0))) := (hfr ii n_ii_w).trans hc_ii
    refine lv_aload_n hx hb dL_law_537 rfl (lv_at hl 1 rfl) ?_
    refine lv_aload_n hx hb dL_law_538 rfl (lv_at hl 3 rfl) ?_
    refine lv_iload_n hx hb dL_law_539 rfl (lv_at hl 0 rfl) ?_
    refine lv_iconst (v := 1) hx hb dL_law_540 (by decide) ?_
    refine lv_iadd hx hb dL_law_541 ?_
    refine lv_cst (v := 1) (by decide) ?_
    refine va_sld hx hb hX hbl hbA hH.2.1 (iIn (by decide) (by decide)) dL_law_542 ?_
    refine lv_cst (v := vq1_) e_vq1_.symm ?_
    refine lv_aload_n hx hb dL_law_543 rfl (lv_at hl 3 rfl) ?_
    refine lv_iload_n hx hb dL_law_544 rfl (lv_at hl 0 rfl) ?_
    refine lv_iconst (v := 2) hx hb dL_law_545 (by decide) ?_
    refine lv_iadd hx hb dL_law_546 ?_
    refine lv_cst (v := 2) (by decide) ?_
    refine va_sld hx hb hX hbl hbA hH.2.1 (iIn (by decide) (by decide)) dL_law_547 ?_
    refine lv_cst (v := vq2_) e_vq2_.symm ?_
    refine lv_aload_n hx hb dL_law_548 rfl (lv_at hl 3 rfl) ?_
    refine lv_iload_n hx hb dL_law_549 rfl (lv_at hl 0 rfl) ?_
    refine lv_iconst (v := 3) hx hb dL_law_550 (by decide) ?_
    refine lv_iadd hx hb dL_law_551 ?_
    refine lv_cst (v := 3) (by decide) ?_
    refine va_sld hx hb hX hbl hbA hH.2.1 (iIn (by decide) (by decide)) dL_law_552 ?_
    refine lv_cst (v := vq3_) e_vq3_.symm ?_
    refine lv_aload_n hx hb dL_law_553 rfl (lv_at hl 3 rfl) ?_
    refine lv_iload_n hx hb dL_law_554 rfl (lv_at hl 0 rfl) ?_
    refine lv_iconst (v := 4) hx hb dL_law_555 (by decide) ?_
    refine lv_iadd hx hb dL_law_556 ?_
    refine lv_cst (v := 4) (by decide) ?_
    refine va_sld hx hb hX hbl hbA hH.2.1 (iIn (by decide) (by decide)) dL_law_557 ?_
    refine lv_cst (v := vq4_) e_vq4_.symm ?_
    refine lv_aload_n hx hb dL_law_558 rfl (lv_at hl 3 rfl) ?_
    refine lv_iload_n hx hb dL_law_559 rfl (lv_at hl 0 rfl) ?_
    refine lv_iconst (v := 5) hx hb dL_law_560 (by decide) ?_
    refine lv_iadd hx hb dL_law_561 ?_
    refine lv_cst (v := 5) (by decide) ?_
    refine va_sld hx hb hX hbl hbA hH.2.1 (iIn (by decide) (by decide)) dL_law_562 ?_
    refine lv_cst (v := vq5_) e_vq5_.symm ?_
    refine jif_eq (tgt := 570) hx hb dL_law_563 (by decide) (fun cq10_ => ?_) (fun cq10_ => absurd cq10_ (by have := iRg vq5_; have : (0 : Int32).toInt = 0 := rfl; omega))
    have cq10_ : vq5_.toInt = 0 := cq10_
    refine lv_iconst (v := 0) hx hb dL_law_570 (by decide) ?_
    refine goI hK hH (runV (As := [.int vq1_, .int vq2_, .int vq3_, .int vq4_, .int 0]) (rest := [.int 30]) hC hK hH (c_X10_pass hc_mo hc_al hFi) mlL_62 (rcvM hK hH hc_mo rfl) ⟨⟨Nat.le_of_ble_eq_true rfl, Nat.le_of_ble_eq_true rfl⟩, Nat.le_of_ble_eq_true rfl, Nat.le_of_ble_eq_true rfl⟩ rfl hl.1 rfl (Nat.le_of_ble_eq_true rfl) dL_law_571) (fun rq13_ Mq11_ Tq12_ Hq_ lcq_ hP hz hH => ?_)
    try dsimp only at hP
    obtain ⟨(rfl), eT, hfr⟩ := hP
    have eT := eT.symm; subst eT
    have hc_ro : Mq11_ ro = some (.inr (7, [.ref w, .ref im, .ref rd, .ref rc, .ref cu])) := (hfr ro n_ro_al).trans hc_ro
    have hc_cs : Mq11_ cs = some (.inl (kA 0, 8, .inl (c100 (fun _ => 0)))) := (hfr cs n_cs_al).trans hc_cs
    have hc_im : Mq11_ im = some (.inl (kA 6, 3, .inr (.inr (.inr (.inr (fun _ => none)))))) := (hfr im n_im_al).trans hc_im
    have hc_rd : Mq11_ rd = some (.inr (3, [.ref nb, .ref vb, .int 0, .int 0, .ref by_, .int 0, .int 0, .int 0, .int 0, .int 0])) := (hfr rd n_rd_al).trans hc_rd
    have hc_mo : Mq11_ mo = some (.inr (8, [.ref al, .ref mt, .ref ii, .int 0, .int (-1), .ref pa, .int 0, .int 0, .int 0, .int 0, .int 0, .long 0, .int 0, .ref li])) := (hfr mo n_mo_al).trans hc_mo
    have hc_ii : Mq11_ ii = some (.inl (kA 2, 3, .inl (fun _ => 0))) := (hfr ii n_ii_al).trans hc_ii
    refine jic_eq (tgt := 1370) hx hb dL_law_574 (by decide) (fun cq14_ => ?_) (fun cq14_ => absurd cq14_ (by decide))
    exact law_tail C0 hAq hH.2.1 (lv_sub hl [0, 3] rfl) (Nat.le_of_ble_eq_true rfl) (Nat.le_of_ble_eq_true rfl)
  · skip
    have cq6_ : vq5_.toInt ≠ 0 := cq6_
    refine lv_iconst (v := 1) hx hb dL_law_529 (by decide) ?_
    refine lv_goto (tgt := 534) hx hb dL_law_530 (by decide) ?_
    refine goI hK hH (runV (As := [.int vq1_, .int vq2_, .int vq3_, .int vq4_, .int 1]) (rest := []) hC hK hH (c_X9_pass hc_ro hc_w) mlL_58 (rcvM hK hH hc_ro rfl) ⟨⟨Nat.le_of_ble_eq_true rfl, Nat.le_of_ble_eq_true rfl⟩, Nat.le_of_ble_eq_true rfl, Nat.le_of_ble_eq_true rfl⟩ rfl hl.1 rfl (Nat.le_of_ble_eq_true rfl) dL_law_534) (fun rq17_ Mq15_ Tq16_ Hq_ lcq_ hP hz hH => ?_)
    try dsimp only at hP
    obtain ⟨(rfl), eT, hfr⟩ := hP
    have eT := eT.symm; subst eT
    have hc_ro : Mq15_ ro = some (.inr (7, [.ref w, .ref im, .ref rd, .ref rc, .ref cu])) := (hfr ro n_ro_w).trans hc_ro
    have hc_cs : Mq15_ cs = some (.inl (kA 0, 8, .inl (c100 (fun _ => 0)))) := (hfr cs n_cs_w).trans hc_cs
    have hc_im : Mq15_ im = some (.inl (kA 6, 3, .inr (.inr (.inr (.inr (fun _ => none)))))) := (hfr im n_im_w).trans hc_im
    have hc_rd : Mq15_ rd = some (.inr (3, [.ref nb, .ref vb, .int 0, .int 0, .ref by_, .int 0, .int 0, .int 0, .int 0, .int 0])) := (hfr rd n_rd_w).trans hc_rd
    have hc_mo : Mq15_ mo = some (.inr (8, [.ref al, .ref mt, .ref ii, .int 0, .int (-1), .ref pa, .int 0, .int 0, .int 0, .int 0, .int 0, .long 0, .int 0, .ref li])) := (hfr mo n_mo_w).trans hc_mo
    have hc_al : Mq15_ al = some (.inl (kA 0, 7506, .inl F)) := (hfr al n_al_w).trans hc_al
    have hc_ii : Mq15_ ii = some (.inl (kA 2, 3, .inl (fun _ => 0))) := (hfr ii n_ii_w).trans hc_ii
    refine lv_aload_n hx hb dL_law_537 rfl (lv_at hl 1 rfl) ?_
    refine lv_aload_n hx hb dL_law_538 rfl (lv_at hl 3 rfl) ?_
    refine lv_iload_n hx hb dL_law_539 rfl (lv_at hl 0 rfl) ?_
    refine lv_iconst (v := 1) hx hb dL_law_540 (by decide) ?_
    refine lv_iadd hx hb dL_law_541 ?_
    refine lv_cst (v := 1) (by decide) ?_
    refine va_sld hx hb hX hbl hbA hH.2.1 (iIn (by decide) (by decide)) dL_law_542 ?_
    refine lv_cst (v := vq1_) e_vq1_.symm ?_
    refine lv_aload_n hx hb dL_law_543 rfl (lv_at hl 3 rfl) ?_
    refine lv_iload_n hx hb dL_law_544 rfl (lv_at hl 0 rfl) ?_
    refine lv_iconst (v := 2) hx hb dL_law_545 (by decide) ?_
    refine lv_iadd hx hb dL_law_546 ?_
    refine lv_cst (v := 2) (by decide) ?_
    refine va_sld hx hb hX hbl hbA hH.2.1 (iIn (by decide) (by decide)) dL_law_547 ?_
    refine lv_cst (v := vq2_) e_vq2_.symm ?_
    refine lv_aload_n hx hb dL_law_548 rfl (lv_at hl 3 rfl) ?_
    refine lv_iload_n hx hb dL_law_549 rfl (lv_at hl 0 rfl) ?_
    refine lv_iconst (v := 3) hx hb dL_law_550 (by decide) ?_
    refine lv_iadd hx hb dL_law_551 ?_
    refine lv_cst (v := 3) (by decide) ?_
    refine va_sld hx hb hX hbl hbA hH.2.1 (iIn (by decide) (by decide)) dL_law_552 ?_
    refine lv_cst (v := vq3_) e_vq3_.symm ?_
    refine lv_aload_n hx hb dL_law_553 rfl (lv_at hl 3 rfl) ?_
    refine lv_iload_n hx hb dL_law_554 rfl (lv_at hl 0 rfl) ?_
    refine lv_iconst (v := 4) hx hb dL_law_555 (by decide) ?_
    refine lv_iadd hx hb dL_law_556 ?_
    refine lv_cst (v := 4) (by decide) ?_
    refine va_sld hx hb hX hbl hbA hH.2.1 (iIn (by decide) (by decide)) dL_law_557 ?_
    refine lv_cst (v := vq4_) e_vq4_.symm ?_
    refine lv_aload_n hx hb dL_law_558 rfl (lv_at hl 3 rfl) ?_
    refine lv_iload_n hx hb dL_law_559 rfl (lv_at hl 0 rfl) ?_
    refine lv_iconst (v := 5) hx hb dL_law_560 (by decide) ?_
    refine lv_iadd hx hb dL_law_561 ?_
    refine lv_cst (v := 5) (by decide) ?_
    refine va_sld hx hb hX hbl hbA hH.2.1 (iIn (by decide) (by decide)) dL_law_562 ?_
    refine lv_cst (v := vq5_) e_vq5_.symm ?_
    refine jif_eq (tgt := 570) hx hb dL_law_563 (by decide) (fun cq18_ => ?_) (fun cq18_ => ?_)
    · skip
      have cq18_ : vq5_.toInt = 0 := cq18_
      refine lv_iconst (v := 0) hx hb dL_law_570 (by decide) ?_
      refine goI hK hH (runV (As := [.int vq1_, .int vq2_, .int vq3_, .int vq4_, .int 0]) (rest := [.int 30]) hC hK hH (c_X10_pass hc_mo hc_al hFi) mlL_62 (rcvM hK hH hc_mo rfl) ⟨⟨Nat.le_of_ble_eq_true rfl, Nat.le_of_ble_eq_true rfl⟩, Nat.le_of_ble_eq_true rfl, Nat.le_of_ble_eq_true rfl⟩ rfl hl.1 rfl (Nat.le_of_ble_eq_true rfl) dL_law_571) (fun rq21_ Mq19_ Tq20_ Hq_ lcq_ hP hz hH => ?_)
      try dsimp only at hP
      obtain ⟨(rfl), eT, hfr⟩ := hP
      have eT := eT.symm; subst eT
      have hc_ro : Mq19_ ro = some (.inr (7, [.ref w, .ref im, .ref rd, .ref rc, .ref cu])) := (hfr ro n_ro_al).trans hc_ro
      have hc_cs : Mq19_ cs = some (.inl (kA 0, 8, .inl (c100 (fun _ => 0)))) := (hfr cs n_cs_al).trans hc_cs
      have hc_im : Mq19_ im = some (.inl (kA 6, 3, .inr (.inr (.inr (.inr (fun _ => none)))))) := (hfr im n_im_al).trans hc_im
      have hc_rd : Mq19_ rd = some (.inr (3, [.ref nb, .ref vb, .int 0, .int 0, .ref by_, .int 0, .int 0, .int 0, .int 0, .int 0])) := (hfr rd n_rd_al).trans hc_rd
      have hc_mo : Mq19_ mo = some (.inr (8, [.ref al, .ref mt, .ref ii, .int 0, .int (-1), .ref pa, .int 0, .int 0, .int 0, .int 0, .int 0, .long 0, .int 0, .ref li])) := (hfr mo n_mo_al).trans hc_mo
      have hc_ii : Mq19_ ii = some (.inl (kA 2, 3, .inl (fun _ => 0))) := (hfr ii n_ii_al).trans hc_ii
      refine jic_eq (tgt := 1370) hx hb dL_law_574 (by decide) (fun cq22_ => ?_) (fun cq22_ => absurd cq22_ (by decide))
      exact law_tail C0 hAq hH.2.1 (lv_sub hl [0, 3] rfl) (Nat.le_of_ble_eq_true rfl) (Nat.le_of_ble_eq_true rfl)
    · skip
      have cq18_ : vq5_.toInt ≠ 0 := cq18_
      refine lv_iconst (v := 1) hx hb dL_law_566 (by decide) ?_
      refine lv_goto (tgt := 571) hx hb dL_law_567 (by decide) ?_
      refine goI hK hH (runV (As := [.int vq1_, .int vq2_, .int vq3_, .int vq4_, .int 1]) (rest := [.int 30]) hC hK hH (c_X10_pass hc_mo hc_al hFi) mlL_62 (rcvM hK hH hc_mo rfl) ⟨⟨Nat.le_of_ble_eq_true rfl, Nat.le_of_ble_eq_true rfl⟩, Nat.le_of_ble_eq_true rfl, Nat.le_of_ble_eq_true rfl⟩ rfl hl.1 rfl (Nat.le_of_ble_eq_true rfl) dL_law_571) (fun rq25_ Mq23_ Tq24_ Hq_ lcq_ hP hz hH => ?_)
      try dsimp only at hP
      obtain ⟨(rfl), eT, hfr⟩ := hP
      have eT := eT.symm; subst eT
      have hc_ro : Mq23_ ro = some (.inr (7, [.ref w, .ref im, .ref rd, .ref rc, .ref cu])) := (hfr ro n_ro_al).trans hc_ro
      have hc_cs : Mq23_ cs = some (.inl (kA 0, 8, .inl (c100 (fun _ => 0)))) := (hfr cs n_cs_al).trans hc_cs
      have hc_im : Mq23_ im = some (.inl (kA 6, 3, .inr (.inr (.inr (.inr (fun _ => none)))))) := (hfr im n_im_al).trans hc_im
      have hc_rd : Mq23_ rd = some (.inr (3, [.ref nb, .ref vb, .int 0, .int 0, .ref by_, .int 0, .int 0, .int 0, .int 0, .int 0])) := (hfr rd n_rd_al).trans hc_rd
      have hc_mo : Mq23_ mo = some (.inr (8, [.ref al, .ref mt, .ref ii, .int 0, .int (-1), .ref pa, .int 0, .int 0, .int 0, .int 0, .int 0, .long 0, .int 0, .ref li])) := (hfr mo n_mo_al).trans hc_mo
      have hc_ii : Mq23_ ii = some (.inl (kA 2, 3, .inl (fun _ => 0))) := (hfr ii n_ii_al).trans hc_ii
      refine jic_eq (tgt := 1370) hx hb dL_law_574 (by decide) (fun cq26_ => ?_) (fun cq26_ => absurd cq26_ (by decide))
      exact law_tail C0 hAq hH.2.1 (lv_sub hl [0, 3] rfl) (Nat.le_of_ble_eq_true rfl) (Nat.le_of_ble_eq_true rfl)
set_option maxHeartbeats 4000000 in
set_option maxRecDepth 100000 in
theorem law_case_11 {p : Program} {e : Env} {s : State} {m : MethodId} {below : List Frame} {meth : Method} {c : Code} {l : Launch} {b : Nat} {xs : Nat → Int32} (C0 : lw_At p s m meth c b 6 xs) {D : va_G} {kA : Nat → ClassId} (hK : mK D kA s) {M : mM} {T : mT} {A : Nat → Prop} (hAq : ∀ q, A q → s.heap.size ≤ q) {Hq_ : Heap} {lcq_ : List Loc} {ls : Array Slot} {ro w im rd rc cu cs bs tp nb by_ vb mo al mt ii pa li : Nat} {F : Nat → Int32} (hc_ro : M ro = some (.inr (7, [.ref w, .ref im, .ref rd, .ref rc, .ref cu]))) (hc_w : M w = some (.inr (6, [.int 0, .int 2, .int 0, .int 0, .int 0, .int 0, .int 0, .int (-1), .ref cs, .ref bs, .ref tp]))) (hc_cs : M cs = some (.inl (kA 0, 8, .inl (c100 (fun _ => 0))))) (hc_im : M im = some (.inl (kA 6, 3, .inr (.inr (.inr (.inr (fun _ => none))))))) (hc_rd : M rd = some (.inr (3, [.ref nb, .ref vb, .int 0, .int 0, .ref by_, .int 0, .int 0, .int 0, .int 0, .int 0]))) (hc_mo : M mo = some (.inr (8, [.ref al, .ref mt, .ref ii, .int 0, .int (-1), .ref pa, .int 0, .int 0, .int 0, .int 0, .int 0, .long 0, .int 0, .ref li]))) (hc_al : M al = some (.inl (kA 0, 7506, .inl F))) (hc_ii : M ii = some (.inl (kA 2, 3, .inl (fun _ => 0)))) (ht_bs : T bs = some 6) (ht_tp : T tp = some 7) (ht_mt : T mt = some 11) (hFi : ∀ j, j < 1140 → F j = mIni j) (hH : mS D kA M T A s.heap Hq_ lcq_) (hl : lv_has ls 4 [(3, .int 0), (2, .ref mo), (1, .ref ro), (0, .ref b)]) : W p l e room_1 s m #[Value.ref b] below meth c Hq_ lcq_ 156 11688 (lw_Z below #[Value.ref b] s) (F0 m 579 ls []) := by
  obtain ⟨hx, hb, hr, hml, hown, hts, hX, hbl, hlocks, hgv⟩ := id C0
  have hC : CallFix p m c cL_law 4 s #[Value.ref b] TB RL := ⟨hx, hb, hml, hown, fun w h => hts w (TB_in h)⟩
  have hbA : ¬ A b := fun h => absurd (hAq b h) (Nat.not_le.mpr hbl)
  have n_ro_w : ro ≠ w := neM hc_ro hc_w (by simp)
  have n_ro_cs : ro ≠ cs := neM hc_ro hc_cs (by simp)
  have n_ro_im : ro ≠ im := neM hc_ro hc_im (by simp)
  have n_ro_rd : ro ≠ rd := neM hc_ro hc_rd (by simp)
  have n_ro_mo : ro ≠ mo := neM hc_ro hc_mo (by simp)
  have n_ro_al : ro ≠ al := neM hc_ro hc_al (by simp)
  have n_ro_ii : ro ≠ ii := neM hc_ro hc_ii (by simp)
  have n_w_ro : w ≠ ro := neM hc_w hc_ro (by simp)
  have n_w_cs : w ≠ cs := neM hc_w hc_cs (by simp)
  have n_w_im : w ≠ im := neM hc_w hc_im (by simp)
  have n_w_rd : w ≠ rd := neM hc_w hc_rd (by simp)
  have n_w_mo : w ≠ mo := neM hc_w hc_mo (by simp)
  have n_w_al : w ≠ al := neM hc_w hc_al (by simp)
  have n_w_ii : w ≠ ii := neM hc_w hc_ii (by simp)
  have n_cs_ro : cs ≠ ro := neM hc_cs hc_ro (by simp)
  have n_cs_w : cs ≠ w := neM hc_cs hc_w (by simp)
  have n_cs_im : cs ≠ im := neM hc_cs hc_im (by simp)
  have n_cs_rd : cs ≠ rd := neM hc_cs hc_rd (by simp)
  have n_cs_mo : cs ≠ mo := neM hc_cs hc_mo (by simp)
  have n_cs_al : cs ≠ al := neM hc_cs hc_al (by simp)
  have n_cs_ii : cs ≠ ii := neM hc_cs hc_ii (by simp)
  have n_im_ro : im ≠ ro := neM hc_im hc_ro (by simp)
  have n_im_w : im ≠ w := neM hc_im hc_w (by simp)
  have n_im_cs : im ≠ cs := neM hc_im hc_cs (by simp)
  have n_im_rd : im ≠ rd := neM hc_im hc_rd (by simp)
  have n_im_mo : im ≠ mo := neM hc_im hc_mo (by simp)
  have n_im_al : im ≠ al := neM hc_im hc_al (by simp)
  have n_im_ii : im ≠ ii := neM hc_im hc_ii (by simp)
  have n_rd_ro : rd ≠ ro := neM hc_rd hc_ro (by simp)
  have n_rd_w : rd ≠ w := neM hc_rd hc_w (by simp)
  have n_rd_cs : rd ≠ cs := neM hc_rd hc_cs (by simp)
  have n_rd_im : rd ≠ im := neM hc_rd hc_im (by simp)
  have n_rd_mo : rd ≠ mo := neM hc_rd hc_mo (by simp)
  have n_rd_al : rd ≠ al := neM hc_rd hc_al (by simp)
  have n_rd_ii : rd ≠ ii := neM hc_rd hc_ii (by simp)
  have n_mo_ro : mo ≠ ro := neM hc_mo hc_ro (by simp)
  have n_mo_w : mo ≠ w := neM hc_mo hc_w (by simp)
  have n_mo_cs : mo ≠ cs := neM hc_mo hc_cs (by simp)
  have n_mo_im : mo ≠ im := neM hc_mo hc_im (by simp)
  have n_mo_rd : mo ≠ rd := neM hc_mo hc_rd (by simp)
  have n_mo_al : mo ≠ al := neM hc_mo hc_al (by simp)
  have n_mo_ii : mo ≠ ii := neM hc_mo hc_ii (by simp)
  have n_al_ro : al ≠ ro := neM hc_al hc_ro (by simp)
  have n_al_w : al ≠ w := neM hc_al hc_w (by simp)
  have n_al_cs : al ≠ cs := neM hc_al hc_cs (by simp)
  have n_al_im : al ≠ im := neM hc_al hc_im (by simp)
  have n_al_rd : al ≠ rd := neM hc_al hc_rd (by simp)
  have n_al_mo : al ≠ mo := neM hc_al hc_mo (by simp)
  have n_al_ii : al ≠ ii := neM hc_al hc_ii (by simp)
  have n_ii_ro : ii ≠ ro := neM hc_ii hc_ro (by simp)
  have n_ii_w : ii ≠ w := neM hc_ii hc_w (by simp)
  have n_ii_cs : ii ≠ cs := neM hc_ii hc_cs (by simp)
  have n_ii_im : ii ≠ im := neM hc_ii hc_im (by simp)
  have n_ii_rd : ii ≠ rd := neM hc_ii hc_rd (by simp)
  have n_ii_mo : ii ≠ mo := neM hc_ii hc_mo (by simp)
  have n_ii_al : ii ≠ al := neM hc_ii hc_al (by simp)
  refine lv_aload_n hx hb dL_law_579 rfl (lv_at hl 2 rfl) ?_
  refine lv_aload_n hx hb dL_law_580 rfl (lv_at hl 3 rfl) ?_
  refine lv_iload_n hx hb dL_law_581 rfl (lv_at hl 0 rfl) ?_
  refine lv_iconst (v := 1) hx hb dL_law_582 (by decide) ?_
  refine lv_iadd hx hb dL_law_583 ?_
  refine lv_cst (v := 1) (by decide) ?_
  refine va_sld hx hb hX hbl hbA hH.2.1 (iIn (by decide) (by decide)) dL_law_584 ?_
  refine lv_topi (fun vq1_ e_vq1_ => ?_)
  refine lv_aload_n hx hb dL_law_585 rfl (lv_at hl 3 rfl) ?_
  refine lv_iload_n hx hb dL_law_586 rfl (lv_at hl 0 rfl) ?_
  refine lv_iconst (v := 2) hx hb dL_law_587 (by decide) ?_
  refine lv_iadd hx hb dL_law_588 ?_
  refine lv_cst (v := 2) (by decide) ?_
  refine va_sld hx hb hX hbl hbA hH.2.1 (iIn (by decide) (by decide)) dL_law_589 ?_
  refine lv_topi (fun vq2_ e_vq2_ => ?_)
  refine lv_aload_n hx hb dL_law_590 rfl (lv_at hl 3 rfl) ?_
  refine lv_iload_n hx hb dL_law_591 rfl (lv_at hl 0 rfl) ?_
  refine lv_iconst (v := 3) hx hb dL_law_592 (by decide) ?_
  refine lv_iadd hx hb dL_law_593 ?_
  refine lv_cst (v := 3) (by decide) ?_
  refine va_sld hx hb hX hbl hbA hH.2.1 (iIn (by decide) (by decide)) dL_law_594 ?_
  refine lv_topi (fun vq3_ e_vq3_ => ?_)
  refine lv_aload_n hx hb dL_law_595 rfl (lv_at hl 3 rfl) ?_
  refine lv_iload_n hx hb dL_law_596 rfl (lv_at hl 0 rfl) ?_
  refine lv_iconst (v := 4) hx hb dL_law_597 (by decide) ?_
  refine lv_iadd hx hb dL_law_598 ?_
  refine lv_cst (v := 4) (by decide) ?_
  refine va_sld hx hb hX hbl hbA hH.2.1 (iIn (by decide) (by decide)) dL_law_599 ?_
  refine lv_topi (fun vq4_ e_vq4_ => ?_)
  refine lv_aload_n hx hb dL_law_600 rfl (lv_at hl 3 rfl) ?_
  refine lv_iload_n hx hb dL_law_601 rfl (lv_at hl 0 rfl) ?_
  refine lv_iconst (v := 5) hx hb dL_law_602 (by decide) ?_
  refine lv_iadd hx hb dL_law_603 ?_
  refine lv_cst (v := 5) (by decide) ?_
  refine va_sld hx hb hX hbl hbA hH.2.1 (iIn (by decide) (by decide)) dL_law_604 ?_
  refine lv_topi (fun vq5_ e_vq5_ => ?_)
  refine jif_eq (tgt := 612) hx hb dL_law_605 (by decide) (fun cq6_ => ?_) (fun cq6_ => ?_)
  · skip
    have cq6_ : vq5_.toInt = 0 := cq6_
    refine lv_iconst (v := 0) hx hb dL_law_612 (by decide) ?_
    refine goI hK hH (runV (As := [.int vq1_, .int vq2_, .int vq3_, .int vq4_, .int 0]) (rest := []) hC hK hH (c_X9_forge hc_ro hc_w) mlL_63 (rcvM hK hH hc_ro rfl) ⟨⟨Nat.le_of_ble_eq_true rfl, Nat.le_of_ble_eq_true rfl⟩, Nat.le_of_ble_eq_true rfl, Nat.le_of_ble_eq_true rfl⟩ rfl hl.1 rfl (Nat.le_of_ble_eq_true rfl) dL_law_613) (fun rq9_ Mq7_ Tq8_ Hq_ lcq_ hP hz hH => ?_)
    try dsimp only at hP
    obtain ⟨(rfl), eT, hfr⟩ := hP
    have eT := eT.symm; subst eT
    have hc_ro : Mq7_ ro = some (.inr (7, [.ref w, .ref im, .ref rd, .ref rc, .ref cu])) := (hfr ro n_ro_w).trans hc_ro
    have hc_cs : Mq7_ cs = some (.inl (kA 0, 8, .inl (c100 (fun _ => 0)))) := (hfr cs n_cs_w).trans hc_cs
    have hc_im : Mq7_ im = some (.inl (kA 6, 3, .inr (.inr (.inr (.inr (fun _ => none)))))) := (hfr im n_im_w).trans hc_im
    have hc_rd : Mq7_ rd = some (.inr (3, [.ref nb, .ref vb, .int 0, .int 0, .ref by_, .int 0, .int 0, .int 0, .int 0, .int 0])) := (hfr rd n_rd_w).trans hc_rd
    have hc_mo : Mq7_ mo = some (.inr (8, [.ref al, .ref mt, .ref ii, .int 0, .int (-1), .ref pa, .int 0, .int 0, .int 0, .int 0, .int 0, .long 0, .int 0, .ref li])) := (hfr mo n_mo_w).trans hc_mo
    have hc_al : Mq7_ al = some (.inl (kA 0, 7506, .inl F)) := (hfr al n_al_w).trans hc_al
    have hc_ii : Mq7_ ii = some (.inl (kA 2, 3, .inl (fun _ => 0))) := (hfr ii n_ii_w).trans hc_ii
    refine lv_aload_n hx hb dL_law_616 rfl (lv_at hl 1 rfl) ?_
    refine lv_aload_n hx hb dL_law_617 rfl (lv_at hl 3 rfl) ?_
    refine lv_iload_n hx hb dL_law_618 rfl (lv_at hl 0 rfl) ?_
    refine lv_iconst (v := 1) hx hb dL_law_619 (by decide) ?_
    refine lv_iadd hx hb dL_law_620 ?_
    refine lv_cst (v := 1) (by decide) ?_
    refine va_sld hx hb hX hbl hbA hH.2.1 (iIn (by decide) (by decide)) dL_law_621 ?_
    refine lv_cst (v := vq1_) e_vq1_.symm ?_
    refine lv_aload_n hx hb dL_law_622 rfl (lv_at hl 3 rfl) ?_
    refine lv_iload_n hx hb dL_law_623 rfl (lv_at hl 0 rfl) ?_
    refine lv_iconst (v := 2) hx hb dL_law_624 (by decide) ?_
    refine lv_iadd hx hb dL_law_625 ?_
    refine lv_cst (v := 2) (by decide) ?_
    refine va_sld hx hb hX hbl hbA hH.2.1 (iIn (by decide) (by decide)) dL_law_626 ?_
    refine lv_cst (v := vq2_) e_vq2_.symm ?_
    refine lv_aload_n hx hb dL_law_627 rfl (lv_at hl 3 rfl) ?_
    refine lv_iload_n hx hb dL_law_628 rfl (lv_at hl 0 rfl) ?_
    refine lv_iconst (v := 3) hx hb dL_law_629 (by decide) ?_
    refine lv_iadd hx hb dL_law_630 ?_
    refine lv_cst (v := 3) (by decide) ?_
    refine va_sld hx hb hX hbl hbA hH.2.1 (iIn (by decide) (by decide)) dL_law_631 ?_
    refine lv_cst (v := vq3_) e_vq3_.symm ?_
    refine lv_aload_n hx hb dL_law_632 rfl (lv_at hl 3 rfl) ?_
    refine lv_iload_n hx hb dL_law_633 rfl (lv_at hl 0 rfl) ?_
    refine lv_iconst (v := 4) hx hb dL_law_634 (by decide) ?_
    refine lv_iadd hx hb dL_law_635 ?_
    refine lv_cst (v := 4) (by decide) ?_
    refine va_sld hx hb hX hbl hbA hH.2.1 (iIn (by decide) (by decide)) dL_law_636 ?_
    refine lv_cst (v := vq4_) e_vq4_.symm ?_
    refine lv_aload_n hx hb dL_law_637 rfl (lv_at hl 3 rfl) ?_
    refine lv_iload_n hx hb dL_law_638 rfl (lv_at hl 0 rfl) ?_
    refine lv_iconst (v := 5) hx hb dL_law_639 (by decide) ?_
    refine lv_iadd hx hb dL_law_640 ?_
    refine lv_cst (v := 5) (by decide) ?_
    refine va_sld hx hb hX hbl hbA hH.2.1 (iIn (by decide) (by decide)) dL_law_641 ?_
    refine lv_cst (v := vq5_) e_vq5_.symm ?_
    refine jif_eq (tgt := 649) hx hb dL_law_642 (by decide) (fun cq10_ => ?_) (fun cq10_ => absurd cq10_ (by have := iRg vq5_; have : (0 : Int32).toInt = 0 := rfl; omega))
    have cq10_ : vq5_.toInt = 0 := cq10_
    refine lv_iconst (v := 0) hx hb dL_law_649 (by decide) ?_
    refine goI hK hH (runV (As := [.int vq1_, .int vq2_, .int vq3_, .int vq4_, .int 0]) (rest := [.int 30]) hC hK hH (c_X10_forge hc_mo hc_al hFi) mlL_66 (rcvM hK hH hc_mo rfl) ⟨⟨Nat.le_of_ble_eq_true rfl, Nat.le_of_ble_eq_true rfl⟩, Nat.le_of_ble_eq_true rfl, Nat.le_of_ble_eq_true rfl⟩ rfl hl.1 rfl (Nat.le_of_ble_eq_true rfl) dL_law_650) (fun rq13_ Mq11_ Tq12_ Hq_ lcq_ hP hz hH => ?_)
    try dsimp only at hP
    obtain ⟨(rfl), eT, hfr⟩ := hP
    have eT := eT.symm; subst eT
    have hc_ro : Mq11_ ro = some (.inr (7, [.ref w, .ref im, .ref rd, .ref rc, .ref cu])) := (hfr ro n_ro_al).trans hc_ro
    have hc_cs : Mq11_ cs = some (.inl (kA 0, 8, .inl (c100 (fun _ => 0)))) := (hfr cs n_cs_al).trans hc_cs
    have hc_im : Mq11_ im = some (.inl (kA 6, 3, .inr (.inr (.inr (.inr (fun _ => none)))))) := (hfr im n_im_al).trans hc_im
    have hc_rd : Mq11_ rd = some (.inr (3, [.ref nb, .ref vb, .int 0, .int 0, .ref by_, .int 0, .int 0, .int 0, .int 0, .int 0])) := (hfr rd n_rd_al).trans hc_rd
    have hc_mo : Mq11_ mo = some (.inr (8, [.ref al, .ref mt, .ref ii, .int 0, .int (-1), .ref pa, .int 0, .int 0, .int 0, .int 0, .int 0, .long 0, .int 0, .ref li])) := (hfr mo n_mo_al).trans hc_mo
    have hc_ii : Mq11_ ii = some (.inl (kA 2, 3, .inl (fun _ => 0))) := (hfr ii n_ii_al).trans hc_ii
    refine jic_eq (tgt := 1370) hx hb dL_law_653 (by decide) (fun cq14_ => ?_) (fun cq14_ => absurd cq14_ (by decide))
    exact law_tail C0 hAq hH.2.1 (lv_sub hl [0, 3] rfl) (Nat.le_of_ble_eq_true rfl) (Nat.le_of_ble_eq_true rfl)
  · skip
    have cq6_ : vq5_.toInt ≠ 0 := cq6_
    refine lv_iconst (v := 1) hx hb dL_law_608 (by decide) ?_
    refine lv_goto (tgt := 613) hx hb dL_law_609 (by decide) ?_
    refine goI hK hH (runV (As := [.int vq1_, .int vq2_, .int vq3_, .int vq4_, .int 1]) (rest := []) hC hK hH (c_X9_forge hc_ro hc_w) mlL_63 (rcvM hK hH hc_ro rfl) ⟨⟨Nat.le_of_ble_eq_true rfl, Nat.le_of_ble_eq_true rfl⟩, Nat.le_of_ble_eq_true rfl, Nat.le_of_ble_eq_true rfl⟩ rfl hl.1 rfl (Nat.le_of_ble_eq_true rfl) dL_law_613) (fun rq17_ Mq15_ Tq16_ Hq_ lcq_ hP hz hH => ?_)
    try dsimp only at hP
    obtain ⟨(rfl), eT, hfr⟩ := hP
    have eT := eT.symm; subst eT
    have hc_ro : Mq15_ ro = some (.inr (7, [.ref w, .ref im, .ref rd, .ref rc, .ref cu])) := (hfr ro n_ro_w).trans hc_ro
    have hc_cs : Mq15_ cs = some (.inl (kA 0, 8, .inl (c100 (fun _ => 0)))) := (hfr cs n_cs_w).trans hc_cs
    have hc_im : Mq15_ im = some (.inl (kA 6, 3, .inr (.inr (.inr (.inr (fun _ => none)))))) := (hfr im n_im_w).trans hc_im
    have hc_rd : Mq15_ rd = some (.inr (3, [.ref nb, .ref vb, .int 0, .int 0, .ref by_, .int 0, .int 0, .int 0, .int 0, .int 0])) := (hfr rd n_rd_w).trans hc_rd
    have hc_mo : Mq15_ mo = some (.inr (8, [.ref al, .ref mt, .ref ii, .int 0, .int (-1), .ref pa, .int 0, .int 0, .int 0, .int 0, .int 0, .long 0, .int 0, .ref li])) := (hfr mo n_mo_w).trans hc_mo
    have hc_al : Mq15_ al = some (.inl (kA 0, 7506, .inl F)) := (hfr al n_al_w).trans hc_al
    have hc_ii : Mq15_ ii = some (.inl (kA 2, 3, .inl (fun _ => 0))) := (hfr ii n_ii_w).trans hc_ii
    refine lv_aload_n hx hb dL_law_616 rfl (lv_at hl 1 rfl) ?_
    refine lv_aload_n hx hb dL_law_617 rfl (lv_at hl 3 rfl) ?_
    refine lv_iload_n hx hb dL_law_618 rfl (lv_at hl 0 rfl) ?_
    refine lv_iconst (v := 1) hx hb dL_law_619 (by decide) ?_
    refine lv_iadd hx hb dL_law_620 ?_
    refine lv_cst (v := 1) (by decide) ?_
    refine va_sld hx hb hX hbl hbA hH.2.1 (iIn (by decide) (by decide)) dL_law_621 ?_
    refine lv_cst (v := vq1_) e_vq1_.symm ?_
    refine lv_aload_n hx hb dL_law_622 rfl (lv_at hl 3 rfl) ?_
    refine lv_iload_n hx hb dL_law_623 rfl (lv_at hl 0 rfl) ?_
    refine lv_iconst (v := 2) hx hb dL_law_624 (by decide) ?_
    refine lv_iadd hx hb dL_law_625 ?_
    refine lv_cst (v := 2) (by decide) ?_
    refine va_sld hx hb hX hbl hbA hH.2.1 (iIn (by decide) (by decide)) dL_law_626 ?_
    refine lv_cst (v := vq2_) e_vq2_.symm ?_
    refine lv_aload_n hx hb dL_law_627 rfl (lv_at hl 3 rfl) ?_
    refine lv_iload_n hx hb dL_law_628 rfl (lv_at hl 0 rfl) ?_
    refine lv_iconst (v := 3) hx hb dL_law_629 (by decide) ?_
    refine lv_iadd hx hb dL_law_630 ?_
    refine lv_cst (v := 3) (by decide) ?_
    refine va_sld hx hb hX hbl hbA hH.2.1 (iIn (by decide) (by decide)) dL_law_631 ?_
    refine lv_cst (v := vq3_) e_vq3_.symm ?_
    refine lv_aload_n hx hb dL_law_632 rfl (lv_at hl 3 rfl) ?_
    refine lv_iload_n hx hb dL_law_633 rfl (lv_at hl 0 rfl) ?_
    refine lv_iconst (v := 4) hx hb dL_law_634 (by decide) ?_
    refine lv_iadd hx hb dL_law_635 ?_
    refine lv_cst (v := 4) (by decide) ?_
    refine va_sld hx hb hX hbl hbA hH.2.1 (iIn (by decide) (by decide)) dL_law_636 ?_
    refine lv_cst (v := vq4_) e_vq4_.symm ?_
    refine lv_aload_n hx hb dL_law_637 rfl (lv_at hl 3 rfl) ?_
    refine lv_iload_n hx hb dL_law_638 rfl (lv_at hl 0 rfl) ?_
    refine lv_iconst (v := 5) hx hb dL_law_639 (by decide) ?_
    refine lv_iadd hx hb dL_law_640 ?_
    refine lv_cst (v := 5) (by decide) ?_
    refine va_sld hx hb hX hbl hbA hH.2.1 (iIn (by decide) (by decide)) dL_law_641 ?_
    refine lv_cst (v := vq5_) e_vq5_.symm ?_
    refine jif_eq (tgt := 649) hx hb dL_law_642 (by decide) (fun cq18_ => ?_) (fun cq18_ => ?_)
    · skip
      have cq18_ : vq5_.toInt = 0 := cq18_
      refine lv_iconst (v := 0) hx hb dL_law_649 (by decide) ?_
      refine goI hK hH (runV (As := [.int vq1_, .int vq2_, .int vq3_, .int vq4_, .int 0]) (rest := [.int 30]) hC hK hH (c_X10_forge hc_mo hc_al hFi) mlL_66 (rcvM hK hH hc_mo rfl) ⟨⟨Nat.le_of_ble_eq_true rfl, Nat.le_of_ble_eq_true rfl⟩, Nat.le_of_ble_eq_true rfl, Nat.le_of_ble_eq_true rfl⟩ rfl hl.1 rfl (Nat.le_of_ble_eq_true rfl) dL_law_650) (fun rq21_ Mq19_ Tq20_ Hq_ lcq_ hP hz hH => ?_)
      try dsimp only at hP
      obtain ⟨(rfl), eT, hfr⟩ := hP
      have eT := eT.symm; subst eT
      have hc_ro : Mq19_ ro = some (.inr (7, [.ref w, .ref im, .ref rd, .ref rc, .ref cu])) := (hfr ro n_ro_al).trans hc_ro
      have hc_cs : Mq19_ cs = some (.inl (kA 0, 8, .inl (c100 (fun _ => 0)))) := (hfr cs n_cs_al).trans hc_cs
      have hc_im : Mq19_ im = some (.inl (kA 6, 3, .inr (.inr (.inr (.inr (fun _ => none)))))) := (hfr im n_im_al).trans hc_im
      have hc_rd : Mq19_ rd = some (.inr (3, [.ref nb, .ref vb, .int 0, .int 0, .ref by_, .int 0, .int 0, .int 0, .int 0, .int 0])) := (hfr rd n_rd_al).trans hc_rd
      have hc_mo : Mq19_ mo = some (.inr (8, [.ref al, .ref mt, .ref ii, .int 0, .int (-1), .ref pa, .int 0, .int 0, .int 0, .int 0, .int 0, .long 0, .int 0, .ref li])) := (hfr mo n_mo_al).trans hc_mo
      have hc_ii : Mq19_ ii = some (.inl (kA 2, 3, .inl (fun _ => 0))) := (hfr ii n_ii_al).trans hc_ii
      refine jic_eq (tgt := 1370) hx hb dL_law_653 (by decide) (fun cq22_ => ?_) (fun cq22_ => absurd cq22_ (by decide))
      exact law_tail C0 hAq hH.2.1 (lv_sub hl [0, 3] rfl) (Nat.le_of_ble_eq_true rfl) (Nat.le_of_ble_eq_true rfl)
    · skip
      have cq18_ : vq5_.toInt ≠ 0 := cq18_
      refine lv_iconst (v := 1) hx hb dL_law_645 (by decide) ?_
      refine lv_goto (tgt := 650) hx hb dL_law_646 (by decide) ?_
      refine goI hK hH (runV (As := [.int vq1_, .int vq2_, .int vq3_, .int vq4_, .int 1]) (rest := [.int 30]) hC hK hH (c_X10_forge hc_mo hc_al hFi) mlL_66 (rcvM hK hH hc_mo rfl) ⟨⟨Nat.le_of_ble_eq_true rfl, Nat.le_of_ble_eq_true rfl⟩, Nat.le_of_ble_eq_true rfl, Nat.le_of_ble_eq_true rfl⟩ rfl hl.1 rfl (Nat.le_of_ble_eq_true rfl) dL_law_650) (fun rq25_ Mq23_ Tq24_ Hq_ lcq_ hP hz hH => ?_)
      try dsimp only at hP
      obtain ⟨(rfl), eT, hfr⟩ := hP
      have eT := eT.symm; subst eT
      have hc_ro : Mq23_ ro = some (.inr (7, [.ref w, .ref im, .ref rd, .ref rc, .ref cu])) := (hfr ro n_ro_al).trans hc_ro
      have hc_cs : Mq23_ cs = some (.inl (kA 0, 8, .inl (c100 (fun _ => 0)))) := (hfr cs n_cs_al).trans hc_cs
      have hc_im : Mq23_ im = some (.inl (kA 6, 3, .inr (.inr (.inr (.inr (fun _ => none)))))) := (hfr im n_im_al).trans hc_im
      have hc_rd : Mq23_ rd = some (.inr (3, [.ref nb, .ref vb, .int 0, .int 0, .ref by_, .int 0, .int 0, .int 0, .int 0, .int 0])) := (hfr rd n_rd_al).trans hc_rd
      have hc_mo : Mq23_ mo = some (.inr (8, [.ref al, .ref mt, .ref ii, .int 0, .int (-1), .ref pa, .int 0, .int 0, .int 0, .int 0, .int 0, .long 0, .int 0, .ref li])) := (hfr mo n_mo_al).trans hc_mo
      have hc_ii : Mq23_ ii = some (.inl (kA 2, 3, .inl (fun _ => 0))) := (hfr ii n_ii_al).trans hc_ii
      refine jic_eq (tgt := 1370) hx hb dL_law_653 (by decide) (fun cq26_ => ?_) (fun cq26_ => absurd cq26_ (by decide))
      exact law_tail C0 hAq hH.2.1 (lv_sub hl [0, 3] rfl) (Nat.le_of_ble_eq_true rfl) (Nat.le_of_ble_eq_true rfl)
set_option maxHeartbeats 4000000 in
set_option maxRecDepth 100000 in
theorem law_case_12 {p : Program} {e : Env} {s : State} {m : MethodId} {below : List Frame} {meth : Method} {c : Code} {l : Launch} {b : Nat} {xs : Nat → Int32} (C0 : lw_At p s m meth c b 6 xs) {D : va_G} {kA : Nat → ClassId} (hK : mK D kA s) {M : mM} {T : mT} {A : Nat → Prop} (hAq : ∀ q, A q → s.heap.size ≤ q) {Hq_ : Heap} {lcq_ : List Loc} {ls : Array Slot} {ro w im rd rc cu cs bs tp nb by_ vb mo al mt ii pa li : Nat} {F : Nat → Int32} (hc_ro : M ro = some (.inr (7, [.ref w, .ref im, .ref rd, .ref rc, .ref cu]))) (hc_w : M w = some (.inr (6, [.int 0, .int 2, .int 0, .int 0, .int 0, .int 0, .int 0, .int (-1), .ref cs, .ref bs, .ref tp]))) (hc_cs : M cs = some (.inl (kA 0, 8, .inl (c100 (fun _ => 0))))) (hc_im : M im = some (.inl (kA 6, 3, .inr (.inr (.inr (.inr (fun _ => none))))))) (hc_rd : M rd = some (.inr (3, [.ref nb, .ref vb, .int 0, .int 0, .ref by_, .int 0, .int 0, .int 0, .int 0, .int 0]))) (hc_mo : M mo = some (.inr (8, [.ref al, .ref mt, .ref ii, .int 0, .int (-1), .ref pa, .int 0, .int 0, .int 0, .int 0, .int 0, .long 0, .int 0, .ref li]))) (hc_al : M al = some (.inl (kA 0, 7506, .inl F))) (hc_ii : M ii = some (.inl (kA 2, 3, .inl (fun _ => 0)))) (ht_bs : T bs = some 6) (ht_tp : T tp = some 7) (ht_mt : T mt = some 11) (hFi : ∀ j, j < 1140 → F j = mIni j) (hH : mS D kA M T A s.heap Hq_ lcq_) (hl : lv_has ls 4 [(3, .int 0), (2, .ref mo), (1, .ref ro), (0, .ref b)]) : W p l e room_1 s m #[Value.ref b] below meth c Hq_ lcq_ 156 11688 (lw_Z below #[Value.ref b] s) (F0 m 658 ls []) := by
  obtain ⟨hx, hb, hr, hml, hown, hts, hX, hbl, hlocks, hgv⟩ := id C0
  have hC : CallFix p m c cL_law 4 s #[Value.ref b] TB RL := ⟨hx, hb, hml, hown, fun w h => hts w (TB_in h)⟩
  have hbA : ¬ A b := fun h => absurd (hAq b h) (Nat.not_le.mpr hbl)
  have n_ro_w : ro ≠ w := neM hc_ro hc_w (by simp)
  have n_ro_cs : ro ≠ cs := neM hc_ro hc_cs (by simp)
  have n_ro_im : ro ≠ im := neM hc_ro hc_im (by simp)
  have n_ro_rd : ro ≠ rd := neM hc_ro hc_rd (by simp)
  have n_ro_mo : ro ≠ mo := neM hc_ro hc_mo (by simp)
  have n_ro_al : ro ≠ al := neM hc_ro hc_al (by simp)
  have n_ro_ii : ro ≠ ii := neM hc_ro hc_ii (by simp)
  have n_w_ro : w ≠ ro := neM hc_w hc_ro (by simp)
  have n_w_cs : w ≠ cs := neM hc_w hc_cs (by simp)
  have n_w_im : w ≠ im := neM hc_w hc_im (by simp)
  have n_w_rd : w ≠ rd := neM hc_w hc_rd (by simp)
  have n_w_mo : w ≠ mo := neM hc_w hc_mo (by simp)
  have n_w_al : w ≠ al := neM hc_w hc_al (by simp)
  have n_w_ii : w ≠ ii := neM hc_w hc_ii (by simp)
  have n_cs_ro : cs ≠ ro := neM hc_cs hc_ro (by simp)
  have n_cs_w : cs ≠ w := neM hc_cs hc_w (by simp)
  have n_cs_im : cs ≠ im := neM hc_cs hc_im (by simp)
  have n_cs_rd : cs ≠ rd := neM hc_cs hc_rd (by simp)
  have n_cs_mo : cs ≠ mo := neM hc_cs hc_mo (by simp)
  have n_cs_al : cs ≠ al := neM hc_cs hc_al (by simp)
  have n_cs_ii : cs ≠ ii := neM hc_cs hc_ii (by simp)
  have n_im_ro : im ≠ ro := neM hc_im hc_ro (by simp)
  have n_im_w : im ≠ w := neM hc_im hc_w (by simp)
  have n_im_cs : im ≠ cs := neM hc_im hc_cs (by simp)
  have n_im_rd : im ≠ rd := neM hc_im hc_rd (by simp)
  have n_im_mo : im ≠ mo := neM hc_im hc_mo (by simp)
  have n_im_al : im ≠ al := neM hc_im hc_al (by simp)
  have n_im_ii : im ≠ ii := neM hc_im hc_ii (by simp)
  have n_rd_ro : rd ≠ ro := neM hc_rd hc_ro (by simp)
  have n_rd_w : rd ≠ w := neM hc_rd hc_w (by simp)
  have n_rd_cs : rd ≠ cs := neM hc_rd hc_cs (by simp)
  have n_rd_im : rd ≠ im := neM hc_rd hc_im (by simp)
  have n_rd_mo : rd ≠ mo := neM hc_rd hc_mo (by simp)
  have n_rd_al : rd ≠ al := neM hc_rd hc_al (by simp)
  have n_rd_ii : rd ≠ ii := neM hc_rd hc_ii (by simp)
  have n_mo_ro : mo ≠ ro := neM hc_mo hc_ro (by simp)
  have n_mo_w : mo ≠ w := neM hc_mo hc_w (by simp)
  have n_mo_cs : mo ≠ cs := neM hc_mo hc_cs (by simp)
  have n_mo_im : mo ≠ im := neM hc_mo hc_im (by simp)
  have n_mo_rd : mo ≠ rd := neM hc_mo hc_rd (by simp)
  have n_mo_al : mo ≠ al := neM hc_mo hc_al (by simp)
  have n_mo_ii : mo ≠ ii := neM hc_mo hc_ii (by simp)
  have n_al_ro : al ≠ ro := neM hc_al hc_ro (by simp)
  have n_al_w : al ≠ w := neM hc_al hc_w (by simp)
  have n_al_cs : al ≠ cs := neM hc_al hc_cs (by simp)
  have n_al_im : al ≠ im := neM hc_al hc_im (by simp)
  have n_al_rd : al ≠ rd := neM hc_al hc_rd (by simp)
  have n_al_mo : al ≠ mo := neM hc_al hc_mo (by simp)
  have n_al_ii : al ≠ ii := neM hc_al hc_ii (by simp)
  have n_ii_ro : ii ≠ ro := neM hc_ii hc_ro (by simp)
  have n_ii_w : ii ≠ w := neM hc_ii hc_w (by simp)
  have n_ii_cs : ii ≠ cs := neM hc_ii hc_cs (by simp)
  have n_ii_im : ii ≠ im := neM hc_ii hc_im (by simp)
  have n_ii_rd : ii ≠ rd := neM hc_ii hc_rd (by simp)
  have n_ii_mo : ii ≠ mo := neM hc_ii hc_mo (by simp)
  have n_ii_al : ii ≠ al := neM hc_ii hc_al (by simp)
  refine lv_aload_n hx hb dL_law_658 rfl (lv_at hl 2 rfl) ?_
  refine lv_aload_n hx hb dL_law_659 rfl (lv_at hl 3 rfl) ?_
  refine lv_iload_n hx hb dL_law_660 rfl (lv_at hl 0 rfl) ?_
  refine lv_iconst (v := 1) hx hb dL_law_661 (by decide) ?_
  refine lv_iadd hx hb dL_law_662 ?_
  refine lv_cst (v := 1) (by decide) ?_
  refine va_sld hx hb hX hbl hbA hH.2.1 (iIn (by decide) (by decide)) dL_law_663 ?_
  refine lv_topi (fun vq1_ e_vq1_ => ?_)
  refine lv_aload_n hx hb dL_law_664 rfl (lv_at hl 3 rfl) ?_
  refine lv_iload_n hx hb dL_law_665 rfl (lv_at hl 0 rfl) ?_
  refine lv_iconst (v := 2) hx hb dL_law_666 (by decide) ?_
  refine lv_iadd hx hb dL_law_667 ?_
  refine lv_cst (v := 2) (by decide) ?_
  refine va_sld hx hb hX hbl hbA hH.2.1 (iIn (by decide) (by decide)) dL_law_668 ?_
  refine lv_topi (fun vq2_ e_vq2_ => ?_)
  refine goI hK hH (runV (As := [.int vq1_, .int vq2_]) (rest := []) hC hK hH (c_X9_find hc_ro hc_w) mlL_67 (rcvM hK hH hc_ro rfl) ⟨⟨Nat.le_of_ble_eq_true rfl, Nat.le_of_ble_eq_true rfl⟩, Nat.le_of_ble_eq_true rfl, Nat.le_of_ble_eq_true rfl⟩ rfl hl.1 rfl (Nat.le_of_ble_eq_true rfl) dL_law_669) (fun rq5_ Mq3_ Tq4_ Hq_ lcq_ hP hz hH => ?_)
  try dsimp only at hP
  obtain ⟨(rfl), eT, hfr⟩ := hP
  have eT := eT.symm; subst eT
  have hc_ro : Mq3_ ro = some (.inr (7, [.ref w, .ref im, .ref rd, .ref rc, .ref cu])) := (hfr ro n_ro_w).trans hc_ro
  have hc_cs : Mq3_ cs = some (.inl (kA 0, 8, .inl (c100 (fun _ => 0)))) := (hfr cs n_cs_w).trans hc_cs
  have hc_im : Mq3_ im = some (.inl (kA 6, 3, .inr (.inr (.inr (.inr (fun _ => none)))))) := (hfr im n_im_w).trans hc_im
  have hc_rd : Mq3_ rd = some (.inr (3, [.ref nb, .ref vb, .int 0, .int 0, .ref by_, .int 0, .int 0, .int 0, .int 0, .int 0])) := (hfr rd n_rd_w).trans hc_rd
  have hc_mo : Mq3_ mo = some (.inr (8, [.ref al, .ref mt, .ref ii, .int 0, .int (-1), .ref pa, .int 0, .int 0, .int 0, .int 0, .int 0, .long 0, .int 0, .ref li])) := (hfr mo n_mo_w).trans hc_mo
  have hc_al : Mq3_ al = some (.inl (kA 0, 7506, .inl F)) := (hfr al n_al_w).trans hc_al
  have hc_ii : Mq3_ ii = some (.inl (kA 2, 3, .inl (fun _ => 0))) := (hfr ii n_ii_w).trans hc_ii
  refine lv_aload_n hx hb dL_law_672 rfl (lv_at hl 1 rfl) ?_
  refine lv_aload_n hx hb dL_law_673 rfl (lv_at hl 3 rfl) ?_
  refine lv_iload_n hx hb dL_law_674 rfl (lv_at hl 0 rfl) ?_
  refine lv_iconst (v := 1) hx hb dL_law_675 (by decide) ?_
  refine lv_iadd hx hb dL_law_676 ?_
  refine lv_cst (v := 1) (by decide) ?_
  refine va_sld hx hb hX hbl hbA hH.2.1 (iIn (by decide) (by decide)) dL_law_677 ?_
  refine lv_cst (v := vq1_) e_vq1_.symm ?_
  refine lv_aload_n hx hb dL_law_678 rfl (lv_at hl 3 rfl) ?_
  refine lv_iload_n hx hb dL_law_679 rfl (lv_at hl 0 rfl) ?_
  refine lv_iconst (v := 2) hx hb dL_law_680 (by decide) ?_
  refine lv_iadd hx hb dL_law_681 ?_
  refine lv_cst (v := 2) (by decide) ?_
  refine va_sld hx hb hX hbl hbA hH.2.1 (iIn (by decide) (by decide)) dL_law_682 ?_
  refine lv_cst (v := vq2_) e_vq2_.symm ?_
  refine goI hK hH (runV (As := [.int vq1_, .int vq2_]) (rest := [.int 30]) hC hK hH (c_X10_find hc_mo hc_al hFi) mlL_70 (rcvM hK hH hc_mo rfl) ⟨⟨Nat.le_of_ble_eq_true rfl, Nat.le_of_ble_eq_true rfl⟩, Nat.le_of_ble_eq_true rfl, Nat.le_of_ble_eq_true rfl⟩ rfl hl.1 rfl (Nat.le_of_ble_eq_true rfl) dL_law_683) (fun rq8_ Mq6_ Tq7_ Hq_ lcq_ hP hz hH => ?_)
  try dsimp only at hP
  obtain ⟨(rfl), eT, hfr⟩ := hP
  have eT := eT.symm; subst eT
  have hc_ro : Mq6_ ro = some (.inr (7, [.ref w, .ref im, .ref rd, .ref rc, .ref cu])) := (hfr ro n_ro_al).trans hc_ro
  have hc_cs : Mq6_ cs = some (.inl (kA 0, 8, .inl (c100 (fun _ => 0)))) := (hfr cs n_cs_al).trans hc_cs
  have hc_im : Mq6_ im = some (.inl (kA 6, 3, .inr (.inr (.inr (.inr (fun _ => none)))))) := (hfr im n_im_al).trans hc_im
  have hc_rd : Mq6_ rd = some (.inr (3, [.ref nb, .ref vb, .int 0, .int 0, .ref by_, .int 0, .int 0, .int 0, .int 0, .int 0])) := (hfr rd n_rd_al).trans hc_rd
  have hc_mo : Mq6_ mo = some (.inr (8, [.ref al, .ref mt, .ref ii, .int 0, .int (-1), .ref pa, .int 0, .int 0, .int 0, .int 0, .int 0, .long 0, .int 0, .ref li])) := (hfr mo n_mo_al).trans hc_mo
  have hc_ii : Mq6_ ii = some (.inl (kA 2, 3, .inl (fun _ => 0))) := (hfr ii n_ii_al).trans hc_ii
  refine jic_eq (tgt := 1370) hx hb dL_law_686 (by decide) (fun cq9_ => ?_) (fun cq9_ => absurd cq9_ (by decide))
  exact law_tail C0 hAq hH.2.1 (lv_sub hl [0, 3] rfl) (Nat.le_of_ble_eq_true rfl) (Nat.le_of_ble_eq_true rfl)
set_option maxHeartbeats 4000000 in
set_option maxRecDepth 100000 in
theorem law_case_13 {p : Program} {e : Env} {s : State} {m : MethodId} {below : List Frame} {meth : Method} {c : Code} {l : Launch} {b : Nat} {xs : Nat → Int32} (C0 : lw_At p s m meth c b 6 xs) {D : va_G} {kA : Nat → ClassId} (hK : mK D kA s) {M : mM} {T : mT} {A : Nat → Prop} (hAq : ∀ q, A q → s.heap.size ≤ q) {Hq_ : Heap} {lcq_ : List Loc} {ls : Array Slot} {ro w im rd rc cu cs bs tp nb by_ vb mo al mt ii pa li : Nat} {F : Nat → Int32} (hc_ro : M ro = some (.inr (7, [.ref w, .ref im, .ref rd, .ref rc, .ref cu]))) (hc_w : M w = some (.inr (6, [.int 0, .int 2, .int 0, .int 0, .int 0, .int 0, .int 0, .int (-1), .ref cs, .ref bs, .ref tp]))) (hc_cs : M cs = some (.inl (kA 0, 8, .inl (c100 (fun _ => 0))))) (hc_im : M im = some (.inl (kA 6, 3, .inr (.inr (.inr (.inr (fun _ => none))))))) (hc_rd : M rd = some (.inr (3, [.ref nb, .ref vb, .int 0, .int 0, .ref by_, .int 0, .int 0, .int 0, .int 0, .int 0]))) (hc_mo : M mo = some (.inr (8, [.ref al, .ref mt, .ref ii, .int 0, .int (-1), .ref pa, .int 0, .int 0, .int 0, .int 0, .int 0, .long 0, .int 0, .ref li]))) (hc_al : M al = some (.inl (kA 0, 7506, .inl F))) (hc_ii : M ii = some (.inl (kA 2, 3, .inl (fun _ => 0)))) (ht_bs : T bs = some 6) (ht_tp : T tp = some 7) (ht_mt : T mt = some 11) (hFi : ∀ j, j < 1140 → F j = mIni j) (hH : mS D kA M T A s.heap Hq_ lcq_) (hl : lv_has ls 4 [(3, .int 0), (2, .ref mo), (1, .ref ro), (0, .ref b)]) : W p l e room_1 s m #[Value.ref b] below meth c Hq_ lcq_ 156 11688 (lw_Z below #[Value.ref b] s) (F0 m 691 ls []) := by
  obtain ⟨hx, hb, hr, hml, hown, hts, hX, hbl, hlocks, hgv⟩ := id C0
  have hC : CallFix p m c cL_law 4 s #[Value.ref b] TB RL := ⟨hx, hb, hml, hown, fun w h => hts w (TB_in h)⟩
  have hbA : ¬ A b := fun h => absurd (hAq b h) (Nat.not_le.mpr hbl)
  have n_ro_w : ro ≠ w := neM hc_ro hc_w (by simp)
  have n_ro_cs : ro ≠ cs := neM hc_ro hc_cs (by simp)
  have n_ro_im : ro ≠ im := neM hc_ro hc_im (by simp)
  have n_ro_rd : ro ≠ rd := neM hc_ro hc_rd (by simp)
  have n_ro_mo : ro ≠ mo := neM hc_ro hc_mo (by simp)
  have n_ro_al : ro ≠ al := neM hc_ro hc_al (by simp)
  have n_ro_ii : ro ≠ ii := neM hc_ro hc_ii (by simp)
  have n_w_ro : w ≠ ro := neM hc_w hc_ro (by simp)
  have n_w_cs : w ≠ cs := neM hc_w hc_cs (by simp)
  have n_w_im : w ≠ im := neM hc_w hc_im (by simp)
  have n_w_rd : w ≠ rd := neM hc_w hc_rd (by simp)
  have n_w_mo : w ≠ mo := neM hc_w hc_mo (by simp)
  have n_w_al : w ≠ al := neM hc_w hc_al (by simp)
  have n_w_ii : w ≠ ii := neM hc_w hc_ii (by simp)
  have n_cs_ro : cs ≠ ro := neM hc_cs hc_ro (by simp)
  have n_cs_w : cs ≠ w := neM hc_cs hc_w (by simp)
  have n_cs_im : cs ≠ im := neM hc_cs hc_im (by simp)
  have n_cs_rd : cs ≠ rd := neM hc_cs hc_rd (by simp)
  have n_cs_mo : cs ≠ mo := neM hc_cs hc_mo (by simp)
  have n_cs_al : cs ≠ al := neM hc_cs hc_al (by simp)
  have n_cs_ii : cs ≠ ii := neM hc_cs hc_ii (by simp)
  have n_im_ro : im ≠ ro := neM hc_im hc_ro (by simp)
  have n_im_w : im ≠ w := neM hc_im hc_w (by simp)
  have n_im_cs : im ≠ cs := neM hc_im hc_cs (by simp)
  have n_im_rd : im ≠ rd := neM hc_im hc_rd (by simp)
  have n_im_mo : im ≠ mo := neM hc_im hc_mo (by simp)
  have n_im_al : im ≠ al := neM hc_im hc_al (by simp)
  have n_im_ii : im ≠ ii := neM hc_im hc_ii (by simp)
  have n_rd_ro : rd ≠ ro := neM hc_rd hc_ro (by simp)
  have n_rd_w : rd ≠ w := neM hc_rd hc_w (by simp)
  have n_rd_cs : rd ≠ cs := neM hc_rd hc_cs (by simp)
  have n_rd_im : rd ≠ im := neM hc_rd hc_im (by simp)
  have n_rd_mo : rd ≠ mo := neM hc_rd hc_mo (by simp)
  have n_rd_al : rd ≠ al := neM hc_rd hc_al (by simp)
  have n_rd_ii : rd ≠ ii := neM hc_rd hc_ii (by simp)
  have n_mo_ro : mo ≠ ro := neM hc_mo hc_ro (by simp)
  have n_mo_w : mo ≠ w := neM hc_mo hc_w (by simp)
  have n_mo_cs : mo ≠ cs := neM hc_mo hc_cs (by simp)
  have n_mo_im : mo ≠ im := neM hc_mo hc_im (by simp)
  have n_mo_rd : mo ≠ rd := neM hc_mo hc_rd (by simp)
  have n_mo_al : mo ≠ al := neM hc_mo hc_al (by simp)
  have n_mo_ii : mo ≠ ii := neM hc_mo hc_ii (by simp)
  have n_al_ro : al ≠ ro := neM hc_al hc_ro (by simp)
  have n_al_w : al ≠ w := neM hc_al hc_w (by simp)
  have n_al_cs : al ≠ cs := neM hc_al hc_cs (by simp)
  have n_al_im : al ≠ im := neM hc_al hc_im (by simp)
  have n_al_rd : al ≠ rd := neM hc_al hc_rd (by simp)
  have n_al_mo : al ≠ mo := neM hc_al hc_mo (by simp)
  have n_al_ii : al ≠ ii := neM hc_al hc_ii (by simp)
  have n_ii_ro : ii ≠ ro := neM hc_ii hc_ro (by simp)
  have n_ii_w : ii ≠ w := neM hc_ii hc_w (by simp)
  have n_ii_cs : ii ≠ cs := neM hc_ii hc_cs (by simp)
  have n_ii_im : ii ≠ im := neM hc_ii hc_im (by simp)
  have n_ii_rd : ii ≠ rd := neM hc_ii hc_rd (by simp)
  have n_ii_mo : ii ≠ mo := neM hc_ii hc_mo (by simp)
  have n_ii_al : ii ≠ al := neM hc_ii hc_al (by simp)
  refine lv_aload_n hx hb dL_law_691 rfl (lv_at hl 2 rfl) ?_
  refine lv_aload_n hx hb dL_law_692 rfl (lv_at hl 3 rfl) ?_
  refine lv_iload_n hx hb dL_law_693 rfl (lv_at hl 0 rfl) ?_
  refine lv_iconst (v := 1) hx hb dL_law_694 (by decide) ?_
  refine lv_iadd hx hb dL_law_695 ?_
  refine lv_cst (v := 1) (by decide) ?_
  refine va_sld hx hb hX hbl hbA hH.2.1 (iIn (by decide) (by decide)) dL_law_696 ?_
  refine lv_topi (fun vq1_ e_vq1_ => ?_)
  refine lv_aload_n hx hb dL_law_697 rfl (lv_at hl 3 rfl) ?_
  refine lv_iload_n hx hb dL_law_698 rfl (lv_at hl 0 rfl) ?_
  refine lv_iconst (v := 2) hx hb dL_law_699 (by decide) ?_
  refine lv_iadd hx hb dL_law_700 ?_
  refine lv_cst (v := 2) (by decide) ?_
  refine va_sld hx hb hX hbl hbA hH.2.1 (iIn (by decide) (by decide)) dL_law_701 ?_
  refine lv_topi (fun vq2_ e_vq2_ => ?_)
  refine lv_aload_n hx hb dL_law_702 rfl (lv_at hl 3 rfl) ?_
  refine lv_iload_n hx hb dL_law_703 rfl (lv_at hl 0 rfl) ?_
  refine lv_iconst (v := 3) hx hb dL_law_704 (by decide) ?_
  refine lv_iadd hx hb dL_law_705 ?_
  refine lv_cst (v := 3) (by decide) ?_
  refine va_sld hx hb hX hbl hbA hH.2.1 (iIn (by decide) (by decide)) dL_law_706 ?_
  refine lv_topi (fun vq3_ e_vq3_ => ?_)
  refine jif_eq (tgt := 714) hx hb dL_law_707 (by decide) (fun cq4_ => ?_) (fun cq4_ => ?_)
  · skip
    have cq4_ : vq3_.toInt = 0 := cq4_
    refine lv_iconst (v := 0) hx hb dL_law_714 (by decide) ?_
    refine goI hK hH (runV (As := [.int vq1_, .int vq2_, .int 0]) (rest := []) hC hK hH (c_X9_defend hc_ro hc_w) mlL_71 (rcvM hK hH hc_ro rfl) ⟨⟨Nat.le_of_ble_eq_true rfl, Nat.le_of_ble_eq_true rfl⟩, Nat.le_of_ble_eq_true rfl, Nat.le_of_ble_eq_true rfl⟩ rfl hl.1 rfl (Nat.le_of_ble_eq_true rfl) dL_law_715) (fun rq7_ Mq5_ Tq6_ Hq_ lcq_ hP hz hH => ?_)
    try dsimp only at hP
    obtain ⟨(rfl), eT, hfr⟩ := hP
    have eT := eT.symm; subst eT
    have hc_ro : Mq5_ ro = some (.inr (7, [.ref w, .ref im, .ref rd, .ref rc, .ref cu])) := (hfr ro n_ro_w).trans hc_ro
    have hc_cs : Mq5_ cs = some (.inl (kA 0, 8, .inl (c100 (fun _ => 0)))) := (hfr cs n_cs_w).trans hc_cs
    have hc_im : Mq5_ im = some (.inl (kA 6, 3, .inr (.inr (.inr (.inr (fun _ => none)))))) := (hfr im n_im_w).trans hc_im
    have hc_rd : Mq5_ rd = some (.inr (3, [.ref nb, .ref vb, .int 0, .int 0, .ref by_, .int 0, .int 0, .int 0, .int 0, .int 0])) := (hfr rd n_rd_w).trans hc_rd
    have hc_mo : Mq5_ mo = some (.inr (8, [.ref al, .ref mt, .ref ii, .int 0, .int (-1), .ref pa, .int 0, .int 0, .int 0, .int 0, .int 0, .long 0, .int 0, .ref li])) := (hfr mo n_mo_w).trans hc_mo
    have hc_al : Mq5_ al = some (.inl (kA 0, 7506, .inl F)) := (hfr al n_al_w).trans hc_al
    have hc_ii : Mq5_ ii = some (.inl (kA 2, 3, .inl (fun _ => 0))) := (hfr ii n_ii_w).trans hc_ii
    refine lv_aload_n hx hb dL_law_718 rfl (lv_at hl 1 rfl) ?_
    refine lv_aload_n hx hb dL_law_719 rfl (lv_at hl 3 rfl) ?_
    refine lv_iload_n hx hb dL_law_720 rfl (lv_at hl 0 rfl) ?_
    refine lv_iconst (v := 1) hx hb dL_law_721 (by decide) ?_
    refine lv_iadd hx hb dL_law_722 ?_
    refine lv_cst (v := 1) (by decide) ?_
    refine va_sld hx hb hX hbl hbA hH.2.1 (iIn (by decide) (by decide)) dL_law_723 ?_
    refine lv_cst (v := vq1_) e_vq1_.symm ?_
    refine lv_aload_n hx hb dL_law_724 rfl (lv_at hl 3 rfl) ?_
    refine lv_iload_n hx hb dL_law_725 rfl (lv_at hl 0 rfl) ?_
    refine lv_iconst (v := 2) hx hb dL_law_726 (by decide) ?_
    refine lv_iadd hx hb dL_law_727 ?_
    refine lv_cst (v := 2) (by decide) ?_
    refine va_sld hx hb hX hbl hbA hH.2.1 (iIn (by decide) (by decide)) dL_law_728 ?_
    refine lv_cst (v := vq2_) e_vq2_.symm ?_
    refine lv_aload_n hx hb dL_law_729 rfl (lv_at hl 3 rfl) ?_
    refine lv_iload_n hx hb dL_law_730 rfl (lv_at hl 0 rfl) ?_
    refine lv_iconst (v := 3) hx hb dL_law_731 (by decide) ?_
    refine lv_iadd hx hb dL_law_732 ?_
    refine lv_cst (v := 3) (by decide) ?_
    refine va_sld hx hb hX hbl hbA hH.2.1 (iIn (by decide) (by decide)) dL_law_733 ?_
    refine lv_cst (v := vq3_) e_vq3_.symm ?_
    refine jif_eq (tgt := 741) hx hb dL_law_734 (by decide) (fun cq8_ => ?_) (fun cq8_ => absurd cq8_ (by have := iRg vq3_; have : (0 : Int32).toInt = 0 := rfl; omega))
    have cq8_ : vq3_.toInt = 0 := cq8_
    refine lv_iconst (v := 0) hx hb dL_law_741 (by decide) ?_
    refine goI hK hH (runV (As := [.int vq1_, .int vq2_, .int 0]) (rest := [.int 30]) hC hK hH (c_X10_defend hc_mo hc_al hFi) mlL_75 (rcvM hK hH hc_mo rfl) ⟨⟨Nat.le_of_ble_eq_true rfl, Nat.le_of_ble_eq_true rfl⟩, Nat.le_of_ble_eq_true rfl, Nat.le_of_ble_eq_true rfl⟩ rfl hl.1 rfl (Nat.le_of_ble_eq_true rfl) dL_law_742) (fun rq11_ Mq9_ Tq10_ Hq_ lcq_ hP hz hH => ?_)
    try dsimp only at hP
    obtain ⟨(rfl), eT, hfr⟩ := hP
    have eT := eT.symm; subst eT
    have hc_ro : Mq9_ ro = some (.inr (7, [.ref w, .ref im, .ref rd, .ref rc, .ref cu])) := (hfr ro n_ro_al).trans hc_ro
    have hc_cs : Mq9_ cs = some (.inl (kA 0, 8, .inl (c100 (fun _ => 0)))) := (hfr cs n_cs_al).trans hc_cs
    have hc_im : Mq9_ im = some (.inl (kA 6, 3, .inr (.inr (.inr (.inr (fun _ => none)))))) := (hfr im n_im_al).trans hc_im
    have hc_rd : Mq9_ rd = some (.inr (3, [.ref nb, .ref vb, .int 0, .int 0, .ref by_, .int 0, .int 0, .int 0, .int 0, .int 0])) := (hfr rd n_rd_al).trans hc_rd
    have hc_mo : Mq9_ mo = some (.inr (8, [.ref al, .ref mt, .ref ii, .int 0, .int (-1), .ref pa, .int 0, .int 0, .int 0, .int 0, .int 0, .long 0, .int 0, .ref li])) := (hfr mo n_mo_al).trans hc_mo
    have hc_ii : Mq9_ ii = some (.inl (kA 2, 3, .inl (fun _ => 0))) := (hfr ii n_ii_al).trans hc_ii
    refine jic_eq (tgt := 1370) hx hb dL_law_745 (by decide) (fun cq12_ => ?_) (fun cq12_ => absurd cq12_ (by decide))
    exact law_tail C0 hAq hH.2.1 (lv_sub hl [0, 3] rfl) (Nat.le_of_ble_eq_true rfl) (Nat.le_of_ble_eq_true rfl)
  · skip
    have cq4_ : vq3_.toInt ≠ 0 := cq4_
    refine lv_iconst (v := 1) hx hb dL_law_710 (by decide) ?_
    refine lv_goto (tgt := 715) hx hb dL_law_711 (by decide) ?_
    refine goI hK hH (runV (As := [.int vq1_, .int vq2_, .int 1]) (rest := []) hC hK hH (c_X9_defend hc_ro hc_w) mlL_71 (rcvM hK hH hc_ro rfl) ⟨⟨Nat.le_of_ble_eq_true rfl, Nat.le_of_ble_eq_true rfl⟩, Nat.le_of_ble_eq_true rfl, Nat.le_of_ble_eq_true rfl⟩ rfl hl.1 rfl (Nat.le_of_ble_eq_true rfl) dL_law_715) (fun rq15_ Mq13_ Tq14_ Hq_ lcq_ hP hz hH => ?_)
    try dsimp only at hP
    obtain ⟨(rfl), eT, hfr⟩ := hP
    have eT := eT.symm; subst eT
    have hc_ro : Mq13_ ro = some (.inr (7, [.ref w, .ref im, .ref rd, .ref rc, .ref cu])) := (hfr ro n_ro_w).trans hc_ro
    have hc_cs : Mq13_ cs = some (.inl (kA 0, 8, .inl (c100 (fun _ => 0)))) := (hfr cs n_cs_w).trans hc_cs
    have hc_im : Mq13_ im = some (.inl (kA 6, 3, .inr (.inr (.inr (.inr (fun _ => none)))))) := (hfr im n_im_w).trans hc_im
    have hc_rd : Mq13_ rd = some (.inr (3, [.ref nb, .ref vb, .int 0, .int 0, .ref by_, .int 0, .int 0, .int 0, .int 0, .int 0])) := (hfr rd n_rd_w).trans hc_rd
    have hc_mo : Mq13_ mo = some (.inr (8, [.ref al, .ref mt, .ref ii, .int 0, .int (-1), .ref pa, .int 0, .int 0, .int 0, .int 0, .int 0, .long 0, .int 0, .ref li])) := (hfr mo n_mo_w).trans hc_mo
    have hc_al : Mq13_ al = some (.inl (kA 0, 7506, .inl F)) := (hfr al n_al_w).trans hc_al
    have hc_ii : Mq13_ ii = some (.inl (kA 2, 3, .inl (fun _ => 0))) := (hfr ii n_ii_w).trans hc_ii
    refine lv_aload_n hx hb dL_law_718 rfl (lv_at hl 1 rfl) ?_
    refine lv_aload_n hx hb dL_law_719 rfl (lv_at hl 3 rfl) ?_
    refine lv_iload_n hx hb dL_law_720 rfl (lv_at hl 0 rfl) ?_
    refine lv_iconst (v := 1) hx hb dL_law_721 (by decide) ?_
    refine lv_iadd hx hb dL_law_722 ?_
    refine lv_cst (v := 1) (by decide) ?_
    refine va_sld hx hb hX hbl hbA hH.2.1 (iIn (by decide) (by decide)) dL_law_723 ?_
    refine lv_cst (v := vq1_) e_vq1_.symm ?_
    refine lv_aload_n hx hb dL_law_724 rfl (lv_at hl 3 rfl) ?_
    refine lv_iload_n hx hb dL_law_725 rfl (lv_at hl 0 rfl) ?_
    refine lv_iconst (v := 2) hx hb dL_law_726 (by decide) ?_
    refine lv_iadd hx hb dL_law_727 ?_
    refine lv_cst (v := 2) (by decide) ?_
    refine va_sld hx hb hX hbl hbA hH.2.1 (iIn (by decide) (by decide)) dL_law_728 ?_
    refine lv_cst (v := vq2_) e_vq2_.symm ?_
    refine lv_aload_n hx hb dL_law_729 rfl (lv_at hl 3 rfl) ?_
    refine lv_iload_n hx hb dL_law_730 rfl (lv_at hl 0 rfl) ?_
    refine lv_iconst (v := 3) hx hb dL_law_731 (by decide) ?_
    refine lv_iadd hx hb dL_law_732 ?_
    refine lv_cst (v := 3) (by decide) ?_
    refine va_sld hx hb hX hbl hbA hH.2.1 (iIn (by decide) (by decide)) dL_law_733 ?_
    refine lv_cst (v := vq3_) e_vq3_.symm ?_
    refine jif_eq (tgt := 741) hx hb dL_law_734 (by decide) (fun cq16_ => ?_) (fun cq16_ => ?_)
    · skip
      have cq16_ : vq3_.toInt = 0 := cq16_
      refine lv_iconst (v := 0) hx hb dL_law_741 (by decide) ?_
      refine goI hK hH (runV (As := [.int vq1_, .int vq2_, .int 0]) (rest := [.int 30]) hC hK hH (c_X10_defend hc_mo hc_al hFi) mlL_75 (rcvM hK hH hc_mo rfl) ⟨⟨Nat.le_of_ble_eq_true rfl, Nat.le_of_ble_eq_true rfl⟩, Nat.le_of_ble_eq_true rfl, Nat.le_of_ble_eq_true rfl⟩ rfl hl.1 rfl (Nat.le_of_ble_eq_true rfl) dL_law_742) (fun rq19_ Mq17_ Tq18_ Hq_ lcq_ hP hz hH => ?_)
      try dsimp only at hP
      obtain ⟨(rfl), eT, hfr⟩ := hP
      have eT := eT.symm; subst eT
      have hc_ro : Mq17_ ro = some (.inr (7, [.ref w, .ref im, .ref rd, .ref rc, .ref cu])) := (hfr ro n_ro_al).trans hc_ro
      have hc_cs : Mq17_ cs = some (.inl (kA 0, 8, .inl (c100 (fun _ => 0)))) := (hfr cs n_cs_al).trans hc_cs
      have hc_im : Mq17_ im = some (.inl (kA 6, 3, .inr (.inr (.inr (.inr (fun _ => none)))))) := (hfr im n_im_al).trans hc_im
      have hc_rd : Mq17_ rd = some (.inr (3, [.ref nb, .ref vb, .int 0, .int 0, .ref by_, .int 0, .int 0, .int 0, .int 0, .int 0])) := (hfr rd n_rd_al).trans hc_rd
      have hc_mo : Mq17_ mo = some (.inr (8, [.ref al, .ref mt, .ref ii, .int 0, .int (-1), .ref pa, .int 0, .int 0, .int 0, .int 0, .int 0, .long 0, .int 0, .ref li])) := (hfr mo n_mo_al).trans hc_mo
      have hc_ii : Mq17_ ii = some (.inl (kA 2, 3, .inl (fun _ => 0))) := (hfr ii n_ii_al).trans hc_ii
      refine jic_eq (tgt := 1370) hx hb dL_law_745 (by decide) (fun cq20_ => ?_) (fun cq20_ => absurd cq20_ (by decide))
      exact law_tail C0 hAq hH.2.1 (lv_sub hl [0, 3] rfl) (Nat.le_of_ble_eq_true rfl) (Nat.le_of_ble_eq_true rfl)
    · skip
      have cq16_ : vq3_.toInt ≠ 0 := cq16_
      refine lv_iconst (v := 1) hx hb dL_law_737 (by decide) ?_
      refine lv_goto (tgt := 742) hx hb dL_law_738 (by decide) ?_
      refine goI hK hH (runV (As := [.int vq1_, .int vq2_, .int 1]) (rest := [.int 30]) hC hK hH (c_X10_defend hc_mo hc_al hFi) mlL_75 (rcvM hK hH hc_mo rfl) ⟨⟨Nat.le_of_ble_eq_true rfl, Nat.le_of_ble_eq_true rfl⟩, Nat.le_of_ble_eq_true rfl, Nat.le_of_ble_eq_true rfl⟩ rfl hl.1 rfl (Nat.le_of_ble_eq_true rfl) dL_law_742) (fun rq23_ Mq21_ Tq22_ Hq_ lcq_ hP hz hH => ?_)
      try dsimp only at hP
      obtain ⟨(rfl), eT, hfr⟩ := hP
      have eT := eT.symm; subst eT
      have hc_ro : Mq21_ ro = some (.inr (7, [.ref w, .ref im, .ref rd, .ref rc, .ref cu])) := (hfr ro n_ro_al).trans hc_ro
      have hc_cs : Mq21_ cs = some (.inl (kA 0, 8, .inl (c100 (fun _ => 0)))) := (hfr cs n_cs_al).trans hc_cs
      have hc_im : Mq21_ im = some (.inl (kA 6, 3, .inr (.inr (.inr (.inr (fun _ => none)))))) := (hfr im n_im_al).trans hc_im
      have hc_rd : Mq21_ rd = some (.inr (3, [.ref nb, .ref vb, .int 0, .int 0, .ref by_, .int 0, .int 0, .int 0, .int 0, .int 0])) := (hfr rd n_rd_al).trans hc_rd
      have hc_mo : Mq21_ mo = some (.inr (8, [.ref al, .ref mt, .ref ii, .int 0, .int (-1), .ref pa, .int 0, .int 0, .int 0, .int 0, .int 0, .long 0, .int 0, .ref li])) := (hfr mo n_mo_al).trans hc_mo
      have hc_ii : Mq21_ ii = some (.inl (kA 2, 3, .inl (fun _ => 0))) := (hfr ii n_ii_al).trans hc_ii
      refine jic_eq (tgt := 1370) hx hb dL_law_745 (by decide) (fun cq24_ => ?_) (fun cq24_ => absurd cq24_ (by decide))
      exact law_tail C0 hAq hH.2.1 (lv_sub hl [0, 3] rfl) (Nat.le_of_ble_eq_true rfl) (Nat.le_of_ble_eq_true rfl)
set_option maxHeartbeats 4000000 in
set_option maxRecDepth 100000 in
theorem law_case_14 {p : Program} {e : Env} {s : State} {m : MethodId} {below : List Frame} {meth : Method} {c : Code} {l : Launch} {b : Nat} {xs : Nat → Int32} (C0 : lw_At p s m meth c b 6 xs) {D : va_G} {kA : Nat → ClassId} (hK : mK D kA s) {M : mM} {T : mT} {A : Nat → Prop} (hAq : ∀ q, A q → s.heap.size ≤ q) {Hq_ : Heap} {lcq_ : List Loc} {ls : Array Slot} {ro w im rd rc cu cs bs tp nb by_ vb mo al mt ii pa li : Nat} {F : Nat → Int32} (hc_ro : M ro = some (.inr (7, [.ref w, .ref im, .ref rd, .ref rc, .ref cu]))) (hc_w : M w = some (.inr (6, [.int 0, .int 2, .int 0, .int 0, .int 0, .int 0, .int 0, .int (-1), .ref cs, .ref bs, .ref tp]))) (hc_cs : M cs = some (.inl (kA 0, 8, .inl (c100 (fun _ => 0))))) (hc_im : M im = some (.inl (kA 6, 3, .inr (.inr (.inr (.inr (fun _ => none))))))) (hc_rd : M rd = some (.inr (3, [.ref nb, .ref vb, .int 0, .int 0, .ref by_, .int 0, .int 0, .int 0, .int 0, .int 0]))) (hc_mo : M mo = some (.inr (8, [.ref al, .ref mt, .ref ii, .int 0, .int (-1), .ref pa, .int 0, .int 0, .int 0, .int 0, .int 0, .long 0, .int 0, .ref li]))) (hc_al : M al = some (.inl (kA 0, 7506, .inl F))) (hc_ii : M ii = some (.inl (kA 2, 3, .inl (fun _ => 0)))) (ht_bs : T bs = some 6) (ht_tp : T tp = some 7) (ht_mt : T mt = some 11) (hFi : ∀ j, j < 1140 → F j = mIni j) (hH : mS D kA M T A s.heap Hq_ lcq_) (hl : lv_has ls 4 [(3, .int 0), (2, .ref mo), (1, .ref ro), (0, .ref b)]) : W p l e room_1 s m #[Value.ref b] below meth c Hq_ lcq_ 156 11688 (lw_Z below #[Value.ref b] s) (F0 m 750 ls []) := by
  obtain ⟨hx, hb, hr, hml, hown, hts, hX, hbl, hlocks, hgv⟩ := id C0
  have hC : CallFix p m c cL_law 4 s #[Value.ref b] TB RL := ⟨hx, hb, hml, hown, fun w h => hts w (TB_in h)⟩
  have hbA : ¬ A b := fun h => absurd (hAq b h) (Nat.not_le.mpr hbl)
  have n_ro_w : ro ≠ w := neM hc_ro hc_w (by simp)
  have n_ro_cs : ro ≠ cs := neM hc_ro hc_cs (by simp)
  have n_ro_im : ro ≠ im := neM hc_ro hc_im (by simp)
  have n_ro_rd : ro ≠ rd := neM hc_ro hc_rd (by simp)
  have n_ro_mo : ro ≠ mo := neM hc_ro hc_mo (by simp)
  have n_ro_al : ro ≠ al := neM hc_ro hc_al (by simp)
  have n_ro_ii : ro ≠ ii := neM hc_ro hc_ii (by simp)
  have n_w_ro : w ≠ ro := neM hc_w hc_ro (by simp)
  have n_w_cs : w ≠ cs := neM hc_w hc_cs (by simp)
  have n_w_im : w ≠ im := neM hc_w hc_im (by simp)
  have n_w_rd : w ≠ rd := neM hc_w hc_rd (by simp)
  have n_w_mo : w ≠ mo := neM hc_w hc_mo (by simp)
  have n_w_al : w ≠ al := neM hc_w hc_al (by simp)
  have n_w_ii : w ≠ ii := neM hc_w hc_ii (by simp)
  have n_cs_ro : cs ≠ ro := neM hc_cs hc_ro (by simp)
  have n_cs_w : cs ≠ w := neM hc_cs hc_w (by simp)
  have n_cs_im : cs ≠ im := neM hc_cs hc_im (by simp)
  have n_cs_rd : cs ≠ rd := neM hc_cs hc_rd (by simp)
  have n_cs_mo : cs ≠ mo := neM hc_cs hc_mo (by simp)
  have n_cs_al : cs ≠ al := neM hc_cs hc_al (by simp)
  have n_cs_ii : cs ≠ ii := neM hc_cs hc_ii (by simp)
  have n_im_ro : im ≠ ro := neM hc_im hc_ro (by simp)
  have n_im_w : im ≠ w := neM hc_im hc_w (by simp)
  have n_im_cs : im ≠ cs := neM hc_im hc_cs (by simp)
  have n_im_rd : im ≠ rd := neM hc_im hc_rd (by simp)
  have n_im_mo : im ≠ mo := neM hc_im hc_mo (by simp)
  have n_im_al : im ≠ al := neM hc_im hc_al (by simp)
  have n_im_ii : im ≠ ii := neM hc_im hc_ii (by simp)
  have n_rd_ro : rd ≠ ro := neM hc_rd hc_ro (by simp)
  have n_rd_w : rd ≠ w := neM hc_rd hc_w (by simp)
  have n_rd_cs : rd ≠ cs := neM hc_rd hc_cs (by simp)
  have n_rd_im : rd ≠ im := neM hc_rd hc_im (by simp)
  have n_rd_mo : rd ≠ mo := neM hc_rd hc_mo (by simp)
  have n_rd_al : rd ≠ al := neM hc_rd hc_al (by simp)
  have n_rd_ii : rd ≠ ii := neM hc_rd hc_ii (by simp)
  have n_mo_ro : mo ≠ ro := neM hc_mo hc_ro (by simp)
  have n_mo_w : mo ≠ w := neM hc_mo hc_w (by simp)
  have n_mo_cs : mo ≠ cs := neM hc_mo hc_cs (by simp)
  have n_mo_im : mo ≠ im := neM hc_mo hc_im (by simp)
  have n_mo_rd : mo ≠ rd := neM hc_mo hc_rd (by simp)
  have n_mo_al : mo ≠ al := neM hc_mo hc_al (by simp)
  have n_mo_ii : mo ≠ ii := neM hc_mo hc_ii (by simp)
  have n_al_ro : al ≠ ro := neM hc_al hc_ro (by simp)
  have n_al_w : al ≠ w := neM hc_al hc_w (by simp)
  have n_al_cs : al ≠ cs := neM hc_al hc_cs (by simp)
  have n_al_im : al ≠ im := neM hc_al hc_im (by simp)
  have n_al_rd : al ≠ rd := neM hc_al hc_rd (by simp)
  have n_al_mo : al ≠ mo := neM hc_al hc_mo (by simp)
  have n_al_ii : al ≠ ii := neM hc_al hc_ii (by simp)
  have n_ii_ro : ii ≠ ro := neM hc_ii hc_ro (by simp)
  have n_ii_w : ii ≠ w := neM hc_ii hc_w (by simp)
  have n_ii_cs : ii ≠ cs := neM hc_ii hc_cs (by simp)
  have n_ii_im : ii ≠ im := neM hc_ii hc_im (by simp)
  have n_ii_rd : ii ≠ rd := neM hc_ii hc_rd (by simp)
  have n_ii_mo : ii ≠ mo := neM hc_ii hc_mo (by simp)
  have n_ii_al : ii ≠ al := neM hc_ii hc_al (by simp)
  refine lv_aload_n hx hb dL_law_750 rfl (lv_at hl 2 rfl) ?_
  refine lv_aload_n hx hb dL_law_751 rfl (lv_at hl 3 rfl) ?_
  refine lv_iload_n hx hb dL_law_752 rfl (lv_at hl 0 rfl) ?_
  refine lv_iconst (v := 1) hx hb dL_law_753 (by decide) ?_
  refine lv_iadd hx hb dL_law_754 ?_
  refine lv_cst (v := 1) (by decide) ?_
  refine va_sld hx hb hX hbl hbA hH.2.1 (iIn (by decide) (by decide)) dL_law_755 ?_
  refine lv_topi (fun vq1_ e_vq1_ => ?_)
  refine goI hK hH (runV (As := [.int vq1_]) (rest := []) hC hK hH (c_X9_present hc_ro hc_w) mlL_76 (rcvM hK hH hc_ro rfl) ⟨⟨Nat.le_of_ble_eq_true rfl, Nat.le_of_ble_eq_true rfl⟩, Nat.le_of_ble_eq_true rfl, Nat.le_of_ble_eq_true rfl⟩ rfl hl.1 rfl (Nat.le_of_ble_eq_true rfl) dL_law_756) (fun rq4_ Mq2_ Tq3_ Hq_ lcq_ hP hz hH => ?_)
  try dsimp only at hP
  obtain ⟨(rfl), eT, hfr⟩ := hP
  have eT := eT.symm; subst eT
  have hc_ro : Mq2_ ro = some (.inr (7, [.ref w, .ref im, .ref rd, .ref rc, .ref cu])) := (hfr ro n_ro_w).trans hc_ro
  have hc_cs : Mq2_ cs = some (.inl (kA 0, 8, .inl (c100 (fun _ => 0)))) := (hfr cs n_cs_w).trans hc_cs
  have hc_im : Mq2_ im = some (.inl (kA 6, 3, .inr (.inr (.inr (.inr (fun _ => none)))))) := (hfr im n_im_w).trans hc_im
  have hc_rd : Mq2_ rd = some (.inr (3, [.ref nb, .ref vb, .int 0, .int 0, .ref by_, .int 0, .int 0, .int 0, .int 0, .int 0])) := (hfr rd n_rd_w).trans hc_rd
  have hc_mo : Mq2_ mo = some (.inr (8, [.ref al, .ref mt, .ref ii, .int 0, .int (-1), .ref pa, .int 0, .int 0, .int 0, .int 0, .int 0, .long 0, .int 0, .ref li])) := (hfr mo n_mo_w).trans hc_mo
  have hc_al : Mq2_ al = some (.inl (kA 0, 7506, .inl F)) := (hfr al n_al_w).trans hc_al
  have hc_ii : Mq2_ ii = some (.inl (kA 2, 3, .inl (fun _ => 0))) := (hfr ii n_ii_w).trans hc_ii
  refine lv_aload_n hx hb dL_law_759 rfl (lv_at hl 1 rfl) ?_
  refine lv_aload_n hx hb dL_law_760 rfl (lv_at hl 3 rfl) ?_
  refine lv_iload_n hx hb dL_law_761 rfl (lv_at hl 0 rfl) ?_
  refine lv_iconst (v := 1) hx hb dL_law_762 (by decide) ?_
  refine lv_iadd hx hb dL_law_763 ?_
  refine lv_cst (v := 1) (by decide) ?_
  refine va_sld hx hb hX hbl hbA hH.2.1 (iIn (by decide) (by decide)) dL_law_764 ?_
  refine lv_cst (v := vq1_) e_vq1_.symm ?_
  refine goI hK hH (runV (As := [.int vq1_]) (rest := [.int 30]) hC hK hH (c_X10_present hc_mo hc_al hFi) mlL_79 (rcvM hK hH hc_mo rfl) ⟨⟨Nat.le_of_ble_eq_true rfl, Nat.le_of_ble_eq_true rfl⟩, Nat.le_of_ble_eq_true rfl, Nat.le_of_ble_eq_true rfl⟩ rfl hl.1 rfl (Nat.le_of_ble_eq_true rfl) dL_law_765) (fun rq7_ Mq5_ Tq6_ Hq_ lcq_ hP hz hH => ?_)
  try dsimp only at hP
  obtain ⟨(rfl), eT, hfr⟩ := hP
  have eT := eT.symm; subst eT
  have hc_ro : Mq5_ ro = some (.inr (7, [.ref w, .ref im, .ref rd, .ref rc, .ref cu])) := (hfr ro n_ro_al).trans hc_ro
  have hc_cs : Mq5_ cs = some (.inl (kA 0, 8, .inl (c100 (fun _ => 0)))) := (hfr cs n_cs_al).trans hc_cs
  have hc_im : Mq5_ im = some (.inl (kA 6, 3, .inr (.inr (.inr (.inr (fun _ => none)))))) := (hfr im n_im_al).trans hc_im
  have hc_rd : Mq5_ rd = some (.inr (3, [.ref nb, .ref vb, .int 0, .int 0, .ref by_, .int 0, .int 0, .int 0, .int 0, .int 0])) := (hfr rd n_rd_al).trans hc_rd
  have hc_mo : Mq5_ mo = some (.inr (8, [.ref al, .ref mt, .ref ii, .int 0, .int (-1), .ref pa, .int 0, .int 0, .int 0, .int 0, .int 0, .long 0, .int 0, .ref li])) := (hfr mo n_mo_al).trans hc_mo
  have hc_ii : Mq5_ ii = some (.inl (kA 2, 3, .inl (fun _ => 0))) := (hfr ii n_ii_al).trans hc_ii
  refine jic_eq (tgt := 1370) hx hb dL_law_768 (by decide) (fun cq8_ => ?_) (fun cq8_ => absurd cq8_ (by decide))
  exact law_tail C0 hAq hH.2.1 (lv_sub hl [0, 3] rfl) (Nat.le_of_ble_eq_true rfl) (Nat.le_of_ble_eq_true rfl)
set_option maxHeartbeats 4000000 in
set_option maxRecDepth 100000 in
theorem law_case_15 {p : Program} {e : Env} {s : State} {m : MethodId} {below : List Frame} {meth : Method} {c : Code} {l : Launch} {b : Nat} {xs : Nat → Int32} (C0 : lw_At p s m meth c b 6 xs) {D : va_G} {kA : Nat → ClassId} (hK : mK D kA s) {M : mM} {T : mT} {A : Nat → Prop} (hAq : ∀ q, A q → s.heap.size ≤ q) {Hq_ : Heap} {lcq_ : List Loc} {ls : Array Slot} {ro w im rd rc cu cs bs tp nb by_ vb mo al mt ii pa li : Nat} {F : Nat → Int32} (hc_ro : M ro = some (.inr (7, [.ref w, .ref im, .ref rd, .ref rc, .ref cu]))) (hc_w : M w = some (.inr (6, [.int 0, .int 2, .int 0, .int 0, .int 0, .int 0, .int 0, .int (-1), .ref cs, .ref bs, .ref tp]))) (hc_cs : M cs = some (.inl (kA 0, 8, .inl (c100 (fun _ => 0))))) (hc_im : M im = some (.inl (kA 6, 3, .inr (.inr (.inr (.inr (fun _ => none))))))) (hc_rd : M rd = some (.inr (3, [.ref nb, .ref vb, .int 0, .int 0, .ref by_, .int 0, .int 0, .int 0, .int 0, .int 0]))) (hc_mo : M mo = some (.inr (8, [.ref al, .ref mt, .ref ii, .int 0, .int (-1), .ref pa, .int 0, .int 0, .int 0, .int 0, .int 0, .long 0, .int 0, .ref li]))) (hc_al : M al = some (.inl (kA 0, 7506, .inl F))) (hc_ii : M ii = some (.inl (kA 2, 3, .inl (fun _ => 0)))) (ht_bs : T bs = some 6) (ht_tp : T tp = some 7) (ht_mt : T mt = some 11) (hFi : ∀ j, j < 1140 → F j = mIni j) (hH : mS D kA M T A s.heap Hq_ lcq_) (hl : lv_has ls 4 [(3, .int 0), (2, .ref mo), (1, .ref ro), (0, .ref b)]) : W p l e room_1 s m #[Value.ref b] below meth c Hq_ lcq_ 156 11688 (lw_Z below #[Value.ref b] s) (F0 m 773 ls []) := by
  obtain ⟨hx, hb, hr, hml, hown, hts, hX, hbl, hlocks, hgv⟩ := id C0
  have hC : CallFix p m c cL_law 4 s #[Value.ref b] TB RL := ⟨hx, hb, hml, hown, fun w h => hts w (TB_in h)⟩
  have hbA : ¬ A b := fun h => absurd (hAq b h) (Nat.not_le.mpr hbl)
  have n_ro_w : ro ≠ w := neM hc_ro hc_w (by simp)
  have n_ro_cs : ro ≠ cs := neM hc_ro hc_cs (by simp)
  have n_ro_im : ro ≠ im := neM hc_ro hc_im (by simp)
  have n_ro_rd : ro ≠ rd := neM hc_ro hc_rd (by simp)
  have n_ro_mo : ro ≠ mo := neM hc_ro hc_mo (by simp)
  have n_ro_al : ro ≠ al := neM hc_ro hc_al (by simp)
  have n_ro_ii : ro ≠ ii := neM hc_ro hc_ii (by simp)
  have n_w_ro : w ≠ ro := neM hc_w hc_ro (by simp)
  have n_w_cs : w ≠ cs := neM hc_w hc_cs (by simp)
  have n_w_im : w ≠ im := neM hc_w hc_im (by simp)
  have n_w_rd : w ≠ rd := neM hc_w hc_rd (by simp)
  have n_w_mo : w ≠ mo := neM hc_w hc_mo (by simp)
  have n_w_al : w ≠ al := neM hc_w hc_al (by simp)
  have n_w_ii : w ≠ ii := neM hc_w hc_ii (by simp)
  have n_cs_ro : cs ≠ ro := neM hc_cs hc_ro (by simp)
  have n_cs_w : cs ≠ w := neM hc_cs hc_w (by simp)
  have n_cs_im : cs ≠ im := neM hc_cs hc_im (by simp)
  have n_cs_rd : cs ≠ rd := neM hc_cs hc_rd (by simp)
  have n_cs_mo : cs ≠ mo := neM hc_cs hc_mo (by simp)
  have n_cs_al : cs ≠ al := neM hc_cs hc_al (by simp)
  have n_cs_ii : cs ≠ ii := neM hc_cs hc_ii (by simp)
  have n_im_ro : im ≠ ro := neM hc_im hc_ro (by simp)
  have n_im_w : im ≠ w := neM hc_im hc_w (by simp)
  have n_im_cs : im ≠ cs := neM hc_im hc_cs (by simp)
  have n_im_rd : im ≠ rd := neM hc_im hc_rd (by simp)
  have n_im_mo : im ≠ mo := neM hc_im hc_mo (by simp)
  have n_im_al : im ≠ al := neM hc_im hc_al (by simp)
  have n_im_ii : im ≠ ii := neM hc_im hc_ii (by simp)
  have n_rd_ro : rd ≠ ro := neM hc_rd hc_ro (by simp)
  have n_rd_w : rd ≠ w := neM hc_rd hc_w (by simp)
  have n_rd_cs : rd ≠ cs := neM hc_rd hc_cs (by simp)
  have n_rd_im : rd ≠ im := neM hc_rd hc_im (by simp)
  have n_rd_mo : rd ≠ mo := neM hc_rd hc_mo (by simp)
  have n_rd_al : rd ≠ al := neM hc_rd hc_al (by simp)
  have n_rd_ii : rd ≠ ii := neM hc_rd hc_ii (by simp)
  have n_mo_ro : mo ≠ ro := neM hc_mo hc_ro (by simp)
  have n_mo_w : mo ≠ w := neM hc_mo hc_w (by simp)
  have n_mo_cs : mo ≠ cs := neM hc_mo hc_cs (by simp)
  have n_mo_im : mo ≠ im := neM hc_mo hc_im (by simp)
  have n_mo_rd : mo ≠ rd := neM hc_mo hc_rd (by simp)
  have n_mo_al : mo ≠ al := neM hc_mo hc_al (by simp)
  have n_mo_ii : mo ≠ ii := neM hc_mo hc_ii (by simp)
  have n_al_ro : al ≠ ro := neM hc_al hc_ro (by simp)
  have n_al_w : al ≠ w := neM hc_al hc_w (by simp)
  have n_al_cs : al ≠ cs := neM hc_al hc_cs (by simp)
  have n_al_im : al ≠ im := neM hc_al hc_im (by simp)
  have n_al_rd : al ≠ rd := neM hc_al hc_rd (by simp)
  have n_al_mo : al ≠ mo := neM hc_al hc_mo (by simp)
  have n_al_ii : al ≠ ii := neM hc_al hc_ii (by simp)
  have n_ii_ro : ii ≠ ro := neM hc_ii hc_ro (by simp)
  have n_ii_w : ii ≠ w := neM hc_ii hc_w (by simp)
  have n_ii_cs : ii ≠ cs := neM hc_ii hc_cs (by simp)
  have n_ii_im : ii ≠ im := neM hc_ii hc_im (by simp)
  have n_ii_rd : ii ≠ rd := neM hc_ii hc_rd (by simp)
  have n_ii_mo : ii ≠ mo := neM hc_ii hc_mo (by simp)
  have n_ii_al : ii ≠ al := neM hc_ii hc_al (by simp)
  refine lv_aload_n hx hb dL_law_773 rfl (lv_at hl 2 rfl) ?_
  refine lv_aload_n hx hb dL_law_774 rfl (lv_at hl 3 rfl) ?_
  refine lv_iload_n hx hb dL_law_775 rfl (lv_at hl 0 rfl) ?_
  refine lv_iconst (v := 1) hx hb dL_law_776 (by decide) ?_
  refine lv_iadd hx hb dL_law_777 ?_
  refine lv_cst (v := 1) (by decide) ?_
  refine va_sld hx hb hX hbl hbA hH.2.1 (iIn (by decide) (by decide)) dL_law_778 ?_
  refine lv_topi (fun vq1_ e_vq1_ => ?_)
  refine lv_aload_n hx hb dL_law_779 rfl (lv_at hl 3 rfl) ?_
  refine lv_iload_n hx hb dL_law_780 rfl (lv_at hl 0 rfl) ?_
  refine lv_iconst (v := 2) hx hb dL_law_781 (by decide) ?_
  refine lv_iadd hx hb dL_law_782 ?_
  refine lv_cst (v := 2) (by decide) ?_
  refine va_sld hx hb hX hbl hbA hH.2.1 (iIn (by decide) (by decide)) dL_law_783 ?_
  refine lv_topi (fun vq2_ e_vq2_ => ?_)
  refine lv_aload_n hx hb dL_law_784 rfl (lv_at hl 3 rfl) ?_
  refine lv_iload_n hx hb dL_law_785 rfl (lv_at hl 0 rfl) ?_
  refine lv_iconst (v := 3) hx hb dL_law_786 (by decide) ?_
  refine lv_iadd hx hb dL_law_787 ?_
  refine lv_cst (v := 3) (by decide) ?_
  refine va_sld hx hb hX hbl hbA hH.2.1 (iIn (by decide) (by decide)) dL_law_788 ?_
  refine lv_topi (fun vq3_ e_vq3_ => ?_)
  refine goI hK hH (runV (As := [.int vq1_, .int vq2_, .int vq3_]) (rest := []) hC hK hH (c_X9_tell hc_ro hc_w) mlL_80 (rcvM hK hH hc_ro rfl) ⟨⟨Nat.le_of_ble_eq_true rfl, Nat.le_of_ble_eq_true rfl⟩, Nat.le_of_ble_eq_true rfl, Nat.le_of_ble_eq_true rfl⟩ rfl hl.1 rfl (Nat.le_of_ble_eq_true rfl) dL_law_789) (fun rq6_ Mq4_ Tq5_ Hq_ lcq_ hP hz hH => ?_)
  try dsimp only at hP
  obtain ⟨(rfl), eT, hfr⟩ := hP
  have eT := eT.symm; subst eT
  have hc_ro : Mq4_ ro = some (.inr (7, [.ref w, .ref im, .ref rd, .ref rc, .ref cu])) := (hfr ro n_ro_w).trans hc_ro
  have hc_cs : Mq4_ cs = some (.inl (kA 0, 8, .inl (c100 (fun _ => 0)))) := (hfr cs n_cs_w).trans hc_cs
  have hc_im : Mq4_ im = some (.inl (kA 6, 3, .inr (.inr (.inr (.inr (fun _ => none)))))) := (hfr im n_im_w).trans hc_im
  have hc_rd : Mq4_ rd = some (.inr (3, [.ref nb, .ref vb, .int 0, .int 0, .ref by_, .int 0, .int 0, .int 0, .int 0, .int 0])) := (hfr rd n_rd_w).trans hc_rd
  have hc_mo : Mq4_ mo = some (.inr (8, [.ref al, .ref mt, .ref ii, .int 0, .int (-1), .ref pa, .int 0, .int 0, .int 0, .int 0, .int 0, .long 0, .int 0, .ref li])) := (hfr mo n_mo_w).trans hc_mo
  have hc_al : Mq4_ al = some (.inl (kA 0, 7506, .inl F)) := (hfr al n_al_w).trans hc_al
  have hc_ii : Mq4_ ii = some (.inl (kA 2, 3, .inl (fun _ => 0))) := (hfr ii n_ii_w).trans hc_ii
  refine lv_aload_n hx hb dL_law_792 rfl (lv_at hl 1 rfl) ?_
  refine lv_aload_n hx hb dL_law_793 rfl (lv_at hl 3 rfl) ?_
  refine lv_iload_n hx hb dL_law_794 rfl (lv_at hl 0 rfl) ?_
  refine lv_iconst (v := 1) hx hb dL_law_795 (by decide) ?_
  refine lv_iadd hx hb dL_law_796 ?_
  refine lv_cst (v := 1) (by decide) ?_
  refine va_sld hx hb hX hbl hbA hH.2.1 (iIn (by decide) (by decide)) dL_law_797 ?_
  refine lv_cst (v := vq1_) e_vq1_.symm ?_
  refine lv_aload_n hx hb dL_law_798 rfl (lv_at hl 3 rfl) ?_
  refine lv_iload_n hx hb dL_law_799 rfl (lv_at hl 0 rfl) ?_
  refine lv_iconst (v := 2) hx hb dL_law_800 (by decide) ?_
  refine lv_iadd hx hb dL_law_801 ?_
  refine lv_cst (v := 2) (by decide) ?_
  refine va_sld hx hb hX hbl hbA hH.2.1 (iIn (by decide) (by decide)) dL_law_802 ?_
  refine lv_cst (v := vq2_) e_vq2_.symm ?_
  refine lv_aload_n hx hb dL_law_803 rfl (lv_at hl 3 rfl) ?_
  refine lv_iload_n hx hb dL_law_804 rfl (lv_at hl 0 rfl) ?_
  refine lv_iconst (v := 3) hx hb dL_law_805 (by decide) ?_
  refine lv_iadd hx hb dL_law_806 ?_
  refine lv_cst (v := 3) (by decide) ?_
  refine va_sld hx hb hX hbl hbA hH.2.1 (iIn (by decide) (by decide)) dL_law_807 ?_
  refine lv_cst (v := vq3_) e_vq3_.symm ?_
  refine goI hK hH (runV (As := [.int vq1_, .int vq2_, .int vq3_]) (rest := [.int 30]) hC hK hH (c_X10_tell hc_mo hc_al hFi) mlL_84 (rcvM hK hH hc_mo rfl) ⟨⟨Nat.le_of_ble_eq_true rfl, Nat.le_of_ble_eq_true rfl⟩, Nat.le_of_ble_eq_true rfl, Nat.le_of_ble_eq_true rfl⟩ rfl hl.1 rfl (Nat.le_of_ble_eq_true rfl) dL_law_808) (fun rq9_ Mq7_ Tq8_ Hq_ lcq_ hP hz hH => ?_)
  try dsimp only at hP
  obtain ⟨(rfl), eT, hfr⟩ := hP
  have eT := eT.symm; subst eT
  have hc_ro : Mq7_ ro = some (.inr (7, [.ref w, .ref im, .ref rd, .ref rc, .ref cu])) := (hfr ro n_ro_al).trans hc_ro
  have hc_cs : Mq7_ cs = some (.inl (kA 0, 8, .inl (c100 (fun _ => 0)))) := (hfr cs n_cs_al).trans hc_cs
  have hc_im : Mq7_ im = some (.inl (kA 6, 3, .inr (.inr (.inr (.inr (fun _ => none)))))) := (hfr im n_im_al).trans hc_im
  have hc_rd : Mq7_ rd = some (.inr (3, [.ref nb, .ref vb, .int 0, .int 0, .ref by_, .int 0, .int 0, .int 0, .int 0, .int 0])) := (hfr rd n_rd_al).trans hc_rd
  have hc_mo : Mq7_ mo = some (.inr (8, [.ref al, .ref mt, .ref ii, .int 0, .int (-1), .ref pa, .int 0, .int 0, .int 0, .int 0, .int 0, .long 0, .int 0, .ref li])) := (hfr mo n_mo_al).trans hc_mo
  have hc_ii : Mq7_ ii = some (.inl (kA 2, 3, .inl (fun _ => 0))) := (hfr ii n_ii_al).trans hc_ii
  refine jic_eq (tgt := 1370) hx hb dL_law_811 (by decide) (fun cq10_ => ?_) (fun cq10_ => absurd cq10_ (by decide))
  exact law_tail C0 hAq hH.2.1 (lv_sub hl [0, 3] rfl) (Nat.le_of_ble_eq_true rfl) (Nat.le_of_ble_eq_true rfl)
set_option maxHeartbeats 4000000 in
set_option maxRecDepth 100000 in
theorem law_case_16 {p : Program} {e : Env} {s : State} {m : MethodId} {below : List Frame} {meth : Method} {c : Code} {l : Launch} {b : Nat} {xs : Nat → Int32} (C0 : lw_At p s m meth c b 6 xs) {D : va_G} {kA : Nat → ClassId} (hK : mK D kA s) {M : mM} {T : mT} {A : Nat → Prop} (hAq : ∀ q, A q → s.heap.size ≤ q) {Hq_ : Heap} {lcq_ : List Loc} {ls : Array Slot} {ro w im rd rc cu cs bs tp nb by_ vb mo al mt ii pa li : Nat} {F : Nat → Int32} (hc_ro : M ro = some (.inr (7, [.ref w, .ref im, .ref rd, .ref rc, .ref cu]))) (hc_w : M w = some (.inr (6, [.int 0, .int 2, .int 0, .int 0, .int 0, .int 0, .int 0, .int (-1), .ref cs, .ref bs, .ref tp]))) (hc_cs : M cs = some (.inl (kA 0, 8, .inl (c100 (fun _ => 0))))) (hc_im : M im = some (.inl (kA 6, 3, .inr (.inr (.inr (.inr (fun _ => none))))))) (hc_rd : M rd = some (.inr (3, [.ref nb, .ref vb, .int 0, .int 0, .ref by_, .int 0, .int 0, .int 0, .int 0, .int 0]))) (hc_mo : M mo = some (.inr (8, [.ref al, .ref mt, .ref ii, .int 0, .int (-1), .ref pa, .int 0, .int 0, .int 0, .int 0, .int 0, .long 0, .int 0, .ref li]))) (hc_al : M al = some (.inl (kA 0, 7506, .inl F))) (hc_ii : M ii = some (.inl (kA 2, 3, .inl (fun _ => 0)))) (ht_bs : T bs = some 6) (ht_tp : T tp = some 7) (ht_mt : T mt = some 11) (hFi : ∀ j, j < 1140 → F j = mIni j) (hH : mS D kA M T A s.heap Hq_ lcq_) (hl : lv_has ls 4 [(3, .int 0), (2, .ref mo), (1, .ref ro), (0, .ref b)]) : W p l e room_1 s m #[Value.ref b] below meth c Hq_ lcq_ 156 11688 (lw_Z below #[Value.ref b] s) (F0 m 816 ls []) := by
  obtain ⟨hx, hb, hr, hml, hown, hts, hX, hbl, hlocks, hgv⟩ := id C0
  have hC : CallFix p m c cL_law 4 s #[Value.ref b] TB RL := ⟨hx, hb, hml, hown, fun w h => hts w (TB_in h)⟩
  have hbA : ¬ A b := fun h => absurd (hAq b h) (Nat.not_le.mpr hbl)
  have n_ro_w : ro ≠ w := neM hc_ro hc_w (by simp)
  have n_ro_cs : ro ≠ cs := neM hc_ro hc_cs (by simp)
  have n_ro_im : ro ≠ im := neM hc_ro hc_im (by simp)
  have n_ro_rd : ro ≠ rd := neM hc_ro hc_rd (by simp)
  have n_ro_mo : ro ≠ mo := neM hc_ro hc_mo (by simp)
  have n_ro_al : ro ≠ al := neM hc_ro hc_al (by simp)
  have n_ro_ii : ro ≠ ii := neM hc_ro hc_ii (by simp)
  have n_w_ro : w ≠ ro := neM hc_w hc_ro (by simp)
  have n_w_cs : w ≠ cs := neM hc_w hc_cs (by simp)
  have n_w_im : w ≠ im := neM hc_w hc_im (by simp)
  have n_w_rd : w ≠ rd := neM hc_w hc_rd (by simp)
  have n_w_mo : w ≠ mo := neM hc_w hc_mo (by simp)
  have n_w_al : w ≠ al := neM hc_w hc_al (by simp)
  have n_w_ii : w ≠ ii := neM hc_w hc_ii (by simp)
  have n_cs_ro : cs ≠ ro := neM hc_cs hc_ro (by simp)
  have n_cs_w : cs ≠ w := neM hc_cs hc_w (by simp)
  have n_cs_im : cs ≠ im := neM hc_cs hc_im (by simp)
  have n_cs_rd : cs ≠ rd := neM hc_cs hc_rd (by simp)
  have n_cs_mo : cs ≠ mo := neM hc_cs hc_mo (by simp)
  have n_cs_al : cs ≠ al := neM hc_cs hc_al (by simp)
  have n_cs_ii : cs ≠ ii := neM hc_cs hc_ii (by simp)
  have n_im_ro : im ≠ ro := neM hc_im hc_ro (by simp)
  have n_im_w : im ≠ w := neM hc_im hc_w (by simp)
  have n_im_cs : im ≠ cs := neM hc_im hc_cs (by simp)
  have n_im_rd : im ≠ rd := neM hc_im hc_rd (by simp)
  have n_im_mo : im ≠ mo := neM hc_im hc_mo (by simp)
  have n_im_al : im ≠ al := neM hc_im hc_al (by simp)
  have n_im_ii : im ≠ ii := neM hc_im hc_ii (by simp)
  have n_rd_ro : rd ≠ ro := neM hc_rd hc_ro (by simp)
  have n_rd_w : rd ≠ w := neM hc_rd hc_w (by simp)
  have n_rd_cs : rd ≠ cs := neM hc_rd hc_cs (by simp)
  have n_rd_im : rd ≠ im := neM hc_rd hc_im (by simp)
  have n_rd_mo : rd ≠ mo := neM hc_rd hc_mo (by simp)
  have n_rd_al : rd ≠ al := neM hc_rd hc_al (by simp)
  have n_rd_ii : rd ≠ ii := neM hc_rd hc_ii (by simp)
  have n_mo_ro : mo ≠ ro := neM hc_mo hc_ro (by simp)
  have n_mo_w : mo ≠ w := neM hc_mo hc_w (by simp)
  have n_mo_cs : mo ≠ cs := neM hc_mo hc_cs (by simp)
  have n_mo_im : mo ≠ im := neM hc_mo hc_im (by simp)
  have n_mo_rd : mo ≠ rd := neM hc_mo hc_rd (by simp)
  have n_mo_al : mo ≠ al := neM hc_mo hc_al (by simp)
  have n_mo_ii : mo ≠ ii := neM hc_mo hc_ii (by simp)
  have n_al_ro : al ≠ ro := neM hc_al hc_ro (by simp)
  have n_al_w : al ≠ w := neM hc_al hc_w (by simp)
  have n_al_cs : al ≠ cs := neM hc_al hc_cs (by simp)
  have n_al_im : al ≠ im := neM hc_al hc_im (by simp)
  have n_al_rd : al ≠ rd := neM hc_al hc_rd (by simp)
  have n_al_mo : al ≠ mo := neM hc_al hc_mo (by simp)
  have n_al_ii : al ≠ ii := neM hc_al hc_ii (by simp)
  have n_ii_ro : ii ≠ ro := neM hc_ii hc_ro (by simp)
  have n_ii_w : ii ≠ w := neM hc_ii hc_w (by simp)
  have n_ii_cs : ii ≠ cs := neM hc_ii hc_cs (by simp)
  have n_ii_im : ii ≠ im := neM hc_ii hc_im (by simp)
  have n_ii_rd : ii ≠ rd := neM hc_ii hc_rd (by simp)
  have n_ii_mo : ii ≠ mo := neM hc_ii hc_mo (by simp)
  have n_ii_al : ii ≠ al := neM hc_ii hc_al (by simp)
  refine lv_aload_n hx hb dL_law_816 rfl (lv_at hl 2 rfl) ?_
  refine lv_aload_n hx hb dL_law_817 rfl (lv_at hl 3 rfl) ?_
  refine lv_iload_n hx hb dL_law_818 rfl (lv_at hl 0 rfl) ?_
  refine lv_iconst (v := 1) hx hb dL_law_819 (by decide) ?_
  refine lv_iadd hx hb dL_law_820 ?_
  refine lv_cst (v := 1) (by decide) ?_
  refine va_sld hx hb hX hbl hbA hH.2.1 (iIn (by decide) (by decide)) dL_law_821 ?_
  refine lv_topi (fun vq1_ e_vq1_ => ?_)
  refine lv_aload_n hx hb dL_law_822 rfl (lv_at hl 3 rfl) ?_
  refine lv_iload_n hx hb dL_law_823 rfl (lv_at hl 0 rfl) ?_
  refine lv_iconst (v := 2) hx hb dL_law_824 (by decide) ?_
  refine lv_iadd hx hb dL_law_825 ?_
  refine lv_cst (v := 2) (by decide) ?_
  refine va_sld hx hb hX hbl hbA hH.2.1 (iIn (by decide) (by decide)) dL_law_826 ?_
  refine lv_topi (fun vq2_ e_vq2_ => ?_)
  refine goI hK hH (runV (As := [.int vq1_, .int vq2_]) (rest := []) hC hK hH (c_X9_release hc_ro hc_w) mlL_85 (rcvM hK hH hc_ro rfl) ⟨⟨Nat.le_of_ble_eq_true rfl, Nat.le_of_ble_eq_true rfl⟩, Nat.le_of_ble_eq_true rfl, Nat.le_of_ble_eq_true rfl⟩ rfl hl.1 rfl (Nat.le_of_ble_eq_true rfl) dL_law_827) (fun rq5_ Mq3_ Tq4_ Hq_ lcq_ hP hz hH => ?_)
  try dsimp only at hP
  obtain ⟨(rfl), eT, hfr⟩ := hP
  have eT := eT.symm; subst eT
  have hc_ro : Mq3_ ro = some (.inr (7, [.ref w, .ref im, .ref rd, .ref rc, .ref cu])) := (hfr ro n_ro_w).trans hc_ro
  have hc_cs : Mq3_ cs = some (.inl (kA 0, 8, .inl (c100 (fun _ => 0)))) := (hfr cs n_cs_w).trans hc_cs
  have hc_im : Mq3_ im = some (.inl (kA 6, 3, .inr (.inr (.inr (.inr (fun _ => none)))))) := (hfr im n_im_w).trans hc_im
  have hc_rd : Mq3_ rd = some (.inr (3, [.ref nb, .ref vb, .int 0, .int 0, .ref by_, .int 0, .int 0, .int 0, .int 0, .int 0])) := (hfr rd n_rd_w).trans hc_rd
  have hc_mo : Mq3_ mo = some (.inr (8, [.ref al, .ref mt, .ref ii, .int 0, .int (-1), .ref pa, .int 0, .int 0, .int 0, .int 0, .int 0, .long 0, .int 0, .ref li])) := (hfr mo n_mo_w).trans hc_mo
  have hc_al : Mq3_ al = some (.inl (kA 0, 7506, .inl F)) := (hfr al n_al_w).trans hc_al
  have hc_ii : Mq3_ ii = some (.inl (kA 2, 3, .inl (fun _ => 0))) := (hfr ii n_ii_w).trans hc_ii
  refine lv_aload_n hx hb dL_law_830 rfl (lv_at hl 1 rfl) ?_
  refine lv_aload_n hx hb dL_law_831 rfl (lv_at hl 3 rfl) ?_
  refine lv_iload_n hx hb dL_law_832 rfl (lv_at hl 0 rfl) ?_
  refine lv_iconst (v := 1) hx hb dL_law_833 (by decide) ?_
  refine lv_iadd hx hb dL_law_834 ?_
  refine lv_cst (v := 1) (by decide) ?_
  refine va_sld hx hb hX hbl hbA hH.2.1 (iIn (by decide) (by decide)) dL_law_835 ?_
  refine lv_cst (v := vq1_) e_vq1_.symm ?_
  refine lv_aload_n hx hb dL_law_836 rfl (lv_at hl 3 rfl) ?_
  refine lv_iload_n hx hb dL_law_837 rfl (lv_at hl 0 rfl) ?_
  refine lv_iconst (v := 2) hx hb dL_law_838 (by decide) ?_
  refine lv_iadd hx hb dL_law_839 ?_
  refine lv_cst (v := 2) (by decide) ?_
  refine va_sld hx hb hX hbl hbA hH.2.1 (iIn (by decide) (by decide)) dL_law_840 ?_
  refine lv_cst (v := vq2_) e_vq2_.symm ?_
  refine goI hK hH (runV (As := [.int vq1_, .int vq2_]) (rest := [.int 30]) hC hK hH (c_X10_release hc_mo hc_al hFi) mlL_88 (rcvM hK hH hc_mo rfl) ⟨⟨Nat.le_of_ble_eq_true rfl, Nat.le_of_ble_eq_true rfl⟩, Nat.le_of_ble_eq_true rfl, Nat.le_of_ble_eq_true rfl⟩ rfl hl.1 rfl (Nat.le_of_ble_eq_true rfl) dL_law_841) (fun rq8_ Mq6_ Tq7_ Hq_ lcq_ hP hz hH => ?_)
  try dsimp only at hP
  obtain ⟨(rfl), eT, hfr⟩ := hP
  have eT := eT.symm; subst eT
  have hc_ro : Mq6_ ro = some (.inr (7, [.ref w, .ref im, .ref rd, .ref rc, .ref cu])) := (hfr ro n_ro_al).trans hc_ro
  have hc_cs : Mq6_ cs = some (.inl (kA 0, 8, .inl (c100 (fun _ => 0)))) := (hfr cs n_cs_al).trans hc_cs
  have hc_im : Mq6_ im = some (.inl (kA 6, 3, .inr (.inr (.inr (.inr (fun _ => none)))))) := (hfr im n_im_al).trans hc_im
  have hc_rd : Mq6_ rd = some (.inr (3, [.ref nb, .ref vb, .int 0, .int 0, .ref by_, .int 0, .int 0, .int 0, .int 0, .int 0])) := (hfr rd n_rd_al).trans hc_rd
  have hc_mo : Mq6_ mo = some (.inr (8, [.ref al, .ref mt, .ref ii, .int 0, .int (-1), .ref pa, .int 0, .int 0, .int 0, .int 0, .int 0, .long 0, .int 0, .ref li])) := (hfr mo n_mo_al).trans hc_mo
  have hc_ii : Mq6_ ii = some (.inl (kA 2, 3, .inl (fun _ => 0))) := (hfr ii n_ii_al).trans hc_ii
  refine jic_eq (tgt := 1370) hx hb dL_law_844 (by decide) (fun cq9_ => ?_) (fun cq9_ => absurd cq9_ (by decide))
  exact law_tail C0 hAq hH.2.1 (lv_sub hl [0, 3] rfl) (Nat.le_of_ble_eq_true rfl) (Nat.le_of_ble_eq_true rfl)
set_option maxHeartbeats 4000000 in
set_option maxRecDepth 100000 in
theorem law_case_17 {p : Program} {e : Env} {s : State} {m : MethodId} {below : List Frame} {meth : Method} {c : Code} {l : Launch} {b : Nat} {xs : Nat → Int32} (C0 : lw_At p s m meth c b 6 xs) {D : va_G} {kA : Nat → ClassId} (hK : mK D kA s) {M : mM} {T : mT} {A : Nat → Prop} (hAq : ∀ q, A q → s.heap.size ≤ q) {Hq_ : Heap} {lcq_ : List Loc} {ls : Array Slot} {ro w im rd rc cu cs bs tp nb by_ vb mo al mt ii pa li : Nat} {F : Nat → Int32} (hc_ro : M ro = some (.inr (7, [.ref w, .ref im, .ref rd, .ref rc, .ref cu]))) (hc_w : M w = some (.inr (6, [.int 0, .int 2, .int 0, .int 0, .int 0, .int 0, .int 0, .int (-1), .ref cs, .ref bs, .ref tp]))) (hc_cs : M cs = some (.inl (kA 0, 8, .inl (c100 (fun _ => 0))))) (hc_im : M im = some (.inl (kA 6, 3, .inr (.inr (.inr (.inr (fun _ => none))))))) (hc_rd : M rd = some (.inr (3, [.ref nb, .ref vb, .int 0, .int 0, .ref by_, .int 0, .int 0, .int 0, .int 0, .int 0]))) (hc_mo : M mo = some (.inr (8, [.ref al, .ref mt, .ref ii, .int 0, .int (-1), .ref pa, .int 0, .int 0, .int 0, .int 0, .int 0, .long 0, .int 0, .ref li]))) (hc_al : M al = some (.inl (kA 0, 7506, .inl F))) (hc_ii : M ii = some (.inl (kA 2, 3, .inl (fun _ => 0)))) (ht_bs : T bs = some 6) (ht_tp : T tp = some 7) (ht_mt : T mt = some 11) (hFi : ∀ j, j < 1140 → F j = mIni j) (hH : mS D kA M T A s.heap Hq_ lcq_) (hl : lv_has ls 4 [(3, .int 0), (2, .ref mo), (1, .ref ro), (0, .ref b)]) : W p l e room_1 s m #[Value.ref b] below meth c Hq_ lcq_ 156 11688 (lw_Z below #[Value.ref b] s) (F0 m 849 ls []) := by
  obtain ⟨hx, hb, hr, hml, hown, hts, hX, hbl, hlocks, hgv⟩ := id C0
  have hC : CallFix p m c cL_law 4 s #[Value.ref b] TB RL := ⟨hx, hb, hml, hown, fun w h => hts w (TB_in h)⟩
  have hbA : ¬ A b := fun h => absurd (hAq b h) (Nat.not_le.mpr hbl)
  have n_ro_w : ro ≠ w := neM hc_ro hc_w (by simp)
  have n_ro_cs : ro ≠ cs := neM hc_ro hc_cs (by simp)
  have n_ro_im : ro ≠ im := neM hc_ro hc_im (by simp)
  have n_ro_rd : ro ≠ rd := neM hc_ro hc_rd (by simp)
  have n_ro_mo : ro ≠ mo := neM hc_ro hc_mo (by simp)
  have n_ro_al : ro ≠ al := neM hc_ro hc_al (by simp)
  have n_ro_ii : ro ≠ ii := neM hc_ro hc_ii (by simp)
  have n_w_ro : w ≠ ro := neM hc_w hc_ro (by simp)
  have n_w_cs : w ≠ cs := neM hc_w hc_cs (by simp)
  have n_w_im : w ≠ im := neM hc_w hc_im (by simp)
  have n_w_rd : w ≠ rd := neM hc_w hc_rd (by simp)
  have n_w_mo : w ≠ mo := neM hc_w hc_mo (by simp)
  have n_w_al : w ≠ al := neM hc_w hc_al (by simp)
  have n_w_ii : w ≠ ii := neM hc_w hc_ii (by simp)
  have n_cs_ro : cs ≠ ro := neM hc_cs hc_ro (by simp)
  have n_cs_w : cs ≠ w := neM hc_cs hc_w (by simp)
  have n_cs_im : cs ≠ im := neM hc_cs hc_im (by simp)
  have n_cs_rd : cs ≠ rd := neM hc_cs hc_rd (by simp)
  have n_cs_mo : cs ≠ mo := neM hc_cs hc_mo (by simp)
  have n_cs_al : cs ≠ al := neM hc_cs hc_al (by simp)
  have n_cs_ii : cs ≠ ii := neM hc_cs hc_ii (by simp)
  have n_im_ro : im ≠ ro := neM hc_im hc_ro (by simp)
  have n_im_w : im ≠ w := neM hc_im hc_w (by simp)
  have n_im_cs : im ≠ cs := neM hc_im hc_cs (by simp)
  have n_im_rd : im ≠ rd := neM hc_im hc_rd (by simp)
  have n_im_mo : im ≠ mo := neM hc_im hc_mo (by simp)
  have n_im_al : im ≠ al := neM hc_im hc_al (by simp)
  have n_im_ii : im ≠ ii := neM hc_im hc_ii (by simp)
  have n_rd_ro : rd ≠ ro := neM hc_rd hc_ro (by simp)
  have n_rd_w : rd ≠ w := neM hc_rd hc_w (by simp)
  have n_rd_cs : rd ≠ cs := neM hc_rd hc_cs (by simp)
  have n_rd_im : rd ≠ im := neM hc_rd hc_im (by simp)
  have n_rd_mo : rd ≠ mo := neM hc_rd hc_mo (by simp)
  have n_rd_al : rd ≠ al := neM hc_rd hc_al (by simp)
  have n_rd_ii : rd ≠ ii := neM hc_rd hc_ii (by simp)
  have n_mo_ro : mo ≠ ro := neM hc_mo hc_ro (by simp)
  have n_mo_w : mo ≠ w := neM hc_mo hc_w (by simp)
  have n_mo_cs : mo ≠ cs := neM hc_mo hc_cs (by simp)
  have n_mo_im : mo ≠ im := neM hc_mo hc_im (by simp)
  have n_mo_rd : mo ≠ rd := neM hc_mo hc_rd (by simp)
  have n_mo_al : mo ≠ al := neM hc_mo hc_al (by simp)
  have n_mo_ii : mo ≠ ii := neM hc_mo hc_ii (by simp)
  have n_al_ro : al ≠ ro := neM hc_al hc_ro (by simp)
  have n_al_w : al ≠ w := neM hc_al hc_w (by simp)
  have n_al_cs : al ≠ cs := neM hc_al hc_cs (by simp)
  have n_al_im : al ≠ im := neM hc_al hc_im (by simp)
  have n_al_rd : al ≠ rd := neM hc_al hc_rd (by simp)
  have n_al_mo : al ≠ mo := neM hc_al hc_mo (by simp)
  have n_al_ii : al ≠ ii := neM hc_al hc_ii (by simp)
  have n_ii_ro : ii ≠ ro := neM hc_ii hc_ro (by simp)
  have n_ii_w : ii ≠ w := neM hc_ii hc_w (by simp)
  have n_ii_cs : ii ≠ cs := neM hc_ii hc_cs (by simp)
  have n_ii_im : ii ≠ im := neM hc_ii hc_im (by simp)
  have n_ii_rd : ii ≠ rd := neM hc_ii hc_rd (by simp)
  have n_ii_mo : ii ≠ mo := neM hc_ii hc_mo (by simp)
  have n_ii_al : ii ≠ al := neM hc_ii hc_al (by simp)
  refine lv_aload_n hx hb dL_law_849 rfl (lv_at hl 2 rfl) ?_
  refine lv_aload_n hx hb dL_law_850 rfl (lv_at hl 3 rfl) ?_
  refine lv_iload_n hx hb dL_law_851 rfl (lv_at hl 0 rfl) ?_
  refine lv_iconst (v := 1) hx hb dL_law_852 (by decide) ?_
  refine lv_iadd hx hb dL_law_853 ?_
  refine lv_cst (v := 1) (by decide) ?_
  refine va_sld hx hb hX hbl hbA hH.2.1 (iIn (by decide) (by decide)) dL_law_854 ?_
  refine lv_topi (fun vq1_ e_vq1_ => ?_)
  refine lv_aload_n hx hb dL_law_855 rfl (lv_at hl 3 rfl) ?_
  refine lv_iload_n hx hb dL_law_856 rfl (lv_at hl 0 rfl) ?_
  refine lv_iconst (v := 2) hx hb dL_law_857 (by decide) ?_
  refine lv_iadd hx hb dL_law_858 ?_
  refine lv_cst (v := 2) (by decide) ?_
  refine va_sld hx hb hX hbl hbA hH.2.1 (iIn (by decide) (by decide)) dL_law_859 ?_
  refine lv_topi (fun vq2_ e_vq2_ => ?_)
  refine goI hK hH (runV (As := [.int vq1_, .int vq2_]) (rest := []) hC hK hH (c_X9_pay hc_ro hc_w) mlL_89 (rcvM hK hH hc_ro rfl) ⟨⟨Nat.le_of_ble_eq_true rfl, Nat.le_of_ble_eq_true rfl⟩, Nat.le_of_ble_eq_true rfl, Nat.le_of_ble_eq_true rfl⟩ rfl hl.1 rfl (Nat.le_of_ble_eq_true rfl) dL_law_860) (fun rq5_ Mq3_ Tq4_ Hq_ lcq_ hP hz hH => ?_)
  try dsimp only at hP
  obtain ⟨(rfl), eT, hfr⟩ := hP
  have eT := eT.symm; subst eT
  have hc_ro : Mq3_ ro = some (.inr (7, [.ref w, .ref im, .ref rd, .ref rc, .ref cu])) := (hfr ro n_ro_w).trans hc_ro
  have hc_cs : Mq3_ cs = some (.inl (kA 0, 8, .inl (c100 (fun _ => 0)))) := (hfr cs n_cs_w).trans hc_cs
  have hc_im : Mq3_ im = some (.inl (kA 6, 3, .inr (.inr (.inr (.inr (fun _ => none)))))) := (hfr im n_im_w).trans hc_im
  have hc_rd : Mq3_ rd = some (.inr (3, [.ref nb, .ref vb, .int 0, .int 0, .ref by_, .int 0, .int 0, .int 0, .int 0, .int 0])) := (hfr rd n_rd_w).trans hc_rd
  have hc_mo : Mq3_ mo = some (.inr (8, [.ref al, .ref mt, .ref ii, .int 0, .int (-1), .ref pa, .int 0, .int 0, .int 0, .int 0, .int 0, .long 0, .int 0, .ref li])) := (hfr mo n_mo_w).trans hc_mo
  have hc_al : Mq3_ al = some (.inl (kA 0, 7506, .inl F)) := (hfr al n_al_w).trans hc_al
  have hc_ii : Mq3_ ii = some (.inl (kA 2, 3, .inl (fun _ => 0))) := (hfr ii n_ii_w).trans hc_ii
  refine lv_aload_n hx hb dL_law_863 rfl (lv_at hl 1 rfl) ?_
  refine lv_aload_n hx hb dL_law_864 rfl (lv_at hl 3 rfl) ?_
  refine lv_iload_n hx hb dL_law_865 rfl (lv_at hl 0 rfl) ?_
  refine lv_iconst (v := 1) hx hb dL_law_866 (by decide) ?_
  refine lv_iadd hx hb dL_law_867 ?_
  refine lv_cst (v := 1) (by decide) ?_
  refine va_sld hx hb hX hbl hbA hH.2.1 (iIn (by decide) (by decide)) dL_law_868 ?_
  refine lv_cst (v := vq1_) e_vq1_.symm ?_
  refine lv_aload_n hx hb dL_law_869 rfl (lv_at hl 3 rfl) ?_
  refine lv_iload_n hx hb dL_law_870 rfl (lv_at hl 0 rfl) ?_
  refine lv_iconst (v := 2) hx hb dL_law_871 (by decide) ?_
  refine lv_iadd hx hb dL_law_872 ?_
  refine lv_cst (v := 2) (by decide) ?_
  refine va_sld hx hb hX hbl hbA hH.2.1 (iIn (by decide) (by decide)) dL_law_873 ?_
  refine lv_cst (v := vq2_) e_vq2_.symm ?_
  refine goI hK hH (runV (As := [.int vq1_, .int vq2_]) (rest := [.int 30]) hC hK hH (c_X10_pay hc_mo hc_al hFi) mlL_92 (rcvM hK hH hc_mo rfl) ⟨⟨Nat.le_of_ble_eq_true rfl, Nat.le_of_ble_eq_true rfl⟩, Nat.le_of_ble_eq_true rfl, Nat.le_of_ble_eq_true rfl⟩ rfl hl.1 rfl (Nat.le_of_ble_eq_true rfl) dL_law_874) (fun rq8_ Mq6_ Tq7_ Hq_ lcq_ hP hz hH => ?_)
  try dsimp only at hP
  obtain ⟨(rfl), eT, hfr⟩ := hP
  have eT := eT.symm; subst eT
  have hc_ro : Mq6_ ro = some (.inr (7, [.ref w, .ref im, .ref rd, .ref rc, .ref cu])) := (hfr ro n_ro_al).trans hc_ro
  have hc_cs : Mq6_ cs = some (.inl (kA 0, 8, .inl (c100 (fun _ => 0)))) := (hfr cs n_cs_al).trans hc_cs
  have hc_im : Mq6_ im = some (.inl (kA 6, 3, .inr (.inr (.inr (.inr (fun _ => none)))))) := (hfr im n_im_al).trans hc_im
  have hc_rd : Mq6_ rd = some (.inr (3, [.ref nb, .ref vb, .int 0, .int 0, .ref by_, .int 0, .int 0, .int 0, .int 0, .int 0])) := (hfr rd n_rd_al).trans hc_rd
  have hc_mo : Mq6_ mo = some (.inr (8, [.ref al, .ref mt, .ref ii, .int 0, .int (-1), .ref pa, .int 0, .int 0, .int 0, .int 0, .int 0, .long 0, .int 0, .ref li])) := (hfr mo n_mo_al).trans hc_mo
  have hc_ii : Mq6_ ii = some (.inl (kA 2, 3, .inl (fun _ => 0))) := (hfr ii n_ii_al).trans hc_ii
  refine jic_eq (tgt := 1370) hx hb dL_law_877 (by decide) (fun cq9_ => ?_) (fun cq9_ => absurd cq9_ (by decide))
  exact law_tail C0 hAq hH.2.1 (lv_sub hl [0, 3] rfl) (Nat.le_of_ble_eq_true rfl) (Nat.le_of_ble_eq_true rfl)
