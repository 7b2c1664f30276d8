set_option maxHeartbeats 4000000 in
set_option maxRecDepth 100000 in
theorem law_case_18 {p : Program} {e : Env} {s : State} {m : MethodId} {below : List Frame} {meth : Method} {c : Code} {l : Launch} {b : Nat} {xs : Nat → Int32} (C0 : lw_At p s m meth c b 6 xs) {D : va_G} {kA : Nat → ClassId} (hK : mK D kA s) {M : mM} {T : mT} {A : Nat → Prop} (hAq : ∀ q, A q → s.heap.size ≤ q) {Hq_ : Heap} {lcq_ : List Loc} {ls : Array Slot} {ro w im rd rc cu cs bs tp nb by_ vb mo al mt ii pa li : Nat} {F : Nat → Int32} (hc_ro : M ro = some (.inr (7, [.ref w, .ref im, .ref rd, .ref rc, .ref cu]))) (hc_w : M w = some (.inr (6, [.int 0, .int 2, .int 0, .int 0, .int 0, .int 0, .int 0, .int (-1), .ref cs, .ref bs, .ref tp]))) (hc_cs : M cs = some (.inl (kA 0, 8, .inl (c100 (fun _ => 0))))) (hc_im : M im = some (.inl (kA 6, 3, .inr (.inr (.inr (.inr (fun _ => none))))))) (hc_rd : M rd = some (.inr (3, [.ref nb, .ref vb, .int 0, .int 0, .ref by_, .int 0, .int 0, .int 0, .int 0, .int 0]))) (hc_mo : M mo = some (.inr (8, [.ref al, .ref mt, .ref ii, .int 0, .int (-1), .ref pa, .int 0, .int 0, .int 0, .int 0, .int 0, .long 0, .int 0, .ref li]))) (hc_al : M al = some (.inl (kA 0, 7506, .inl F))) (hc_ii : M ii = some (.inl (kA 2, 3, .inl (fun _ => 0)))) (ht_bs : T bs = some 6) (ht_tp : T tp = some 7) (ht_mt : T mt = some 11) (hFi : ∀ j, j < 1140 → F j = mIni j) (hH : mS D kA M T A s.heap Hq_ lcq_) (hl : lv_has ls 4 [(3, .int 0), (2, .ref mo), (1, .ref ro), (0, .ref b)]) : W p l e room_1 s m #[Value.ref b] below meth c Hq_ lcq_ 156 11688 (lw_Z below #[Value.ref b] s) (F0 m 882 ls []) := by
  obtain ⟨hx, hb, hr, hml, hown, hts, hX, hbl, hlocks, hgv⟩ := id C0
  have hC : CallFix p m c cL_law 4 s #[Value.ref b] TB RL := ⟨hx, hb, hml, hown, fun w h => hts w (TB_in h)⟩
  have hbA : ¬ A b := fun h => absurd (hAq b h) (Nat.not_le.mpr hbl)
  have n_ro_w : ro ≠ w := neM hc_ro hc_w (by simp)
  have n_ro_cs : ro ≠ cs := neM hc_ro hc_cs (by simp)
  have n_ro_im : ro ≠ im := neM hc_ro hc_im (by simp)
  have n_ro_rd : ro ≠ rd := neM hc_ro hc_rd (by simp)
  have n_ro_mo : ro ≠ mo := neM hc_ro hc_mo (by simp)
  have n_ro_al : ro ≠ al := neM hc_ro hc_al (by simp)
  have n_ro_ii : ro ≠ ii := neM hc_ro hc_ii (by simp)
  have n_w_ro : w ≠ ro := neM hc_w hc_ro (by simp)
  have n_w_cs : w ≠ cs := neM hc_w hc_cs (by simp)
  have n_w_im : w ≠ im := neM hc_w hc_im (by simp)
  have n_w_rd : w ≠ rd := neM hc_w hc_rd (by simp)
  have n_w_mo : w ≠ mo := neM hc_w hc_mo (by simp)
  have n_w_al : w ≠ al := neM hc_w hc_al (by simp)
  have n_w_ii : w ≠ ii := neM hc_w hc_ii (by simp)
  have n_cs_ro : cs ≠ ro := neM hc_cs hc_ro (by simp)
  have n_cs_w : cs ≠ w := neM hc_cs hc_w (by simp)
  have n_cs_im : cs ≠ im := neM hc_cs hc_im (by simp)
  have n_cs_rd : cs ≠ rd := neM hc_cs hc_rd (by simp)
  have n_cs_mo : cs ≠ mo := neM hc_cs hc_mo (by simp)
  have n_cs_al : cs ≠ al := neM hc_cs hc_al (by simp)
  have n_cs_ii : cs ≠ ii := neM hc_cs hc_ii (by simp)
  have n_im_ro : im ≠ ro := neM hc_im hc_ro (by simp)
  have n_im_w : im ≠ w := neM hc_im hc_w (by simp)
  have n_im_cs : im ≠ cs := neM hc_im hc_cs (by simp)
  have n_im_rd : im ≠ rd := neM hc_im hc_rd (by simp)
  have n_im_mo : im ≠ mo := neM hc_im hc_mo (by simp)
  have n_im_al : im ≠ al := neM hc_im hc_al (by simp)
  have n_im_ii : im ≠ ii := neM hc_im hc_ii (by simp)
  have n_rd_ro : rd ≠ ro := neM hc_rd hc_ro (by simp)
  have n_rd_w : rd ≠ w := neM hc_rd hc_w (by simp)
  have n_rd_cs : rd ≠ cs := neM hc_rd hc_cs (by simp)
  have n_rd_im : rd ≠ im := neM hc_rd hc_im (by simp)
  have n_rd_mo : rd ≠ mo := neM hc_rd hc_mo (by simp)
  have n_rd_al : rd ≠ al := neM hc_rd hc_al (by simp)
  have n_rd_ii : rd ≠ ii := neM hc_rd hc_ii (by simp)
  have n_mo_ro : mo ≠ ro := neM hc_mo hc_ro (by simp)
  have n_mo_w : mo ≠ w := neM hc_mo hc_w (by simp)
  have n_mo_cs : mo ≠ cs := neM hc_mo hc_cs (by simp)
  have n_mo_im : mo ≠ im := neM hc_mo hc_im (by simp)
  have n_mo_rd : mo ≠ rd := neM hc_mo hc_rd (by simp)
  have n_mo_al : mo ≠ al := neM hc_mo hc_al (by simp)
  have n_mo_ii : mo ≠ ii := neM hc_mo hc_ii (by simp)
  have n_al_ro : al ≠ ro := neM hc_al hc_ro (by simp)
  have n_al_w : al ≠ w := neM hc_al hc_w (by simp)
  have n_al_cs : al ≠ cs := neM hc_al hc_cs (by simp)
  have n_al_im : al ≠ im := neM hc_al hc_im (by simp)
  have n_al_rd : al ≠ rd := neM hc_al hc_rd (by simp)
  have n_al_mo : al ≠ mo := neM hc_al hc_mo (by simp)
  have n_al_ii : al ≠ ii := neM hc_al hc_ii (by simp)
  have n_ii_ro : ii ≠ ro := neM hc_ii hc_ro (by simp)
  have n_ii_w : ii ≠ w := neM hc_ii hc_w (by simp)
  have n_ii_cs : ii ≠ cs := neM hc_ii hc_cs (by simp)
  have n_ii_im : ii ≠ im := neM hc_ii hc_im (by simp)
  have n_ii_rd : ii ≠ rd := neM hc_ii hc_rd (by simp)
  have n_ii_mo : ii ≠ mo := neM hc_ii hc_mo (by simp)
  have n_ii_al : ii ≠ al := neM hc_ii hc_al (by simp)
  refine lv_aload_n hx hb dL_law_882 rfl (lv_at hl 2 rfl) ?_
  refine lv_aload_n hx hb dL_law_883 rfl (lv_at hl 3 rfl) ?_
  refine lv_iload_n hx hb dL_law_884 rfl (lv_at hl 0 rfl) ?_
  refine lv_iconst (v := 1) hx hb dL_law_885 (by decide) ?_
  refine lv_iadd hx hb dL_law_886 ?_
  refine lv_cst (v := 1) (by decide) ?_
  refine va_sld hx hb hX hbl hbA hH.2.1 (iIn (by decide) (by decide)) dL_law_887 ?_
  refine lv_topi (fun vq1_ e_vq1_ => ?_)
  refine goI hK hH (runV (As := [.int vq1_]) (rest := []) hC hK hH (c_X9_count hc_ro hc_w hc_cs) mlL_93 (rcvM hK hH hc_ro rfl) ⟨⟨Nat.le_of_ble_eq_true rfl, Nat.le_of_ble_eq_true rfl⟩, Nat.le_of_ble_eq_true rfl, Nat.le_of_ble_eq_true rfl⟩ rfl hl.1 rfl (Nat.le_of_ble_eq_true rfl) dL_law_888) (fun rq4_ Mq2_ Tq3_ Hq_ lcq_ hP hz hH => ?_)
  try dsimp only at hP
  obtain ⟨(⟨cq5_, rfl⟩ | ⟨cq6_, rfl⟩ | ⟨cq7_, rfl⟩ | ⟨cq8_, rfl⟩ | ⟨cq9_, rfl⟩), eT, eM⟩ := hP
  · skip
    have eT := eT.symm; subst eT
    have eM := eM.symm; subst eM
    have cq5_ : vq1_.toInt = 2 := cq5_
    refine lv_aload_n hx hb dL_law_891 rfl (lv_at hl 1 rfl) ?_
    refine lv_aload_n hx hb dL_law_892 rfl (lv_at hl 3 rfl) ?_
    refine lv_iload_n hx hb dL_law_893 rfl (lv_at hl 0 rfl) ?_
    refine lv_iconst (v := 1) hx hb dL_law_894 (by decide) ?_
    refine lv_iadd hx hb dL_law_895 ?_
    refine lv_cst (v := 1) (by decide) ?_
    refine va_sld hx hb hX hbl hbA hH.2.1 (iIn (by decide) (by decide)) dL_law_896 ?_
    refine lv_cst (v := vq1_) e_vq1_.symm ?_
    refine goI hK hH (runV (As := [.int vq1_]) (rest := [.int 2]) hC hK hH (c_X10_count hc_mo hc_al hFi) mlL_96 (rcvM hK hH hc_mo rfl) ⟨⟨Nat.le_of_ble_eq_true rfl, Nat.le_of_ble_eq_true rfl⟩, Nat.le_of_ble_eq_true rfl, Nat.le_of_ble_eq_true rfl⟩ rfl hl.1 rfl (Nat.le_of_ble_eq_true rfl) dL_law_897) (fun rq12_ Mq10_ Tq11_ Hq_ lcq_ hP hz hH => ?_)
    try dsimp only at hP
    obtain ⟨(⟨cq13_, rfl⟩ | ⟨cq14_, rfl⟩ | ⟨cq15_, rfl⟩ | ⟨cq16_, rfl⟩ | ⟨cq17_, rfl⟩), eT, eM⟩ := hP
    · skip
      have eT := eT.symm; subst eT
      have eM := eM.symm; subst eM
      have cq13_ : vq1_.toInt = 2 := cq13_
      refine jic_eq (tgt := 1370) hx hb dL_law_900 (by decide) (fun cq18_ => ?_) (fun cq18_ => absurd cq18_ (by decide))
      exact law_tail C0 hAq hH.2.1 (lv_sub hl [0, 3] rfl) (Nat.le_of_ble_eq_true rfl) (Nat.le_of_ble_eq_true rfl)
    · skip
      have eT := eT.symm; subst eT
      have eM := eM.symm; subst eM
      have cq14_ : vq1_.toInt = 3 := cq14_
      exfalso; omega
    · skip
      have eT := eT.symm; subst eT
      have eM := eM.symm; subst eM
      have cq15_ : 10 ≤ vq1_.toInt ∧ vq1_.toInt ≤ 17 := cq15_
      exfalso; omega
    · skip
      have eT := eT.symm; subst eT
      have eM := eM.symm; subst eM
      have cq16_ : 0 ≤ vq1_.toInt ∧ vq1_.toInt ≤ 8 ∧ vq1_.toInt ≠ 2 ∧ vq1_.toInt ≠ 3 := cq16_
      exfalso; omega
    · skip
      have eT := eT.symm; subst eT
      have eM := eM.symm; subst eM
      have cq17_ : ¬ (0 ≤ vq1_.toInt ∧ vq1_.toInt ≤ 8) ∧ ¬ (10 ≤ vq1_.toInt ∧ vq1_.toInt ≤ 17) := cq17_
      exfalso; omega
  · skip
    have eT := eT.symm; subst eT
    have eM := eM.symm; subst eM
    have cq6_ : vq1_.toInt = 3 := cq6_
    refine lv_aload_n hx hb dL_law_891 rfl (lv_at hl 1 rfl) ?_
    refine lv_aload_n hx hb dL_law_892 rfl (lv_at hl 3 rfl) ?_
    refine lv_iload_n hx hb dL_law_893 rfl (lv_at hl 0 rfl) ?_
    refine lv_iconst (v := 1) hx hb dL_law_894 (by decide) ?_
    refine lv_iadd hx hb dL_law_895 ?_
    refine lv_cst (v := 1) (by decide) ?_
    refine va_sld hx hb hX hbl hbA hH.2.1 (iIn (by decide) (by decide)) dL_law_896 ?_
    refine lv_cst (v := vq1_) e_vq1_.symm ?_
    refine goI hK hH (runV (As := [.int vq1_]) (rest := [.int 800]) hC hK hH (c_X10_count hc_mo hc_al hFi) mlL_96 (rcvM hK hH hc_mo rfl) ⟨⟨Nat.le_of_ble_eq_true rfl, Nat.le_of_ble_eq_true rfl⟩, Nat.le_of_ble_eq_true rfl, Nat.le_of_ble_eq_true rfl⟩ rfl hl.1 rfl (Nat.le_of_ble_eq_true rfl) dL_law_897) (fun rq21_ Mq19_ Tq20_ Hq_ lcq_ hP hz hH => ?_)
    try dsimp only at hP
    obtain ⟨(⟨cq22_, rfl⟩ | ⟨cq23_, rfl⟩ | ⟨cq24_, rfl⟩ | ⟨cq25_, rfl⟩ | ⟨cq26_, rfl⟩), eT, eM⟩ := hP
    · skip
      have eT := eT.symm; subst eT
      have eM := eM.symm; subst eM
      have cq22_ : vq1_.toInt = 2 := cq22_
      exfalso; omega
    · skip
      have eT := eT.symm; subst eT
      have eM := eM.symm; subst eM
      have cq23_ : vq1_.toInt = 3 := cq23_
      refine jic_eq (tgt := 1370) hx hb dL_law_900 (by decide) (fun cq27_ => ?_) (fun cq27_ => absurd cq27_ (by decide))
      exact law_tail C0 hAq hH.2.1 (lv_sub hl [0, 3] rfl) (Nat.le_of_ble_eq_true rfl) (Nat.le_of_ble_eq_true rfl)
    · skip
      have eT := eT.symm; subst eT
      have eM := eM.symm; subst eM
      have cq24_ : 10 ≤ vq1_.toInt ∧ vq1_.toInt ≤ 17 := cq24_
      exfalso; omega
    · skip
      have eT := eT.symm; subst eT
      have eM := eM.symm; subst eM
      have cq25_ : 0 ≤ vq1_.toInt ∧ vq1_.toInt ≤ 8 ∧ vq1_.toInt ≠ 2 ∧ vq1_.toInt ≠ 3 := cq25_
      exfalso; omega
    · skip
      have eT := eT.symm; subst eT
      have eM := eM.symm; subst eM
      have cq26_ : ¬ (0 ≤ vq1_.toInt ∧ vq1_.toInt ≤ 8) ∧ ¬ (10 ≤ vq1_.toInt ∧ vq1_.toInt ≤ 17) := cq26_
      exfalso; omega
  · skip
    have eT := eT.symm; subst eT
    have eM := eM.symm; subst eM
    have cq7_ : 10 ≤ vq1_.toInt ∧ vq1_.toInt ≤ 17 := cq7_
    refine lv_aload_n hx hb dL_law_891 rfl (lv_at hl 1 rfl) ?_
    refine lv_aload_n hx hb dL_law_892 rfl (lv_at hl 3 rfl) ?_
    refine lv_iload_n hx hb dL_law_893 rfl (lv_at hl 0 rfl) ?_
    refine lv_iconst (v := 1) hx hb dL_law_894 (by decide) ?_
    refine lv_iadd hx hb dL_law_895 ?_
    refine lv_cst (v := 1) (by decide) ?_
    refine va_sld hx hb hX hbl hbA hH.2.1 (iIn (by decide) (by decide)) dL_law_896 ?_
    refine lv_cst (v := vq1_) e_vq1_.symm ?_
    refine goI hK hH (runV (As := [.int vq1_]) (rest := [.int 100]) hC hK hH (c_X10_count hc_mo hc_al hFi) mlL_96 (rcvM hK hH hc_mo rfl) ⟨⟨Nat.le_of_ble_eq_true rfl, Nat.le_of_ble_eq_true rfl⟩, Nat.le_of_ble_eq_true rfl, Nat.le_of_ble_eq_true rfl⟩ rfl hl.1 rfl (Nat.le_of_ble_eq_true rfl) dL_law_897) (fun rq30_ Mq28_ Tq29_ Hq_ lcq_ hP hz hH => ?_)
    try dsimp only at hP
    obtain ⟨(⟨cq31_, rfl⟩ | ⟨cq32_, rfl⟩ | ⟨cq33_, rfl⟩ | ⟨cq34_, rfl⟩ | ⟨cq35_, rfl⟩), eT, eM⟩ := hP
    · skip
      have eT := eT.symm; subst eT
      have eM := eM.symm; subst eM
      have cq31_ : vq1_.toInt = 2 := cq31_
      exfalso; omega
    · skip
      have eT := eT.symm; subst eT
      have eM := eM.symm; subst eM
      have cq32_ : vq1_.toInt = 3 := cq32_
      exfalso; omega
    · skip
      have eT := eT.symm; subst eT
      have eM := eM.symm; subst eM
      have cq33_ : 10 ≤ vq1_.toInt ∧ vq1_.toInt ≤ 17 := cq33_
      refine jic_eq (tgt := 1370) hx hb dL_law_900 (by decide) (fun cq36_ => ?_) (fun cq36_ => absurd cq36_ (by decide))
      exact law_tail C0 hAq hH.2.1 (lv_sub hl [0, 3] rfl) (Nat.le_of_ble_eq_true rfl) (Nat.le_of_ble_eq_true rfl)
    · skip
      have eT := eT.symm; subst eT
      have eM := eM.symm; subst eM
      have cq34_ : 0 ≤ vq1_.toInt ∧ vq1_.toInt ≤ 8 ∧ vq1_.toInt ≠ 2 ∧ vq1_.toInt ≠ 3 := cq34_
      exfalso; omega
    · skip
      have eT := eT.symm; subst eT
      have eM := eM.symm; subst eM
      have cq35_ : ¬ (0 ≤ vq1_.toInt ∧ vq1_.toInt ≤ 8) ∧ ¬ (10 ≤ vq1_.toInt ∧ vq1_.toInt ≤ 17) := cq35_
      exfalso; omega
  · skip
    have eT := eT.symm; subst eT
    have eM := eM.symm; subst eM
    have cq8_ : 0 ≤ vq1_.toInt ∧ vq1_.toInt ≤ 8 ∧ vq1_.toInt ≠ 2 ∧ vq1_.toInt ≠ 3 := cq8_
    refine lv_aload_n hx hb dL_law_891 rfl (lv_at hl 1 rfl) ?_
    refine lv_aload_n hx hb dL_law_892 rfl (lv_at hl 3 rfl) ?_
    refine lv_iload_n hx hb dL_law_893 rfl (lv_at hl 0 rfl) ?_
    refine lv_iconst (v := 1) hx hb dL_law_894 (by decide) ?_
    refine lv_iadd hx hb dL_law_895 ?_
    refine lv_cst (v := 1) (by decide) ?_
    refine va_sld hx hb hX hbl hbA hH.2.1 (iIn (by decide) (by decide)) dL_law_896 ?_
    refine lv_cst (v := vq1_) e_vq1_.symm ?_
    refine goI hK hH (runV (As := [.int vq1_]) (rest := [.int 0]) hC hK hH (c_X10_count hc_mo hc_al hFi) mlL_96 (rcvM hK hH hc_mo rfl) ⟨⟨Nat.le_of_ble_eq_true rfl, Nat.le_of_ble_eq_true rfl⟩, Nat.le_of_ble_eq_true rfl, Nat.le_of_ble_eq_true rfl⟩ rfl hl.1 rfl (Nat.le_of_ble_eq_true rfl) dL_law_897) (fun rq39_ Mq37_ Tq38_ Hq_ lcq_ hP hz hH => ?_)
    try dsimp only at hP
    obtain ⟨(⟨cq40_, rfl⟩ | ⟨cq41_, rfl⟩ | ⟨cq42_, rfl⟩ | ⟨cq43_, rfl⟩ | ⟨cq44_, rfl⟩), eT, eM⟩ := hP
    · skip
      have eT := eT.symm; subst eT
      have eM := eM.symm; subst eM
      have cq40_ : vq1_.toInt = 2 := cq40_
      exfalso; omega
    · skip
      have eT := eT.symm; subst eT
      have eM := eM.symm; subst eM
      have cq41_ : vq1_.toInt = 3 := cq41_
      exfalso; omega
    · skip
      have eT := eT.symm; subst eT
      have eM := eM.symm; subst eM
      have cq42_ : 10 ≤ vq1_.toInt ∧ vq1_.toInt ≤ 17 := cq42_
      exfalso; omega
    · skip
      have eT := eT.symm; subst eT
      have eM := eM.symm; subst eM
      have cq43_ : 0 ≤ vq1_.toInt ∧ vq1_.toInt ≤ 8 ∧ vq1_.toInt ≠ 2 ∧ vq1_.toInt ≠ 3 := cq43_
      refine jic_eq (tgt := 1370) hx hb dL_law_900 (by decide) (fun cq45_ => ?_) (fun cq45_ => absurd cq45_ (by decide))
      exact law_tail C0 hAq hH.2.1 (lv_sub hl [0, 3] rfl) (Nat.le_of_ble_eq_true rfl) (Nat.le_of_ble_eq_true rfl)
    · skip
      have eT := eT.symm; subst eT
      have eM := eM.symm; subst eM
      have cq44_ : ¬ (0 ≤ vq1_.toInt ∧ vq1_.toInt ≤ 8) ∧ ¬ (10 ≤ vq1_.toInt ∧ vq1_.toInt ≤ 17) := cq44_
      exfalso; omega
  · skip
    have eT := eT.symm; subst eT
    have eM := eM.symm; subst eM
    have cq9_ : ¬ (0 ≤ vq1_.toInt ∧ vq1_.toInt ≤ 8) ∧ ¬ (10 ≤ vq1_.toInt ∧ vq1_.toInt ≤ 17) := cq9_
    refine lv_aload_n hx hb dL_law_891 rfl (lv_at hl 1 rfl) ?_
    refine lv_aload_n hx hb dL_law_892 rfl (lv_at hl 3 rfl) ?_
    refine lv_iload_n hx hb dL_law_893 rfl (lv_at hl 0 rfl) ?_
    refine lv_iconst (v := 1) hx hb dL_law_894 (by decide) ?_
    refine lv_iadd hx hb dL_law_895 ?_
    refine lv_cst (v := 1) (by decide) ?_
    refine va_sld hx hb hX hbl hbA hH.2.1 (iIn (by decide) (by decide)) dL_law_896 ?_
    refine lv_cst (v := vq1_) e_vq1_.symm ?_
    refine goI hK hH (runV (As := [.int vq1_]) (rest := [.int (-1)]) hC hK hH (c_X10_count hc_mo hc_al hFi) mlL_96 (rcvM hK hH hc_mo rfl) ⟨⟨Nat.le_of_ble_eq_true rfl, Nat.le_of_ble_eq_true rfl⟩, Nat.le_of_ble_eq_true rfl, Nat.le_of_ble_eq_true rfl⟩ rfl hl.1 rfl (Nat.le_of_ble_eq_true rfl) dL_law_897) (fun rq48_ Mq46_ Tq47_ Hq_ lcq_ hP hz hH => ?_)
    try dsimp only at hP
    obtain ⟨(⟨cq49_, rfl⟩ | ⟨cq50_, rfl⟩ | ⟨cq51_, rfl⟩ | ⟨cq52_, rfl⟩ | ⟨cq53_, rfl⟩), eT, eM⟩ := hP
    · skip
      have eT := eT.symm; subst eT
      have eM := eM.symm; subst eM
      have cq49_ : vq1_.toInt = 2 := cq49_
      exfalso; omega
    · skip
      have eT := eT.symm; subst eT
      have eM := eM.symm; subst eM
      have cq50_ : vq1_.toInt = 3 := cq50_
      exfalso; omega
    · skip
      have eT := eT.symm; subst eT
      have eM := eM.symm; subst eM
      have cq51_ : 10 ≤ vq1_.toInt ∧ vq1_.toInt ≤ 17 := cq51_
      exfalso; omega
    · skip
      have eT := eT.symm; subst eT
      have eM := eM.symm; subst eM
      have cq52_ : 0 ≤ vq1_.toInt ∧ vq1_.toInt ≤ 8 ∧ vq1_.toInt ≠ 2 ∧ vq1_.toInt ≠ 3 := cq52_
      exfalso; omega
    · skip
      have eT := eT.symm; subst eT
      have eM := eM.symm; subst eM
      have cq53_ : ¬ (0 ≤ vq1_.toInt ∧ vq1_.toInt ≤ 8) ∧ ¬ (10 ≤ vq1_.toInt ∧ vq1_.toInt ≤ 17) := cq53_
      refine jic_eq (tgt := 1370) hx hb dL_law_900 (by decide) (fun cq54_ => ?_) (fun cq54_ => absurd cq54_ (by decide))
      exact law_tail C0 hAq hH.2.1 (lv_sub hl [0, 3] rfl) (Nat.le_of_ble_eq_true rfl) (Nat.le_of_ble_eq_true rfl)
set_option maxHeartbeats 4000000 in
set_option maxRecDepth 100000 in
theorem law_case_19 {p : Program} {e : Env} {s : State} {m : MethodId} {below : List Frame} {meth : Method} {c : Code} {l : Launch} {b : Nat} {xs : Nat → Int32} (C0 : lw_At p s m meth c b 6 xs) {D : va_G} {kA : Nat → ClassId} (hK : mK D kA s) {M : mM} {T : mT} {A : Nat → Prop} (hAq : ∀ q, A q → s.heap.size ≤ q) {Hq_ : Heap} {lcq_ : List Loc} {ls : Array Slot} {ro w im rd rc cu cs bs tp nb by_ vb mo al mt ii pa li : Nat} {F : Nat → Int32} (hc_ro : M ro = some (.inr (7, [.ref w, .ref im, .ref rd, .ref rc, .ref cu]))) (hc_w : M w = some (.inr (6, [.int 0, .int 2, .int 0, .int 0, .int 0, .int 0, .int 0, .int (-1), .ref cs, .ref bs, .ref tp]))) (hc_cs : M cs = some (.inl (kA 0, 8, .inl (c100 (fun _ => 0))))) (hc_im : M im = some (.inl (kA 6, 3, .inr (.inr (.inr (.inr (fun _ => none))))))) (hc_rd : M rd = some (.inr (3, [.ref nb, .ref vb, .int 0, .int 0, .ref by_, .int 0, .int 0, .int 0, .int 0, .int 0]))) (hc_mo : M mo = some (.inr (8, [.ref al, .ref mt, .ref ii, .int 0, .int (-1), .ref pa, .int 0, .int 0, .int 0, .int 0, .int 0, .long 0, .int 0, .ref li]))) (hc_al : M al = some (.inl (kA 0, 7506, .inl F))) (hc_ii : M ii = some (.inl (kA 2, 3, .inl (fun _ => 0)))) (ht_bs : T bs = some 6) (ht_tp : T tp = some 7) (ht_mt : T mt = some 11) (hFi : ∀ j, j < 1140 → F j = mIni j) (hH : mS D kA M T A s.heap Hq_ lcq_) (hl : lv_has ls 4 [(3, .int 0), (2, .ref mo), (1, .ref ro), (0, .ref b)]) : W p l e room_1 s m #[Value.ref b] below meth c Hq_ lcq_ 156 11688 (lw_Z below #[Value.ref b] s) (F0 m 905 ls []) := by
  obtain ⟨hx, hb, hr, hml, hown, hts, hX, hbl, hlocks, hgv⟩ := id C0
  have hC : CallFix p m c cL_law 4 s #[Value.ref b] TB RL := ⟨hx, hb, hml, hown, fun w h => hts w (TB_in h)⟩
  have hbA : ¬ A b := fun h => absurd (hAq b h) (Nat.not_le.mpr hbl)
  have n_ro_w : ro ≠ w := neM hc_ro hc_w (by simp)
  have n_ro_cs : ro ≠ cs := neM hc_ro hc_cs (by simp)
  have n_ro_im : ro ≠ im := neM hc_ro hc_im (by simp)
  have n_ro_rd : ro ≠ rd := neM hc_ro hc_rd (by simp)
  have n_ro_mo : ro ≠ mo := neM hc_ro hc_mo (by simp)
  have n_ro_al : ro ≠ al := neM hc_ro hc_al (by simp)
  have n_ro_ii : ro ≠ ii := neM hc_ro hc_ii (by simp)
  have n_w_ro : w ≠ ro := neM hc_w hc_ro (by simp)
  have n_w_cs : w ≠ cs := neM hc_w hc_cs (by simp)
  have n_w_im : w ≠ im := neM hc_w hc_im (by simp)
  have n_w_rd : w ≠ rd := neM hc_w hc_rd (by simp)
  have n_w_mo : w ≠ mo := neM hc_w hc_mo (by simp)
  have n_w_al : w ≠ al := neM hc_w hc_al (by simp)
  have n_w_ii : w ≠ ii := neM hc_w hc_ii (by simp)
  have n_cs_ro : cs ≠ ro := neM hc_cs hc_ro (by simp)
  have n_cs_w : cs ≠ w := neM hc_cs hc_w (by simp)
  have n_cs_im : cs ≠ im := neM hc_cs hc_im (by simp)
  have n_cs_rd : cs ≠ rd := neM hc_cs hc_rd (by simp)
  have n_cs_mo : cs ≠ mo := neM hc_cs hc_mo (by simp)
  have n_cs_al : cs ≠ al := neM hc_cs hc_al (by simp)
  have n_cs_ii : cs ≠ ii := neM hc_cs hc_ii (by simp)
  have n_im_ro : im ≠ ro := neM hc_im hc_ro (by simp)
  have n_im_w : im ≠ w := neM hc_im hc_w (by simp)
  have n_im_cs : im ≠ cs := neM hc_im hc_cs (by simp)
  have n_im_rd : im ≠ rd := neM hc_im hc_rd (by simp)
  have n_im_mo : im ≠ mo := neM hc_im hc_mo (by simp)
  have n_im_al : im ≠ al := neM hc_im hc_al (by simp)
  have n_im_ii : im ≠ ii := neM hc_im hc_ii (by simp)
  have n_rd_ro : rd ≠ ro := neM hc_rd hc_ro (by simp)
  have n_rd_w : rd ≠ w := neM hc_rd hc_w (by simp)
  have n_rd_cs : rd ≠ cs := neM hc_rd hc_cs (by simp)
  have n_rd_im : rd ≠ im := neM hc_rd hc_im (by simp)
  have n_rd_mo : rd ≠ mo := neM hc_rd hc_mo (by simp)
  have n_rd_al : rd ≠ al := neM hc_rd hc_al (by simp)
  have n_rd_ii : rd ≠ ii := neM hc_rd hc_ii (by simp)
  have n_mo_ro : mo ≠ ro := neM hc_mo hc_ro (by simp)
  have n_mo_w : mo ≠ w := neM hc_mo hc_w (by simp)
  have n_mo_cs : mo ≠ cs := neM hc_mo hc_cs (by simp)
  have n_mo_im : mo ≠ im := neM hc_mo hc_im (by simp)
  have n_mo_rd : mo ≠ rd := neM hc_mo hc_rd (by simp)
  have n_mo_al : mo ≠ al := neM hc_mo hc_al (by simp)
  have n_mo_ii : mo ≠ ii := neM hc_mo hc_ii (by simp)
  have n_al_ro : al ≠ ro := neM hc_al hc_ro (by simp)
  have n_al_w : al ≠ w := neM hc_al hc_w (by simp)
  have n_al_cs : al ≠ cs := neM hc_al hc_cs (by simp)
  have n_al_im : al ≠ im := neM hc_al hc_im (by simp)
  have n_al_rd : al ≠ rd := neM hc_al hc_rd (by simp)
  have n_al_mo : al ≠ mo := neM hc_al hc_mo (by simp)
  have n_al_ii : al ≠ ii := neM hc_al hc_ii (by simp)
  have n_ii_ro : ii ≠ ro := neM hc_ii hc_ro (by simp)
  have n_ii_w : ii ≠ w := neM hc_ii hc_w (by simp)
  have n_ii_cs : ii ≠ cs := neM hc_ii hc_cs (by simp)
  have n_ii_im : ii ≠ im := neM hc_ii hc_im (by simp)
  have n_ii_rd : ii ≠ rd := neM hc_ii hc_rd (by simp)
  have n_ii_mo : ii ≠ mo := neM hc_ii hc_mo (by simp)
  have n_ii_al : ii ≠ al := neM hc_ii hc_al (by simp)
  refine lv_aload_n hx hb dL_law_905 rfl (lv_at hl 2 rfl) ?_
  refine lv_aload_n hx hb dL_law_906 rfl (lv_at hl 3 rfl) ?_
  refine lv_iload_n hx hb dL_law_907 rfl (lv_at hl 0 rfl) ?_
  refine lv_iconst (v := 1) hx hb dL_law_908 (by decide) ?_
  refine lv_iadd hx hb dL_law_909 ?_
  refine lv_cst (v := 1) (by decide) ?_
  refine va_sld hx hb hX hbl hbA hH.2.1 (iIn (by decide) (by decide)) dL_law_910 ?_
  refine lv_topi (fun vq1_ e_vq1_ => ?_)
  refine lv_aload_n hx hb dL_law_911 rfl (lv_at hl 3 rfl) ?_
  refine lv_iload_n hx hb dL_law_912 rfl (lv_at hl 0 rfl) ?_
  refine lv_iconst (v := 2) hx hb dL_law_913 (by decide) ?_
  refine lv_iadd hx hb dL_law_914 ?_
  refine lv_cst (v := 2) (by decide) ?_
  refine va_sld hx hb hX hbl hbA hH.2.1 (iIn (by decide) (by decide)) dL_law_915 ?_
  refine lv_topi (fun vq2_ e_vq2_ => ?_)
  refine goI hK hH (runV (As := [.int vq1_, .int vq2_]) (rest := []) hC hK hH (c_X9_bill hc_ro hc_w) mlL_97 (rcvM hK hH hc_ro rfl) ⟨⟨Nat.le_of_ble_eq_true rfl, Nat.le_of_ble_eq_true rfl⟩, Nat.le_of_ble_eq_true rfl, Nat.le_of_ble_eq_true rfl⟩ rfl hl.1 rfl (Nat.le_of_ble_eq_true rfl) dL_law_916) (fun rq5_ Mq3_ Tq4_ Hq_ lcq_ hP hz hH => ?_)
  try dsimp only at hP
  obtain ⟨(rfl), eT, eM⟩ := hP
  have eT := eT.symm; subst eT
  have eM := eM.symm; subst eM
  refine lv_aload_n hx hb dL_law_919 rfl (lv_at hl 1 rfl) ?_
  refine lv_aload_n hx hb dL_law_920 rfl (lv_at hl 3 rfl) ?_
  refine lv_iload_n hx hb dL_law_921 rfl (lv_at hl 0 rfl) ?_
  refine lv_iconst (v := 1) hx hb dL_law_922 (by decide) ?_
  refine lv_iadd hx hb dL_law_923 ?_
  refine lv_cst (v := 1) (by decide) ?_
  refine va_sld hx hb hX hbl hbA hH.2.1 (iIn (by decide) (by decide)) dL_law_924 ?_
  refine lv_cst (v := vq1_) e_vq1_.symm ?_
  refine lv_aload_n hx hb dL_law_925 rfl (lv_at hl 3 rfl) ?_
  refine lv_iload_n hx hb dL_law_926 rfl (lv_at hl 0 rfl) ?_
  refine lv_iconst (v := 2) hx hb dL_law_927 (by decide) ?_
  refine lv_iadd hx hb dL_law_928 ?_
  refine lv_cst (v := 2) (by decide) ?_
  refine va_sld hx hb hX hbl hbA hH.2.1 (iIn (by decide) (by decide)) dL_law_929 ?_
  refine lv_cst (v := vq2_) e_vq2_.symm ?_
  refine goI hK hH (runV (As := [.int vq1_, .int vq2_]) (rest := [.int (-2)]) hC hK hH (c_X10_bill hc_mo hc_al hFi) mlL_100 (rcvM hK hH hc_mo rfl) ⟨⟨Nat.le_of_ble_eq_true rfl, Nat.le_of_ble_eq_true rfl⟩, Nat.le_of_ble_eq_true rfl, Nat.le_of_ble_eq_true rfl⟩ rfl hl.1 rfl (Nat.le_of_ble_eq_true rfl) dL_law_930) (fun rq8_ Mq6_ Tq7_ Hq_ lcq_ hP hz hH => ?_)
  try dsimp only at hP
  obtain ⟨(rfl), eT, eM⟩ := hP
  have eT := eT.symm; subst eT
  have eM := eM.symm; subst eM
  refine jic_eq (tgt := 1370) hx hb dL_law_933 (by decide) (fun cq9_ => ?_) (fun cq9_ => absurd cq9_ (by decide))
  exact law_tail C0 hAq hH.2.1 (lv_sub hl [0, 3] rfl) (Nat.le_of_ble_eq_true rfl) (Nat.le_of_ble_eq_true rfl)
set_option maxHeartbeats 4000000 in
set_option maxRecDepth 100000 in
theorem law_case_20 {p : Program} {e : Env} {s : State} {m : MethodId} {below : List Frame} {meth : Method} {c : Code} {l : Launch} {b : Nat} {xs : Nat → Int32} (C0 : lw_At p s m meth c b 6 xs) {D : va_G} {kA : Nat → ClassId} (hK : mK D kA s) {M : mM} {T : mT} {A : Nat → Prop} (hAq : ∀ q, A q → s.heap.size ≤ q) {Hq_ : Heap} {lcq_ : List Loc} {ls : Array Slot} {ro w im rd rc cu cs bs tp nb by_ vb mo al mt ii pa li : Nat} {F : Nat → Int32} (hc_ro : M ro = some (.inr (7, [.ref w, .ref im, .ref rd, .ref rc, .ref cu]))) (hc_w : M w = some (.inr (6, [.int 0, .int 2, .int 0, .int 0, .int 0, .int 0, .int 0, .int (-1), .ref cs, .ref bs, .ref tp]))) (hc_cs : M cs = some (.inl (kA 0, 8, .inl (c100 (fun _ => 0))))) (hc_im : M im = some (.inl (kA 6, 3, .inr (.inr (.inr (.inr (fun _ => none))))))) (hc_rd : M rd = some (.inr (3, [.ref nb, .ref vb, .int 0, .int 0, .ref by_, .int 0, .int 0, .int 0, .int 0, .int 0]))) (hc_mo : M mo = some (.inr (8, [.ref al, .ref mt, .ref ii, .int 0, .int (-1), .ref pa, .int 0, .int 0, .int 0, .int 0, .int 0, .long 0, .int 0, .ref li]))) (hc_al : M al = some (.inl (kA 0, 7506, .inl F))) (hc_ii : M ii = some (.inl (kA 2, 3, .inl (fun _ => 0)))) (ht_bs : T bs = some 6) (ht_tp : T tp = some 7) (ht_mt : T mt = some 11) (hFi : ∀ j, j < 1140 → F j = mIni j) (hH : mS D kA M T A s.heap Hq_ lcq_) (hl : lv_has ls 4 [(3, .int 0), (2, .ref mo), (1, .ref ro), (0, .ref b)]) : W p l e room_1 s m #[Value.ref b] below meth c Hq_ lcq_ 156 11688 (lw_Z below #[Value.ref b] s) (F0 m 938 ls []) := by
  obtain ⟨hx, hb, hr, hml, hown, hts, hX, hbl, hlocks, hgv⟩ := id C0
  have hC : CallFix p m c cL_law 4 s #[Value.ref b] TB RL := ⟨hx, hb, hml, hown, fun w h => hts w (TB_in h)⟩
  have hbA : ¬ A b := fun h => absurd (hAq b h) (Nat.not_le.mpr hbl)
  have n_ro_w : ro ≠ w := neM hc_ro hc_w (by simp)
  have n_ro_cs : ro ≠ cs := neM hc_ro hc_cs (by simp)
  have n_ro_im : ro ≠ im := neM hc_ro hc_im (by simp)
  have n_ro_rd : ro ≠ rd := neM hc_ro hc_rd (by simp)
  have n_ro_mo : ro ≠ mo := neM hc_ro hc_mo (by simp)
  have n_ro_al : ro ≠ al := neM hc_ro hc_al (by simp)
  have n_ro_ii : ro ≠ ii := neM hc_ro hc_ii (by simp)
  have n_w_ro : w ≠ ro := neM hc_w hc_ro (by simp)
  have n_w_cs : w ≠ cs := neM hc_w hc_cs (by simp)
  have n_w_im : w ≠ im := neM hc_w hc_im (by simp)
  have n_w_rd : w ≠ rd := neM hc_w hc_rd (by simp)
  have n_w_mo : w ≠ mo := neM hc_w hc_mo (by simp)
  have n_w_al : w ≠ al := neM hc_w hc_al (by simp)
  have n_w_ii : w ≠ ii := neM hc_w hc_ii (by simp)
  have n_cs_ro : cs ≠ ro := neM hc_cs hc_ro (by simp)
  have n_cs_w : cs ≠ w := neM hc_cs hc_w (by simp)
  have n_cs_im : cs ≠ im := neM hc_cs hc_im (by simp)
  have n_cs_rd : cs ≠ rd := neM hc_cs hc_rd (by simp)
  have n_cs_mo : cs ≠ mo := neM hc_cs hc_mo (by simp)
  have n_cs_al : cs ≠ al := neM hc_cs hc_al (by simp)
  have n_cs_ii : cs ≠ ii := neM hc_cs hc_ii (by simp)
  have n_im_ro : im ≠ ro := neM hc_im hc_ro (by simp)
  have n_im_w : im ≠ w := neM hc_im hc_w (by simp)
  have n_im_cs : im ≠ cs := neM hc_im hc_cs (by simp)
  have n_im_rd : im ≠ rd := neM hc_im hc_rd (by simp)
  have n_im_mo : im ≠ mo := neM hc_im hc_mo (by simp)
  have n_im_al : im ≠ al := neM hc_im hc_al (by simp)
  have n_im_ii : im ≠ ii := neM hc_im hc_ii (by simp)
  have n_rd_ro : rd ≠ ro := neM hc_rd hc_ro (by simp)
  have n_rd_w : rd ≠ w := neM hc_rd hc_w (by simp)
  have n_rd_cs : rd ≠ cs := neM hc_rd hc_cs (by simp)
  have n_rd_im : rd ≠ im := neM hc_rd hc_im (by simp)
  have n_rd_mo : rd ≠ mo := neM hc_rd hc_mo (by simp)
  have n_rd_al : rd ≠ al := neM hc_rd hc_al (by simp)
  have n_rd_ii : rd ≠ ii := neM hc_rd hc_ii (by simp)
  have n_mo_ro : mo ≠ ro := neM hc_mo hc_ro (by simp)
  have n_mo_w : mo ≠ w := neM hc_mo hc_w (by simp)
  have n_mo_cs : mo ≠ cs := neM hc_mo hc_cs (by simp)
  have n_mo_im : mo ≠ im := neM hc_mo hc_im (by simp)
  have n_mo_rd : mo ≠ rd := neM hc_mo hc_rd (by simp)
  have n_mo_al : mo ≠ al := neM hc_mo hc_al (by simp)
  have n_mo_ii : mo ≠ ii := neM hc_mo hc_ii (by simp)
  have n_al_ro : al ≠ ro := neM hc_al hc_ro (by simp)
  have n_al_w : al ≠ w := neM hc_al hc_w (by simp)
  have n_al_cs : al ≠ cs := neM hc_al hc_cs (by simp)
  have n_al_im : al ≠ im := neM hc_al hc_im (by simp)
  have n_al_rd : al ≠ rd := neM hc_al hc_rd (by simp)
  have n_al_mo : al ≠ mo := neM hc_al hc_mo (by simp)
  have n_al_ii : al ≠ ii := neM hc_al hc_ii (by simp)
  have n_ii_ro : ii ≠ ro := neM hc_ii hc_ro (by simp)
  have n_ii_w : ii ≠ w := neM hc_ii hc_w (by simp)
  have n_ii_cs : ii ≠ cs := neM hc_ii hc_cs (by simp)
  have n_ii_im : ii ≠ im := neM hc_ii hc_im (by simp)
  have n_ii_rd : ii ≠ rd := neM hc_ii hc_rd (by simp)
  have n_ii_mo : ii ≠ mo := neM hc_ii hc_mo (by simp)
  have n_ii_al : ii ≠ al := neM hc_ii hc_al (by simp)
  refine lv_aload_n hx hb dL_law_938 rfl (lv_at hl 2 rfl) ?_
  refine lv_aload_n hx hb dL_law_939 rfl (lv_at hl 3 rfl) ?_
  refine lv_iload_n hx hb dL_law_940 rfl (lv_at hl 0 rfl) ?_
  refine lv_iconst (v := 1) hx hb dL_law_941 (by decide) ?_
  refine lv_iadd hx hb dL_law_942 ?_
  refine lv_cst (v := 1) (by decide) ?_
  refine va_sld hx hb hX hbl hbA hH.2.1 (iIn (by decide) (by decide)) dL_law_943 ?_
  refine lv_topi (fun vq1_ e_vq1_ => ?_)
  refine lv_aload_n hx hb dL_law_944 rfl (lv_at hl 3 rfl) ?_
  refine lv_iload_n hx hb dL_law_945 rfl (lv_at hl 0 rfl) ?_
  refine lv_iconst (v := 2) hx hb dL_law_946 (by decide) ?_
  refine lv_iadd hx hb dL_law_947 ?_
  refine lv_cst (v := 2) (by decide) ?_
  refine va_sld hx hb hX hbl hbA hH.2.1 (iIn (by decide) (by decide)) dL_law_948 ?_
  refine lv_topi (fun vq2_ e_vq2_ => ?_)
  refine lv_aload_n hx hb dL_law_949 rfl (lv_at hl 3 rfl) ?_
  refine lv_iload_n hx hb dL_law_950 rfl (lv_at hl 0 rfl) ?_
  refine lv_iconst (v := 3) hx hb dL_law_951 (by decide) ?_
  refine lv_iadd hx hb dL_law_952 ?_
  refine lv_cst (v := 3) (by decide) ?_
  refine va_sld hx hb hX hbl hbA hH.2.1 (iIn (by decide) (by decide)) dL_law_953 ?_
  refine lv_topi (fun vq3_ e_vq3_ => ?_)
  refine goI hK hH (runV (As := [.int vq1_, .int vq2_, .int vq3_]) (rest := []) hC hK hH (c_X9_step hc_ro hc_w) mlL_101 (rcvM hK hH hc_ro rfl) ⟨⟨Nat.le_of_ble_eq_true rfl, Nat.le_of_ble_eq_true rfl⟩, Nat.le_of_ble_eq_true rfl, Nat.le_of_ble_eq_true rfl⟩ rfl hl.1 rfl (Nat.le_of_ble_eq_true rfl) dL_law_954) (fun rq6_ Mq4_ Tq5_ Hq_ lcq_ hP hz hH => ?_)
  try dsimp only at hP
  obtain ⟨(rfl), eT, eM⟩ := hP
  have eT := eT.symm; subst eT
  have eM := eM.symm; subst eM
  refine lv_aload_n hx hb dL_law_957 rfl (lv_at hl 1 rfl) ?_
  refine lv_aload_n hx hb dL_law_958 rfl (lv_at hl 3 rfl) ?_
  refine lv_iload_n hx hb dL_law_959 rfl (lv_at hl 0 rfl) ?_
  refine lv_iconst (v := 1) hx hb dL_law_960 (by decide) ?_
  refine lv_iadd hx hb dL_law_961 ?_
  refine lv_cst (v := 1) (by decide) ?_
  refine va_sld hx hb hX hbl hbA hH.2.1 (iIn (by decide) (by decide)) dL_law_962 ?_
  refine lv_cst (v := vq1_) e_vq1_.symm ?_
  refine lv_aload_n hx hb dL_law_963 rfl (lv_at hl 3 rfl) ?_
  refine lv_iload_n hx hb dL_law_964 rfl (lv_at hl 0 rfl) ?_
  refine lv_iconst (v := 2) hx hb dL_law_965 (by decide) ?_
  refine lv_iadd hx hb dL_law_966 ?_
  refine lv_cst (v := 2) (by decide) ?_
  refine va_sld hx hb hX hbl hbA hH.2.1 (iIn (by decide) (by decide)) dL_law_967 ?_
  refine lv_cst (v := vq2_) e_vq2_.symm ?_
  refine lv_aload_n hx hb dL_law_968 rfl (lv_at hl 3 rfl) ?_
  refine lv_iload_n hx hb dL_law_969 rfl (lv_at hl 0 rfl) ?_
  refine lv_iconst (v := 3) hx hb dL_law_970 (by decide) ?_
  refine lv_iadd hx hb dL_law_971 ?_
  refine lv_cst (v := 3) (by decide) ?_
  refine va_sld hx hb hX hbl hbA hH.2.1 (iIn (by decide) (by decide)) dL_law_972 ?_
  refine lv_cst (v := vq3_) e_vq3_.symm ?_
  refine goI hK hH (runV (As := [.int vq1_, .int vq2_, .int vq3_]) (rest := [.int (-2)]) hC hK hH (c_X10_step hc_mo hc_al hFi) mlL_104 (rcvM hK hH hc_mo rfl) ⟨⟨Nat.le_of_ble_eq_true rfl, Nat.le_of_ble_eq_true rfl⟩, Nat.le_of_ble_eq_true rfl, Nat.le_of_ble_eq_true rfl⟩ rfl hl.1 rfl (Nat.le_of_ble_eq_true rfl) dL_law_973) (fun rq9_ Mq7_ Tq8_ Hq_ lcq_ hP hz hH => ?_)
  try dsimp only at hP
  obtain ⟨(rfl), eT, eM⟩ := hP
  have eT := eT.symm; subst eT
  have eM := eM.symm; subst eM
  refine jic_eq (tgt := 1370) hx hb dL_law_976 (by decide) (fun cq10_ => ?_) (fun cq10_ => absurd cq10_ (by decide))
  exact law_tail C0 hAq hH.2.1 (lv_sub hl [0, 3] rfl) (Nat.le_of_ble_eq_true rfl) (Nat.le_of_ble_eq_true rfl)
set_option maxHeartbeats 4000000 in
set_option maxRecDepth 100000 in
theorem law_case_21 {p : Program} {e : Env} {s : State} {m : MethodId} {below : List Frame} {meth : Method} {c : Code} {l : Launch} {b : Nat} {xs : Nat → Int32} (C0 : lw_At p s m meth c b 6 xs) {D : va_G} {kA : Nat → ClassId} (hK : mK D kA s) {M : mM} {T : mT} {A : Nat → Prop} (hAq : ∀ q, A q → s.heap.size ≤ q) {Hq_ : Heap} {lcq_ : List Loc} {ls : Array Slot} {ro w im rd rc cu cs bs tp nb by_ vb mo al mt ii pa li : Nat} {F : Nat → Int32} (hc_ro : M ro = some (.inr (7, [.ref w, .ref im, .ref rd, .ref rc, .ref cu]))) (hc_w : M w = some (.inr (6, [.int 0, .int 2, .int 0, .int 0, .int 0, .int 0, .int 0, .int (-1), .ref cs, .ref bs, .ref tp]))) (hc_cs : M cs = some (.inl (kA 0, 8, .inl (c100 (fun _ => 0))))) (hc_im : M im = some (.inl (kA 6, 3, .inr (.inr (.inr (.inr (fun _ => none))))))) (hc_rd : M rd = some (.inr (3, [.ref nb, .ref vb, .int 0, .int 0, .ref by_, .int 0, .int 0, .int 0, .int 0, .int 0]))) (hc_mo : M mo = some (.inr (8, [.ref al, .ref mt, .ref ii, .int 0, .int (-1), .ref pa, .int 0, .int 0, .int 0, .int 0, .int 0, .long 0, .int 0, .ref li]))) (hc_al : M al = some (.inl (kA 0, 7506, .inl F))) (hc_ii : M ii = some (.inl (kA 2, 3, .inl (fun _ => 0)))) (ht_bs : T bs = some 6) (ht_tp : T tp = some 7) (ht_mt : T mt = some 11) (hFi : ∀ j, j < 1140 → F j = mIni j) (hH : mS D kA M T A s.heap Hq_ lcq_) (hl : lv_has ls 4 [(3, .int 0), (2, .ref mo), (1, .ref ro), (0, .ref b)]) : W p l e room_1 s m #[Value.ref b] below meth c Hq_ lcq_ 156 11688 (lw_Z below #[Value.ref b] s) (F0 m 981 ls []) := by
  obtain ⟨hx, hb, hr, hml, hown, hts, hX, hbl, hlocks, hgv⟩ := id C0
  have hC : CallFix p m c cL_law 4 s #[Value.ref b] TB RL := ⟨hx, hb, hml, hown, fun w h => hts w (TB_in h)⟩
  have hbA : ¬ A b := fun h => absurd (hAq b h) (Nat.not_le.mpr hbl)
  have n_ro_w : ro ≠ w := neM hc_ro hc_w (by simp)
  have n_ro_cs : ro ≠ cs := neM hc_ro hc_cs (by simp)
  have n_ro_im : ro ≠ im := neM hc_ro hc_im (by simp)
  have n_ro_rd : ro ≠ rd := neM hc_ro hc_rd (by simp)
  have n_ro_mo : ro ≠ mo := neM hc_ro hc_mo (by simp)
  have n_ro_al : ro ≠ al := neM hc_ro hc_al (by simp)
  have n_ro_ii : ro ≠ ii := neM hc_ro hc_ii (by simp)
  have n_w_ro : w ≠ ro := neM hc_w hc_ro (by simp)
  have n_w_cs : w ≠ cs := neM hc_w hc_cs (by simp)
  have n_w_im : w ≠ im := neM hc_w hc_im (by simp)
  have n_w_rd : w ≠ rd := neM hc_w hc_rd (by simp)
  have n_w_mo : w ≠ mo := neM hc_w hc_mo (by simp)
  have n_w_al : w ≠ al := neM hc_w hc_al (by simp)
  have n_w_ii : w ≠ ii := neM hc_w hc_ii (by simp)
  have n_cs_ro : cs ≠ ro := neM hc_cs hc_ro (by simp)
  have n_cs_w : cs ≠ w := neM hc_cs hc_w (by simp)
  have n_cs_im : cs ≠ im := neM hc_cs hc_im (by simp)
  have n_cs_rd : cs ≠ rd := neM hc_cs hc_rd (by simp)
  have n_cs_mo : cs ≠ mo := neM hc_cs hc_mo (by simp)
  have n_cs_al : cs ≠ al := neM hc_cs hc_al (by simp)
  have n_cs_ii : cs ≠ ii := neM hc_cs hc_ii (by simp)
  have n_im_ro : im ≠ ro := neM hc_im hc_ro (by simp)
  have n_im_w : im ≠ w := neM hc_im hc_w (by simp)
  have n_im_cs : im ≠ cs := neM hc_im hc_cs (by simp)
  have n_im_rd : im ≠ rd := neM hc_im hc_rd (by simp)
  have n_im_mo : im ≠ mo := neM hc_im hc_mo (by simp)
  have n_im_al : im ≠ al := neM hc_im hc_al (by simp)
  have n_im_ii : im ≠ ii := neM hc_im hc_ii (by simp)
  have n_rd_ro : rd ≠ ro := neM hc_rd hc_ro (by simp)
  have n_rd_w : rd ≠ w := neM hc_rd hc_w (by simp)
  have n_rd_cs : rd ≠ cs := neM hc_rd hc_cs (by simp)
  have n_rd_im : rd ≠ im := neM hc_rd hc_im (by simp)
  have n_rd_mo : rd ≠ mo := neM hc_rd hc_mo (by simp)
  have n_rd_al : rd ≠ al := neM hc_rd hc_al (by simp)
  have n_rd_ii : rd ≠ ii := neM hc_rd hc_ii (by simp)
  have n_mo_ro : mo ≠ ro := neM hc_mo hc_ro (by simp)
  have n_mo_w : mo ≠ w := neM hc_mo hc_w (by simp)
  have n_mo_cs : mo ≠ cs := neM hc_mo hc_cs (by simp)
  have n_mo_im : mo ≠ im := neM hc_mo hc_im (by simp)
  have n_mo_rd : mo ≠ rd := neM hc_mo hc_rd (by simp)
  have n_mo_al : mo ≠ al := neM hc_mo hc_al (by simp)
  have n_mo_ii : mo ≠ ii := neM hc_mo hc_ii (by simp)
  have n_al_ro : al ≠ ro := neM hc_al hc_ro (by simp)
  have n_al_w : al ≠ w := neM hc_al hc_w (by simp)
  have n_al_cs : al ≠ cs := neM hc_al hc_cs (by simp)
  have n_al_im : al ≠ im := neM hc_al hc_im (by simp)
  have n_al_rd : al ≠ rd := neM hc_al hc_rd (by simp)
  have n_al_mo : al ≠ mo := neM hc_al hc_mo (by simp)
  have n_al_ii : al ≠ ii := neM hc_al hc_ii (by simp)
  have n_ii_ro : ii ≠ ro := neM hc_ii hc_ro (by simp)
  have n_ii_w : ii ≠ w := neM hc_ii hc_w (by simp)
  have n_ii_cs : ii ≠ cs := neM hc_ii hc_cs (by simp)
  have n_ii_im : ii ≠ im := neM hc_ii hc_im (by simp)
  have n_ii_rd : ii ≠ rd := neM hc_ii hc_rd (by simp)
  have n_ii_mo : ii ≠ mo := neM hc_ii hc_mo (by simp)
  have n_ii_al : ii ≠ al := neM hc_ii hc_al (by simp)
  refine lv_aload_n hx hb dL_law_981 rfl (lv_at hl 2 rfl) ?_
  refine lv_aload_n hx hb dL_law_982 rfl (lv_at hl 3 rfl) ?_
  refine lv_iload_n hx hb dL_law_983 rfl (lv_at hl 0 rfl) ?_
  refine lv_iconst (v := 1) hx hb dL_law_984 (by decide) ?_
  refine lv_iadd hx hb dL_law_985 ?_
  refine lv_cst (v := 1) (by decide) ?_
  refine va_sld hx hb hX hbl hbA hH.2.1 (iIn (by decide) (by decide)) dL_law_986 ?_
  refine lv_topi (fun vq1_ e_vq1_ => ?_)
  refine lv_aload_n hx hb dL_law_987 rfl (lv_at hl 3 rfl) ?_
  refine lv_iload_n hx hb dL_law_988 rfl (lv_at hl 0 rfl) ?_
  refine lv_iconst (v := 2) hx hb dL_law_989 (by decide) ?_
  refine lv_iadd hx hb dL_law_990 ?_
  refine lv_cst (v := 2) (by decide) ?_
  refine va_sld hx hb hX hbl hbA hH.2.1 (iIn (by decide) (by decide)) dL_law_991 ?_
  refine lv_topi (fun vq2_ e_vq2_ => ?_)
  refine lv_aload_n hx hb dL_law_992 rfl (lv_at hl 3 rfl) ?_
  refine lv_iload_n hx hb dL_law_993 rfl (lv_at hl 0 rfl) ?_
  refine lv_iconst (v := 3) hx hb dL_law_994 (by decide) ?_
  refine lv_iadd hx hb dL_law_995 ?_
  refine lv_cst (v := 3) (by decide) ?_
  refine va_sld hx hb hX hbl hbA hH.2.1 (iIn (by decide) (by decide)) dL_law_996 ?_
  refine lv_topi (fun vq3_ e_vq3_ => ?_)
  refine goI hK hH (runV (As := [.int vq1_, .int vq2_, .int vq3_]) (rest := []) hC hK hH (c_X9_party hc_ro hc_w) mlL_105 (rcvM hK hH hc_ro rfl) ⟨⟨Nat.le_of_ble_eq_true rfl, Nat.le_of_ble_eq_true rfl⟩, Nat.le_of_ble_eq_true rfl, Nat.le_of_ble_eq_true rfl⟩ rfl hl.1 rfl (Nat.le_of_ble_eq_true rfl) dL_law_997) (fun rq6_ Mq4_ Tq5_ Hq_ lcq_ hP hz hH => ?_)
  try dsimp only at hP
  obtain ⟨(rfl), eT, eM⟩ := hP
  have eT := eT.symm; subst eT
  have eM := eM.symm; subst eM
  refine lv_aload_n hx hb dL_law_1000 rfl (lv_at hl 1 rfl) ?_
  refine lv_aload_n hx hb dL_law_1001 rfl (lv_at hl 3 rfl) ?_
  refine lv_iload_n hx hb dL_law_1002 rfl (lv_at hl 0 rfl) ?_
  refine lv_iconst (v := 1) hx hb dL_law_1003 (by decide) ?_
  refine lv_iadd hx hb dL_law_1004 ?_
  refine lv_cst (v := 1) (by decide) ?_
  refine va_sld hx hb hX hbl hbA hH.2.1 (iIn (by decide) (by decide)) dL_law_1005 ?_
  refine lv_cst (v := vq1_) e_vq1_.symm ?_
  refine lv_aload_n hx hb dL_law_1006 rfl (lv_at hl 3 rfl) ?_
  refine lv_iload_n hx hb dL_law_1007 rfl (lv_at hl 0 rfl) ?_
  refine lv_iconst (v := 2) hx hb dL_law_1008 (by decide) ?_
  refine lv_iadd hx hb dL_law_1009 ?_
  refine lv_cst (v := 2) (by decide) ?_
  refine va_sld hx hb hX hbl hbA hH.2.1 (iIn (by decide) (by decide)) dL_law_1010 ?_
  refine lv_cst (v := vq2_) e_vq2_.symm ?_
  refine lv_aload_n hx hb dL_law_1011 rfl (lv_at hl 3 rfl) ?_
  refine lv_iload_n hx hb dL_law_1012 rfl (lv_at hl 0 rfl) ?_
  refine lv_iconst (v := 3) hx hb dL_law_1013 (by decide) ?_
  refine lv_iadd hx hb dL_law_1014 ?_
  refine lv_cst (v := 3) (by decide) ?_
  refine va_sld hx hb hX hbl hbA hH.2.1 (iIn (by decide) (by decide)) dL_law_1015 ?_
  refine lv_cst (v := vq3_) e_vq3_.symm ?_
  refine goI hK hH (runV (As := [.int vq1_, .int vq2_, .int vq3_]) (rest := [.int (-2)]) hC hK hH (c_X10_party hc_mo hc_al hFi) mlL_108 (rcvM hK hH hc_mo rfl) ⟨⟨Nat.le_of_ble_eq_true rfl, Nat.le_of_ble_eq_true rfl⟩, Nat.le_of_ble_eq_true rfl, Nat.le_of_ble_eq_true rfl⟩ rfl hl.1 rfl (Nat.le_of_ble_eq_true rfl) dL_law_1016) (fun rq9_ Mq7_ Tq8_ Hq_ lcq_ hP hz hH => ?_)
  try dsimp only at hP
  obtain ⟨(rfl), eT, eM⟩ := hP
  have eT := eT.symm; subst eT
  have eM := eM.symm; subst eM
  refine jic_eq (tgt := 1370) hx hb dL_law_1019 (by decide) (fun cq10_ => ?_) (fun cq10_ => absurd cq10_ (by decide))
  exact law_tail C0 hAq hH.2.1 (lv_sub hl [0, 3] rfl) (Nat.le_of_ble_eq_true rfl) (Nat.le_of_ble_eq_true rfl)
set_option maxHeartbeats 4000000 in
set_option maxRecDepth 100000 in
theorem law_case_22 {p : Program} {e : Env} {s : State} {m : MethodId} {below : List Frame} {meth : Method} {c : Code} {l : Launch} {b : Nat} {xs : Nat → Int32} (C0 : lw_At p s m meth c b 6 xs) {D : va_G} {kA : Nat → ClassId} (hK : mK D kA s) {M : mM} {T : mT} {A : Nat → Prop} (hAq : ∀ q, A q → s.heap.size ≤ q) {Hq_ : Heap} {lcq_ : List Loc} {ls : Array Slot} {ro w im rd rc cu cs bs tp nb by_ vb mo al mt ii pa li : Nat} {F : Nat → Int32} (hc_ro : M ro = some (.inr (7, [.ref w, .ref im, .ref rd, .ref rc, .ref cu]))) (hc_w : M w = some (.inr (6, [.int 0, .int 2, .int 0, .int 0, .int 0, .int 0, .int 0, .int (-1), .ref cs, .ref bs, .ref tp]))) (hc_cs : M cs = some (.inl (kA 0, 8, .inl (c100 (fun _ => 0))))) (hc_im : M im = some (.inl (kA 6, 3, .inr (.inr (.inr (.inr (fun _ => none))))))) (hc_rd : M rd = some (.inr (3, [.ref nb, .ref vb, .int 0, .int 0, .ref by_, .int 0, .int 0, .int 0, .int 0, .int 0]))) (hc_mo : M mo = some (.inr (8, [.ref al, .ref mt, .ref ii, .int 0, .int (-1), .ref pa, .int 0, .int 0, .int 0, .int 0, .int 0, .long 0, .int 0, .ref li]))) (hc_al : M al = some (.inl (kA 0, 7506, .inl F))) (hc_ii : M ii = some (.inl (kA 2, 3, .inl (fun _ => 0)))) (ht_bs : T bs = some 6) (ht_tp : T tp = some 7) (ht_mt : T mt = some 11) (hFi : ∀ j, j < 1140 → F j = mIni j) (hH : mS D kA M T A s.heap Hq_ lcq_) (hl : lv_has ls 4 [(3, .int 0), (2, .ref mo), (1, .ref ro), (0, .ref b)]) : W p l e room_1 s m #[Value.ref b] below meth c Hq_ lcq_ 156 11688 (lw_Z below #[Value.ref b] s) (F0 m 1024 ls []) := by
  obtain ⟨hx, hb, hr, hml, hown, hts, hX, hbl, hlocks, hgv⟩ := id C0
  have hC : CallFix p m c cL_law 4 s #[Value.ref b] TB RL := ⟨hx, hb, hml, hown, fun w h => hts w (TB_in h)⟩
  have hbA : ¬ A b := fun h => absurd (hAq b h) (Nat.not_le.mpr hbl)
  have n_ro_w : ro ≠ w := neM hc_ro hc_w (by simp)
  have n_ro_cs : ro ≠ cs := neM hc_ro hc_cs (by simp)
  have n_ro_im : ro ≠ im := neM hc_ro hc_im (by simp)
  have n_ro_rd : ro ≠ rd := neM hc_ro hc_rd (by simp)
  have n_ro_mo : ro ≠ mo := neM hc_ro hc_mo (by simp)
  have n_ro_al : ro ≠ al := neM hc_ro hc_al (by simp)
  have n_ro_ii : ro ≠ ii := neM hc_ro hc_ii (by simp)
  have n_w_ro : w ≠ ro := neM hc_w hc_ro (by simp)
  have n_w_cs : w ≠ cs := neM hc_w hc_cs (by simp)
  have n_w_im : w ≠ im := neM hc_w hc_im (by simp)
  have n_w_rd : w ≠ rd := neM hc_w hc_rd (by simp)
  have n_w_mo : w ≠ mo := neM hc_w hc_mo (by simp)
  have n_w_al : w ≠ al := neM hc_w hc_al (by simp)
  have n_w_ii : w ≠ ii := neM hc_w hc_ii (by simp)
  have n_cs_ro : cs ≠ ro := neM hc_cs hc_ro (by simp)
  have n_cs_w : cs ≠ w := neM hc_cs hc_w (by simp)
  have n_cs_im : cs ≠ im := neM hc_cs hc_im (by simp)
  have n_cs_rd : cs ≠ rd := neM hc_cs hc_rd (by simp)
  have n_cs_mo : cs ≠ mo := neM hc_cs hc_mo (by simp)
  have n_cs_al : cs ≠ al := neM hc_cs hc_al (by simp)
  have n_cs_ii : cs ≠ ii := neM hc_cs hc_ii (by simp)
  have n_im_ro : im ≠ ro := neM hc_im hc_ro (by simp)
  have n_im_w : im ≠ w := neM hc_im hc_w (by simp)
  have n_im_cs : im ≠ cs := neM hc_im hc_cs (by simp)
  have n_im_rd : im ≠ rd := neM hc_im hc_rd (by simp)
  have n_im_mo : im ≠ mo := neM hc_im hc_mo (by simp)
  have n_im_al : im ≠ al := neM hc_im hc_al (by simp)
  have n_im_ii : im ≠ ii := neM hc_im hc_ii (by simp)
  have n_rd_ro : rd ≠ ro := neM hc_rd hc_ro (by simp)
  have n_rd_w : rd ≠ w := neM hc_rd hc_w (by simp)
  have n_rd_cs : rd ≠ cs := neM hc_rd hc_cs (by simp)
  have n_rd_im : rd ≠ im := neM hc_rd hc_im (by simp)
  have n_rd_mo : rd ≠ mo := neM hc_rd hc_mo (by simp)
  have n_rd_al : rd ≠ al := neM hc_rd hc_al (by simp)
  have n_rd_ii : rd ≠ ii := neM hc_rd hc_ii (by simp)
  have n_mo_ro : mo ≠ ro := neM hc_mo hc_ro (by simp)
  have n_mo_w : mo ≠ w := neM hc_mo hc_w (by simp)
  have n_mo_cs : mo ≠ cs := neM hc_mo hc_cs (by simp)
  have n_mo_im : mo ≠ im := neM hc_mo hc_im (by simp)
  have n_mo_rd : mo ≠ rd := neM hc_mo hc_rd (by simp)
  have n_mo_al : mo ≠ al := neM hc_mo hc_al (by simp)
  have n_mo_ii : mo ≠ ii := neM hc_mo hc_ii (by simp)
  have n_al_ro : al ≠ ro := neM hc_al hc_ro (by simp)
  have n_al_w : al ≠ w := neM hc_al hc_w (by simp)
  have n_al_cs : al ≠ cs := neM hc_al hc_cs (by simp)
  have n_al_im : al ≠ im := neM hc_al hc_im (by simp)
  have n_al_rd : al ≠ rd := neM hc_al hc_rd (by simp)
  have n_al_mo : al ≠ mo := neM hc_al hc_mo (by simp)
  have n_al_ii : al ≠ ii := neM hc_al hc_ii (by simp)
  have n_ii_ro : ii ≠ ro := neM hc_ii hc_ro (by simp)
  have n_ii_w : ii ≠ w := neM hc_ii hc_w (by simp)
  have n_ii_cs : ii ≠ cs := neM hc_ii hc_cs (by simp)
  have n_ii_im : ii ≠ im := neM hc_ii hc_im (by simp)
  have n_ii_rd : ii ≠ rd := neM hc_ii hc_rd (by simp)
  have n_ii_mo : ii ≠ mo := neM hc_ii hc_mo (by simp)
  have n_ii_al : ii ≠ al := neM hc_ii hc_al (by simp)
  refine lv_aload_n hx hb dL_law_1024 rfl (lv_at hl 2 rfl) ?_
  refine lv_aload_n hx hb dL_law_1025 rfl (lv_at hl 3 rfl) ?_
  refine lv_iload_n hx hb dL_law_1026 rfl (lv_at hl 0 rfl) ?_
  refine lv_iconst (v := 1) hx hb dL_law_1027 (by decide) ?_
  refine lv_iadd hx hb dL_law_1028 ?_
  refine lv_cst (v := 1) (by decide) ?_
  refine va_sld hx hb hX hbl hbA hH.2.1 (iIn (by decide) (by decide)) dL_law_1029 ?_
  refine lv_topi (fun vq1_ e_vq1_ => ?_)
  refine lv_aload_n hx hb dL_law_1030 rfl (lv_at hl 3 rfl) ?_
  refine lv_iload_n hx hb dL_law_1031 rfl (lv_at hl 0 rfl) ?_
  refine lv_iconst (v := 2) hx hb dL_law_1032 (by decide) ?_
  refine lv_iadd hx hb dL_law_1033 ?_
  refine lv_cst (v := 2) (by decide) ?_
  refine va_sld hx hb hX hbl hbA hH.2.1 (iIn (by decide) (by decide)) dL_law_1034 ?_
  refine lv_topi (fun vq2_ e_vq2_ => ?_)
  refine lv_aload_n hx hb dL_law_1035 rfl (lv_at hl 3 rfl) ?_
  refine lv_iload_n hx hb dL_law_1036 rfl (lv_at hl 0 rfl) ?_
  refine lv_iconst (v := 3) hx hb dL_law_1037 (by decide) ?_
  refine lv_iadd hx hb dL_law_1038 ?_
  refine lv_cst (v := 3) (by decide) ?_
  refine va_sld hx hb hX hbl hbA hH.2.1 (iIn (by decide) (by decide)) dL_law_1039 ?_
  refine lv_topi (fun vq3_ e_vq3_ => ?_)
  refine lv_aload_n hx hb dL_law_1040 rfl (lv_at hl 3 rfl) ?_
  refine lv_iload_n hx hb dL_law_1041 rfl (lv_at hl 0 rfl) ?_
  refine lv_iconst (v := 4) hx hb dL_law_1042 (by decide) ?_
  refine lv_iadd hx hb dL_law_1043 ?_
  refine lv_cst (v := 4) (by decide) ?_
  refine va_sld hx hb hX hbl hbA hH.2.1 (iIn (by decide) (by decide)) dL_law_1044 ?_
  refine lv_topi (fun vq4_ e_vq4_ => ?_)
  refine goI hK hH (runV (As := [.int vq1_, .int vq2_, .int vq3_, .int vq4_]) (rest := []) hC hK hH (c_X9_why hc_ro hc_w) mlL_109 (rcvM hK hH hc_ro rfl) ⟨⟨Nat.le_of_ble_eq_true rfl, Nat.le_of_ble_eq_true rfl⟩, Nat.le_of_ble_eq_true rfl, Nat.le_of_ble_eq_true rfl⟩ rfl hl.1 rfl (Nat.le_of_ble_eq_true rfl) dL_law_1045) (fun rq7_ Mq5_ Tq6_ Hq_ lcq_ hP hz hH => ?_)
  try dsimp only at hP
  obtain ⟨(rfl), eT, eM⟩ := hP
  have eT := eT.symm; subst eT
  have eM := eM.symm; subst eM
  refine lv_aload_n hx hb dL_law_1048 rfl (lv_at hl 1 rfl) ?_
  refine lv_aload_n hx hb dL_law_1049 rfl (lv_at hl 3 rfl) ?_
  refine lv_iload_n hx hb dL_law_1050 rfl (lv_at hl 0 rfl) ?_
  refine lv_iconst (v := 1) hx hb dL_law_1051 (by decide) ?_
  refine lv_iadd hx hb dL_law_1052 ?_
  refine lv_cst (v := 1) (by decide) ?_
  refine va_sld hx hb hX hbl hbA hH.2.1 (iIn (by decide) (by decide)) dL_law_1053 ?_
  refine lv_cst (v := vq1_) e_vq1_.symm ?_
  refine lv_aload_n hx hb dL_law_1054 rfl (lv_at hl 3 rfl) ?_
  refine lv_iload_n hx hb dL_law_1055 rfl (lv_at hl 0 rfl) ?_
  refine lv_iconst (v := 2) hx hb dL_law_1056 (by decide) ?_
  refine lv_iadd hx hb dL_law_1057 ?_
  refine lv_cst (v := 2) (by decide) ?_
  refine va_sld hx hb hX hbl hbA hH.2.1 (iIn (by decide) (by decide)) dL_law_1058 ?_
  refine lv_cst (v := vq2_) e_vq2_.symm ?_
  refine lv_aload_n hx hb dL_law_1059 rfl (lv_at hl 3 rfl) ?_
  refine lv_iload_n hx hb dL_law_1060 rfl (lv_at hl 0 rfl) ?_
  refine lv_iconst (v := 3) hx hb dL_law_1061 (by decide) ?_
  refine lv_iadd hx hb dL_law_1062 ?_
  refine lv_cst (v := 3) (by decide) ?_
  refine va_sld hx hb hX hbl hbA hH.2.1 (iIn (by decide) (by decide)) dL_law_1063 ?_
  refine lv_cst (v := vq3_) e_vq3_.symm ?_
  refine lv_aload_n hx hb dL_law_1064 rfl (lv_at hl 3 rfl) ?_
  refine lv_iload_n hx hb dL_law_1065 rfl (lv_at hl 0 rfl) ?_
  refine lv_iconst (v := 4) hx hb dL_law_1066 (by decide) ?_
  refine lv_iadd hx hb dL_law_1067 ?_
  refine lv_cst (v := 4) (by decide) ?_
  refine va_sld hx hb hX hbl hbA hH.2.1 (iIn (by decide) (by decide)) dL_law_1068 ?_
  refine lv_cst (v := vq4_) e_vq4_.symm ?_
  refine goI hK hH (runV (As := [.int vq1_, .int vq2_, .int vq3_, .int vq4_]) (rest := [.int (-2)]) hC hK hH (c_X10_why hc_mo hc_al hFi) mlL_113 (rcvM hK hH hc_mo rfl) ⟨⟨Nat.le_of_ble_eq_true rfl, Nat.le_of_ble_eq_true rfl⟩, Nat.le_of_ble_eq_true rfl, Nat.le_of_ble_eq_true rfl⟩ rfl hl.1 rfl (Nat.le_of_ble_eq_true rfl) dL_law_1069) (fun rq10_ Mq8_ Tq9_ Hq_ lcq_ hP hz hH => ?_)
  try dsimp only at hP
  obtain ⟨(rfl), eT, eM⟩ := hP
  have eT := eT.symm; subst eT
  have eM := eM.symm; subst eM
  refine jic_eq (tgt := 1370) hx hb dL_law_1072 (by decide) (fun cq11_ => ?_) (fun cq11_ => absurd cq11_ (by decide))
  exact law_tail C0 hAq hH.2.1 (lv_sub hl [0, 3] rfl) (Nat.le_of_ble_eq_true rfl) (Nat.le_of_ble_eq_true rfl)
set_option maxHeartbeats 4000000 in
set_option maxRecDepth 100000 in
theorem law_case_23 {p : Program} {e : Env} {s : State} {m : MethodId} {below : List Frame} {meth : Method} {c : Code} {l : Launch} {b : Nat} {xs : Nat → Int32} (C0 : lw_At p s m meth c b 6 xs) {D : va_G} {kA : Nat → ClassId} (hK : mK D kA s) {M : mM} {T : mT} {A : Nat → Prop} (hAq : ∀ q, A q → s.heap.size ≤ q) {Hq_ : Heap} {lcq_ : List Loc} {ls : Array Slot} {ro w im rd rc cu cs bs tp nb by_ vb mo al mt ii pa li : Nat} {F : Nat → Int32} (hc_ro : M ro = some (.inr (7, [.ref w, .ref im, .ref rd, .ref rc, .ref cu]))) (hc_w : M w = some (.inr (6, [.int 0, .int 2, .int 0, .int 0, .int 0, .int 0, .int 0, .int (-1), .ref cs, .ref bs, .ref tp]))) (hc_cs : M cs = some (.inl (kA 0, 8, .inl (c100 (fun _ => 0))))) (hc_im : M im = some (.inl (kA 6, 3, .inr (.inr (.inr (.inr (fun _ => none))))))) (hc_rd : M rd = some (.inr (3, [.ref nb, .ref vb, .int 0, .int 0, .ref by_, .int 0, .int 0, .int 0, .int 0, .int 0]))) (hc_mo : M mo = some (.inr (8, [.ref al, .ref mt, .ref ii, .int 0, .int (-1), .ref pa, .int 0, .int 0, .int 0, .int 0, .int 0, .long 0, .int 0, .ref li]))) (hc_al : M al = some (.inl (kA 0, 7506, .inl F))) (hc_ii : M ii = some (.inl (kA 2, 3, .inl (fun _ => 0)))) (ht_bs : T bs = some 6) (ht_tp : T tp = some 7) (ht_mt : T mt = some 11) (hFi : ∀ j, j < 1140 → F j = mIni j) (hH : mS D kA M T A s.heap Hq_ lcq_) (hl : lv_has ls 4 [(3, .int 0), (2, .ref mo), (1, .ref ro), (0, .ref b)]) : W p l e room_1 s m #[Value.ref b] below meth c Hq_ lcq_ 156 11688 (lw_Z below #[Value.ref b] s) (F0 m 1077 ls []) := by
  obtain ⟨hx, hb, hr, hml, hown, hts, hX, hbl, hlocks, hgv⟩ := id C0
  have hC : CallFix p m c cL_law 4 s #[Value.ref b] TB RL := ⟨hx, hb, hml, hown, fun w h => hts w (TB_in h)⟩
  have hbA : ¬ A b := fun h => absurd (hAq b h) (Nat.not_le.mpr hbl)
  have n_ro_w : ro ≠ w := neM hc_ro hc_w (by simp)
  have n_ro_cs : ro ≠ cs := neM hc_ro hc_cs (by simp)
  have n_ro_im : ro ≠ im := neM hc_ro hc_im (by simp)
  have n_ro_rd : ro ≠ rd := neM hc_ro hc_rd (by simp)
  have n_ro_mo : ro ≠ mo := neM hc_ro hc_mo (by simp)
  have n_ro_al : ro ≠ al := neM hc_ro hc_al (by simp)
  have n_ro_ii : ro ≠ ii := neM hc_ro hc_ii (by simp)
  have n_w_ro : w ≠ ro := neM hc_w hc_ro (by simp)
  have n_w_cs : w ≠ cs := neM hc_w hc_cs (by simp)
  have n_w_im : w ≠ im := neM hc_w hc_im (by simp)
  have n_w_rd : w ≠ rd := neM hc_w hc_rd (by simp)
  have n_w_mo : w ≠ mo := neM hc_w hc_mo (by simp)
  have n_w_al : w ≠ al := neM hc_w hc_al (by simp)
  have n_w_ii : w ≠ ii := neM hc_w hc_ii (by simp)
  have n_cs_ro : cs ≠ ro := neM hc_cs hc_ro (by simp)
  have n_cs_w : cs ≠ w := neM hc_cs hc_w (by simp)
  have n_cs_im : cs ≠ im := neM hc_cs hc_im (by simp)
  have n_cs_rd : cs ≠ rd := neM hc_cs hc_rd (by simp)
  have n_cs_mo : cs ≠ mo := neM hc_cs hc_mo (by simp)
  have n_cs_al : cs ≠ al := neM hc_cs hc_al (by simp)
  have n_cs_ii : cs ≠ ii := neM hc_cs hc_ii (by simp)
  have n_im_ro : im ≠ ro := neM hc_im hc_ro (by simp)
  have n_im_w : im ≠ w := neM hc_im hc_w (by simp)
  have n_im_cs : im ≠ cs := neM hc_im hc_cs (by simp)
  have n_im_rd : im ≠ rd := neM hc_im hc_rd (by simp)
  have n_im_mo : im ≠ mo := neM hc_im hc_mo (by simp)
  have n_im_al : im ≠ al := neM hc_im hc_al (by simp)
  have n_im_ii : im ≠ ii := neM hc_im hc_ii (by simp)
  have n_rd_ro : rd ≠ ro := neM hc_rd hc_ro (by simp)
  have n_rd_w : rd ≠ w := neM hc_rd hc_w (by simp)
  have n_rd_cs : rd ≠ cs := neM hc_rd hc_cs (by simp)
  have n_rd_im : rd ≠ im := neM hc_rd hc_im (by simp)
  have n_rd_mo : rd ≠ mo := neM hc_rd hc_mo (by simp)
  have n_rd_al : rd ≠ al := neM hc_rd hc_al (by simp)
  have n_rd_ii : rd ≠ ii := neM hc_rd hc_ii (by simp)
  have n_mo_ro : mo ≠ ro := neM hc_mo hc_ro (by simp)
  have n_mo_w : mo ≠ w := neM hc_mo hc_w (by simp)
  have n_mo_cs : mo ≠ cs := neM hc_mo hc_cs (by simp)
  have n_mo_im : mo ≠ im := neM hc_mo hc_im (by simp)
  have n_mo_rd : mo ≠ rd := neM hc_mo hc_rd (by simp)
  have n_mo_al : mo ≠ al := neM hc_mo hc_al (by simp)
  have n_mo_ii : mo ≠ ii := neM hc_mo hc_ii (by simp)
  have n_al_ro : al ≠ ro := neM hc_al hc_ro (by simp)
  have n_al_w : al ≠ w := neM hc_al hc_w (by simp)
  have n_al_cs : al ≠ cs := neM hc_al hc_cs (by simp)
  have n_al_im : al ≠ im := neM hc_al hc_im (by simp)
  have n_al_rd : al ≠ rd := neM hc_al hc_rd (by simp)
  have n_al_mo : al ≠ mo := neM hc_al hc_mo (by simp)
  have n_al_ii : al ≠ ii := neM hc_al hc_ii (by simp)
  have n_ii_ro : ii ≠ ro := neM hc_ii hc_ro (by simp)
  have n_ii_w : ii ≠ w := neM hc_ii hc_w (by simp)
  have n_ii_cs : ii ≠ cs := neM hc_ii hc_cs (by simp)
  have n_ii_im : ii ≠ im := neM hc_ii hc_im (by simp)
  have n_ii_rd : ii ≠ rd := neM hc_ii hc_rd (by simp)
  have n_ii_mo : ii ≠ mo := neM hc_ii hc_mo (by simp)
  have n_ii_al : ii ≠ al := neM hc_ii hc_al (by simp)
  refine lv_aload_n hx hb dL_law_1077 rfl (lv_at hl 2 rfl) ?_
  refine lv_aload_n hx hb dL_law_1078 rfl (lv_at hl 3 rfl) ?_
  refine lv_iload_n hx hb dL_law_1079 rfl (lv_at hl 0 rfl) ?_
  refine lv_iconst (v := 1) hx hb dL_law_1080 (by decide) ?_
  refine lv_iadd hx hb dL_law_1081 ?_
  refine lv_cst (v := 1) (by decide) ?_
  refine va_sld hx hb hX hbl hbA hH.2.1 (iIn (by decide) (by decide)) dL_law_1082 ?_
  refine lv_topi (fun vq1_ e_vq1_ => ?_)
  refine goI hK hH (runV (As := [.int vq1_]) (rest := []) hC hK hH (c_X9_liable hc_ro hc_w) mlL_114 (rcvM hK hH hc_ro rfl) ⟨⟨Nat.le_of_ble_eq_true rfl, Nat.le_of_ble_eq_true rfl⟩, Nat.le_of_ble_eq_true rfl, Nat.le_of_ble_eq_true rfl⟩ rfl hl.1 rfl (Nat.le_of_ble_eq_true rfl) dL_law_1083) (fun rq4_ Mq2_ Tq3_ Hq_ lcq_ hP hz hH => ?_)
  try dsimp only at hP
  obtain ⟨(rfl), eT, eM⟩ := hP
  have eT := eT.symm; subst eT
  have eM := eM.symm; subst eM
  refine lv_aload_n hx hb dL_law_1086 rfl (lv_at hl 1 rfl) ?_
  refine lv_aload_n hx hb dL_law_1087 rfl (lv_at hl 3 rfl) ?_
  refine lv_iload_n hx hb dL_law_1088 rfl (lv_at hl 0 rfl) ?_
  refine lv_iconst (v := 1) hx hb dL_law_1089 (by decide) ?_
  refine lv_iadd hx hb dL_law_1090 ?_
  refine lv_cst (v := 1) (by decide) ?_
  refine va_sld hx hb hX hbl hbA hH.2.1 (iIn (by decide) (by decide)) dL_law_1091 ?_
  refine lv_cst (v := vq1_) e_vq1_.symm ?_
  refine goI hK hH (runV (As := [.int vq1_]) (rest := [.int (-2)]) hC hK hH (c_X10_liable hc_mo hc_al hFi) mlL_117 (rcvM hK hH hc_mo rfl) ⟨⟨Nat.le_of_ble_eq_true rfl, Nat.le_of_ble_eq_true rfl⟩, Nat.le_of_ble_eq_true rfl, Nat.le_of_ble_eq_true rfl⟩ rfl hl.1 rfl (Nat.le_of_ble_eq_true rfl) dL_law_1092) (fun rq7_ Mq5_ Tq6_ Hq_ lcq_ hP hz hH => ?_)
  try dsimp only at hP
  obtain ⟨(rfl), eT, eM⟩ := hP
  have eT := eT.symm; subst eT
  have eM := eM.symm; subst eM
  refine jic_eq (tgt := 1370) hx hb dL_law_1095 (by decide) (fun cq8_ => ?_) (fun cq8_ => absurd cq8_ (by decide))
  exact law_tail C0 hAq hH.2.1 (lv_sub hl [0, 3] rfl) (Nat.le_of_ble_eq_true rfl) (Nat.le_of_ble_eq_true rfl)
set_option maxHeartbeats 4000000 in
set_option maxRecDepth 100000 in
theorem law_case_24 {p : Program} {e : Env} {s : State} {m : MethodId} {below : List Frame} {meth : Method} {c : Code} {l : Launch} {b : Nat} {xs : Nat → Int32} (C0 : lw_At p s m meth c b 6 xs) {D : va_G} {kA : Nat → ClassId} (hK : mK D kA s) {M : mM} {T : mT} {A : Nat → Prop} (hAq : ∀ q, A q → s.heap.size ≤ q) {Hq_ : Heap} {lcq_ : List Loc} {ls : Array Slot} {ro w im rd rc cu cs bs tp nb by_ vb mo al mt ii pa li : Nat} {F : Nat → Int32} (hc_ro : M ro = some (.inr (7, [.ref w, .ref im, .ref rd, .ref rc, .ref cu]))) (hc_w : M w = some (.inr (6, [.int 0, .int 2, .int 0, .int 0, .int 0, .int 0, .int 0, .int (-1), .ref cs, .ref bs, .ref tp]))) (hc_cs : M cs = some (.inl (kA 0, 8, .inl (c100 (fun _ => 0))))) (hc_im : M im = some (.inl (kA 6, 3, .inr (.inr (.inr (.inr (fun _ => none))))))) (hc_rd : M rd = some (.inr (3, [.ref nb, .ref vb, .int 0, .int 0, .ref by_, .int 0, .int 0, .int 0, .int 0, .int 0]))) (hc_mo : M mo = some (.inr (8, [.ref al, .ref mt, .ref ii, .int 0, .int (-1), .ref pa, .int 0, .int 0, .int 0, .int 0, .int 0, .long 0, .int 0, .ref li]))) (hc_al : M al = some (.inl (kA 0, 7506, .inl F))) (hc_ii : M ii = some (.inl (kA 2, 3, .inl (fun _ => 0)))) (ht_bs : T bs = some 6) (ht_tp : T tp = some 7) (ht_mt : T mt = some 11) (hFi : ∀ j, j < 1140 → F j = mIni j) (hH : mS D kA M T A s.heap Hq_ lcq_) (hl : lv_has ls 4 [(3, .int 0), (2, .ref mo), (1, .ref ro), (0, .ref b)]) : W p l e room_1 s m #[Value.ref b] below meth c Hq_ lcq_ 156 11688 (lw_Z below #[Value.ref b] s) (F0 m 1100 ls []) := by
  obtain ⟨hx, hb, hr, hml, hown, hts, hX, hbl, hlocks, hgv⟩ := id C0
  have hC : CallFix p m c cL_law 4 s #[Value.ref b] TB RL := ⟨hx, hb, hml, hown, fun w h => hts w (TB_in h)⟩
  have hbA : ¬ A b := fun h => absurd (hAq b h) (Nat.not_le.mpr hbl)
  have n_ro_w : ro ≠ w := neM hc_ro hc_w (by simp)
  have n_ro_cs : ro ≠ cs := neM hc_ro hc_cs (by simp)
  have n_ro_im : ro ≠ im := neM hc_ro hc_im (by simp)
  have n_ro_rd : ro ≠ rd := neM hc_ro hc_rd (by simp)
  have n_ro_mo : ro ≠ mo := neM hc_ro hc_mo (by simp)
  have n_ro_al : ro ≠ al := neM hc_ro hc_al (by simp)
  have n_ro_ii : ro ≠ ii := neM hc_ro hc_ii (by simp)
  have n_w_ro : w ≠ ro := neM hc_w hc_ro (by simp)
  have n_w_cs : w ≠ cs := neM hc_w hc_cs (by simp)
  have n_w_im : w ≠ im := neM hc_w hc_im (by simp)
  have n_w_rd : w ≠ rd := neM hc_w hc_rd (by simp)
  have n_w_mo : w ≠ mo := neM hc_w hc_mo (by simp)
  have n_w_al : w ≠ al := neM hc_w hc_al (by simp)
  have n_w_ii : w ≠ ii := neM hc_w hc_ii (by simp)
  have n_cs_ro : cs ≠ ro := neM hc_cs hc_ro (by simp)
  have n_cs_w : cs ≠ w := neM hc_cs hc_w (by simp)
  have n_cs_im : cs ≠ im := neM hc_cs hc_im (by simp)
  have n_cs_rd : cs ≠ rd := neM hc_cs hc_rd (by simp)
  have n_cs_mo : cs ≠ mo := neM hc_cs hc_mo (by simp)
  have n_cs_al : cs ≠ al := neM hc_cs hc_al (by simp)
  have n_cs_ii : cs ≠ ii := neM hc_cs hc_ii (by simp)
  have n_im_ro : im ≠ ro := neM hc_im hc_ro (by simp)
  have n_im_w : im ≠ w := neM hc_im hc_w (by simp)
  have n_im_cs : im ≠ cs := neM hc_im hc_cs (by simp)
  have n_im_rd : im ≠ rd := neM hc_im hc_rd (by simp)
  have n_im_mo : im ≠ mo := neM hc_im hc_mo (by simp)
  have n_im_al : im ≠ al := neM hc_im hc_al (by simp)
  have n_im_ii : im ≠ ii := neM hc_im hc_ii (by simp)
  have n_rd_ro : rd ≠ ro := neM hc_rd hc_ro (by simp)
  have n_rd_w : rd ≠ w := neM hc_rd hc_w (by simp)
  have n_rd_cs : rd ≠ cs := neM hc_rd hc_cs (by simp)
  have n_rd_im : rd ≠ im := neM hc_rd hc_im (by simp)
  have n_rd_mo : rd ≠ mo := neM hc_rd hc_mo (by simp)
  have n_rd_al : rd ≠ al := neM hc_rd hc_al (by simp)
  have n_rd_ii : rd ≠ ii := neM hc_rd hc_ii (by simp)
  have n_mo_ro : mo ≠ ro := neM hc_mo hc_ro (by simp)
  have n_mo_w : mo ≠ w := neM hc_mo hc_w (by simp)
  have n_mo_cs : mo ≠ cs := neM hc_mo hc_cs (by simp)
  have n_mo_im : mo ≠ im := neM hc_mo hc_im (by simp)
  have n_mo_rd : mo ≠ rd := neM hc_mo hc_rd (by simp)
  have n_mo_al : mo ≠ al := neM hc_mo hc_al (by simp)
  have n_mo_ii : mo ≠ ii := neM hc_mo hc_ii (by simp)
  have n_al_ro : al ≠ ro := neM hc_al hc_ro (by simp)
  have n_al_w : al ≠ w := neM hc_al hc_w (by simp)
  have n_al_cs : al ≠ cs := neM hc_al hc_cs (by simp)
  have n_al_im : al ≠ im := neM hc_al hc_im (by simp)
  have n_al_rd : al ≠ rd := neM hc_al hc_rd (by simp)
  have n_al_mo : al ≠ mo := neM hc_al hc_mo (by simp)
  have n_al_ii : al ≠ ii := neM hc_al hc_ii (by simp)
  have n_ii_ro : ii ≠ ro := neM hc_ii hc_ro (by simp)
  have n_ii_w : ii ≠ w := neM hc_ii hc_w (by simp)
  have n_ii_cs : ii ≠ cs := neM hc_ii hc_cs (by simp)
  have n_ii_im : ii ≠ im := neM hc_ii hc_im (by simp)
  have n_ii_rd : ii ≠ rd := neM hc_ii hc_rd (by simp)
  have n_ii_mo : ii ≠ mo := neM hc_ii hc_mo (by simp)
  have n_ii_al : ii ≠ al := neM hc_ii hc_al (by simp)
  refine lv_aload_n hx hb dL_law_1100 rfl (lv_at hl 2 rfl) ?_
  refine lv_aload_n hx hb dL_law_1101 rfl (lv_at hl 3 rfl) ?_
  refine lv_iload_n hx hb dL_law_1102 rfl (lv_at hl 0 rfl) ?_
  refine lv_iconst (v := 1) hx hb dL_law_1103 (by decide) ?_
  refine lv_iadd hx hb dL_law_1104 ?_
  refine lv_cst (v := 1) (by decide) ?_
  refine va_sld hx hb hX hbl hbA hH.2.1 (iIn (by decide) (by decide)) dL_law_1105 ?_
  refine lv_topi (fun vq1_ e_vq1_ => ?_)
  refine goI hK hH (runV (As := [.int vq1_]) (rest := []) hC hK hH (c_X9_reach hc_ro hc_w) mlL_118 (rcvM hK hH hc_ro rfl) ⟨⟨Nat.le_of_ble_eq_true rfl, Nat.le_of_ble_eq_true rfl⟩, Nat.le_of_ble_eq_true rfl, Nat.le_of_ble_eq_true rfl⟩ rfl hl.1 rfl (Nat.le_of_ble_eq_true rfl) dL_law_1106) (fun rq4_ Mq2_ Tq3_ Hq_ lcq_ hP hz hH => ?_)
  try dsimp only at hP
  obtain ⟨(rfl), eT, eM⟩ := hP
  have eT := eT.symm; subst eT
  have eM := eM.symm; subst eM
  refine lv_aload_n hx hb dL_law_1109 rfl (lv_at hl 1 rfl) ?_
  refine lv_aload_n hx hb dL_law_1110 rfl (lv_at hl 3 rfl) ?_
  refine lv_iload_n hx hb dL_law_1111 rfl (lv_at hl 0 rfl) ?_
  refine lv_iconst (v := 1) hx hb dL_law_1112 (by decide) ?_
  refine lv_iadd hx hb dL_law_1113 ?_
  refine lv_cst (v := 1) (by decide) ?_
  refine va_sld hx hb hX hbl hbA hH.2.1 (iIn (by decide) (by decide)) dL_law_1114 ?_
  refine lv_cst (v := vq1_) e_vq1_.symm ?_
  refine goI hK hH (runV (As := [.int vq1_]) (rest := [.int (-2)]) hC hK hH (c_X10_reach hc_mo hc_al hFi) mlL_121 (rcvM hK hH hc_mo rfl) ⟨⟨Nat.le_of_ble_eq_true rfl, Nat.le_of_ble_eq_true rfl⟩, Nat.le_of_ble_eq_true rfl, Nat.le_of_ble_eq_true rfl⟩ rfl hl.1 rfl (Nat.le_of_ble_eq_true rfl) dL_law_1115) (fun rq7_ Mq5_ Tq6_ Hq_ lcq_ hP hz hH => ?_)
  try dsimp only at hP
  obtain ⟨(rfl), eT, eM⟩ := hP
  have eT := eT.symm; subst eT
  have eM := eM.symm; subst eM
  refine jic_eq (tgt := 1370) hx hb dL_law_1118 (by decide) (fun cq8_ => ?_) (fun cq8_ => absurd cq8_ (by decide))
  exact law_tail C0 hAq hH.2.1 (lv_sub hl [0, 3] rfl) (Nat.le_of_ble_eq_true rfl) (Nat.le_of_ble_eq_true rfl)
set_option maxHeartbeats 4000000 in
set_option maxRecDepth 100000 in
theorem law_case_25 {p : Program} {e : Env} {s : State} {m : MethodId} {below : List Frame} {meth : Method} {c : Code} {l : Launch} {b : Nat} {xs : Nat → Int32} (C0 : lw_At p s m meth c b 6 xs) {D : va_G} {kA : Nat → ClassId} (hK : mK D kA s) {M : mM} {T : mT} {A : Nat → Prop} (hAq : ∀ q, A q → s.heap.size ≤ q) {Hq_ : Heap} {lcq_ : List Loc} {ls : Array Slot} {ro w im rd rc cu cs bs tp nb by_ vb mo al mt ii pa li : Nat} {F : Nat → Int32} (hc_ro : M ro = some (.inr (7, [.ref w, .ref im, .ref rd, .ref rc, .ref cu]))) (hc_w : M w = some (.inr (6, [.int 0, .int 2, .int 0, .int 0, .int 0, .int 0, .int 0, .int (-1), .ref cs, .ref bs, .ref tp]))) (hc_cs : M cs = some (.inl (kA 0, 8, .inl (c100 (fun _ => 0))))) (hc_im : M im = some (.inl (kA 6, 3, .inr (.inr (.inr (.inr (fun _ => none))))))) (hc_rd : M rd = some (.inr (3, [.ref nb, .ref vb, .int 0, .int 0, .ref by_, .int 0, .int 0, .int 0, .int 0, .int 0]))) (hc_mo : M mo = some (.inr (8, [.ref al, .ref mt, .ref ii, .int 0, .int (-1), .ref pa, .int 0, .int 0, .int 0, .int 0, .int 0, .long 0, .int 0, .ref li]))) (hc_al : M al = some (.inl (kA 0, 7506, .inl F))) (hc_ii : M ii = some (.inl (kA 2, 3, .inl (fun _ => 0)))) (ht_bs : T bs = some 6) (ht_tp : T tp = some 7) (ht_mt : T mt = some 11) (hFi : ∀ j, j < 1140 → F j = mIni j) (hH : mS D kA M T A s.heap Hq_ lcq_) (hl : lv_has ls 4 [(3, .int 0), (2, .ref mo), (1, .ref ro), (0, .ref b)]) : W p l e room_1 s m #[Value.ref b] below meth c Hq_ lcq_ 156 11688 (lw_Z below #[Value.ref b] s) (F0 m 1123 ls []) := by
  obtain ⟨hx, hb, hr, hml, hown, hts, hX, hbl, hlocks, hgv⟩ := id C0
  have hC : CallFix p m c cL_law 4 s #[Value.ref b] TB RL := ⟨hx, hb, hml, hown, fun w h => hts w (TB_in h)⟩
  have hbA : ¬ A b := fun h => absurd (hAq b h) (Nat.not_le.mpr hbl)
  have n_ro_w : ro ≠ w := neM hc_ro hc_w (by simp)
  have n_ro_cs : ro ≠ cs := neM hc_ro hc_cs (by simp)
  have n_ro_im : ro ≠ im := neM hc_ro hc_im (by simp)
  have n_ro_rd : ro ≠ rd := neM hc_ro hc_rd (by simp)
  have n_ro_mo : ro ≠ mo := neM hc_ro hc_mo (by simp)
  have n_ro_al : ro ≠ al := neM hc_ro hc_al (by simp)
  have n_ro_ii : ro ≠ ii := neM hc_ro hc_ii (by simp)
  have n_w_ro : w ≠ ro := neM hc_w hc_ro (by simp)
  have n_w_cs : w ≠ cs := neM hc_w hc_cs (by simp)
  have n_w_im : w ≠ im := neM hc_w hc_im (by simp)
  have n_w_rd : w ≠ rd := neM hc_w hc_rd (by simp)
  have n_w_mo : w ≠ mo := neM hc_w hc_mo (by simp)
  have n_w_al : w ≠ al := neM hc_w hc_al (by simp)
  have n_w_ii : w ≠ ii := neM hc_w hc_ii (by simp)
  have n_cs_ro : cs ≠ ro := neM hc_cs hc_ro (by simp)
  have n_cs_w : cs ≠ w := neM hc_cs hc_w (by simp)
  have n_cs_im : cs ≠ im := neM hc_cs hc_im (by simp)
  have n_cs_rd : cs ≠ rd := neM hc_cs hc_rd (by simp)
  have n_cs_mo : cs ≠ mo := neM hc_cs hc_mo (by simp)
  have n_cs_al : cs ≠ al := neM hc_cs hc_al (by simp)
  have n_cs_ii : cs ≠ ii := neM hc_cs hc_ii (by simp)
  have n_im_ro : im ≠ ro := neM hc_im hc_ro (by simp)
  have n_im_w : im ≠ w := neM hc_im hc_w (by simp)
  have n_im_cs : im ≠ cs := neM hc_im hc_cs (by simp)
  have n_im_rd : im ≠ rd := neM hc_im hc_rd (by simp)
  have n_im_mo : im ≠ mo := neM hc_im hc_mo (by simp)
  have n_im_al : im ≠ al := neM hc_im hc_al (by simp)
  have n_im_ii : im ≠ ii := neM hc_im hc_ii (by simp)
  have n_rd_ro : rd ≠ ro := neM hc_rd hc_ro (by simp)
  have n_rd_w : rd ≠ w := neM hc_rd hc_w (by simp)
  have n_rd_cs : rd ≠ cs := neM hc_rd hc_cs (by simp)
  have n_rd_im : rd ≠ im := neM hc_rd hc_im (by simp)
  have n_rd_mo : rd ≠ mo := neM hc_rd hc_mo (by simp)
  have n_rd_al : rd ≠ al := neM hc_rd hc_al (by simp)
  have n_rd_ii : rd ≠ ii := neM hc_rd hc_ii (by simp)
  have n_mo_ro : mo ≠ ro := neM hc_mo hc_ro (by simp)
  have n_mo_w : mo ≠ w := neM hc_mo hc_w (by simp)
  have n_mo_cs : mo ≠ cs := neM hc_mo hc_cs (by simp)
  have n_mo_im : mo ≠ im := neM hc_mo hc_im (by simp)
  have n_mo_rd : mo ≠ rd := neM hc_mo hc_rd (by simp)
  have n_mo_al : mo ≠ al := neM hc_mo hc_al (by simp)
  have n_mo_ii : mo ≠ ii := neM hc_mo hc_ii (by simp)
  have n_al_ro : al ≠ ro := neM hc_al hc_ro (by simp)
  have n_al_w : al ≠ w := neM hc_al hc_w (by simp)
  have n_al_cs : al ≠ cs := neM hc_al hc_cs (by simp)
  have n_al_im : al ≠ im := neM hc_al hc_im (by simp)
  have n_al_rd : al ≠ rd := neM hc_al hc_rd (by simp)
  have n_al_mo : al ≠ mo := neM hc_al hc_mo (by simp)
  have n_al_ii : al ≠ ii := neM hc_al hc_ii (by simp)
  have n_ii_ro : ii ≠ ro := neM hc_ii hc_ro (by simp)
  have n_ii_w : ii ≠ w := neM hc_ii hc_w (by simp)
  have n_ii_cs : ii ≠ cs := neM hc_ii hc_cs (by simp)
  have n_ii_im : ii ≠ im := neM hc_ii hc_im (by simp)
  have n_ii_rd : ii ≠ rd := neM hc_ii hc_rd (by simp)
  have n_ii_mo : ii ≠ mo := neM hc_ii hc_mo (by simp)
  have n_ii_al : ii ≠ al := neM hc_ii hc_al (by simp)
  refine lv_aload_n hx hb dL_law_1123 rfl (lv_at hl 2 rfl) ?_
  refine lv_aload_n hx hb dL_law_1124 rfl (lv_at hl 3 rfl) ?_
  refine lv_iload_n hx hb dL_law_1125 rfl (lv_at hl 0 rfl) ?_
  refine lv_iconst (v := 1) hx hb dL_law_1126 (by decide) ?_
  refine lv_iadd hx hb dL_law_1127 ?_
  refine lv_cst (v := 1) (by decide) ?_
  refine va_sld hx hb hX hbl hbA hH.2.1 (iIn (by decide) (by decide)) dL_law_1128 ?_
  refine lv_topi (fun vq1_ e_vq1_ => ?_)
  refine lv_aload_n hx hb dL_law_1129 rfl (lv_at hl 3 rfl) ?_
  refine lv_iload_n hx hb dL_law_1130 rfl (lv_at hl 0 rfl) ?_
  refine lv_iconst (v := 2) hx hb dL_law_1131 (by decide) ?_
  refine lv_iadd hx hb dL_law_1132 ?_
  refine lv_cst (v := 2) (by decide) ?_
  refine va_sld hx hb hX hbl hbA hH.2.1 (iIn (by decide) (by decide)) dL_law_1133 ?_
  refine lv_topi (fun vq2_ e_vq2_ => ?_)
  refine goI hK hH (runV (As := [.int vq1_, .int vq2_]) (rest := []) hC hK hH (c_X9_run hc_ro hc_w) mlL_122 (rcvM hK hH hc_ro rfl) ⟨⟨Nat.le_of_ble_eq_true rfl, Nat.le_of_ble_eq_true rfl⟩, Nat.le_of_ble_eq_true rfl, Nat.le_of_ble_eq_true rfl⟩ rfl hl.1 rfl (Nat.le_of_ble_eq_true rfl) dL_law_1134) (fun rq5_ Mq3_ Tq4_ Hq_ lcq_ hP hz hH => ?_)
  try dsimp only at hP
  obtain ⟨(rfl), eT, eM⟩ := hP
  have eT := eT.symm; subst eT
  have eM := eM.symm; subst eM
  refine lv_aload_n hx hb dL_law_1137 rfl (lv_at hl 1 rfl) ?_
  refine lv_aload_n hx hb dL_law_1138 rfl (lv_at hl 3 rfl) ?_
  refine lv_iload_n hx hb dL_law_1139 rfl (lv_at hl 0 rfl) ?_
  refine lv_iconst (v := 1) hx hb dL_law_1140 (by decide) ?_
  refine lv_iadd hx hb dL_law_1141 ?_
  refine lv_cst (v := 1) (by decide) ?_
  refine va_sld hx hb hX hbl hbA hH.2.1 (iIn (by decide) (by decide)) dL_law_1142 ?_
  refine lv_cst (v := vq1_) e_vq1_.symm ?_
  refine lv_aload_n hx hb dL_law_1143 rfl (lv_at hl 3 rfl) ?_
  refine lv_iload_n hx hb dL_law_1144 rfl (lv_at hl 0 rfl) ?_
  refine lv_iconst (v := 2) hx hb dL_law_1145 (by decide) ?_
  refine lv_iadd hx hb dL_law_1146 ?_
  refine lv_cst (v := 2) (by decide) ?_
  refine va_sld hx hb hX hbl hbA hH.2.1 (iIn (by decide) (by decide)) dL_law_1147 ?_
  refine lv_cst (v := vq2_) e_vq2_.symm ?_
  refine goI hK hH (runV (As := [.int vq1_, .int vq2_]) (rest := [.int (-2)]) hC hK hH (c_X10_run hc_mo hc_al hFi) mlL_125 (rcvM hK hH hc_mo rfl) ⟨⟨Nat.le_of_ble_eq_true rfl, Nat.le_of_ble_eq_true rfl⟩, Nat.le_of_ble_eq_true rfl, Nat.le_of_ble_eq_true rfl⟩ rfl hl.1 rfl (Nat.le_of_ble_eq_true rfl) dL_law_1148) (fun rq8_ Mq6_ Tq7_ Hq_ lcq_ hP hz hH => ?_)
  try dsimp only at hP
  obtain ⟨(rfl), eT, eM⟩ := hP
  have eT := eT.symm; subst eT
  have eM := eM.symm; subst eM
  refine jic_eq (tgt := 1370) hx hb dL_law_1151 (by decide) (fun cq9_ => ?_) (fun cq9_ => absurd cq9_ (by decide))
  exact law_tail C0 hAq hH.2.1 (lv_sub hl [0, 3] rfl) (Nat.le_of_ble_eq_true rfl) (Nat.le_of_ble_eq_true rfl)
set_option maxHeartbeats 4000000 in
set_option maxRecDepth 100000 in
theorem law_case_26 {p : Program} {e : Env} {s : State} {m : MethodId} {below : List Frame} {meth : Method} {c : Code} {l : Launch} {b : Nat} {xs : Nat → Int32} (C0 : lw_At p s m meth c b 6 xs) {D : va_G} {kA : Nat → ClassId} (hK : mK D kA s) {M : mM} {T : mT} {A : Nat → Prop} (hAq : ∀ q, A q → s.heap.size ≤ q) {Hq_ : Heap} {lcq_ : List Loc} {ls : Array Slot} {ro w im rd rc cu cs bs tp nb by_ vb mo al mt ii pa li : Nat} {F : Nat → Int32} (hc_ro : M ro = some (.inr (7, [.ref w, .ref im, .ref rd, .ref rc, .ref cu]))) (hc_w : M w = some (.inr (6, [.int 0, .int 2, .int 0, .int 0, .int 0, .int 0, .int 0, .int (-1), .ref cs, .ref bs, .ref tp]))) (hc_cs : M cs = some (.inl (kA 0, 8, .inl (c100 (fun _ => 0))))) (hc_im : M im = some (.inl (kA 6, 3, .inr (.inr (.inr (.inr (fun _ => none))))))) (hc_rd : M rd = some (.inr (3, [.ref nb, .ref vb, .int 0, .int 0, .ref by_, .int 0, .int 0, .int 0, .int 0, .int 0]))) (hc_mo : M mo = some (.inr (8, [.ref al, .ref mt, .ref ii, .int 0, .int (-1), .ref pa, .int 0, .int 0, .int 0, .int 0, .int 0, .long 0, .int 0, .ref li]))) (hc_al : M al = some (.inl (kA 0, 7506, .inl F))) (hc_ii : M ii = some (.inl (kA 2, 3, .inl (fun _ => 0)))) (ht_bs : T bs = some 6) (ht_tp : T tp = some 7) (ht_mt : T mt = some 11) (hFi : ∀ j, j < 1140 → F j = mIni j) (hH : mS D kA M T A s.heap Hq_ lcq_) (hl : lv_has ls 4 [(3, .int 0), (2, .ref mo), (1, .ref ro), (0, .ref b)]) : W p l e room_1 s m #[Value.ref b] below meth c Hq_ lcq_ 156 11688 (lw_Z below #[Value.ref b] s) (F0 m 1156 ls []) := by
  obtain ⟨hx, hb, hr, hml, hown, hts, hX, hbl, hlocks, hgv⟩ := id C0
  have hC : CallFix p m c cL_law 4 s #[Value.ref b] TB RL := ⟨hx, hb, hml, hown, fun w h => hts w (TB_in h)⟩
  have hbA : ¬ A b := fun h => absurd (hAq b h) (Nat.not_le.mpr hbl)
  have n_ro_w : ro ≠ w := neM hc_ro hc_w (by simp)
  have n_ro_cs : ro ≠ cs := neM hc_ro hc_cs (by simp)
  have n_ro_im : ro ≠ im := neM hc_ro hc_im (by simp)
  have n_ro_rd : ro ≠ rd := neM hc_ro hc_rd (by simp)
  have n_ro_mo : ro ≠ mo := neM hc_ro hc_mo (by simp)
  have n_ro_al : ro ≠ al := neM hc_ro hc_al (by simp)
  have n_ro_ii : ro ≠ ii := neM hc_ro hc_ii (by simp)
  have n_w_ro : w ≠ ro := neM hc_w hc_ro (by simp)
  have n_w_cs : w ≠ cs := neM hc_w hc_cs (by simp)
  have n_w_im : w ≠ im := neM hc_w hc_im (by simp)
  have n_w_rd : w ≠ rd := neM hc_w hc_rd (by simp)
  have n_w_mo : w ≠ mo := neM hc_w hc_mo (by simp)
  have n_w_al : w ≠ al := neM hc_w hc_al (by simp)
  have n_w_ii : w ≠ ii := neM hc_w hc_ii (by simp)
  have n_cs_ro : cs ≠ ro := neM hc_cs hc_ro (by simp)
  have n_cs_w : cs ≠ w := neM hc_cs hc_w (by simp)
  have n_cs_im : cs ≠ im := neM hc_cs hc_im (by simp)
  have n_cs_rd : cs ≠ rd := neM hc_cs hc_rd (by simp)
  have n_cs_mo : cs ≠ mo := neM hc_cs hc_mo (by simp)
  have n_cs_al : cs ≠ al := neM hc_cs hc_al (by simp)
  have n_cs_ii : cs ≠ ii := neM hc_cs hc_ii (by simp)
  have n_im_ro : im ≠ ro := neM hc_im hc_ro (by simp)
  have n_im_w : im ≠ w := neM hc_im hc_w (by simp)
  have n_im_cs : im ≠ cs := neM hc_im hc_cs (by simp)
  have n_im_rd : im ≠ rd := neM hc_im hc_rd (by simp)
  have n_im_mo : im ≠ mo := neM hc_im hc_mo (by simp)
  have n_im_al : im ≠ al := neM hc_im hc_al (by simp)
  have n_im_ii : im ≠ ii := neM hc_im hc_ii (by simp)
  have n_rd_ro : rd ≠ ro := neM hc_rd hc_ro (by simp)
  have n_rd_w : rd ≠ w := neM hc_rd hc_w (by simp)
  have n_rd_cs : rd ≠ cs := neM hc_rd hc_cs (by simp)
  have n_rd_im : rd ≠ im := neM hc_rd hc_im (by simp)
  have n_rd_mo : rd ≠ mo := neM hc_rd hc_mo (by simp)
  have n_rd_al : rd ≠ al := neM hc_rd hc_al (by simp)
  have n_rd_ii : rd ≠ ii := neM hc_rd hc_ii (by simp)
  have n_mo_ro : mo ≠ ro := neM hc_mo hc_ro (by simp)
  have n_mo_w : mo ≠ w := neM hc_mo hc_w (by simp)
  have n_mo_cs : mo ≠ cs := neM hc_mo hc_cs (by simp)
  have n_mo_im : mo ≠ im := neM hc_mo hc_im (by simp)
  have n_mo_rd : mo ≠ rd := neM hc_mo hc_rd (by simp)
  have n_mo_al : mo ≠ al := neM hc_mo hc_al (by simp)
  have n_mo_ii : mo ≠ ii := neM hc_mo hc_ii (by simp)
  have n_al_ro : al ≠ ro := neM hc_al hc_ro (by simp)
  have n_al_w : al ≠ w := neM hc_al hc_w (by simp)
  have n_al_cs : al ≠ cs := neM hc_al hc_cs (by simp)
  have n_al_im : al ≠ im := neM hc_al hc_im (by simp)
  have n_al_rd : al ≠ rd := neM hc_al hc_rd (by simp)
  have n_al_mo : al ≠ mo := neM hc_al hc_mo (by simp)
  have n_al_ii : al ≠ ii := neM hc_al hc_ii (by simp)
  have n_ii_ro : ii ≠ ro := neM hc_ii hc_ro (by simp)
  have n_ii_w : ii ≠ w := neM hc_ii hc_w (by simp)
  have n_ii_cs : ii ≠ cs := neM hc_ii hc_cs (by simp)
  have n_ii_im : ii ≠ im := neM hc_ii hc_im (by simp)
  have n_ii_rd : ii ≠ rd := neM hc_ii hc_rd (by simp)
  have n_ii_mo : ii ≠ mo := neM hc_ii hc_mo (by simp)
  have n_ii_al : ii ≠ al := neM hc_ii hc_al (by simp)
  refine lv_aload_n hx hb dL_law_1156 rfl (lv_at hl 2 rfl) ?_
  refine lv_aload_n hx hb dL_law_1157 rfl (lv_at hl 3 rfl) ?_
  refine lv_iload_n hx hb dL_law_1158 rfl (lv_at hl 0 rfl) ?_
  refine lv_iconst (v := 1) hx hb dL_law_1159 (by decide) ?_
  refine lv_iadd hx hb dL_law_1160 ?_
  refine lv_cst (v := 1) (by decide) ?_
  refine va_sld hx hb hX hbl hbA hH.2.1 (iIn (by decide) (by decide)) dL_law_1161 ?_
  refine lv_topi (fun vq1_ e_vq1_ => ?_)
  refine lv_aload_n hx hb dL_law_1162 rfl (lv_at hl 3 rfl) ?_
  refine lv_iload_n hx hb dL_law_1163 rfl (lv_at hl 0 rfl) ?_
  refine lv_iconst (v := 2) hx hb dL_law_1164 (by decide) ?_
  refine lv_iadd hx hb dL_law_1165 ?_
  refine lv_cst (v := 2) (by decide) ?_
  refine va_sld hx hb hX hbl hbA hH.2.1 (iIn (by decide) (by decide)) dL_law_1166 ?_
  refine lv_topi (fun vq2_ e_vq2_ => ?_)
  refine goI hK hH (runV (As := [.int vq1_, .int vq2_]) (rest := []) hC hK hH (c_X9_gains hc_ro hc_w) mlL_126 (rcvM hK hH hc_ro rfl) ⟨⟨Nat.le_of_ble_eq_true rfl, Nat.le_of_ble_eq_true rfl⟩, Nat.le_of_ble_eq_true rfl, Nat.le_of_ble_eq_true rfl⟩ rfl hl.1 rfl (Nat.le_of_ble_eq_true rfl) dL_law_1167) (fun rq5_ Mq3_ Tq4_ Hq_ lcq_ hP hz hH => ?_)
  try dsimp only at hP
  obtain ⟨(rfl), eT, eM⟩ := hP
  have eT := eT.symm; subst eT
  have eM := eM.symm; subst eM
  refine lv_aload_n hx hb dL_law_1170 rfl (lv_at hl 1 rfl) ?_
  refine lv_aload_n hx hb dL_law_1171 rfl (lv_at hl 3 rfl) ?_
  refine lv_iload_n hx hb dL_law_1172 rfl (lv_at hl 0 rfl) ?_
  refine lv_iconst (v := 1) hx hb dL_law_1173 (by decide) ?_
  refine lv_iadd hx hb dL_law_1174 ?_
  refine lv_cst (v := 1) (by decide) ?_
  refine va_sld hx hb hX hbl hbA hH.2.1 (iIn (by decide) (by decide)) dL_law_1175 ?_
  refine lv_cst (v := vq1_) e_vq1_.symm ?_
  refine lv_aload_n hx hb dL_law_1176 rfl (lv_at hl 3 rfl) ?_
  refine lv_iload_n hx hb dL_law_1177 rfl (lv_at hl 0 rfl) ?_
  refine lv_iconst (v := 2) hx hb dL_law_1178 (by decide) ?_
  refine lv_iadd hx hb dL_law_1179 ?_
  refine lv_cst (v := 2) (by decide) ?_
  refine va_sld hx hb hX hbl hbA hH.2.1 (iIn (by decide) (by decide)) dL_law_1180 ?_
  refine lv_cst (v := vq2_) e_vq2_.symm ?_
  refine goI hK hH (runV (As := [.int vq1_, .int vq2_]) (rest := [.int 0]) hC hK hH (c_X10_gains hc_mo hc_al hFi) mlL_129 (rcvM hK hH hc_mo rfl) ⟨⟨Nat.le_of_ble_eq_true rfl, Nat.le_of_ble_eq_true rfl⟩, Nat.le_of_ble_eq_true rfl, Nat.le_of_ble_eq_true rfl⟩ rfl hl.1 rfl (Nat.le_of_ble_eq_true rfl) dL_law_1181) (fun rq8_ Mq6_ Tq7_ Hq_ lcq_ hP hz hH => ?_)
  try dsimp only at hP
  obtain ⟨(rfl), eT, eM⟩ := hP
  have eT := eT.symm; subst eT
  have eM := eM.symm; subst eM
  refine jic_eq (tgt := 1370) hx hb dL_law_1184 (by decide) (fun cq9_ => ?_) (fun cq9_ => absurd cq9_ (by decide))
  exact law_tail C0 hAq hH.2.1 (lv_sub hl [0, 3] rfl) (Nat.le_of_ble_eq_true rfl) (Nat.le_of_ble_eq_true rfl)
