theorem mmX4_28 : MML RX4 28 := ⟨TB_t 414 (by decide +kernel) rfl, TB_t 415 (by decide +kernel) rfl, TB_t 12 (by decide +kernel) rfl, TB_t 416 (by decide +kernel) rfl⟩
theorem cpX2_71 : CPL RX2 71 := ⟨TB_t 560 (by decide +kernel) rfl, TB_t 562 (by decide +kernel) rfl, TB_t 561 (by decide +kernel) rfl, TB_t 19 (by decide +kernel) rfl⟩
set_option maxHeartbeats 4000000 in
set_option maxRecDepth 100000 in
theorem c_X4_move {l : Launch} {D : va_G} {kA : Nat → ClassId} {M : mM} {T : mT} {sz : Nat} {rd nb vb by_ : Nat} {no wi ki pl va : Int32} (hc_rd : M rd = some (.inr (3, [.ref nb, .ref vb, .int no, .int wi, .ref by_, .int 0, .int ki, .int pl, .int 0, .int va]))) : mCv l yX4_move cX4_move 1 0 0 0 D kA M T sz [.ref rd] (fun u => (u.1 rd = some (.inr (3, [.ref nb, .ref vb, .int no, .int wi, .ref by_, .int 0, .int 0, .int 0, .int 0, .int va]))) ∧ u.2 = T ∧ (∀ q, q ≠ rd → u.1 q = M q)) := by
  unfold mCv
  refine start_W (by decide) (Nat.le_of_ble_eq_true rfl) ?_
  intro p e s m below meth c ls hC hr hlk hnm hK hH hsz hl
  have hx := hC.1
  have hb := hC.2.1
  have hl : lv_has ls 1 [(0, .ref rd)] := hl
  have hF : ∀ q, q ≠ rd → M q = M q := fun q _ => rfl
  refine lv_aload_n hx hb dX4_move_0 rfl (lv_at hl 0 rfl) ?_
  refine lv_aload_n hx hb dX4_move_1 rfl (lv_at hl 0 rfl) ?_
  refine xg hC hK hH flX4_38 hc_rd rfl dX4_move_2 ?_
  refine yp (v := .int 0) hC hK hH flX4_51 hc_rd rfl rfl (Nat.le_of_ble_eq_true rfl) dX4_move_5 (fun Hq_ lcq_ Mq1_ hc_rd hfr hH => ?_)
  have hc_rd : Mq1_ rd = some (.inr (3, [.ref nb, .ref vb, .int no, .int wi, .ref by_, .int 0, .int ki, .int 0, .int 0, .int va])) := hc_rd
  have hF : ∀ q, q ≠ rd → Mq1_ q = M q := fun q h0 => (hfr q h0).trans (hF q h0)
  refine lv_aload_n hx hb dX4_move_8 rfl (lv_at hl 0 rfl) ?_
  refine xg hC hK hH flX4_51 hc_rd rfl dX4_move_9 ?_
  refine lv_aload_n hx hb dX4_move_12 rfl (lv_at hl 0 rfl) ?_
  refine xg hC hK hH flX4_34 hc_rd rfl dX4_move_13 ?_
  refine jic_ge (tgt := 60) hx hb dX4_move_16 (by decide) (fun cq2_ => ?_) (fun cq2_ => absurd cq2_ (by decide))
  refine lv_aload_n hx hb dX4_move_60 rfl (lv_at hl 0 rfl) ?_
  refine lv_aload_n hx hb dX4_move_61 rfl (lv_at hl 0 rfl) ?_
  refine xg hC hK hH flX4_51 hc_rd rfl dX4_move_62 ?_
  refine yp (v := .int 0) hC hK hH flX4_38 hc_rd rfl rfl (Nat.le_of_ble_eq_true rfl) dX4_move_65 (fun Hq_ lcq_ Mq3_ hc_rd hfr hH => ?_)
  have hc_rd : Mq3_ rd = some (.inr (3, [.ref nb, .ref vb, .int no, .int wi, .ref by_, .int 0, .int ki, .int 0, .int 0, .int va])) := hc_rd
  have hF : ∀ q, q ≠ rd → Mq3_ q = M q := fun q h0 => (hfr q h0).trans (hF q h0)
  refine lv_aload_n hx hb dX4_move_68 rfl (lv_at hl 0 rfl) ?_
  refine xg hC hK hH flX4_51 hc_rd rfl dX4_move_69 ?_
  refine lv_aload_n hx hb dX4_move_72 rfl (lv_at hl 0 rfl) ?_
  refine xg hC hK hH flX4_34 hc_rd rfl dX4_move_73 ?_
  refine jic_lt (tgt := 87) hx hb dX4_move_76 (by decide) (fun cq4_ => absurd cq4_ (by decide)) (fun cq4_ => ?_)
  refine lv_aload_n hx hb dX4_move_79 rfl (lv_at hl 0 rfl) ?_
  refine lv_iconst (v := 0) hx hb dX4_move_80 (by decide) ?_
  refine yp (v := .int 0) hC hK hH flX4_44 hc_rd rfl rfl (Nat.le_of_ble_eq_true rfl) dX4_move_81 (fun Hq_ lcq_ Mq5_ hc_rd hfr hH => ?_)
  have hc_rd : Mq5_ rd = some (.inr (3, [.ref nb, .ref vb, .int no, .int wi, .ref by_, .int 0, .int 0, .int 0, .int 0, .int va])) := hc_rd
  have hF : ∀ q, q ≠ rd → Mq5_ q = M q := fun q h0 => (hfr q h0).trans (hF q h0)
  refine lv_goto (tgt := 156) hx hb dX4_move_84 (by decide) ?_
  exact ret_v hC hr hlk hK hH (⟨hc_rd, rfl, hF⟩) (Nat.le_of_ble_eq_true rfl) (Nat.le_of_ble_eq_true rfl) dX4_move_156
set_option maxHeartbeats 4000000 in
set_option maxRecDepth 100000 in
theorem c_X4_open {l : Launch} {D : va_G} {kA : Nat → ClassId} {M : mM} {T : mT} {sz : Nat} {rd nb vb by_ : Nat} {no wi le ki pl be va : Int32} {tp : Nat} (hc_rd : M rd = some (.inr (3, [.ref nb, .ref vb, .int no, .int wi, .ref by_, .int le, .int ki, .int pl, .int be, .int va]))) (ht_tp : T tp = some 7) : mCv l yX4_open cX4_open 3 1 0 0 D kA M T sz [.ref rd, .ref tp, .int 0] (fun u => (u.1 rd = some (.inr (3, [.ref nb, .ref vb, .int no, .int wi, .ref tp, .int 0, .int 0, .int 0, .int 0, .int va]))) ∧ u.2 = T ∧ (∀ q, q ≠ rd → u.1 q = M q)) := by
  unfold mCv
  refine start_W (by decide) (Nat.le_of_ble_eq_true rfl) ?_
  intro p e s m below meth c ls hC hr hlk hnm hK hH hsz hl
  have hx := hC.1
  have hb := hC.2.1
  have hl : lv_has ls 3 [(0, .ref rd), (1, .ref tp), (2, .int 0)] := hl
  have hF : ∀ q, q ≠ rd → M q = M q := fun q _ => rfl
  refine lv_aload_n hx hb dX4_open_0 rfl (lv_at hl 0 rfl) ?_
  refine lv_aload_n hx hb dX4_open_1 rfl (lv_at hl 1 rfl) ?_
  refine yp (v := .ref tp) hC hK hH flX4_24 hc_rd rfl rfl (Nat.le_of_ble_eq_true rfl) dX4_open_2 (fun Hq_ lcq_ Mq1_ hc_rd hfr hH => ?_)
  have hc_rd : Mq1_ rd = some (.inr (3, [.ref nb, .ref vb, .int no, .int wi, .ref tp, .int le, .int ki, .int pl, .int be, .int va])) := hc_rd
  have hF : ∀ q, q ≠ rd → Mq1_ q = M q := fun q h0 => (hfr q h0).trans (hF q h0)
  refine lv_aload_n hx hb dX4_open_5 rfl (lv_at hl 0 rfl) ?_
  refine lv_iload_n hx hb dX4_open_6 rfl (lv_at hl 2 rfl) ?_
  refine lv_aload_n hx hb dX4_open_7 rfl (lv_at hl 1 rfl) ?_
  refine tlen (v := 600) hC hK hH ht_tp rfl rfl rfl dX4_open_8 ?_
  refine xmin hC hl.1 mmX4_28 (Nat.le_of_ble_eq_true rfl) (Nat.le_of_ble_eq_true rfl) (Nat.le_of_ble_eq_true rfl) (Nat.le_of_ble_eq_true rfl) dX4_open_9 ?_
  refine lv_cst (v := 0) (by decide) ?_
  refine yp (v := .int 0) hC hK hH flX4_34 hc_rd rfl rfl (Nat.le_of_ble_eq_true rfl) dX4_open_12 (fun Hq_ lcq_ Mq2_ hc_rd hfr hH => ?_)
  have hc_rd : Mq2_ rd = some (.inr (3, [.ref nb, .ref vb, .int no, .int wi, .ref tp, .int 0, .int ki, .int pl, .int be, .int va])) := hc_rd
  have hF : ∀ q, q ≠ rd → Mq2_ q = M q := fun q h0 => (hfr q h0).trans (hF q h0)
  refine lv_aload_n hx hb dX4_open_15 rfl (lv_at hl 0 rfl) ?_
  refine lv_iconst (v := 0) hx hb dX4_open_16 (by decide) ?_
  refine yp (v := .int 0) hC hK hH flX4_38 hc_rd rfl rfl (Nat.le_of_ble_eq_true rfl) dX4_open_17 (fun Hq_ lcq_ Mq3_ hc_rd hfr hH => ?_)
  have hc_rd : Mq3_ rd = some (.inr (3, [.ref nb, .ref vb, .int no, .int wi, .ref tp, .int 0, .int ki, .int pl, .int 0, .int va])) := hc_rd
  have hF : ∀ q, q ≠ rd → Mq3_ q = M q := fun q h0 => (hfr q h0).trans (hF q h0)
  refine lv_aload_n hx hb dX4_open_20 rfl (lv_at hl 0 rfl) ?_
  refine goV hK hH (runV (As := []) (rest := []) hC hK hH (c_X4_move hc_rd) mlX4_41 (rcvM hK hH hc_rd rfl) ⟨⟨Nat.le_of_ble_eq_true rfl, Nat.le_of_ble_eq_true rfl⟩, Nat.le_of_ble_eq_true rfl, Nat.le_of_ble_eq_true rfl⟩ rfl hl.1 rfl (Nat.le_of_ble_eq_true rfl) dX4_open_21) (fun Mq4_ Tq5_ Hq_ lcq_ hP hz hH => ?_)
  try dsimp only at hP
  obtain ⟨(hx_rd), eT, hfr⟩ := hP
  have eT := eT.symm; subst eT
  have hc_rd : Mq4_ rd = some (.inr (3, [.ref nb, .ref vb, .int no, .int wi, .ref tp, .int 0, .int 0, .int 0, .int 0, .int va])) := hx_rd
  have hF : ∀ q, q ≠ rd → Mq4_ q = M q := fun q h0 => (hfr q h0).trans (hF q h0)
  exact ret_v hC hr hlk hK hH (⟨hc_rd, rfl, hF⟩) (Nat.le_of_ble_eq_true rfl) (Nat.le_of_ble_eq_true rfl) dX4_open_24
set_option maxHeartbeats 4000000 in
set_option maxRecDepth 100000 in
theorem c_X4_atEnd {l : Launch} {D : va_G} {kA : Nat → ClassId} {M : mM} {T : mT} {sz : Nat} {rd nb vb by_ : Nat} {no wi le pl be va : Int32} (hc_rd : M rd = some (.inr (3, [.ref nb, .ref vb, .int no, .int wi, .ref by_, .int le, .int 0, .int pl, .int be, .int va]))) : mCi l yX4_atEnd cX4_atEnd 1 (some .boolean) 0 0 0 D kA M T sz [.ref rd] (fun r u => (r = 1) ∧ u.2 = T ∧ u.1 = M) := by
  unfold mCi
  refine start_W (by decide) (Nat.le_of_ble_eq_true rfl) ?_
  intro p e s m below meth c ls hC hr hlk hnm hK hH hsz hl
  have hx := hC.1
  have hb := hC.2.1
  have hl : lv_has ls 1 [(0, .ref rd)] := hl
  refine lv_aload_n hx hb dX4_atEnd_0 rfl (lv_at hl 0 rfl) ?_
  refine xg hC hK hH flX4_44 hc_rd rfl dX4_atEnd_1 ?_
  refine jif_ne (tgt := 11) hx hb dX4_atEnd_4 (by decide) (fun cq1_ => absurd cq1_ (by decide)) (fun cq1_ => ?_)
  refine lv_iconst (v := 1) hx hb dX4_atEnd_7 (by decide) ?_
  refine lv_goto (tgt := 12) hx hb dX4_atEnd_8 (by decide) ?_
  exact ret_z hC hr hlk hK hH (by first | exact Or.inl rfl | exact Or.inr rfl | assumption) (⟨rfl, rfl, rfl⟩) (Nat.le_of_ble_eq_true rfl) (Nat.le_of_ble_eq_true rfl) dX4_atEnd_12
set_option maxHeartbeats 4000000 in
set_option maxRecDepth 100000 in
theorem c_X4_faultPlace {l : Launch} {D : va_G} {kA : Nat → ClassId} {M : mM} {T : mT} {sz : Nat} {rd nb vb by_ : Nat} {no wi pl be va : Int32} (hc_rd : M rd = some (.inr (3, [.ref nb, .ref vb, .int no, .int wi, .ref by_, .int 0, .int 0, .int pl, .int be, .int va]))) : mCi l yX4_faultPlace cX4_faultPlace 2 (some .int) 0 0 0 D kA M T sz [.ref rd] (fun r u => (r = -1) ∧ u.2 = T ∧ u.1 = M) := by
  unfold mCi
  refine start_W (by decide) (Nat.le_of_ble_eq_true rfl) ?_
  intro p e s m below meth c ls hC hr hlk hnm hK hH hsz hl
  have hx := hC.1
  have hb := hC.2.1
  have hl : lv_has ls 2 [(0, .ref rd)] := hl
  refine lv_iconst (v := 0) hx hb dX4_faultPlace_0 (by decide) ?_
  refine lv_istore_n (lv' := [(1, .int 0), (0, .ref rd)]) hx hb dX4_faultPlace_1 rfl hl (by decide) rfl (fun ls hl => ?_)
  refine lv_iload_n hx hb dX4_faultPlace_2 rfl (lv_at hl 0 rfl) ?_
  refine lv_aload_n hx hb dX4_faultPlace_3 rfl (lv_at hl 1 rfl) ?_
  refine xg hC hK hH flX4_34 hc_rd rfl dX4_faultPlace_4 ?_
  refine jic_gt (tgt := 35) hx hb dX4_faultPlace_7 (by decide) (fun cq1_ => absurd cq1_ (by decide)) (fun cq1_ => ?_)
  refine lv_aload_n hx hb dX4_faultPlace_10 rfl (lv_at hl 1 rfl) ?_
  refine xg hC hK hH flX4_44 hc_rd rfl dX4_faultPlace_11 ?_
  refine jif_eq (tgt := 35) hx hb dX4_faultPlace_14 (by decide) (fun cq2_ => ?_) (fun cq2_ => absurd cq2_ (by decide))
  refine lv_iconst (v := -1) hx hb dX4_faultPlace_35 (by decide) ?_
  exact ret_i hC hr hlk hK hH (⟨rfl, rfl, rfl⟩) (Nat.le_of_ble_eq_true rfl) (Nat.le_of_ble_eq_true rfl) dX4_faultPlace_36
set_option maxHeartbeats 4000000 in
set_option maxRecDepth 100000 in
theorem c_X9_text {l : Launch} {D : va_G} {kA : Nat → ClassId} {M : mM} {T : mT} {sz : Nat} {ro im rc cu : Nat}{w cs bs tp : Nat}{rd nb vb by_ : Nat} {no wi le ki pl be va : Int32} {an : Int32} {f : Nat → Int32} (hc_ro : M ro = some (.inr (7, [.ref w, .ref im, .ref rd, .ref rc, .ref cu]))) (hc_w : M w = some (.inr (6, [.int 0, .int 2, .int 0, .int 0, .int 0, .int 0, .int 0, .int (-1), .ref cs, .ref bs, .ref tp]))) (hc_cs : M cs = some (.inl (kA 0, 8, .inl (c100 f)))) (hc_rd : M rd = some (.inr (3, [.ref nb, .ref vb, .int no, .int wi, .ref by_, .int le, .int ki, .int pl, .int be, .int va]))) (ht_tp : T tp = some 7) : mCi l yX9_text cX9_text 4 (some .int) 2 0 0 D kA M T sz [.ref ro, .int an] (fun r u => (r = 0) ∧ u.2 = T ∧ (∀ q, q ≠ w → q ≠ cs → q ≠ rd → u.1 q = M q)) := by
  unfold mCi
  refine start_W (by decide) (Nat.le_of_ble_eq_true rfl) ?_
  intro p e s m below meth c ls hC hr hlk hnm hK hH hsz hl
  have hx := hC.1
  have hb := hC.2.1
  have hl : lv_has ls 4 [(0, .ref ro), (1, .int an)] := hl
  have hF : ∀ q, q ≠ w → q ≠ cs → q ≠ rd → M q = M q := fun q _ _ _ => rfl
  have n_ro_w : ro ≠ w := neM hc_ro hc_w (by simp)
  have n_ro_cs : ro ≠ cs := neM hc_ro hc_cs (by simp)
  have n_ro_rd : ro ≠ rd := neM hc_ro hc_rd (by simp)
  have n_w_ro : w ≠ ro := neM hc_w hc_ro (by simp)
  have n_w_cs : w ≠ cs := neM hc_w hc_cs (by simp)
  have n_w_rd : w ≠ rd := neM hc_w hc_rd (by simp)
  have n_cs_ro : cs ≠ ro := neM hc_cs hc_ro (by simp)
  have n_cs_w : cs ≠ w := neM hc_cs hc_w (by simp)
  have n_cs_rd : cs ≠ rd := neM hc_cs hc_rd (by simp)
  have n_rd_ro : rd ≠ ro := neM hc_rd hc_ro (by simp)
  have n_rd_w : rd ≠ w := neM hc_rd hc_w (by simp)
  have n_rd_cs : rd ≠ cs := neM hc_rd hc_cs (by simp)
  refine lv_aload_n hx hb dX9_text_0 rfl (lv_at hl 0 rfl) ?_
  refine xg hC hK hH flX9_12 hc_ro rfl dX9_text_1 ?_
  refine xg hC hK hH flX9_45 hc_w rfl dX9_text_4 ?_
  refine lv_istore_n (lv' := [(2, .int 0), (0, .ref ro), (1, .int an)]) hx hb dX9_text_7 rfl hl (by decide) rfl (fun ls hl => ?_)
  refine lv_aload_n hx hb dX9_text_8 rfl (lv_at hl 1 rfl) ?_
  refine xg hC hK hH flX9_12 hc_ro rfl dX9_text_9 ?_
  refine lv_iconst (v := 0) hx hb dX9_text_12 (by decide) ?_
  refine yp (v := .int 0) hC hK hH flX9_45 hc_w rfl rfl (Nat.le_of_ble_eq_true rfl) dX9_text_13 (fun Hq_ lcq_ Mq1_ hc_w hfr hH => ?_)
  have hc_w : Mq1_ w = some (.inr (6, [.int 0, .int 2, .int 0, .int 0, .int 0, .int 0, .int 0, .int (-1), .ref cs, .ref bs, .ref tp])) := hc_w
  have hc_ro : Mq1_ ro = some (.inr (7, [.ref w, .ref im, .ref rd, .ref rc, .ref cu])) := (hfr ro n_ro_w).trans hc_ro
  have hc_cs : Mq1_ cs = some (.inl (kA 0, 8, .inl (c100 f))) := (hfr cs n_cs_w).trans hc_cs
  have hc_rd : Mq1_ rd = some (.inr (3, [.ref nb, .ref vb, .int no, .int wi, .ref by_, .int le, .int ki, .int pl, .int be, .int va])) := (hfr rd n_rd_w).trans hc_rd
  have hF : ∀ q, q ≠ w → q ≠ cs → q ≠ rd → Mq1_ q = M q := fun q h0 h1 h2 => (hfr q h0).trans (hF q h0 h1 h2)
  refine lv_iload_n hx hb dX9_text_16 rfl (lv_at hl 2 rfl) ?_
  refine jif_eq (tgt := 27) hx hb dX9_text_17 (by decide) (fun cq2_ => ?_) (fun cq2_ => ?_)
  · skip
    have cq2_ : an.toInt = 0 := cq2_
    refine lv_aload_n hx hb dX9_text_27 rfl (lv_at hl 1 rfl) ?_
    refine xg hC hK hH flX9_23 hc_ro rfl dX9_text_28 ?_
    refine lv_aload_n hx hb dX9_text_31 rfl (lv_at hl 1 rfl) ?_
    refine xg hC hK hH flX9_12 hc_ro rfl dX9_text_32 ?_
    refine xg hC hK hH flX9_52 hc_w rfl dX9_text_35 ?_
    refine lv_iload_n hx hb dX9_text_38 rfl (lv_at hl 0 rfl) ?_
    refine goV hK hH (runV (As := [.ref tp, .int 0]) (rest := []) hC hK hH (c_X4_open hc_rd ht_tp) mlX9_56 (rcvM hK hH hc_rd rfl) ⟨⟨Nat.le_of_ble_eq_true rfl, Nat.le_of_ble_eq_true rfl⟩, Nat.le_of_ble_eq_true rfl, Nat.le_of_ble_eq_true rfl⟩ rfl hl.1 rfl (Nat.le_of_ble_eq_true rfl) dX9_text_39) (fun Mq3_ Tq4_ Hq_ lcq_ hP hz hH => ?_)
    try dsimp only at hP
    obtain ⟨(hx_rd), eT, hfr⟩ := hP
    have eT := eT.symm; subst eT
    have hc_ro : Mq3_ ro = some (.inr (7, [.ref w, .ref im, .ref rd, .ref rc, .ref cu])) := (hfr ro n_ro_rd).trans hc_ro
    have hc_w : Mq3_ w = some (.inr (6, [.int 0, .int 2, .int 0, .int 0, .int 0, .int 0, .int 0, .int (-1), .ref cs, .ref bs, .ref tp])) := (hfr w n_w_rd).trans hc_w
    have hc_cs : Mq3_ cs = some (.inl (kA 0, 8, .inl (c100 f))) := (hfr cs n_cs_rd).trans hc_cs
    have hc_rd : Mq3_ rd = some (.inr (3, [.ref nb, .ref vb, .int no, .int wi, .ref tp, .int 0, .int 0, .int 0, .int 0, .int va])) := hx_rd
    have hF : ∀ q, q ≠ w → q ≠ cs → q ≠ rd → Mq3_ q = M q := fun q h0 h1 h2 => (hfr q h2).trans (hF q h0 h1 h2)
    refine lv_aload_n hx hb dX9_text_42 rfl (lv_at hl 1 rfl) ?_
    refine xg hC hK hH flX9_12 hc_ro rfl dX9_text_43 ?_
    refine lv_aload_n hx hb dX9_text_46 rfl (lv_at hl 1 rfl) ?_
    refine xg hC hK hH flX9_23 hc_ro rfl dX9_text_47 ?_
    refine goI hK hH (runV (As := []) (rest := [.ref w]) hC hK hH (c_X4_faultPlace hc_rd) mlX9_60 (rcvM hK hH hc_rd rfl) ⟨⟨Nat.le_of_ble_eq_true rfl, Nat.le_of_ble_eq_true rfl⟩, Nat.le_of_ble_eq_true rfl, Nat.le_of_ble_eq_true rfl⟩ rfl hl.1 rfl (Nat.le_of_ble_eq_true rfl) dX9_text_50) (fun rq8_ Mq6_ Tq7_ Hq_ lcq_ hP hz hH => ?_)
    try dsimp only at hP
    obtain ⟨(rfl), eT, eM⟩ := hP
    have eT := eT.symm; subst eT
    have eM := eM.symm; subst eM
    refine yp (v := .int (-1)) hC hK hH flX9_64 hc_w rfl rfl (Nat.le_of_ble_eq_true rfl) dX9_text_53 (fun Hq_ lcq_ Mq9_ hc_w hfr hH => ?_)
    have hc_w : Mq9_ w = some (.inr (6, [.int 0, .int 2, .int 0, .int 0, .int 0, .int 0, .int 0, .int (-1), .ref cs, .ref bs, .ref tp])) := hc_w
    have hc_ro : Mq9_ ro = some (.inr (7, [.ref w, .ref im, .ref rd, .ref rc, .ref cu])) := (hfr ro n_ro_w).trans hc_ro
    have hc_cs : Mq9_ cs = some (.inl (kA 0, 8, .inl (c100 f))) := (hfr cs n_cs_w).trans hc_cs
    have hc_rd : Mq9_ rd = some (.inr (3, [.ref nb, .ref vb, .int no, .int wi, .ref tp, .int 0, .int 0, .int 0, .int 0, .int va])) := (hfr rd n_rd_w).trans hc_rd
    have hF : ∀ q, q ≠ w → q ≠ cs → q ≠ rd → Mq9_ q = M q := fun q h0 h1 h2 => (hfr q h0).trans (hF q h0 h1 h2)
    refine lv_aload_n hx hb dX9_text_56 rfl (lv_at hl 1 rfl) ?_
    refine xg hC hK hH flX9_12 hc_ro rfl dX9_text_57 ?_
    refine xg hC hK hH flX9_64 hc_w rfl dX9_text_60 ?_
    refine lv_iconst (v := -1) hx hb dX9_text_63 (by decide) ?_
    refine jic_eq (tgt := 69) hx hb dX9_text_64 (by decide) (fun cq10_ => ?_) (fun cq10_ => absurd cq10_ (by decide))
    refine lv_aload_n hx hb dX9_text_69 rfl (lv_at hl 1 rfl) ?_
    refine xg hC hK hH flX9_23 hc_ro rfl dX9_text_70 ?_
    refine lv_aload_n hx hb dX9_text_73 rfl (lv_at hl 1 rfl) ?_
    refine xg hC hK hH flX9_12 hc_ro rfl dX9_text_74 ?_
    refine xg hC hK hH flX9_52 hc_w rfl dX9_text_77 ?_
    refine lv_iload_n hx hb dX9_text_80 rfl (lv_at hl 0 rfl) ?_
    refine goV hK hH (runV (As := [.ref tp, .int 0]) (rest := []) hC hK hH (c_X4_open hc_rd ht_tp) mlX9_56 (rcvM hK hH hc_rd rfl) ⟨⟨Nat.le_of_ble_eq_true rfl, Nat.le_of_ble_eq_true rfl⟩, Nat.le_of_ble_eq_true rfl, Nat.le_of_ble_eq_true rfl⟩ rfl hl.1 rfl (Nat.le_of_ble_eq_true rfl) dX9_text_81) (fun Mq11_ Tq12_ Hq_ lcq_ hP hz hH => ?_)
    try dsimp only at hP
    obtain ⟨(hx_rd), eT, hfr⟩ := hP
    have eT := eT.symm; subst eT
    have hc_ro : Mq11_ ro = some (.inr (7, [.ref w, .ref im, .ref rd, .ref rc, .ref cu])) := (hfr ro n_ro_rd).trans hc_ro
    have hc_w : Mq11_ w = some (.inr (6, [.int 0, .int 2, .int 0, .int 0, .int 0, .int 0, .int 0, .int (-1), .ref cs, .ref bs, .ref tp])) := (hfr w n_w_rd).trans hc_w
    have hc_cs : Mq11_ cs = some (.inl (kA 0, 8, .inl (c100 f))) := (hfr cs n_cs_rd).trans hc_cs
    have hc_rd : Mq11_ rd = some (.inr (3, [.ref nb, .ref vb, .int no, .int wi, .ref tp, .int 0, .int 0, .int 0, .int 0, .int va])) := hx_rd
    have hF : ∀ q, q ≠ w → q ≠ cs → q ≠ rd → Mq11_ q = M q := fun q h0 h1 h2 => (hfr q h2).trans (hF q h0 h1 h2)
    refine lv_iconst (v := 0) hx hb dX9_text_84 (by decide) ?_
    refine lv_istore_n (lv' := [(3, .int 0), (2, .int 0), (0, .ref ro), (1, .int an)]) hx hb dX9_text_85 rfl hl (by decide) rfl (fun ls hl => ?_)
    refine lv_iload_n hx hb dX9_text_86 rfl (lv_at hl 0 rfl) ?_
    refine lv_sipush (v := 600) hx hb dX9_text_87 (by decide) ?_
    refine jic_ge (tgt := 133) hx hb dX9_text_90 (by decide) (fun cq14_ => absurd cq14_ (by decide)) (fun cq14_ => ?_)
    refine lv_aload_n hx hb dX9_text_93 rfl (lv_at hl 2 rfl) ?_
    refine xg hC hK hH flX9_23 hc_ro rfl dX9_text_94 ?_
    refine goI hK hH (runV (As := []) (rest := []) hC hK hH (c_X4_atEnd hc_rd) mlX9_66 (rcvM hK hH hc_rd rfl) ⟨⟨Nat.le_of_ble_eq_true rfl, Nat.le_of_ble_eq_true rfl⟩, Nat.le_of_ble_eq_true rfl, Nat.le_of_ble_eq_true rfl⟩ rfl hl.1 rfl (Nat.le_of_ble_eq_true rfl) dX9_text_97) (fun rq17_ Mq15_ Tq16_ Hq_ lcq_ hP hz hH => ?_)
    try dsimp only at hP
    obtain ⟨(rfl), eT, eM⟩ := hP
    have eT := eT.symm; subst eT
    have eM := eM.symm; subst eM
    refine jif_ne (tgt := 133) hx hb dX9_text_100 (by decide) (fun cq18_ => ?_) (fun cq18_ => absurd cq18_ (by decide))
    refine lv_iload_n hx hb dX9_text_133 rfl (lv_at hl 0 rfl) ?_
    exact ret_i hC hr hlk hK hH (⟨rfl, rfl, hF⟩) (Nat.le_of_ble_eq_true rfl) (Nat.le_of_ble_eq_true rfl) dX9_text_134
  · skip
    have cq2_ : an.toInt ≠ 0 := cq2_
    refine lv_aload_n hx hb dX9_text_20 rfl (lv_at hl 1 rfl) ?_
    refine xg hC hK hH flX9_12 hc_ro rfl dX9_text_21 ?_
    refine goV hK hH (runV (As := []) (rest := []) hC hK hH (c_X8_begin hc_w hc_cs) mlX9_49 (rcvM hK hH hc_w rfl) ⟨⟨Nat.le_of_ble_eq_true rfl, Nat.le_of_ble_eq_true rfl⟩, Nat.le_of_ble_eq_true rfl, Nat.le_of_ble_eq_true rfl⟩ rfl hl.1 rfl (Nat.le_of_ble_eq_true rfl) dX9_text_24) (fun Mq19_ Tq20_ Hq_ lcq_ hP hz hH => ?_)
    try dsimp only at hP
    obtain ⟨(⟨hx_w, hx_cs⟩), eT, hfr⟩ := hP
    have eT := eT.symm; subst eT
    have hc_ro : Mq19_ ro = some (.inr (7, [.ref w, .ref im, .ref rd, .ref rc, .ref cu])) := (hfr ro n_ro_w n_ro_cs).trans hc_ro
    have hc_w : Mq19_ w = some (.inr (6, [.int 0, .int 2, .int 0, .int 0, .int 0, .int 0, .int 0, .int (-1), .ref cs, .ref bs, .ref tp])) := hx_w
    have hc_cs : Mq19_ cs = some (.inl (kA 0, 8, .inl (c100 (c100 f)))) := hx_cs
    have hc_rd : Mq19_ rd = some (.inr (3, [.ref nb, .ref vb, .int no, .int wi, .ref by_, .int le, .int ki, .int pl, .int be, .int va])) := (hfr rd n_rd_w n_rd_cs).trans hc_rd
    have hF : ∀ q, q ≠ w → q ≠ cs → q ≠ rd → Mq19_ q = M q := fun q h0 h1 h2 => (hfr q h0 h1).trans (hF q h0 h1 h2)
    refine lv_aload_n hx hb dX9_text_27 rfl (lv_at hl 1 rfl) ?_
    refine xg hC hK hH flX9_23 hc_ro rfl dX9_text_28 ?_
    refine lv_aload_n hx hb dX9_text_31 rfl (lv_at hl 1 rfl) ?_
    refine xg hC hK hH flX9_12 hc_ro rfl dX9_text_32 ?_
    refine xg hC hK hH flX9_52 hc_w rfl dX9_text_35 ?_
    refine lv_iload_n hx hb dX9_text_38 rfl (lv_at hl 0 rfl) ?_
    refine goV hK hH (runV (As := [.ref tp, .int 0]) (rest := []) hC hK hH (c_X4_open hc_rd ht_tp) mlX9_56 (rcvM hK hH hc_rd rfl) ⟨⟨Nat.le_of_ble_eq_true rfl, Nat.le_of_ble_eq_true rfl⟩, Nat.le_of_ble_eq_true rfl, Nat.le_of_ble_eq_true rfl⟩ rfl hl.1 rfl (Nat.le_of_ble_eq_true rfl) dX9_text_39) (fun Mq22_ Tq23_ Hq_ lcq_ hP hz hH => ?_)
    try dsimp only at hP
    obtain ⟨(hx_rd), eT, hfr⟩ := hP
    have eT := eT.symm; subst eT
    have hc_ro : Mq22_ ro = some (.inr (7, [.ref w, .ref im, .ref rd, .ref rc, .ref cu])) := (hfr ro n_ro_rd).trans hc_ro
    have hc_w : Mq22_ w = some (.inr (6, [.int 0, .int 2, .int 0, .int 0, .int 0, .int 0, .int 0, .int (-1), .ref cs, .ref bs, .ref tp])) := (hfr w n_w_rd).trans hc_w
    have hc_cs : Mq22_ cs = some (.inl (kA 0, 8, .inl (c100 (c100 f)))) := (hfr cs n_cs_rd).trans hc_cs
    have hc_rd : Mq22_ rd = some (.inr (3, [.ref nb, .ref vb, .int no, .int wi, .ref tp, .int 0, .int 0, .int 0, .int 0, .int va])) := hx_rd
    have hF : ∀ q, q ≠ w → q ≠ cs → q ≠ rd → Mq22_ q = M q := fun q h0 h1 h2 => (hfr q h2).trans (hF q h0 h1 h2)
    refine lv_aload_n hx hb dX9_text_42 rfl (lv_at hl 1 rfl) ?_
    refine xg hC hK hH flX9_12 hc_ro rfl dX9_text_43 ?_
    refine lv_aload_n hx hb dX9_text_46 rfl (lv_at hl 1 rfl) ?_
    refine xg hC hK hH flX9_23 hc_ro rfl dX9_text_47 ?_
    refine goI hK hH (runV (As := []) (rest := [.ref w]) hC hK hH (c_X4_faultPlace hc_rd) mlX9_60 (rcvM hK hH hc_rd rfl) ⟨⟨Nat.le_of_ble_eq_true rfl, Nat.le_of_ble_eq_true rfl⟩, Nat.le_of_ble_eq_true rfl, Nat.le_of_ble_eq_true rfl⟩ rfl hl.1 rfl (Nat.le_of_ble_eq_true rfl) dX9_text_50) (fun rq27_ Mq25_ Tq26_ Hq_ lcq_ hP hz hH => ?_)
    try dsimp only at hP
    obtain ⟨(rfl), eT, eM⟩ := hP
    have eT := eT.symm; subst eT
    have eM := eM.symm; subst eM
    refine yp (v := .int (-1)) hC hK hH flX9_64 hc_w rfl rfl (Nat.le_of_ble_eq_true rfl) dX9_text_53 (fun Hq_ lcq_ Mq28_ hc_w hfr hH => ?_)
    have hc_w : Mq28_ w = some (.inr (6, [.int 0, .int 2, .int 0, .int 0, .int 0, .int 0, .int 0, .int (-1), .ref cs, .ref bs, .ref tp])) := hc_w
    have hc_ro : Mq28_ ro = some (.inr (7, [.ref w, .ref im, .ref rd, .ref rc, .ref cu])) := (hfr ro n_ro_w).trans hc_ro
    have hc_cs : Mq28_ cs = some (.inl (kA 0, 8, .inl (c100 (c100 f)))) := (hfr cs n_cs_w).trans hc_cs
    have hc_rd : Mq28_ rd = some (.inr (3, [.ref nb, .ref vb, .int no, .int wi, .ref tp, .int 0, .int 0, .int 0, .int 0, .int va])) := (hfr rd n_rd_w).trans hc_rd
    have hF : ∀ q, q ≠ w → q ≠ cs → q ≠ rd → Mq28_ q = M q := fun q h0 h1 h2 => (hfr q h0).trans (hF q h0 h1 h2)
    refine lv_aload_n hx hb dX9_text_56 rfl (lv_at hl 1 rfl) ?_
    refine xg hC hK hH flX9_12 hc_ro rfl dX9_text_57 ?_
    refine xg hC hK hH flX9_64 hc_w rfl dX9_text_60 ?_
    refine lv_iconst (v := -1) hx hb dX9_text_63 (by decide) ?_
    refine jic_eq (tgt := 69) hx hb dX9_text_64 (by decide) (fun cq29_ => ?_) (fun cq29_ => absurd cq29_ (by decide))
    refine lv_aload_n hx hb dX9_text_69 rfl (lv_at hl 1 rfl) ?_
    refine xg hC hK hH flX9_23 hc_ro rfl dX9_text_70 ?_
    refine lv_aload_n hx hb dX9_text_73 rfl (lv_at hl 1 rfl) ?_
    refine xg hC hK hH flX9_12 hc_ro rfl dX9_text_74 ?_
    refine xg hC hK hH flX9_52 hc_w rfl dX9_text_77 ?_
    refine lv_iload_n hx hb dX9_text_80 rfl (lv_at hl 0 rfl) ?_
    refine goV hK hH (runV (As := [.ref tp, .int 0]) (rest := []) hC hK hH (c_X4_open hc_rd ht_tp) mlX9_56 (rcvM hK hH hc_rd rfl) ⟨⟨Nat.le_of_ble_eq_true rfl, Nat.le_of_ble_eq_true rfl⟩, Nat.le_of_ble_eq_true rfl, Nat.le_of_ble_eq_true rfl⟩ rfl hl.1 rfl (Nat.le_of_ble_eq_true rfl) dX9_text_81) (fun Mq30_ Tq31_ Hq_ lcq_ hP hz hH => ?_)
    try dsimp only at hP
    obtain ⟨(hx_rd), eT, hfr⟩ := hP
    have eT := eT.symm; subst eT
    have hc_ro : Mq30_ ro = some (.inr (7, [.ref w, .ref im, .ref rd, .ref rc, .ref cu])) := (hfr ro n_ro_rd).trans hc_ro
    have hc_w : Mq30_ w = some (.inr (6, [.int 0, .int 2, .int 0, .int 0, .int 0, .int 0, .int 0, .int (-1), .ref cs, .ref bs, .ref tp])) := (hfr w n_w_rd).trans hc_w
    have hc_cs : Mq30_ cs = some (.inl (kA 0, 8, .inl (c100 (c100 f)))) := (hfr cs n_cs_rd).trans hc_cs
    have hc_rd : Mq30_ rd = some (.inr (3, [.ref nb, .ref vb, .int no, .int wi, .ref tp, .int 0, .int 0, .int 0, .int 0, .int va])) := hx_rd
    have hF : ∀ q, q ≠ w → q ≠ cs → q ≠ rd → Mq30_ q = M q := fun q h0 h1 h2 => (hfr q h2).trans (hF q h0 h1 h2)
    refine lv_iconst (v := 0) hx hb dX9_text_84 (by decide) ?_
    refine lv_istore_n (lv' := [(3, .int 0), (2, .int 0), (0, .ref ro), (1, .int an)]) hx hb dX9_text_85 rfl hl (by decide) rfl (fun ls hl => ?_)
    refine lv_iload_n hx hb dX9_text_86 rfl (lv_at hl 0 rfl) ?_
    refine lv_sipush (v := 600) hx hb dX9_text_87 (by decide) ?_
    refine jic_ge (tgt := 133) hx hb dX9_text_90 (by decide) (fun cq33_ => absurd cq33_ (by decide)) (fun cq33_ => ?_)
    refine lv_aload_n hx hb dX9_text_93 rfl (lv_at hl 2 rfl) ?_
    refine xg hC hK hH flX9_23 hc_ro rfl dX9_text_94 ?_
    refine goI hK hH (runV (As := []) (rest := []) hC hK hH (c_X4_atEnd hc_rd) mlX9_66 (rcvM hK hH hc_rd rfl) ⟨⟨Nat.le_of_ble_eq_true rfl, Nat.le_of_ble_eq_true rfl⟩, Nat.le_of_ble_eq_true rfl, Nat.le_of_ble_eq_true rfl⟩ rfl hl.1 rfl (Nat.le_of_ble_eq_true rfl) dX9_text_97) (fun rq36_ Mq34_ Tq35_ Hq_ lcq_ hP hz hH => ?_)
    try dsimp only at hP
    obtain ⟨(rfl), eT, eM⟩ := hP
    have eT := eT.symm; subst eT
    have eM := eM.symm; subst eM
    refine jif_ne (tgt := 133) hx hb dX9_text_100 (by decide) (fun cq37_ => ?_) (fun cq37_ => absurd cq37_ (by decide))
    refine lv_iload_n hx hb dX9_text_133 rfl (lv_at hl 0 rfl) ?_
    exact ret_i hC hr hlk hK hH (⟨rfl, rfl, hF⟩) (Nat.le_of_ble_eq_true rfl) (Nat.le_of_ble_eq_true rfl) dX9_text_134
set_option maxHeartbeats 4000000 in
set_option maxRecDepth 100000 in
theorem c_J7_fill_53178 {l : Launch} {D : va_G} {kA : Nat → ClassId} {M : mM} {T : mT} {sz : Nat} {a : Nat} {x : Int32} (ht_a : T a = some 3) : mCv l yJ7_fill_53178 cJ7_fill_53178 4 0 0 0 D kA M T sz [.ref a, .int x] (fun u => (True) ∧ u.2 = T ∧ u.1 = M) := by
  unfold mCv
  refine start_W (by decide) (Nat.le_of_ble_eq_true rfl) ?_
  intro p e s m below meth c ls hC hr hlk hnm hK hH hsz hl
  have hx := hC.1
  have hb := hC.2.1
  have hl : lv_has ls 4 [(0, .ref a), (1, .int x)] := hl
  refine lv_iconst (v := 0) hx hb dJ7_fill_53178_0 (by decide) ?_
  refine lv_istore_n (lv' := [(2, .int 0), (0, .ref a), (1, .int x)]) hx hb dJ7_fill_53178_1 rfl hl (by decide) rfl (fun ls hl => ?_)
  refine lv_aload_n hx hb dJ7_fill_53178_2 rfl (lv_at hl 1 rfl) ?_
  refine tlen (v := 8) hC hK hH ht_a rfl rfl rfl dJ7_fill_53178_3 ?_
  refine lv_istore_n (lv' := [(3, .int 8), (2, .int 0), (0, .ref a), (1, .int x)]) hx hb dJ7_fill_53178_4 rfl hl (by decide) rfl (fun ls hl => ?_)
  refine lv_iload_n hx hb dJ7_fill_53178_5 rfl (lv_at hl 1 rfl) ?_
  refine lv_iload_n hx hb dJ7_fill_53178_6 rfl (lv_at hl 0 rfl) ?_
  refine jic_ge (tgt := 20) hx hb dJ7_fill_53178_7 (by decide) (fun cq1_ => absurd cq1_ (by decide)) (fun cq1_ => ?_)
  refine lv_aload_n hx hb dJ7_fill_53178_10 rfl (lv_at hl 2 rfl) ?_
  refine lv_iload_n hx hb dJ7_fill_53178_11 rfl (lv_at hl 1 rfl) ?_
  refine lv_iload_n hx hb dJ7_fill_53178_12 rfl (lv_at hl 3 rfl) ?_
  refine tist (x := x) hC hK hH ht_a rfl (iIn (by decide) (by decide)) (iRg _).1 (iRg _).2 dJ7_fill_53178_13 (fun Hq_ lcq_ hH => ?_)
  refine lv_iinc (v := 1) (lv' := [(2, .int 1), (3, .int 8), (0, .ref a), (1, .int x)]) hx hb dJ7_fill_53178_14 hl (k := 1) rfl (by decide) (by decide) rfl (fun ls hl => ?_)
  refine lv_goto (tgt := 5) hx hb dJ7_fill_53178_17 (by decide) ?_
  refine lv_iload_n hx hb dJ7_fill_53178_5 rfl (lv_at hl 0 rfl) ?_
  refine lv_iload_n hx hb dJ7_fill_53178_6 rfl (lv_at hl 1 rfl) ?_
  refine jic_ge (tgt := 20) hx hb dJ7_fill_53178_7 (by decide) (fun cq2_ => absurd cq2_ (by decide)) (fun cq2_ => ?_)
  refine lv_aload_n hx hb dJ7_fill_53178_10 rfl (lv_at hl 2 rfl) ?_
  refine lv_iload_n hx hb dJ7_fill_53178_11 rfl (lv_at hl 0 rfl) ?_
  refine lv_iload_n hx hb dJ7_fill_53178_12 rfl (lv_at hl 3 rfl) ?_
  refine tist (x := x) hC hK hH ht_a rfl (iIn (by decide) (by decide)) (iRg _).1 (iRg _).2 dJ7_fill_53178_13 (fun Hq_ lcq_ hH => ?_)
  refine lv_iinc (v := 2) (lv' := [(2, .int 2), (3, .int 8), (0, .ref a), (1, .int x)]) hx hb dJ7_fill_53178_14 hl (k := 0) rfl (by decide) (by decide) rfl (fun ls hl => ?_)
  refine lv_goto (tgt := 5) hx hb dJ7_fill_53178_17 (by decide) ?_
  refine lv_iload_n hx hb dJ7_fill_53178_5 rfl (lv_at hl 0 rfl) ?_
  refine lv_iload_n hx hb dJ7_fill_53178_6 rfl (lv_at hl 1 rfl) ?_
  refine jic_ge (tgt := 20) hx hb dJ7_fill_53178_7 (by decide) (fun cq3_ => absurd cq3_ (by decide)) (fun cq3_ => ?_)
  refine lv_aload_n hx hb dJ7_fill_53178_10 rfl (lv_at hl 2 rfl) ?_
  refine lv_iload_n hx hb dJ7_fill_53178_11 rfl (lv_at hl 0 rfl) ?_
  refine lv_iload_n hx hb dJ7_fill_53178_12 rfl (lv_at hl 3 rfl) ?_
  refine tist (x := x) hC hK hH ht_a rfl (iIn (by decide) (by decide)) (iRg _).1 (iRg _).2 dJ7_fill_53178_13 (fun Hq_ lcq_ hH => ?_)
  refine lv_iinc (v := 3) (lv' := [(2, .int 3), (3, .int 8), (0, .ref a), (1, .int x)]) hx hb dJ7_fill_53178_14 hl (k := 0) rfl (by decide) (by decide) rfl (fun ls hl => ?_)
  refine lv_goto (tgt := 5) hx hb dJ7_fill_53178_17 (by decide) ?_
  refine lv_iload_n hx hb dJ7_fill_53178_5 rfl (lv_at hl 0 rfl) ?_
  refine lv_iload_n hx hb dJ7_fill_53178_6 rfl (lv_at hl 1 rfl) ?_
  refine jic_ge (tgt := 20) hx hb dJ7_fill_53178_7 (by decide) (fun cq4_ => absurd cq4_ (by decide)) (fun cq4_ => ?_)
  refine lv_aload_n hx hb dJ7_fill_53178_10 rfl (lv_at hl 2 rfl) ?_
  refine lv_iload_n hx hb dJ7_fill_53178_11 rfl (lv_at hl 0 rfl) ?_
  refine lv_iload_n hx hb dJ7_fill_53178_12 rfl (lv_at hl 3 rfl) ?_
  refine tist (x := x) hC hK hH ht_a rfl (iIn (by decide) (by decide)) (iRg _).1 (iRg _).2 dJ7_fill_53178_13 (fun Hq_ lcq_ hH => ?_)
  refine lv_iinc (v := 4) (lv' := [(2, .int 4), (3, .int 8), (0, .ref a), (1, .int x)]) hx hb dJ7_fill_53178_14 hl (k := 0) rfl (by decide) (by decide) rfl (fun ls hl => ?_)
  refine lv_goto (tgt := 5) hx hb dJ7_fill_53178_17 (by decide) ?_
  refine lv_iload_n hx hb dJ7_fill_53178_5 rfl (lv_at hl 0 rfl) ?_
  refine lv_iload_n hx hb dJ7_fill_53178_6 rfl (lv_at hl 1 rfl) ?_
  refine jic_ge (tgt := 20) hx hb dJ7_fill_53178_7 (by decide) (fun cq5_ => absurd cq5_ (by decide)) (fun cq5_ => ?_)
  refine lv_aload_n hx hb dJ7_fill_53178_10 rfl (lv_at hl 2 rfl) ?_
  refine lv_iload_n hx hb dJ7_fill_53178_11 rfl (lv_at hl 0 rfl) ?_
  refine lv_iload_n hx hb dJ7_fill_53178_12 rfl (lv_at hl 3 rfl) ?_
  refine tist (x := x) hC hK hH ht_a rfl (iIn (by decide) (by decide)) (iRg _).1 (iRg _).2 dJ7_fill_53178_13 (fun Hq_ lcq_ hH => ?_)
  refine lv_iinc (v := 5) (lv' := [(2, .int 5), (3, .int 8), (0, .ref a), (1, .int x)]) hx hb dJ7_fill_53178_14 hl (k := 0) rfl (by decide) (by decide) rfl (fun ls hl => ?_)
  refine lv_goto (tgt := 5) hx hb dJ7_fill_53178_17 (by decide) ?_
  refine lv_iload_n hx hb dJ7_fill_53178_5 rfl (lv_at hl 0 rfl) ?_
  refine lv_iload_n hx hb dJ7_fill_53178_6 rfl (lv_at hl 1 rfl) ?_
  refine jic_ge (tgt := 20) hx hb dJ7_fill_53178_7 (by decide) (fun cq6_ => absurd cq6_ (by decide)) (fun cq6_ => ?_)
  refine lv_aload_n hx hb dJ7_fill_53178_10 rfl (lv_at hl 2 rfl) ?_
  refine lv_iload_n hx hb dJ7_fill_53178_11 rfl (lv_at hl 0 rfl) ?_
  refine lv_iload_n hx hb dJ7_fill_53178_12 rfl (lv_at hl 3 rfl) ?_
  refine tist (x := x) hC hK hH ht_a rfl (iIn (by decide) (by decide)) (iRg _).1 (iRg _).2 dJ7_fill_53178_13 (fun Hq_ lcq_ hH => ?_)
  refine lv_iinc (v := 6) (lv' := [(2, .int 6), (3, .int 8), (0, .ref a), (1, .int x)]) hx hb dJ7_fill_53178_14 hl (k := 0) rfl (by decide) (by decide) rfl (fun ls hl => ?_)
  refine lv_goto (tgt := 5) hx hb dJ7_fill_53178_17 (by decide) ?_
  refine lv_iload_n hx hb dJ7_fill_53178_5 rfl (lv_at hl 0 rfl) ?_
  refine lv_iload_n hx hb dJ7_fill_53178_6 rfl (lv_at hl 1 rfl) ?_
  refine jic_ge (tgt := 20) hx hb dJ7_fill_53178_7 (by decide) (fun cq7_ => absurd cq7_ (by decide)) (fun cq7_ => ?_)
  refine lv_aload_n hx hb dJ7_fill_53178_10 rfl (lv_at hl 2 rfl) ?_
  refine lv_iload_n hx hb dJ7_fill_53178_11 rfl (lv_at hl 0 rfl) ?_
  refine lv_iload_n hx hb dJ7_fill_53178_12 rfl (lv_at hl 3 rfl) ?_
  refine tist (x := x) hC hK hH ht_a rfl (iIn (by decide) (by decide)) (iRg _).1 (iRg _).2 dJ7_fill_53178_13 (fun Hq_ lcq_ hH => ?_)
  refine lv_iinc (v := 7) (lv' := [(2, .int 7), (3, .int 8), (0, .ref a), (1, .int x)]) hx hb dJ7_fill_53178_14 hl (k := 0) rfl (by decide) (by decide) rfl (fun ls hl => ?_)
  refine lv_goto (tgt := 5) hx hb dJ7_fill_53178_17 (by decide) ?_
  refine lv_iload_n hx hb dJ7_fill_53178_5 rfl (lv_at hl 0 rfl) ?_
  refine lv_iload_n hx hb dJ7_fill_53178_6 rfl (lv_at hl 1 rfl) ?_
  refine jic_ge (tgt := 20) hx hb dJ7_fill_53178_7 (by decide) (fun cq8_ => absurd cq8_ (by decide)) (fun cq8_ => ?_)
  refine lv_aload_n hx hb dJ7_fill_53178_10 rfl (lv_at hl 2 rfl) ?_
  refine lv_iload_n hx hb dJ7_fill_53178_11 rfl (lv_at hl 0 rfl) ?_
  refine lv_iload_n hx hb dJ7_fill_53178_12 rfl (lv_at hl 3 rfl) ?_
  refine tist (x := x) hC hK hH ht_a rfl (iIn (by decide) (by decide)) (iRg _).1 (iRg _).2 dJ7_fill_53178_13 (fun Hq_ lcq_ hH => ?_)
  refine lv_iinc (v := 8) (lv' := [(2, .int 8), (3, .int 8), (0, .ref a), (1, .int x)]) hx hb dJ7_fill_53178_14 hl (k := 0) rfl (by decide) (by decide) rfl (fun ls hl => ?_)
  refine lv_goto (tgt := 5) hx hb dJ7_fill_53178_17 (by decide) ?_
  refine lv_iload_n hx hb dJ7_fill_53178_5 rfl (lv_at hl 0 rfl) ?_
  refine lv_iload_n hx hb dJ7_fill_53178_6 rfl (lv_at hl 1 rfl) ?_
  refine jic_ge (tgt := 20) hx hb dJ7_fill_53178_7 (by decide) (fun cq9_ => ?_) (fun cq9_ => absurd cq9_ (by decide))
  exact ret_v hC hr hlk hK hH (⟨trivial, rfl, rfl⟩) (Nat.le_of_ble_eq_true rfl) (Nat.le_of_ble_eq_true rfl) dJ7_fill_53178_20
set_option maxHeartbeats 4000000 in
set_option maxRecDepth 100000 in
theorem c_X2_own {l : Launch} {D : va_G} {kA : Nat → ClassId} {M : mM} {T : mT} {sz : Nat} {h : Nat} {ps wi : Int32} (ht_h : T h = some 1) (hps : 0 ≤ ps.toInt ∧ ps.toInt ≤ 7) : mCv l yX2_own cX2_own 3 0 0 0 D kA M T sz [.ref h, .int ps, .int wi] (fun u => (True) ∧ u.2 = T ∧ u.1 = M) := by
  unfold mCv
  refine start_W (by decide) (Nat.le_of_ble_eq_true rfl) ?_
  intro p e s m below meth c ls hC hr hlk hnm hK hH hsz hl
  have hx := hC.1
  have hb := hC.2.1
  have hl : lv_has ls 3 [(0, .ref h), (1, .int ps), (2, .int wi)] := hl
  refine lv_aload_n hx hb dX2_own_0 rfl (lv_at hl 0 rfl) ?_
  refine lv_iload_n hx hb dX2_own_1 rfl (lv_at hl 1 rfl) ?_
  refine tpu hC hK hH flX2_65 ht_h rfl rfl (iRg _).1 (iRg _).2 rfl rfl dX2_own_2 (fun Hq_ lcq_ hH => ?_)
  refine lv_aload_n hx hb dX2_own_5 rfl (lv_at hl 0 rfl) ?_
  refine lv_iload_n hx hb dX2_own_6 rfl (lv_at hl 2 rfl) ?_
  refine tpu hC hK hH flX2_68 ht_h rfl rfl (iRg _).1 (iRg _).2 rfl rfl dX2_own_7 (fun Hq_ lcq_ hH => ?_)
  refine lv_aload_n hx hb dX2_own_10 rfl (lv_at hl 0 rfl) ?_
  refine tgr hC hK hH flX2_9 ht_h rfl rfl dX2_own_11 (fun qq1_ t_qq1_ => ?_)
  refine lv_iload_n hx hb dX2_own_14 rfl (lv_at hl 1 rfl) ?_
  refine tild hC hK hH t_qq1_ rfl (iIn (by omega) (by omega)) dX2_own_15 (fun xq2_ l_xq2_ g_xq2_ => ?_)
  refine jif_ne (tgt := 26) hx hb dX2_own_16 (by decide) (fun cq3_ => ?_) (fun cq3_ => ?_)
  · skip
    have cq3_ : xq2_.toInt ≠ 0 := cq3_
    exact ret_v hC hr hlk hK hH (⟨trivial, rfl, rfl⟩) (Nat.le_of_ble_eq_true rfl) (Nat.le_of_ble_eq_true rfl) dX2_own_26
  · skip
    have cq3_ : xq2_.toInt = 0 := cq3_
    refine lv_aload_n hx hb dX2_own_19 rfl (lv_at hl 0 rfl) ?_
    refine tgr hC hK hH flX2_9 ht_h rfl rfl dX2_own_20 (fun qq4_ t_qq4_ => ?_)
    refine lv_iload_n hx hb dX2_own_23 rfl (lv_at hl 1 rfl) ?_
    refine lv_iload_n hx hb dX2_own_24 rfl (lv_at hl 2 rfl) ?_
    refine tist (x := wi) hC hK hH t_qq4_ rfl (iIn (by omega) (by omega)) (iRg _).1 (iRg _).2 dX2_own_25 (fun Hq_ lcq_ hH => ?_)
    exact ret_v hC hr hlk hK hH (⟨trivial, rfl, rfl⟩) (Nat.le_of_ble_eq_true rfl) (Nat.le_of_ble_eq_true rfl) dX2_own_26
set_option maxHeartbeats 4000000 in
set_option maxRecDepth 100000 in
theorem c_X2_begin {l : Launch} {D : va_G} {kA : Nat → ClassId} {M : mM} {T : mT} {sz : Nat} {h : Nat} {pe op : Int32} (ht_h : T h = some 1) (hpe : 0 ≤ pe.toInt ∧ pe.toInt ≤ 7) : mCv l yX2_begin cX2_begin 3 1 0 0 D kA M T sz [.ref h, .int pe, .int op] (fun u => (True) ∧ u.2 = T ∧ u.1 = M) := by
  unfold mCv
  refine start_W (by decide) (Nat.le_of_ble_eq_true rfl) ?_
  intro p e s m below meth c ls hC hr hlk hnm hK hH hsz hl
  have hx := hC.1
  have hb := hC.2.1
  have hl : lv_has ls 3 [(0, .ref h), (1, .int pe), (2, .int op)] := hl
  refine lv_aload_n hx hb dX2_begin_0 rfl (lv_at hl 0 rfl) ?_
  refine lv_iload_n hx hb dX2_begin_1 rfl (lv_at hl 2 rfl) ?_
  refine jif_eq (tgt := 9) hx hb dX2_begin_2 (by decide) (fun cq1_ => ?_) (fun cq1_ => ?_)
  · skip
    have cq1_ : op.toInt = 0 := cq1_
    refine lv_iconst (v := 0) hx hb dX2_begin_9 (by decide) ?_
    refine tpu hC hK hH flX2_15 ht_h rfl rfl (iRg _).1 (iRg _).2 rfl rfl dX2_begin_10 (fun Hq_ lcq_ hH => ?_)
    refine lv_aload_n hx hb dX2_begin_13 rfl (lv_at hl 0 rfl) ?_
    refine lv_iload_n hx hb dX2_begin_14 rfl (lv_at hl 2 rfl) ?_
    refine jif_eq (tgt := 22) hx hb dX2_begin_15 (by decide) (fun cq2_ => ?_) (fun cq2_ => absurd cq2_ (by have := iRg op; have : (0 : Int32).toInt = 0 := rfl; omega))
    have cq2_ : op.toInt = 0 := cq2_
    refine lv_iload_n hx hb dX2_begin_22 rfl (lv_at hl 1 rfl) ?_
    refine tpu hC hK hH flX2_19 ht_h rfl rfl (iRg _).1 (iRg _).2 rfl rfl dX2_begin_23 (fun Hq_ lcq_ hH => ?_)
    refine lv_aload_n hx hb dX2_begin_26 rfl (lv_at hl 0 rfl) ?_
    refine lv_iconst (v := -1) hx hb dX2_begin_27 (by decide) ?_
    refine tpu hC hK hH flX2_22 ht_h rfl rfl (iRg _).1 (iRg _).2 rfl rfl dX2_begin_28 (fun Hq_ lcq_ hH => ?_)
    refine lv_aload_n hx hb dX2_begin_31 rfl (lv_at hl 0 rfl) ?_
    refine lv_iconst (v := 0) hx hb dX2_begin_32 (by decide) ?_
    refine tpu hC hK hH flX2_25 ht_h rfl rfl (iRg _).1 (iRg _).2 rfl rfl dX2_begin_33 (fun Hq_ lcq_ hH => ?_)
    refine lv_aload_n hx hb dX2_begin_36 rfl (lv_at hl 0 rfl) ?_
    refine lv_iconst (v := 0) hx hb dX2_begin_37 (by decide) ?_
    refine tpu hC hK hH flX2_28 ht_h rfl rfl (by decide) (by decide) rfl rfl dX2_begin_38 (fun Hq_ lcq_ hH => ?_)
    refine lv_aload_n hx hb dX2_begin_41 rfl (lv_at hl 0 rfl) ?_
    refine tgr hC hK hH flX2_9 ht_h rfl rfl dX2_begin_42 (fun qq3_ t_qq3_ => ?_)
    refine lv_iconst (v := 0) hx hb dX2_begin_45 (by decide) ?_
    refine goV hK hH (runS (As := [.ref qq3_, .int 0]) (rest := []) hC hK hH (c_J7_fill_53178 t_qq3_) mlX2_32 ⟨⟨Nat.le_of_ble_eq_true rfl, Nat.le_of_ble_eq_true rfl⟩, Nat.le_of_ble_eq_true rfl, Nat.le_of_ble_eq_true rfl⟩ rfl hl.1 rfl (Nat.le_of_ble_eq_true rfl) dX2_begin_46) (fun Mq4_ Tq5_ Hq_ lcq_ hP hz hH => ?_)
    try dsimp only at hP
    obtain ⟨(-), eT, eM⟩ := hP
    have eT := eT.symm; subst eT
    have eM := eM.symm; subst eM
    refine lv_aload_n hx hb dX2_begin_49 rfl (lv_at hl 0 rfl) ?_
    refine lv_iload_n hx hb dX2_begin_50 rfl (lv_at hl 1 rfl) ?_
    refine lv_iconst (v := 1) hx hb dX2_begin_51 (by decide) ?_
    refine goV hK hH (runV (As := [.int pe, .int 1]) (rest := []) hC hK hH (c_X2_own ht_h (by omega)) mlX2_38 (rcvT hK hH ht_h rfl rfl) ⟨⟨Nat.le_of_ble_eq_true rfl, Nat.le_of_ble_eq_true rfl⟩, Nat.le_of_ble_eq_true rfl, Nat.le_of_ble_eq_true rfl⟩ rfl hl.1 rfl (Nat.le_of_ble_eq_true rfl) dX2_begin_52) (fun Mq7_ Tq8_ Hq_ lcq_ hP hz hH => ?_)
    try dsimp only at hP
    obtain ⟨(-), eT, eM⟩ := hP
    have eT := eT.symm; subst eT
    have eM := eM.symm; subst eM
    exact ret_v hC hr hlk hK hH (⟨trivial, rfl, rfl⟩) (Nat.le_of_ble_eq_true rfl) (Nat.le_of_ble_eq_true rfl) dX2_begin_55
  · skip
    have cq1_ : op.toInt ≠ 0 := cq1_
    refine lv_iconst (v := 1) hx hb dX2_begin_5 (by decide) ?_
    refine lv_goto (tgt := 10) hx hb dX2_begin_6 (by decide) ?_
    refine tpu hC hK hH flX2_15 ht_h rfl rfl (iRg _).1 (iRg _).2 rfl rfl dX2_begin_10 (fun Hq_ lcq_ hH => ?_)
    refine lv_aload_n hx hb dX2_begin_13 rfl (lv_at hl 0 rfl) ?_
    refine lv_iload_n hx hb dX2_begin_14 rfl (lv_at hl 2 rfl) ?_
    refine jif_eq (tgt := 22) hx hb dX2_begin_15 (by decide) (fun cq10_ => ?_) (fun cq10_ => ?_)
    · skip
      have cq10_ : op.toInt = 0 := cq10_
      refine lv_iload_n hx hb dX2_begin_22 rfl (lv_at hl 1 rfl) ?_
      refine tpu hC hK hH flX2_19 ht_h rfl rfl (iRg _).1 (iRg _).2 rfl rfl dX2_begin_23 (fun Hq_ lcq_ hH => ?_)
      refine lv_aload_n hx hb dX2_begin_26 rfl (lv_at hl 0 rfl) ?_
      refine lv_iconst (v := -1) hx hb dX2_begin_27 (by decide) ?_
      refine tpu hC hK hH flX2_22 ht_h rfl rfl (iRg _).1 (iRg _).2 rfl rfl dX2_begin_28 (fun Hq_ lcq_ hH => ?_)
      refine lv_aload_n hx hb dX2_begin_31 rfl (lv_at hl 0 rfl) ?_
      refine lv_iconst (v := 0) hx hb dX2_begin_32 (by decide) ?_
      refine tpu hC hK hH flX2_25 ht_h rfl rfl (iRg _).1 (iRg _).2 rfl rfl dX2_begin_33 (fun Hq_ lcq_ hH => ?_)
      refine lv_aload_n hx hb dX2_begin_36 rfl (lv_at hl 0 rfl) ?_
      refine lv_iconst (v := 0) hx hb dX2_begin_37 (by decide) ?_
      refine tpu hC hK hH flX2_28 ht_h rfl rfl (by decide) (by decide) rfl rfl dX2_begin_38 (fun Hq_ lcq_ hH => ?_)
      refine lv_aload_n hx hb dX2_begin_41 rfl (lv_at hl 0 rfl) ?_
      refine tgr hC hK hH flX2_9 ht_h rfl rfl dX2_begin_42 (fun qq11_ t_qq11_ => ?_)
      refine lv_iconst (v := 0) hx hb dX2_begin_45 (by decide) ?_
      refine goV hK hH (runS (As := [.ref qq11_, .int 0]) (rest := []) hC hK hH (c_J7_fill_53178 t_qq11_) mlX2_32 ⟨⟨Nat.le_of_ble_eq_true rfl, Nat.le_of_ble_eq_true rfl⟩, Nat.le_of_ble_eq_true rfl, Nat.le_of_ble_eq_true rfl⟩ rfl hl.1 rfl (Nat.le_of_ble_eq_true rfl) dX2_begin_46) (fun Mq12_ Tq13_ Hq_ lcq_ hP hz hH => ?_)
      try dsimp only at hP
      obtain ⟨(-), eT, eM⟩ := hP
      have eT := eT.symm; subst eT
      have eM := eM.symm; subst eM
      refine lv_aload_n hx hb dX2_begin_49 rfl (lv_at hl 0 rfl) ?_
      refine lv_iload_n hx hb dX2_begin_50 rfl (lv_at hl 1 rfl) ?_
      refine lv_iconst (v := 1) hx hb dX2_begin_51 (by decide) ?_
      refine goV hK hH (runV (As := [.int pe, .int 1]) (rest := []) hC hK hH (c_X2_own ht_h (by omega)) mlX2_38 (rcvT hK hH ht_h rfl rfl) ⟨⟨Nat.le_of_ble_eq_true rfl, Nat.le_of_ble_eq_true rfl⟩, Nat.le_of_ble_eq_true rfl, Nat.le_of_ble_eq_true rfl⟩ rfl hl.1 rfl (Nat.le_of_ble_eq_true rfl) dX2_begin_52) (fun Mq15_ Tq16_ Hq_ lcq_ hP hz hH => ?_)
      try dsimp only at hP
      obtain ⟨(-), eT, eM⟩ := hP
      have eT := eT.symm; subst eT
      have eM := eM.symm; subst eM
      exact ret_v hC hr hlk hK hH (⟨trivial, rfl, rfl⟩) (Nat.le_of_ble_eq_true rfl) (Nat.le_of_ble_eq_true rfl) dX2_begin_55
    · skip
      have cq10_ : op.toInt ≠ 0 := cq10_
      refine lv_iconst (v := -1) hx hb dX2_begin_18 (by decide) ?_
      refine lv_goto (tgt := 23) hx hb dX2_begin_19 (by decide) ?_
      refine tpu hC hK hH flX2_19 ht_h rfl rfl (iRg _).1 (iRg _).2 rfl rfl dX2_begin_23 (fun Hq_ lcq_ hH => ?_)
      refine lv_aload_n hx hb dX2_begin_26 rfl (lv_at hl 0 rfl) ?_
      refine lv_iconst (v := -1) hx hb dX2_begin_27 (by decide) ?_
      refine tpu hC hK hH flX2_22 ht_h rfl rfl (iRg _).1 (iRg _).2 rfl rfl dX2_begin_28 (fun Hq_ lcq_ hH => ?_)
      refine lv_aload_n hx hb dX2_begin_31 rfl (lv_at hl 0 rfl) ?_
      refine lv_iconst (v := 0) hx hb dX2_begin_32 (by decide) ?_
      refine tpu hC hK hH flX2_25 ht_h rfl rfl (iRg _).1 (iRg _).2 rfl rfl dX2_begin_33 (fun Hq_ lcq_ hH => ?_)
      refine lv_aload_n hx hb dX2_begin_36 rfl (lv_at hl 0 rfl) ?_
      refine lv_iconst (v := 0) hx hb dX2_begin_37 (by decide) ?_
      refine tpu hC hK hH flX2_28 ht_h rfl rfl (by decide) (by decide) rfl rfl dX2_begin_38 (fun Hq_ lcq_ hH => ?_)
      refine lv_aload_n hx hb dX2_begin_41 rfl (lv_at hl 0 rfl) ?_
      refine tgr hC hK hH flX2_9 ht_h rfl rfl dX2_begin_42 (fun qq18_ t_qq18_ => ?_)
      refine lv_iconst (v := 0) hx hb dX2_begin_45 (by decide) ?_
      refine goV hK hH (runS (As := [.ref qq18_, .int 0]) (rest := []) hC hK hH (c_J7_fill_53178 t_qq18_) mlX2_32 ⟨⟨Nat.le_of_ble_eq_true rfl, Nat.le_of_ble_eq_true rfl⟩, Nat.le_of_ble_eq_true rfl, Nat.le_of_ble_eq_true rfl⟩ rfl hl.1 rfl (Nat.le_of_ble_eq_true rfl) dX2_begin_46) (fun Mq19_ Tq20_ Hq_ lcq_ hP hz hH => ?_)
      try dsimp only at hP
      obtain ⟨(-), eT, eM⟩ := hP
      have eT := eT.symm; subst eT
      have eM := eM.symm; subst eM
      refine lv_aload_n hx hb dX2_begin_49 rfl (lv_at hl 0 rfl) ?_
      refine lv_iload_n hx hb dX2_begin_50 rfl (lv_at hl 1 rfl) ?_
      refine lv_iconst (v := 1) hx hb dX2_begin_51 (by decide) ?_
      refine goV hK hH (runV (As := [.int pe, .int 1]) (rest := []) hC hK hH (c_X2_own ht_h (by omega)) mlX2_38 (rcvT hK hH ht_h rfl rfl) ⟨⟨Nat.le_of_ble_eq_true rfl, Nat.le_of_ble_eq_true rfl⟩, Nat.le_of_ble_eq_true rfl, Nat.le_of_ble_eq_true rfl⟩ rfl hl.1 rfl (Nat.le_of_ble_eq_true rfl) dX2_begin_52) (fun Mq22_ Tq23_ Hq_ lcq_ hP hz hH => ?_)
      try dsimp only at hP
      obtain ⟨(-), eT, eM⟩ := hP
      have eT := eT.symm; subst eT
      have eM := eM.symm; subst eM
      exact ret_v hC hr hlk hK hH (⟨trivial, rfl, rfl⟩) (Nat.le_of_ble_eq_true rfl) (Nat.le_of_ble_eq_true rfl) dX2_begin_55
set_option maxHeartbeats 4000000 in
set_option maxRecDepth 100000 in
theorem c_X2_copy {l : Launch} {D : va_G} {kA : Nat → ClassId} {M : mM} {T : mT} {sz : Nat} {h o : Nat} (ht_h : T h = some 1) (ht_o : T o = some 1) : mCv l yX2_copy cX2_copy 2 1 0 0 D kA M T sz [.ref h, .ref o] (fun u => (True) ∧ u.2 = T ∧ u.1 = M) := by
  unfold mCv
  refine start_W (by decide) (Nat.le_of_ble_eq_true rfl) ?_
  intro p e s m below meth c ls hC hr hlk hnm hK hH hsz hl
  have hx := hC.1
  have hb := hC.2.1
  have hl : lv_has ls 2 [(0, .ref h), (1, .ref o)] := hl
  refine lv_aload_n hx hb dX2_copy_0 rfl (lv_at hl 0 rfl) ?_
  refine lv_aload_n hx hb dX2_copy_1 rfl (lv_at hl 1 rfl) ?_
  refine tg hC hK hH flX2_15 ht_o rfl rfl dX2_copy_2 (fun xq1_ l_xq1_ g_xq1_ => ?_)
  refine tpu hC hK hH flX2_15 ht_h rfl rfl (iRg _).1 (iRg _).2 rfl rfl dX2_copy_5 (fun Hq_ lcq_ hH => ?_)
  refine lv_aload_n hx hb dX2_copy_8 rfl (lv_at hl 0 rfl) ?_
  refine lv_aload_n hx hb dX2_copy_9 rfl (lv_at hl 1 rfl) ?_
  refine tg hC hK hH flX2_19 ht_o rfl rfl dX2_copy_10 (fun xq2_ l_xq2_ g_xq2_ => ?_)
  refine tpu hC hK hH flX2_19 ht_h rfl rfl (iRg _).1 (iRg _).2 rfl rfl dX2_copy_13 (fun Hq_ lcq_ hH => ?_)
  refine lv_aload_n hx hb dX2_copy_16 rfl (lv_at hl 0 rfl) ?_
  refine lv_aload_n hx hb dX2_copy_17 rfl (lv_at hl 1 rfl) ?_
  refine tg hC hK hH flX2_65 ht_o rfl rfl dX2_copy_18 (fun xq3_ l_xq3_ g_xq3_ => ?_)
  refine tpu hC hK hH flX2_65 ht_h rfl rfl (iRg _).1 (iRg _).2 rfl rfl dX2_copy_21 (fun Hq_ lcq_ hH => ?_)
  refine lv_aload_n hx hb dX2_copy_24 rfl (lv_at hl 0 rfl) ?_
  refine lv_aload_n hx hb dX2_copy_25 rfl (lv_at hl 1 rfl) ?_
  refine tg hC hK hH flX2_68 ht_o rfl rfl dX2_copy_26 (fun xq4_ l_xq4_ g_xq4_ => ?_)
  refine tpu hC hK hH flX2_68 ht_h rfl rfl (iRg _).1 (iRg _).2 rfl rfl dX2_copy_29 (fun Hq_ lcq_ hH => ?_)
  refine lv_aload_n hx hb dX2_copy_32 rfl (lv_at hl 0 rfl) ?_
  refine lv_aload_n hx hb dX2_copy_33 rfl (lv_at hl 1 rfl) ?_
  refine tg hC hK hH flX2_22 ht_o rfl rfl dX2_copy_34 (fun xq5_ l_xq5_ g_xq5_ => ?_)
  refine tpu hC hK hH flX2_22 ht_h rfl rfl (iRg _).1 (iRg _).2 rfl rfl dX2_copy_37 (fun Hq_ lcq_ hH => ?_)
  refine lv_aload_n hx hb dX2_copy_40 rfl (lv_at hl 0 rfl) ?_
  refine lv_aload_n hx hb dX2_copy_41 rfl (lv_at hl 1 rfl) ?_
  refine tg hC hK hH flX2_25 ht_o rfl rfl dX2_copy_42 (fun xq6_ l_xq6_ g_xq6_ => ?_)
  refine tpu hC hK hH flX2_25 ht_h rfl rfl (iRg _).1 (iRg _).2 rfl rfl dX2_copy_45 (fun Hq_ lcq_ hH => ?_)
  refine lv_aload_n hx hb dX2_copy_48 rfl (lv_at hl 0 rfl) ?_
  refine lv_aload_n hx hb dX2_copy_49 rfl (lv_at hl 1 rfl) ?_
  refine tg hC hK hH flX2_28 ht_o rfl rfl dX2_copy_50 (fun xq7_ l_xq7_ g_xq7_ => ?_)
  have l_xq7_ : (0 : Int) ≤ xq7_.toInt := l_xq7_
  have g_xq7_ : xq7_.toInt ≤ 1 := g_xq7_
  refine tpu hC hK hH flX2_28 ht_h rfl rfl (zl (z01 l_xq7_ g_xq7_)) (zh (z01 l_xq7_ g_xq7_)) (nz (z01 l_xq7_ g_xq7_)) (fz (z01 l_xq7_ g_xq7_)) dX2_copy_53 (fun Hq_ lcq_ hH => ?_)
  refine lv_aload_n hx hb dX2_copy_56 rfl (lv_at hl 1 rfl) ?_
  refine tgr hC hK hH flX2_9 ht_o rfl rfl dX2_copy_57 (fun qq8_ t_qq8_ => ?_)
  refine lv_iconst (v := 0) hx hb dX2_copy_60 (by decide) ?_
  refine lv_aload_n hx hb dX2_copy_61 rfl (lv_at hl 0 rfl) ?_
  refine tgr hC hK hH flX2_9 ht_h rfl rfl dX2_copy_62 (fun qq9_ t_qq9_ => ?_)
  refine lv_iconst (v := 0) hx hb dX2_copy_65 (by decide) ?_
  refine lv_bipush (v := 8) hx hb dX2_copy_66 (by decide) ?_
  refine tcpy hC hK hH hl.1 cpX2_71 t_qq8_ t_qq9_ rfl rfl rfl (fun _ _ _ => rfl) (by decide) (by decide) (by decide) (Nat.le_of_ble_eq_true rfl) (Nat.le_of_ble_eq_true rfl) (Nat.le_of_ble_eq_true rfl) (Nat.le_of_ble_eq_true rfl) dX2_copy_68 (fun Hq_ lcq_ hH => ?_)
  exact ret_v hC hr hlk hK hH (⟨trivial, rfl, rfl⟩) (Nat.le_of_ble_eq_true rfl) (Nat.le_of_ble_eq_true rfl) dX2_copy_71
set_option maxHeartbeats 4000000 in
set_option maxRecDepth 100000 in
theorem c_X1_begin {l : Launch} {D : va_G} {kA : Nat → ClassId} {M : mM} {T : mT} {sz : Nat} {h : Nat} {by_ on to op : Int32} (ht_h : T h = some 2) (hto : 0 ≤ to.toInt ∧ to.toInt ≤ 7) (hop : op = 0 ∨ op = 1) : mCv l yX1_begin cX1_begin 6 2 0 0 D kA M T sz [.ref h, .int by_, .int on, .int to, .int op] (fun u => (True) ∧ u.2 = T ∧ u.1 = M) := by
  unfold mCv
  refine start_W (by decide) (Nat.le_of_ble_eq_true rfl) ?_
  intro p e s m below meth c ls hC hr hlk hnm hK hH hsz hl
  have hx := hC.1
  have hb := hC.2.1
  have hl : lv_has ls 6 [(0, .ref h), (1, .int by_), (2, .int on), (3, .int to), (4, .int op)] := hl
  refine lv_aload_n hx hb dX1_begin_0 rfl (lv_at hl 0 rfl) ?_
  refine lv_iload_n hx hb dX1_begin_1 rfl (lv_at hl 1 rfl) ?_
  refine tpu hC hK hH flX1_41 ht_h rfl rfl (iRg _).1 (iRg _).2 rfl rfl dX1_begin_2 (fun Hq_ lcq_ hH => ?_)
  refine lv_aload_n hx hb dX1_begin_5 rfl (lv_at hl 0 rfl) ?_
  refine lv_iload_n hx hb dX1_begin_6 rfl (lv_at hl 2 rfl) ?_
  refine tpu hC hK hH flX1_45 ht_h rfl rfl (iRg _).1 (iRg _).2 rfl rfl dX1_begin_7 (fun Hq_ lcq_ hH => ?_)
  refine lv_aload_n hx hb dX1_begin_10 rfl (lv_at hl 0 rfl) ?_
  refine lv_iload_n hx hb dX1_begin_11 rfl (lv_at hl 3 rfl) ?_
  refine tpu hC hK hH flX1_48 ht_h rfl rfl (iRg _).1 (iRg _).2 rfl rfl dX1_begin_12 (fun Hq_ lcq_ hH => ?_)
  refine lv_aload_n hx hb dX1_begin_15 rfl (lv_at hl 0 rfl) ?_
  refine lv_iload hx hb dX1_begin_16 (lv_at hl 4 rfl) ?_
  refine tpu hC hK hH flX1_51 ht_h rfl rfl (zl hop) (zh hop) (nz hop) (fz hop) dX1_begin_18 (fun Hq_ lcq_ hH => ?_)
  refine lv_aload_n hx hb dX1_begin_21 rfl (lv_at hl 0 rfl) ?_
  refine lv_iload_n hx hb dX1_begin_22 rfl (lv_at hl 3 rfl) ?_
  refine tpu hC hK hH flX1_55 ht_h rfl rfl (by show (0 : Int) ≤ to.toInt; omega) (by show to.toInt ≤ (7 : Int); omega) rfl rfl dX1_begin_23 (fun Hq_ lcq_ hH => ?_)
  refine lv_aload_n hx hb dX1_begin_26 rfl (lv_at hl 0 rfl) ?_
  refine lv_iconst (v := -1) hx hb dX1_begin_27 (by decide) ?_
  refine tpu hC hK hH flX1_58 ht_h rfl rfl (iRg _).1 (iRg _).2 rfl rfl dX1_begin_28 (fun Hq_ lcq_ hH => ?_)
  refine lv_aload_n hx hb dX1_begin_31 rfl (lv_at hl 0 rfl) ?_
  refine lv_iconst (v := 0) hx hb dX1_begin_32 (by decide) ?_
  refine tpu hC hK hH flX1_61 ht_h rfl rfl (by decide) (by decide) rfl rfl dX1_begin_33 (fun Hq_ lcq_ hH => ?_)
  refine lv_aload_n hx hb dX1_begin_36 rfl (lv_at hl 0 rfl) ?_
  refine lv_iconst (v := 0) hx hb dX1_begin_37 (by decide) ?_
  refine tpu hC hK hH flX1_64 ht_h rfl rfl (by decide) (by decide) rfl rfl dX1_begin_38 (fun Hq_ lcq_ hH => ?_)
  refine lv_aload_n hx hb dX1_begin_41 rfl (lv_at hl 0 rfl) ?_
  refine lv_iconst (v := 0) hx hb dX1_begin_42 (by decide) ?_
  refine tpu hC hK hH flX1_67 ht_h rfl rfl (by decide) (by decide) rfl rfl dX1_begin_43 (fun Hq_ lcq_ hH => ?_)
  refine lv_aload_n hx hb dX1_begin_46 rfl (lv_at hl 0 rfl) ?_
  refine lv_iconst (v := 0) hx hb dX1_begin_47 (by decide) ?_
  refine tpu hC hK hH flX1_70 ht_h rfl rfl (by decide) (by decide) rfl rfl dX1_begin_48 (fun Hq_ lcq_ hH => ?_)
  refine lv_aload_n hx hb dX1_begin_51 rfl (lv_at hl 0 rfl) ?_
  refine tgr hC hK hH flX1_20 ht_h rfl rfl dX1_begin_52 (fun qq1_ t_qq1_ => ?_)
  refine lv_iload_n hx hb dX1_begin_55 rfl (lv_at hl 3 rfl) ?_
  refine lv_iload hx hb dX1_begin_56 (lv_at hl 4 rfl) ?_
  refine goV hK hH (runV (As := [.int to, .int op]) (rest := []) hC hK hH (c_X2_begin t_qq1_ (by omega)) mlX1_73 (rcvT hK hH t_qq1_ rfl rfl) ⟨⟨Nat.le_of_ble_eq_true rfl, Nat.le_of_ble_eq_true rfl⟩, Nat.le_of_ble_eq_true rfl, Nat.le_of_ble_eq_true rfl⟩ rfl hl.1 rfl (Nat.le_of_ble_eq_true rfl) dX1_begin_58) (fun Mq2_ Tq3_ Hq_ lcq_ hP hz hH => ?_)
  try dsimp only at hP
  obtain ⟨(-), eT, eM⟩ := hP
  have eT := eT.symm; subst eT
  have eM := eM.symm; subst eM
  refine lv_aload_n hx hb dX1_begin_61 rfl (lv_at hl 0 rfl) ?_
  refine tgr hC hK hH flX1_24 ht_h rfl rfl dX1_begin_62 (fun qq5_ t_qq5_ => ?_)
  refine lv_aload_n hx hb dX1_begin_65 rfl (lv_at hl 0 rfl) ?_
  refine tgr hC hK hH flX1_20 ht_h rfl rfl dX1_begin_66 (fun qq6_ t_qq6_ => ?_)
  refine goV hK hH (runV (As := [.ref qq6_]) (rest := []) hC hK hH (c_X2_copy t_qq5_ t_qq6_) mlX1_77 (rcvT hK hH t_qq5_ rfl rfl) ⟨⟨Nat.le_of_ble_eq_true rfl, Nat.le_of_ble_eq_true rfl⟩, Nat.le_of_ble_eq_true rfl, Nat.le_of_ble_eq_true rfl⟩ rfl hl.1 rfl (Nat.le_of_ble_eq_true rfl) dX1_begin_69) (fun Mq7_ Tq8_ Hq_ lcq_ hP hz hH => ?_)
  try dsimp only at hP
  obtain ⟨(-), eT, eM⟩ := hP
  have eT := eT.symm; subst eT
  have eM := eM.symm; subst eM
  refine lv_iconst (v := 0) hx hb dX1_begin_72 (by decide) ?_
  refine lv_istore (lv' := [(5, .int 0), (0, .ref h), (1, .int by_), (2, .int on), (3, .int to), (4, .int op)]) hx hb dX1_begin_73 hl (by decide) rfl (fun ls hl => ?_)
  refine lv_iload hx hb dX1_begin_75 (lv_at hl 0 rfl) ?_
  refine lv_bipush (v := 14) hx hb dX1_begin_77 (by decide) ?_
  refine jic_ge (tgt := 120) hx hb dX1_begin_79 (by decide) (fun cq10_ => absurd cq10_ (by decide)) (fun cq10_ => ?_)
  refine lv_aload_n hx hb dX1_begin_82 rfl (lv_at hl 1 rfl) ?_
  refine tgr hC hK hH flX1_27 ht_h rfl rfl dX1_begin_83 (fun qq11_ t_qq11_ => ?_)
  refine lv_iload hx hb dX1_begin_86 (lv_at hl 0 rfl) ?_
  refine lv_iconst (v := -1) hx hb dX1_begin_88 (by decide) ?_
  refine tist (x := -1) hC hK hH t_qq11_ rfl (iIn (by decide) (by decide)) (iRg _).1 (iRg _).2 dX1_begin_89 (fun Hq_ lcq_ hH => ?_)
  refine lv_aload_n hx hb dX1_begin_90 rfl (lv_at hl 1 rfl) ?_
  refine tgr hC hK hH flX1_31 ht_h rfl rfl dX1_begin_91 (fun qq12_ t_qq12_ => ?_)
  refine lv_iload hx hb dX1_begin_94 (lv_at hl 0 rfl) ?_
  refine lv_iconst (v := 0) hx hb dX1_begin_96 (by decide) ?_
  refine tist (x := 0) hC hK hH t_qq12_ rfl (iIn (by decide) (by decide)) (iRg _).1 (iRg _).2 dX1_begin_97 (fun Hq_ lcq_ hH => ?_)
  refine lv_aload_n hx hb dX1_begin_98 rfl (lv_at hl 1 rfl) ?_
  refine tgr hC hK hH flX1_34 ht_h rfl rfl dX1_begin_99 (fun qq13_ t_qq13_ => ?_)
  refine lv_iload hx hb dX1_begin_102 (lv_at hl 0 rfl) ?_
  refine lv_iconst (v := -1) hx hb dX1_begin_104 (by decide) ?_
  refine tist (x := -1) hC hK hH t_qq13_ rfl (iIn (by decide) (by decide)) (iRg _).1 (iRg _).2 dX1_begin_105 (fun Hq_ lcq_ hH => ?_)
  refine lv_aload_n hx hb dX1_begin_106 rfl (lv_at hl 1 rfl) ?_
  refine tgr hC hK hH flX1_37 ht_h rfl rfl dX1_begin_107 (fun qq14_ t_qq14_ => ?_)
  refine lv_iload hx hb dX1_begin_110 (lv_at hl 0 rfl) ?_
  refine lv_iconst (v := 0) hx hb dX1_begin_112 (by decide) ?_
  refine tist (x := 0) hC hK hH t_qq14_ rfl (iIn (by decide) (by decide)) (iRg _).1 (iRg _).2 dX1_begin_113 (fun Hq_ lcq_ hH => ?_)
  refine lv_iinc (v := 1) (lv' := [(5, .int 1), (0, .ref h), (1, .int by_), (2, .int on), (3, .int to), (4, .int op)]) hx hb dX1_begin_114 hl (k := 0) rfl (by decide) (by decide) rfl (fun ls hl => ?_)
  refine lv_goto (tgt := 75) hx hb dX1_begin_117 (by decide) ?_
  refine lv_iload hx hb dX1_begin_75 (lv_at hl 0 rfl) ?_
  refine lv_bipush (v := 14) hx hb dX1_begin_77 (by decide) ?_
  refine jic_ge (tgt := 120) hx hb dX1_begin_79 (by decide) (fun cq15_ => absurd cq15_ (by decide)) (fun cq15_ => ?_)
  refine lv_aload_n hx hb dX1_begin_82 rfl (lv_at hl 1 rfl) ?_
  refine tgr hC hK hH flX1_27 ht_h rfl rfl dX1_begin_83 (fun qq16_ t_qq16_ => ?_)
  refine lv_iload hx hb dX1_begin_86 (lv_at hl 0 rfl) ?_
  refine lv_iconst (v := -1) hx hb dX1_begin_88 (by decide) ?_
  refine tist (x := -1) hC hK hH t_qq16_ rfl (iIn (by decide) (by decide)) (iRg _).1 (iRg _).2 dX1_begin_89 (fun Hq_ lcq_ hH => ?_)
  refine lv_aload_n hx hb dX1_begin_90 rfl (lv_at hl 1 rfl) ?_
  refine tgr hC hK hH flX1_31 ht_h rfl rfl dX1_begin_91 (fun qq17_ t_qq17_ => ?_)
  refine lv_iload hx hb dX1_begin_94 (lv_at hl 0 rfl) ?_
  refine lv_iconst (v := 0) hx hb dX1_begin_96 (by decide) ?_
  refine tist (x := 0) hC hK hH t_qq17_ rfl (iIn (by decide) (by decide)) (iRg _).1 (iRg _).2 dX1_begin_97 (fun Hq_ lcq_ hH => ?_)
  refine lv_aload_n hx hb dX1_begin_98 rfl (lv_at hl 1 rfl) ?_
  refine tgr hC hK hH flX1_34 ht_h rfl rfl dX1_begin_99 (fun qq18_ t_qq18_ => ?_)
  refine lv_iload hx hb dX1_begin_102 (lv_at hl 0 rfl) ?_
  refine lv_iconst (v := -1) hx hb dX1_begin_104 (by decide) ?_
  refine tist (x := -1) hC hK hH t_qq18_ rfl (iIn (by decide) (by decide)) (iRg _).1 (iRg _).2 dX1_begin_105 (fun Hq_ lcq_ hH => ?_)
  refine lv_aload_n hx hb dX1_begin_106 rfl (lv_at hl 1 rfl) ?_
  refine tgr hC hK hH flX1_37 ht_h rfl rfl dX1_begin_107 (fun qq19_ t_qq19_ => ?_)
  refine lv_iload hx hb dX1_begin_110 (lv_at hl 0 rfl) ?_
  refine lv_iconst (v := 0) hx hb dX1_begin_112 (by decide) ?_
  refine tist (x := 0) hC hK hH t_qq19_ rfl (iIn (by decide) (by decide)) (iRg _).1 (iRg _).2 dX1_begin_113 (fun Hq_ lcq_ hH => ?_)
  refine lv_iinc (v := 2) (lv' := [(5, .int 2), (0, .ref h), (1, .int by_), (2, .int on), (3, .int to), (4, .int op)]) hx hb dX1_begin_114 hl (k := 0) rfl (by decide) (by decide) rfl (fun ls hl => ?_)
  refine lv_goto (tgt := 75) hx hb dX1_begin_117 (by decide) ?_
  refine lv_iload hx hb dX1_begin_75 (lv_at hl 0 rfl) ?_
  refine lv_bipush (v := 14) hx hb dX1_begin_77 (by decide) ?_
  refine jic_ge (tgt := 120) hx hb dX1_begin_79 (by decide) (fun cq20_ => absurd cq20_ (by decide)) (fun cq20_ => ?_)
  refine lv_aload_n hx hb dX1_begin_82 rfl (lv_at hl 1 rfl) ?_
  refine tgr hC hK hH flX1_27 ht_h rfl rfl dX1_begin_83 (fun qq21_ t_qq21_ => ?_)
  refine lv_iload hx hb dX1_begin_86 (lv_at hl 0 rfl) ?_
  refine lv_iconst (v := -1) hx hb dX1_begin_88 (by decide) ?_
  refine tist (x := -1) hC hK hH t_qq21_ rfl (iIn (by decide) (by decide)) (iRg _).1 (iRg _).2 dX1_begin_89 (fun Hq_ lcq_ hH => ?_)
  refine lv_aload_n hx hb dX1_begin_90 rfl (lv_at hl 1 rfl) ?_
  refine tgr hC hK hH flX1_31 ht_h rfl rfl dX1_begin_91 (fun qq22_ t_qq22_ => ?_)
  refine lv_iload hx hb dX1_begin_94 (lv_at hl 0 rfl) ?_
  refine lv_iconst (v := 0) hx hb dX1_begin_96 (by decide) ?_
  refine tist (x := 0) hC hK hH t_qq22_ rfl (iIn (by decide) (by decide)) (iRg _).1 (iRg _).2 dX1_begin_97 (fun Hq_ lcq_ hH => ?_)
  refine lv_aload_n hx hb dX1_begin_98 rfl (lv_at hl 1 rfl) ?_
  refine tgr hC hK hH flX1_34 ht_h rfl rfl dX1_begin_99 (fun qq23_ t_qq23_ => ?_)
  refine lv_iload hx hb dX1_begin_102 (lv_at hl 0 rfl) ?_
  refine lv_iconst (v := -1) hx hb dX1_begin_104 (by decide) ?_
  refine tist (x := -1) hC hK hH t_qq23_ rfl (iIn (by decide) (by decide)) (iRg _).1 (iRg _).2 dX1_begin_105 (fun Hq_ lcq_ hH => ?_)
  refine lv_aload_n hx hb dX1_begin_106 rfl (lv_at hl 1 rfl) ?_
  refine tgr hC hK hH flX1_37 ht_h rfl rfl dX1_begin_107 (fun qq24_ t_qq24_ => ?_)
  refine lv_iload hx hb dX1_begin_110 (lv_at hl 0 rfl) ?_
  refine lv_iconst (v := 0) hx hb dX1_begin_112 (by decide) ?_
  refine tist (x := 0) hC hK hH t_qq24_ rfl (iIn (by decide) (by decide)) (iRg _).1 (iRg _).2 dX1_begin_113 (fun Hq_ lcq_ hH => ?_)
  refine lv_iinc (v := 3) (lv' := [(5, .int 3), (0, .ref h), (1, .int by_), (2, .int on), (3, .int to), (4, .int op)]) hx hb dX1_begin_114 hl (k := 0) rfl (by decide) (by decide) rfl (fun ls hl => ?_)
  refine lv_goto (tgt := 75) hx hb dX1_begin_117 (by decide) ?_
  refine lv_iload hx hb dX1_begin_75 (lv_at hl 0 rfl) ?_
  refine lv_bipush (v := 14) hx hb dX1_begin_77 (by decide) ?_
  refine jic_ge (tgt := 120) hx hb dX1_begin_79 (by decide) (fun cq25_ => absurd cq25_ (by decide)) (fun cq25_ => ?_)
  refine lv_aload_n hx hb dX1_begin_82 rfl (lv_at hl 1 rfl) ?_
  refine tgr hC hK hH flX1_27 ht_h rfl rfl dX1_begin_83 (fun qq26_ t_qq26_ => ?_)
  refine lv_iload hx hb dX1_begin_86 (lv_at hl 0 rfl) ?_
  refine lv_iconst (v := -1) hx hb dX1_begin_88 (by decide) ?_
  refine tist (x := -1) hC hK hH t_qq26_ rfl (iIn (by decide) (by decide)) (iRg _).1 (iRg _).2 dX1_begin_89 (fun Hq_ lcq_ hH => ?_)
  refine lv_aload_n hx hb dX1_begin_90 rfl (lv_at hl 1 rfl) ?_
  refine tgr hC hK hH flX1_31 ht_h rfl rfl dX1_begin_91 (fun qq27_ t_qq27_ => ?_)
  refine lv_iload hx hb dX1_begin_94 (lv_at hl 0 rfl) ?_
  refine lv_iconst (v := 0) hx hb dX1_begin_96 (by decide) ?_
  refine tist (x := 0) hC hK hH t_qq27_ rfl (iIn (by decide) (by decide)) (iRg _).1 (iRg _).2 dX1_begin_97 (fun Hq_ lcq_ hH => ?_)
  refine lv_aload_n hx hb dX1_begin_98 rfl (lv_at hl 1 rfl) ?_
  refine tgr hC hK hH flX1_34 ht_h rfl rfl dX1_begin_99 (fun qq28_ t_qq28_ => ?_)
  refine lv_iload hx hb dX1_begin_102 (lv_at hl 0 rfl) ?_
  refine lv_iconst (v := -1) hx hb dX1_begin_104 (by decide) ?_
  refine tist (x := -1) hC hK hH t_qq28_ rfl (iIn (by decide) (by decide)) (iRg _).1 (iRg _).2 dX1_begin_105 (fun Hq_ lcq_ hH => ?_)
  refine lv_aload_n hx hb dX1_begin_106 rfl (lv_at hl 1 rfl) ?_
  refine tgr hC hK hH flX1_37 ht_h rfl rfl dX1_begin_107 (fun qq29_ t_qq29_ => ?_)
  refine lv_iload hx hb dX1_begin_110 (lv_at hl 0 rfl) ?_
  refine lv_iconst (v := 0) hx hb dX1_begin_112 (by decide) ?_
  refine tist (x := 0) hC hK hH t_qq29_ rfl (iIn (by decide) (by decide)) (iRg _).1 (iRg _).2 dX1_begin_113 (fun Hq_ lcq_ hH => ?_)
  refine lv_iinc (v := 4) (lv' := [(5, .int 4), (0, .ref h), (1, .int by_), (2, .int on), (3, .int to), (4, .int op)]) hx hb dX1_begin_114 hl (k := 0) rfl (by decide) (by decide) rfl (fun ls hl => ?_)
  refine lv_goto (tgt := 75) hx hb dX1_begin_117 (by decide) ?_
  refine lv_iload hx hb dX1_begin_75 (lv_at hl 0 rfl) ?_
  refine lv_bipush (v := 14) hx hb dX1_begin_77 (by decide) ?_
  refine jic_ge (tgt := 120) hx hb dX1_begin_79 (by decide) (fun cq30_ => absurd cq30_ (by decide)) (fun cq30_ => ?_)
  refine lv_aload_n hx hb dX1_begin_82 rfl (lv_at hl 1 rfl) ?_
  refine tgr hC hK hH flX1_27 ht_h rfl rfl dX1_begin_83 (fun qq31_ t_qq31_ => ?_)
  refine lv_iload hx hb dX1_begin_86 (lv_at hl 0 rfl) ?_
  refine lv_iconst (v := -1) hx hb dX1_begin_88 (by decide) ?_
  refine tist (x := -1) hC hK hH t_qq31_ rfl (iIn (by decide) (by decide)) (iRg _).1 (iRg _).2 dX1_begin_89 (fun Hq_ lcq_ hH => ?_)
  refine lv_aload_n hx hb dX1_begin_90 rfl (lv_at hl 1 rfl) ?_
  refine tgr hC hK hH flX1_31 ht_h rfl rfl dX1_begin_91 (fun qq32_ t_qq32_ => ?_)
  refine lv_iload hx hb dX1_begin_94 (lv_at hl 0 rfl) ?_
  refine lv_iconst (v := 0) hx hb dX1_begin_96 (by decide) ?_
  refine tist (x := 0) hC hK hH t_qq32_ rfl (iIn (by decide) (by decide)) (iRg _).1 (iRg _).2 dX1_begin_97 (fun Hq_ lcq_ hH => ?_)
  refine lv_aload_n hx hb dX1_begin_98 rfl (lv_at hl 1 rfl) ?_
  refine tgr hC hK hH flX1_34 ht_h rfl rfl dX1_begin_99 (fun qq33_ t_qq33_ => ?_)
  refine lv_iload hx hb dX1_begin_102 (lv_at hl 0 rfl) ?_
  refine lv_iconst (v := -1) hx hb dX1_begin_104 (by decide) ?_
  refine tist (x := -1) hC hK hH t_qq33_ rfl (iIn (by decide) (by decide)) (iRg _).1 (iRg _).2 dX1_begin_105 (fun Hq_ lcq_ hH => ?_)
  refine lv_aload_n hx hb dX1_begin_106 rfl (lv_at hl 1 rfl) ?_
  refine tgr hC hK hH flX1_37 ht_h rfl rfl dX1_begin_107 (fun qq34_ t_qq34_ => ?_)
  refine lv_iload hx hb dX1_begin_110 (lv_at hl 0 rfl) ?_
  refine lv_iconst (v := 0) hx hb dX1_begin_112 (by decide) ?_
  refine tist (x := 0) hC hK hH t_qq34_ rfl (iIn (by decide) (by decide)) (iRg _).1 (iRg _).2 dX1_begin_113 (fun Hq_ lcq_ hH => ?_)
  refine lv_iinc (v := 5) (lv' := [(5, .int 5), (0, .ref h), (1, .int by_), (2, .int on), (3, .int to), (4, .int op)]) hx hb dX1_begin_114 hl (k := 0) rfl (by decide) (by decide) rfl (fun ls hl => ?_)
  refine lv_goto (tgt := 75) hx hb dX1_begin_117 (by decide) ?_
  refine lv_iload hx hb dX1_begin_75 (lv_at hl 0 rfl) ?_
  refine lv_bipush (v := 14) hx hb dX1_begin_77 (by decide) ?_
  refine jic_ge (tgt := 120) hx hb dX1_begin_79 (by decide) (fun cq35_ => absurd cq35_ (by decide)) (fun cq35_ => ?_)
  refine lv_aload_n hx hb dX1_begin_82 rfl (lv_at hl 1 rfl) ?_
  refine tgr hC hK hH flX1_27 ht_h rfl rfl dX1_begin_83 (fun qq36_ t_qq36_ => ?_)
  refine lv_iload hx hb dX1_begin_86 (lv_at hl 0 rfl) ?_
  refine lv_iconst (v := -1) hx hb dX1_begin_88 (by decide) ?_
  refine tist (x := -1) hC hK hH t_qq36_ rfl (iIn (by decide) (by decide)) (iRg _).1 (iRg _).2 dX1_begin_89 (fun Hq_ lcq_ hH => ?_)
  refine lv_aload_n hx hb dX1_begin_90 rfl (lv_at hl 1 rfl) ?_
  refine tgr hC hK hH flX1_31 ht_h rfl rfl dX1_begin_91 (fun qq37_ t_qq37_ => ?_)
  refine lv_iload hx hb dX1_begin_94 (lv_at hl 0 rfl) ?_
  refine lv_iconst (v := 0) hx hb dX1_begin_96 (by decide) ?_
  refine tist (x := 0) hC hK hH t_qq37_ rfl (iIn (by decide) (by decide)) (iRg _).1 (iRg _).2 dX1_begin_97 (fun Hq_ lcq_ hH => ?_)
  refine lv_aload_n hx hb dX1_begin_98 rfl (lv_at hl 1 rfl) ?_
  refine tgr hC hK hH flX1_34 ht_h rfl rfl dX1_begin_99 (fun qq38_ t_qq38_ => ?_)
  refine lv_iload hx hb dX1_begin_102 (lv_at hl 0 rfl) ?_
  refine lv_iconst (v := -1) hx hb dX1_begin_104 (by decide) ?_
  refine tist (x := -1) hC hK hH t_qq38_ rfl (iIn (by decide) (by decide)) (iRg _).1 (iRg _).2 dX1_begin_105 (fun Hq_ lcq_ hH => ?_)
  refine lv_aload_n hx hb dX1_begin_106 rfl (lv_at hl 1 rfl) ?_
  refine tgr hC hK hH flX1_37 ht_h rfl rfl dX1_begin_107 (fun qq39_ t_qq39_ => ?_)
  refine lv_iload hx hb dX1_begin_110 (lv_at hl 0 rfl) ?_
  refine lv_iconst (v := 0) hx hb dX1_begin_112 (by decide) ?_
  refine tist (x := 0) hC hK hH t_qq39_ rfl (iIn (by decide) (by decide)) (iRg _).1 (iRg _).2 dX1_begin_113 (fun Hq_ lcq_ hH => ?_)
  refine lv_iinc (v := 6) (lv' := [(5, .int 6), (0, .ref h), (1, .int by_), (2, .int on), (3, .int to), (4, .int op)]) hx hb dX1_begin_114 hl (k := 0) rfl (by decide) (by decide) rfl (fun ls hl => ?_)
  refine lv_goto (tgt := 75) hx hb dX1_begin_117 (by decide) ?_
  refine lv_iload hx hb dX1_begin_75 (lv_at hl 0 rfl) ?_
  refine lv_bipush (v := 14) hx hb dX1_begin_77 (by decide) ?_
  refine jic_ge (tgt := 120) hx hb dX1_begin_79 (by decide) (fun cq40_ => absurd cq40_ (by decide)) (fun cq40_ => ?_)
  refine lv_aload_n hx hb dX1_begin_82 rfl (lv_at hl 1 rfl) ?_
  refine tgr hC hK hH flX1_27 ht_h rfl rfl dX1_begin_83 (fun qq41_ t_qq41_ => ?_)
  refine lv_iload hx hb dX1_begin_86 (lv_at hl 0 rfl) ?_
  refine lv_iconst (v := -1) hx hb dX1_begin_88 (by decide) ?_
  refine tist (x := -1) hC hK hH t_qq41_ rfl (iIn (by decide) (by decide)) (iRg _).1 (iRg _).2 dX1_begin_89 (fun Hq_ lcq_ hH => ?_)
  refine lv_aload_n hx hb dX1_begin_90 rfl (lv_at hl 1 rfl) ?_
  refine tgr hC hK hH flX1_31 ht_h rfl rfl dX1_begin_91 (fun qq42_ t_qq42_ => ?_)
  refine lv_iload hx hb dX1_begin_94 (lv_at hl 0 rfl) ?_
  refine lv_iconst (v := 0) hx hb dX1_begin_96 (by decide) ?_
  refine tist (x := 0) hC hK hH t_qq42_ rfl (iIn (by decide) (by decide)) (iRg _).1 (iRg _).2 dX1_begin_97 (fun Hq_ lcq_ hH => ?_)
  refine lv_aload_n hx hb dX1_begin_98 rfl (lv_at hl 1 rfl) ?_
  refine tgr hC hK hH flX1_34 ht_h rfl rfl dX1_begin_99 (fun qq43_ t_qq43_ => ?_)
  refine lv_iload hx hb dX1_begin_102 (lv_at hl 0 rfl) ?_
  refine lv_iconst (v := -1) hx hb dX1_begin_104 (by decide) ?_
  refine tist (x := -1) hC hK hH t_qq43_ rfl (iIn (by decide) (by decide)) (iRg _).1 (iRg _).2 dX1_begin_105 (fun Hq_ lcq_ hH => ?_)
  refine lv_aload_n hx hb dX1_begin_106 rfl (lv_at hl 1 rfl) ?_
  refine tgr hC hK hH flX1_37 ht_h rfl rfl dX1_begin_107 (fun qq44_ t_qq44_ => ?_)
  refine lv_iload hx hb dX1_begin_110 (lv_at hl 0 rfl) ?_
  refine lv_iconst (v := 0) hx hb dX1_begin_112 (by decide) ?_
  refine tist (x := 0) hC hK hH t_qq44_ rfl (iIn (by decide) (by decide)) (iRg _).1 (iRg _).2 dX1_begin_113 (fun Hq_ lcq_ hH => ?_)
  refine lv_iinc (v := 7) (lv' := [(5, .int 7), (0, .ref h), (1, .int by_), (2, .int on), (3, .int to), (4, .int op)]) hx hb dX1_begin_114 hl (k := 0) rfl (by decide) (by decide) rfl (fun ls hl => ?_)
  refine lv_goto (tgt := 75) hx hb dX1_begin_117 (by decide) ?_
  refine lv_iload hx hb dX1_begin_75 (lv_at hl 0 rfl) ?_
  refine lv_bipush (v := 14) hx hb dX1_begin_77 (by decide) ?_
  refine jic_ge (tgt := 120) hx hb dX1_begin_79 (by decide) (fun cq45_ => absurd cq45_ (by decide)) (fun cq45_ => ?_)
  refine lv_aload_n hx hb dX1_begin_82 rfl (lv_at hl 1 rfl) ?_
  refine tgr hC hK hH flX1_27 ht_h rfl rfl dX1_begin_83 (fun qq46_ t_qq46_ => ?_)
  refine lv_iload hx hb dX1_begin_86 (lv_at hl 0 rfl) ?_
  refine lv_iconst (v := -1) hx hb dX1_begin_88 (by decide) ?_
  refine tist (x := -1) hC hK hH t_qq46_ rfl (iIn (by decide) (by decide)) (iRg _).1 (iRg _).2 dX1_begin_89 (fun Hq_ lcq_ hH => ?_)
  refine lv_aload_n hx hb dX1_begin_90 rfl (lv_at hl 1 rfl) ?_
  refine tgr hC hK hH flX1_31 ht_h rfl rfl dX1_begin_91 (fun qq47_ t_qq47_ => ?_)
  refine lv_iload hx hb dX1_begin_94 (lv_at hl 0 rfl) ?_
  refine lv_iconst (v := 0) hx hb dX1_begin_96 (by decide) ?_
  refine tist (x := 0) hC hK hH t_qq47_ rfl (iIn (by decide) (by decide)) (iRg _).1 (iRg _).2 dX1_begin_97 (fun Hq_ lcq_ hH => ?_)
  refine lv_aload_n hx hb dX1_begin_98 rfl (lv_at hl 1 rfl) ?_
  refine tgr hC hK hH flX1_34 ht_h rfl rfl dX1_begin_99 (fun qq48_ t_qq48_ => ?_)
  refine lv_iload hx hb dX1_begin_102 (lv_at hl 0 rfl) ?_
  refine lv_iconst (v := -1) hx hb dX1_begin_104 (by decide) ?_
  refine tist (x := -1) hC hK hH t_qq48_ rfl (iIn (by decide) (by decide)) (iRg _).1 (iRg _).2 dX1_begin_105 (fun Hq_ lcq_ hH => ?_)
  refine lv_aload_n hx hb dX1_begin_106 rfl (lv_at hl 1 rfl) ?_
  refine tgr hC hK hH flX1_37 ht_h rfl rfl dX1_begin_107 (fun qq49_ t_qq49_ => ?_)
  refine lv_iload hx hb dX1_begin_110 (lv_at hl 0 rfl) ?_
  refine lv_iconst (v := 0) hx hb dX1_begin_112 (by decide) ?_
  refine tist (x := 0) hC hK hH t_qq49_ rfl (iIn (by decide) (by decide)) (iRg _).1 (iRg _).2 dX1_begin_113 (fun Hq_ lcq_ hH => ?_)
  refine lv_iinc (v := 8) (lv' := [(5, .int 8), (0, .ref h), (1, .int by_), (2, .int on), (3, .int to), (4, .int op)]) hx hb dX1_begin_114 hl (k := 0) rfl (by decide) (by decide) rfl (fun ls hl => ?_)
  refine lv_goto (tgt := 75) hx hb dX1_begin_117 (by decide) ?_
  refine lv_iload hx hb dX1_begin_75 (lv_at hl 0 rfl) ?_
  refine lv_bipush (v := 14) hx hb dX1_begin_77 (by decide) ?_
  refine jic_ge (tgt := 120) hx hb dX1_begin_79 (by decide) (fun cq50_ => absurd cq50_ (by decide)) (fun cq50_ => ?_)
  refine lv_aload_n hx hb dX1_begin_82 rfl (lv_at hl 1 rfl) ?_
  refine tgr hC hK hH flX1_27 ht_h rfl rfl dX1_begin_83 (fun qq51_ t_qq51_ => ?_)
  refine lv_iload hx hb dX1_begin_86 (lv_at hl 0 rfl) ?_
  refine lv_iconst (v := -1) hx hb dX1_begin_88 (by decide) ?_
  refine tist (x := -1) hC hK hH t_qq51_ rfl (iIn (by decide) (by decide)) (iRg _).1 (iRg _).2 dX1_begin_89 (fun Hq_ lcq_ hH => ?_)
  refine lv_aload_n hx hb dX1_begin_90 rfl (lv_at hl 1 rfl) ?_
  refine tgr hC hK hH flX1_31 ht_h rfl rfl dX1_begin_91 (fun qq52_ t_qq52_ => ?_)
  refine lv_iload hx hb dX1_begin_94 (lv_at hl 0 rfl) ?_
  refine lv_iconst (v := 0) hx hb dX1_begin_96 (by decide) ?_
  refine tist (x := 0) hC hK hH t_qq52_ rfl (iIn (by decide) (by decide)) (iRg _).1 (iRg _).2 dX1_begin_97 (fun Hq_ lcq_ hH => ?_)
  refine lv_aload_n hx hb dX1_begin_98 rfl (lv_at hl 1 rfl) ?_
  refine tgr hC hK hH flX1_34 ht_h rfl rfl dX1_begin_99 (fun qq53_ t_qq53_ => ?_)
  refine lv_iload hx hb dX1_begin_102 (lv_at hl 0 rfl) ?_
  refine lv_iconst (v := -1) hx hb dX1_begin_104 (by decide) ?_
  refine tist (x := -1) hC hK hH t_qq53_ rfl (iIn (by decide) (by decide)) (iRg _).1 (iRg _).2 dX1_begin_105 (fun Hq_ lcq_ hH => ?_)
  refine lv_aload_n hx hb dX1_begin_106 rfl (lv_at hl 1 rfl) ?_
  refine tgr hC hK hH flX1_37 ht_h rfl rfl dX1_begin_107 (fun qq54_ t_qq54_ => ?_)
  refine lv_iload hx hb dX1_begin_110 (lv_at hl 0 rfl) ?_
  refine lv_iconst (v := 0) hx hb dX1_begin_112 (by decide) ?_
  refine tist (x := 0) hC hK hH t_qq54_ rfl (iIn (by decide) (by decide)) (iRg _).1 (iRg _).2 dX1_begin_113 (fun Hq_ lcq_ hH => ?_)
  refine lv_iinc (v := 9) (lv' := [(5, .int 9), (0, .ref h), (1, .int by_), (2, .int on), (3, .int to), (4, .int op)]) hx hb dX1_begin_114 hl (k := 0) rfl (by decide) (by decide) rfl (fun ls hl => ?_)
  refine lv_goto (tgt := 75) hx hb dX1_begin_117 (by decide) ?_
  refine lv_iload hx hb dX1_begin_75 (lv_at hl 0 rfl) ?_
  refine lv_bipush (v := 14) hx hb dX1_begin_77 (by decide) ?_
  refine jic_ge (tgt := 120) hx hb dX1_begin_79 (by decide) (fun cq55_ => absurd cq55_ (by decide)) (fun cq55_ => ?_)
  refine lv_aload_n hx hb dX1_begin_82 rfl (lv_at hl 1 rfl) ?_
  refine tgr hC hK hH flX1_27 ht_h rfl rfl dX1_begin_83 (fun qq56_ t_qq56_ => ?_)
  refine lv_iload hx hb dX1_begin_86 (lv_at hl 0 rfl) ?_
  refine lv_iconst (v := -1) hx hb dX1_begin_88 (by decide) ?_
  refine tist (x := -1) hC hK hH t_qq56_ rfl (iIn (by decide) (by decide)) (iRg _).1 (iRg _).2 dX1_begin_89 (fun Hq_ lcq_ hH => ?_)
  refine lv_aload_n hx hb dX1_begin_90 rfl (lv_at hl 1 rfl) ?_
  refine tgr hC hK hH flX1_31 ht_h rfl rfl dX1_begin_91 (fun qq57_ t_qq57_ => ?_)
  refine lv_iload hx hb dX1_begin_94 (lv_at hl 0 rfl) ?_
  refine lv_iconst (v := 0) hx hb dX1_begin_96 (by decide) ?_
  refine tist (x := 0) hC hK hH t_qq57_ rfl (iIn (by decide) (by decide)) (iRg _).1 (iRg _).2 dX1_begin_97 (fun Hq_ lcq_ hH => ?_)
  refine lv_aload_n hx hb dX1_begin_98 rfl (lv_at hl 1 rfl) ?_
  refine tgr hC hK hH flX1_34 ht_h rfl rfl dX1_begin_99 (fun qq58_ t_qq58_ => ?_)
  refine lv_iload hx hb dX1_begin_102 (lv_at hl 0 rfl) ?_
  refine lv_iconst (v := -1) hx hb dX1_begin_104 (by decide) ?_
  refine tist (x := -1) hC hK hH t_qq58_ rfl (iIn (by decide) (by decide)) (iRg _).1 (iRg _).2 dX1_begin_105 (fun Hq_ lcq_ hH => ?_)
  refine lv_aload_n hx hb dX1_begin_106 rfl (lv_at hl 1 rfl) ?_
  refine tgr hC hK hH flX1_37 ht_h rfl rfl dX1_begin_107 (fun qq59_ t_qq59_ => ?_)
  refine lv_iload hx hb dX1_begin_110 (lv_at hl 0 rfl) ?_
  refine lv_iconst (v := 0) hx hb dX1_begin_112 (by decide) ?_
  refine tist (x := 0) hC hK hH t_qq59_ rfl (iIn (by decide) (by decide)) (iRg _).1 (iRg _).2 dX1_begin_113 (fun Hq_ lcq_ hH => ?_)
  refine lv_iinc (v := 10) (lv' := [(5, .int 10), (0, .ref h), (1, .int by_), (2, .int on), (3, .int to), (4, .int op)]) hx hb dX1_begin_114 hl (k := 0) rfl (by decide) (by decide) rfl (fun ls hl => ?_)
  refine lv_goto (tgt := 75) hx hb dX1_begin_117 (by decide) ?_
  refine lv_iload hx hb dX1_begin_75 (lv_at hl 0 rfl) ?_
  refine lv_bipush (v := 14) hx hb dX1_begin_77 (by decide) ?_
  refine jic_ge (tgt := 120) hx hb dX1_begin_79 (by decide) (fun cq60_ => absurd cq60_ (by decide)) (fun cq60_ => ?_)
  refine lv_aload_n hx hb dX1_begin_82 rfl (lv_at hl 1 rfl) ?_
  refine tgr hC hK hH flX1_27 ht_h rfl rfl dX1_begin_83 (fun qq61_ t_qq61_ => ?_)
  refine lv_iload hx hb dX1_begin_86 (lv_at hl 0 rfl) ?_
  refine lv_iconst (v := -1) hx hb dX1_begin_88 (by decide) ?_
  refine tist (x := -1) hC hK hH t_qq61_ rfl (iIn (by decide) (by decide)) (iRg _).1 (iRg _).2 dX1_begin_89 (fun Hq_ lcq_ hH => ?_)
  refine lv_aload_n hx hb dX1_begin_90 rfl (lv_at hl 1 rfl) ?_
  refine tgr hC hK hH flX1_31 ht_h rfl rfl dX1_begin_91 (fun qq62_ t_qq62_ => ?_)
  refine lv_iload hx hb dX1_begin_94 (lv_at hl 0 rfl) ?_
  refine lv_iconst (v := 0) hx hb dX1_begin_96 (by decide) ?_
  refine tist (x := 0) hC hK hH t_qq62_ rfl (iIn (by decide) (by decide)) (iRg _).1 (iRg _).2 dX1_begin_97 (fun Hq_ lcq_ hH => ?_)
  refine lv_aload_n hx hb dX1_begin_98 rfl (lv_at hl 1 rfl) ?_
  refine tgr hC hK hH flX1_34 ht_h rfl rfl dX1_begin_99 (fun qq63_ t_qq63_ => ?_)
  refine lv_iload hx hb dX1_begin_102 (lv_at hl 0 rfl) ?_
  refine lv_iconst (v := -1) hx hb dX1_begin_104 (by decide) ?_
  refine tist (x := -1) hC hK hH t_qq63_ rfl (iIn (by decide) (by decide)) (iRg _).1 (iRg _).2 dX1_begin_105 (fun Hq_ lcq_ hH => ?_)
  refine lv_aload_n hx hb dX1_begin_106 rfl (lv_at hl 1 rfl) ?_
  refine tgr hC hK hH flX1_37 ht_h rfl rfl dX1_begin_107 (fun qq64_ t_qq64_ => ?_)
  refine lv_iload hx hb dX1_begin_110 (lv_at hl 0 rfl) ?_
  refine lv_iconst (v := 0) hx hb dX1_begin_112 (by decide) ?_
  refine tist (x := 0) hC hK hH t_qq64_ rfl (iIn (by decide) (by decide)) (iRg _).1 (iRg _).2 dX1_begin_113 (fun Hq_ lcq_ hH => ?_)
  refine lv_iinc (v := 11) (lv' := [(5, .int 11), (0, .ref h), (1, .int by_), (2, .int on), (3, .int to), (4, .int op)]) hx hb dX1_begin_114 hl (k := 0) rfl (by decide) (by decide) rfl (fun ls hl => ?_)
  refine lv_goto (tgt := 75) hx hb dX1_begin_117 (by decide) ?_
  refine lv_iload hx hb dX1_begin_75 (lv_at hl 0 rfl) ?_
  refine lv_bipush (v := 14) hx hb dX1_begin_77 (by decide) ?_
  refine jic_ge (tgt := 120) hx hb dX1_begin_79 (by decide) (fun cq65_ => absurd cq65_ (by decide)) (fun cq65_ => ?_)
  refine lv_aload_n hx hb dX1_begin_82 rfl (lv_at hl 1 rfl) ?_
  refine tgr hC hK hH flX1_27 ht_h rfl rfl dX1_begin_83 (fun qq66_ t_qq66_ => ?_)
  refine lv_iload hx hb dX1_begin_86 (lv_at hl 0 rfl) ?_
  refine lv_iconst (v := -1) hx hb dX1_begin_88 (by decide) ?_
  refine tist (x := -1) hC hK hH t_qq66_ rfl (iIn (by decide) (by decide)) (iRg _).1 (iRg _).2 dX1_begin_89 (fun Hq_ lcq_ hH => ?_)
  refine lv_aload_n hx hb dX1_begin_90 rfl (lv_at hl 1 rfl) ?_
  refine tgr hC hK hH flX1_31 ht_h rfl rfl dX1_begin_91 (fun qq67_ t_qq67_ => ?_)
  refine lv_iload hx hb dX1_begin_94 (lv_at hl 0 rfl) ?_
  refine lv_iconst (v := 0) hx hb dX1_begin_96 (by decide) ?_
  refine tist (x := 0) hC hK hH t_qq67_ rfl (iIn (by decide) (by decide)) (iRg _).1 (iRg _).2 dX1_begin_97 (fun Hq_ lcq_ hH => ?_)
  refine lv_aload_n hx hb dX1_begin_98 rfl (lv_at hl 1 rfl) ?_
  refine tgr hC hK hH flX1_34 ht_h rfl rfl dX1_begin_99 (fun qq68_ t_qq68_ => ?_)
  refine lv_iload hx hb dX1_begin_102 (lv_at hl 0 rfl) ?_
  refine lv_iconst (v := -1) hx hb dX1_begin_104 (by decide) ?_
  refine tist (x := -1) hC hK hH t_qq68_ rfl (iIn (by decide) (by decide)) (iRg _).1 (iRg _).2 dX1_begin_105 (fun Hq_ lcq_ hH => ?_)
  refine lv_aload_n hx hb dX1_begin_106 rfl (lv_at hl 1 rfl) ?_
  refine tgr hC hK hH flX1_37 ht_h rfl rfl dX1_begin_107 (fun qq69_ t_qq69_ => ?_)
  refine lv_iload hx hb dX1_begin_110 (lv_at hl 0 rfl) ?_
  refine lv_iconst (v := 0) hx hb dX1_begin_112 (by decide) ?_
  refine tist (x := 0) hC hK hH t_qq69_ rfl (iIn (by decide) (by decide)) (iRg _).1 (iRg _).2 dX1_begin_113 (fun Hq_ lcq_ hH => ?_)
  refine lv_iinc (v := 12) (lv' := [(5, .int 12), (0, .ref h), (1, .int by_), (2, .int on), (3, .int to), (4, .int op)]) hx hb dX1_begin_114 hl (k := 0) rfl (by decide) (by decide) rfl (fun ls hl => ?_)
  refine lv_goto (tgt := 75) hx hb dX1_begin_117 (by decide) ?_
  refine lv_iload hx hb dX1_begin_75 (lv_at hl 0 rfl) ?_
  refine lv_bipush (v := 14) hx hb dX1_begin_77 (by decide) ?_
  refine jic_ge (tgt := 120) hx hb dX1_begin_79 (by decide) (fun cq70_ => absurd cq70_ (by decide)) (fun cq70_ => ?_)
  refine lv_aload_n hx hb dX1_begin_82 rfl (lv_at hl 1 rfl) ?_
  refine tgr hC hK hH flX1_27 ht_h rfl rfl dX1_begin_83 (fun qq71_ t_qq71_ => ?_)
  refine lv_iload hx hb dX1_begin_86 (lv_at hl 0 rfl) ?_
  refine lv_iconst (v := -1) hx hb dX1_begin_88 (by decide) ?_
  refine tist (x := -1) hC hK hH t_qq71_ rfl (iIn (by decide) (by decide)) (iRg _).1 (iRg _).2 dX1_begin_89 (fun Hq_ lcq_ hH => ?_)
  refine lv_aload_n hx hb dX1_begin_90 rfl (lv_at hl 1 rfl) ?_
  refine tgr hC hK hH flX1_31 ht_h rfl rfl dX1_begin_91 (fun qq72_ t_qq72_ => ?_)
  refine lv_iload hx hb dX1_begin_94 (lv_at hl 0 rfl) ?_
  refine lv_iconst (v := 0) hx hb dX1_begin_96 (by decide) ?_
  refine tist (x := 0) hC hK hH t_qq72_ rfl (iIn (by decide) (by decide)) (iRg _).1 (iRg _).2 dX1_begin_97 (fun Hq_ lcq_ hH => ?_)
  refine lv_aload_n hx hb dX1_begin_98 rfl (lv_at hl 1 rfl) ?_
  refine tgr hC hK hH flX1_34 ht_h rfl rfl dX1_begin_99 (fun qq73_ t_qq73_ => ?_)
  refine lv_iload hx hb dX1_begin_102 (lv_at hl 0 rfl) ?_
  refine lv_iconst (v := -1) hx hb dX1_begin_104 (by decide) ?_
  refine tist (x := -1) hC hK hH t_qq73_ rfl (iIn (by decide) (by decide)) (iRg _).1 (iRg _).2 dX1_begin_105 (fun Hq_ lcq_ hH => ?_)
  refine lv_aload_n hx hb dX1_begin_106 rfl (lv_at hl 1 rfl) ?_
  refine tgr hC hK hH flX1_37 ht_h rfl rfl dX1_begin_107 (fun qq74_ t_qq74_ => ?_)
  refine lv_iload hx hb dX1_begin_110 (lv_at hl 0 rfl) ?_
  refine lv_iconst (v := 0) hx hb dX1_begin_112 (by decide) ?_
  refine tist (x := 0) hC hK hH t_qq74_ rfl (iIn (by decide) (by decide)) (iRg _).1 (iRg _).2 dX1_begin_113 (fun Hq_ lcq_ hH => ?_)
  refine lv_iinc (v := 13) (lv' := [(5, .int 13), (0, .ref h), (1, .int by_), (2, .int on), (3, .int to), (4, .int op)]) hx hb dX1_begin_114 hl (k := 0) rfl (by decide) (by decide) rfl (fun ls hl => ?_)
  refine lv_goto (tgt := 75) hx hb dX1_begin_117 (by decide) ?_
  refine lv_iload hx hb dX1_begin_75 (lv_at hl 0 rfl) ?_
  refine lv_bipush (v := 14) hx hb dX1_begin_77 (by decide) ?_
  refine jic_ge (tgt := 120) hx hb dX1_begin_79 (by decide) (fun cq75_ => absurd cq75_ (by decide)) (fun cq75_ => ?_)
  refine lv_aload_n hx hb dX1_begin_82 rfl (lv_at hl 1 rfl) ?_
  refine tgr hC hK hH flX1_27 ht_h rfl rfl dX1_begin_83 (fun qq76_ t_qq76_ => ?_)
  refine lv_iload hx hb dX1_begin_86 (lv_at hl 0 rfl) ?_
  refine lv_iconst (v := -1) hx hb dX1_begin_88 (by decide) ?_
  refine tist (x := -1) hC hK hH t_qq76_ rfl (iIn (by decide) (by decide)) (iRg _).1 (iRg _).2 dX1_begin_89 (fun Hq_ lcq_ hH => ?_)
  refine lv_aload_n hx hb dX1_begin_90 rfl (lv_at hl 1 rfl) ?_
  refine tgr hC hK hH flX1_31 ht_h rfl rfl dX1_begin_91 (fun qq77_ t_qq77_ => ?_)
  refine lv_iload hx hb dX1_begin_94 (lv_at hl 0 rfl) ?_
  refine lv_iconst (v := 0) hx hb dX1_begin_96 (by decide) ?_
  refine tist (x := 0) hC hK hH t_qq77_ rfl (iIn (by decide) (by decide)) (iRg _).1 (iRg _).2 dX1_begin_97 (fun Hq_ lcq_ hH => ?_)
  refine lv_aload_n hx hb dX1_begin_98 rfl (lv_at hl 1 rfl) ?_
  refine tgr hC hK hH flX1_34 ht_h rfl rfl dX1_begin_99 (fun qq78_ t_qq78_ => ?_)
  refine lv_iload hx hb dX1_begin_102 (lv_at hl 0 rfl) ?_
  refine lv_iconst (v := -1) hx hb dX1_begin_104 (by decide) ?_
  refine tist (x := -1) hC hK hH t_qq78_ rfl (iIn (by decide) (by decide)) (iRg _).1 (iRg _).2 dX1_begin_105 (fun Hq_ lcq_ hH => ?_)
  refine lv_aload_n hx hb dX1_begin_106 rfl (lv_at hl 1 rfl) ?_
  refine tgr hC hK hH flX1_37 ht_h rfl rfl dX1_begin_107 (fun qq79_ t_qq79_ => ?_)
  refine lv_iload hx hb dX1_begin_110 (lv_at hl 0 rfl) ?_
  refine lv_iconst (v := 0) hx hb dX1_begin_112 (by decide) ?_
  refine tist (x := 0) hC hK hH t_qq79_ rfl (iIn (by decide) (by decide)) (iRg _).1 (iRg _).2 dX1_begin_113 (fun Hq_ lcq_ hH => ?_)
  refine lv_iinc (v := 14) (lv' := [(5, .int 14), (0, .ref h), (1, .int by_), (2, .int on), (3, .int to), (4, .int op)]) hx hb dX1_begin_114 hl (k := 0) rfl (by decide) (by decide) rfl (fun ls hl => ?_)
  refine lv_goto (tgt := 75) hx hb dX1_begin_117 (by decide) ?_
  refine lv_iload hx hb dX1_begin_75 (lv_at hl 0 rfl) ?_
  refine lv_bipush (v := 14) hx hb dX1_begin_77 (by decide) ?_
  refine jic_ge (tgt := 120) hx hb dX1_begin_79 (by decide) (fun cq80_ => ?_) (fun cq80_ => absurd cq80_ (by decide))
  exact ret_v hC hr hlk hK hH (⟨trivial, rfl, rfl⟩) (Nat.le_of_ble_eq_true rfl) (Nat.le_of_ble_eq_true rfl) dX1_begin_120
