theorem mmX4_28 : MML RX4 28 := ⟨TB_t 414 (by decide +kernel) rfl, TB_t 415 (by decide +kernel) rfl, TB_t 12 (by decide +kernel) rfl, TB_t 416 (by decide +kernel) rfl⟩
theorem cpX2_71 : CPL RX2 71 := ⟨TB_t 560 (by decide +kernel) rfl, TB_t 562 (by decide +kernel) rfl, TB_t 561 (by decide +kernel) rfl, TB_t 19 (by decide +kernel) rfl⟩
set_option maxHeartbeats 4000000 in
set_option maxRecDepth 100000 in
theorem c_X4_move {l : Launch} {D : va_G} {kA : Nat → ClassId} {M : mM} {T : mT} {sz : Nat} {rd nb vb by_ : Nat} {no wi ki pl va : Int32} (hc_rd : M rd = some (.inr (3, [.ref nb, .ref vb, .int no, .int wi, .ref by_, .int 0, .int ki, .int pl, .int 0, .int va]))) : mCv l yX4_move cX4_move 1 0 0 0 D kA M T sz [.ref rd] (fun u => (u.1 rd = some (.inr (3, [.ref nb, .ref vb, .int no, .int wi, .ref by_, .int 0, .int 0, .int 0, .int 0, .int va]))) ∧ u.2 = T ∧ (∀ q, q ≠ rd → u.1 q = M q)) := by
  unfold mCv
  refine start_W (by decide) (Nat.le_of_ble_eq_true rfl) ?_
  intro p e s m below meth c ls hC hr hlk hnm hK hH hsz hl
  have hx := hC.1
  have hb := hC.2.1
  have hl : lv_has ls 1 [(0, .ref rd)] := hl
  have hF : ∀ q, q ≠ rd → M q = M q := fun q _ => rfl
  refine lv_aload_n hx hb dX4_move_0 rfl (lv_at hl 0 rfl) ?_
  refine lv_aload_n hx hb dX4_move_1 rfl (lv_at hl 0 rfl) ?_
  refine xg hC hK hH flX4_38 hc_rd rfl dX4_move_2 ?_
  refine yp (v := .int 0) hC hK hH flX4_51 hc_rd rfl rfl (Nat.le_of_ble_eq_true rfl) dX4_move_5 (fun H locs M1 hc_rd hfr hH => ?_)
  have hc_rd : M1 rd = some (.inr (3, [.ref nb, .ref vb, .int no, .int wi, .ref by_, .int 0, .int ki, .int 0, .int 0, .int va])) := hc_rd
  have hF : ∀ q, q ≠ rd → M1 q = M q := fun q h0 => (hfr q h0).trans (hF q h0)
  refine lv_aload_n hx hb dX4_move_8 rfl (lv_at hl 0 rfl) ?_
  refine xg hC hK hH flX4_51 hc_rd rfl dX4_move_9 ?_
  refine lv_aload_n hx hb dX4_move_12 rfl (lv_at hl 0 rfl) ?_
  refine xg hC hK hH flX4_34 hc_rd rfl dX4_move_13 ?_
  refine jic_ge (tgt := 60) hx hb dX4_move_16 (by decide) (fun c2 => ?_) (fun c2 => absurd c2 (by decide))
  refine lv_aload_n hx hb dX4_move_60 rfl (lv_at hl 0 rfl) ?_
  refine lv_aload_n hx hb dX4_move_61 rfl (lv_at hl 0 rfl) ?_
  refine xg hC hK hH flX4_51 hc_rd rfl dX4_move_62 ?_
  refine yp (v := .int 0) hC hK hH flX4_38 hc_rd rfl rfl (Nat.le_of_ble_eq_true rfl) dX4_move_65 (fun H locs M3 hc_rd hfr hH => ?_)
  have hc_rd : M3 rd = some (.inr (3, [.ref nb, .ref vb, .int no, .int wi, .ref by_, .int 0, .int ki, .int 0, .int 0, .int va])) := hc_rd
  have hF : ∀ q, q ≠ rd → M3 q = M q := fun q h0 => (hfr q h0).trans (hF q h0)
  refine lv_aload_n hx hb dX4_move_68 rfl (lv_at hl 0 rfl) ?_
  refine xg hC hK hH flX4_51 hc_rd rfl dX4_move_69 ?_
  refine lv_aload_n hx hb dX4_move_72 rfl (lv_at hl 0 rfl) ?_
  refine xg hC hK hH flX4_34 hc_rd rfl dX4_move_73 ?_
  refine jic_lt (tgt := 87) hx hb dX4_move_76 (by decide) (fun c4 => absurd c4 (by decide)) (fun c4 => ?_)
  refine lv_aload_n hx hb dX4_move_79 rfl (lv_at hl 0 rfl) ?_
  refine lv_iconst (v := 0) hx hb dX4_move_80 (by decide) ?_
  refine yp (v := .int 0) hC hK hH flX4_44 hc_rd rfl rfl (Nat.le_of_ble_eq_true rfl) dX4_move_81 (fun H locs M5 hc_rd hfr hH => ?_)
  have hc_rd : M5 rd = some (.inr (3, [.ref nb, .ref vb, .int no, .int wi, .ref by_, .int 0, .int 0, .int 0, .int 0, .int va])) := hc_rd
  have hF : ∀ q, q ≠ rd → M5 q = M q := fun q h0 => (hfr q h0).trans (hF q h0)
  refine lv_goto (tgt := 156) hx hb dX4_move_84 (by decide) ?_
  exact ret_v hC hr hlk hK hH (⟨hc_rd, rfl, hF⟩) (Nat.le_of_ble_eq_true rfl) (Nat.le_of_ble_eq_true rfl) dX4_move_156
set_option maxHeartbeats 4000000 in
set_option maxRecDepth 100000 in
theorem c_X4_open {l : Launch} {D : va_G} {kA : Nat → ClassId} {M : mM} {T : mT} {sz : Nat} {rd nb vb by_ : Nat} {no wi le ki pl be va : Int32} {tp : Nat} (hc_rd : M rd = some (.inr (3, [.ref nb, .ref vb, .int no, .int wi, .ref by_, .int le, .int ki, .int pl, .int be, .int va]))) (ht_tp : T tp = some 7) : mCv l yX4_open cX4_open 3 1 0 0 D kA M T sz [.ref rd, .ref tp, .int 0] (fun u => (u.1 rd = some (.inr (3, [.ref nb, .ref vb, .int no, .int wi, .ref tp, .int 0, .int 0, .int 0, .int 0, .int va]))) ∧ u.2 = T ∧ (∀ q, q ≠ rd → u.1 q = M q)) := by
  unfold mCv
  refine start_W (by decide) (Nat.le_of_ble_eq_true rfl) ?_
  intro p e s m below meth c ls hC hr hlk hnm hK hH hsz hl
  have hx := hC.1
  have hb := hC.2.1
  have hl : lv_has ls 3 [(0, .ref rd), (1, .ref tp), (2, .int 0)] := hl
  have hF : ∀ q, q ≠ rd → M q = M q := fun q _ => rfl
  refine lv_aload_n hx hb dX4_open_0 rfl (lv_at hl 0 rfl) ?_
  refine lv_aload_n hx hb dX4_open_1 rfl (lv_at hl 1 rfl) ?_
  refine yp (v := .ref tp) hC hK hH flX4_24 hc_rd rfl rfl (Nat.le_of_ble_eq_true rfl) dX4_open_2 (fun H locs M1 hc_rd hfr hH => ?_)
  have hc_rd : M1 rd = some (.inr (3, [.ref nb, .ref vb, .int no, .int wi, .ref tp, .int le, .int ki, .int pl, .int be, .int va])) := hc_rd
  have hF : ∀ q, q ≠ rd → M1 q = M q := fun q h0 => (hfr q h0).trans (hF q h0)
  refine lv_aload_n hx hb dX4_open_5 rfl (lv_at hl 0 rfl) ?_
  refine lv_iload_n hx hb dX4_open_6 rfl (lv_at hl 2 rfl) ?_
  refine lv_aload_n hx hb dX4_open_7 rfl (lv_at hl 1 rfl) ?_
  refine tlen (v := 600) hC hK hH ht_tp rfl rfl rfl dX4_open_8 ?_
  refine xmin hC hl.1 mmX4_28 (Nat.le_of_ble_eq_true rfl) (Nat.le_of_ble_eq_true rfl) (Nat.le_of_ble_eq_true rfl) (Nat.le_of_ble_eq_true rfl) dX4_open_9 ?_
  refine lv_cst (v := 0) (by decide) ?_
  refine yp (v := .int 0) hC hK hH flX4_34 hc_rd rfl rfl (Nat.le_of_ble_eq_true rfl) dX4_open_12 (fun H locs M2 hc_rd hfr hH => ?_)
  have hc_rd : M2 rd = some (.inr (3, [.ref nb, .ref vb, .int no, .int wi, .ref tp, .int 0, .int ki, .int pl, .int be, .int va])) := hc_rd
  have hF : ∀ q, q ≠ rd → M2 q = M q := fun q h0 => (hfr q h0).trans (hF q h0)
  refine lv_aload_n hx hb dX4_open_15 rfl (lv_at hl 0 rfl) ?_
  refine lv_iconst (v := 0) hx hb dX4_open_16 (by decide) ?_
  refine yp (v := .int 0) hC hK hH flX4_38 hc_rd rfl rfl (Nat.le_of_ble_eq_true rfl) dX4_open_17 (fun H locs M3 hc_rd hfr hH => ?_)
  have hc_rd : M3 rd = some (.inr (3, [.ref nb, .ref vb, .int no, .int wi, .ref tp, .int 0, .int ki, .int pl, .int 0, .int va])) := hc_rd
  have hF : ∀ q, q ≠ rd → M3 q = M q := fun q h0 => (hfr q h0).trans (hF q h0)
  refine lv_aload_n hx hb dX4_open_20 rfl (lv_at hl 0 rfl) ?_
  refine goV hK hH (runV (As := []) (rest := []) hC hK hH (c_X4_move hc_rd) mlX4_41 (rcvM hK hH hc_rd rfl) ⟨⟨Nat.le_of_ble_eq_true rfl, Nat.le_of_ble_eq_true rfl⟩, Nat.le_of_ble_eq_true rfl, Nat.le_of_ble_eq_true rfl⟩ rfl hl.1 rfl (Nat.le_of_ble_eq_true rfl) dX4_open_21) (fun M4 T5 H locs hP hz hH => ?_)
  try dsimp only at hP
  obtain ⟨(hx_rd), eT, hfr⟩ := hP
  have eT := eT.symm; subst eT
  have hc_rd : M4 rd = some (.inr (3, [.ref nb, .ref vb, .int no, .int wi, .ref tp, .int 0, .int 0, .int 0, .int 0, .int va])) := hx_rd
  have hF : ∀ q, q ≠ rd → M4 q = M q := fun q h0 => (hfr q h0).trans (hF q h0)
  exact ret_v hC hr hlk hK hH (⟨hc_rd, rfl, hF⟩) (Nat.le_of_ble_eq_true rfl) (Nat.le_of_ble_eq_true rfl) dX4_open_24
set_option maxHeartbeats 4000000 in
set_option maxRecDepth 100000 in
theorem c_X4_atEnd {l : Launch} {D : va_G} {kA : Nat → ClassId} {M : mM} {T : mT} {sz : Nat} {rd nb vb by_ : Nat} {no wi le pl be va : Int32} (hc_rd : M rd = some (.inr (3, [.ref nb, .ref vb, .int no, .int wi, .ref by_, .int le, .int 0, .int pl, .int be, .int va]))) : mCi l yX4_atEnd cX4_atEnd 1 (some .boolean) 0 0 0 D kA M T sz [.ref rd] (fun r u => (r = 1) ∧ u.2 = T ∧ u.1 = M) := by
  unfold mCi
  refine start_W (by decide) (Nat.le_of_ble_eq_true rfl) ?_
  intro p e s m below meth c ls hC hr hlk hnm hK hH hsz hl
  have hx := hC.1
  have hb := hC.2.1
  have hl : lv_has ls 1 [(0, .ref rd)] := hl
  refine lv_aload_n hx hb dX4_atEnd_0 rfl (lv_at hl 0 rfl) ?_
  refine xg hC hK hH flX4_44 hc_rd rfl dX4_atEnd_1 ?_
  refine jif_ne (tgt := 11) hx hb dX4_atEnd_4 (by decide) (fun c1 => absurd c1 (by decide)) (fun c1 => ?_)
  refine lv_iconst (v := 1) hx hb dX4_atEnd_7 (by decide) ?_
  refine lv_goto (tgt := 12) hx hb dX4_atEnd_8 (by decide) ?_
  exact ret_z hC hr hlk hK hH (by first | exact Or.inl rfl | exact Or.inr rfl | assumption) (⟨rfl, rfl, rfl⟩) (Nat.le_of_ble_eq_true rfl) (Nat.le_of_ble_eq_true rfl) dX4_atEnd_12
set_option maxHeartbeats 4000000 in
set_option maxRecDepth 100000 in
theorem c_X4_faultPlace {l : Launch} {D : va_G} {kA : Nat → ClassId} {M : mM} {T : mT} {sz : Nat} {rd nb vb by_ : Nat} {no wi pl be va : Int32} (hc_rd : M rd = some (.inr (3, [.ref nb, .ref vb, .int no, .int wi, .ref by_, .int 0, .int 0, .int pl, .int be, .int va]))) : mCi l yX4_faultPlace cX4_faultPlace 2 (some .int) 0 0 0 D kA M T sz [.ref rd] (fun r u => (r = -1) ∧ u.2 = T ∧ u.1 = M) := by
  unfold mCi
  refine start_W (by decide) (Nat.le_of_ble_eq_true rfl) ?_
  intro p e s m below meth c ls hC hr hlk hnm hK hH hsz hl
  have hx := hC.1
  have hb := hC.2.1
  have hl : lv_has ls 2 [(0, .ref rd)] := hl
  refine lv_iconst (v := 0) hx hb dX4_faultPlace_0 (by decide) ?_
  refine lv_istore_n (lv' := [(1, .int 0), (0, .ref rd)]) hx hb dX4_faultPlace_1 rfl hl (by decide) rfl (fun ls hl => ?_)
  refine lv_iload_n hx hb dX4_faultPlace_2 rfl (lv_at hl 0 rfl) ?_
  refine lv_aload_n hx hb dX4_faultPlace_3 rfl (lv_at hl 1 rfl) ?_
  refine xg hC hK hH flX4_34 hc_rd rfl dX4_faultPlace_4 ?_
  refine jic_gt (tgt := 35) hx hb dX4_faultPlace_7 (by decide) (fun c1 => absurd c1 (by decide)) (fun c1 => ?_)
  refine lv_aload_n hx hb dX4_faultPlace_10 rfl (lv_at hl 1 rfl) ?_
  refine xg hC hK hH flX4_44 hc_rd rfl dX4_faultPlace_11 ?_
  refine jif_eq (tgt := 35) hx hb dX4_faultPlace_14 (by decide) (fun c2 => ?_) (fun c2 => absurd c2 (by decide))
  refine lv_iconst (v := -1) hx hb dX4_faultPlace_35 (by decide) ?_
  exact ret_i hC hr hlk hK hH (⟨rfl, rfl, rfl⟩) (Nat.le_of_ble_eq_true rfl) (Nat.le_of_ble_eq_true rfl) dX4_faultPlace_36
set_option maxHeartbeats 4000000 in
set_option maxRecDepth 100000 in
theorem c_X9_text {l : Launch} {D : va_G} {kA : Nat → ClassId} {M : mM} {T : mT} {sz : Nat} {ro im rc cu : Nat}{w cs bs tp : Nat}{rd nb vb by_ : Nat} {no wi le ki pl be va : Int32} {an : Int32} {f : Nat → Int32} (hc_ro : M ro = some (.inr (7, [.ref w, .ref im, .ref rd, .ref rc, .ref cu]))) (hc_w : M w = some (.inr (6, [.int 0, .int 2, .int 0, .int 0, .int 0, .int 0, .int 0, .int (-1), .ref cs, .ref bs, .ref tp]))) (hc_cs : M cs = some (.inl (kA 0, 8, .inl (c100 f)))) (hc_rd : M rd = some (.inr (3, [.ref nb, .ref vb, .int no, .int wi, .ref by_, .int le, .int ki, .int pl, .int be, .int va]))) (ht_tp : T tp = some 7) : mCi l yX9_text cX9_text 4 (some .int) 2 0 0 D kA M T sz [.ref ro, .int an] (fun r u => (r = 0) ∧ u.2 = T ∧ (∀ q, q ≠ w → q ≠ cs → q ≠ rd → u.1 q = M q)) := by
  unfold mCi
  refine start_W (by decide) (Nat.le_of_ble_eq_true rfl) ?_
  intro p e s m below meth c ls hC hr hlk hnm hK hH hsz hl
  have hx := hC.1
  have hb := hC.2.1
  have hl : lv_has ls 4 [(0, .ref ro), (1, .int an)] := hl
  have hF : ∀ q, q ≠ w → q ≠ cs → q ≠ rd → M q = M q := fun q _ _ _ => rfl
  have n_ro_w : ro ≠ w := neM hc_ro hc_w (by simp)
  have n_ro_cs : ro ≠ cs := neM hc_ro hc_cs (by simp)
  have n_ro_rd : ro ≠ rd := neM hc_ro hc_rd (by simp)
  have n_w_ro : w ≠ ro := neM hc_w hc_ro (by simp)
  have n_w_cs : w ≠ cs := neM hc_w hc_cs (by simp)
  have n_w_rd : w ≠ rd := neM hc_w hc_rd (by simp)
  have n_cs_ro : cs ≠ ro := neM hc_cs hc_ro (by simp)
  have n_cs_w : cs ≠ w := neM hc_cs hc_w (by simp)
  have n_cs_rd : cs ≠ rd := neM hc_cs hc_rd (by simp)
  have n_rd_ro : rd ≠ ro := neM hc_rd hc_ro (by simp)
  have n_rd_w : rd ≠ w := neM hc_rd hc_w (by simp)
  have n_rd_cs : rd ≠ cs := neM hc_rd hc_cs (by simp)
  refine lv_aload_n hx hb dX9_text_0 rfl (lv_at hl 0 rfl) ?_
  refine xg hC hK hH flX9_12 hc_ro rfl dX9_text_1 ?_
  refine xg hC hK hH flX9_45 hc_w rfl dX9_text_4 ?_
  refine lv_istore_n (lv' := [(2, .int 0), (0, .ref ro), (1, .int an)]) hx hb dX9_text_7 rfl hl (by decide) rfl (fun ls hl => ?_)
  refine lv_aload_n hx hb dX9_text_8 rfl (lv_at hl 1 rfl) ?_
  refine xg hC hK hH flX9_12 hc_ro rfl dX9_text_9 ?_
  refine lv_iconst (v := 0) hx hb dX9_text_12 (by decide) ?_
  refine yp (v := .int 0) hC hK hH flX9_45 hc_w rfl rfl (Nat.le_of_ble_eq_true rfl) dX9_text_13 (fun H locs M1 hc_w hfr hH => ?_)
  have hc_w : M1 w = some (.inr (6, [.int 0, .int 2, .int 0, .int 0, .int 0, .int 0, .int 0, .int (-1), .ref cs, .ref bs, .ref tp])) := hc_w
  have hc_ro : M1 ro = some (.inr (7, [.ref w, .ref im, .ref rd, .ref rc, .ref cu])) := (hfr ro n_ro_w).trans hc_ro
  have hc_cs : M1 cs = some (.inl (kA 0, 8, .inl (c100 f))) := (hfr cs n_cs_w).trans hc_cs
  have hc_rd : M1 rd = some (.inr (3, [.ref nb, .ref vb, .int no, .int wi, .ref by_, .int le, .int ki, .int pl, .int be, .int va])) := (hfr rd n_rd_w).trans hc_rd
  have hF : ∀ q, q ≠ w → q ≠ cs → q ≠ rd → M1 q = M q := fun q h0 h1 h2 => (hfr q h0).trans (hF q h0 h1 h2)
  refine lv_iload_n hx hb dX9_text_16 rfl (lv_at hl 2 rfl) ?_
  refine jif_eq (tgt := 27) hx hb dX9_text_17 (by decide) (fun c2 => ?_) (fun c2 => ?_)
  · skip
    have c2 : an.toInt = 0 := c2
    refine lv_aload_n hx hb dX9_text_27 rfl (lv_at hl 1 rfl) ?_
    refine xg hC hK hH flX9_23 hc_ro rfl dX9_text_28 ?_
    refine lv_aload_n hx hb dX9_text_31 rfl (lv_at hl 1 rfl) ?_
    refine xg hC hK hH flX9_12 hc_ro rfl dX9_text_32 ?_
    refine xg hC hK hH flX9_52 hc_w rfl dX9_text_35 ?_
    refine lv_iload_n hx hb dX9_text_38 rfl (lv_at hl 0 rfl) ?_
    refine goV hK hH (runV (As := [.ref tp, .int 0]) (rest := []) hC hK hH (c_X4_open hc_rd ht_tp) mlX9_56 (rcvM hK hH hc_rd rfl) ⟨⟨Nat.le_of_ble_eq_true rfl, Nat.le_of_ble_eq_true rfl⟩, Nat.le_of_ble_eq_true rfl, Nat.le_of_ble_eq_true rfl⟩ rfl hl.1 rfl (Nat.le_of_ble_eq_true rfl) dX9_text_39) (fun M3 T4 H locs hP hz hH => ?_)
    try dsimp only at hP
    obtain ⟨(hx_rd), eT, hfr⟩ := hP
    have eT := eT.symm; subst eT
    have hc_ro : M3 ro = some (.inr (7, [.ref w, .ref im, .ref rd, .ref rc, .ref cu])) := (hfr ro n_ro_rd).trans hc_ro
    have hc_w : M3 w = some (.inr (6, [.int 0, .int 2, .int 0, .int 0, .int 0, .int 0, .int 0, .int (-1), .ref cs, .ref bs, .ref tp])) := (hfr w n_w_rd).trans hc_w
    have hc_cs : M3 cs = some (.inl (kA 0, 8, .inl (c100 f))) := (hfr cs n_cs_rd).trans hc_cs
    have hc_rd : M3 rd = some (.inr (3, [.ref nb, .ref vb, .int no, .int wi, .ref tp, .int 0, .int 0, .int 0, .int 0, .int va])) := hx_rd
    have hF : ∀ q, q ≠ w → q ≠ cs → q ≠ rd → M3 q = M q := fun q h0 h1 h2 => (hfr q h2).trans (hF q h0 h1 h2)
    refine lv_aload_n hx hb dX9_text_42 rfl (lv_at hl 1 rfl) ?_
    refine xg hC hK hH flX9_12 hc_ro rfl dX9_text_43 ?_
    refine lv_aload_n hx hb dX9_text_46 rfl (lv_at hl 1 rfl) ?_
    refine xg hC hK hH flX9_23 hc_ro rfl dX9_text_47 ?_
    refine goI hK hH (runV (As := []) (rest := [.ref w]) hC hK hH (c_X4_faultPlace hc_rd) mlX9_60 (rcvM hK hH hc_rd rfl) ⟨⟨Nat.le_of_ble_eq_true rfl, Nat.le_of_ble_eq_true rfl⟩, Nat.le_of_ble_eq_true rfl, Nat.le_of_ble_eq_true rfl⟩ rfl hl.1 rfl (Nat.le_of_ble_eq_true rfl) dX9_text_50) (fun r8 M6 T7 H locs hP hz hH => ?_)
    try dsimp only at hP
    obtain ⟨(rfl), eT, eM⟩ := hP
    have eT := eT.symm; subst eT
    have eM := eM.symm; subst eM
    refine yp (v := .int (-1)) hC hK hH flX9_64 hc_w rfl rfl (Nat.le_of_ble_eq_true rfl) dX9_text_53 (fun H locs M9 hc_w hfr hH => ?_)
    have hc_w : M9 w = some (.inr (6, [.int 0, .int 2, .int 0, .int 0, .int 0, .int 0, .int 0, .int (-1), .ref cs, .ref bs, .ref tp])) := hc_w
    have hc_ro : M9 ro = some (.inr (7, [.ref w, .ref im, .ref rd, .ref rc, .ref cu])) := (hfr ro n_ro_w).trans hc_ro
    have hc_cs : M9 cs = some (.inl (kA 0, 8, .inl (c100 f))) := (hfr cs n_cs_w).trans hc_cs
    have hc_rd : M9 rd = some (.inr (3, [.ref nb, .ref vb, .int no, .int wi, .ref tp, .int 0, .int 0, .int 0, .int 0, .int va])) := (hfr rd n_rd_w).trans hc_rd
    have hF : ∀ q, q ≠ w → q ≠ cs → q ≠ rd → M9 q = M q := fun q h0 h1 h2 => (hfr q h0).trans (hF q h0 h1 h2)
    refine lv_aload_n hx hb dX9_text_56 rfl (lv_at hl 1 rfl) ?_
    refine xg hC hK hH flX9_12 hc_ro rfl dX9_text_57 ?_
    refine xg hC hK hH flX9_64 hc_w rfl dX9_text_60 ?_
    refine lv_iconst (v := -1) hx hb dX9_text_63 (by decide) ?_
    refine jic_eq (tgt := 69) hx hb dX9_text_64 (by decide) (fun c10 => ?_) (fun c10 => absurd c10 (by decide))
    refine lv_aload_n hx hb dX9_text_69 rfl (lv_at hl 1 rfl) ?_
    refine xg hC hK hH flX9_23 hc_ro rfl dX9_text_70 ?_
    refine lv_aload_n hx hb dX9_text_73 rfl (lv_at hl 1 rfl) ?_
    refine xg hC hK hH flX9_12 hc_ro rfl dX9_text_74 ?_
    refine xg hC hK hH flX9_52 hc_w rfl dX9_text_77 ?_
    refine lv_iload_n hx hb dX9_text_80 rfl (lv_at hl 0 rfl) ?_
    refine goV hK hH (runV (As := [.ref tp, .int 0]) (rest := []) hC hK hH (c_X4_open hc_rd ht_tp) mlX9_56 (rcvM hK hH hc_rd rfl) ⟨⟨Nat.le_of_ble_eq_true rfl, Nat.le_of_ble_eq_true rfl⟩, Nat.le_of_ble_eq_true rfl, Nat.le_of_ble_eq_true rfl⟩ rfl hl.1 rfl (Nat.le_of_ble_eq_true rfl) dX9_text_81) (fun M11 T12 H locs hP hz hH => ?_)
    try dsimp only at hP
    obtain ⟨(hx_rd), eT, hfr⟩ := hP
    have eT := eT.symm; subst eT
    have hc_ro : M11 ro = some (.inr (7, [.ref w, .ref im, .ref rd, .ref rc, .ref cu])) := (hfr ro n_ro_rd).trans hc_ro
    have hc_w : M11 w = some (.inr (6, [.int 0, .int 2, .int 0, .int 0, .int 0, .int 0, .int 0, .int (-1), .ref cs, .ref bs, .ref tp])) := (hfr w n_w_rd).trans hc_w
    have hc_cs : M11 cs = some (.inl (kA 0, 8, .inl (c100 f))) := (hfr cs n_cs_rd).trans hc_cs
    have hc_rd : M11 rd = some (.inr (3, [.ref nb, .ref vb, .int no, .int wi, .ref tp, .int 0, .int 0, .int 0, .int 0, .int va])) := hx_rd
    have hF : ∀ q, q ≠ w → q ≠ cs → q ≠ rd → M11 q = M q := fun q h0 h1 h2 => (hfr q h2).trans (hF q h0 h1 h2)
    refine lv_iconst (v := 0) hx hb dX9_text_84 (by decide) ?_
    refine lv_istore_n (lv' := [(3, .int 0), (2, .int 0), (0, .ref ro), (1, .int an)]) hx hb dX9_text_85 rfl hl (by decide) rfl (fun ls hl => ?_)
    refine lv_iload_n hx hb dX9_text_86 rfl (lv_at hl 0 rfl) ?_
    refine lv_sipush (v := 600) hx hb dX9_text_87 (by decide) ?_
    refine jic_ge (tgt := 133) hx hb dX9_text_90 (by decide) (fun c14 => absurd c14 (by decide)) (fun c14 => ?_)
    refine lv_aload_n hx hb dX9_text_93 rfl (lv_at hl 2 rfl) ?_
    refine xg hC hK hH flX9_23 hc_ro rfl dX9_text_94 ?_
    refine goI hK hH (runV (As := []) (rest := []) hC hK hH (c_X4_atEnd hc_rd) mlX9_66 (rcvM hK hH hc_rd rfl) ⟨⟨Nat.le_of_ble_eq_true rfl, Nat.le_of_ble_eq_true rfl⟩, Nat.le_of_ble_eq_true rfl, Nat.le_of_ble_eq_true rfl⟩ rfl hl.1 rfl (Nat.le_of_ble_eq_true rfl) dX9_text_97) (fun r17 M15 T16 H locs hP hz hH => ?_)
    try dsimp only at hP
    obtain ⟨(rfl), eT, eM⟩ := hP
    have eT := eT.symm; subst eT
    have eM := eM.symm; subst eM
    refine jif_ne (tgt := 133) hx hb dX9_text_100 (by decide) (fun c18 => ?_) (fun c18 => absurd c18 (by decide))
    refine lv_iload_n hx hb dX9_text_133 rfl (lv_at hl 0 rfl) ?_
    exact ret_i hC hr hlk hK hH (⟨rfl, rfl, hF⟩) (Nat.le_of_ble_eq_true rfl) (Nat.le_of_ble_eq_true rfl) dX9_text_134
  · skip
    have c2 : an.toInt ≠ 0 := c2
    refine lv_aload_n hx hb dX9_text_20 rfl (lv_at hl 1 rfl) ?_
    refine xg hC hK hH flX9_12 hc_ro rfl dX9_text_21 ?_
    refine goV hK hH (runV (As := []) (rest := []) hC hK hH (c_X8_begin hc_w hc_cs) mlX9_49 (rcvM hK hH hc_w rfl) ⟨⟨Nat.le_of_ble_eq_true rfl, Nat.le_of_ble_eq_true rfl⟩, Nat.le_of_ble_eq_true rfl, Nat.le_of_ble_eq_true rfl⟩ rfl hl.1 rfl (Nat.le_of_ble_eq_true rfl) dX9_text_24) (fun M19 T20 H locs hP hz hH => ?_)
    try dsimp only at hP
    obtain ⟨(⟨hx_w, hx_cs⟩), eT, hfr⟩ := hP
    have eT := eT.symm; subst eT
    have hc_ro : M19 ro = some (.inr (7, [.ref w, .ref im, .ref rd, .ref rc, .ref cu])) := (hfr ro n_ro_w n_ro_cs).trans hc_ro
    have hc_w : M19 w = some (.inr (6, [.int 0, .int 2, .int 0, .int 0, .int 0, .int 0, .int 0, .int (-1), .ref cs, .ref bs, .ref tp])) := hx_w
    have hc_cs : M19 cs = some (.inl (kA 0, 8, .inl (c100 (c100 f)))) := hx_cs
    have hc_rd : M19 rd = some (.inr (3, [.ref nb, .ref vb, .int no, .int wi, .ref by_, .int le, .int ki, .int pl, .int be, .int va])) := (hfr rd n_rd_w n_rd_cs).trans hc_rd
    have hF : ∀ q, q ≠ w → q ≠ cs → q ≠ rd → M19 q = M q := fun q h0 h1 h2 => (hfr q h0 h1).trans (hF q h0 h1 h2)
    refine lv_aload_n hx hb dX9_text_27 rfl (lv_at hl 1 rfl) ?_
    refine xg hC hK hH flX9_23 hc_ro rfl dX9_text_28 ?_
    refine lv_aload_n hx hb dX9_text_31 rfl (lv_at hl 1 rfl) ?_
    refine xg hC hK hH flX9_12 hc_ro rfl dX9_text_32 ?_
    refine xg hC hK hH flX9_52 hc_w rfl dX9_text_35 ?_
    refine lv_iload_n hx hb dX9_text_38 rfl (lv_at hl 0 rfl) ?_
    refine goV hK hH (runV (As := [.ref tp, .int 0]) (rest := []) hC hK hH (c_X4_open hc_rd ht_tp) mlX9_56 (rcvM hK hH hc_rd rfl) ⟨⟨Nat.le_of_ble_eq_true rfl, Nat.le_of_ble_eq_true rfl⟩, Nat.le_of_ble_eq_true rfl, Nat.le_of_ble_eq_true rfl⟩ rfl hl.1 rfl (Nat.le_of_ble_eq_true rfl) dX9_text_39) (fun M22 T23 H locs hP hz hH => ?_)
    try dsimp only at hP
    obtain ⟨(hx_rd), eT, hfr⟩ := hP
    have eT := eT.symm; subst eT
    have hc_ro : M22 ro = some (.inr (7, [.ref w, .ref im, .ref rd, .ref rc, .ref cu])) := (hfr ro n_ro_rd).trans hc_ro
    have hc_w : M22 w = some (.inr (6, [.int 0, .int 2, .int 0, .int 0, .int 0, .int 0, .int 0, .int (-1), .ref cs, .ref bs, .ref tp])) := (hfr w n_w_rd).trans hc_w
    have hc_cs : M22 cs = some (.inl (kA 0, 8, .inl (c100 (c100 f)))) := (hfr cs n_cs_rd).trans hc_cs
    have hc_rd : M22 rd = some (.inr (3, [.ref nb, .ref vb, .int no, .int wi, .ref tp, .int 0, .int 0, .int 0, .int 0, .int va])) := hx_rd
    have hF : ∀ q, q ≠ w → q ≠ cs → q ≠ rd → M22 q = M q := fun q h0 h1 h2 => (hfr q h2).trans (hF q h0 h1 h2)
    refine lv_aload_n hx hb dX9_text_42 rfl (lv_at hl 1 rfl) ?_
    refine xg hC hK hH flX9_12 hc_ro rfl dX9_text_43 ?_
    refine lv_aload_n hx hb dX9_text_46 rfl (lv_at hl 1 rfl) ?_
    refine xg hC hK hH flX9_23 hc_ro rfl dX9_text_47 ?_
    refine goI hK hH (runV (As := []) (rest := [.ref w]) hC hK hH (c_X4_faultPlace hc_rd) mlX9_60 (rcvM hK hH hc_rd rfl) ⟨⟨Nat.le_of_ble_eq_true rfl, Nat.le_of_ble_eq_true rfl⟩, Nat.le_of_ble_eq_true rfl, Nat.le_of_ble_eq_true rfl⟩ rfl hl.1 rfl (Nat.le_of_ble_eq_true rfl) dX9_text_50) (fun r27 M25 T26 H locs hP hz hH => ?_)
    try dsimp only at hP
    obtain ⟨(rfl), eT, eM⟩ := hP
    have eT := eT.symm; subst eT
    have eM := eM.symm; subst eM
    refine yp (v := .int (-1)) hC hK hH flX9_64 hc_w rfl rfl (Nat.le_of_ble_eq_true rfl) dX9_text_53 (fun H locs M28 hc_w hfr hH => ?_)
    have hc_w : M28 w = some (.inr (6, [.int 0, .int 2, .int 0, .int 0, .int 0, .int 0, .int 0, .int (-1), .ref cs, .ref bs, .ref tp])) := hc_w
    have hc_ro : M28 ro = some (.inr (7, [.ref w, .ref im, .ref rd, .ref rc, .ref cu])) := (hfr ro n_ro_w).trans hc_ro
    have hc_cs : M28 cs = some (.inl (kA 0, 8, .inl (c100 (c100 f)))) := (hfr cs n_cs_w).trans hc_cs
    have hc_rd : M28 rd = some (.inr (3, [.ref nb, .ref vb, .int no, .int wi, .ref tp, .int 0, .int 0, .int 0, .int 0, .int va])) := (hfr rd n_rd_w).trans hc_rd
    have hF : ∀ q, q ≠ w → q ≠ cs → q ≠ rd → M28 q = M q := fun q h0 h1 h2 => (hfr q h0).trans (hF q h0 h1 h2)
    refine lv_aload_n hx hb dX9_text_56 rfl (lv_at hl 1 rfl) ?_
    refine xg hC hK hH flX9_12 hc_ro rfl dX9_text_57 ?_
    refine xg hC hK hH flX9_64 hc_w rfl dX9_text_60 ?_
    refine lv_iconst (v := -1) hx hb dX9_text_63 (by decide) ?_
    refine jic_eq (tgt := 69) hx hb dX9_text_64 (by decide) (fun c29 => ?_) (fun c29 => absurd c29 (by decide))
    refine lv_aload_n hx hb dX9_text_69 rfl (lv_at hl 1 rfl) ?_
    refine xg hC hK hH flX9_23 hc_ro rfl dX9_text_70 ?_
    refine lv_aload_n hx hb dX9_text_73 rfl (lv_at hl 1 rfl) ?_
    refine xg hC hK hH flX9_12 hc_ro rfl dX9_text_74 ?_
    refine xg hC hK hH flX9_52 hc_w rfl dX9_text_77 ?_
    refine lv_iload_n hx hb dX9_text_80 rfl (lv_at hl 0 rfl) ?_
    refine goV hK hH (runV (As := [.ref tp, .int 0]) (rest := []) hC hK hH (c_X4_open hc_rd ht_tp) mlX9_56 (rcvM hK hH hc_rd rfl) ⟨⟨Nat.le_of_ble_eq_true rfl, Nat.le_of_ble_eq_true rfl⟩, Nat.le_of_ble_eq_true rfl, Nat.le_of_ble_eq_true rfl⟩ rfl hl.1 rfl (Nat.le_of_ble_eq_true rfl) dX9_text_81) (fun M30 T31 H locs hP hz hH => ?_)
    try dsimp only at hP
    obtain ⟨(hx_rd), eT, hfr⟩ := hP
    have eT := eT.symm; subst eT
    have hc_ro : M30 ro = some (.inr (7, [.ref w, .ref im, .ref rd, .ref rc, .ref cu])) := (hfr ro n_ro_rd).trans hc_ro
    have hc_w : M30 w = some (.inr (6, [.int 0, .int 2, .int 0, .int 0, .int 0, .int 0, .int 0, .int (-1), .ref cs, .ref bs, .ref tp])) := (hfr w n_w_rd).trans hc_w
    have hc_cs : M30 cs = some (.inl (kA 0, 8, .inl (c100 (c100 f)))) := (hfr cs n_cs_rd).trans hc_cs
    have hc_rd : M30 rd = some (.inr (3, [.ref nb, .ref vb, .int no, .int wi, .ref tp, .int 0, .int 0, .int 0, .int 0, .int va])) := hx_rd
    have hF : ∀ q, q ≠ w → q ≠ cs → q ≠ rd → M30 q = M q := fun q h0 h1 h2 => (hfr q h2).trans (hF q h0 h1 h2)
    refine lv_iconst (v := 0) hx hb dX9_text_84 (by decide) ?_
    refine lv_istore_n (lv' := [(3, .int 0), (2, .int 0), (0, .ref ro), (1, .int an)]) hx hb dX9_text_85 rfl hl (by decide) rfl (fun ls hl => ?_)
    refine lv_iload_n hx hb dX9_text_86 rfl (lv_at hl 0 rfl) ?_
    refine lv_sipush (v := 600) hx hb dX9_text_87 (by decide) ?_
    refine jic_ge (tgt := 133) hx hb dX9_text_90 (by decide) (fun c33 => absurd c33 (by decide)) (fun c33 => ?_)
    refine lv_aload_n hx hb dX9_text_93 rfl (lv_at hl 2 rfl) ?_
    refine xg hC hK hH flX9_23 hc_ro rfl dX9_text_94 ?_
    refine goI hK hH (runV (As := []) (rest := []) hC hK hH (c_X4_atEnd hc_rd) mlX9_66 (rcvM hK hH hc_rd rfl) ⟨⟨Nat.le_of_ble_eq_true rfl, Nat.le_of_ble_eq_true rfl⟩, Nat.le_of_ble_eq_true rfl, Nat.le_of_ble_eq_true rfl⟩ rfl hl.1 rfl (Nat.le_of_ble_eq_true rfl) dX9_text_97) (fun r36 M34 T35 H locs hP hz hH => ?_)
    try dsimp only at hP
    obtain ⟨(rfl), eT, eM⟩ := hP
    have eT := eT.symm; subst eT
    have eM := eM.symm; subst eM
    refine jif_ne (tgt := 133) hx hb dX9_text_100 (by decide) (fun c37 => ?_) (fun c37 => absurd c37 (by decide))
    refine lv_iload_n hx hb dX9_text_133 rfl (lv_at hl 0 rfl) ?_
    exact ret_i hC hr hlk hK hH (⟨rfl, rfl, hF⟩) (Nat.le_of_ble_eq_true rfl) (Nat.le_of_ble_eq_true rfl) dX9_text_134
set_option maxHeartbeats 4000000 in
set_option maxRecDepth 100000 in
theorem c_J7_fill_53178 {l : Launch} {D : va_G} {kA : Nat → ClassId} {M : mM} {T : mT} {sz : Nat} {a : Nat} {x : Int32} (ht_a : T a = some 3) : mCv l yJ7_fill_53178 cJ7_fill_53178 4 0 0 0 D kA M T sz [.ref a, .int x] (fun u => (True) ∧ u.2 = T ∧ u.1 = M) := by
  unfold mCv
  refine start_W (by decide) (Nat.le_of_ble_eq_true rfl) ?_
  intro p e s m below meth c ls hC hr hlk hnm hK hH hsz hl
  have hx := hC.1
  have hb := hC.2.1
  have hl : lv_has ls 4 [(0, .ref a), (1, .int x)] := hl
  refine lv_iconst (v := 0) hx hb dJ7_fill_53178_0 (by decide) ?_
  refine lv_istore_n (lv' := [(2, .int 0), (0, .ref a), (1, .int x)]) hx hb dJ7_fill_53178_1 rfl hl (by decide) rfl (fun ls hl => ?_)
  refine lv_aload_n hx hb dJ7_fill_53178_2 rfl (lv_at hl 1 rfl) ?_
  refine tlen (v := 8) hC hK hH ht_a rfl rfl rfl dJ7_fill_53178_3 ?_
  refine lv_istore_n (lv' := [(3, .int 8), (2, .int 0), (0, .ref a), (1, .int x)]) hx hb dJ7_fill_53178_4 rfl hl (by decide) rfl (fun ls hl => ?_)
  refine lv_iload_n hx hb dJ7_fill_53178_5 rfl (lv_at hl 1 rfl) ?_
  refine lv_iload_n hx hb dJ7_fill_53178_6 rfl (lv_at hl 0 rfl) ?_
  refine jic_ge (tgt := 20) hx hb dJ7_fill_53178_7 (by decide) (fun c1 => absurd c1 (by decide)) (fun c1 => ?_)
  refine lv_aload_n hx hb dJ7_fill_53178_10 rfl (lv_at hl 2 rfl) ?_
  refine lv_iload_n hx hb dJ7_fill_53178_11 rfl (lv_at hl 1 rfl) ?_
  refine lv_iload_n hx hb dJ7_fill_53178_12 rfl (lv_at hl 3 rfl) ?_
  refine tist (x := x) hC hK hH ht_a rfl (iIn (by decide) (by decide)) (iRg _).1 (iRg _).2 dJ7_fill_53178_13 (fun H locs hH => ?_)
  refine lv_iinc (v := 1) (lv' := [(2, .int 1), (3, .int 8), (0, .ref a), (1, .int x)]) hx hb dJ7_fill_53178_14 hl (k := 1) rfl (by decide) (by decide) rfl (fun ls hl => ?_)
  refine lv_goto (tgt := 5) hx hb dJ7_fill_53178_17 (by decide) ?_
  refine lv_iload_n hx hb dJ7_fill_53178_5 rfl (lv_at hl 0 rfl) ?_
  refine lv_iload_n hx hb dJ7_fill_53178_6 rfl (lv_at hl 1 rfl) ?_
  refine jic_ge (tgt := 20) hx hb dJ7_fill_53178_7 (by decide) (fun c2 => absurd c2 (by decide)) (fun c2 => ?_)
  refine lv_aload_n hx hb dJ7_fill_53178_10 rfl (lv_at hl 2 rfl) ?_
  refine lv_iload_n hx hb dJ7_fill_53178_11 rfl (lv_at hl 0 rfl) ?_
  refine lv_iload_n hx hb dJ7_fill_53178_12 rfl (lv_at hl 3 rfl) ?_
  refine tist (x := x) hC hK hH ht_a rfl (iIn (by decide) (by decide)) (iRg _).1 (iRg _).2 dJ7_fill_53178_13 (fun H locs hH => ?_)
  refine lv_iinc (v := 2) (lv' := [(2, .int 2), (3, .int 8), (0, .ref a), (1, .int x)]) hx hb dJ7_fill_53178_14 hl (k := 0) rfl (by decide) (by decide) rfl (fun ls hl => ?_)
  refine lv_goto (tgt := 5) hx hb dJ7_fill_53178_17 (by decide) ?_
  refine lv_iload_n hx hb dJ7_fill_53178_5 rfl (lv_at hl 0 rfl) ?_
  refine lv_iload_n hx hb dJ7_fill_53178_6 rfl (lv_at hl 1 rfl) ?_
  refine jic_ge (tgt := 20) hx hb dJ7_fill_53178_7 (by decide) (fun c3 => absurd c3 (by decide)) (fun c3 => ?_)
  refine lv_aload_n hx hb dJ7_fill_53178_10 rfl (lv_at hl 2 rfl) ?_
  refine lv_iload_n hx hb dJ7_fill_53178_11 rfl (lv_at hl 0 rfl) ?_
  refine lv_iload_n hx hb dJ7_fill_53178_12 rfl (lv_at hl 3 rfl) ?_
  refine tist (x := x) hC hK hH ht_a rfl (iIn (by decide) (by decide)) (iRg _).1 (iRg _).2 dJ7_fill_53178_13 (fun H locs hH => ?_)
  refine lv_iinc (v := 3) (lv' := [(2, .int 3), (3, .int 8), (0, .ref a), (1, .int x)]) hx hb dJ7_fill_53178_14 hl (k := 0) rfl (by decide) (by decide) rfl (fun ls hl => ?_)
  refine lv_goto (tgt := 5) hx hb dJ7_fill_53178_17 (by decide) ?_
  refine lv_iload_n hx hb dJ7_fill_53178_5 rfl (lv_at hl 0 rfl) ?_
  refine lv_iload_n hx hb dJ7_fill_53178_6 rfl (lv_at hl 1 rfl) ?_
  refine jic_ge (tgt := 20) hx hb dJ7_fill_53178_7 (by decide) (fun c4 => absurd c4 (by decide)) (fun c4 => ?_)
  refine lv_aload_n hx hb dJ7_fill_53178_10 rfl (lv_at hl 2 rfl) ?_
  refine lv_iload_n hx hb dJ7_fill_53178_11 rfl (lv_at hl 0 rfl) ?_
  refine lv_iload_n hx hb dJ7_fill_53178_12 rfl (lv_at hl 3 rfl) ?_
  refine tist (x := x) hC hK hH ht_a rfl (iIn (by decide) (by decide)) (iRg _).1 (iRg _).2 dJ7_fill_53178_13 (fun H locs hH => ?_)
  refine lv_iinc (v := 4) (lv' := [(2, .int 4), (3, .int 8), (0, .ref a), (1, .int x)]) hx hb dJ7_fill_53178_14 hl (k := 0) rfl (by decide) (by decide) rfl (fun ls hl => ?_)
  refine lv_goto (tgt := 5) hx hb dJ7_fill_53178_17 (by decide) ?_
  refine lv_iload_n hx hb dJ7_fill_53178_5 rfl (lv_at hl 0 rfl) ?_
  refine lv_iload_n hx hb dJ7_fill_53178_6 rfl (lv_at hl 1 rfl) ?_
  refine jic_ge (tgt := 20) hx hb dJ7_fill_53178_7 (by decide) (fun c5 => absurd c5 (by decide)) (fun c5 => ?_)
  refine lv_aload_n hx hb dJ7_fill_53178_10 rfl (lv_at hl 2 rfl) ?_
  refine lv_iload_n hx hb dJ7_fill_53178_11 rfl (lv_at hl 0 rfl) ?_
  refine lv_iload_n hx hb dJ7_fill_53178_12 rfl (lv_at hl 3 rfl) ?_
  refine tist (x := x) hC hK hH ht_a rfl (iIn (by decide) (by decide)) (iRg _).1 (iRg _).2 dJ7_fill_53178_13 (fun H locs hH => ?_)
  refine lv_iinc (v := 5) (lv' := [(2, .int 5), (3, .int 8), (0, .ref a), (1, .int x)]) hx hb dJ7_fill_53178_14 hl (k := 0) rfl (by decide) (by decide) rfl (fun ls hl => ?_)
  refine lv_goto (tgt := 5) hx hb dJ7_fill_53178_17 (by decide) ?_
  refine lv_iload_n hx hb dJ7_fill_53178_5 rfl (lv_at hl 0 rfl) ?_
  refine lv_iload_n hx hb dJ7_fill_53178_6 rfl (lv_at hl 1 rfl) ?_
  refine jic_ge (tgt := 20) hx hb dJ7_fill_53178_7 (by decide) (fun c6 => absurd c6 (by decide)) (fun c6 => ?_)
  refine lv_aload_n hx hb dJ7_fill_53178_10 rfl (lv_at hl 2 rfl) ?_
  refine lv_iload_n hx hb dJ7_fill_53178_11 rfl (lv_at hl 0 rfl) ?_
  refine lv_iload_n hx hb dJ7_fill_53178_12 rfl (lv_at hl 3 rfl) ?_
  refine tist (x := x) hC hK hH ht_a rfl (iIn (by decide) (by decide)) (iRg _).1 (iRg _).2 dJ7_fill_53178_13 (fun H locs hH => ?_)
  refine lv_iinc (v := 6) (lv' := [(2, .int 6), (3, .int 8), (0, .ref a), (1, .int x)]) hx hb dJ7_fill_53178_14 hl (k := 0) rfl (by decide) (by decide) rfl (fun ls hl => ?_)
  refine lv_goto (tgt := 5) hx hb dJ7_fill_53178_17 (by decide) ?_
  refine lv_iload_n hx hb dJ7_fill_53178_5 rfl (lv_at hl 0 rfl) ?_
  refine lv_iload_n hx hb dJ7_fill_53178_6 rfl (lv_at hl 1 rfl) ?_
  refine jic_ge (tgt := 20) hx hb dJ7_fill_53178_7 (by decide) (fun c7 => absurd c7 (by decide)) (fun c7 => ?_)
  refine lv_aload_n hx hb dJ7_fill_53178_10 rfl (lv_at hl 2 rfl) ?_
  refine lv_iload_n hx hb dJ7_fill_53178_11 rfl (lv_at hl 0 rfl) ?_
  refine lv_iload_n hx hb dJ7_fill_53178_12 rfl (lv_at hl 3 rfl) ?_
  refine tist (x := x) hC hK hH ht_a rfl (iIn (by decide) (by decide)) (iRg _).1 (iRg _).2 dJ7_fill_53178_13 (fun H locs hH => ?_)
  refine lv_iinc (v := 7) (lv' := [(2, .int 7), (3, .int 8), (0, .ref a), (1, .int x)]) hx hb dJ7_fill_53178_14 hl (k := 0) rfl (by decide) (by decide) rfl (fun ls hl => ?_)
  refine lv_goto (tgt := 5) hx hb dJ7_fill_53178_17 (by decide) ?_
  refine lv_iload_n hx hb dJ7_fill_53178_5 rfl (lv_at hl 0 rfl) ?_
  refine lv_iload_n hx hb dJ7_fill_53178_6 rfl (lv_at hl 1 rfl) ?_
  refine jic_ge (tgt := 20) hx hb dJ7_fill_53178_7 (by decide) (fun c8 => absurd c8 (by decide)) (fun c8 => ?_)
  refine lv_aload_n hx hb dJ7_fill_53178_10 rfl (lv_at hl 2 rfl) ?_
  refine lv_iload_n hx hb dJ7_fill_53178_11 rfl (lv_at hl 0 rfl) ?_
  refine lv_iload_n hx hb dJ7_fill_53178_12 rfl (lv_at hl 3 rfl) ?_
  refine tist (x := x) hC hK hH ht_a rfl (iIn (by decide) (by decide)) (iRg _).1 (iRg _).2 dJ7_fill_53178_13 (fun H locs hH => ?_)
  refine lv_iinc (v := 8) (lv' := [(2, .int 8), (3, .int 8), (0, .ref a), (1, .int x)]) hx hb dJ7_fill_53178_14 hl (k := 0) rfl (by decide) (by decide) rfl (fun ls hl => ?_)
  refine lv_goto (tgt := 5) hx hb dJ7_fill_53178_17 (by decide) ?_
  refine lv_iload_n hx hb dJ7_fill_53178_5 rfl (lv_at hl 0 rfl) ?_
  refine lv_iload_n hx hb dJ7_fill_53178_6 rfl (lv_at hl 1 rfl) ?_
  refine jic_ge (tgt := 20) hx hb dJ7_fill_53178_7 (by decide) (fun c9 => ?_) (fun c9 => absurd c9 (by decide))
  exact ret_v hC hr hlk hK hH (⟨trivial, rfl, rfl⟩) (Nat.le_of_ble_eq_true rfl) (Nat.le_of_ble_eq_true rfl) dJ7_fill_53178_20
set_option maxHeartbeats 4000000 in
set_option maxRecDepth 100000 in
theorem c_X2_own {l : Launch} {D : va_G} {kA : Nat → ClassId} {M : mM} {T : mT} {sz : Nat} {h : Nat} {ps wi : Int32} (ht_h : T h = some 1) (hps : 0 ≤ ps.toInt ∧ ps.toInt ≤ 7) : mCv l yX2_own cX2_own 3 0 0 0 D kA M T sz [.ref h, .int ps, .int wi] (fun u => (True) ∧ u.2 = T ∧ u.1 = M) := by
  unfold mCv
  refine start_W (by decide) (Nat.le_of_ble_eq_true rfl) ?_
  intro p e s m below meth c ls hC hr hlk hnm hK hH hsz hl
  have hx := hC.1
  have hb := hC.2.1
  have hl : lv_has ls 3 [(0, .ref h), (1, .int ps), (2, .int wi)] := hl
  refine lv_aload_n hx hb dX2_own_0 rfl (lv_at hl 0 rfl) ?_
  refine lv_iload_n hx hb dX2_own_1 rfl (lv_at hl 1 rfl) ?_
  refine tpu hC hK hH flX2_65 ht_h rfl rfl (iRg _).1 (iRg _).2 rfl rfl dX2_own_2 (fun H locs hH => ?_)
  refine lv_aload_n hx hb dX2_own_5 rfl (lv_at hl 0 rfl) ?_
  refine lv_iload_n hx hb dX2_own_6 rfl (lv_at hl 2 rfl) ?_
  refine tpu hC hK hH flX2_68 ht_h rfl rfl (iRg _).1 (iRg _).2 rfl rfl dX2_own_7 (fun H locs hH => ?_)
  refine lv_aload_n hx hb dX2_own_10 rfl (lv_at hl 0 rfl) ?_
  refine tgr hC hK hH flX2_9 ht_h rfl rfl dX2_own_11 (fun q1 t_q1 => ?_)
  refine lv_iload_n hx hb dX2_own_14 rfl (lv_at hl 1 rfl) ?_
  refine tild hC hK hH t_q1 rfl (iIn (by omega) (by omega)) dX2_own_15 (fun x2 l_x2 g_x2 => ?_)
  refine jif_ne (tgt := 26) hx hb dX2_own_16 (by decide) (fun c3 => ?_) (fun c3 => ?_)
  · skip
    have c3 : x2.toInt ≠ 0 := c3
    exact ret_v hC hr hlk hK hH (⟨trivial, rfl, rfl⟩) (Nat.le_of_ble_eq_true rfl) (Nat.le_of_ble_eq_true rfl) dX2_own_26
  · skip
    have c3 : x2.toInt = 0 := c3
    refine lv_aload_n hx hb dX2_own_19 rfl (lv_at hl 0 rfl) ?_
    refine tgr hC hK hH flX2_9 ht_h rfl rfl dX2_own_20 (fun q4 t_q4 => ?_)
    refine lv_iload_n hx hb dX2_own_23 rfl (lv_at hl 1 rfl) ?_
    refine lv_iload_n hx hb dX2_own_24 rfl (lv_at hl 2 rfl) ?_
    refine tist (x := wi) hC hK hH t_q4 rfl (iIn (by omega) (by omega)) (iRg _).1 (iRg _).2 dX2_own_25 (fun H locs hH => ?_)
    exact ret_v hC hr hlk hK hH (⟨trivial, rfl, rfl⟩) (Nat.le_of_ble_eq_true rfl) (Nat.le_of_ble_eq_true rfl) dX2_own_26
set_option maxHeartbeats 4000000 in
set_option maxRecDepth 100000 in
theorem c_X2_begin {l : Launch} {D : va_G} {kA : Nat → ClassId} {M : mM} {T : mT} {sz : Nat} {h : Nat} {pe op : Int32} (ht_h : T h = some 1) (hpe : 0 ≤ pe.toInt ∧ pe.toInt ≤ 7) : mCv l yX2_begin cX2_begin 3 1 0 0 D kA M T sz [.ref h, .int pe, .int op] (fun u => (True) ∧ u.2 = T ∧ u.1 = M) := by
  unfold mCv
  refine start_W (by decide) (Nat.le_of_ble_eq_true rfl) ?_
  intro p e s m below meth c ls hC hr hlk hnm hK hH hsz hl
  have hx := hC.1
  have hb := hC.2.1
  have hl : lv_has ls 3 [(0, .ref h), (1, .int pe), (2, .int op)] := hl
  refine lv_aload_n hx hb dX2_begin_0 rfl (lv_at hl 0 rfl) ?_
  refine lv_iload_n hx hb dX2_begin_1 rfl (lv_at hl 2 rfl) ?_
  refine jif_eq (tgt := 9) hx hb dX2_begin_2 (by decide) (fun c1 => ?_) (fun c1 => ?_)
  · skip
    have c1 : op.toInt = 0 := c1
    refine lv_iconst (v := 0) hx hb dX2_begin_9 (by decide) ?_
    refine tpu hC hK hH flX2_15 ht_h rfl rfl (iRg _).1 (iRg _).2 rfl rfl dX2_begin_10 (fun H locs hH => ?_)
    refine lv_aload_n hx hb dX2_begin_13 rfl (lv_at hl 0 rfl) ?_
    refine lv_iload_n hx hb dX2_begin_14 rfl (lv_at hl 2 rfl) ?_
    refine jif_eq (tgt := 22) hx hb dX2_begin_15 (by decide) (fun c2 => ?_) (fun c2 => absurd c2 (by have := iRg op; have : (0 : Int32).toInt = 0 := rfl; omega))
    have c2 : op.toInt = 0 := c2
    refine lv_iload_n hx hb dX2_begin_22 rfl (lv_at hl 1 rfl) ?_
    refine tpu hC hK hH flX2_19 ht_h rfl rfl (iRg _).1 (iRg _).2 rfl rfl dX2_begin_23 (fun H locs hH => ?_)
    refine lv_aload_n hx hb dX2_begin_26 rfl (lv_at hl 0 rfl) ?_
    refine lv_iconst (v := -1) hx hb dX2_begin_27 (by decide) ?_
    refine tpu hC hK hH flX2_22 ht_h rfl rfl (iRg _).1 (iRg _).2 rfl rfl dX2_begin_28 (fun H locs hH => ?_)
    refine lv_aload_n hx hb dX2_begin_31 rfl (lv_at hl 0 rfl) ?_
    refine lv_iconst (v := 0) hx hb dX2_begin_32 (by decide) ?_
    refine tpu hC hK hH flX2_25 ht_h rfl rfl (iRg _).1 (iRg _).2 rfl rfl dX2_begin_33 (fun H locs hH => ?_)
    refine lv_aload_n hx hb dX2_begin_36 rfl (lv_at hl 0 rfl) ?_
    refine lv_iconst (v := 0) hx hb dX2_begin_37 (by decide) ?_
    refine tpu hC hK hH flX2_28 ht_h rfl rfl (by decide) (by decide) rfl rfl dX2_begin_38 (fun H locs hH => ?_)
    refine lv_aload_n hx hb dX2_begin_41 rfl (lv_at hl 0 rfl) ?_
    refine tgr hC hK hH flX2_9 ht_h rfl rfl dX2_begin_42 (fun q3 t_q3 => ?_)
    refine lv_iconst (v := 0) hx hb dX2_begin_45 (by decide) ?_
    refine goV hK hH (runS (As := [.ref q3, .int 0]) (rest := []) hC hK hH (c_J7_fill_53178 t_q3) mlX2_32 ⟨⟨Nat.le_of_ble_eq_true rfl, Nat.le_of_ble_eq_true rfl⟩, Nat.le_of_ble_eq_true rfl, Nat.le_of_ble_eq_true rfl⟩ rfl hl.1 rfl (Nat.le_of_ble_eq_true rfl) dX2_begin_46) (fun M4 T5 H locs hP hz hH => ?_)
    try dsimp only at hP
    obtain ⟨(-), eT, eM⟩ := hP
    have eT := eT.symm; subst eT
    have eM := eM.symm; subst eM
    refine lv_aload_n hx hb dX2_begin_49 rfl (lv_at hl 0 rfl) ?_
    refine lv_iload_n hx hb dX2_begin_50 rfl (lv_at hl 1 rfl) ?_
    refine lv_iconst (v := 1) hx hb dX2_begin_51 (by decide) ?_
    refine goV hK hH (runV (As := [.int pe, .int 1]) (rest := []) hC hK hH (c_X2_own ht_h (by omega)) mlX2_38 (rcvT hK hH ht_h rfl rfl) ⟨⟨Nat.le_of_ble_eq_true rfl, Nat.le_of_ble_eq_true rfl⟩, Nat.le_of_ble_eq_true rfl, Nat.le_of_ble_eq_true rfl⟩ rfl hl.1 rfl (Nat.le_of_ble_eq_true rfl) dX2_begin_52) (fun M7 T8 H locs hP hz hH => ?_)
    try dsimp only at hP
    obtain ⟨(-), eT, eM⟩ := hP
    have eT := eT.symm; subst eT
    have eM := eM.symm; subst eM
    exact ret_v hC hr hlk hK hH (⟨trivial, rfl, rfl⟩) (Nat.le_of_ble_eq_true rfl) (Nat.le_of_ble_eq_true rfl) dX2_begin_55
  · skip
    have c1 : op.toInt ≠ 0 := c1
    refine lv_iconst (v := 1) hx hb dX2_begin_5 (by decide) ?_
    refine lv_goto (tgt := 10) hx hb dX2_begin_6 (by decide) ?_
    refine tpu hC hK hH flX2_15 ht_h rfl rfl (iRg _).1 (iRg _).2 rfl rfl dX2_begin_10 (fun H locs hH => ?_)
    refine lv_aload_n hx hb dX2_begin_13 rfl (lv_at hl 0 rfl) ?_
    refine lv_iload_n hx hb dX2_begin_14 rfl (lv_at hl 2 rfl) ?_
    refine jif_eq (tgt := 22) hx hb dX2_begin_15 (by decide) (fun c10 => ?_) (fun c10 => ?_)
    · skip
      have c10 : op.toInt = 0 := c10
      refine lv_iload_n hx hb dX2_begin_22 rfl (lv_at hl 1 rfl) ?_
      refine tpu hC hK hH flX2_19 ht_h rfl rfl (iRg _).1 (iRg _).2 rfl rfl dX2_begin_23 (fun H locs hH => ?_)
      refine lv_aload_n hx hb dX2_begin_26 rfl (lv_at hl 0 rfl) ?_
      refine lv_iconst (v := -1) hx hb dX2_begin_27 (by decide) ?_
      refine tpu hC hK hH flX2_22 ht_h rfl rfl (iRg _).1 (iRg _).2 rfl rfl dX2_begin_28 (fun H locs hH => ?_)
      refine lv_aload_n hx hb dX2_begin_31 rfl (lv_at hl 0 rfl) ?_
      refine lv_iconst (v := 0) hx hb dX2_begin_32 (by decide) ?_
      refine tpu hC hK hH flX2_25 ht_h rfl rfl (iRg _).1 (iRg _).2 rfl rfl dX2_begin_33 (fun H locs hH => ?_)
      refine lv_aload_n hx hb dX2_begin_36 rfl (lv_at hl 0 rfl) ?_
      refine lv_iconst (v := 0) hx hb dX2_begin_37 (by decide) ?_
      refine tpu hC hK hH flX2_28 ht_h rfl rfl (by decide) (by decide) rfl rfl dX2_begin_38 (fun H locs hH => ?_)
      refine lv_aload_n hx hb dX2_begin_41 rfl (lv_at hl 0 rfl) ?_
      refine tgr hC hK hH flX2_9 ht_h rfl rfl dX2_begin_42 (fun q11 t_q11 => ?_)
      refine lv_iconst (v := 0) hx hb dX2_begin_45 (by decide) ?_
      refine goV hK hH (runS (As := [.ref q11, .int 0]) (rest := []) hC hK hH (c_J7_fill_53178 t_q11) mlX2_32 ⟨⟨Nat.le_of_ble_eq_true rfl, Nat.le_of_ble_eq_true rfl⟩, Nat.le_of_ble_eq_true rfl, Nat.le_of_ble_eq_true rfl⟩ rfl hl.1 rfl (Nat.le_of_ble_eq_true rfl) dX2_begin_46) (fun M12 T13 H locs hP hz hH => ?_)
      try dsimp only at hP
      obtain ⟨(-), eT, eM⟩ := hP
      have eT := eT.symm; subst eT
      have eM := eM.symm; subst eM
      refine lv_aload_n hx hb dX2_begin_49 rfl (lv_at hl 0 rfl) ?_
      refine lv_iload_n hx hb dX2_begin_50 rfl (lv_at hl 1 rfl) ?_
      refine lv_iconst (v := 1) hx hb dX2_begin_51 (by decide) ?_
      refine goV hK hH (runV (As := [.int pe, .int 1]) (rest := []) hC hK hH (c_X2_own ht_h (by omega)) mlX2_38 (rcvT hK hH ht_h rfl rfl) ⟨⟨Nat.le_of_ble_eq_true rfl, Nat.le_of_ble_eq_true rfl⟩, Nat.le_of_ble_eq_true rfl, Nat.le_of_ble_eq_true rfl⟩ rfl hl.1 rfl (Nat.le_of_ble_eq_true rfl) dX2_begin_52) (fun M15 T16 H locs hP hz hH => ?_)
      try dsimp only at hP
      obtain ⟨(-), eT, eM⟩ := hP
      have eT := eT.symm; subst eT
      have eM := eM.symm; subst eM
      exact ret_v hC hr hlk hK hH (⟨trivial, rfl, rfl⟩) (Nat.le_of_ble_eq_true rfl) (Nat.le_of_ble_eq_true rfl) dX2_begin_55
    · skip
      have c10 : op.toInt ≠ 0 := c10
      refine lv_iconst (v := -1) hx hb dX2_begin_18 (by decide) ?_
      refine lv_goto (tgt := 23) hx hb dX2_begin_19 (by decide) ?_
      refine tpu hC hK hH flX2_19 ht_h rfl rfl (iRg _).1 (iRg _).2 rfl rfl dX2_begin_23 (fun H locs hH => ?_)
      refine lv_aload_n hx hb dX2_begin_26 rfl (lv_at hl 0 rfl) ?_
      refine lv_iconst (v := -1) hx hb dX2_begin_27 (by decide) ?_
      refine tpu hC hK hH flX2_22 ht_h rfl rfl (iRg _).1 (iRg _).2 rfl rfl dX2_begin_28 (fun H locs hH => ?_)
      refine lv_aload_n hx hb dX2_begin_31 rfl (lv_at hl 0 rfl) ?_
      refine lv_iconst (v := 0) hx hb dX2_begin_32 (by decide) ?_
      refine tpu hC hK hH flX2_25 ht_h rfl rfl (iRg _).1 (iRg _).2 rfl rfl dX2_begin_33 (fun H locs hH => ?_)
      refine lv_aload_n hx hb dX2_begin_36 rfl (lv_at hl 0 rfl) ?_
      refine lv_iconst (v := 0) hx hb dX2_begin_37 (by decide) ?_
      refine tpu hC hK hH flX2_28 ht_h rfl rfl (by decide) (by decide) rfl rfl dX2_begin_38 (fun H locs hH => ?_)
      refine lv_aload_n hx hb dX2_begin_41 rfl (lv_at hl 0 rfl) ?_
      refine tgr hC hK hH flX2_9 ht_h rfl rfl dX2_begin_42 (fun q18 t_q18 => ?_)
      refine lv_iconst (v := 0) hx hb dX2_begin_45 (by decide) ?_
      refine goV hK hH (runS (As := [.ref q18, .int 0]) (rest := []) hC hK hH (c_J7_fill_53178 t_q18) mlX2_32 ⟨⟨Nat.le_of_ble_eq_true rfl, Nat.le_of_ble_eq_true rfl⟩, Nat.le_of_ble_eq_true rfl, Nat.le_of_ble_eq_true rfl⟩ rfl hl.1 rfl (Nat.le_of_ble_eq_true rfl) dX2_begin_46) (fun M19 T20 H locs hP hz hH => ?_)
      try dsimp only at hP
      obtain ⟨(-), eT, eM⟩ := hP
      have eT := eT.symm; subst eT
      have eM := eM.symm; subst eM
      refine lv_aload_n hx hb dX2_begin_49 rfl (lv_at hl 0 rfl) ?_
      refine lv_iload_n hx hb dX2_begin_50 rfl (lv_at hl 1 rfl) ?_
      refine lv_iconst (v := 1) hx hb dX2_begin_51 (by decide) ?_
      refine goV hK hH (runV (As := [.int pe, .int 1]) (rest := []) hC hK hH (c_X2_own ht_h (by omega)) mlX2_38 (rcvT hK hH ht_h rfl rfl) ⟨⟨Nat.le_of_ble_eq_true rfl, Nat.le_of_ble_eq_true rfl⟩, Nat.le_of_ble_eq_true rfl, Nat.le_of_ble_eq_true rfl⟩ rfl hl.1 rfl (Nat.le_of_ble_eq_true rfl) dX2_begin_52) (fun M22 T23 H locs hP hz hH => ?_)
      try dsimp only at hP
      obtain ⟨(-), eT, eM⟩ := hP
      have eT := eT.symm; subst eT
      have eM := eM.symm; subst eM
      exact ret_v hC hr hlk hK hH (⟨trivial, rfl, rfl⟩) (Nat.le_of_ble_eq_true rfl) (Nat.le_of_ble_eq_true rfl) dX2_begin_55
set_option maxHeartbeats 4000000 in
set_option maxRecDepth 100000 in
theorem c_X2_copy {l : Launch} {D : va_G} {kA : Nat → ClassId} {M : mM} {T : mT} {sz : Nat} {h o : Nat} (ht_h : T h = some 1) (ht_o : T o = some 1) : mCv l yX2_copy cX2_copy 2 1 0 0 D kA M T sz [.ref h, .ref o] (fun u => (True) ∧ u.2 = T ∧ u.1 = M) := by
  unfold mCv
  refine start_W (by decide) (Nat.le_of_ble_eq_true rfl) ?_
  intro p e s m below meth c ls hC hr hlk hnm hK hH hsz hl
  have hx := hC.1
  have hb := hC.2.1
  have hl : lv_has ls 2 [(0, .ref h), (1, .ref o)] := hl
  refine lv_aload_n hx hb dX2_copy_0 rfl (lv_at hl 0 rfl) ?_
  refine lv_aload_n hx hb dX2_copy_1 rfl (lv_at hl 1 rfl) ?_
  refine tg hC hK hH flX2_15 ht_o rfl rfl dX2_copy_2 (fun x1 l_x1 g_x1 => ?_)
  refine tpu hC hK hH flX2_15 ht_h rfl rfl (iRg _).1 (iRg _).2 rfl rfl dX2_copy_5 (fun H locs hH => ?_)
  refine lv_aload_n hx hb dX2_copy_8 rfl (lv_at hl 0 rfl) ?_
  refine lv_aload_n hx hb dX2_copy_9 rfl (lv_at hl 1 rfl) ?_
  refine tg hC hK hH flX2_19 ht_o rfl rfl dX2_copy_10 (fun x2 l_x2 g_x2 => ?_)
  refine tpu hC hK hH flX2_19 ht_h rfl rfl (iRg _).1 (iRg _).2 rfl rfl dX2_copy_13 (fun H locs hH => ?_)
  refine lv_aload_n hx hb dX2_copy_16 rfl (lv_at hl 0 rfl) ?_
  refine lv_aload_n hx hb dX2_copy_17 rfl (lv_at hl 1 rfl) ?_
  refine tg hC hK hH flX2_65 ht_o rfl rfl dX2_copy_18 (fun x3 l_x3 g_x3 => ?_)
  refine tpu hC hK hH flX2_65 ht_h rfl rfl (iRg _).1 (iRg _).2 rfl rfl dX2_copy_21 (fun H locs hH => ?_)
  refine lv_aload_n hx hb dX2_copy_24 rfl (lv_at hl 0 rfl) ?_
  refine lv_aload_n hx hb dX2_copy_25 rfl (lv_at hl 1 rfl) ?_
  refine tg hC hK hH flX2_68 ht_o rfl rfl dX2_copy_26 (fun x4 l_x4 g_x4 => ?_)
  refine tpu hC hK hH flX2_68 ht_h rfl rfl (iRg _).1 (iRg _).2 rfl rfl dX2_copy_29 (fun H locs hH => ?_)
  refine lv_aload_n hx hb dX2_copy_32 rfl (lv_at hl 0 rfl) ?_
  refine lv_aload_n hx hb dX2_copy_33 rfl (lv_at hl 1 rfl) ?_
  refine tg hC hK hH flX2_22 ht_o rfl rfl dX2_copy_34 (fun x5 l_x5 g_x5 => ?_)
  refine tpu hC hK hH flX2_22 ht_h rfl rfl (iRg _).1 (iRg _).2 rfl rfl dX2_copy_37 (fun H locs hH => ?_)
  refine lv_aload_n hx hb dX2_copy_40 rfl (lv_at hl 0 rfl) ?_
  refine lv_aload_n hx hb dX2_copy_41 rfl (lv_at hl 1 rfl) ?_
  refine tg hC hK hH flX2_25 ht_o rfl rfl dX2_copy_42 (fun x6 l_x6 g_x6 => ?_)
  refine tpu hC hK hH flX2_25 ht_h rfl rfl (iRg _).1 (iRg _).2 rfl rfl dX2_copy_45 (fun H locs hH => ?_)
  refine lv_aload_n hx hb dX2_copy_48 rfl (lv_at hl 0 rfl) ?_
  refine lv_aload_n hx hb dX2_copy_49 rfl (lv_at hl 1 rfl) ?_
  refine tg hC hK hH flX2_28 ht_o rfl rfl dX2_copy_50 (fun x7 l_x7 g_x7 => ?_)
  have l_x7 : (0 : Int) ≤ x7.toInt := l_x7
  have g_x7 : x7.toInt ≤ 1 := g_x7
  refine tpu hC hK hH flX2_28 ht_h rfl rfl (zl (z01 l_x7 g_x7)) (zh (z01 l_x7 g_x7)) (nz (z01 l_x7 g_x7)) (fz (z01 l_x7 g_x7)) dX2_copy_53 (fun H locs hH => ?_)
  refine lv_aload_n hx hb dX2_copy_56 rfl (lv_at hl 1 rfl) ?_
  refine tgr hC hK hH flX2_9 ht_o rfl rfl dX2_copy_57 (fun q8 t_q8 => ?_)
  refine lv_iconst (v := 0) hx hb dX2_copy_60 (by decide) ?_
  refine lv_aload_n hx hb dX2_copy_61 rfl (lv_at hl 0 rfl) ?_
  refine tgr hC hK hH flX2_9 ht_h rfl rfl dX2_copy_62 (fun q9 t_q9 => ?_)
  refine lv_iconst (v := 0) hx hb dX2_copy_65 (by decide) ?_
  refine lv_bipush (v := 8) hx hb dX2_copy_66 (by decide) ?_
  refine tcpy hC hK hH hl.1 cpX2_71 t_q8 t_q9 rfl rfl rfl (fun _ _ _ => rfl) (by decide) (by decide) (by decide) (Nat.le_of_ble_eq_true rfl) (Nat.le_of_ble_eq_true rfl) (Nat.le_of_ble_eq_true rfl) (Nat.le_of_ble_eq_true rfl) dX2_copy_68 (fun H locs hH => ?_)
  exact ret_v hC hr hlk hK hH (⟨trivial, rfl, rfl⟩) (Nat.le_of_ble_eq_true rfl) (Nat.le_of_ble_eq_true rfl) dX2_copy_71
set_option maxHeartbeats 4000000 in
set_option maxRecDepth 100000 in
theorem c_X1_begin {l : Launch} {D : va_G} {kA : Nat → ClassId} {M : mM} {T : mT} {sz : Nat} {h : Nat} {by_ on to op : Int32} (ht_h : T h = some 2) (hto : 0 ≤ to.toInt ∧ to.toInt ≤ 7) (hop : op = 0 ∨ op = 1) : mCv l yX1_begin cX1_begin 6 2 0 0 D kA M T sz [.ref h, .int by_, .int on, .int to, .int op] (fun u => (True) ∧ u.2 = T ∧ u.1 = M) := by
  unfold mCv
  refine start_W (by decide) (Nat.le_of_ble_eq_true rfl) ?_
  intro p e s m below meth c ls hC hr hlk hnm hK hH hsz hl
  have hx := hC.1
  have hb := hC.2.1
  have hl : lv_has ls 6 [(0, .ref h), (1, .int by_), (2, .int on), (3, .int to), (4, .int op)] := hl
  refine lv_aload_n hx hb dX1_begin_0 rfl (lv_at hl 0 rfl) ?_
  refine lv_iload_n hx hb dX1_begin_1 rfl (lv_at hl 1 rfl) ?_
  refine tpu hC hK hH flX1_41 ht_h rfl rfl (iRg _).1 (iRg _).2 rfl rfl dX1_begin_2 (fun H locs hH => ?_)
  refine lv_aload_n hx hb dX1_begin_5 rfl (lv_at hl 0 rfl) ?_
  refine lv_iload_n hx hb dX1_begin_6 rfl (lv_at hl 2 rfl) ?_
  refine tpu hC hK hH flX1_45 ht_h rfl rfl (iRg _).1 (iRg _).2 rfl rfl dX1_begin_7 (fun H locs hH => ?_)
  refine lv_aload_n hx hb dX1_begin_10 rfl (lv_at hl 0 rfl) ?_
  refine lv_iload_n hx hb dX1_begin_11 rfl (lv_at hl 3 rfl) ?_
  refine tpu hC hK hH flX1_48 ht_h rfl rfl (iRg _).1 (iRg _).2 rfl rfl dX1_begin_12 (fun H locs hH => ?_)
  refine lv_aload_n hx hb dX1_begin_15 rfl (lv_at hl 0 rfl) ?_
  refine lv_iload hx hb dX1_begin_16 (lv_at hl 4 rfl) ?_
  refine tpu hC hK hH flX1_51 ht_h rfl rfl (zl hop) (zh hop) (nz hop) (fz hop) dX1_begin_18 (fun H locs hH => ?_)
  refine lv_aload_n hx hb dX1_begin_21 rfl (lv_at hl 0 rfl) ?_
  refine lv_iload_n hx hb dX1_begin_22 rfl (lv_at hl 3 rfl) ?_
  refine tpu hC hK hH flX1_55 ht_h rfl rfl (by show (0 : Int) ≤ to.toInt; omega) (by show to.toInt ≤ (7 : Int); omega) rfl rfl dX1_begin_23 (fun H locs hH => ?_)
  refine lv_aload_n hx hb dX1_begin_26 rfl (lv_at hl 0 rfl) ?_
  refine lv_iconst (v := -1) hx hb dX1_begin_27 (by decide) ?_
  refine tpu hC hK hH flX1_58 ht_h rfl rfl (iRg _).1 (iRg _).2 rfl rfl dX1_begin_28 (fun H locs hH => ?_)
  refine lv_aload_n hx hb dX1_begin_31 rfl (lv_at hl 0 rfl) ?_
  refine lv_iconst (v := 0) hx hb dX1_begin_32 (by decide) ?_
  refine tpu hC hK hH flX1_61 ht_h rfl rfl (by decide) (by decide) rfl rfl dX1_begin_33 (fun H locs hH => ?_)
  refine lv_aload_n hx hb dX1_begin_36 rfl (lv_at hl 0 rfl) ?_
  refine lv_iconst (v := 0) hx hb dX1_begin_37 (by decide) ?_
  refine tpu hC hK hH flX1_64 ht_h rfl rfl (by decide) (by decide) rfl rfl dX1_begin_38 (fun H locs hH => ?_)
  refine lv_aload_n hx hb dX1_begin_41 rfl (lv_at hl 0 rfl) ?_
  refine lv_iconst (v := 0) hx hb dX1_begin_42 (by decide) ?_
  refine tpu hC hK hH flX1_67 ht_h rfl rfl (by decide) (by decide) rfl rfl dX1_begin_43 (fun H locs hH => ?_)
  refine lv_aload_n hx hb dX1_begin_46 rfl (lv_at hl 0 rfl) ?_
  refine lv_iconst (v := 0) hx hb dX1_begin_47 (by decide) ?_
  refine tpu hC hK hH flX1_70 ht_h rfl rfl (by decide) (by decide) rfl rfl dX1_begin_48 (fun H locs hH => ?_)
  refine lv_aload_n hx hb dX1_begin_51 rfl (lv_at hl 0 rfl) ?_
  refine tgr hC hK hH flX1_20 ht_h rfl rfl dX1_begin_52 (fun q1 t_q1 => ?_)
  refine lv_iload_n hx hb dX1_begin_55 rfl (lv_at hl 3 rfl) ?_
  refine lv_iload hx hb dX1_begin_56 (lv_at hl 4 rfl) ?_
  refine goV hK hH (runV (As := [.int to, .int op]) (rest := []) hC hK hH (c_X2_begin t_q1 (by omega)) mlX1_73 (rcvT hK hH t_q1 rfl rfl) ⟨⟨Nat.le_of_ble_eq_true rfl, Nat.le_of_ble_eq_true rfl⟩, Nat.le_of_ble_eq_true rfl, Nat.le_of_ble_eq_true rfl⟩ rfl hl.1 rfl (Nat.le_of_ble_eq_true rfl) dX1_begin_58) (fun M2 T3 H locs hP hz hH => ?_)
  try dsimp only at hP
  obtain ⟨(-), eT, eM⟩ := hP
  have eT := eT.symm; subst eT
  have eM := eM.symm; subst eM
  refine lv_aload_n hx hb dX1_begin_61 rfl (lv_at hl 0 rfl) ?_
  refine tgr hC hK hH flX1_24 ht_h rfl rfl dX1_begin_62 (fun q5 t_q5 => ?_)
  refine lv_aload_n hx hb dX1_begin_65 rfl (lv_at hl 0 rfl) ?_
  refine tgr hC hK hH flX1_20 ht_h rfl rfl dX1_begin_66 (fun q6 t_q6 => ?_)
  refine goV hK hH (runV (As := [.ref q6]) (rest := []) hC hK hH (c_X2_copy t_q5 t_q6) mlX1_77 (rcvT hK hH t_q5 rfl rfl) ⟨⟨Nat.le_of_ble_eq_true rfl, Nat.le_of_ble_eq_true rfl⟩, Nat.le_of_ble_eq_true rfl, Nat.le_of_ble_eq_true rfl⟩ rfl hl.1 rfl (Nat.le_of_ble_eq_true rfl) dX1_begin_69) (fun M7 T8 H locs hP hz hH => ?_)
  try dsimp only at hP
  obtain ⟨(-), eT, eM⟩ := hP
  have eT := eT.symm; subst eT
  have eM := eM.symm; subst eM
  refine lv_iconst (v := 0) hx hb dX1_begin_72 (by decide) ?_
  refine lv_istore (lv' := [(5, .int 0), (0, .ref h), (1, .int by_), (2, .int on), (3, .int to), (4, .int op)]) hx hb dX1_begin_73 hl (by decide) rfl (fun ls hl => ?_)
  refine lv_iload hx hb dX1_begin_75 (lv_at hl 0 rfl) ?_
  refine lv_bipush (v := 14) hx hb dX1_begin_77 (by decide) ?_
  refine jic_ge (tgt := 120) hx hb dX1_begin_79 (by decide) (fun c10 => absurd c10 (by decide)) (fun c10 => ?_)
  refine lv_aload_n hx hb dX1_begin_82 rfl (lv_at hl 1 rfl) ?_
  refine tgr hC hK hH flX1_27 ht_h rfl rfl dX1_begin_83 (fun q11 t_q11 => ?_)
  refine lv_iload hx hb dX1_begin_86 (lv_at hl 0 rfl) ?_
  refine lv_iconst (v := -1) hx hb dX1_begin_88 (by decide) ?_
  refine tist (x := -1) hC hK hH t_q11 rfl (iIn (by decide) (by decide)) (iRg _).1 (iRg _).2 dX1_begin_89 (fun H locs hH => ?_)
  refine lv_aload_n hx hb dX1_begin_90 rfl (lv_at hl 1 rfl) ?_
  refine tgr hC hK hH flX1_31 ht_h rfl rfl dX1_begin_91 (fun q12 t_q12 => ?_)
  refine lv_iload hx hb dX1_begin_94 (lv_at hl 0 rfl) ?_
  refine lv_iconst (v := 0) hx hb dX1_begin_96 (by decide) ?_
  refine tist (x := 0) hC hK hH t_q12 rfl (iIn (by decide) (by decide)) (iRg _).1 (iRg _).2 dX1_begin_97 (fun H locs hH => ?_)
  refine lv_aload_n hx hb dX1_begin_98 rfl (lv_at hl 1 rfl) ?_
  refine tgr hC hK hH flX1_34 ht_h rfl rfl dX1_begin_99 (fun q13 t_q13 => ?_)
  refine lv_iload hx hb dX1_begin_102 (lv_at hl 0 rfl) ?_
  refine lv_iconst (v := -1) hx hb dX1_begin_104 (by decide) ?_
  refine tist (x := -1) hC hK hH t_q13 rfl (iIn (by decide) (by decide)) (iRg _).1 (iRg _).2 dX1_begin_105 (fun H locs hH => ?_)
  refine lv_aload_n hx hb dX1_begin_106 rfl (lv_at hl 1 rfl) ?_
  refine tgr hC hK hH flX1_37 ht_h rfl rfl dX1_begin_107 (fun q14 t_q14 => ?_)
  refine lv_iload hx hb dX1_begin_110 (lv_at hl 0 rfl) ?_
  refine lv_iconst (v := 0) hx hb dX1_begin_112 (by decide) ?_
  refine tist (x := 0) hC hK hH t_q14 rfl (iIn (by decide) (by decide)) (iRg _).1 (iRg _).2 dX1_begin_113 (fun H locs hH => ?_)
  refine lv_iinc (v := 1) (lv' := [(5, .int 1), (0, .ref h), (1, .int by_), (2, .int on), (3, .int to), (4, .int op)]) hx hb dX1_begin_114 hl (k := 0) rfl (by decide) (by decide) rfl (fun ls hl => ?_)
  refine lv_goto (tgt := 75) hx hb dX1_begin_117 (by decide) ?_
  refine lv_iload hx hb dX1_begin_75 (lv_at hl 0 rfl) ?_
  refine lv_bipush (v := 14) hx hb dX1_begin_77 (by decide) ?_
  refine jic_ge (tgt := 120) hx hb dX1_begin_79 (by decide) (fun c15 => absurd c15 (by decide)) (fun c15 => ?_)
  refine lv_aload_n hx hb dX1_begin_82 rfl (lv_at hl 1 rfl) ?_
  refine tgr hC hK hH flX1_27 ht_h rfl rfl dX1_begin_83 (fun q16 t_q16 => ?_)
  refine lv_iload hx hb dX1_begin_86 (lv_at hl 0 rfl) ?_
  refine lv_iconst (v := -1) hx hb dX1_begin_88 (by decide) ?_
  refine tist (x := -1) hC hK hH t_q16 rfl (iIn (by decide) (by decide)) (iRg _).1 (iRg _).2 dX1_begin_89 (fun H locs hH => ?_)
  refine lv_aload_n hx hb dX1_begin_90 rfl (lv_at hl 1 rfl) ?_
  refine tgr hC hK hH flX1_31 ht_h rfl rfl dX1_begin_91 (fun q17 t_q17 => ?_)
  refine lv_iload hx hb dX1_begin_94 (lv_at hl 0 rfl) ?_
  refine lv_iconst (v := 0) hx hb dX1_begin_96 (by decide) ?_
  refine tist (x := 0) hC hK hH t_q17 rfl (iIn (by decide) (by decide)) (iRg _).1 (iRg _).2 dX1_begin_97 (fun H locs hH => ?_)
  refine lv_aload_n hx hb dX1_begin_98 rfl (lv_at hl 1 rfl) ?_
  refine tgr hC hK hH flX1_34 ht_h rfl rfl dX1_begin_99 (fun q18 t_q18 => ?_)
  refine lv_iload hx hb dX1_begin_102 (lv_at hl 0 rfl) ?_
  refine lv_iconst (v := -1) hx hb dX1_begin_104 (by decide) ?_
  refine tist (x := -1) hC hK hH t_q18 rfl (iIn (by decide) (by decide)) (iRg _).1 (iRg _).2 dX1_begin_105 (fun H locs hH => ?_)
  refine lv_aload_n hx hb dX1_begin_106 rfl (lv_at hl 1 rfl) ?_
  refine tgr hC hK hH flX1_37 ht_h rfl rfl dX1_begin_107 (fun q19 t_q19 => ?_)
  refine lv_iload hx hb dX1_begin_110 (lv_at hl 0 rfl) ?_
  refine lv_iconst (v := 0) hx hb dX1_begin_112 (by decide) ?_
  refine tist (x := 0) hC hK hH t_q19 rfl (iIn (by decide) (by decide)) (iRg _).1 (iRg _).2 dX1_begin_113 (fun H locs hH => ?_)
  refine lv_iinc (v := 2) (lv' := [(5, .int 2), (0, .ref h), (1, .int by_), (2, .int on), (3, .int to), (4, .int op)]) hx hb dX1_begin_114 hl (k := 0) rfl (by decide) (by decide) rfl (fun ls hl => ?_)
  refine lv_goto (tgt := 75) hx hb dX1_begin_117 (by decide) ?_
  refine lv_iload hx hb dX1_begin_75 (lv_at hl 0 rfl) ?_
  refine lv_bipush (v := 14) hx hb dX1_begin_77 (by decide) ?_
  refine jic_ge (tgt := 120) hx hb dX1_begin_79 (by decide) (fun c20 => absurd c20 (by decide)) (fun c20 => ?_)
  refine lv_aload_n hx hb dX1_begin_82 rfl (lv_at hl 1 rfl) ?_
  refine tgr hC hK hH flX1_27 ht_h rfl rfl dX1_begin_83 (fun q21 t_q21 => ?_)
  refine lv_iload hx hb dX1_begin_86 (lv_at hl 0 rfl) ?_
  refine lv_iconst (v := -1) hx hb dX1_begin_88 (by decide) ?_
  refine tist (x := -1) hC hK hH t_q21 rfl (iIn (by decide) (by decide)) (iRg _).1 (iRg _).2 dX1_begin_89 (fun H locs hH => ?_)
  refine lv_aload_n hx hb dX1_begin_90 rfl (lv_at hl 1 rfl) ?_
  refine tgr hC hK hH flX1_31 ht_h rfl rfl dX1_begin_91 (fun q22 t_q22 => ?_)
  refine lv_iload hx hb dX1_begin_94 (lv_at hl 0 rfl) ?_
  refine lv_iconst (v := 0) hx hb dX1_begin_96 (by decide) ?_
  refine tist (x := 0) hC hK hH t_q22 rfl (iIn (by decide) (by decide)) (iRg _).1 (iRg _).2 dX1_begin_97 (fun H locs hH => ?_)
  refine lv_aload_n hx hb dX1_begin_98 rfl (lv_at hl 1 rfl) ?_
  refine tgr hC hK hH flX1_34 ht_h rfl rfl dX1_begin_99 (fun q23 t_q23 => ?_)
  refine lv_iload hx hb dX1_begin_102 (lv_at hl 0 rfl) ?_
  refine lv_iconst (v := -1) hx hb dX1_begin_104 (by decide) ?_
  refine tist (x := -1) hC hK hH t_q23 rfl (iIn (by decide) (by decide)) (iRg _).1 (iRg _).2 dX1_begin_105 (fun H locs hH => ?_)
  refine lv_aload_n hx hb dX1_begin_106 rfl (lv_at hl 1 rfl) ?_
  refine tgr hC hK hH flX1_37 ht_h rfl rfl dX1_begin_107 (fun q24 t_q24 => ?_)
  refine lv_iload hx hb dX1_begin_110 (lv_at hl 0 rfl) ?_
  refine lv_iconst (v := 0) hx hb dX1_begin_112 (by decide) ?_
  refine tist (x := 0) hC hK hH t_q24 rfl (iIn (by decide) (by decide)) (iRg _).1 (iRg _).2 dX1_begin_113 (fun H locs hH => ?_)
  refine lv_iinc (v := 3) (lv' := [(5, .int 3), (0, .ref h), (1, .int by_), (2, .int on), (3, .int to), (4, .int op)]) hx hb dX1_begin_114 hl (k := 0) rfl (by decide) (by decide) rfl (fun ls hl => ?_)
  refine lv_goto (tgt := 75) hx hb dX1_begin_117 (by decide) ?_
  refine lv_iload hx hb dX1_begin_75 (lv_at hl 0 rfl) ?_
  refine lv_bipush (v := 14) hx hb dX1_begin_77 (by decide) ?_
  refine jic_ge (tgt := 120) hx hb dX1_begin_79 (by decide) (fun c25 => absurd c25 (by decide)) (fun c25 => ?_)
  refine lv_aload_n hx hb dX1_begin_82 rfl (lv_at hl 1 rfl) ?_
  refine tgr hC hK hH flX1_27 ht_h rfl rfl dX1_begin_83 (fun q26 t_q26 => ?_)
  refine lv_iload hx hb dX1_begin_86 (lv_at hl 0 rfl) ?_
  refine lv_iconst (v := -1) hx hb dX1_begin_88 (by decide) ?_
  refine tist (x := -1) hC hK hH t_q26 rfl (iIn (by decide) (by decide)) (iRg _).1 (iRg _).2 dX1_begin_89 (fun H locs hH => ?_)
  refine lv_aload_n hx hb dX1_begin_90 rfl (lv_at hl 1 rfl) ?_
  refine tgr hC hK hH flX1_31 ht_h rfl rfl dX1_begin_91 (fun q27 t_q27 => ?_)
  refine lv_iload hx hb dX1_begin_94 (lv_at hl 0 rfl) ?_
  refine lv_iconst (v := 0) hx hb dX1_begin_96 (by decide) ?_
  refine tist (x := 0) hC hK hH t_q27 rfl (iIn (by decide) (by decide)) (iRg _).1 (iRg _).2 dX1_begin_97 (fun H locs hH => ?_)
  refine lv_aload_n hx hb dX1_begin_98 rfl (lv_at hl 1 rfl) ?_
  refine tgr hC hK hH flX1_34 ht_h rfl rfl dX1_begin_99 (fun q28 t_q28 => ?_)
  refine lv_iload hx hb dX1_begin_102 (lv_at hl 0 rfl) ?_
  refine lv_iconst (v := -1) hx hb dX1_begin_104 (by decide) ?_
  refine tist (x := -1) hC hK hH t_q28 rfl (iIn (by decide) (by decide)) (iRg _).1 (iRg _).2 dX1_begin_105 (fun H locs hH => ?_)
  refine lv_aload_n hx hb dX1_begin_106 rfl (lv_at hl 1 rfl) ?_
  refine tgr hC hK hH flX1_37 ht_h rfl rfl dX1_begin_107 (fun q29 t_q29 => ?_)
  refine lv_iload hx hb dX1_begin_110 (lv_at hl 0 rfl) ?_
  refine lv_iconst (v := 0) hx hb dX1_begin_112 (by decide) ?_
  refine tist (x := 0) hC hK hH t_q29 rfl (iIn (by decide) (by decide)) (iRg _).1 (iRg _).2 dX1_begin_113 (fun H locs hH => ?_)
  refine lv_iinc (v := 4) (lv' := [(5, .int 4), (0, .ref h), (1, .int by_), (2, .int on), (3, .int to), (4, .int op)]) hx hb dX1_begin_114 hl (k := 0) rfl (by decide) (by decide) rfl (fun ls hl => ?_)
  refine lv_goto (tgt := 75) hx hb dX1_begin_117 (by decide) ?_
  refine lv_iload hx hb dX1_begin_75 (lv_at hl 0 rfl) ?_
  refine lv_bipush (v := 14) hx hb dX1_begin_77 (by decide) ?_
  refine jic_ge (tgt := 120) hx hb dX1_begin_79 (by decide) (fun c30 => absurd c30 (by decide)) (fun c30 => ?_)
  refine lv_aload_n hx hb dX1_begin_82 rfl (lv_at hl 1 rfl) ?_
  refine tgr hC hK hH flX1_27 ht_h rfl rfl dX1_begin_83 (fun q31 t_q31 => ?_)
  refine lv_iload hx hb dX1_begin_86 (lv_at hl 0 rfl) ?_
  refine lv_iconst (v := -1) hx hb dX1_begin_88 (by decide) ?_
  refine tist (x := -1) hC hK hH t_q31 rfl (iIn (by decide) (by decide)) (iRg _).1 (iRg _).2 dX1_begin_89 (fun H locs hH => ?_)
  refine lv_aload_n hx hb dX1_begin_90 rfl (lv_at hl 1 rfl) ?_
  refine tgr hC hK hH flX1_31 ht_h rfl rfl dX1_begin_91 (fun q32 t_q32 => ?_)
  refine lv_iload hx hb dX1_begin_94 (lv_at hl 0 rfl) ?_
  refine lv_iconst (v := 0) hx hb dX1_begin_96 (by decide) ?_
  refine tist (x := 0) hC hK hH t_q32 rfl (iIn (by decide) (by decide)) (iRg _).1 (iRg _).2 dX1_begin_97 (fun H locs hH => ?_)
  refine lv_aload_n hx hb dX1_begin_98 rfl (lv_at hl 1 rfl) ?_
  refine tgr hC hK hH flX1_34 ht_h rfl rfl dX1_begin_99 (fun q33 t_q33 => ?_)
  refine lv_iload hx hb dX1_begin_102 (lv_at hl 0 rfl) ?_
  refine lv_iconst (v := -1) hx hb dX1_begin_104 (by decide) ?_
  refine tist (x := -1) hC hK hH t_q33 rfl (iIn (by decide) (by decide)) (iRg _).1 (iRg _).2 dX1_begin_105 (fun H locs hH => ?_)
  refine lv_aload_n hx hb dX1_begin_106 rfl (lv_at hl 1 rfl) ?_
  refine tgr hC hK hH flX1_37 ht_h rfl rfl dX1_begin_107 (fun q34 t_q34 => ?_)
  refine lv_iload hx hb dX1_begin_110 (lv_at hl 0 rfl) ?_
  refine lv_iconst (v := 0) hx hb dX1_begin_112 (by decide) ?_
  refine tist (x := 0) hC hK hH t_q34 rfl (iIn (by decide) (by decide)) (iRg _).1 (iRg _).2 dX1_begin_113 (fun H locs hH => ?_)
  refine lv_iinc (v := 5) (lv' := [(5, .int 5), (0, .ref h), (1, .int by_), (2, .int on), (3, .int to), (4, .int op)]) hx hb dX1_begin_114 hl (k := 0) rfl (by decide) (by decide) rfl (fun ls hl => ?_)
  refine lv_goto (tgt := 75) hx hb dX1_begin_117 (by decide) ?_
  refine lv_iload hx hb dX1_begin_75 (lv_at hl 0 rfl) ?_
  refine lv_bipush (v := 14) hx hb dX1_begin_77 (by decide) ?_
  refine jic_ge (tgt := 120) hx hb dX1_begin_79 (by decide) (fun c35 => absurd c35 (by decide)) (fun c35 => ?_)
  refine lv_aload_n hx hb dX1_begin_82 rfl (lv_at hl 1 rfl) ?_
  refine tgr hC hK hH flX1_27 ht_h rfl rfl dX1_begin_83 (fun q36 t_q36 => ?_)
  refine lv_iload hx hb dX1_begin_86 (lv_at hl 0 rfl) ?_
  refine lv_iconst (v := -1) hx hb dX1_begin_88 (by decide) ?_
  refine tist (x := -1) hC hK hH t_q36 rfl (iIn (by decide) (by decide)) (iRg _).1 (iRg _).2 dX1_begin_89 (fun H locs hH => ?_)
  refine lv_aload_n hx hb dX1_begin_90 rfl (lv_at hl 1 rfl) ?_
  refine tgr hC hK hH flX1_31 ht_h rfl rfl dX1_begin_91 (fun q37 t_q37 => ?_)
  refine lv_iload hx hb dX1_begin_94 (lv_at hl 0 rfl) ?_
  refine lv_iconst (v := 0) hx hb dX1_begin_96 (by decide) ?_
  refine tist (x := 0) hC hK hH t_q37 rfl (iIn (by decide) (by decide)) (iRg _).1 (iRg _).2 dX1_begin_97 (fun H locs hH => ?_)
  refine lv_aload_n hx hb dX1_begin_98 rfl (lv_at hl 1 rfl) ?_
  refine tgr hC hK hH flX1_34 ht_h rfl rfl dX1_begin_99 (fun q38 t_q38 => ?_)
  refine lv_iload hx hb dX1_begin_102 (lv_at hl 0 rfl) ?_
  refine lv_iconst (v := -1) hx hb dX1_begin_104 (by decide) ?_
  refine tist (x := -1) hC hK hH t_q38 rfl (iIn (by decide) (by decide)) (iRg _).1 (iRg _).2 dX1_begin_105 (fun H locs hH => ?_)
  refine lv_aload_n hx hb dX1_begin_106 rfl (lv_at hl 1 rfl) ?_
  refine tgr hC hK hH flX1_37 ht_h rfl rfl dX1_begin_107 (fun q39 t_q39 => ?_)
  refine lv_iload hx hb dX1_begin_110 (lv_at hl 0 rfl) ?_
  refine lv_iconst (v := 0) hx hb dX1_begin_112 (by decide) ?_
  refine tist (x := 0) hC hK hH t_q39 rfl (iIn (by decide) (by decide)) (iRg _).1 (iRg _).2 dX1_begin_113 (fun H locs hH => ?_)
  refine lv_iinc (v := 6) (lv' := [(5, .int 6), (0, .ref h), (1, .int by_), (2, .int on), (3, .int to), (4, .int op)]) hx hb dX1_begin_114 hl (k := 0) rfl (by decide) (by decide) rfl (fun ls hl => ?_)
  refine lv_goto (tgt := 75) hx hb dX1_begin_117 (by decide) ?_
  refine lv_iload hx hb dX1_begin_75 (lv_at hl 0 rfl) ?_
  refine lv_bipush (v := 14) hx hb dX1_begin_77 (by decide) ?_
  refine jic_ge (tgt := 120) hx hb dX1_begin_79 (by decide) (fun c40 => absurd c40 (by decide)) (fun c40 => ?_)
  refine lv_aload_n hx hb dX1_begin_82 rfl (lv_at hl 1 rfl) ?_
  refine tgr hC hK hH flX1_27 ht_h rfl rfl dX1_begin_83 (fun q41 t_q41 => ?_)
  refine lv_iload hx hb dX1_begin_86 (lv_at hl 0 rfl) ?_
  refine lv_iconst (v := -1) hx hb dX1_begin_88 (by decide) ?_
  refine tist (x := -1) hC hK hH t_q41 rfl (iIn (by decide) (by decide)) (iRg _).1 (iRg _).2 dX1_begin_89 (fun H locs hH => ?_)
  refine lv_aload_n hx hb dX1_begin_90 rfl (lv_at hl 1 rfl) ?_
  refine tgr hC hK hH flX1_31 ht_h rfl rfl dX1_begin_91 (fun q42 t_q42 => ?_)
  refine lv_iload hx hb dX1_begin_94 (lv_at hl 0 rfl) ?_
  refine lv_iconst (v := 0) hx hb dX1_begin_96 (by decide) ?_
  refine tist (x := 0) hC hK hH t_q42 rfl (iIn (by decide) (by decide)) (iRg _).1 (iRg _).2 dX1_begin_97 (fun H locs hH => ?_)
  refine lv_aload_n hx hb dX1_begin_98 rfl (lv_at hl 1 rfl) ?_
  refine tgr hC hK hH flX1_34 ht_h rfl rfl dX1_begin_99 (fun q43 t_q43 => ?_)
  refine lv_iload hx hb dX1_begin_102 (lv_at hl 0 rfl) ?_
  refine lv_iconst (v := -1) hx hb dX1_begin_104 (by decide) ?_
  refine tist (x := -1) hC hK hH t_q43 rfl (iIn (by decide) (by decide)) (iRg _).1 (iRg _).2 dX1_begin_105 (fun H locs hH => ?_)
  refine lv_aload_n hx hb dX1_begin_106 rfl (lv_at hl 1 rfl) ?_
  refine tgr hC hK hH flX1_37 ht_h rfl rfl dX1_begin_107 (fun q44 t_q44 => ?_)
  refine lv_iload hx hb dX1_begin_110 (lv_at hl 0 rfl) ?_
  refine lv_iconst (v := 0) hx hb dX1_begin_112 (by decide) ?_
  refine tist (x := 0) hC hK hH t_q44 rfl (iIn (by decide) (by decide)) (iRg _).1 (iRg _).2 dX1_begin_113 (fun H locs hH => ?_)
  refine lv_iinc (v := 7) (lv' := [(5, .int 7), (0, .ref h), (1, .int by_), (2, .int on), (3, .int to), (4, .int op)]) hx hb dX1_begin_114 hl (k := 0) rfl (by decide) (by decide) rfl (fun ls hl => ?_)
  refine lv_goto (tgt := 75) hx hb dX1_begin_117 (by decide) ?_
  refine lv_iload hx hb dX1_begin_75 (lv_at hl 0 rfl) ?_
  refine lv_bipush (v := 14) hx hb dX1_begin_77 (by decide) ?_
  refine jic_ge (tgt := 120) hx hb dX1_begin_79 (by decide) (fun c45 => absurd c45 (by decide)) (fun c45 => ?_)
  refine lv_aload_n hx hb dX1_begin_82 rfl (lv_at hl 1 rfl) ?_
  refine tgr hC hK hH flX1_27 ht_h rfl rfl dX1_begin_83 (fun q46 t_q46 => ?_)
  refine lv_iload hx hb dX1_begin_86 (lv_at hl 0 rfl) ?_
  refine lv_iconst (v := -1) hx hb dX1_begin_88 (by decide) ?_
  refine tist (x := -1) hC hK hH t_q46 rfl (iIn (by decide) (by decide)) (iRg _).1 (iRg _).2 dX1_begin_89 (fun H locs hH => ?_)
  refine lv_aload_n hx hb dX1_begin_90 rfl (lv_at hl 1 rfl) ?_
  refine tgr hC hK hH flX1_31 ht_h rfl rfl dX1_begin_91 (fun q47 t_q47 => ?_)
  refine lv_iload hx hb dX1_begin_94 (lv_at hl 0 rfl) ?_
  refine lv_iconst (v := 0) hx hb dX1_begin_96 (by decide) ?_
  refine tist (x := 0) hC hK hH t_q47 rfl (iIn (by decide) (by decide)) (iRg _).1 (iRg _).2 dX1_begin_97 (fun H locs hH => ?_)
  refine lv_aload_n hx hb dX1_begin_98 rfl (lv_at hl 1 rfl) ?_
  refine tgr hC hK hH flX1_34 ht_h rfl rfl dX1_begin_99 (fun q48 t_q48 => ?_)
  refine lv_iload hx hb dX1_begin_102 (lv_at hl 0 rfl) ?_
  refine lv_iconst (v := -1) hx hb dX1_begin_104 (by decide) ?_
  refine tist (x := -1) hC hK hH t_q48 rfl (iIn (by decide) (by decide)) (iRg _).1 (iRg _).2 dX1_begin_105 (fun H locs hH => ?_)
  refine lv_aload_n hx hb dX1_begin_106 rfl (lv_at hl 1 rfl) ?_
  refine tgr hC hK hH flX1_37 ht_h rfl rfl dX1_begin_107 (fun q49 t_q49 => ?_)
  refine lv_iload hx hb dX1_begin_110 (lv_at hl 0 rfl) ?_
  refine lv_iconst (v := 0) hx hb dX1_begin_112 (by decide) ?_
  refine tist (x := 0) hC hK hH t_q49 rfl (iIn (by decide) (by decide)) (iRg _).1 (iRg _).2 dX1_begin_113 (fun H locs hH => ?_)
  refine lv_iinc (v := 8) (lv' := [(5, .int 8), (0, .ref h), (1, .int by_), (2, .int on), (3, .int to), (4, .int op)]) hx hb dX1_begin_114 hl (k := 0) rfl (by decide) (by decide) rfl (fun ls hl => ?_)
  refine lv_goto (tgt := 75) hx hb dX1_begin_117 (by decide) ?_
  refine lv_iload hx hb dX1_begin_75 (lv_at hl 0 rfl) ?_
  refine lv_bipush (v := 14) hx hb dX1_begin_77 (by decide) ?_
  refine jic_ge (tgt := 120) hx hb dX1_begin_79 (by decide) (fun c50 => absurd c50 (by decide)) (fun c50 => ?_)
  refine lv_aload_n hx hb dX1_begin_82 rfl (lv_at hl 1 rfl) ?_
  refine tgr hC hK hH flX1_27 ht_h rfl rfl dX1_begin_83 (fun q51 t_q51 => ?_)
  refine lv_iload hx hb dX1_begin_86 (lv_at hl 0 rfl) ?_
  refine lv_iconst (v := -1) hx hb dX1_begin_88 (by decide) ?_
  refine tist (x := -1) hC hK hH t_q51 rfl (iIn (by decide) (by decide)) (iRg _).1 (iRg _).2 dX1_begin_89 (fun H locs hH => ?_)
  refine lv_aload_n hx hb dX1_begin_90 rfl (lv_at hl 1 rfl) ?_
  refine tgr hC hK hH flX1_31 ht_h rfl rfl dX1_begin_91 (fun q52 t_q52 => ?_)
  refine lv_iload hx hb dX1_begin_94 (lv_at hl 0 rfl) ?_
  refine lv_iconst (v := 0) hx hb dX1_begin_96 (by decide) ?_
  refine tist (x := 0) hC hK hH t_q52 rfl (iIn (by decide) (by decide)) (iRg _).1 (iRg _).2 dX1_begin_97 (fun H locs hH => ?_)
  refine lv_aload_n hx hb dX1_begin_98 rfl (lv_at hl 1 rfl) ?_
  refine tgr hC hK hH flX1_34 ht_h rfl rfl dX1_begin_99 (fun q53 t_q53 => ?_)
  refine lv_iload hx hb dX1_begin_102 (lv_at hl 0 rfl) ?_
  refine lv_iconst (v := -1) hx hb dX1_begin_104 (by decide) ?_
  refine tist (x := -1) hC hK hH t_q53 rfl (iIn (by decide) (by decide)) (iRg _).1 (iRg _).2 dX1_begin_105 (fun H locs hH => ?_)
  refine lv_aload_n hx hb dX1_begin_106 rfl (lv_at hl 1 rfl) ?_
  refine tgr hC hK hH flX1_37 ht_h rfl rfl dX1_begin_107 (fun q54 t_q54 => ?_)
  refine lv_iload hx hb dX1_begin_110 (lv_at hl 0 rfl) ?_
  refine lv_iconst (v := 0) hx hb dX1_begin_112 (by decide) ?_
  refine tist (x := 0) hC hK hH t_q54 rfl (iIn (by decide) (by decide)) (iRg _).1 (iRg _).2 dX1_begin_113 (fun H locs hH => ?_)
  refine lv_iinc (v := 9) (lv' := [(5, .int 9), (0, .ref h), (1, .int by_), (2, .int on), (3, .int to), (4, .int op)]) hx hb dX1_begin_114 hl (k := 0) rfl (by decide) (by decide) rfl (fun ls hl => ?_)
  refine lv_goto (tgt := 75) hx hb dX1_begin_117 (by decide) ?_
  refine lv_iload hx hb dX1_begin_75 (lv_at hl 0 rfl) ?_
  refine lv_bipush (v := 14) hx hb dX1_begin_77 (by decide) ?_
  refine jic_ge (tgt := 120) hx hb dX1_begin_79 (by decide) (fun c55 => absurd c55 (by decide)) (fun c55 => ?_)
  refine lv_aload_n hx hb dX1_begin_82 rfl (lv_at hl 1 rfl) ?_
  refine tgr hC hK hH flX1_27 ht_h rfl rfl dX1_begin_83 (fun q56 t_q56 => ?_)
  refine lv_iload hx hb dX1_begin_86 (lv_at hl 0 rfl) ?_
  refine lv_iconst (v := -1) hx hb dX1_begin_88 (by decide) ?_
  refine tist (x := -1) hC hK hH t_q56 rfl (iIn (by decide) (by decide)) (iRg _).1 (iRg _).2 dX1_begin_89 (fun H locs hH => ?_)
  refine lv_aload_n hx hb dX1_begin_90 rfl (lv_at hl 1 rfl) ?_
  refine tgr hC hK hH flX1_31 ht_h rfl rfl dX1_begin_91 (fun q57 t_q57 => ?_)
  refine lv_iload hx hb dX1_begin_94 (lv_at hl 0 rfl) ?_
  refine lv_iconst (v := 0) hx hb dX1_begin_96 (by decide) ?_
  refine tist (x := 0) hC hK hH t_q57 rfl (iIn (by decide) (by decide)) (iRg _).1 (iRg _).2 dX1_begin_97 (fun H locs hH => ?_)
  refine lv_aload_n hx hb dX1_begin_98 rfl (lv_at hl 1 rfl) ?_
  refine tgr hC hK hH flX1_34 ht_h rfl rfl dX1_begin_99 (fun q58 t_q58 => ?_)
  refine lv_iload hx hb dX1_begin_102 (lv_at hl 0 rfl) ?_
  refine lv_iconst (v := -1) hx hb dX1_begin_104 (by decide) ?_
  refine tist (x := -1) hC hK hH t_q58 rfl (iIn (by decide) (by decide)) (iRg _).1 (iRg _).2 dX1_begin_105 (fun H locs hH => ?_)
  refine lv_aload_n hx hb dX1_begin_106 rfl (lv_at hl 1 rfl) ?_
  refine tgr hC hK hH flX1_37 ht_h rfl rfl dX1_begin_107 (fun q59 t_q59 => ?_)
  refine lv_iload hx hb dX1_begin_110 (lv_at hl 0 rfl) ?_
  refine lv_iconst (v := 0) hx hb dX1_begin_112 (by decide) ?_
  refine tist (x := 0) hC hK hH t_q59 rfl (iIn (by decide) (by decide)) (iRg _).1 (iRg _).2 dX1_begin_113 (fun H locs hH => ?_)
  refine lv_iinc (v := 10) (lv' := [(5, .int 10), (0, .ref h), (1, .int by_), (2, .int on), (3, .int to), (4, .int op)]) hx hb dX1_begin_114 hl (k := 0) rfl (by decide) (by decide) rfl (fun ls hl => ?_)
  refine lv_goto (tgt := 75) hx hb dX1_begin_117 (by decide) ?_
  refine lv_iload hx hb dX1_begin_75 (lv_at hl 0 rfl) ?_
  refine lv_bipush (v := 14) hx hb dX1_begin_77 (by decide) ?_
  refine jic_ge (tgt := 120) hx hb dX1_begin_79 (by decide) (fun c60 => absurd c60 (by decide)) (fun c60 => ?_)
  refine lv_aload_n hx hb dX1_begin_82 rfl (lv_at hl 1 rfl) ?_
  refine tgr hC hK hH flX1_27 ht_h rfl rfl dX1_begin_83 (fun q61 t_q61 => ?_)
  refine lv_iload hx hb dX1_begin_86 (lv_at hl 0 rfl) ?_
  refine lv_iconst (v := -1) hx hb dX1_begin_88 (by decide) ?_
  refine tist (x := -1) hC hK hH t_q61 rfl (iIn (by decide) (by decide)) (iRg _).1 (iRg _).2 dX1_begin_89 (fun H locs hH => ?_)
  refine lv_aload_n hx hb dX1_begin_90 rfl (lv_at hl 1 rfl) ?_
  refine tgr hC hK hH flX1_31 ht_h rfl rfl dX1_begin_91 (fun q62 t_q62 => ?_)
  refine lv_iload hx hb dX1_begin_94 (lv_at hl 0 rfl) ?_
  refine lv_iconst (v := 0) hx hb dX1_begin_96 (by decide) ?_
  refine tist (x := 0) hC hK hH t_q62 rfl (iIn (by decide) (by decide)) (iRg _).1 (iRg _).2 dX1_begin_97 (fun H locs hH => ?_)
  refine lv_aload_n hx hb dX1_begin_98 rfl (lv_at hl 1 rfl) ?_
  refine tgr hC hK hH flX1_34 ht_h rfl rfl dX1_begin_99 (fun q63 t_q63 => ?_)
  refine lv_iload hx hb dX1_begin_102 (lv_at hl 0 rfl) ?_
  refine lv_iconst (v := -1) hx hb dX1_begin_104 (by decide) ?_
  refine tist (x := -1) hC hK hH t_q63 rfl (iIn (by decide) (by decide)) (iRg _).1 (iRg _).2 dX1_begin_105 (fun H locs hH => ?_)
  refine lv_aload_n hx hb dX1_begin_106 rfl (lv_at hl 1 rfl) ?_
  refine tgr hC hK hH flX1_37 ht_h rfl rfl dX1_begin_107 (fun q64 t_q64 => ?_)
  refine lv_iload hx hb dX1_begin_110 (lv_at hl 0 rfl) ?_
  refine lv_iconst (v := 0) hx hb dX1_begin_112 (by decide) ?_
  refine tist (x := 0) hC hK hH t_q64 rfl (iIn (by decide) (by decide)) (iRg _).1 (iRg _).2 dX1_begin_113 (fun H locs hH => ?_)
  refine lv_iinc (v := 11) (lv' := [(5, .int 11), (0, .ref h), (1, .int by_), (2, .int on), (3, .int to), (4, .int op)]) hx hb dX1_begin_114 hl (k := 0) rfl (by decide) (by decide) rfl (fun ls hl => ?_)
  refine lv_goto (tgt := 75) hx hb dX1_begin_117 (by decide) ?_
  refine lv_iload hx hb dX1_begin_75 (lv_at hl 0 rfl) ?_
  refine lv_bipush (v := 14) hx hb dX1_begin_77 (by decide) ?_
  refine jic_ge (tgt := 120) hx hb dX1_begin_79 (by decide) (fun c65 => absurd c65 (by decide)) (fun c65 => ?_)
  refine lv_aload_n hx hb dX1_begin_82 rfl (lv_at hl 1 rfl) ?_
  refine tgr hC hK hH flX1_27 ht_h rfl rfl dX1_begin_83 (fun q66 t_q66 => ?_)
  refine lv_iload hx hb dX1_begin_86 (lv_at hl 0 rfl) ?_
  refine lv_iconst (v := -1) hx hb dX1_begin_88 (by decide) ?_
  refine tist (x := -1) hC hK hH t_q66 rfl (iIn (by decide) (by decide)) (iRg _).1 (iRg _).2 dX1_begin_89 (fun H locs hH => ?_)
  refine lv_aload_n hx hb dX1_begin_90 rfl (lv_at hl 1 rfl) ?_
  refine tgr hC hK hH flX1_31 ht_h rfl rfl dX1_begin_91 (fun q67 t_q67 => ?_)
  refine lv_iload hx hb dX1_begin_94 (lv_at hl 0 rfl) ?_
  refine lv_iconst (v := 0) hx hb dX1_begin_96 (by decide) ?_
  refine tist (x := 0) hC hK hH t_q67 rfl (iIn (by decide) (by decide)) (iRg _).1 (iRg _).2 dX1_begin_97 (fun H locs hH => ?_)
  refine lv_aload_n hx hb dX1_begin_98 rfl (lv_at hl 1 rfl) ?_
  refine tgr hC hK hH flX1_34 ht_h rfl rfl dX1_begin_99 (fun q68 t_q68 => ?_)
  refine lv_iload hx hb dX1_begin_102 (lv_at hl 0 rfl) ?_
  refine lv_iconst (v := -1) hx hb dX1_begin_104 (by decide) ?_
  refine tist (x := -1) hC hK hH t_q68 rfl (iIn (by decide) (by decide)) (iRg _).1 (iRg _).2 dX1_begin_105 (fun H locs hH => ?_)
  refine lv_aload_n hx hb dX1_begin_106 rfl (lv_at hl 1 rfl) ?_
  refine tgr hC hK hH flX1_37 ht_h rfl rfl dX1_begin_107 (fun q69 t_q69 => ?_)
  refine lv_iload hx hb dX1_begin_110 (lv_at hl 0 rfl) ?_
  refine lv_iconst (v := 0) hx hb dX1_begin_112 (by decide) ?_
  refine tist (x := 0) hC hK hH t_q69 rfl (iIn (by decide) (by decide)) (iRg _).1 (iRg _).2 dX1_begin_113 (fun H locs hH => ?_)
  refine lv_iinc (v := 12) (lv' := [(5, .int 12), (0, .ref h), (1, .int by_), (2, .int on), (3, .int to), (4, .int op)]) hx hb dX1_begin_114 hl (k := 0) rfl (by decide) (by decide) rfl (fun ls hl => ?_)
  refine lv_goto (tgt := 75) hx hb dX1_begin_117 (by decide) ?_
  refine lv_iload hx hb dX1_begin_75 (lv_at hl 0 rfl) ?_
  refine lv_bipush (v := 14) hx hb dX1_begin_77 (by decide) ?_
  refine jic_ge (tgt := 120) hx hb dX1_begin_79 (by decide) (fun c70 => absurd c70 (by decide)) (fun c70 => ?_)
  refine lv_aload_n hx hb dX1_begin_82 rfl (lv_at hl 1 rfl) ?_
  refine tgr hC hK hH flX1_27 ht_h rfl rfl dX1_begin_83 (fun q71 t_q71 => ?_)
  refine lv_iload hx hb dX1_begin_86 (lv_at hl 0 rfl) ?_
  refine lv_iconst (v := -1) hx hb dX1_begin_88 (by decide) ?_
  refine tist (x := -1) hC hK hH t_q71 rfl (iIn (by decide) (by decide)) (iRg _).1 (iRg _).2 dX1_begin_89 (fun H locs hH => ?_)
  refine lv_aload_n hx hb dX1_begin_90 rfl (lv_at hl 1 rfl) ?_
  refine tgr hC hK hH flX1_31 ht_h rfl rfl dX1_begin_91 (fun q72 t_q72 => ?_)
  refine lv_iload hx hb dX1_begin_94 (lv_at hl 0 rfl) ?_
  refine lv_iconst (v := 0) hx hb dX1_begin_96 (by decide) ?_
  refine tist (x := 0) hC hK hH t_q72 rfl (iIn (by decide) (by decide)) (iRg _).1 (iRg _).2 dX1_begin_97 (fun H locs hH => ?_)
  refine lv_aload_n hx hb dX1_begin_98 rfl (lv_at hl 1 rfl) ?_
  refine tgr hC hK hH flX1_34 ht_h rfl rfl dX1_begin_99 (fun q73 t_q73 => ?_)
  refine lv_iload hx hb dX1_begin_102 (lv_at hl 0 rfl) ?_
  refine lv_iconst (v := -1) hx hb dX1_begin_104 (by decide) ?_
  refine tist (x := -1) hC hK hH t_q73 rfl (iIn (by decide) (by decide)) (iRg _).1 (iRg _).2 dX1_begin_105 (fun H locs hH => ?_)
  refine lv_aload_n hx hb dX1_begin_106 rfl (lv_at hl 1 rfl) ?_
  refine tgr hC hK hH flX1_37 ht_h rfl rfl dX1_begin_107 (fun q74 t_q74 => ?_)
  refine lv_iload hx hb dX1_begin_110 (lv_at hl 0 rfl) ?_
  refine lv_iconst (v := 0) hx hb dX1_begin_112 (by decide) ?_
  refine tist (x := 0) hC hK hH t_q74 rfl (iIn (by decide) (by decide)) (iRg _).1 (iRg _).2 dX1_begin_113 (fun H locs hH => ?_)
  refine lv_iinc (v := 13) (lv' := [(5, .int 13), (0, .ref h), (1, .int by_), (2, .int on), (3, .int to), (4, .int op)]) hx hb dX1_begin_114 hl (k := 0) rfl (by decide) (by decide) rfl (fun ls hl => ?_)
  refine lv_goto (tgt := 75) hx hb dX1_begin_117 (by decide) ?_
  refine lv_iload hx hb dX1_begin_75 (lv_at hl 0 rfl) ?_
  refine lv_bipush (v := 14) hx hb dX1_begin_77 (by decide) ?_
  refine jic_ge (tgt := 120) hx hb dX1_begin_79 (by decide) (fun c75 => absurd c75 (by decide)) (fun c75 => ?_)
  refine lv_aload_n hx hb dX1_begin_82 rfl (lv_at hl 1 rfl) ?_
  refine tgr hC hK hH flX1_27 ht_h rfl rfl dX1_begin_83 (fun q76 t_q76 => ?_)
  refine lv_iload hx hb dX1_begin_86 (lv_at hl 0 rfl) ?_
  refine lv_iconst (v := -1) hx hb dX1_begin_88 (by decide) ?_
  refine tist (x := -1) hC hK hH t_q76 rfl (iIn (by decide) (by decide)) (iRg _).1 (iRg _).2 dX1_begin_89 (fun H locs hH => ?_)
  refine lv_aload_n hx hb dX1_begin_90 rfl (lv_at hl 1 rfl) ?_
  refine tgr hC hK hH flX1_31 ht_h rfl rfl dX1_begin_91 (fun q77 t_q77 => ?_)
  refine lv_iload hx hb dX1_begin_94 (lv_at hl 0 rfl) ?_
  refine lv_iconst (v := 0) hx hb dX1_begin_96 (by decide) ?_
  refine tist (x := 0) hC hK hH t_q77 rfl (iIn (by decide) (by decide)) (iRg _).1 (iRg _).2 dX1_begin_97 (fun H locs hH => ?_)
  refine lv_aload_n hx hb dX1_begin_98 rfl (lv_at hl 1 rfl) ?_
  refine tgr hC hK hH flX1_34 ht_h rfl rfl dX1_begin_99 (fun q78 t_q78 => ?_)
  refine lv_iload hx hb dX1_begin_102 (lv_at hl 0 rfl) ?_
  refine lv_iconst (v := -1) hx hb dX1_begin_104 (by decide) ?_
  refine tist (x := -1) hC hK hH t_q78 rfl (iIn (by decide) (by decide)) (iRg _).1 (iRg _).2 dX1_begin_105 (fun H locs hH => ?_)
  refine lv_aload_n hx hb dX1_begin_106 rfl (lv_at hl 1 rfl) ?_
  refine tgr hC hK hH flX1_37 ht_h rfl rfl dX1_begin_107 (fun q79 t_q79 => ?_)
  refine lv_iload hx hb dX1_begin_110 (lv_at hl 0 rfl) ?_
  refine lv_iconst (v := 0) hx hb dX1_begin_112 (by decide) ?_
  refine tist (x := 0) hC hK hH t_q79 rfl (iIn (by decide) (by decide)) (iRg _).1 (iRg _).2 dX1_begin_113 (fun H locs hH => ?_)
  refine lv_iinc (v := 14) (lv' := [(5, .int 14), (0, .ref h), (1, .int by_), (2, .int on), (3, .int to), (4, .int op)]) hx hb dX1_begin_114 hl (k := 0) rfl (by decide) (by decide) rfl (fun ls hl => ?_)
  refine lv_goto (tgt := 75) hx hb dX1_begin_117 (by decide) ?_
  refine lv_iload hx hb dX1_begin_75 (lv_at hl 0 rfl) ?_
  refine lv_bipush (v := 14) hx hb dX1_begin_77 (by decide) ?_
  refine jic_ge (tgt := 120) hx hb dX1_begin_79 (by decide) (fun c80 => ?_) (fun c80 => absurd c80 (by decide))
  exact ret_v hC hr hlk hK hH (⟨trivial, rfl, rfl⟩) (Nat.le_of_ble_eq_true rfl) (Nat.le_of_ble_eq_true rfl) dX1_begin_120
