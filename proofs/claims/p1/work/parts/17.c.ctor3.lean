set_option maxHeartbeats 4000000 in
set_option maxRecDepth 100000 in
theorem c_X4_init {l : Launch} {D : va_G} {kA : Nat → ClassId} {M : mM} {T : mT} {sz h vb : Nat} (hc_h : M h = some (.inr (3, [.null, .null, .int 0, .int 0, .null, .int 0, .int 0, .int 0, .int 0, .int 0]))) (hlt : h < sz) : mCvZ l yX4_init cX4_init 1 1 2 5 D kA M T sz vb [.ref h] (fun u => ∃ nb by_, u.1 h = some (.inr (3, [.ref nb, .ref vb, .int 0, .int 0, .ref by_, .int 0, .int 0, .int 0, .int 0, .int 0])) ∧ sz ≤ nb ∧ sz ≤ by_ ∧ (∀ a t, T a = some t → u.2 a = some t) ∧ ∀ a, a ≠ h → a < sz → u.1 a = M a) := by
  unfold mCvZ
  refine start_WZ (by decide) (Nat.le_of_ble_eq_true rfl) ?_
  intro p e s m below meth c ls hC hr hlk hnm hK hH hsz hZ hl
  have hx := hC.1
  have hb := hC.2.1
  have hl : lv_has ls 1 [(0, .ref h)] := hl
  have hF : ∀ a, a ≠ h → a < sz → M a = M a := fun a _ _ => rfl
  have hTT : ∀ a t, T a = some t → T a = some t := fun _ _ h => h
  refine lv_aload_n hx hb dX4_init_0 rfl (lv_at hl 0 rfl) ?_
  refine W.objInit hx hb hC.2.2.2.1 (hC.2.2.2.2 _ wlX4_3) (hC.2.2.2.2 _ w_oi) (hC.2.2.2.2 _ w_oc) rfl (by rw [hC.2.2.1]; exact hl.1) rfl dX4_init_1 (Nat.le_of_ble_eq_true rfl) (Nat.le_of_ble_eq_true rfl) ?_
  refine W.eq (g2 := F0 m 4 ls []) rfl ?_
  refine lv_aload_n hx hb dX4_init_4 rfl (lv_at hl 0 rfl) ?_
  refine lv_iconst (v := 5) hx hb dX4_init_5 (by decide) ?_
  refine ynewa (atype := .int) (ck := 0) (N := 5) (a0 := (5, .inl (fun _ => 0))) hC hK hH rfl w_ac0 rfl (fun _ h => by cases h) (fun _ => rfl) (by decide) (by decide) (by decide) (Nat.le_of_ble_eq_true rfl) (Nat.le_of_ble_eq_true rfl) dX4_init_6 (fun q1 H M2 e_q1 hz nM_q1 nT_q1 hc_q1 hfr hN => ?_)
  have g_q1 : sz ≤ q1 := by rw [← hsz, e_q1]; exact hH.2.1.1
  have n_h_q1 : h ≠ q1 := neN hc_h nM_q1
  have n_q1_h : q1 ≠ h := Ne.symm n_h_q1
  have hH := hN
  have hc_q1 : M2 q1 = some (.inl (kA 0, 5, .inl (fun _ => 0))) := hc_q1
  have hc_h : M2 h = some (.inr (3, [.null, .null, .int 0, .int 0, .null, .int 0, .int 0, .int 0, .int 0, .int 0])) := (hfr h n_h_q1).trans hc_h
  have hF : ∀ a, a ≠ h → a < sz → M2 a = M a := fun a h0 h1 => (hfr a (Nat.ne_of_lt (Nat.lt_of_lt_of_le h1 g_q1))).trans (hF a h0 h1)
  refine ypF (v := .ref q1) hC hK hH hnm (fun _ _ _ h => by cases h; rfl) flX4_9 hc_h rfl rfl (Nat.le_of_ble_eq_true rfl) dX4_init_8 (fun H locs M3 hc_h hfr hH => ?_)
  have hc_h : M3 h = some (.inr (3, [.ref q1, .null, .int 0, .int 0, .null, .int 0, .int 0, .int 0, .int 0, .int 0])) := hc_h
  have hc_q1 : M3 q1 = some (.inl (kA 0, 5, .inl (fun _ => 0))) := (hfr q1 n_q1_h).trans hc_q1
  have hF : ∀ a, a ≠ h → a < sz → M3 a = M a := fun a h0 h1 => (hfr a h0).trans (hF a h0 h1)
  refine lv_aload_n hx hb dX4_init_11 rfl (lv_at hl 0 rfl) ?_
  refine getDay hC hZ hH wsX4_15 dX4_init_12 ?_
  refine yp (v := .ref vb) hC hK hH flX4_21 hc_h rfl rfl (Nat.le_of_ble_eq_true rfl) dX4_init_15 (fun H locs M4 hc_h hfr hH => ?_)
  have hc_h : M4 h = some (.inr (3, [.ref q1, .ref vb, .int 0, .int 0, .null, .int 0, .int 0, .int 0, .int 0, .int 0])) := hc_h
  have hc_q1 : M4 q1 = some (.inl (kA 0, 5, .inl (fun _ => 0))) := (hfr q1 n_q1_h).trans hc_q1
  have hF : ∀ a, a ≠ h → a < sz → M4 a = M a := fun a h0 h1 => (hfr a h0).trans (hF a h0 h1)
  refine lv_aload_n hx hb dX4_init_18 rfl (lv_at hl 0 rfl) ?_
  refine lv_iconst (v := 0) hx hb dX4_init_19 (by decide) ?_
  refine ynewa (atype := .byte) (ck := 1) (N := 0) (a0 := (0, .inl (fun _ => 0))) hC hK hH rfl w_ac1 rfl (fun _ h => by cases h) (fun _ => rfl) (by decide) (by decide) (by decide) (Nat.le_of_ble_eq_true rfl) (Nat.le_of_ble_eq_true rfl) dX4_init_20 (fun q5 H M6 e_q5 hz nM_q5 nT_q5 hc_q5 hfr hN => ?_)
  have g_q5 : sz ≤ q5 := by rw [← hsz, e_q5]; exact hH.2.1.1
  have n_h_q5 : h ≠ q5 := neN hc_h nM_q5
  have n_q5_h : q5 ≠ h := Ne.symm n_h_q5
  have n_q1_q5 : q1 ≠ q5 := neN hc_q1 nM_q5
  have n_q5_q1 : q5 ≠ q1 := Ne.symm n_q1_q5
  have hH := hN
  have hc_q5 : M6 q5 = some (.inl (kA 1, 0, .inl (fun _ => 0))) := hc_q5
  have hc_h : M6 h = some (.inr (3, [.ref q1, .ref vb, .int 0, .int 0, .null, .int 0, .int 0, .int 0, .int 0, .int 0])) := (hfr h n_h_q5).trans hc_h
  have hc_q1 : M6 q1 = some (.inl (kA 0, 5, .inl (fun _ => 0))) := (hfr q1 n_q1_q5).trans hc_q1
  have hF : ∀ a, a ≠ h → a < sz → M6 a = M a := fun a h0 h1 => (hfr a (Nat.ne_of_lt (Nat.lt_of_lt_of_le h1 g_q5))).trans (hF a h0 h1)
  refine yp (v := .ref q5) hC hK hH flX4_24 hc_h rfl rfl (Nat.le_of_ble_eq_true rfl) dX4_init_22 (fun H locs M7 hc_h hfr hH => ?_)
  have hc_h : M7 h = some (.inr (3, [.ref q1, .ref vb, .int 0, .int 0, .ref q5, .int 0, .int 0, .int 0, .int 0, .int 0])) := hc_h
  have hc_q1 : M7 q1 = some (.inl (kA 0, 5, .inl (fun _ => 0))) := (hfr q1 n_q1_h).trans hc_q1
  have hc_q5 : M7 q5 = some (.inl (kA 1, 0, .inl (fun _ => 0))) := (hfr q5 n_q5_h).trans hc_q5
  have hF : ∀ a, a ≠ h → a < sz → M7 a = M a := fun a h0 h1 => (hfr a h0).trans (hF a h0 h1)
  exact ret_v hC hr hlk hK hH (⟨q1, q5, hc_h, g_q1, g_q5, hTT, hF⟩) (Nat.le_of_ble_eq_true rfl) (Nat.le_of_ble_eq_true rfl) dX4_init_25
set_option maxHeartbeats 4000000 in
set_option maxRecDepth 100000 in
theorem c_X9_init {l : Launch} {D : va_G} {kA : Nat → ClassId} {M : mM} {T : mT} {sz h vb : Nat} (hc_h : M h = some (.inr (7, [.null, .null, .null, .null, .null]))) (hlt : h < sz) : mCvZ l yX9_init cX9_init 1 4 149 2144 D kA M T sz vb [.ref h] (fun u => ∃ w im rd rc cu cs bs tp nb by_, u.1 h = some (.inr (7, [.ref w, .ref im, .ref rd, .ref rc, .ref cu])) ∧ u.1 w = some (.inr (6, [.int 0, .int 2, .int 0, .int 0, .int 0, .int 0, .int 0, .int (-1), .ref cs, .ref bs, .ref tp])) ∧ u.1 im = some (.inl (kA 6, 3, .inr (.inr (.inr (.inr (fun _ => none)))))) ∧ u.1 rd = some (.inr (3, [.ref nb, .ref vb, .int 0, .int 0, .ref by_, .int 0, .int 0, .int 0, .int 0, .int 0])) ∧ u.1 cs = some (.inl (kA 0, 8, .inl (c100 (fun _ => 0)))) ∧ u.2 bs = some 6 ∧ u.2 tp = some 7 ∧ sz ≤ w ∧ sz ≤ im ∧ sz ≤ rd ∧ sz ≤ rc ∧ sz ≤ cu ∧ sz ≤ cs ∧ sz ≤ bs ∧ sz ≤ tp ∧ sz ≤ nb ∧ sz ≤ by_ ∧ (∀ a t, T a = some t → u.2 a = some t) ∧ ∀ a, a ≠ h → a < sz → u.1 a = M a) := by
  unfold mCvZ
  refine start_WZ (by decide) (Nat.le_of_ble_eq_true rfl) ?_
  intro p e s m below meth c ls hC hr hlk hnm hK hH hsz hZ hl
  have hx := hC.1
  have hb := hC.2.1
  have hl : lv_has ls 1 [(0, .ref h)] := hl
  have hF : ∀ a, a ≠ h → a < sz → M a = M a := fun a _ _ => rfl
  have hTT : ∀ a t, T a = some t → T a = some t := fun _ _ h => h
  refine lv_aload_n hx hb dX9_init_0 rfl (lv_at hl 0 rfl) ?_
  refine W.objInit hx hb hC.2.2.2.1 (hC.2.2.2.2 _ wlX9_3) (hC.2.2.2.2 _ w_oi) (hC.2.2.2.2 _ w_oc) rfl (by rw [hC.2.2.1]; exact hl.1) rfl dX9_init_1 (Nat.le_of_ble_eq_true rfl) (Nat.le_of_ble_eq_true rfl) ?_
  refine W.eq (g2 := F0 m 4 ls []) rfl ?_
  refine lv_aload_n hx hb dX9_init_4 rfl (lv_at hl 0 rfl) ?_
  refine ynew hC hK hH nlX9_9 (Nat.le_of_ble_eq_true rfl) (Nat.le_of_ble_eq_true rfl) dX9_init_5 (fun q1 H M2 e_q1 hz nM_q1 nT_q1 hc_q1 hfr hN => ?_)
  have g_q1 : sz ≤ q1 := by rw [← hsz, e_q1]; exact hH.2.1.1
  have n_h_q1 : h ≠ q1 := neN hc_h nM_q1
  have n_q1_h : q1 ≠ h := Ne.symm n_h_q1
  have hH := hN
  have hc_q1 : M2 q1 = some (.inr (6, [.int 0, .int 0, .int 0, .int 0, .int 0, .int 0, .int 0, .int 0, .null, .null, .null])) := hc_q1
  have hc_h : M2 h = some (.inr (7, [.null, .null, .null, .null, .null])) := (hfr h n_h_q1).trans hc_h
  have hF : ∀ a, a ≠ h → a < sz → M2 a = M a := fun a h0 h1 => (hfr a (Nat.ne_of_lt (Nat.lt_of_lt_of_le h1 g_q1))).trans (hF a h0 h1)
  refine lv_dup hx hb dX9_init_8 rfl ?_
  have lt_q1 : q1 < Array.size H := hH.1.ltM (by rw [hc_q1]; simp)
  have gH : sz ≤ Array.size H := by rw [← hsz]; exact hH.2.1.1
  have lt_h : h < Array.size H := hH.1.ltM (by rw [hc_h]; simp)
  have lt_q1 : q1 < Array.size H := hH.1.ltM (by rw [hc_q1]; simp)
  refine goV hK hH (runI (As := []) (rest := [.ref q1, .ref h]) hC hK hH (c_X8_init hc_q1 lt_q1) mlX9_11 ⟨⟨Nat.le_of_ble_eq_true rfl, Nat.le_of_ble_eq_true rfl⟩, Nat.le_of_ble_eq_true rfl, Nat.le_of_ble_eq_true rfl⟩ rfl hl.1 rfl (Nat.le_of_ble_eq_true rfl) dX9_init_9) (fun M3 T4 H locs hP hz hH => ?_)
  try dsimp only at hP
  obtain ⟨cs5, bs6, tp7, hc_q1, hc_cs5, t_bs6, t_tp7, g_cs5, g_bs6, g_tp7, hsub, hfr⟩ := hP
  have n_h_cs5 : h ≠ cs5 := Nat.ne_of_lt (Nat.lt_of_lt_of_le lt_h g_cs5)
  have n_cs5_h : cs5 ≠ h := Ne.symm n_h_cs5
  have n_q1_cs5 : q1 ≠ cs5 := Nat.ne_of_lt (Nat.lt_of_lt_of_le lt_q1 g_cs5)
  have n_cs5_q1 : cs5 ≠ q1 := Ne.symm n_q1_cs5
  have n_h_bs6 : h ≠ bs6 := Nat.ne_of_lt (Nat.lt_of_lt_of_le lt_h g_bs6)
  have n_bs6_h : bs6 ≠ h := Ne.symm n_h_bs6
  have n_q1_bs6 : q1 ≠ bs6 := Nat.ne_of_lt (Nat.lt_of_lt_of_le lt_q1 g_bs6)
  have n_bs6_q1 : bs6 ≠ q1 := Ne.symm n_q1_bs6
  have n_h_tp7 : h ≠ tp7 := Nat.ne_of_lt (Nat.lt_of_lt_of_le lt_h g_tp7)
  have n_tp7_h : tp7 ≠ h := Ne.symm n_h_tp7
  have n_q1_tp7 : q1 ≠ tp7 := Nat.ne_of_lt (Nat.lt_of_lt_of_le lt_q1 g_tp7)
  have n_tp7_q1 : tp7 ≠ q1 := Ne.symm n_q1_tp7
  have hc_h : M3 h = some (.inr (7, [.null, .null, .null, .null, .null])) := (hfr h n_h_q1 lt_h).trans hc_h
  have g_cs5 : sz ≤ cs5 := Nat.le_trans gH g_cs5
  have g_bs6 : sz ≤ bs6 := Nat.le_trans gH g_bs6
  have g_tp7 : sz ≤ tp7 := Nat.le_trans gH g_tp7
  have hTT : ∀ a t, T a = some t → T4 a = some t := fun a t h => hsub _ _ (hTT a t h)
  have hF : ∀ a, a ≠ h → a < sz → M3 a = M a := fun a h0 h1 => (hfr a (Nat.ne_of_lt (Nat.lt_of_lt_of_le h1 g_q1)) (Nat.lt_of_lt_of_le h1 gH)).trans (hF a h0 h1)
  refine ypF (v := .ref q1) hC hK hH hnm (fun _ _ _ h => by cases h; rfl) flX9_12 hc_h rfl rfl (Nat.le_of_ble_eq_true rfl) dX9_init_12 (fun H locs M8 hc_h hfr hH => ?_)
  have hc_h : M8 h = some (.inr (7, [.ref q1, .null, .null, .null, .null])) := hc_h
  have hc_q1 : M8 q1 = some (.inr (6, [.int 0, .int 2, .int 0, .int 0, .int 0, .int 0, .int 0, .int (-1), .ref cs5, .ref bs6, .ref tp7])) := (hfr q1 n_q1_h).trans hc_q1
  have hc_cs5 : M8 cs5 = some (.inl (kA 0, 8, .inl (c100 (fun _ => 0)))) := (hfr cs5 n_cs5_h).trans hc_cs5
  have hF : ∀ a, a ≠ h → a < sz → M8 a = M a := fun a h0 h1 => (hfr a h0).trans (hF a h0 h1)
  refine lv_aload_n hx hb dX9_init_15 rfl (lv_at hl 0 rfl) ?_
  refine lv_iconst (v := 3) hx hb dX9_init_16 (by decide) ?_
  refine ynewq (ck := 6) (N := 3) hC hK hH wcX9_9 (by decide) rfl (by decide) (by decide) (by decide) (Nat.le_of_ble_eq_true rfl) (Nat.le_of_ble_eq_true rfl) dX9_init_17 (fun q9 H M10 e_q9 hz nM_q9 nT_q9 hc_q9 hfr hN => ?_)
  have g_q9 : sz ≤ q9 := by rw [← hsz, e_q9]; exact hH.2.1.1
  have n_h_q9 : h ≠ q9 := neN hc_h nM_q9
  have n_q9_h : q9 ≠ h := Ne.symm n_h_q9
  have n_q1_q9 : q1 ≠ q9 := neN hc_q1 nM_q9
  have n_q9_q1 : q9 ≠ q1 := Ne.symm n_q1_q9
  have n_cs5_q9 : cs5 ≠ q9 := neN hc_cs5 nM_q9
  have n_q9_cs5 : q9 ≠ cs5 := Ne.symm n_cs5_q9
  have hH := hN
  have hc_q9 : M10 q9 = some (.inl (kA 6, 3, .inr (.inr (.inr (.inr (fun _ => none)))))) := hc_q9
  have hc_h : M10 h = some (.inr (7, [.ref q1, .null, .null, .null, .null])) := (hfr h n_h_q9).trans hc_h
  have hc_q1 : M10 q1 = some (.inr (6, [.int 0, .int 2, .int 0, .int 0, .int 0, .int 0, .int 0, .int (-1), .ref cs5, .ref bs6, .ref tp7])) := (hfr q1 n_q1_q9).trans hc_q1
  have hc_cs5 : M10 cs5 = some (.inl (kA 0, 8, .inl (c100 (fun _ => 0)))) := (hfr cs5 n_cs5_q9).trans hc_cs5
  have hF : ∀ a, a ≠ h → a < sz → M10 a = M a := fun a h0 h1 => (hfr a (Nat.ne_of_lt (Nat.lt_of_lt_of_le h1 g_q9))).trans (hF a h0 h1)
  refine ypF (v := .ref q9) hC hK hH hnm (fun _ _ _ h => by cases h; rfl) flX9_16 hc_h rfl rfl (Nat.le_of_ble_eq_true rfl) dX9_init_20 (fun H locs M11 hc_h hfr hH => ?_)
  have hc_h : M11 h = some (.inr (7, [.ref q1, .ref q9, .null, .null, .null])) := hc_h
  have hc_q1 : M11 q1 = some (.inr (6, [.int 0, .int 2, .int 0, .int 0, .int 0, .int 0, .int 0, .int (-1), .ref cs5, .ref bs6, .ref tp7])) := (hfr q1 n_q1_h).trans hc_q1
  have hc_cs5 : M11 cs5 = some (.inl (kA 0, 8, .inl (c100 (fun _ => 0)))) := (hfr cs5 n_cs5_h).trans hc_cs5
  have hc_q9 : M11 q9 = some (.inl (kA 6, 3, .inr (.inr (.inr (.inr (fun _ => none)))))) := (hfr q9 n_q9_h).trans hc_q9
  have hF : ∀ a, a ≠ h → a < sz → M11 a = M a := fun a h0 h1 => (hfr a h0).trans (hF a h0 h1)
  refine lv_aload_n hx hb dX9_init_23 rfl (lv_at hl 0 rfl) ?_
  refine ynew hC hK hH nlX9_20 (Nat.le_of_ble_eq_true rfl) (Nat.le_of_ble_eq_true rfl) dX9_init_24 (fun q12 H M13 e_q12 hz nM_q12 nT_q12 hc_q12 hfr hN => ?_)
  have g_q12 : sz ≤ q12 := by rw [← hsz, e_q12]; exact hH.2.1.1
  have n_h_q12 : h ≠ q12 := neN hc_h nM_q12
  have n_q12_h : q12 ≠ h := Ne.symm n_h_q12
  have n_q1_q12 : q1 ≠ q12 := neN hc_q1 nM_q12
  have n_q12_q1 : q12 ≠ q1 := Ne.symm n_q1_q12
  have n_cs5_q12 : cs5 ≠ q12 := neN hc_cs5 nM_q12
  have n_q12_cs5 : q12 ≠ cs5 := Ne.symm n_cs5_q12
  have n_q9_q12 : q9 ≠ q12 := neN hc_q9 nM_q12
  have n_q12_q9 : q12 ≠ q9 := Ne.symm n_q9_q12
  have hH := hN
  have hc_q12 : M13 q12 = some (.inr (3, [.null, .null, .int 0, .int 0, .null, .int 0, .int 0, .int 0, .int 0, .int 0])) := hc_q12
  have hc_h : M13 h = some (.inr (7, [.ref q1, .ref q9, .null, .null, .null])) := (hfr h n_h_q12).trans hc_h
  have hc_q1 : M13 q1 = some (.inr (6, [.int 0, .int 2, .int 0, .int 0, .int 0, .int 0, .int 0, .int (-1), .ref cs5, .ref bs6, .ref tp7])) := (hfr q1 n_q1_q12).trans hc_q1
  have hc_cs5 : M13 cs5 = some (.inl (kA 0, 8, .inl (c100 (fun _ => 0)))) := (hfr cs5 n_cs5_q12).trans hc_cs5
  have hc_q9 : M13 q9 = some (.inl (kA 6, 3, .inr (.inr (.inr (.inr (fun _ => none)))))) := (hfr q9 n_q9_q12).trans hc_q9
  have hF : ∀ a, a ≠ h → a < sz → M13 a = M a := fun a h0 h1 => (hfr a (Nat.ne_of_lt (Nat.lt_of_lt_of_le h1 g_q12))).trans (hF a h0 h1)
  refine lv_dup hx hb dX9_init_27 rfl ?_
  have lt_q12 : q12 < Array.size H := hH.1.ltM (by rw [hc_q12]; simp)
  have gH : sz ≤ Array.size H := by rw [← hsz]; exact hH.2.1.1
  have lt_h : h < Array.size H := hH.1.ltM (by rw [hc_h]; simp)
  have lt_q1 : q1 < Array.size H := hH.1.ltM (by rw [hc_q1]; simp)
  have lt_cs5 : cs5 < Array.size H := hH.1.ltM (by rw [hc_cs5]; simp)
  have lt_q9 : q9 < Array.size H := hH.1.ltM (by rw [hc_q9]; simp)
  have lt_q12 : q12 < Array.size H := hH.1.ltM (by rw [hc_q12]; simp)
  refine goV hK hH (runINZ (As := []) (rest := [.ref q12, .ref h]) hC hK hH hZ (c_X4_init hc_q12 lt_q12) mlX9_22 ⟨⟨Nat.le_of_ble_eq_true rfl, Nat.le_of_ble_eq_true rfl⟩, Nat.le_of_ble_eq_true rfl, Nat.le_of_ble_eq_true rfl⟩ rfl hl.1 rfl (Nat.le_of_ble_eq_true rfl) dX9_init_28) (fun M14 T15 H locs hP hz hH => ?_)
  try dsimp only at hP
  obtain ⟨nb16, by_17, hc_q12, g_nb16, g_by_17, hsub, hfr⟩ := hP
  have n_h_nb16 : h ≠ nb16 := Nat.ne_of_lt (Nat.lt_of_lt_of_le lt_h g_nb16)
  have n_nb16_h : nb16 ≠ h := Ne.symm n_h_nb16
  have n_q1_nb16 : q1 ≠ nb16 := Nat.ne_of_lt (Nat.lt_of_lt_of_le lt_q1 g_nb16)
  have n_nb16_q1 : nb16 ≠ q1 := Ne.symm n_q1_nb16
  have n_cs5_nb16 : cs5 ≠ nb16 := Nat.ne_of_lt (Nat.lt_of_lt_of_le lt_cs5 g_nb16)
  have n_nb16_cs5 : nb16 ≠ cs5 := Ne.symm n_cs5_nb16
  have n_q9_nb16 : q9 ≠ nb16 := Nat.ne_of_lt (Nat.lt_of_lt_of_le lt_q9 g_nb16)
  have n_nb16_q9 : nb16 ≠ q9 := Ne.symm n_q9_nb16
  have n_q12_nb16 : q12 ≠ nb16 := Nat.ne_of_lt (Nat.lt_of_lt_of_le lt_q12 g_nb16)
  have n_nb16_q12 : nb16 ≠ q12 := Ne.symm n_q12_nb16
  have n_h_by_17 : h ≠ by_17 := Nat.ne_of_lt (Nat.lt_of_lt_of_le lt_h g_by_17)
  have n_by_17_h : by_17 ≠ h := Ne.symm n_h_by_17
  have n_q1_by_17 : q1 ≠ by_17 := Nat.ne_of_lt (Nat.lt_of_lt_of_le lt_q1 g_by_17)
  have n_by_17_q1 : by_17 ≠ q1 := Ne.symm n_q1_by_17
  have n_cs5_by_17 : cs5 ≠ by_17 := Nat.ne_of_lt (Nat.lt_of_lt_of_le lt_cs5 g_by_17)
  have n_by_17_cs5 : by_17 ≠ cs5 := Ne.symm n_cs5_by_17
  have n_q9_by_17 : q9 ≠ by_17 := Nat.ne_of_lt (Nat.lt_of_lt_of_le lt_q9 g_by_17)
  have n_by_17_q9 : by_17 ≠ q9 := Ne.symm n_q9_by_17
  have n_q12_by_17 : q12 ≠ by_17 := Nat.ne_of_lt (Nat.lt_of_lt_of_le lt_q12 g_by_17)
  have n_by_17_q12 : by_17 ≠ q12 := Ne.symm n_q12_by_17
  have hc_h : M14 h = some (.inr (7, [.ref q1, .ref q9, .null, .null, .null])) := (hfr h n_h_q12 lt_h).trans hc_h
  have hc_q1 : M14 q1 = some (.inr (6, [.int 0, .int 2, .int 0, .int 0, .int 0, .int 0, .int 0, .int (-1), .ref cs5, .ref bs6, .ref tp7])) := (hfr q1 n_q1_q12 lt_q1).trans hc_q1
  have hc_cs5 : M14 cs5 = some (.inl (kA 0, 8, .inl (c100 (fun _ => 0)))) := (hfr cs5 n_cs5_q12 lt_cs5).trans hc_cs5
  have hc_q9 : M14 q9 = some (.inl (kA 6, 3, .inr (.inr (.inr (.inr (fun _ => none)))))) := (hfr q9 n_q9_q12 lt_q9).trans hc_q9
  have t_bs6 : T15 bs6 = some 6 := hsub _ _ t_bs6
  have t_tp7 : T15 tp7 = some 7 := hsub _ _ t_tp7
  have g_nb16 : sz ≤ nb16 := Nat.le_trans gH g_nb16
  have g_by_17 : sz ≤ by_17 := Nat.le_trans gH g_by_17
  have hTT : ∀ a t, T a = some t → T15 a = some t := fun a t h => hsub _ _ (hTT a t h)
  have hF : ∀ a, a ≠ h → a < sz → M14 a = M a := fun a h0 h1 => (hfr a (Nat.ne_of_lt (Nat.lt_of_lt_of_le h1 g_q12)) (Nat.lt_of_lt_of_le h1 gH)).trans (hF a h0 h1)
  refine ypF (v := .ref q12) hC hK hH hnm (fun _ _ _ h => by cases h; rfl) flX9_23 hc_h rfl rfl (Nat.le_of_ble_eq_true rfl) dX9_init_31 (fun H locs M18 hc_h hfr hH => ?_)
  have hc_h : M18 h = some (.inr (7, [.ref q1, .ref q9, .ref q12, .null, .null])) := hc_h
  have hc_q1 : M18 q1 = some (.inr (6, [.int 0, .int 2, .int 0, .int 0, .int 0, .int 0, .int 0, .int (-1), .ref cs5, .ref bs6, .ref tp7])) := (hfr q1 n_q1_h).trans hc_q1
  have hc_cs5 : M18 cs5 = some (.inl (kA 0, 8, .inl (c100 (fun _ => 0)))) := (hfr cs5 n_cs5_h).trans hc_cs5
  have hc_q9 : M18 q9 = some (.inl (kA 6, 3, .inr (.inr (.inr (.inr (fun _ => none)))))) := (hfr q9 n_q9_h).trans hc_q9
  have hc_q12 : M18 q12 = some (.inr (3, [.ref nb16, .ref vb, .int 0, .int 0, .ref by_17, .int 0, .int 0, .int 0, .int 0, .int 0])) := (hfr q12 n_q12_h).trans hc_q12
  have hF : ∀ a, a ≠ h → a < sz → M18 a = M a := fun a h0 h1 => (hfr a h0).trans (hF a h0 h1)
  refine lv_aload_n hx hb dX9_init_34 rfl (lv_at hl 0 rfl) ?_
  refine ynew hC hK hH nlX9_27 (Nat.le_of_ble_eq_true rfl) (Nat.le_of_ble_eq_true rfl) dX9_init_35 (fun q19 H M20 e_q19 hz nM_q19 nT_q19 hc_q19 hfr hN => ?_)
  have g_q19 : sz ≤ q19 := by rw [← hsz, e_q19]; exact hH.2.1.1
  have n_h_q19 : h ≠ q19 := neN hc_h nM_q19
  have n_q19_h : q19 ≠ h := Ne.symm n_h_q19
  have n_q1_q19 : q1 ≠ q19 := neN hc_q1 nM_q19
  have n_q19_q1 : q19 ≠ q1 := Ne.symm n_q1_q19
  have n_cs5_q19 : cs5 ≠ q19 := neN hc_cs5 nM_q19
  have n_q19_cs5 : q19 ≠ cs5 := Ne.symm n_cs5_q19
  have n_q9_q19 : q9 ≠ q19 := neN hc_q9 nM_q19
  have n_q19_q9 : q19 ≠ q9 := Ne.symm n_q9_q19
  have n_q12_q19 : q12 ≠ q19 := neN hc_q12 nM_q19
  have n_q19_q12 : q19 ≠ q12 := Ne.symm n_q12_q19
  have hH := hN
  have hc_q19 : M20 q19 = some (.inr (4, [.null, .null, .null, .int 0])) := hc_q19
  have hc_h : M20 h = some (.inr (7, [.ref q1, .ref q9, .ref q12, .null, .null])) := (hfr h n_h_q19).trans hc_h
  have hc_q1 : M20 q1 = some (.inr (6, [.int 0, .int 2, .int 0, .int 0, .int 0, .int 0, .int 0, .int (-1), .ref cs5, .ref bs6, .ref tp7])) := (hfr q1 n_q1_q19).trans hc_q1
  have hc_cs5 : M20 cs5 = some (.inl (kA 0, 8, .inl (c100 (fun _ => 0)))) := (hfr cs5 n_cs5_q19).trans hc_cs5
  have hc_q9 : M20 q9 = some (.inl (kA 6, 3, .inr (.inr (.inr (.inr (fun _ => none)))))) := (hfr q9 n_q9_q19).trans hc_q9
  have hc_q12 : M20 q12 = some (.inr (3, [.ref nb16, .ref vb, .int 0, .int 0, .ref by_17, .int 0, .int 0, .int 0, .int 0, .int 0])) := (hfr q12 n_q12_q19).trans hc_q12
  have hF : ∀ a, a ≠ h → a < sz → M20 a = M a := fun a h0 h1 => (hfr a (Nat.ne_of_lt (Nat.lt_of_lt_of_le h1 g_q19))).trans (hF a h0 h1)
  refine lv_dup hx hb dX9_init_38 rfl ?_
  have lt_q19 : q19 < Array.size H := hH.1.ltM (by rw [hc_q19]; simp)
  have gH : sz ≤ Array.size H := by rw [← hsz]; exact hH.2.1.1
  have lt_h : h < Array.size H := hH.1.ltM (by rw [hc_h]; simp)
  have lt_q1 : q1 < Array.size H := hH.1.ltM (by rw [hc_q1]; simp)
  have lt_cs5 : cs5 < Array.size H := hH.1.ltM (by rw [hc_cs5]; simp)
  have lt_q9 : q9 < Array.size H := hH.1.ltM (by rw [hc_q9]; simp)
  have lt_q12 : q12 < Array.size H := hH.1.ltM (by rw [hc_q12]; simp)
  have lt_q19 : q19 < Array.size H := hH.1.ltM (by rw [hc_q19]; simp)
  refine goV hK hH (runIN (As := []) (rest := [.ref q19, .ref h]) hC hK hH (c_X5_init hc_q19 lt_q19) mlX9_29 ⟨⟨Nat.le_of_ble_eq_true rfl, Nat.le_of_ble_eq_true rfl⟩, Nat.le_of_ble_eq_true rfl, Nat.le_of_ble_eq_true rfl⟩ rfl hl.1 rfl (Nat.le_of_ble_eq_true rfl) dX9_init_39) (fun M21 T22 H locs hP hz hH => ?_)
  try dsimp only at hP
  obtain ⟨nM_q19, t_q19, hsub, hfr⟩ := hP
  have hc_h : M21 h = some (.inr (7, [.ref q1, .ref q9, .ref q12, .null, .null])) := (hfr h n_h_q19 lt_h).trans hc_h
  have hc_q1 : M21 q1 = some (.inr (6, [.int 0, .int 2, .int 0, .int 0, .int 0, .int 0, .int 0, .int (-1), .ref cs5, .ref bs6, .ref tp7])) := (hfr q1 n_q1_q19 lt_q1).trans hc_q1
  have hc_cs5 : M21 cs5 = some (.inl (kA 0, 8, .inl (c100 (fun _ => 0)))) := (hfr cs5 n_cs5_q19 lt_cs5).trans hc_cs5
  have hc_q9 : M21 q9 = some (.inl (kA 6, 3, .inr (.inr (.inr (.inr (fun _ => none)))))) := (hfr q9 n_q9_q19 lt_q9).trans hc_q9
  have hc_q12 : M21 q12 = some (.inr (3, [.ref nb16, .ref vb, .int 0, .int 0, .ref by_17, .int 0, .int 0, .int 0, .int 0, .int 0])) := (hfr q12 n_q12_q19 lt_q12).trans hc_q12
  have t_bs6 : T22 bs6 = some 6 := hsub _ _ t_bs6
  have t_tp7 : T22 tp7 = some 7 := hsub _ _ t_tp7
  have hTT : ∀ a t, T a = some t → T22 a = some t := fun a t h => hsub _ _ (hTT a t h)
  have hF : ∀ a, a ≠ h → a < sz → M21 a = M a := fun a h0 h1 => (hfr a (Nat.ne_of_lt (Nat.lt_of_lt_of_le h1 g_q19)) (Nat.lt_of_lt_of_le h1 gH)).trans (hF a h0 h1)
  refine ypF (v := .ref q19) hC hK hH hnm (fun _ _ _ h => by cases h; rfl) flX9_30 hc_h rfl rfl (Nat.le_of_ble_eq_true rfl) dX9_init_42 (fun H locs M23 hc_h hfr hH => ?_)
  have hc_h : M23 h = some (.inr (7, [.ref q1, .ref q9, .ref q12, .ref q19, .null])) := hc_h
  have hc_q1 : M23 q1 = some (.inr (6, [.int 0, .int 2, .int 0, .int 0, .int 0, .int 0, .int 0, .int (-1), .ref cs5, .ref bs6, .ref tp7])) := (hfr q1 n_q1_h).trans hc_q1
  have hc_cs5 : M23 cs5 = some (.inl (kA 0, 8, .inl (c100 (fun _ => 0)))) := (hfr cs5 n_cs5_h).trans hc_cs5
  have hc_q9 : M23 q9 = some (.inl (kA 6, 3, .inr (.inr (.inr (.inr (fun _ => none)))))) := (hfr q9 n_q9_h).trans hc_q9
  have hc_q12 : M23 q12 = some (.inr (3, [.ref nb16, .ref vb, .int 0, .int 0, .ref by_17, .int 0, .int 0, .int 0, .int 0, .int 0])) := (hfr q12 n_q12_h).trans hc_q12
  have hF : ∀ a, a ≠ h → a < sz → M23 a = M a := fun a h0 h1 => (hfr a h0).trans (hF a h0 h1)
  refine lv_aload_n hx hb dX9_init_45 rfl (lv_at hl 0 rfl) ?_
  refine ynew hC hK hH nlX9_34 (Nat.le_of_ble_eq_true rfl) (Nat.le_of_ble_eq_true rfl) dX9_init_46 (fun q24 H M25 e_q24 hz nM_q24 nT_q24 hc_q24 hfr hN => ?_)
  have g_q24 : sz ≤ q24 := by rw [← hsz, e_q24]; exact hH.2.1.1
  have n_h_q24 : h ≠ q24 := neN hc_h nM_q24
  have n_q24_h : q24 ≠ h := Ne.symm n_h_q24
  have n_q1_q24 : q1 ≠ q24 := neN hc_q1 nM_q24
  have n_q24_q1 : q24 ≠ q1 := Ne.symm n_q1_q24
  have n_cs5_q24 : cs5 ≠ q24 := neN hc_cs5 nM_q24
  have n_q24_cs5 : q24 ≠ cs5 := Ne.symm n_cs5_q24
  have n_q9_q24 : q9 ≠ q24 := neN hc_q9 nM_q24
  have n_q24_q9 : q24 ≠ q9 := Ne.symm n_q9_q24
  have n_q12_q24 : q12 ≠ q24 := neN hc_q12 nM_q24
  have n_q24_q12 : q24 ≠ q12 := Ne.symm n_q12_q24
  have hH := hN
  have hc_q24 : M25 q24 = some (.inr (2, [.null])) := hc_q24
  have hc_h : M25 h = some (.inr (7, [.ref q1, .ref q9, .ref q12, .ref q19, .null])) := (hfr h n_h_q24).trans hc_h
  have hc_q1 : M25 q1 = some (.inr (6, [.int 0, .int 2, .int 0, .int 0, .int 0, .int 0, .int 0, .int (-1), .ref cs5, .ref bs6, .ref tp7])) := (hfr q1 n_q1_q24).trans hc_q1
  have hc_cs5 : M25 cs5 = some (.inl (kA 0, 8, .inl (c100 (fun _ => 0)))) := (hfr cs5 n_cs5_q24).trans hc_cs5
  have hc_q9 : M25 q9 = some (.inl (kA 6, 3, .inr (.inr (.inr (.inr (fun _ => none)))))) := (hfr q9 n_q9_q24).trans hc_q9
  have hc_q12 : M25 q12 = some (.inr (3, [.ref nb16, .ref vb, .int 0, .int 0, .ref by_17, .int 0, .int 0, .int 0, .int 0, .int 0])) := (hfr q12 n_q12_q24).trans hc_q12
  have hF : ∀ a, a ≠ h → a < sz → M25 a = M a := fun a h0 h1 => (hfr a (Nat.ne_of_lt (Nat.lt_of_lt_of_le h1 g_q24))).trans (hF a h0 h1)
  refine lv_dup hx hb dX9_init_49 rfl ?_
  have lt_q24 : q24 < Array.size H := hH.1.ltM (by rw [hc_q24]; simp)
  have gH : sz ≤ Array.size H := by rw [← hsz]; exact hH.2.1.1
  have lt_h : h < Array.size H := hH.1.ltM (by rw [hc_h]; simp)
  have lt_q1 : q1 < Array.size H := hH.1.ltM (by rw [hc_q1]; simp)
  have lt_cs5 : cs5 < Array.size H := hH.1.ltM (by rw [hc_cs5]; simp)
  have lt_q9 : q9 < Array.size H := hH.1.ltM (by rw [hc_q9]; simp)
  have lt_q12 : q12 < Array.size H := hH.1.ltM (by rw [hc_q12]; simp)
  have lt_q24 : q24 < Array.size H := hH.1.ltM (by rw [hc_q24]; simp)
  refine goV hK hH (runI (As := []) (rest := [.ref q24, .ref h]) hC hK hH (c_X3_init hc_q24 lt_q24) mlX9_36 ⟨⟨Nat.le_of_ble_eq_true rfl, Nat.le_of_ble_eq_true rfl⟩, Nat.le_of_ble_eq_true rfl, Nat.le_of_ble_eq_true rfl⟩ rfl hl.1 rfl (Nat.le_of_ble_eq_true rfl) dX9_init_50) (fun M26 T27 H locs hP hz hH => ?_)
  try dsimp only at hP
  obtain ⟨nM_q24, t_q24, hsub, hfr⟩ := hP
  have hc_h : M26 h = some (.inr (7, [.ref q1, .ref q9, .ref q12, .ref q19, .null])) := (hfr h n_h_q24 lt_h).trans hc_h
  have hc_q1 : M26 q1 = some (.inr (6, [.int 0, .int 2, .int 0, .int 0, .int 0, .int 0, .int 0, .int (-1), .ref cs5, .ref bs6, .ref tp7])) := (hfr q1 n_q1_q24 lt_q1).trans hc_q1
  have hc_cs5 : M26 cs5 = some (.inl (kA 0, 8, .inl (c100 (fun _ => 0)))) := (hfr cs5 n_cs5_q24 lt_cs5).trans hc_cs5
  have hc_q9 : M26 q9 = some (.inl (kA 6, 3, .inr (.inr (.inr (.inr (fun _ => none)))))) := (hfr q9 n_q9_q24 lt_q9).trans hc_q9
  have hc_q12 : M26 q12 = some (.inr (3, [.ref nb16, .ref vb, .int 0, .int 0, .ref by_17, .int 0, .int 0, .int 0, .int 0, .int 0])) := (hfr q12 n_q12_q24 lt_q12).trans hc_q12
  have t_bs6 : T27 bs6 = some 6 := hsub _ _ t_bs6
  have t_tp7 : T27 tp7 = some 7 := hsub _ _ t_tp7
  have t_q19 : T27 q19 = some 10 := hsub _ _ t_q19
  have hTT : ∀ a t, T a = some t → T27 a = some t := fun a t h => hsub _ _ (hTT a t h)
  have hF : ∀ a, a ≠ h → a < sz → M26 a = M a := fun a h0 h1 => (hfr a (Nat.ne_of_lt (Nat.lt_of_lt_of_le h1 g_q24)) (Nat.lt_of_lt_of_le h1 gH)).trans (hF a h0 h1)
  refine ypF (v := .ref q24) hC hK hH hnm (fun _ _ _ h => by cases h; rfl) flX9_37 hc_h rfl rfl (Nat.le_of_ble_eq_true rfl) dX9_init_53 (fun H locs M28 hc_h hfr hH => ?_)
  have hc_h : M28 h = some (.inr (7, [.ref q1, .ref q9, .ref q12, .ref q19, .ref q24])) := hc_h
  have hc_q1 : M28 q1 = some (.inr (6, [.int 0, .int 2, .int 0, .int 0, .int 0, .int 0, .int 0, .int (-1), .ref cs5, .ref bs6, .ref tp7])) := (hfr q1 n_q1_h).trans hc_q1
  have hc_cs5 : M28 cs5 = some (.inl (kA 0, 8, .inl (c100 (fun _ => 0)))) := (hfr cs5 n_cs5_h).trans hc_cs5
  have hc_q9 : M28 q9 = some (.inl (kA 6, 3, .inr (.inr (.inr (.inr (fun _ => none)))))) := (hfr q9 n_q9_h).trans hc_q9
  have hc_q12 : M28 q12 = some (.inr (3, [.ref nb16, .ref vb, .int 0, .int 0, .ref by_17, .int 0, .int 0, .int 0, .int 0, .int 0])) := (hfr q12 n_q12_h).trans hc_q12
  have hF : ∀ a, a ≠ h → a < sz → M28 a = M a := fun a h0 h1 => (hfr a h0).trans (hF a h0 h1)
  exact ret_v hC hr hlk hK hH (⟨q1, q9, q12, q19, q24, cs5, bs6, tp7, nb16, by_17, hc_h, hc_q1, hc_q9, hc_q12, hc_cs5, t_bs6, t_tp7, g_q1, g_q9, g_q12, g_q19, g_q24, g_cs5, g_bs6, g_tp7, g_nb16, g_by_17, hTT, hF⟩) (Nat.le_of_ble_eq_true rfl) (Nat.le_of_ble_eq_true rfl) dX9_init_56
