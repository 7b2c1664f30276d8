set_option maxHeartbeats 4000000 in
set_option maxRecDepth 100000 in
theorem c_X6_init {l : Launch} {D : va_G} {kA : Nat → ClassId} {M : mM} {T : mT} {sz : Nat} {h : Nat} (hc_h : M h = some (.inr (5, [.int 0, .int 0, .int 0, .int 0, .int 0, .int 0, .int 0, .int 0, .int 0, .int 0, .int 0]))) : mCv l yX6_init cX6_init 1 1 0 0 D kA M T sz [.ref h] (fun u => (True) ∧ u.2 = T ∧ u.1 = M) := by
  unfold mCv
  refine start_W (by decide) (Nat.le_of_ble_eq_true rfl) ?_
  intro p e s m below meth c ls hC hr hlk hnm hK hH hsz hl
  have hx := hC.1
  have hb := hC.2.1
  have hl : lv_has ls 1 [(0, .ref h)] := hl
  refine lv_aload_n hx hb dX6_init_0 rfl (lv_at hl 0 rfl) ?_
  refine W.objInit hx hb hC.2.2.2.1 (hC.2.2.2.2 _ wlX6_3) (hC.2.2.2.2 _ w_oi) (hC.2.2.2.2 _ w_oc) rfl (by rw [hC.2.2.1]; exact hl.1) rfl dX6_init_1 (Nat.le_of_ble_eq_true rfl) (Nat.le_of_ble_eq_true rfl) ?_
  refine W.eq (g2 := F0 m 4 ls []) rfl ?_
  exact ret_v hC hr hlk hK hH (⟨trivial, rfl, rfl⟩) (Nat.le_of_ble_eq_true rfl) (Nat.le_of_ble_eq_true rfl) dX6_init_4
set_option maxHeartbeats 4000000 in
set_option maxRecDepth 100000 in
theorem c_X2_init {l : Launch} {D : va_G} {kA : Nat → ClassId} {M : mM} {T : mT} {sz h : Nat} (hc_h : M h = some (.inr (1, [.int 0, .int 0, .int 0, .int 0, .int 0, .int 0, .int 0, .null]))) (hlt : h < sz) : mCv l yX2_init cX2_init 1 1 1 8 D kA M T sz [.ref h] (fun u => u.1 h = none ∧ u.2 h = some 1 ∧ (∀ a t, T a = some t → u.2 a = some t) ∧ ∀ a, a ≠ h → a < sz → u.1 a = M a) := by
  unfold mCv
  refine start_W (by decide) (Nat.le_of_ble_eq_true rfl) ?_
  intro p e s m below meth c ls hC hr hlk hnm hK hH hsz hl
  have hx := hC.1
  have hb := hC.2.1
  have hl : lv_has ls 1 [(0, .ref h)] := hl
  have hF : ∀ a, a ≠ h → a < sz → M a = M a := fun a _ _ => rfl
  have hTT : ∀ a t, T a = some t → T a = some t := fun _ _ h => h
  refine lv_aload_n hx hb dX2_init_0 rfl (lv_at hl 0 rfl) ?_
  refine W.objInit hx hb hC.2.2.2.1 (hC.2.2.2.2 _ wlX2_3) (hC.2.2.2.2 _ w_oi) (hC.2.2.2.2 _ w_oc) rfl (by rw [hC.2.2.1]; exact hl.1) rfl dX2_init_1 (Nat.le_of_ble_eq_true rfl) (Nat.le_of_ble_eq_true rfl) ?_
  refine W.eq (g2 := F0 m 4 ls []) rfl ?_
  refine lv_aload_n hx hb dX2_init_4 rfl (lv_at hl 0 rfl) ?_
  refine lv_bipush (v := 8) hx hb dX2_init_5 (by decide) ?_
  refine ynewa (atype := .int) (ck := 0) (N := 8) (a0 := (8, .inl (fun _ => 0))) hC hK hH rfl w_ac0 rfl (fun _ h => by cases h) (fun _ => rfl) (by decide) (by decide) (by decide) (Nat.le_of_ble_eq_true rfl) (Nat.le_of_ble_eq_true rfl) dX2_init_7 (fun q1 H M2 e_q1 hz nM_q1 nT_q1 hc_q1 hfr hN => ?_)
  have g_q1 : sz ≤ q1 := by rw [← hsz, e_q1]; exact hH.2.1.1
  have n_h_q1 : h ≠ q1 := neN hc_h nM_q1
  have n_q1_h : q1 ≠ h := Ne.symm n_h_q1
  have hH := hN
  have hc_q1 : M2 q1 = some (.inl (kA 0, 8, .inl (fun _ => 0))) := hc_q1
  have hc_h : M2 h = some (.inr (1, [.int 0, .int 0, .int 0, .int 0, .int 0, .int 0, .int 0, .null])) := (hfr h n_h_q1).trans hc_h
  have hF : ∀ a, a ≠ h → a < sz → M2 a = M a := fun a h0 h1 => (hfr a (Nat.ne_of_lt (Nat.lt_of_lt_of_le h1 g_q1))).trans (hF a h0 h1)
  refine ypF (v := .ref q1) hC hK hH hnm (fun _ _ _ h => by cases h; rfl) flX2_9 hc_h rfl rfl (Nat.le_of_ble_eq_true rfl) dX2_init_9 (fun H locs M3 hc_h hfr hH => ?_)
  have hc_h : M3 h = some (.inr (1, [.int 0, .int 0, .int 0, .int 0, .int 0, .int 0, .int 0, .ref q1])) := hc_h
  have hc_q1 : M3 q1 = some (.inl (kA 0, 8, .inl (fun _ => 0))) := (hfr q1 n_q1_h).trans hc_q1
  have hF : ∀ a, a ≠ h → a < sz → M3 a = M a := fun a h0 h1 => (hfr a h0).trans (hF a h0 h1)
  obtain ⟨M4, T5, nM_q1, hfr, t_q1, hfT, hsub, hH⟩ := hH.re2 (τ := 3) hc_q1 (conf_i rfl (fun _ _ => iRg _))
  have hc_h : M4 h = some (.inr (1, [.int 0, .int 0, .int 0, .int 0, .int 0, .int 0, .int 0, .ref q1])) := (hfr h n_h_q1).trans hc_h
  have hTT : ∀ a t, T a = some t → T5 a = some t := fun a t h => hsub _ _ (hTT a t h)
  have hF : ∀ a, a ≠ h → a < sz → M4 a = M a := fun a h0 h1 => (hfr a (Nat.ne_of_lt (Nat.lt_of_lt_of_le h1 g_q1))).trans (hF a h0 h1)
  obtain ⟨M6, T7, nM_h, hfr, t_h, hfT, hsub, hH⟩ := hH.re2 (τ := 1) hc_h (conf_o rfl ⟨okI (by decide) (by decide), okI (by decide) (by decide), okI (by decide) (by decide), okI (by decide) (by decide), okI (by decide) (by decide), okI (by decide) (by decide), okI (by decide) (by decide), okR (by rw [upN _ _ (fun z => by rw [z] at t_q1; rw [hH.1.TN (by rw [hc_h]; simp)] at t_q1; cases t_q1)]; exact t_q1), trivial⟩)
  have t_q1 : T7 q1 = some 3 := hsub _ _ t_q1
  have hTT : ∀ a t, T a = some t → T7 a = some t := fun a t h => hsub _ _ (hTT a t h)
  have hF : ∀ a, a ≠ h → a < sz → M6 a = M a := fun a h0 h1 => (hfr a h0).trans (hF a h0 h1)
  exact ret_v hC hr hlk hK hH (⟨nM_h, t_h, hTT, hF⟩) (Nat.le_of_ble_eq_true rfl) (Nat.le_of_ble_eq_true rfl) dX2_init_12
set_option maxHeartbeats 4000000 in
set_option maxRecDepth 100000 in
theorem c_X1_init {l : Launch} {D : va_G} {kA : Nat → ClassId} {M : mM} {T : mT} {sz h : Nat} (hc_h : M h = some (.inr (0, [.int 0, .int 0, .int 0, .int 0, .int 0, .int 0, .int 0, .int 0, .int 0, .int 0, .int 0, .int 0, .null, .null, .null, .null, .null, .null, .null]))) (hlt : h < sz) : mCv l yX1_init cX1_init 2 2 21 232 D kA M T sz [.ref h] (fun u => u.1 h = none ∧ u.2 h = some 2 ∧ (∀ a t, T a = some t → u.2 a = some t) ∧ ∀ a, a ≠ h → a < sz → u.1 a = M a) := by
  unfold mCv
  refine start_W (by decide) (Nat.le_of_ble_eq_true rfl) ?_
  intro p e s m below meth c ls hC hr hlk hnm hK hH hsz hl
  have hx := hC.1
  have hb := hC.2.1
  have hl : lv_has ls 2 [(0, .ref h)] := hl
  have hF : ∀ a, a ≠ h → a < sz → M a = M a := fun a _ _ => rfl
  have hTT : ∀ a t, T a = some t → T a = some t := fun _ _ h => h
  refine lv_aload_n hx hb dX1_init_0 rfl (lv_at hl 0 rfl) ?_
  refine W.objInit hx hb hC.2.2.2.1 (hC.2.2.2.2 _ wlX1_3) (hC.2.2.2.2 _ w_oi) (hC.2.2.2.2 _ w_oc) rfl (by rw [hC.2.2.1]; exact hl.1) rfl dX1_init_1 (Nat.le_of_ble_eq_true rfl) (Nat.le_of_ble_eq_true rfl) ?_
  refine W.eq (g2 := F0 m 4 ls []) rfl ?_
  refine lv_aload_n hx hb dX1_init_4 rfl (lv_at hl 0 rfl) ?_
  refine lv_bipush (v := 12) hx hb dX1_init_5 (by decide) ?_
  refine ynewq (ck := 3) (N := 12) hC hK hH wcX1_9 (by decide) rfl (by decide) (by decide) (by decide) (Nat.le_of_ble_eq_true rfl) (Nat.le_of_ble_eq_true rfl) dX1_init_7 (fun q1 H M2 e_q1 hz nM_q1 nT_q1 hc_q1 hfr hN => ?_)
  have g_q1 : sz ≤ q1 := by rw [← hsz, e_q1]; exact hH.2.1.1
  have n_h_q1 : h ≠ q1 := neN hc_h nM_q1
  have n_q1_h : q1 ≠ h := Ne.symm n_h_q1
  have hH := hN
  have hc_q1 : M2 q1 = some (.inl (kA 3, 12, .inr (.inr (.inr (.inr (fun _ => none)))))) := hc_q1
  have hc_h : M2 h = some (.inr (0, [.int 0, .int 0, .int 0, .int 0, .int 0, .int 0, .int 0, .int 0, .int 0, .int 0, .int 0, .int 0, .null, .null, .null, .null, .null, .null, .null])) := (hfr h n_h_q1).trans hc_h
  have hF : ∀ a, a ≠ h → a < sz → M2 a = M a := fun a h0 h1 => (hfr a (Nat.ne_of_lt (Nat.lt_of_lt_of_le h1 g_q1))).trans (hF a h0 h1)
  refine ypF (v := .ref q1) hC hK hH hnm (fun _ _ _ h => by cases h; rfl) flX1_11 hc_h rfl rfl (Nat.le_of_ble_eq_true rfl) dX1_init_10 (fun H locs M3 hc_h hfr hH => ?_)
  have hc_h : M3 h = some (.inr (0, [.int 0, .int 0, .int 0, .int 0, .int 0, .int 0, .int 0, .int 0, .int 0, .int 0, .int 0, .int 0, .ref q1, .null, .null, .null, .null, .null, .null])) := hc_h
  have hc_q1 : M3 q1 = some (.inl (kA 3, 12, .inr (.inr (.inr (.inr (fun _ => none)))))) := (hfr q1 n_q1_h).trans hc_q1
  have hF : ∀ a, a ≠ h → a < sz → M3 a = M a := fun a h0 h1 => (hfr a h0).trans (hF a h0 h1)
  refine lv_aload_n hx hb dX1_init_13 rfl (lv_at hl 0 rfl) ?_
  refine ynew hC hK hH nlX1_17 (Nat.le_of_ble_eq_true rfl) (Nat.le_of_ble_eq_true rfl) dX1_init_14 (fun q4 H M5 e_q4 hz nM_q4 nT_q4 hc_q4 hfr hN => ?_)
  have g_q4 : sz ≤ q4 := by rw [← hsz, e_q4]; exact hH.2.1.1
  have n_h_q4 : h ≠ q4 := neN hc_h nM_q4
  have n_q4_h : q4 ≠ h := Ne.symm n_h_q4
  have n_q1_q4 : q1 ≠ q4 := neN hc_q1 nM_q4
  have n_q4_q1 : q4 ≠ q1 := Ne.symm n_q1_q4
  have hH := hN
  have hc_q4 : M5 q4 = some (.inr (1, [.int 0, .int 0, .int 0, .int 0, .int 0, .int 0, .int 0, .null])) := hc_q4
  have hc_h : M5 h = some (.inr (0, [.int 0, .int 0, .int 0, .int 0, .int 0, .int 0, .int 0, .int 0, .int 0, .int 0, .int 0, .int 0, .ref q1, .null, .null, .null, .null, .null, .null])) := (hfr h n_h_q4).trans hc_h
  have hc_q1 : M5 q1 = some (.inl (kA 3, 12, .inr (.inr (.inr (.inr (fun _ => none)))))) := (hfr q1 n_q1_q4).trans hc_q1
  have hF : ∀ a, a ≠ h → a < sz → M5 a = M a := fun a h0 h1 => (hfr a (Nat.ne_of_lt (Nat.lt_of_lt_of_le h1 g_q4))).trans (hF a h0 h1)
  refine lv_dup hx hb dX1_init_17 rfl ?_
  have lt_q4 : q4 < Array.size H := hH.1.ltM (by rw [hc_q4]; simp)
  have gH : sz ≤ Array.size H := by rw [← hsz]; exact hH.2.1.1
  have lt_h : h < Array.size H := hH.1.ltM (by rw [hc_h]; simp)
  have lt_q1 : q1 < Array.size H := hH.1.ltM (by rw [hc_q1]; simp)
  have lt_q4 : q4 < Array.size H := hH.1.ltM (by rw [hc_q4]; simp)
  refine goV hK hH (runIN (As := []) (rest := [.ref q4, .ref h]) hC hK hH (c_X2_init hc_q4 lt_q4) mlX1_19 ⟨⟨Nat.le_of_ble_eq_true rfl, Nat.le_of_ble_eq_true rfl⟩, Nat.le_of_ble_eq_true rfl, Nat.le_of_ble_eq_true rfl⟩ rfl hl.1 rfl (Nat.le_of_ble_eq_true rfl) dX1_init_18) (fun M6 T7 H locs hP hz hH => ?_)
  try dsimp only at hP
  obtain ⟨nM_q4, t_q4, hsub, hfr⟩ := hP
  have hc_h : M6 h = some (.inr (0, [.int 0, .int 0, .int 0, .int 0, .int 0, .int 0, .int 0, .int 0, .int 0, .int 0, .int 0, .int 0, .ref q1, .null, .null, .null, .null, .null, .null])) := (hfr h n_h_q4 lt_h).trans hc_h
  have hc_q1 : M6 q1 = some (.inl (kA 3, 12, .inr (.inr (.inr (.inr (fun _ => none)))))) := (hfr q1 n_q1_q4 lt_q1).trans hc_q1
  have hTT : ∀ a t, T a = some t → T7 a = some t := fun a t h => hsub _ _ (hTT a t h)
  have hF : ∀ a, a ≠ h → a < sz → M6 a = M a := fun a h0 h1 => (hfr a (Nat.ne_of_lt (Nat.lt_of_lt_of_le h1 g_q4)) (Nat.lt_of_lt_of_le h1 gH)).trans (hF a h0 h1)
  refine ypF (v := .ref q4) hC hK hH hnm (fun _ _ _ h => by cases h; rfl) flX1_20 hc_h rfl rfl (Nat.le_of_ble_eq_true rfl) dX1_init_21 (fun H locs M8 hc_h hfr hH => ?_)
  have hc_h : M8 h = some (.inr (0, [.int 0, .int 0, .int 0, .int 0, .int 0, .int 0, .int 0, .int 0, .int 0, .int 0, .int 0, .int 0, .ref q1, .ref q4, .null, .null, .null, .null, .null])) := hc_h
  have hc_q1 : M8 q1 = some (.inl (kA 3, 12, .inr (.inr (.inr (.inr (fun _ => none)))))) := (hfr q1 n_q1_h).trans hc_q1
  have hF : ∀ a, a ≠ h → a < sz → M8 a = M a := fun a h0 h1 => (hfr a h0).trans (hF a h0 h1)
  refine lv_aload_n hx hb dX1_init_24 rfl (lv_at hl 0 rfl) ?_
  refine ynew hC hK hH nlX1_17 (Nat.le_of_ble_eq_true rfl) (Nat.le_of_ble_eq_true rfl) dX1_init_25 (fun q9 H M10 e_q9 hz nM_q9 nT_q9 hc_q9 hfr hN => ?_)
  have g_q9 : sz ≤ q9 := by rw [← hsz, e_q9]; exact hH.2.1.1
  have n_h_q9 : h ≠ q9 := neN hc_h nM_q9
  have n_q9_h : q9 ≠ h := Ne.symm n_h_q9
  have n_q1_q9 : q1 ≠ q9 := neN hc_q1 nM_q9
  have n_q9_q1 : q9 ≠ q1 := Ne.symm n_q1_q9
  have hH := hN
  have hc_q9 : M10 q9 = some (.inr (1, [.int 0, .int 0, .int 0, .int 0, .int 0, .int 0, .int 0, .null])) := hc_q9
  have hc_h : M10 h = some (.inr (0, [.int 0, .int 0, .int 0, .int 0, .int 0, .int 0, .int 0, .int 0, .int 0, .int 0, .int 0, .int 0, .ref q1, .ref q4, .null, .null, .null, .null, .null])) := (hfr h n_h_q9).trans hc_h
  have hc_q1 : M10 q1 = some (.inl (kA 3, 12, .inr (.inr (.inr (.inr (fun _ => none)))))) := (hfr q1 n_q1_q9).trans hc_q1
  have hF : ∀ a, a ≠ h → a < sz → M10 a = M a := fun a h0 h1 => (hfr a (Nat.ne_of_lt (Nat.lt_of_lt_of_le h1 g_q9))).trans (hF a h0 h1)
  refine lv_dup hx hb dX1_init_28 rfl ?_
  have lt_q9 : q9 < Array.size H := hH.1.ltM (by rw [hc_q9]; simp)
  have gH : sz ≤ Array.size H := by rw [← hsz]; exact hH.2.1.1
  have lt_h : h < Array.size H := hH.1.ltM (by rw [hc_h]; simp)
  have lt_q1 : q1 < Array.size H := hH.1.ltM (by rw [hc_q1]; simp)
  have lt_q9 : q9 < Array.size H := hH.1.ltM (by rw [hc_q9]; simp)
  refine goV hK hH (runIN (As := []) (rest := [.ref q9, .ref h]) hC hK hH (c_X2_init hc_q9 lt_q9) mlX1_19 ⟨⟨Nat.le_of_ble_eq_true rfl, Nat.le_of_ble_eq_true rfl⟩, Nat.le_of_ble_eq_true rfl, Nat.le_of_ble_eq_true rfl⟩ rfl hl.1 rfl (Nat.le_of_ble_eq_true rfl) dX1_init_29) (fun M11 T12 H locs hP hz hH => ?_)
  try dsimp only at hP
  obtain ⟨nM_q9, t_q9, hsub, hfr⟩ := hP
  have hc_h : M11 h = some (.inr (0, [.int 0, .int 0, .int 0, .int 0, .int 0, .int 0, .int 0, .int 0, .int 0, .int 0, .int 0, .int 0, .ref q1, .ref q4, .null, .null, .null, .null, .null])) := (hfr h n_h_q9 lt_h).trans hc_h
  have hc_q1 : M11 q1 = some (.inl (kA 3, 12, .inr (.inr (.inr (.inr (fun _ => none)))))) := (hfr q1 n_q1_q9 lt_q1).trans hc_q1
  have t_q4 : T12 q4 = some 1 := hsub _ _ t_q4
  have hTT : ∀ a t, T a = some t → T12 a = some t := fun a t h => hsub _ _ (hTT a t h)
  have hF : ∀ a, a ≠ h → a < sz → M11 a = M a := fun a h0 h1 => (hfr a (Nat.ne_of_lt (Nat.lt_of_lt_of_le h1 g_q9)) (Nat.lt_of_lt_of_le h1 gH)).trans (hF a h0 h1)
  refine ypF (v := .ref q9) hC hK hH hnm (fun _ _ _ h => by cases h; rfl) flX1_24 hc_h rfl rfl (Nat.le_of_ble_eq_true rfl) dX1_init_32 (fun H locs M13 hc_h hfr hH => ?_)
  have hc_h : M13 h = some (.inr (0, [.int 0, .int 0, .int 0, .int 0, .int 0, .int 0, .int 0, .int 0, .int 0, .int 0, .int 0, .int 0, .ref q1, .ref q4, .ref q9, .null, .null, .null, .null])) := hc_h
  have hc_q1 : M13 q1 = some (.inl (kA 3, 12, .inr (.inr (.inr (.inr (fun _ => none)))))) := (hfr q1 n_q1_h).trans hc_q1
  have hF : ∀ a, a ≠ h → a < sz → M13 a = M a := fun a h0 h1 => (hfr a h0).trans (hF a h0 h1)
  refine lv_aload_n hx hb dX1_init_35 rfl (lv_at hl 0 rfl) ?_
  refine lv_bipush (v := 14) hx hb dX1_init_36 (by decide) ?_
  refine ynewa (atype := .int) (ck := 0) (N := 14) (a0 := (14, .inl (fun _ => 0))) hC hK hH rfl w_ac0 rfl (fun _ h => by cases h) (fun _ => rfl) (by decide) (by decide) (by decide) (Nat.le_of_ble_eq_true rfl) (Nat.le_of_ble_eq_true rfl) dX1_init_38 (fun q14 H M15 e_q14 hz nM_q14 nT_q14 hc_q14 hfr hN => ?_)
  have g_q14 : sz ≤ q14 := by rw [← hsz, e_q14]; exact hH.2.1.1
  have n_h_q14 : h ≠ q14 := neN hc_h nM_q14
  have n_q14_h : q14 ≠ h := Ne.symm n_h_q14
  have n_q1_q14 : q1 ≠ q14 := neN hc_q1 nM_q14
  have n_q14_q1 : q14 ≠ q1 := Ne.symm n_q1_q14
  have hH := hN
  have hc_q14 : M15 q14 = some (.inl (kA 0, 14, .inl (fun _ => 0))) := hc_q14
  have hc_h : M15 h = some (.inr (0, [.int 0, .int 0, .int 0, .int 0, .int 0, .int 0, .int 0, .int 0, .int 0, .int 0, .int 0, .int 0, .ref q1, .ref q4, .ref q9, .null, .null, .null, .null])) := (hfr h n_h_q14).trans hc_h
  have hc_q1 : M15 q1 = some (.inl (kA 3, 12, .inr (.inr (.inr (.inr (fun _ => none)))))) := (hfr q1 n_q1_q14).trans hc_q1
  have hF : ∀ a, a ≠ h → a < sz → M15 a = M a := fun a h0 h1 => (hfr a (Nat.ne_of_lt (Nat.lt_of_lt_of_le h1 g_q14))).trans (hF a h0 h1)
  refine ypF (v := .ref q14) hC hK hH hnm (fun _ _ _ h => by cases h; rfl) flX1_27 hc_h rfl rfl (Nat.le_of_ble_eq_true rfl) dX1_init_40 (fun H locs M16 hc_h hfr hH => ?_)
  have hc_h : M16 h = some (.inr (0, [.int 0, .int 0, .int 0, .int 0, .int 0, .int 0, .int 0, .int 0, .int 0, .int 0, .int 0, .int 0, .ref q1, .ref q4, .ref q9, .ref q14, .null, .null, .null])) := hc_h
  have hc_q1 : M16 q1 = some (.inl (kA 3, 12, .inr (.inr (.inr (.inr (fun _ => none)))))) := (hfr q1 n_q1_h).trans hc_q1
  have hc_q14 : M16 q14 = some (.inl (kA 0, 14, .inl (fun _ => 0))) := (hfr q14 n_q14_h).trans hc_q14
  have hF : ∀ a, a ≠ h → a < sz → M16 a = M a := fun a h0 h1 => (hfr a h0).trans (hF a h0 h1)
  refine lv_aload_n hx hb dX1_init_43 rfl (lv_at hl 0 rfl) ?_
  refine lv_bipush (v := 14) hx hb dX1_init_44 (by decide) ?_
  refine ynewa (atype := .int) (ck := 0) (N := 14) (a0 := (14, .inl (fun _ => 0))) hC hK hH rfl w_ac0 rfl (fun _ h => by cases h) (fun _ => rfl) (by decide) (by decide) (by decide) (Nat.le_of_ble_eq_true rfl) (Nat.le_of_ble_eq_true rfl) dX1_init_46 (fun q17 H M18 e_q17 hz nM_q17 nT_q17 hc_q17 hfr hN => ?_)
  have g_q17 : sz ≤ q17 := by rw [← hsz, e_q17]; exact hH.2.1.1
  have n_h_q17 : h ≠ q17 := neN hc_h nM_q17
  have n_q17_h : q17 ≠ h := Ne.symm n_h_q17
  have n_q1_q17 : q1 ≠ q17 := neN hc_q1 nM_q17
  have n_q17_q1 : q17 ≠ q1 := Ne.symm n_q1_q17
  have n_q14_q17 : q14 ≠ q17 := neN hc_q14 nM_q17
  have n_q17_q14 : q17 ≠ q14 := Ne.symm n_q14_q17
  have hH := hN
  have hc_q17 : M18 q17 = some (.inl (kA 0, 14, .inl (fun _ => 0))) := hc_q17
  have hc_h : M18 h = some (.inr (0, [.int 0, .int 0, .int 0, .int 0, .int 0, .int 0, .int 0, .int 0, .int 0, .int 0, .int 0, .int 0, .ref q1, .ref q4, .ref q9, .ref q14, .null, .null, .null])) := (hfr h n_h_q17).trans hc_h
  have hc_q1 : M18 q1 = some (.inl (kA 3, 12, .inr (.inr (.inr (.inr (fun _ => none)))))) := (hfr q1 n_q1_q17).trans hc_q1
  have hc_q14 : M18 q14 = some (.inl (kA 0, 14, .inl (fun _ => 0))) := (hfr q14 n_q14_q17).trans hc_q14
  have hF : ∀ a, a ≠ h → a < sz → M18 a = M a := fun a h0 h1 => (hfr a (Nat.ne_of_lt (Nat.lt_of_lt_of_le h1 g_q17))).trans (hF a h0 h1)
  refine ypF (v := .ref q17) hC hK hH hnm (fun _ _ _ h => by cases h; rfl) flX1_31 hc_h rfl rfl (Nat.le_of_ble_eq_true rfl) dX1_init_48 (fun H locs M19 hc_h hfr hH => ?_)
  have hc_h : M19 h = some (.inr (0, [.int 0, .int 0, .int 0, .int 0, .int 0, .int 0, .int 0, .int 0, .int 0, .int 0, .int 0, .int 0, .ref q1, .ref q4, .ref q9, .ref q14, .ref q17, .null, .null])) := hc_h
  have hc_q1 : M19 q1 = some (.inl (kA 3, 12, .inr (.inr (.inr (.inr (fun _ => none)))))) := (hfr q1 n_q1_h).trans hc_q1
  have hc_q14 : M19 q14 = some (.inl (kA 0, 14, .inl (fun _ => 0))) := (hfr q14 n_q14_h).trans hc_q14
  have hc_q17 : M19 q17 = some (.inl (kA 0, 14, .inl (fun _ => 0))) := (hfr q17 n_q17_h).trans hc_q17
  have hF : ∀ a, a ≠ h → a < sz → M19 a = M a := fun a h0 h1 => (hfr a h0).trans (hF a h0 h1)
  refine lv_aload_n hx hb dX1_init_51 rfl (lv_at hl 0 rfl) ?_
  refine lv_bipush (v := 14) hx hb dX1_init_52 (by decide) ?_
  refine ynewa (atype := .int) (ck := 0) (N := 14) (a0 := (14, .inl (fun _ => 0))) hC hK hH rfl w_ac0 rfl (fun _ h => by cases h) (fun _ => rfl) (by decide) (by decide) (by decide) (Nat.le_of_ble_eq_true rfl) (Nat.le_of_ble_eq_true rfl) dX1_init_54 (fun q20 H M21 e_q20 hz nM_q20 nT_q20 hc_q20 hfr hN => ?_)
  have g_q20 : sz ≤ q20 := by rw [← hsz, e_q20]; exact hH.2.1.1
  have n_h_q20 : h ≠ q20 := neN hc_h nM_q20
  have n_q20_h : q20 ≠ h := Ne.symm n_h_q20
  have n_q1_q20 : q1 ≠ q20 := neN hc_q1 nM_q20
  have n_q20_q1 : q20 ≠ q1 := Ne.symm n_q1_q20
  have n_q14_q20 : q14 ≠ q20 := neN hc_q14 nM_q20
  have n_q20_q14 : q20 ≠ q14 := Ne.symm n_q14_q20
  have n_q17_q20 : q17 ≠ q20 := neN hc_q17 nM_q20
  have n_q20_q17 : q20 ≠ q17 := Ne.symm n_q17_q20
  have hH := hN
  have hc_q20 : M21 q20 = some (.inl (kA 0, 14, .inl (fun _ => 0))) := hc_q20
  have hc_h : M21 h = some (.inr (0, [.int 0, .int 0, .int 0, .int 0, .int 0, .int 0, .int 0, .int 0, .int 0, .int 0, .int 0, .int 0, .ref q1, .ref q4, .ref q9, .ref q14, .ref q17, .null, .null])) := (hfr h n_h_q20).trans hc_h
  have hc_q1 : M21 q1 = some (.inl (kA 3, 12, .inr (.inr (.inr (.inr (fun _ => none)))))) := (hfr q1 n_q1_q20).trans hc_q1
  have hc_q14 : M21 q14 = some (.inl (kA 0, 14, .inl (fun _ => 0))) := (hfr q14 n_q14_q20).trans hc_q14
  have hc_q17 : M21 q17 = some (.inl (kA 0, 14, .inl (fun _ => 0))) := (hfr q17 n_q17_q20).trans hc_q17
  have hF : ∀ a, a ≠ h → a < sz → M21 a = M a := fun a h0 h1 => (hfr a (Nat.ne_of_lt (Nat.lt_of_lt_of_le h1 g_q20))).trans (hF a h0 h1)
  refine ypF (v := .ref q20) hC hK hH hnm (fun _ _ _ h => by cases h; rfl) flX1_34 hc_h rfl rfl (Nat.le_of_ble_eq_true rfl) dX1_init_56 (fun H locs M22 hc_h hfr hH => ?_)
  have hc_h : M22 h = some (.inr (0, [.int 0, .int 0, .int 0, .int 0, .int 0, .int 0, .int 0, .int 0, .int 0, .int 0, .int 0, .int 0, .ref q1, .ref q4, .ref q9, .ref q14, .ref q17, .ref q20, .null])) := hc_h
  have hc_q1 : M22 q1 = some (.inl (kA 3, 12, .inr (.inr (.inr (.inr (fun _ => none)))))) := (hfr q1 n_q1_h).trans hc_q1
  have hc_q14 : M22 q14 = some (.inl (kA 0, 14, .inl (fun _ => 0))) := (hfr q14 n_q14_h).trans hc_q14
  have hc_q17 : M22 q17 = some (.inl (kA 0, 14, .inl (fun _ => 0))) := (hfr q17 n_q17_h).trans hc_q17
  have hc_q20 : M22 q20 = some (.inl (kA 0, 14, .inl (fun _ => 0))) := (hfr q20 n_q20_h).trans hc_q20
  have hF : ∀ a, a ≠ h → a < sz → M22 a = M a := fun a h0 h1 => (hfr a h0).trans (hF a h0 h1)
  refine lv_aload_n hx hb dX1_init_59 rfl (lv_at hl 0 rfl) ?_
  refine lv_bipush (v := 14) hx hb dX1_init_60 (by decide) ?_
  refine ynewa (atype := .int) (ck := 0) (N := 14) (a0 := (14, .inl (fun _ => 0))) hC hK hH rfl w_ac0 rfl (fun _ h => by cases h) (fun _ => rfl) (by decide) (by decide) (by decide) (Nat.le_of_ble_eq_true rfl) (Nat.le_of_ble_eq_true rfl) dX1_init_62 (fun q23 H M24 e_q23 hz nM_q23 nT_q23 hc_q23 hfr hN => ?_)
  have g_q23 : sz ≤ q23 := by rw [← hsz, e_q23]; exact hH.2.1.1
  have n_h_q23 : h ≠ q23 := neN hc_h nM_q23
  have n_q23_h : q23 ≠ h := Ne.symm n_h_q23
  have n_q1_q23 : q1 ≠ q23 := neN hc_q1 nM_q23
  have n_q23_q1 : q23 ≠ q1 := Ne.symm n_q1_q23
  have n_q14_q23 : q14 ≠ q23 := neN hc_q14 nM_q23
  have n_q23_q14 : q23 ≠ q14 := Ne.symm n_q14_q23
  have n_q17_q23 : q17 ≠ q23 := neN hc_q17 nM_q23
  have n_q23_q17 : q23 ≠ q17 := Ne.symm n_q17_q23
  have n_q20_q23 : q20 ≠ q23 := neN hc_q20 nM_q23
  have n_q23_q20 : q23 ≠ q20 := Ne.symm n_q20_q23
  have hH := hN
  have hc_q23 : M24 q23 = some (.inl (kA 0, 14, .inl (fun _ => 0))) := hc_q23
  have hc_h : M24 h = some (.inr (0, [.int 0, .int 0, .int 0, .int 0, .int 0, .int 0, .int 0, .int 0, .int 0, .int 0, .int 0, .int 0, .ref q1, .ref q4, .ref q9, .ref q14, .ref q17, .ref q20, .null])) := (hfr h n_h_q23).trans hc_h
  have hc_q1 : M24 q1 = some (.inl (kA 3, 12, .inr (.inr (.inr (.inr (fun _ => none)))))) := (hfr q1 n_q1_q23).trans hc_q1
  have hc_q14 : M24 q14 = some (.inl (kA 0, 14, .inl (fun _ => 0))) := (hfr q14 n_q14_q23).trans hc_q14
  have hc_q17 : M24 q17 = some (.inl (kA 0, 14, .inl (fun _ => 0))) := (hfr q17 n_q17_q23).trans hc_q17
  have hc_q20 : M24 q20 = some (.inl (kA 0, 14, .inl (fun _ => 0))) := (hfr q20 n_q20_q23).trans hc_q20
  have hF : ∀ a, a ≠ h → a < sz → M24 a = M a := fun a h0 h1 => (hfr a (Nat.ne_of_lt (Nat.lt_of_lt_of_le h1 g_q23))).trans (hF a h0 h1)
  refine ypF (v := .ref q23) hC hK hH hnm (fun _ _ _ h => by cases h; rfl) flX1_37 hc_h rfl rfl (Nat.le_of_ble_eq_true rfl) dX1_init_64 (fun H locs M25 hc_h hfr hH => ?_)
  have hc_h : M25 h = some (.inr (0, [.int 0, .int 0, .int 0, .int 0, .int 0, .int 0, .int 0, .int 0, .int 0, .int 0, .int 0, .int 0, .ref q1, .ref q4, .ref q9, .ref q14, .ref q17, .ref q20, .ref q23])) := hc_h
  have hc_q1 : M25 q1 = some (.inl (kA 3, 12, .inr (.inr (.inr (.inr (fun _ => none)))))) := (hfr q1 n_q1_h).trans hc_q1
  have hc_q14 : M25 q14 = some (.inl (kA 0, 14, .inl (fun _ => 0))) := (hfr q14 n_q14_h).trans hc_q14
  have hc_q17 : M25 q17 = some (.inl (kA 0, 14, .inl (fun _ => 0))) := (hfr q17 n_q17_h).trans hc_q17
  have hc_q20 : M25 q20 = some (.inl (kA 0, 14, .inl (fun _ => 0))) := (hfr q20 n_q20_h).trans hc_q20
  have hc_q23 : M25 q23 = some (.inl (kA 0, 14, .inl (fun _ => 0))) := (hfr q23 n_q23_h).trans hc_q23
  have hF : ∀ a, a ≠ h → a < sz → M25 a = M a := fun a h0 h1 => (hfr a h0).trans (hF a h0 h1)
  refine lv_iconst (v := 0) hx hb dX1_init_67 (by decide) ?_
  refine lv_istore_n (lv' := [(1, .int 0), (0, .ref h)]) hx hb dX1_init_68 rfl hl (by decide) rfl (fun ls hl => ?_)
  refine lv_iload_n hx hb dX1_init_69 rfl (lv_at hl 0 rfl) ?_
  refine lv_bipush (v := 12) hx hb dX1_init_70 (by decide) ?_
  refine jic_ge (tgt := 94) hx hb dX1_init_72 (by decide) (fun c26 => absurd c26 (by decide)) (fun c26 => ?_)
  refine lv_aload_n hx hb dX1_init_75 rfl (lv_at hl 1 rfl) ?_
  refine xg hC hK hH flX1_11 hc_h rfl dX1_init_76 ?_
  refine lv_iload_n hx hb dX1_init_79 rfl (lv_at hl 0 rfl) ?_
  refine ynew hC hK hH nlX1_9 (Nat.le_of_ble_eq_true rfl) (Nat.le_of_ble_eq_true rfl) dX1_init_80 (fun q27 H M28 e_q27 hz nM_q27 nT_q27 hc_q27 hfr hN => ?_)
  have g_q27 : sz ≤ q27 := by rw [← hsz, e_q27]; exact hH.2.1.1
  have n_h_q27 : h ≠ q27 := neN hc_h nM_q27
  have n_q27_h : q27 ≠ h := Ne.symm n_h_q27
  have n_q1_q27 : q1 ≠ q27 := neN hc_q1 nM_q27
  have n_q27_q1 : q27 ≠ q1 := Ne.symm n_q1_q27
  have n_q14_q27 : q14 ≠ q27 := neN hc_q14 nM_q27
  have n_q27_q14 : q27 ≠ q14 := Ne.symm n_q14_q27
  have n_q17_q27 : q17 ≠ q27 := neN hc_q17 nM_q27
  have n_q27_q17 : q27 ≠ q17 := Ne.symm n_q17_q27
  have n_q20_q27 : q20 ≠ q27 := neN hc_q20 nM_q27
  have n_q27_q20 : q27 ≠ q20 := Ne.symm n_q20_q27
  have n_q23_q27 : q23 ≠ q27 := neN hc_q23 nM_q27
  have n_q27_q23 : q27 ≠ q23 := Ne.symm n_q23_q27
  have hH := hN
  have hc_q27 : M28 q27 = some (.inr (5, [.int 0, .int 0, .int 0, .int 0, .int 0, .int 0, .int 0, .int 0, .int 0, .int 0, .int 0])) := hc_q27
  have hc_h : M28 h = some (.inr (0, [.int 0, .int 0, .int 0, .int 0, .int 0, .int 0, .int 0, .int 0, .int 0, .int 0, .int 0, .int 0, .ref q1, .ref q4, .ref q9, .ref q14, .ref q17, .ref q20, .ref q23])) := (hfr h n_h_q27).trans hc_h
  have hc_q1 : M28 q1 = some (.inl (kA 3, 12, .inr (.inr (.inr (.inr (fun _ => none)))))) := (hfr q1 n_q1_q27).trans hc_q1
  have hc_q14 : M28 q14 = some (.inl (kA 0, 14, .inl (fun _ => 0))) := (hfr q14 n_q14_q27).trans hc_q14
  have hc_q17 : M28 q17 = some (.inl (kA 0, 14, .inl (fun _ => 0))) := (hfr q17 n_q17_q27).trans hc_q17
  have hc_q20 : M28 q20 = some (.inl (kA 0, 14, .inl (fun _ => 0))) := (hfr q20 n_q20_q27).trans hc_q20
  have hc_q23 : M28 q23 = some (.inl (kA 0, 14, .inl (fun _ => 0))) := (hfr q23 n_q23_q27).trans hc_q23
  have hF : ∀ a, a ≠ h → a < sz → M28 a = M a := fun a h0 h1 => (hfr a (Nat.ne_of_lt (Nat.lt_of_lt_of_le h1 g_q27))).trans (hF a h0 h1)
  refine lv_dup hx hb dX1_init_83 rfl ?_
  refine goV hK hH (runIN (As := []) (rest := [.ref q27, .int 0, .ref q1]) hC hK hH (c_X6_init hc_q27) mlX1_40 ⟨⟨Nat.le_of_ble_eq_true rfl, Nat.le_of_ble_eq_true rfl⟩, Nat.le_of_ble_eq_true rfl, Nat.le_of_ble_eq_true rfl⟩ rfl hl.1 rfl (Nat.le_of_ble_eq_true rfl) dX1_init_84) (fun M29 T30 H locs hP hz hH => ?_)
  try dsimp only at hP
  obtain ⟨(-), eT, eM⟩ := hP
  have eT := eT.symm; subst eT
  have eM := eM.symm; subst eM
  obtain ⟨M32, T33, nM_q27, hfr, t_q27, hfT, hsub, hH⟩ := hH.re2 (τ := 0) hc_q27 (conf_o rfl ⟨okI (by decide) (by decide), okI (by decide) (by decide), okI (by decide) (by decide), okI (by decide) (by decide), okI (by decide) (by decide), okI (by decide) (by decide), okI (by decide) (by decide), okI (by decide) (by decide), okI (by decide) (by decide), okI (by decide) (by decide), okI (by decide) (by decide), trivial⟩)
  have hc_h : M32 h = some (.inr (0, [.int 0, .int 0, .int 0, .int 0, .int 0, .int 0, .int 0, .int 0, .int 0, .int 0, .int 0, .int 0, .ref q1, .ref q4, .ref q9, .ref q14, .ref q17, .ref q20, .ref q23])) := (hfr h n_h_q27).trans hc_h
  have hc_q1 : M32 q1 = some (.inl (kA 3, 12, .inr (.inr (.inr (.inr (fun _ => none)))))) := (hfr q1 n_q1_q27).trans hc_q1
  have hc_q14 : M32 q14 = some (.inl (kA 0, 14, .inl (fun _ => 0))) := (hfr q14 n_q14_q27).trans hc_q14
  have hc_q17 : M32 q17 = some (.inl (kA 0, 14, .inl (fun _ => 0))) := (hfr q17 n_q17_q27).trans hc_q17
  have hc_q20 : M32 q20 = some (.inl (kA 0, 14, .inl (fun _ => 0))) := (hfr q20 n_q20_q27).trans hc_q20
  have hc_q23 : M32 q23 = some (.inl (kA 0, 14, .inl (fun _ => 0))) := (hfr q23 n_q23_q27).trans hc_q23
  have t_q4 : T33 q4 = some 1 := hsub _ _ t_q4
  have t_q9 : T33 q9 = some 1 := hsub _ _ t_q9
  have hTT : ∀ a t, T a = some t → T33 a = some t := fun a t h => hsub _ _ (hTT a t h)
  have hF : ∀ a, a ≠ h → a < sz → M32 a = M a := fun a h0 h1 => (hfr a (Nat.ne_of_lt (Nat.lt_of_lt_of_le h1 g_q27))).trans (hF a h0 h1)
  refine yqst (ck := 3) (cv := 5) (v := q27) hC hK hH rfl rfl hc_q1 (let ⟨fs, h1, _⟩ := tcell hH t_q27 rfl; ⟨fs, h1⟩) (iIn (by decide) (by decide)) dX1_init_87 (fun H locs M34 hc_q1 hfr hH => ?_)
  have hc_q1 : M34 q1 = some (.inl (kA 3, 12, .inr (.inr (.inr (.inr (va_up (fun _ => none) (Int32.toNatClampNeg 0) (some q27))))))) := hc_q1
  have hc_h : M34 h = some (.inr (0, [.int 0, .int 0, .int 0, .int 0, .int 0, .int 0, .int 0, .int 0, .int 0, .int 0, .int 0, .int 0, .ref q1, .ref q4, .ref q9, .ref q14, .ref q17, .ref q20, .ref q23])) := (hfr h n_h_q1).trans hc_h
  have hc_q14 : M34 q14 = some (.inl (kA 0, 14, .inl (fun _ => 0))) := (hfr q14 n_q14_q1).trans hc_q14
  have hc_q17 : M34 q17 = some (.inl (kA 0, 14, .inl (fun _ => 0))) := (hfr q17 n_q17_q1).trans hc_q17
  have hc_q20 : M34 q20 = some (.inl (kA 0, 14, .inl (fun _ => 0))) := (hfr q20 n_q20_q1).trans hc_q20
  have hc_q23 : M34 q23 = some (.inl (kA 0, 14, .inl (fun _ => 0))) := (hfr q23 n_q23_q1).trans hc_q23
  have hF : ∀ a, a ≠ h → a < sz → M34 a = M a := fun a h0 h1 => (hfr a (Nat.ne_of_lt (Nat.lt_of_lt_of_le h1 g_q1))).trans (hF a h0 h1)
  refine lv_iinc (v := 1) (lv' := [(1, .int 1), (0, .ref h)]) hx hb dX1_init_88 hl (k := 0) rfl (by decide) (by decide) rfl (fun ls hl => ?_)
  refine lv_goto (tgt := 69) hx hb dX1_init_91 (by decide) ?_
  refine lv_iload_n hx hb dX1_init_69 rfl (lv_at hl 0 rfl) ?_
  refine lv_bipush (v := 12) hx hb dX1_init_70 (by decide) ?_
  refine jic_ge (tgt := 94) hx hb dX1_init_72 (by decide) (fun c35 => absurd c35 (by decide)) (fun c35 => ?_)
  refine lv_aload_n hx hb dX1_init_75 rfl (lv_at hl 1 rfl) ?_
  refine xg hC hK hH flX1_11 hc_h rfl dX1_init_76 ?_
  refine lv_iload_n hx hb dX1_init_79 rfl (lv_at hl 0 rfl) ?_
  refine ynew hC hK hH nlX1_9 (Nat.le_of_ble_eq_true rfl) (Nat.le_of_ble_eq_true rfl) dX1_init_80 (fun q36 H M37 e_q36 hz nM_q36 nT_q36 hc_q36 hfr hN => ?_)
  have g_q36 : sz ≤ q36 := by rw [← hsz, e_q36]; exact hH.2.1.1
  have n_h_q36 : h ≠ q36 := neN hc_h nM_q36
  have n_q36_h : q36 ≠ h := Ne.symm n_h_q36
  have n_q1_q36 : q1 ≠ q36 := neN hc_q1 nM_q36
  have n_q36_q1 : q36 ≠ q1 := Ne.symm n_q1_q36
  have n_q14_q36 : q14 ≠ q36 := neN hc_q14 nM_q36
  have n_q36_q14 : q36 ≠ q14 := Ne.symm n_q14_q36
  have n_q17_q36 : q17 ≠ q36 := neN hc_q17 nM_q36
  have n_q36_q17 : q36 ≠ q17 := Ne.symm n_q17_q36
  have n_q20_q36 : q20 ≠ q36 := neN hc_q20 nM_q36
  have n_q36_q20 : q36 ≠ q20 := Ne.symm n_q20_q36
  have n_q23_q36 : q23 ≠ q36 := neN hc_q23 nM_q36
  have n_q36_q23 : q36 ≠ q23 := Ne.symm n_q23_q36
  have hH := hN
  have hc_q36 : M37 q36 = some (.inr (5, [.int 0, .int 0, .int 0, .int 0, .int 0, .int 0, .int 0, .int 0, .int 0, .int 0, .int 0])) := hc_q36
  have hc_h : M37 h = some (.inr (0, [.int 0, .int 0, .int 0, .int 0, .int 0, .int 0, .int 0, .int 0, .int 0, .int 0, .int 0, .int 0, .ref q1, .ref q4, .ref q9, .ref q14, .ref q17, .ref q20, .ref q23])) := (hfr h n_h_q36).trans hc_h
  have hc_q1 : M37 q1 = some (.inl (kA 3, 12, .inr (.inr (.inr (.inr (va_up (fun _ => none) (Int32.toNatClampNeg 0) (some q27))))))) := (hfr q1 n_q1_q36).trans hc_q1
  have hc_q14 : M37 q14 = some (.inl (kA 0, 14, .inl (fun _ => 0))) := (hfr q14 n_q14_q36).trans hc_q14
  have hc_q17 : M37 q17 = some (.inl (kA 0, 14, .inl (fun _ => 0))) := (hfr q17 n_q17_q36).trans hc_q17
  have hc_q20 : M37 q20 = some (.inl (kA 0, 14, .inl (fun _ => 0))) := (hfr q20 n_q20_q36).trans hc_q20
  have hc_q23 : M37 q23 = some (.inl (kA 0, 14, .inl (fun _ => 0))) := (hfr q23 n_q23_q36).trans hc_q23
  have hF : ∀ a, a ≠ h → a < sz → M37 a = M a := fun a h0 h1 => (hfr a (Nat.ne_of_lt (Nat.lt_of_lt_of_le h1 g_q36))).trans (hF a h0 h1)
  refine lv_dup hx hb dX1_init_83 rfl ?_
  refine goV hK hH (runIN (As := []) (rest := [.ref q36, .int 1, .ref q1]) hC hK hH (c_X6_init hc_q36) mlX1_40 ⟨⟨Nat.le_of_ble_eq_true rfl, Nat.le_of_ble_eq_true rfl⟩, Nat.le_of_ble_eq_true rfl, Nat.le_of_ble_eq_true rfl⟩ rfl hl.1 rfl (Nat.le_of_ble_eq_true rfl) dX1_init_84) (fun M38 T39 H locs hP hz hH => ?_)
  try dsimp only at hP
  obtain ⟨(-), eT, eM⟩ := hP
  have eT := eT.symm; subst eT
  have eM := eM.symm; subst eM
  obtain ⟨M41, T42, nM_q36, hfr, t_q36, hfT, hsub, hH⟩ := hH.re2 (τ := 0) hc_q36 (conf_o rfl ⟨okI (by decide) (by decide), okI (by decide) (by decide), okI (by decide) (by decide), okI (by decide) (by decide), okI (by decide) (by decide), okI (by decide) (by decide), okI (by decide) (by decide), okI (by decide) (by decide), okI (by decide) (by decide), okI (by decide) (by decide), okI (by decide) (by decide), trivial⟩)
  have hc_h : M41 h = some (.inr (0, [.int 0, .int 0, .int 0, .int 0, .int 0, .int 0, .int 0, .int 0, .int 0, .int 0, .int 0, .int 0, .ref q1, .ref q4, .ref q9, .ref q14, .ref q17, .ref q20, .ref q23])) := (hfr h n_h_q36).trans hc_h
  have hc_q1 : M41 q1 = some (.inl (kA 3, 12, .inr (.inr (.inr (.inr (va_up (fun _ => none) (Int32.toNatClampNeg 0) (some q27))))))) := (hfr q1 n_q1_q36).trans hc_q1
  have hc_q14 : M41 q14 = some (.inl (kA 0, 14, .inl (fun _ => 0))) := (hfr q14 n_q14_q36).trans hc_q14
  have hc_q17 : M41 q17 = some (.inl (kA 0, 14, .inl (fun _ => 0))) := (hfr q17 n_q17_q36).trans hc_q17
  have hc_q20 : M41 q20 = some (.inl (kA 0, 14, .inl (fun _ => 0))) := (hfr q20 n_q20_q36).trans hc_q20
  have hc_q23 : M41 q23 = some (.inl (kA 0, 14, .inl (fun _ => 0))) := (hfr q23 n_q23_q36).trans hc_q23
  have t_q4 : T42 q4 = some 1 := hsub _ _ t_q4
  have t_q9 : T42 q9 = some 1 := hsub _ _ t_q9
  have t_q27 : T42 q27 = some 0 := hsub _ _ t_q27
  have hTT : ∀ a t, T a = some t → T42 a = some t := fun a t h => hsub _ _ (hTT a t h)
  have hF : ∀ a, a ≠ h → a < sz → M41 a = M a := fun a h0 h1 => (hfr a (Nat.ne_of_lt (Nat.lt_of_lt_of_le h1 g_q36))).trans (hF a h0 h1)
  refine yqst (ck := 3) (cv := 5) (v := q36) hC hK hH rfl rfl hc_q1 (let ⟨fs, h1, _⟩ := tcell hH t_q36 rfl; ⟨fs, h1⟩) (iIn (by decide) (by decide)) dX1_init_87 (fun H locs M43 hc_q1 hfr hH => ?_)
  have hc_q1 : M43 q1 = some (.inl (kA 3, 12, .inr (.inr (.inr (.inr (va_up (va_up (fun _ => none) (Int32.toNatClampNeg 0) (some q27)) (Int32.toNatClampNeg 1) (some q36))))))) := hc_q1
  have hc_h : M43 h = some (.inr (0, [.int 0, .int 0, .int 0, .int 0, .int 0, .int 0, .int 0, .int 0, .int 0, .int 0, .int 0, .int 0, .ref q1, .ref q4, .ref q9, .ref q14, .ref q17, .ref q20, .ref q23])) := (hfr h n_h_q1).trans hc_h
  have hc_q14 : M43 q14 = some (.inl (kA 0, 14, .inl (fun _ => 0))) := (hfr q14 n_q14_q1).trans hc_q14
  have hc_q17 : M43 q17 = some (.inl (kA 0, 14, .inl (fun _ => 0))) := (hfr q17 n_q17_q1).trans hc_q17
  have hc_q20 : M43 q20 = some (.inl (kA 0, 14, .inl (fun _ => 0))) := (hfr q20 n_q20_q1).trans hc_q20
  have hc_q23 : M43 q23 = some (.inl (kA 0, 14, .inl (fun _ => 0))) := (hfr q23 n_q23_q1).trans hc_q23
  have hF : ∀ a, a ≠ h → a < sz → M43 a = M a := fun a h0 h1 => (hfr a (Nat.ne_of_lt (Nat.lt_of_lt_of_le h1 g_q1))).trans (hF a h0 h1)
  refine lv_iinc (v := 2) (lv' := [(1, .int 2), (0, .ref h)]) hx hb dX1_init_88 hl (k := 0) rfl (by decide) (by decide) rfl (fun ls hl => ?_)
  refine lv_goto (tgt := 69) hx hb dX1_init_91 (by decide) ?_
  refine lv_iload_n hx hb dX1_init_69 rfl (lv_at hl 0 rfl) ?_
  refine lv_bipush (v := 12) hx hb dX1_init_70 (by decide) ?_
  refine jic_ge (tgt := 94) hx hb dX1_init_72 (by decide) (fun c44 => absurd c44 (by decide)) (fun c44 => ?_)
  refine lv_aload_n hx hb dX1_init_75 rfl (lv_at hl 1 rfl) ?_
  refine xg hC hK hH flX1_11 hc_h rfl dX1_init_76 ?_
  refine lv_iload_n hx hb dX1_init_79 rfl (lv_at hl 0 rfl) ?_
  refine ynew hC hK hH nlX1_9 (Nat.le_of_ble_eq_true rfl) (Nat.le_of_ble_eq_true rfl) dX1_init_80 (fun q45 H M46 e_q45 hz nM_q45 nT_q45 hc_q45 hfr hN => ?_)
  have g_q45 : sz ≤ q45 := by rw [← hsz, e_q45]; exact hH.2.1.1
  have n_h_q45 : h ≠ q45 := neN hc_h nM_q45
  have n_q45_h : q45 ≠ h := Ne.symm n_h_q45
  have n_q1_q45 : q1 ≠ q45 := neN hc_q1 nM_q45
  have n_q45_q1 : q45 ≠ q1 := Ne.symm n_q1_q45
  have n_q14_q45 : q14 ≠ q45 := neN hc_q14 nM_q45
  have n_q45_q14 : q45 ≠ q14 := Ne.symm n_q14_q45
  have n_q17_q45 : q17 ≠ q45 := neN hc_q17 nM_q45
  have n_q45_q17 : q45 ≠ q17 := Ne.symm n_q17_q45
  have n_q20_q45 : q20 ≠ q45 := neN hc_q20 nM_q45
  have n_q45_q20 : q45 ≠ q20 := Ne.symm n_q20_q45
  have n_q23_q45 : q23 ≠ q45 := neN hc_q23 nM_q45
  have n_q45_q23 : q45 ≠ q23 := Ne.symm n_q23_q45
  have hH := hN
  have hc_q45 : M46 q45 = some (.inr (5, [.int 0, .int 0, .int 0, .int 0, .int 0, .int 0, .int 0, .int 0, .int 0, .int 0, .int 0])) := hc_q45
  have hc_h : M46 h = some (.inr (0, [.int 0, .int 0, .int 0, .int 0, .int 0, .int 0, .int 0, .int 0, .int 0, .int 0, .int 0, .int 0, .ref q1, .ref q4, .ref q9, .ref q14, .ref q17, .ref q20, .ref q23])) := (hfr h n_h_q45).trans hc_h
  have hc_q1 : M46 q1 = some (.inl (kA 3, 12, .inr (.inr (.inr (.inr (va_up (va_up (fun _ => none) (Int32.toNatClampNeg 0) (some q27)) (Int32.toNatClampNeg 1) (some q36))))))) := (hfr q1 n_q1_q45).trans hc_q1
  have hc_q14 : M46 q14 = some (.inl (kA 0, 14, .inl (fun _ => 0))) := (hfr q14 n_q14_q45).trans hc_q14
  have hc_q17 : M46 q17 = some (.inl (kA 0, 14, .inl (fun _ => 0))) := (hfr q17 n_q17_q45).trans hc_q17
  have hc_q20 : M46 q20 = some (.inl (kA 0, 14, .inl (fun _ => 0))) := (hfr q20 n_q20_q45).trans hc_q20
  have hc_q23 : M46 q23 = some (.inl (kA 0, 14, .inl (fun _ => 0))) := (hfr q23 n_q23_q45).trans hc_q23
  have hF : ∀ a, a ≠ h → a < sz → M46 a = M a := fun a h0 h1 => (hfr a (Nat.ne_of_lt (Nat.lt_of_lt_of_le h1 g_q45))).trans (hF a h0 h1)
  refine lv_dup hx hb dX1_init_83 rfl ?_
  refine goV hK hH (runIN (As := []) (rest := [.ref q45, .int 2, .ref q1]) hC hK hH (c_X6_init hc_q45) mlX1_40 ⟨⟨Nat.le_of_ble_eq_true rfl, Nat.le_of_ble_eq_true rfl⟩, Nat.le_of_ble_eq_true rfl, Nat.le_of_ble_eq_true rfl⟩ rfl hl.1 rfl (Nat.le_of_ble_eq_true rfl) dX1_init_84) (fun M47 T48 H locs hP hz hH => ?_)
  try dsimp only at hP
  obtain ⟨(-), eT, eM⟩ := hP
  have eT := eT.symm; subst eT
  have eM := eM.symm; subst eM
  obtain ⟨M50, T51, nM_q45, hfr, t_q45, hfT, hsub, hH⟩ := hH.re2 (τ := 0) hc_q45 (conf_o rfl ⟨okI (by decide) (by decide), okI (by decide) (by decide), okI (by decide) (by decide), okI (by decide) (by decide), okI (by decide) (by decide), okI (by decide) (by decide), okI (by decide) (by decide), okI (by decide) (by decide), okI (by decide) (by decide), okI (by decide) (by decide), okI (by decide) (by decide), trivial⟩)
  have hc_h : M50 h = some (.inr (0, [.int 0, .int 0, .int 0, .int 0, .int 0, .int 0, .int 0, .int 0, .int 0, .int 0, .int 0, .int 0, .ref q1, .ref q4, .ref q9, .ref q14, .ref q17, .ref q20, .ref q23])) := (hfr h n_h_q45).trans hc_h
  have hc_q1 : M50 q1 = some (.inl (kA 3, 12, .inr (.inr (.inr (.inr (va_up (va_up (fun _ => none) (Int32.toNatClampNeg 0) (some q27)) (Int32.toNatClampNeg 1) (some q36))))))) := (hfr q1 n_q1_q45).trans hc_q1
  have hc_q14 : M50 q14 = some (.inl (kA 0, 14, .inl (fun _ => 0))) := (hfr q14 n_q14_q45).trans hc_q14
  have hc_q17 : M50 q17 = some (.inl (kA 0, 14, .inl (fun _ => 0))) := (hfr q17 n_q17_q45).trans hc_q17
  have hc_q20 : M50 q20 = some (.inl (kA 0, 14, .inl (fun _ => 0))) := (hfr q20 n_q20_q45).trans hc_q20
  have hc_q23 : M50 q23 = some (.inl (kA 0, 14, .inl (fun _ => 0))) := (hfr q23 n_q23_q45).trans hc_q23
  have t_q4 : T51 q4 = some 1 := hsub _ _ t_q4
  have t_q9 : T51 q9 = some 1 := hsub _ _ t_q9
  have t_q27 : T51 q27 = some 0 := hsub _ _ t_q27
  have t_q36 : T51 q36 = some 0 := hsub _ _ t_q36
  have hTT : ∀ a t, T a = some t → T51 a = some t := fun a t h => hsub _ _ (hTT a t h)
  have hF : ∀ a, a ≠ h → a < sz → M50 a = M a := fun a h0 h1 => (hfr a (Nat.ne_of_lt (Nat.lt_of_lt_of_le h1 g_q45))).trans (hF a h0 h1)
  refine yqst (ck := 3) (cv := 5) (v := q45) hC hK hH rfl rfl hc_q1 (let ⟨fs, h1, _⟩ := tcell hH t_q45 rfl; ⟨fs, h1⟩) (iIn (by decide) (by decide)) dX1_init_87 (fun H locs M52 hc_q1 hfr hH => ?_)
  have hc_q1 : M52 q1 = some (.inl (kA 3, 12, .inr (.inr (.inr (.inr (va_up (va_up (va_up (fun _ => none) (Int32.toNatClampNeg 0) (some q27)) (Int32.toNatClampNeg 1) (some q36)) (Int32.toNatClampNeg 2) (some q45))))))) := hc_q1
  have hc_h : M52 h = some (.inr (0, [.int 0, .int 0, .int 0, .int 0, .int 0, .int 0, .int 0, .int 0, .int 0, .int 0, .int 0, .int 0, .ref q1, .ref q4, .ref q9, .ref q14, .ref q17, .ref q20, .ref q23])) := (hfr h n_h_q1).trans hc_h
  have hc_q14 : M52 q14 = some (.inl (kA 0, 14, .inl (fun _ => 0))) := (hfr q14 n_q14_q1).trans hc_q14
  have hc_q17 : M52 q17 = some (.inl (kA 0, 14, .inl (fun _ => 0))) := (hfr q17 n_q17_q1).trans hc_q17
  have hc_q20 : M52 q20 = some (.inl (kA 0, 14, .inl (fun _ => 0))) := (hfr q20 n_q20_q1).trans hc_q20
  have hc_q23 : M52 q23 = some (.inl (kA 0, 14, .inl (fun _ => 0))) := (hfr q23 n_q23_q1).trans hc_q23
  have hF : ∀ a, a ≠ h → a < sz → M52 a = M a := fun a h0 h1 => (hfr a (Nat.ne_of_lt (Nat.lt_of_lt_of_le h1 g_q1))).trans (hF a h0 h1)
  refine lv_iinc (v := 3) (lv' := [(1, .int 3), (0, .ref h)]) hx hb dX1_init_88 hl (k := 0) rfl (by decide) (by decide) rfl (fun ls hl => ?_)
  refine lv_goto (tgt := 69) hx hb dX1_init_91 (by decide) ?_
  refine lv_iload_n hx hb dX1_init_69 rfl (lv_at hl 0 rfl) ?_
  refine lv_bipush (v := 12) hx hb dX1_init_70 (by decide) ?_
  refine jic_ge (tgt := 94) hx hb dX1_init_72 (by decide) (fun c53 => absurd c53 (by decide)) (fun c53 => ?_)
  refine lv_aload_n hx hb dX1_init_75 rfl (lv_at hl 1 rfl) ?_
  refine xg hC hK hH flX1_11 hc_h rfl dX1_init_76 ?_
  refine lv_iload_n hx hb dX1_init_79 rfl (lv_at hl 0 rfl) ?_
  refine ynew hC hK hH nlX1_9 (Nat.le_of_ble_eq_true rfl) (Nat.le_of_ble_eq_true rfl) dX1_init_80 (fun q54 H M55 e_q54 hz nM_q54 nT_q54 hc_q54 hfr hN => ?_)
  have g_q54 : sz ≤ q54 := by rw [← hsz, e_q54]; exact hH.2.1.1
  have n_h_q54 : h ≠ q54 := neN hc_h nM_q54
  have n_q54_h : q54 ≠ h := Ne.symm n_h_q54
  have n_q1_q54 : q1 ≠ q54 := neN hc_q1 nM_q54
  have n_q54_q1 : q54 ≠ q1 := Ne.symm n_q1_q54
  have n_q14_q54 : q14 ≠ q54 := neN hc_q14 nM_q54
  have n_q54_q14 : q54 ≠ q14 := Ne.symm n_q14_q54
  have n_q17_q54 : q17 ≠ q54 := neN hc_q17 nM_q54
  have n_q54_q17 : q54 ≠ q17 := Ne.symm n_q17_q54
  have n_q20_q54 : q20 ≠ q54 := neN hc_q20 nM_q54
  have n_q54_q20 : q54 ≠ q20 := Ne.symm n_q20_q54
  have n_q23_q54 : q23 ≠ q54 := neN hc_q23 nM_q54
  have n_q54_q23 : q54 ≠ q23 := Ne.symm n_q23_q54
  have hH := hN
  have hc_q54 : M55 q54 = some (.inr (5, [.int 0, .int 0, .int 0, .int 0, .int 0, .int 0, .int 0, .int 0, .int 0, .int 0, .int 0])) := hc_q54
  have hc_h : M55 h = some (.inr (0, [.int 0, .int 0, .int 0, .int 0, .int 0, .int 0, .int 0, .int 0, .int 0, .int 0, .int 0, .int 0, .ref q1, .ref q4, .ref q9, .ref q14, .ref q17, .ref q20, .ref q23])) := (hfr h n_h_q54).trans hc_h
  have hc_q1 : M55 q1 = some (.inl (kA 3, 12, .inr (.inr (.inr (.inr (va_up (va_up (va_up (fun _ => none) (Int32.toNatClampNeg 0) (some q27)) (Int32.toNatClampNeg 1) (some q36)) (Int32.toNatClampNeg 2) (some q45))))))) := (hfr q1 n_q1_q54).trans hc_q1
  have hc_q14 : M55 q14 = some (.inl (kA 0, 14, .inl (fun _ => 0))) := (hfr q14 n_q14_q54).trans hc_q14
  have hc_q17 : M55 q17 = some (.inl (kA 0, 14, .inl (fun _ => 0))) := (hfr q17 n_q17_q54).trans hc_q17
  have hc_q20 : M55 q20 = some (.inl (kA 0, 14, .inl (fun _ => 0))) := (hfr q20 n_q20_q54).trans hc_q20
  have hc_q23 : M55 q23 = some (.inl (kA 0, 14, .inl (fun _ => 0))) := (hfr q23 n_q23_q54).trans hc_q23
  have hF : ∀ a, a ≠ h → a < sz → M55 a = M a := fun a h0 h1 => (hfr a (Nat.ne_of_lt (Nat.lt_of_lt_of_le h1 g_q54))).trans (hF a h0 h1)
  refine lv_dup hx hb dX1_init_83 rfl ?_
  refine goV hK hH (runIN (As := []) (rest := [.ref q54, .int 3, .ref q1]) hC hK hH (c_X6_init hc_q54) mlX1_40 ⟨⟨Nat.le_of_ble_eq_true rfl, Nat.le_of_ble_eq_true rfl⟩, Nat.le_of_ble_eq_true rfl, Nat.le_of_ble_eq_true rfl⟩ rfl hl.1 rfl (Nat.le_of_ble_eq_true rfl) dX1_init_84) (fun M56 T57 H locs hP hz hH => ?_)
  try dsimp only at hP
  obtain ⟨(-), eT, eM⟩ := hP
  have eT := eT.symm; subst eT
  have eM := eM.symm; subst eM
  obtain ⟨M59, T60, nM_q54, hfr, t_q54, hfT, hsub, hH⟩ := hH.re2 (τ := 0) hc_q54 (conf_o rfl ⟨okI (by decide) (by decide), okI (by decide) (by decide), okI (by decide) (by decide), okI (by decide) (by decide), okI (by decide) (by decide), okI (by decide) (by decide), okI (by decide) (by decide), okI (by decide) (by decide), okI (by decide) (by decide), okI (by decide) (by decide), okI (by decide) (by decide), trivial⟩)
  have hc_h : M59 h = some (.inr (0, [.int 0, .int 0, .int 0, .int 0, .int 0, .int 0, .int 0, .int 0, .int 0, .int 0, .int 0, .int 0, .ref q1, .ref q4, .ref q9, .ref q14, .ref q17, .ref q20, .ref q23])) := (hfr h n_h_q54).trans hc_h
  have hc_q1 : M59 q1 = some (.inl (kA 3, 12, .inr (.inr (.inr (.inr (va_up (va_up (va_up (fun _ => none) (Int32.toNatClampNeg 0) (some q27)) (Int32.toNatClampNeg 1) (some q36)) (Int32.toNatClampNeg 2) (some q45))))))) := (hfr q1 n_q1_q54).trans hc_q1
  have hc_q14 : M59 q14 = some (.inl (kA 0, 14, .inl (fun _ => 0))) := (hfr q14 n_q14_q54).trans hc_q14
  have hc_q17 : M59 q17 = some (.inl (kA 0, 14, .inl (fun _ => 0))) := (hfr q17 n_q17_q54).trans hc_q17
  have hc_q20 : M59 q20 = some (.inl (kA 0, 14, .inl (fun _ => 0))) := (hfr q20 n_q20_q54).trans hc_q20
  have hc_q23 : M59 q23 = some (.inl (kA 0, 14, .inl (fun _ => 0))) := (hfr q23 n_q23_q54).trans hc_q23
  have t_q4 : T60 q4 = some 1 := hsub _ _ t_q4
  have t_q9 : T60 q9 = some 1 := hsub _ _ t_q9
  have t_q27 : T60 q27 = some 0 := hsub _ _ t_q27
  have t_q36 : T60 q36 = some 0 := hsub _ _ t_q36
  have t_q45 : T60 q45 = some 0 := hsub _ _ t_q45
  have hTT : ∀ a t, T a = some t → T60 a = some t := fun a t h => hsub _ _ (hTT a t h)
  have hF : ∀ a, a ≠ h → a < sz → M59 a = M a := fun a h0 h1 => (hfr a (Nat.ne_of_lt (Nat.lt_of_lt_of_le h1 g_q54))).trans (hF a h0 h1)
  refine yqst (ck := 3) (cv := 5) (v := q54) hC hK hH rfl rfl hc_q1 (let ⟨fs, h1, _⟩ := tcell hH t_q54 rfl; ⟨fs, h1⟩) (iIn (by decide) (by decide)) dX1_init_87 (fun H locs M61 hc_q1 hfr hH => ?_)
  have hc_q1 : M61 q1 = some (.inl (kA 3, 12, .inr (.inr (.inr (.inr (va_up (va_up (va_up (va_up (fun _ => none) (Int32.toNatClampNeg 0) (some q27)) (Int32.toNatClampNeg 1) (some q36)) (Int32.toNatClampNeg 2) (some q45)) (Int32.toNatClampNeg 3) (some q54))))))) := hc_q1
  have hc_h : M61 h = some (.inr (0, [.int 0, .int 0, .int 0, .int 0, .int 0, .int 0, .int 0, .int 0, .int 0, .int 0, .int 0, .int 0, .ref q1, .ref q4, .ref q9, .ref q14, .ref q17, .ref q20, .ref q23])) := (hfr h n_h_q1).trans hc_h
  have hc_q14 : M61 q14 = some (.inl (kA 0, 14, .inl (fun _ => 0))) := (hfr q14 n_q14_q1).trans hc_q14
  have hc_q17 : M61 q17 = some (.inl (kA 0, 14, .inl (fun _ => 0))) := (hfr q17 n_q17_q1).trans hc_q17
  have hc_q20 : M61 q20 = some (.inl (kA 0, 14, .inl (fun _ => 0))) := (hfr q20 n_q20_q1).trans hc_q20
  have hc_q23 : M61 q23 = some (.inl (kA 0, 14, .inl (fun _ => 0))) := (hfr q23 n_q23_q1).trans hc_q23
  have hF : ∀ a, a ≠ h → a < sz → M61 a = M a := fun a h0 h1 => (hfr a (Nat.ne_of_lt (Nat.lt_of_lt_of_le h1 g_q1))).trans (hF a h0 h1)
  refine lv_iinc (v := 4) (lv' := [(1, .int 4), (0, .ref h)]) hx hb dX1_init_88 hl (k := 0) rfl (by decide) (by decide) rfl (fun ls hl => ?_)
  refine lv_goto (tgt := 69) hx hb dX1_init_91 (by decide) ?_
  refine lv_iload_n hx hb dX1_init_69 rfl (lv_at hl 0 rfl) ?_
  refine lv_bipush (v := 12) hx hb dX1_init_70 (by decide) ?_
  refine jic_ge (tgt := 94) hx hb dX1_init_72 (by decide) (fun c62 => absurd c62 (by decide)) (fun c62 => ?_)
  refine lv_aload_n hx hb dX1_init_75 rfl (lv_at hl 1 rfl) ?_
  refine xg hC hK hH flX1_11 hc_h rfl dX1_init_76 ?_
  refine lv_iload_n hx hb dX1_init_79 rfl (lv_at hl 0 rfl) ?_
  refine ynew hC hK hH nlX1_9 (Nat.le_of_ble_eq_true rfl) (Nat.le_of_ble_eq_true rfl) dX1_init_80 (fun q63 H M64 e_q63 hz nM_q63 nT_q63 hc_q63 hfr hN => ?_)
  have g_q63 : sz ≤ q63 := by rw [← hsz, e_q63]; exact hH.2.1.1
  have n_h_q63 : h ≠ q63 := neN hc_h nM_q63
  have n_q63_h : q63 ≠ h := Ne.symm n_h_q63
  have n_q1_q63 : q1 ≠ q63 := neN hc_q1 nM_q63
  have n_q63_q1 : q63 ≠ q1 := Ne.symm n_q1_q63
  have n_q14_q63 : q14 ≠ q63 := neN hc_q14 nM_q63
  have n_q63_q14 : q63 ≠ q14 := Ne.symm n_q14_q63
  have n_q17_q63 : q17 ≠ q63 := neN hc_q17 nM_q63
  have n_q63_q17 : q63 ≠ q17 := Ne.symm n_q17_q63
  have n_q20_q63 : q20 ≠ q63 := neN hc_q20 nM_q63
  have n_q63_q20 : q63 ≠ q20 := Ne.symm n_q20_q63
  have n_q23_q63 : q23 ≠ q63 := neN hc_q23 nM_q63
  have n_q63_q23 : q63 ≠ q23 := Ne.symm n_q23_q63
  have hH := hN
  have hc_q63 : M64 q63 = some (.inr (5, [.int 0, .int 0, .int 0, .int 0, .int 0, .int 0, .int 0, .int 0, .int 0, .int 0, .int 0])) := hc_q63
  have hc_h : M64 h = some (.inr (0, [.int 0, .int 0, .int 0, .int 0, .int 0, .int 0, .int 0, .int 0, .int 0, .int 0, .int 0, .int 0, .ref q1, .ref q4, .ref q9, .ref q14, .ref q17, .ref q20, .ref q23])) := (hfr h n_h_q63).trans hc_h
  have hc_q1 : M64 q1 = some (.inl (kA 3, 12, .inr (.inr (.inr (.inr (va_up (va_up (va_up (va_up (fun _ => none) (Int32.toNatClampNeg 0) (some q27)) (Int32.toNatClampNeg 1) (some q36)) (Int32.toNatClampNeg 2) (some q45)) (Int32.toNatClampNeg 3) (some q54))))))) := (hfr q1 n_q1_q63).trans hc_q1
  have hc_q14 : M64 q14 = some (.inl (kA 0, 14, .inl (fun _ => 0))) := (hfr q14 n_q14_q63).trans hc_q14
  have hc_q17 : M64 q17 = some (.inl (kA 0, 14, .inl (fun _ => 0))) := (hfr q17 n_q17_q63).trans hc_q17
  have hc_q20 : M64 q20 = some (.inl (kA 0, 14, .inl (fun _ => 0))) := (hfr q20 n_q20_q63).trans hc_q20
  have hc_q23 : M64 q23 = some (.inl (kA 0, 14, .inl (fun _ => 0))) := (hfr q23 n_q23_q63).trans hc_q23
  have hF : ∀ a, a ≠ h → a < sz → M64 a = M a := fun a h0 h1 => (hfr a (Nat.ne_of_lt (Nat.lt_of_lt_of_le h1 g_q63))).trans (hF a h0 h1)
  refine lv_dup hx hb dX1_init_83 rfl ?_
  refine goV hK hH (runIN (As := []) (rest := [.ref q63, .int 4, .ref q1]) hC hK hH (c_X6_init hc_q63) mlX1_40 ⟨⟨Nat.le_of_ble_eq_true rfl, Nat.le_of_ble_eq_true rfl⟩, Nat.le_of_ble_eq_true rfl, Nat.le_of_ble_eq_true rfl⟩ rfl hl.1 rfl (Nat.le_of_ble_eq_true rfl) dX1_init_84) (fun M65 T66 H locs hP hz hH => ?_)
  try dsimp only at hP
  obtain ⟨(-), eT, eM⟩ := hP
  have eT := eT.symm; subst eT
  have eM := eM.symm; subst eM
  obtain ⟨M68, T69, nM_q63, hfr, t_q63, hfT, hsub, hH⟩ := hH.re2 (τ := 0) hc_q63 (conf_o rfl ⟨okI (by decide) (by decide), okI (by decide) (by decide), okI (by decide) (by decide), okI (by decide) (by decide), okI (by decide) (by decide), okI (by decide) (by decide), okI (by decide) (by decide), okI (by decide) (by decide), okI (by decide) (by decide), okI (by decide) (by decide), okI (by decide) (by decide), trivial⟩)
  have hc_h : M68 h = some (.inr (0, [.int 0, .int 0, .int 0, .int 0, .int 0, .int 0, .int 0, .int 0, .int 0, .int 0, .int 0, .int 0, .ref q1, .ref q4, .ref q9, .ref q14, .ref q17, .ref q20, .ref q23])) := (hfr h n_h_q63).trans hc_h
  have hc_q1 : M68 q1 = some (.inl (kA 3, 12, .inr (.inr (.inr (.inr (va_up (va_up (va_up (va_up (fun _ => none) (Int32.toNatClampNeg 0) (some q27)) (Int32.toNatClampNeg 1) (some q36)) (Int32.toNatClampNeg 2) (some q45)) (Int32.toNatClampNeg 3) (some q54))))))) := (hfr q1 n_q1_q63).trans hc_q1
  have hc_q14 : M68 q14 = some (.inl (kA 0, 14, .inl (fun _ => 0))) := (hfr q14 n_q14_q63).trans hc_q14
  have hc_q17 : M68 q17 = some (.inl (kA 0, 14, .inl (fun _ => 0))) := (hfr q17 n_q17_q63).trans hc_q17
  have hc_q20 : M68 q20 = some (.inl (kA 0, 14, .inl (fun _ => 0))) := (hfr q20 n_q20_q63).trans hc_q20
  have hc_q23 : M68 q23 = some (.inl (kA 0, 14, .inl (fun _ => 0))) := (hfr q23 n_q23_q63).trans hc_q23
  have t_q4 : T69 q4 = some 1 := hsub _ _ t_q4
  have t_q9 : T69 q9 = some 1 := hsub _ _ t_q9
  have t_q27 : T69 q27 = some 0 := hsub _ _ t_q27
  have t_q36 : T69 q36 = some 0 := hsub _ _ t_q36
  have t_q45 : T69 q45 = some 0 := hsub _ _ t_q45
  have t_q54 : T69 q54 = some 0 := hsub _ _ t_q54
  have hTT : ∀ a t, T a = some t → T69 a = some t := fun a t h => hsub _ _ (hTT a t h)
  have hF : ∀ a, a ≠ h → a < sz → M68 a = M a := fun a h0 h1 => (hfr a (Nat.ne_of_lt (Nat.lt_of_lt_of_le h1 g_q63))).trans (hF a h0 h1)
  refine yqst (ck := 3) (cv := 5) (v := q63) hC hK hH rfl rfl hc_q1 (let ⟨fs, h1, _⟩ := tcell hH t_q63 rfl; ⟨fs, h1⟩) (iIn (by decide) (by decide)) dX1_init_87 (fun H locs M70 hc_q1 hfr hH => ?_)
  have hc_q1 : M70 q1 = some (.inl (kA 3, 12, .inr (.inr (.inr (.inr (va_up (va_up (va_up (va_up (va_up (fun _ => none) (Int32.toNatClampNeg 0) (some q27)) (Int32.toNatClampNeg 1) (some q36)) (Int32.toNatClampNeg 2) (some q45)) (Int32.toNatClampNeg 3) (some q54)) (Int32.toNatClampNeg 4) (some q63))))))) := hc_q1
  have hc_h : M70 h = some (.inr (0, [.int 0, .int 0, .int 0, .int 0, .int 0, .int 0, .int 0, .int 0, .int 0, .int 0, .int 0, .int 0, .ref q1, .ref q4, .ref q9, .ref q14, .ref q17, .ref q20, .ref q23])) := (hfr h n_h_q1).trans hc_h
  have hc_q14 : M70 q14 = some (.inl (kA 0, 14, .inl (fun _ => 0))) := (hfr q14 n_q14_q1).trans hc_q14
  have hc_q17 : M70 q17 = some (.inl (kA 0, 14, .inl (fun _ => 0))) := (hfr q17 n_q17_q1).trans hc_q17
  have hc_q20 : M70 q20 = some (.inl (kA 0, 14, .inl (fun _ => 0))) := (hfr q20 n_q20_q1).trans hc_q20
  have hc_q23 : M70 q23 = some (.inl (kA 0, 14, .inl (fun _ => 0))) := (hfr q23 n_q23_q1).trans hc_q23
  have hF : ∀ a, a ≠ h → a < sz → M70 a = M a := fun a h0 h1 => (hfr a (Nat.ne_of_lt (Nat.lt_of_lt_of_le h1 g_q1))).trans (hF a h0 h1)
  refine lv_iinc (v := 5) (lv' := [(1, .int 5), (0, .ref h)]) hx hb dX1_init_88 hl (k := 0) rfl (by decide) (by decide) rfl (fun ls hl => ?_)
  refine lv_goto (tgt := 69) hx hb dX1_init_91 (by decide) ?_
  refine lv_iload_n hx hb dX1_init_69 rfl (lv_at hl 0 rfl) ?_
  refine lv_bipush (v := 12) hx hb dX1_init_70 (by decide) ?_
  refine jic_ge (tgt := 94) hx hb dX1_init_72 (by decide) (fun c71 => absurd c71 (by decide)) (fun c71 => ?_)
  refine lv_aload_n hx hb dX1_init_75 rfl (lv_at hl 1 rfl) ?_
  refine xg hC hK hH flX1_11 hc_h rfl dX1_init_76 ?_
  refine lv_iload_n hx hb dX1_init_79 rfl (lv_at hl 0 rfl) ?_
  refine ynew hC hK hH nlX1_9 (Nat.le_of_ble_eq_true rfl) (Nat.le_of_ble_eq_true rfl) dX1_init_80 (fun q72 H M73 e_q72 hz nM_q72 nT_q72 hc_q72 hfr hN => ?_)
  have g_q72 : sz ≤ q72 := by rw [← hsz, e_q72]; exact hH.2.1.1
  have n_h_q72 : h ≠ q72 := neN hc_h nM_q72
  have n_q72_h : q72 ≠ h := Ne.symm n_h_q72
  have n_q1_q72 : q1 ≠ q72 := neN hc_q1 nM_q72
  have n_q72_q1 : q72 ≠ q1 := Ne.symm n_q1_q72
  have n_q14_q72 : q14 ≠ q72 := neN hc_q14 nM_q72
  have n_q72_q14 : q72 ≠ q14 := Ne.symm n_q14_q72
  have n_q17_q72 : q17 ≠ q72 := neN hc_q17 nM_q72
  have n_q72_q17 : q72 ≠ q17 := Ne.symm n_q17_q72
  have n_q20_q72 : q20 ≠ q72 := neN hc_q20 nM_q72
  have n_q72_q20 : q72 ≠ q20 := Ne.symm n_q20_q72
  have n_q23_q72 : q23 ≠ q72 := neN hc_q23 nM_q72
  have n_q72_q23 : q72 ≠ q23 := Ne.symm n_q23_q72
  have hH := hN
  have hc_q72 : M73 q72 = some (.inr (5, [.int 0, .int 0, .int 0, .int 0, .int 0, .int 0, .int 0, .int 0, .int 0, .int 0, .int 0])) := hc_q72
  have hc_h : M73 h = some (.inr (0, [.int 0, .int 0, .int 0, .int 0, .int 0, .int 0, .int 0, .int 0, .int 0, .int 0, .int 0, .int 0, .ref q1, .ref q4, .ref q9, .ref q14, .ref q17, .ref q20, .ref q23])) := (hfr h n_h_q72).trans hc_h
  have hc_q1 : M73 q1 = some (.inl (kA 3, 12, .inr (.inr (.inr (.inr (va_up (va_up (va_up (va_up (va_up (fun _ => none) (Int32.toNatClampNeg 0) (some q27)) (Int32.toNatClampNeg 1) (some q36)) (Int32.toNatClampNeg 2) (some q45)) (Int32.toNatClampNeg 3) (some q54)) (Int32.toNatClampNeg 4) (some q63))))))) := (hfr q1 n_q1_q72).trans hc_q1
  have hc_q14 : M73 q14 = some (.inl (kA 0, 14, .inl (fun _ => 0))) := (hfr q14 n_q14_q72).trans hc_q14
  have hc_q17 : M73 q17 = some (.inl (kA 0, 14, .inl (fun _ => 0))) := (hfr q17 n_q17_q72).trans hc_q17
  have hc_q20 : M73 q20 = some (.inl (kA 0, 14, .inl (fun _ => 0))) := (hfr q20 n_q20_q72).trans hc_q20
  have hc_q23 : M73 q23 = some (.inl (kA 0, 14, .inl (fun _ => 0))) := (hfr q23 n_q23_q72).trans hc_q23
  have hF : ∀ a, a ≠ h → a < sz → M73 a = M a := fun a h0 h1 => (hfr a (Nat.ne_of_lt (Nat.lt_of_lt_of_le h1 g_q72))).trans (hF a h0 h1)
  refine lv_dup hx hb dX1_init_83 rfl ?_
  refine goV hK hH (runIN (As := []) (rest := [.ref q72, .int 5, .ref q1]) hC hK hH (c_X6_init hc_q72) mlX1_40 ⟨⟨Nat.le_of_ble_eq_true rfl, Nat.le_of_ble_eq_true rfl⟩, Nat.le_of_ble_eq_true rfl, Nat.le_of_ble_eq_true rfl⟩ rfl hl.1 rfl (Nat.le_of_ble_eq_true rfl) dX1_init_84) (fun M74 T75 H locs hP hz hH => ?_)
  try dsimp only at hP
  obtain ⟨(-), eT, eM⟩ := hP
  have eT := eT.symm; subst eT
  have eM := eM.symm; subst eM
  obtain ⟨M77, T78, nM_q72, hfr, t_q72, hfT, hsub, hH⟩ := hH.re2 (τ := 0) hc_q72 (conf_o rfl ⟨okI (by decide) (by decide), okI (by decide) (by decide), okI (by decide) (by decide), okI (by decide) (by decide), okI (by decide) (by decide), okI (by decide) (by decide), okI (by decide) (by decide), okI (by decide) (by decide), okI (by decide) (by decide), okI (by decide) (by decide), okI (by decide) (by decide), trivial⟩)
  have hc_h : M77 h = some (.inr (0, [.int 0, .int 0, .int 0, .int 0, .int 0, .int 0, .int 0, .int 0, .int 0, .int 0, .int 0, .int 0, .ref q1, .ref q4, .ref q9, .ref q14, .ref q17, .ref q20, .ref q23])) := (hfr h n_h_q72).trans hc_h
  have hc_q1 : M77 q1 = some (.inl (kA 3, 12, .inr (.inr (.inr (.inr (va_up (va_up (va_up (va_up (va_up (fun _ => none) (Int32.toNatClampNeg 0) (some q27)) (Int32.toNatClampNeg 1) (some q36)) (Int32.toNatClampNeg 2) (some q45)) (Int32.toNatClampNeg 3) (some q54)) (Int32.toNatClampNeg 4) (some q63))))))) := (hfr q1 n_q1_q72).trans hc_q1
  have hc_q14 : M77 q14 = some (.inl (kA 0, 14, .inl (fun _ => 0))) := (hfr q14 n_q14_q72).trans hc_q14
  have hc_q17 : M77 q17 = some (.inl (kA 0, 14, .inl (fun _ => 0))) := (hfr q17 n_q17_q72).trans hc_q17
  have hc_q20 : M77 q20 = some (.inl (kA 0, 14, .inl (fun _ => 0))) := (hfr q20 n_q20_q72).trans hc_q20
  have hc_q23 : M77 q23 = some (.inl (kA 0, 14, .inl (fun _ => 0))) := (hfr q23 n_q23_q72).trans hc_q23
  have t_q4 : T78 q4 = some 1 := hsub _ _ t_q4
  have t_q9 : T78 q9 = some 1 := hsub _ _ t_q9
  have t_q27 : T78 q27 = some 0 := hsub _ _ t_q27
  have t_q36 : T78 q36 = some 0 := hsub _ _ t_q36
  have t_q45 : T78 q45 = some 0 := hsub _ _ t_q45
  have t_q54 : T78 q54 = some 0 := hsub _ _ t_q54
  have t_q63 : T78 q63 = some 0 := hsub _ _ t_q63
  have hTT : ∀ a t, T a = some t → T78 a = some t := fun a t h => hsub _ _ (hTT a t h)
  have hF : ∀ a, a ≠ h → a < sz → M77 a = M a := fun a h0 h1 => (hfr a (Nat.ne_of_lt (Nat.lt_of_lt_of_le h1 g_q72))).trans (hF a h0 h1)
  refine yqst (ck := 3) (cv := 5) (v := q72) hC hK hH rfl rfl hc_q1 (let ⟨fs, h1, _⟩ := tcell hH t_q72 rfl; ⟨fs, h1⟩) (iIn (by decide) (by decide)) dX1_init_87 (fun H locs M79 hc_q1 hfr hH => ?_)
  have hc_q1 : M79 q1 = some (.inl (kA 3, 12, .inr (.inr (.inr (.inr (va_up (va_up (va_up (va_up (va_up (va_up (fun _ => none) (Int32.toNatClampNeg 0) (some q27)) (Int32.toNatClampNeg 1) (some q36)) (Int32.toNatClampNeg 2) (some q45)) (Int32.toNatClampNeg 3) (some q54)) (Int32.toNatClampNeg 4) (some q63)) (Int32.toNatClampNeg 5) (some q72))))))) := hc_q1
  have hc_h : M79 h = some (.inr (0, [.int 0, .int 0, .int 0, .int 0, .int 0, .int 0, .int 0, .int 0, .int 0, .int 0, .int 0, .int 0, .ref q1, .ref q4, .ref q9, .ref q14, .ref q17, .ref q20, .ref q23])) := (hfr h n_h_q1).trans hc_h
  have hc_q14 : M79 q14 = some (.inl (kA 0, 14, .inl (fun _ => 0))) := (hfr q14 n_q14_q1).trans hc_q14
  have hc_q17 : M79 q17 = some (.inl (kA 0, 14, .inl (fun _ => 0))) := (hfr q17 n_q17_q1).trans hc_q17
  have hc_q20 : M79 q20 = some (.inl (kA 0, 14, .inl (fun _ => 0))) := (hfr q20 n_q20_q1).trans hc_q20
  have hc_q23 : M79 q23 = some (.inl (kA 0, 14, .inl (fun _ => 0))) := (hfr q23 n_q23_q1).trans hc_q23
  have hF : ∀ a, a ≠ h → a < sz → M79 a = M a := fun a h0 h1 => (hfr a (Nat.ne_of_lt (Nat.lt_of_lt_of_le h1 g_q1))).trans (hF a h0 h1)
  refine lv_iinc (v := 6) (lv' := [(1, .int 6), (0, .ref h)]) hx hb dX1_init_88 hl (k := 0) rfl (by decide) (by decide) rfl (fun ls hl => ?_)
  refine lv_goto (tgt := 69) hx hb dX1_init_91 (by decide) ?_
  refine lv_iload_n hx hb dX1_init_69 rfl (lv_at hl 0 rfl) ?_
  refine lv_bipush (v := 12) hx hb dX1_init_70 (by decide) ?_
  refine jic_ge (tgt := 94) hx hb dX1_init_72 (by decide) (fun c80 => absurd c80 (by decide)) (fun c80 => ?_)
  refine lv_aload_n hx hb dX1_init_75 rfl (lv_at hl 1 rfl) ?_
  refine xg hC hK hH flX1_11 hc_h rfl dX1_init_76 ?_
  refine lv_iload_n hx hb dX1_init_79 rfl (lv_at hl 0 rfl) ?_
  refine ynew hC hK hH nlX1_9 (Nat.le_of_ble_eq_true rfl) (Nat.le_of_ble_eq_true rfl) dX1_init_80 (fun q81 H M82 e_q81 hz nM_q81 nT_q81 hc_q81 hfr hN => ?_)
  have g_q81 : sz ≤ q81 := by rw [← hsz, e_q81]; exact hH.2.1.1
  have n_h_q81 : h ≠ q81 := neN hc_h nM_q81
  have n_q81_h : q81 ≠ h := Ne.symm n_h_q81
  have n_q1_q81 : q1 ≠ q81 := neN hc_q1 nM_q81
  have n_q81_q1 : q81 ≠ q1 := Ne.symm n_q1_q81
  have n_q14_q81 : q14 ≠ q81 := neN hc_q14 nM_q81
  have n_q81_q14 : q81 ≠ q14 := Ne.symm n_q14_q81
  have n_q17_q81 : q17 ≠ q81 := neN hc_q17 nM_q81
  have n_q81_q17 : q81 ≠ q17 := Ne.symm n_q17_q81
  have n_q20_q81 : q20 ≠ q81 := neN hc_q20 nM_q81
  have n_q81_q20 : q81 ≠ q20 := Ne.symm n_q20_q81
  have n_q23_q81 : q23 ≠ q81 := neN hc_q23 nM_q81
  have n_q81_q23 : q81 ≠ q23 := Ne.symm n_q23_q81
  have hH := hN
  have hc_q81 : M82 q81 = some (.inr (5, [.int 0, .int 0, .int 0, .int 0, .int 0, .int 0, .int 0, .int 0, .int 0, .int 0, .int 0])) := hc_q81
  have hc_h : M82 h = some (.inr (0, [.int 0, .int 0, .int 0, .int 0, .int 0, .int 0, .int 0, .int 0, .int 0, .int 0, .int 0, .int 0, .ref q1, .ref q4, .ref q9, .ref q14, .ref q17, .ref q20, .ref q23])) := (hfr h n_h_q81).trans hc_h
  have hc_q1 : M82 q1 = some (.inl (kA 3, 12, .inr (.inr (.inr (.inr (va_up (va_up (va_up (va_up (va_up (va_up (fun _ => none) (Int32.toNatClampNeg 0) (some q27)) (Int32.toNatClampNeg 1) (some q36)) (Int32.toNatClampNeg 2) (some q45)) (Int32.toNatClampNeg 3) (some q54)) (Int32.toNatClampNeg 4) (some q63)) (Int32.toNatClampNeg 5) (some q72))))))) := (hfr q1 n_q1_q81).trans hc_q1
  have hc_q14 : M82 q14 = some (.inl (kA 0, 14, .inl (fun _ => 0))) := (hfr q14 n_q14_q81).trans hc_q14
  have hc_q17 : M82 q17 = some (.inl (kA 0, 14, .inl (fun _ => 0))) := (hfr q17 n_q17_q81).trans hc_q17
  have hc_q20 : M82 q20 = some (.inl (kA 0, 14, .inl (fun _ => 0))) := (hfr q20 n_q20_q81).trans hc_q20
  have hc_q23 : M82 q23 = some (.inl (kA 0, 14, .inl (fun _ => 0))) := (hfr q23 n_q23_q81).trans hc_q23
  have hF : ∀ a, a ≠ h → a < sz → M82 a = M a := fun a h0 h1 => (hfr a (Nat.ne_of_lt (Nat.lt_of_lt_of_le h1 g_q81))).trans (hF a h0 h1)
  refine lv_dup hx hb dX1_init_83 rfl ?_
  refine goV hK hH (runIN (As := []) (rest := [.ref q81, .int 6, .ref q1]) hC hK hH (c_X6_init hc_q81) mlX1_40 ⟨⟨Nat.le_of_ble_eq_true rfl, Nat.le_of_ble_eq_true rfl⟩, Nat.le_of_ble_eq_true rfl, Nat.le_of_ble_eq_true rfl⟩ rfl hl.1 rfl (Nat.le_of_ble_eq_true rfl) dX1_init_84) (fun M83 T84 H locs hP hz hH => ?_)
  try dsimp only at hP
  obtain ⟨(-), eT, eM⟩ := hP
  have eT := eT.symm; subst eT
  have eM := eM.symm; subst eM
  obtain ⟨M86, T87, nM_q81, hfr, t_q81, hfT, hsub, hH⟩ := hH.re2 (τ := 0) hc_q81 (conf_o rfl ⟨okI (by decide) (by decide), okI (by decide) (by decide), okI (by decide) (by decide), okI (by decide) (by decide), okI (by decide) (by decide), okI (by decide) (by decide), okI (by decide) (by decide), okI (by decide) (by decide), okI (by decide) (by decide), okI (by decide) (by decide), okI (by decide) (by decide), trivial⟩)
  have hc_h : M86 h = some (.inr (0, [.int 0, .int 0, .int 0, .int 0, .int 0, .int 0, .int 0, .int 0, .int 0, .int 0, .int 0, .int 0, .ref q1, .ref q4, .ref q9, .ref q14, .ref q17, .ref q20, .ref q23])) := (hfr h n_h_q81).trans hc_h
  have hc_q1 : M86 q1 = some (.inl (kA 3, 12, .inr (.inr (.inr (.inr (va_up (va_up (va_up (va_up (va_up (va_up (fun _ => none) (Int32.toNatClampNeg 0) (some q27)) (Int32.toNatClampNeg 1) (some q36)) (Int32.toNatClampNeg 2) (some q45)) (Int32.toNatClampNeg 3) (some q54)) (Int32.toNatClampNeg 4) (some q63)) (Int32.toNatClampNeg 5) (some q72))))))) := (hfr q1 n_q1_q81).trans hc_q1
  have hc_q14 : M86 q14 = some (.inl (kA 0, 14, .inl (fun _ => 0))) := (hfr q14 n_q14_q81).trans hc_q14
  have hc_q17 : M86 q17 = some (.inl (kA 0, 14, .inl (fun _ => 0))) := (hfr q17 n_q17_q81).trans hc_q17
  have hc_q20 : M86 q20 = some (.inl (kA 0, 14, .inl (fun _ => 0))) := (hfr q20 n_q20_q81).trans hc_q20
  have hc_q23 : M86 q23 = some (.inl (kA 0, 14, .inl (fun _ => 0))) := (hfr q23 n_q23_q81).trans hc_q23
  have t_q4 : T87 q4 = some 1 := hsub _ _ t_q4
  have t_q9 : T87 q9 = some 1 := hsub _ _ t_q9
  have t_q27 : T87 q27 = some 0 := hsub _ _ t_q27
  have t_q36 : T87 q36 = some 0 := hsub _ _ t_q36
  have t_q45 : T87 q45 = some 0 := hsub _ _ t_q45
  have t_q54 : T87 q54 = some 0 := hsub _ _ t_q54
  have t_q63 : T87 q63 = some 0 := hsub _ _ t_q63
  have t_q72 : T87 q72 = some 0 := hsub _ _ t_q72
  have hTT : ∀ a t, T a = some t → T87 a = some t := fun a t h => hsub _ _ (hTT a t h)
  have hF : ∀ a, a ≠ h → a < sz → M86 a = M a := fun a h0 h1 => (hfr a (Nat.ne_of_lt (Nat.lt_of_lt_of_le h1 g_q81))).trans (hF a h0 h1)
  refine yqst (ck := 3) (cv := 5) (v := q81) hC hK hH rfl rfl hc_q1 (let ⟨fs, h1, _⟩ := tcell hH t_q81 rfl; ⟨fs, h1⟩) (iIn (by decide) (by decide)) dX1_init_87 (fun H locs M88 hc_q1 hfr hH => ?_)
  have hc_q1 : M88 q1 = some (.inl (kA 3, 12, .inr (.inr (.inr (.inr (va_up (va_up (va_up (va_up (va_up (va_up (va_up (fun _ => none) (Int32.toNatClampNeg 0) (some q27)) (Int32.toNatClampNeg 1) (some q36)) (Int32.toNatClampNeg 2) (some q45)) (Int32.toNatClampNeg 3) (some q54)) (Int32.toNatClampNeg 4) (some q63)) (Int32.toNatClampNeg 5) (some q72)) (Int32.toNatClampNeg 6) (some q81))))))) := hc_q1
  have hc_h : M88 h = some (.inr (0, [.int 0, .int 0, .int 0, .int 0, .int 0, .int 0, .int 0, .int 0, .int 0, .int 0, .int 0, .int 0, .ref q1, .ref q4, .ref q9, .ref q14, .ref q17, .ref q20, .ref q23])) := (hfr h n_h_q1).trans hc_h
  have hc_q14 : M88 q14 = some (.inl (kA 0, 14, .inl (fun _ => 0))) := (hfr q14 n_q14_q1).trans hc_q14
  have hc_q17 : M88 q17 = some (.inl (kA 0, 14, .inl (fun _ => 0))) := (hfr q17 n_q17_q1).trans hc_q17
  have hc_q20 : M88 q20 = some (.inl (kA 0, 14, .inl (fun _ => 0))) := (hfr q20 n_q20_q1).trans hc_q20
  have hc_q23 : M88 q23 = some (.inl (kA 0, 14, .inl (fun _ => 0))) := (hfr q23 n_q23_q1).trans hc_q23
  have hF : ∀ a, a ≠ h → a < sz → M88 a = M a := fun a h0 h1 => (hfr a (Nat.ne_of_lt (Nat.lt_of_lt_of_le h1 g_q1))).trans (hF a h0 h1)
  refine lv_iinc (v := 7) (lv' := [(1, .int 7), (0, .ref h)]) hx hb dX1_init_88 hl (k := 0) rfl (by decide) (by decide) rfl (fun ls hl => ?_)
  refine lv_goto (tgt := 69) hx hb dX1_init_91 (by decide) ?_
  refine lv_iload_n hx hb dX1_init_69 rfl (lv_at hl 0 rfl) ?_
  refine lv_bipush (v := 12) hx hb dX1_init_70 (by decide) ?_
  refine jic_ge (tgt := 94) hx hb dX1_init_72 (by decide) (fun c89 => absurd c89 (by decide)) (fun c89 => ?_)
  refine lv_aload_n hx hb dX1_init_75 rfl (lv_at hl 1 rfl) ?_
  refine xg hC hK hH flX1_11 hc_h rfl dX1_init_76 ?_
  refine lv_iload_n hx hb dX1_init_79 rfl (lv_at hl 0 rfl) ?_
  refine ynew hC hK hH nlX1_9 (Nat.le_of_ble_eq_true rfl) (Nat.le_of_ble_eq_true rfl) dX1_init_80 (fun q90 H M91 e_q90 hz nM_q90 nT_q90 hc_q90 hfr hN => ?_)
  have g_q90 : sz ≤ q90 := by rw [← hsz, e_q90]; exact hH.2.1.1
  have n_h_q90 : h ≠ q90 := neN hc_h nM_q90
  have n_q90_h : q90 ≠ h := Ne.symm n_h_q90
  have n_q1_q90 : q1 ≠ q90 := neN hc_q1 nM_q90
  have n_q90_q1 : q90 ≠ q1 := Ne.symm n_q1_q90
  have n_q14_q90 : q14 ≠ q90 := neN hc_q14 nM_q90
  have n_q90_q14 : q90 ≠ q14 := Ne.symm n_q14_q90
  have n_q17_q90 : q17 ≠ q90 := neN hc_q17 nM_q90
  have n_q90_q17 : q90 ≠ q17 := Ne.symm n_q17_q90
  have n_q20_q90 : q20 ≠ q90 := neN hc_q20 nM_q90
  have n_q90_q20 : q90 ≠ q20 := Ne.symm n_q20_q90
  have n_q23_q90 : q23 ≠ q90 := neN hc_q23 nM_q90
  have n_q90_q23 : q90 ≠ q23 := Ne.symm n_q23_q90
  have hH := hN
  have hc_q90 : M91 q90 = some (.inr (5, [.int 0, .int 0, .int 0, .int 0, .int 0, .int 0, .int 0, .int 0, .int 0, .int 0, .int 0])) := hc_q90
  have hc_h : M91 h = some (.inr (0, [.int 0, .int 0, .int 0, .int 0, .int 0, .int 0, .int 0, .int 0, .int 0, .int 0, .int 0, .int 0, .ref q1, .ref q4, .ref q9, .ref q14, .ref q17, .ref q20, .ref q23])) := (hfr h n_h_q90).trans hc_h
  have hc_q1 : M91 q1 = some (.inl (kA 3, 12, .inr (.inr (.inr (.inr (va_up (va_up (va_up (va_up (va_up (va_up (va_up (fun _ => none) (Int32.toNatClampNeg 0) (some q27)) (Int32.toNatClampNeg 1) (some q36)) (Int32.toNatClampNeg 2) (some q45)) (Int32.toNatClampNeg 3) (some q54)) (Int32.toNatClampNeg 4) (some q63)) (Int32.toNatClampNeg 5) (some q72)) (Int32.toNatClampNeg 6) (some q81))))))) := (hfr q1 n_q1_q90).trans hc_q1
  have hc_q14 : M91 q14 = some (.inl (kA 0, 14, .inl (fun _ => 0))) := (hfr q14 n_q14_q90).trans hc_q14
  have hc_q17 : M91 q17 = some (.inl (kA 0, 14, .inl (fun _ => 0))) := (hfr q17 n_q17_q90).trans hc_q17
  have hc_q20 : M91 q20 = some (.inl (kA 0, 14, .inl (fun _ => 0))) := (hfr q20 n_q20_q90).trans hc_q20
  have hc_q23 : M91 q23 = some (.inl (kA 0, 14, .inl (fun _ => 0))) := (hfr q23 n_q23_q90).trans hc_q23
  have hF : ∀ a, a ≠ h → a < sz → M91 a = M a := fun a h0 h1 => (hfr a (Nat.ne_of_lt (Nat.lt_of_lt_of_le h1 g_q90))).trans (hF a h0 h1)
  refine lv_dup hx hb dX1_init_83 rfl ?_
  refine goV hK hH (runIN (As := []) (rest := [.ref q90, .int 7, .ref q1]) hC hK hH (c_X6_init hc_q90) mlX1_40 ⟨⟨Nat.le_of_ble_eq_true rfl, Nat.le_of_ble_eq_true rfl⟩, Nat.le_of_ble_eq_true rfl, Nat.le_of_ble_eq_true rfl⟩ rfl hl.1 rfl (Nat.le_of_ble_eq_true rfl) dX1_init_84) (fun M92 T93 H locs hP hz hH => ?_)
  try dsimp only at hP
  obtain ⟨(-), eT, eM⟩ := hP
  have eT := eT.symm; subst eT
  have eM := eM.symm; subst eM
  obtain ⟨M95, T96, nM_q90, hfr, t_q90, hfT, hsub, hH⟩ := hH.re2 (τ := 0) hc_q90 (conf_o rfl ⟨okI (by decide) (by decide), okI (by decide) (by decide), okI (by decide) (by decide), okI (by decide) (by decide), okI (by decide) (by decide), okI (by decide) (by decide), okI (by decide) (by decide), okI (by decide) (by decide), okI (by decide) (by decide), okI (by decide) (by decide), okI (by decide) (by decide), trivial⟩)
  have hc_h : M95 h = some (.inr (0, [.int 0, .int 0, .int 0, .int 0, .int 0, .int 0, .int 0, .int 0, .int 0, .int 0, .int 0, .int 0, .ref q1, .ref q4, .ref q9, .ref q14, .ref q17, .ref q20, .ref q23])) := (hfr h n_h_q90).trans hc_h
  have hc_q1 : M95 q1 = some (.inl (kA 3, 12, .inr (.inr (.inr (.inr (va_up (va_up (va_up (va_up (va_up (va_up (va_up (fun _ => none) (Int32.toNatClampNeg 0) (some q27)) (Int32.toNatClampNeg 1) (some q36)) (Int32.toNatClampNeg 2) (some q45)) (Int32.toNatClampNeg 3) (some q54)) (Int32.toNatClampNeg 4) (some q63)) (Int32.toNatClampNeg 5) (some q72)) (Int32.toNatClampNeg 6) (some q81))))))) := (hfr q1 n_q1_q90).trans hc_q1
  have hc_q14 : M95 q14 = some (.inl (kA 0, 14, .inl (fun _ => 0))) := (hfr q14 n_q14_q90).trans hc_q14
  have hc_q17 : M95 q17 = some (.inl (kA 0, 14, .inl (fun _ => 0))) := (hfr q17 n_q17_q90).trans hc_q17
  have hc_q20 : M95 q20 = some (.inl (kA 0, 14, .inl (fun _ => 0))) := (hfr q20 n_q20_q90).trans hc_q20
  have hc_q23 : M95 q23 = some (.inl (kA 0, 14, .inl (fun _ => 0))) := (hfr q23 n_q23_q90).trans hc_q23
  have t_q4 : T96 q4 = some 1 := hsub _ _ t_q4
  have t_q9 : T96 q9 = some 1 := hsub _ _ t_q9
  have t_q27 : T96 q27 = some 0 := hsub _ _ t_q27
  have t_q36 : T96 q36 = some 0 := hsub _ _ t_q36
  have t_q45 : T96 q45 = some 0 := hsub _ _ t_q45
  have t_q54 : T96 q54 = some 0 := hsub _ _ t_q54
  have t_q63 : T96 q63 = some 0 := hsub _ _ t_q63
  have t_q72 : T96 q72 = some 0 := hsub _ _ t_q72
  have t_q81 : T96 q81 = some 0 := hsub _ _ t_q81
  have hTT : ∀ a t, T a = some t → T96 a = some t := fun a t h => hsub _ _ (hTT a t h)
  have hF : ∀ a, a ≠ h → a < sz → M95 a = M a := fun a h0 h1 => (hfr a (Nat.ne_of_lt (Nat.lt_of_lt_of_le h1 g_q90))).trans (hF a h0 h1)
  refine yqst (ck := 3) (cv := 5) (v := q90) hC hK hH rfl rfl hc_q1 (let ⟨fs, h1, _⟩ := tcell hH t_q90 rfl; ⟨fs, h1⟩) (iIn (by decide) (by decide)) dX1_init_87 (fun H locs M97 hc_q1 hfr hH => ?_)
  have hc_q1 : M97 q1 = some (.inl (kA 3, 12, .inr (.inr (.inr (.inr (va_up (va_up (va_up (va_up (va_up (va_up (va_up (va_up (fun _ => none) (Int32.toNatClampNeg 0) (some q27)) (Int32.toNatClampNeg 1) (some q36)) (Int32.toNatClampNeg 2) (some q45)) (Int32.toNatClampNeg 3) (some q54)) (Int32.toNatClampNeg 4) (some q63)) (Int32.toNatClampNeg 5) (some q72)) (Int32.toNatClampNeg 6) (some q81)) (Int32.toNatClampNeg 7) (some q90))))))) := hc_q1
  have hc_h : M97 h = some (.inr (0, [.int 0, .int 0, .int 0, .int 0, .int 0, .int 0, .int 0, .int 0, .int 0, .int 0, .int 0, .int 0, .ref q1, .ref q4, .ref q9, .ref q14, .ref q17, .ref q20, .ref q23])) := (hfr h n_h_q1).trans hc_h
  have hc_q14 : M97 q14 = some (.inl (kA 0, 14, .inl (fun _ => 0))) := (hfr q14 n_q14_q1).trans hc_q14
  have hc_q17 : M97 q17 = some (.inl (kA 0, 14, .inl (fun _ => 0))) := (hfr q17 n_q17_q1).trans hc_q17
  have hc_q20 : M97 q20 = some (.inl (kA 0, 14, .inl (fun _ => 0))) := (hfr q20 n_q20_q1).trans hc_q20
  have hc_q23 : M97 q23 = some (.inl (kA 0, 14, .inl (fun _ => 0))) := (hfr q23 n_q23_q1).trans hc_q23
  have hF : ∀ a, a ≠ h → a < sz → M97 a = M a := fun a h0 h1 => (hfr a (Nat.ne_of_lt (Nat.lt_of_lt_of_le h1 g_q1))).trans (hF a h0 h1)
  refine lv_iinc (v := 8) (lv' := [(1, .int 8), (0, .ref h)]) hx hb dX1_init_88 hl (k := 0) rfl (by decide) (by decide) rfl (fun ls hl => ?_)
  refine lv_goto (tgt := 69) hx hb dX1_init_91 (by decide) ?_
  refine lv_iload_n hx hb dX1_init_69 rfl (lv_at hl 0 rfl) ?_
  refine lv_bipush (v := 12) hx hb dX1_init_70 (by decide) ?_
  refine jic_ge (tgt := 94) hx hb dX1_init_72 (by decide) (fun c98 => absurd c98 (by decide)) (fun c98 => ?_)
  refine lv_aload_n hx hb dX1_init_75 rfl (lv_at hl 1 rfl) ?_
  refine xg hC hK hH flX1_11 hc_h rfl dX1_init_76 ?_
  refine lv_iload_n hx hb dX1_init_79 rfl (lv_at hl 0 rfl) ?_
  refine ynew hC hK hH nlX1_9 (Nat.le_of_ble_eq_true rfl) (Nat.le_of_ble_eq_true rfl) dX1_init_80 (fun q99 H M100 e_q99 hz nM_q99 nT_q99 hc_q99 hfr hN => ?_)
  have g_q99 : sz ≤ q99 := by rw [← hsz, e_q99]; exact hH.2.1.1
  have n_h_q99 : h ≠ q99 := neN hc_h nM_q99
  have n_q99_h : q99 ≠ h := Ne.symm n_h_q99
  have n_q1_q99 : q1 ≠ q99 := neN hc_q1 nM_q99
  have n_q99_q1 : q99 ≠ q1 := Ne.symm n_q1_q99
  have n_q14_q99 : q14 ≠ q99 := neN hc_q14 nM_q99
  have n_q99_q14 : q99 ≠ q14 := Ne.symm n_q14_q99
  have n_q17_q99 : q17 ≠ q99 := neN hc_q17 nM_q99
  have n_q99_q17 : q99 ≠ q17 := Ne.symm n_q17_q99
  have n_q20_q99 : q20 ≠ q99 := neN hc_q20 nM_q99
  have n_q99_q20 : q99 ≠ q20 := Ne.symm n_q20_q99
  have n_q23_q99 : q23 ≠ q99 := neN hc_q23 nM_q99
  have n_q99_q23 : q99 ≠ q23 := Ne.symm n_q23_q99
  have hH := hN
  have hc_q99 : M100 q99 = some (.inr (5, [.int 0, .int 0, .int 0, .int 0, .int 0, .int 0, .int 0, .int 0, .int 0, .int 0, .int 0])) := hc_q99
  have hc_h : M100 h = some (.inr (0, [.int 0, .int 0, .int 0, .int 0, .int 0, .int 0, .int 0, .int 0, .int 0, .int 0, .int 0, .int 0, .ref q1, .ref q4, .ref q9, .ref q14, .ref q17, .ref q20, .ref q23])) := (hfr h n_h_q99).trans hc_h
  have hc_q1 : M100 q1 = some (.inl (kA 3, 12, .inr (.inr (.inr (.inr (va_up (va_up (va_up (va_up (va_up (va_up (va_up (va_up (fun _ => none) (Int32.toNatClampNeg 0) (some q27)) (Int32.toNatClampNeg 1) (some q36)) (Int32.toNatClampNeg 2) (some q45)) (Int32.toNatClampNeg 3) (some q54)) (Int32.toNatClampNeg 4) (some q63)) (Int32.toNatClampNeg 5) (some q72)) (Int32.toNatClampNeg 6) (some q81)) (Int32.toNatClampNeg 7) (some q90))))))) := (hfr q1 n_q1_q99).trans hc_q1
  have hc_q14 : M100 q14 = some (.inl (kA 0, 14, .inl (fun _ => 0))) := (hfr q14 n_q14_q99).trans hc_q14
  have hc_q17 : M100 q17 = some (.inl (kA 0, 14, .inl (fun _ => 0))) := (hfr q17 n_q17_q99).trans hc_q17
  have hc_q20 : M100 q20 = some (.inl (kA 0, 14, .inl (fun _ => 0))) := (hfr q20 n_q20_q99).trans hc_q20
  have hc_q23 : M100 q23 = some (.inl (kA 0, 14, .inl (fun _ => 0))) := (hfr q23 n_q23_q99).trans hc_q23
  have hF : ∀ a, a ≠ h → a < sz → M100 a = M a := fun a h0 h1 => (hfr a (Nat.ne_of_lt (Nat.lt_of_lt_of_le h1 g_q99))).trans (hF a h0 h1)
  refine lv_dup hx hb dX1_init_83 rfl ?_
  refine goV hK hH (runIN (As := []) (rest := [.ref q99, .int 8, .ref q1]) hC hK hH (c_X6_init hc_q99) mlX1_40 ⟨⟨Nat.le_of_ble_eq_true rfl, Nat.le_of_ble_eq_true rfl⟩, Nat.le_of_ble_eq_true rfl, Nat.le_of_ble_eq_true rfl⟩ rfl hl.1 rfl (Nat.le_of_ble_eq_true rfl) dX1_init_84) (fun M101 T102 H locs hP hz hH => ?_)
  try dsimp only at hP
  obtain ⟨(-), eT, eM⟩ := hP
  have eT := eT.symm; subst eT
  have eM := eM.symm; subst eM
  obtain ⟨M104, T105, nM_q99, hfr, t_q99, hfT, hsub, hH⟩ := hH.re2 (τ := 0) hc_q99 (conf_o rfl ⟨okI (by decide) (by decide), okI (by decide) (by decide), okI (by decide) (by decide), okI (by decide) (by decide), okI (by decide) (by decide), okI (by decide) (by decide), okI (by decide) (by decide), okI (by decide) (by decide), okI (by decide) (by decide), okI (by decide) (by decide), okI (by decide) (by decide), trivial⟩)
  have hc_h : M104 h = some (.inr (0, [.int 0, .int 0, .int 0, .int 0, .int 0, .int 0, .int 0, .int 0, .int 0, .int 0, .int 0, .int 0, .ref q1, .ref q4, .ref q9, .ref q14, .ref q17, .ref q20, .ref q23])) := (hfr h n_h_q99).trans hc_h
  have hc_q1 : M104 q1 = some (.inl (kA 3, 12, .inr (.inr (.inr (.inr (va_up (va_up (va_up (va_up (va_up (va_up (va_up (va_up (fun _ => none) (Int32.toNatClampNeg 0) (some q27)) (Int32.toNatClampNeg 1) (some q36)) (Int32.toNatClampNeg 2) (some q45)) (Int32.toNatClampNeg 3) (some q54)) (Int32.toNatClampNeg 4) (some q63)) (Int32.toNatClampNeg 5) (some q72)) (Int32.toNatClampNeg 6) (some q81)) (Int32.toNatClampNeg 7) (some q90))))))) := (hfr q1 n_q1_q99).trans hc_q1
  have hc_q14 : M104 q14 = some (.inl (kA 0, 14, .inl (fun _ => 0))) := (hfr q14 n_q14_q99).trans hc_q14
  have hc_q17 : M104 q17 = some (.inl (kA 0, 14, .inl (fun _ => 0))) := (hfr q17 n_q17_q99).trans hc_q17
  have hc_q20 : M104 q20 = some (.inl (kA 0, 14, .inl (fun _ => 0))) := (hfr q20 n_q20_q99).trans hc_q20
  have hc_q23 : M104 q23 = some (.inl (kA 0, 14, .inl (fun _ => 0))) := (hfr q23 n_q23_q99).trans hc_q23
  have t_q4 : T105 q4 = some 1 := hsub _ _ t_q4
  have t_q9 : T105 q9 = some 1 := hsub _ _ t_q9
  have t_q27 : T105 q27 = some 0 := hsub _ _ t_q27
  have t_q36 : T105 q36 = some 0 := hsub _ _ t_q36
  have t_q45 : T105 q45 = some 0 := hsub _ _ t_q45
  have t_q54 : T105 q54 = some 0 := hsub _ _ t_q54
  have t_q63 : T105 q63 = some 0 := hsub _ _ t_q63
  have t_q72 : T105 q72 = some 0 := hsub _ _ t_q72
  have t_q81 : T105 q81 = some 0 := hsub _ _ t_q81
  have t_q90 : T105 q90 = some 0 := hsub _ _ t_q90
  have hTT : ∀ a t, T a = some t → T105 a = some t := fun a t h => hsub _ _ (hTT a t h)
  have hF : ∀ a, a ≠ h → a < sz → M104 a = M a := fun a h0 h1 => (hfr a (Nat.ne_of_lt (Nat.lt_of_lt_of_le h1 g_q99))).trans (hF a h0 h1)
  refine yqst (ck := 3) (cv := 5) (v := q99) hC hK hH rfl rfl hc_q1 (let ⟨fs, h1, _⟩ := tcell hH t_q99 rfl; ⟨fs, h1⟩) (iIn (by decide) (by decide)) dX1_init_87 (fun H locs M106 hc_q1 hfr hH => ?_)
  have hc_q1 : M106 q1 = some (.inl (kA 3, 12, .inr (.inr (.inr (.inr (va_up (va_up (va_up (va_up (va_up (va_up (va_up (va_up (va_up (fun _ => none) (Int32.toNatClampNeg 0) (some q27)) (Int32.toNatClampNeg 1) (some q36)) (Int32.toNatClampNeg 2) (some q45)) (Int32.toNatClampNeg 3) (some q54)) (Int32.toNatClampNeg 4) (some q63)) (Int32.toNatClampNeg 5) (some q72)) (Int32.toNatClampNeg 6) (some q81)) (Int32.toNatClampNeg 7) (some q90)) (Int32.toNatClampNeg 8) (some q99))))))) := hc_q1
  have hc_h : M106 h = some (.inr (0, [.int 0, .int 0, .int 0, .int 0, .int 0, .int 0, .int 0, .int 0, .int 0, .int 0, .int 0, .int 0, .ref q1, .ref q4, .ref q9, .ref q14, .ref q17, .ref q20, .ref q23])) := (hfr h n_h_q1).trans hc_h
  have hc_q14 : M106 q14 = some (.inl (kA 0, 14, .inl (fun _ => 0))) := (hfr q14 n_q14_q1).trans hc_q14
  have hc_q17 : M106 q17 = some (.inl (kA 0, 14, .inl (fun _ => 0))) := (hfr q17 n_q17_q1).trans hc_q17
  have hc_q20 : M106 q20 = some (.inl (kA 0, 14, .inl (fun _ => 0))) := (hfr q20 n_q20_q1).trans hc_q20
  have hc_q23 : M106 q23 = some (.inl (kA 0, 14, .inl (fun _ => 0))) := (hfr q23 n_q23_q1).trans hc_q23
  have hF : ∀ a, a ≠ h → a < sz → M106 a = M a := fun a h0 h1 => (hfr a (Nat.ne_of_lt (Nat.lt_of_lt_of_le h1 g_q1))).trans (hF a h0 h1)
  refine lv_iinc (v := 9) (lv' := [(1, .int 9), (0, .ref h)]) hx hb dX1_init_88 hl (k := 0) rfl (by decide) (by decide) rfl (fun ls hl => ?_)
  refine lv_goto (tgt := 69) hx hb dX1_init_91 (by decide) ?_
  refine lv_iload_n hx hb dX1_init_69 rfl (lv_at hl 0 rfl) ?_
  refine lv_bipush (v := 12) hx hb dX1_init_70 (by decide) ?_
  refine jic_ge (tgt := 94) hx hb dX1_init_72 (by decide) (fun c107 => absurd c107 (by decide)) (fun c107 => ?_)
  refine lv_aload_n hx hb dX1_init_75 rfl (lv_at hl 1 rfl) ?_
  refine xg hC hK hH flX1_11 hc_h rfl dX1_init_76 ?_
  refine lv_iload_n hx hb dX1_init_79 rfl (lv_at hl 0 rfl) ?_
  refine ynew hC hK hH nlX1_9 (Nat.le_of_ble_eq_true rfl) (Nat.le_of_ble_eq_true rfl) dX1_init_80 (fun q108 H M109 e_q108 hz nM_q108 nT_q108 hc_q108 hfr hN => ?_)
  have g_q108 : sz ≤ q108 := by rw [← hsz, e_q108]; exact hH.2.1.1
  have n_h_q108 : h ≠ q108 := neN hc_h nM_q108
  have n_q108_h : q108 ≠ h := Ne.symm n_h_q108
  have n_q1_q108 : q1 ≠ q108 := neN hc_q1 nM_q108
  have n_q108_q1 : q108 ≠ q1 := Ne.symm n_q1_q108
  have n_q14_q108 : q14 ≠ q108 := neN hc_q14 nM_q108
  have n_q108_q14 : q108 ≠ q14 := Ne.symm n_q14_q108
  have n_q17_q108 : q17 ≠ q108 := neN hc_q17 nM_q108
  have n_q108_q17 : q108 ≠ q17 := Ne.symm n_q17_q108
  have n_q20_q108 : q20 ≠ q108 := neN hc_q20 nM_q108
  have n_q108_q20 : q108 ≠ q20 := Ne.symm n_q20_q108
  have n_q23_q108 : q23 ≠ q108 := neN hc_q23 nM_q108
  have n_q108_q23 : q108 ≠ q23 := Ne.symm n_q23_q108
  have hH := hN
  have hc_q108 : M109 q108 = some (.inr (5, [.int 0, .int 0, .int 0, .int 0, .int 0, .int 0, .int 0, .int 0, .int 0, .int 0, .int 0])) := hc_q108
  have hc_h : M109 h = some (.inr (0, [.int 0, .int 0, .int 0, .int 0, .int 0, .int 0, .int 0, .int 0, .int 0, .int 0, .int 0, .int 0, .ref q1, .ref q4, .ref q9, .ref q14, .ref q17, .ref q20, .ref q23])) := (hfr h n_h_q108).trans hc_h
  have hc_q1 : M109 q1 = some (.inl (kA 3, 12, .inr (.inr (.inr (.inr (va_up (va_up (va_up (va_up (va_up (va_up (va_up (va_up (va_up (fun _ => none) (Int32.toNatClampNeg 0) (some q27)) (Int32.toNatClampNeg 1) (some q36)) (Int32.toNatClampNeg 2) (some q45)) (Int32.toNatClampNeg 3) (some q54)) (Int32.toNatClampNeg 4) (some q63)) (Int32.toNatClampNeg 5) (some q72)) (Int32.toNatClampNeg 6) (some q81)) (Int32.toNatClampNeg 7) (some q90)) (Int32.toNatClampNeg 8) (some q99))))))) := (hfr q1 n_q1_q108).trans hc_q1
  have hc_q14 : M109 q14 = some (.inl (kA 0, 14, .inl (fun _ => 0))) := (hfr q14 n_q14_q108).trans hc_q14
  have hc_q17 : M109 q17 = some (.inl (kA 0, 14, .inl (fun _ => 0))) := (hfr q17 n_q17_q108).trans hc_q17
  have hc_q20 : M109 q20 = some (.inl (kA 0, 14, .inl (fun _ => 0))) := (hfr q20 n_q20_q108).trans hc_q20
  have hc_q23 : M109 q23 = some (.inl (kA 0, 14, .inl (fun _ => 0))) := (hfr q23 n_q23_q108).trans hc_q23
  have hF : ∀ a, a ≠ h → a < sz → M109 a = M a := fun a h0 h1 => (hfr a (Nat.ne_of_lt (Nat.lt_of_lt_of_le h1 g_q108))).trans (hF a h0 h1)
  refine lv_dup hx hb dX1_init_83 rfl ?_
  refine goV hK hH (runIN (As := []) (rest := [.ref q108, .int 9, .ref q1]) hC hK hH (c_X6_init hc_q108) mlX1_40 ⟨⟨Nat.le_of_ble_eq_true rfl, Nat.le_of_ble_eq_true rfl⟩, Nat.le_of_ble_eq_true rfl, Nat.le_of_ble_eq_true rfl⟩ rfl hl.1 rfl (Nat.le_of_ble_eq_true rfl) dX1_init_84) (fun M110 T111 H locs hP hz hH => ?_)
  try dsimp only at hP
  obtain ⟨(-), eT, eM⟩ := hP
  have eT := eT.symm; subst eT
  have eM := eM.symm; subst eM
  obtain ⟨M113, T114, nM_q108, hfr, t_q108, hfT, hsub, hH⟩ := hH.re2 (τ := 0) hc_q108 (conf_o rfl ⟨okI (by decide) (by decide), okI (by decide) (by decide), okI (by decide) (by decide), okI (by decide) (by decide), okI (by decide) (by decide), okI (by decide) (by decide), okI (by decide) (by decide), okI (by decide) (by decide), okI (by decide) (by decide), okI (by decide) (by decide), okI (by decide) (by decide), trivial⟩)
  have hc_h : M113 h = some (.inr (0, [.int 0, .int 0, .int 0, .int 0, .int 0, .int 0, .int 0, .int 0, .int 0, .int 0, .int 0, .int 0, .ref q1, .ref q4, .ref q9, .ref q14, .ref q17, .ref q20, .ref q23])) := (hfr h n_h_q108).trans hc_h
  have hc_q1 : M113 q1 = some (.inl (kA 3, 12, .inr (.inr (.inr (.inr (va_up (va_up (va_up (va_up (va_up (va_up (va_up (va_up (va_up (fun _ => none) (Int32.toNatClampNeg 0) (some q27)) (Int32.toNatClampNeg 1) (some q36)) (Int32.toNatClampNeg 2) (some q45)) (Int32.toNatClampNeg 3) (some q54)) (Int32.toNatClampNeg 4) (some q63)) (Int32.toNatClampNeg 5) (some q72)) (Int32.toNatClampNeg 6) (some q81)) (Int32.toNatClampNeg 7) (some q90)) (Int32.toNatClampNeg 8) (some q99))))))) := (hfr q1 n_q1_q108).trans hc_q1
  have hc_q14 : M113 q14 = some (.inl (kA 0, 14, .inl (fun _ => 0))) := (hfr q14 n_q14_q108).trans hc_q14
  have hc_q17 : M113 q17 = some (.inl (kA 0, 14, .inl (fun _ => 0))) := (hfr q17 n_q17_q108).trans hc_q17
  have hc_q20 : M113 q20 = some (.inl (kA 0, 14, .inl (fun _ => 0))) := (hfr q20 n_q20_q108).trans hc_q20
  have hc_q23 : M113 q23 = some (.inl (kA 0, 14, .inl (fun _ => 0))) := (hfr q23 n_q23_q108).trans hc_q23
  have t_q4 : T114 q4 = some 1 := hsub _ _ t_q4
  have t_q9 : T114 q9 = some 1 := hsub _ _ t_q9
  have t_q27 : T114 q27 = some 0 := hsub _ _ t_q27
  have t_q36 : T114 q36 = some 0 := hsub _ _ t_q36
  have t_q45 : T114 q45 = some 0 := hsub _ _ t_q45
  have t_q54 : T114 q54 = some 0 := hsub _ _ t_q54
  have t_q63 : T114 q63 = some 0 := hsub _ _ t_q63
  have t_q72 : T114 q72 = some 0 := hsub _ _ t_q72
  have t_q81 : T114 q81 = some 0 := hsub _ _ t_q81
  have t_q90 : T114 q90 = some 0 := hsub _ _ t_q90
  have t_q99 : T114 q99 = some 0 := hsub _ _ t_q99
  have hTT : ∀ a t, T a = some t → T114 a = some t := fun a t h => hsub _ _ (hTT a t h)
  have hF : ∀ a, a ≠ h → a < sz → M113 a = M a := fun a h0 h1 => (hfr a (Nat.ne_of_lt (Nat.lt_of_lt_of_le h1 g_q108))).trans (hF a h0 h1)
  refine yqst (ck := 3) (cv := 5) (v := q108) hC hK hH rfl rfl hc_q1 (let ⟨fs, h1, _⟩ := tcell hH t_q108 rfl; ⟨fs, h1⟩) (iIn (by decide) (by decide)) dX1_init_87 (fun H locs M115 hc_q1 hfr hH => ?_)
  have hc_q1 : M115 q1 = some (.inl (kA 3, 12, .inr (.inr (.inr (.inr (va_up (va_up (va_up (va_up (va_up (va_up (va_up (va_up (va_up (va_up (fun _ => none) (Int32.toNatClampNeg 0) (some q27)) (Int32.toNatClampNeg 1) (some q36)) (Int32.toNatClampNeg 2) (some q45)) (Int32.toNatClampNeg 3) (some q54)) (Int32.toNatClampNeg 4) (some q63)) (Int32.toNatClampNeg 5) (some q72)) (Int32.toNatClampNeg 6) (some q81)) (Int32.toNatClampNeg 7) (some q90)) (Int32.toNatClampNeg 8) (some q99)) (Int32.toNatClampNeg 9) (some q108))))))) := hc_q1
  have hc_h : M115 h = some (.inr (0, [.int 0, .int 0, .int 0, .int 0, .int 0, .int 0, .int 0, .int 0, .int 0, .int 0, .int 0, .int 0, .ref q1, .ref q4, .ref q9, .ref q14, .ref q17, .ref q20, .ref q23])) := (hfr h n_h_q1).trans hc_h
  have hc_q14 : M115 q14 = some (.inl (kA 0, 14, .inl (fun _ => 0))) := (hfr q14 n_q14_q1).trans hc_q14
  have hc_q17 : M115 q17 = some (.inl (kA 0, 14, .inl (fun _ => 0))) := (hfr q17 n_q17_q1).trans hc_q17
  have hc_q20 : M115 q20 = some (.inl (kA 0, 14, .inl (fun _ => 0))) := (hfr q20 n_q20_q1).trans hc_q20
  have hc_q23 : M115 q23 = some (.inl (kA 0, 14, .inl (fun _ => 0))) := (hfr q23 n_q23_q1).trans hc_q23
  have hF : ∀ a, a ≠ h → a < sz → M115 a = M a := fun a h0 h1 => (hfr a (Nat.ne_of_lt (Nat.lt_of_lt_of_le h1 g_q1))).trans (hF a h0 h1)
  refine lv_iinc (v := 10) (lv' := [(1, .int 10), (0, .ref h)]) hx hb dX1_init_88 hl (k := 0) rfl (by decide) (by decide) rfl (fun ls hl => ?_)
  refine lv_goto (tgt := 69) hx hb dX1_init_91 (by decide) ?_
  refine lv_iload_n hx hb dX1_init_69 rfl (lv_at hl 0 rfl) ?_
  refine lv_bipush (v := 12) hx hb dX1_init_70 (by decide) ?_
  refine jic_ge (tgt := 94) hx hb dX1_init_72 (by decide) (fun c116 => absurd c116 (by decide)) (fun c116 => ?_)
  refine lv_aload_n hx hb dX1_init_75 rfl (lv_at hl 1 rfl) ?_
  refine xg hC hK hH flX1_11 hc_h rfl dX1_init_76 ?_
  refine lv_iload_n hx hb dX1_init_79 rfl (lv_at hl 0 rfl) ?_
  refine ynew hC hK hH nlX1_9 (Nat.le_of_ble_eq_true rfl) (Nat.le_of_ble_eq_true rfl) dX1_init_80 (fun q117 H M118 e_q117 hz nM_q117 nT_q117 hc_q117 hfr hN => ?_)
  have g_q117 : sz ≤ q117 := by rw [← hsz, e_q117]; exact hH.2.1.1
  have n_h_q117 : h ≠ q117 := neN hc_h nM_q117
  have n_q117_h : q117 ≠ h := Ne.symm n_h_q117
  have n_q1_q117 : q1 ≠ q117 := neN hc_q1 nM_q117
  have n_q117_q1 : q117 ≠ q1 := Ne.symm n_q1_q117
  have n_q14_q117 : q14 ≠ q117 := neN hc_q14 nM_q117
  have n_q117_q14 : q117 ≠ q14 := Ne.symm n_q14_q117
  have n_q17_q117 : q17 ≠ q117 := neN hc_q17 nM_q117
  have n_q117_q17 : q117 ≠ q17 := Ne.symm n_q17_q117
  have n_q20_q117 : q20 ≠ q117 := neN hc_q20 nM_q117
  have n_q117_q20 : q117 ≠ q20 := Ne.symm n_q20_q117
  have n_q23_q117 : q23 ≠ q117 := neN hc_q23 nM_q117
  have n_q117_q23 : q117 ≠ q23 := Ne.symm n_q23_q117
  have hH := hN
  have hc_q117 : M118 q117 = some (.inr (5, [.int 0, .int 0, .int 0, .int 0, .int 0, .int 0, .int 0, .int 0, .int 0, .int 0, .int 0])) := hc_q117
  have hc_h : M118 h = some (.inr (0, [.int 0, .int 0, .int 0, .int 0, .int 0, .int 0, .int 0, .int 0, .int 0, .int 0, .int 0, .int 0, .ref q1, .ref q4, .ref q9, .ref q14, .ref q17, .ref q20, .ref q23])) := (hfr h n_h_q117).trans hc_h
  have hc_q1 : M118 q1 = some (.inl (kA 3, 12, .inr (.inr (.inr (.inr (va_up (va_up (va_up (va_up (va_up (va_up (va_up (va_up (va_up (va_up (fun _ => none) (Int32.toNatClampNeg 0) (some q27)) (Int32.toNatClampNeg 1) (some q36)) (Int32.toNatClampNeg 2) (some q45)) (Int32.toNatClampNeg 3) (some q54)) (Int32.toNatClampNeg 4) (some q63)) (Int32.toNatClampNeg 5) (some q72)) (Int32.toNatClampNeg 6) (some q81)) (Int32.toNatClampNeg 7) (some q90)) (Int32.toNatClampNeg 8) (some q99)) (Int32.toNatClampNeg 9) (some q108))))))) := (hfr q1 n_q1_q117).trans hc_q1
  have hc_q14 : M118 q14 = some (.inl (kA 0, 14, .inl (fun _ => 0))) := (hfr q14 n_q14_q117).trans hc_q14
  have hc_q17 : M118 q17 = some (.inl (kA 0, 14, .inl (fun _ => 0))) := (hfr q17 n_q17_q117).trans hc_q17
  have hc_q20 : M118 q20 = some (.inl (kA 0, 14, .inl (fun _ => 0))) := (hfr q20 n_q20_q117).trans hc_q20
  have hc_q23 : M118 q23 = some (.inl (kA 0, 14, .inl (fun _ => 0))) := (hfr q23 n_q23_q117).trans hc_q23
  have hF : ∀ a, a ≠ h → a < sz → M118 a = M a := fun a h0 h1 => (hfr a (Nat.ne_of_lt (Nat.lt_of_lt_of_le h1 g_q117))).trans (hF a h0 h1)
  refine lv_dup hx hb dX1_init_83 rfl ?_
  refine goV hK hH (runIN (As := []) (rest := [.ref q117, .int 10, .ref q1]) hC hK hH (c_X6_init hc_q117) mlX1_40 ⟨⟨Nat.le_of_ble_eq_true rfl, Nat.le_of_ble_eq_true rfl⟩, Nat.le_of_ble_eq_true rfl, Nat.le_of_ble_eq_true rfl⟩ rfl hl.1 rfl (Nat.le_of_ble_eq_true rfl) dX1_init_84) (fun M119 T120 H locs hP hz hH => ?_)
  try dsimp only at hP
  obtain ⟨(-), eT, eM⟩ := hP
  have eT := eT.symm; subst eT
  have eM := eM.symm; subst eM
  obtain ⟨M122, T123, nM_q117, hfr, t_q117, hfT, hsub, hH⟩ := hH.re2 (τ := 0) hc_q117 (conf_o rfl ⟨okI (by decide) (by decide), okI (by decide) (by decide), okI (by decide) (by decide), okI (by decide) (by decide), okI (by decide) (by decide), okI (by decide) (by decide), okI (by decide) (by decide), okI (by decide) (by decide), okI (by decide) (by decide), okI (by decide) (by decide), okI (by decide) (by decide), trivial⟩)
  have hc_h : M122 h = some (.inr (0, [.int 0, .int 0, .int 0, .int 0, .int 0, .int 0, .int 0, .int 0, .int 0, .int 0, .int 0, .int 0, .ref q1, .ref q4, .ref q9, .ref q14, .ref q17, .ref q20, .ref q23])) := (hfr h n_h_q117).trans hc_h
  have hc_q1 : M122 q1 = some (.inl (kA 3, 12, .inr (.inr (.inr (.inr (va_up (va_up (va_up (va_up (va_up (va_up (va_up (va_up (va_up (va_up (fun _ => none) (Int32.toNatClampNeg 0) (some q27)) (Int32.toNatClampNeg 1) (some q36)) (Int32.toNatClampNeg 2) (some q45)) (Int32.toNatClampNeg 3) (some q54)) (Int32.toNatClampNeg 4) (some q63)) (Int32.toNatClampNeg 5) (some q72)) (Int32.toNatClampNeg 6) (some q81)) (Int32.toNatClampNeg 7) (some q90)) (Int32.toNatClampNeg 8) (some q99)) (Int32.toNatClampNeg 9) (some q108))))))) := (hfr q1 n_q1_q117).trans hc_q1
  have hc_q14 : M122 q14 = some (.inl (kA 0, 14, .inl (fun _ => 0))) := (hfr q14 n_q14_q117).trans hc_q14
  have hc_q17 : M122 q17 = some (.inl (kA 0, 14, .inl (fun _ => 0))) := (hfr q17 n_q17_q117).trans hc_q17
  have hc_q20 : M122 q20 = some (.inl (kA 0, 14, .inl (fun _ => 0))) := (hfr q20 n_q20_q117).trans hc_q20
  have hc_q23 : M122 q23 = some (.inl (kA 0, 14, .inl (fun _ => 0))) := (hfr q23 n_q23_q117).trans hc_q23
  have t_q4 : T123 q4 = some 1 := hsub _ _ t_q4
  have t_q9 : T123 q9 = some 1 := hsub _ _ t_q9
  have t_q27 : T123 q27 = some 0 := hsub _ _ t_q27
  have t_q36 : T123 q36 = some 0 := hsub _ _ t_q36
  have t_q45 : T123 q45 = some 0 := hsub _ _ t_q45
  have t_q54 : T123 q54 = some 0 := hsub _ _ t_q54
  have t_q63 : T123 q63 = some 0 := hsub _ _ t_q63
  have t_q72 : T123 q72 = some 0 := hsub _ _ t_q72
  have t_q81 : T123 q81 = some 0 := hsub _ _ t_q81
  have t_q90 : T123 q90 = some 0 := hsub _ _ t_q90
  have t_q99 : T123 q99 = some 0 := hsub _ _ t_q99
  have t_q108 : T123 q108 = some 0 := hsub _ _ t_q108
  have hTT : ∀ a t, T a = some t → T123 a = some t := fun a t h => hsub _ _ (hTT a t h)
  have hF : ∀ a, a ≠ h → a < sz → M122 a = M a := fun a h0 h1 => (hfr a (Nat.ne_of_lt (Nat.lt_of_lt_of_le h1 g_q117))).trans (hF a h0 h1)
  refine yqst (ck := 3) (cv := 5) (v := q117) hC hK hH rfl rfl hc_q1 (let ⟨fs, h1, _⟩ := tcell hH t_q117 rfl; ⟨fs, h1⟩) (iIn (by decide) (by decide)) dX1_init_87 (fun H locs M124 hc_q1 hfr hH => ?_)
  have hc_q1 : M124 q1 = some (.inl (kA 3, 12, .inr (.inr (.inr (.inr (va_up (va_up (va_up (va_up (va_up (va_up (va_up (va_up (va_up (va_up (va_up (fun _ => none) (Int32.toNatClampNeg 0) (some q27)) (Int32.toNatClampNeg 1) (some q36)) (Int32.toNatClampNeg 2) (some q45)) (Int32.toNatClampNeg 3) (some q54)) (Int32.toNatClampNeg 4) (some q63)) (Int32.toNatClampNeg 5) (some q72)) (Int32.toNatClampNeg 6) (some q81)) (Int32.toNatClampNeg 7) (some q90)) (Int32.toNatClampNeg 8) (some q99)) (Int32.toNatClampNeg 9) (some q108)) (Int32.toNatClampNeg 10) (some q117))))))) := hc_q1
  have hc_h : M124 h = some (.inr (0, [.int 0, .int 0, .int 0, .int 0, .int 0, .int 0, .int 0, .int 0, .int 0, .int 0, .int 0, .int 0, .ref q1, .ref q4, .ref q9, .ref q14, .ref q17, .ref q20, .ref q23])) := (hfr h n_h_q1).trans hc_h
  have hc_q14 : M124 q14 = some (.inl (kA 0, 14, .inl (fun _ => 0))) := (hfr q14 n_q14_q1).trans hc_q14
  have hc_q17 : M124 q17 = some (.inl (kA 0, 14, .inl (fun _ => 0))) := (hfr q17 n_q17_q1).trans hc_q17
  have hc_q20 : M124 q20 = some (.inl (kA 0, 14, .inl (fun _ => 0))) := (hfr q20 n_q20_q1).trans hc_q20
  have hc_q23 : M124 q23 = some (.inl (kA 0, 14, .inl (fun _ => 0))) := (hfr q23 n_q23_q1).trans hc_q23
  have hF : ∀ a, a ≠ h → a < sz → M124 a = M a := fun a h0 h1 => (hfr a (Nat.ne_of_lt (Nat.lt_of_lt_of_le h1 g_q1))).trans (hF a h0 h1)
  refine lv_iinc (v := 11) (lv' := [(1, .int 11), (0, .ref h)]) hx hb dX1_init_88 hl (k := 0) rfl (by decide) (by decide) rfl (fun ls hl => ?_)
  refine lv_goto (tgt := 69) hx hb dX1_init_91 (by decide) ?_
  refine lv_iload_n hx hb dX1_init_69 rfl (lv_at hl 0 rfl) ?_
  refine lv_bipush (v := 12) hx hb dX1_init_70 (by decide) ?_
  refine jic_ge (tgt := 94) hx hb dX1_init_72 (by decide) (fun c125 => absurd c125 (by decide)) (fun c125 => ?_)
  refine lv_aload_n hx hb dX1_init_75 rfl (lv_at hl 1 rfl) ?_
  refine xg hC hK hH flX1_11 hc_h rfl dX1_init_76 ?_
  refine lv_iload_n hx hb dX1_init_79 rfl (lv_at hl 0 rfl) ?_
  refine ynew hC hK hH nlX1_9 (Nat.le_of_ble_eq_true rfl) (Nat.le_of_ble_eq_true rfl) dX1_init_80 (fun q126 H M127 e_q126 hz nM_q126 nT_q126 hc_q126 hfr hN => ?_)
  have g_q126 : sz ≤ q126 := by rw [← hsz, e_q126]; exact hH.2.1.1
  have n_h_q126 : h ≠ q126 := neN hc_h nM_q126
  have n_q126_h : q126 ≠ h := Ne.symm n_h_q126
  have n_q1_q126 : q1 ≠ q126 := neN hc_q1 nM_q126
  have n_q126_q1 : q126 ≠ q1 := Ne.symm n_q1_q126
  have n_q14_q126 : q14 ≠ q126 := neN hc_q14 nM_q126
  have n_q126_q14 : q126 ≠ q14 := Ne.symm n_q14_q126
  have n_q17_q126 : q17 ≠ q126 := neN hc_q17 nM_q126
  have n_q126_q17 : q126 ≠ q17 := Ne.symm n_q17_q126
  have n_q20_q126 : q20 ≠ q126 := neN hc_q20 nM_q126
  have n_q126_q20 : q126 ≠ q20 := Ne.symm n_q20_q126
  have n_q23_q126 : q23 ≠ q126 := neN hc_q23 nM_q126
  have n_q126_q23 : q126 ≠ q23 := Ne.symm n_q23_q126
  have hH := hN
  have hc_q126 : M127 q126 = some (.inr (5, [.int 0, .int 0, .int 0, .int 0, .int 0, .int 0, .int 0, .int 0, .int 0, .int 0, .int 0])) := hc_q126
  have hc_h : M127 h = some (.inr (0, [.int 0, .int 0, .int 0, .int 0, .int 0, .int 0, .int 0, .int 0, .int 0, .int 0, .int 0, .int 0, .ref q1, .ref q4, .ref q9, .ref q14, .ref q17, .ref q20, .ref q23])) := (hfr h n_h_q126).trans hc_h
  have hc_q1 : M127 q1 = some (.inl (kA 3, 12, .inr (.inr (.inr (.inr (va_up (va_up (va_up (va_up (va_up (va_up (va_up (va_up (va_up (va_up (va_up (fun _ => none) (Int32.toNatClampNeg 0) (some q27)) (Int32.toNatClampNeg 1) (some q36)) (Int32.toNatClampNeg 2) (some q45)) (Int32.toNatClampNeg 3) (some q54)) (Int32.toNatClampNeg 4) (some q63)) (Int32.toNatClampNeg 5) (some q72)) (Int32.toNatClampNeg 6) (some q81)) (Int32.toNatClampNeg 7) (some q90)) (Int32.toNatClampNeg 8) (some q99)) (Int32.toNatClampNeg 9) (some q108)) (Int32.toNatClampNeg 10) (some q117))))))) := (hfr q1 n_q1_q126).trans hc_q1
  have hc_q14 : M127 q14 = some (.inl (kA 0, 14, .inl (fun _ => 0))) := (hfr q14 n_q14_q126).trans hc_q14
  have hc_q17 : M127 q17 = some (.inl (kA 0, 14, .inl (fun _ => 0))) := (hfr q17 n_q17_q126).trans hc_q17
  have hc_q20 : M127 q20 = some (.inl (kA 0, 14, .inl (fun _ => 0))) := (hfr q20 n_q20_q126).trans hc_q20
  have hc_q23 : M127 q23 = some (.inl (kA 0, 14, .inl (fun _ => 0))) := (hfr q23 n_q23_q126).trans hc_q23
  have hF : ∀ a, a ≠ h → a < sz → M127 a = M a := fun a h0 h1 => (hfr a (Nat.ne_of_lt (Nat.lt_of_lt_of_le h1 g_q126))).trans (hF a h0 h1)
  refine lv_dup hx hb dX1_init_83 rfl ?_
  refine goV hK hH (runIN (As := []) (rest := [.ref q126, .int 11, .ref q1]) hC hK hH (c_X6_init hc_q126) mlX1_40 ⟨⟨Nat.le_of_ble_eq_true rfl, Nat.le_of_ble_eq_true rfl⟩, Nat.le_of_ble_eq_true rfl, Nat.le_of_ble_eq_true rfl⟩ rfl hl.1 rfl (Nat.le_of_ble_eq_true rfl) dX1_init_84) (fun M128 T129 H locs hP hz hH => ?_)
  try dsimp only at hP
  obtain ⟨(-), eT, eM⟩ := hP
  have eT := eT.symm; subst eT
  have eM := eM.symm; subst eM
  obtain ⟨M131, T132, nM_q126, hfr, t_q126, hfT, hsub, hH⟩ := hH.re2 (τ := 0) hc_q126 (conf_o rfl ⟨okI (by decide) (by decide), okI (by decide) (by decide), okI (by decide) (by decide), okI (by decide) (by decide), okI (by decide) (by decide), okI (by decide) (by decide), okI (by decide) (by decide), okI (by decide) (by decide), okI (by decide) (by decide), okI (by decide) (by decide), okI (by decide) (by decide), trivial⟩)
  have hc_h : M131 h = some (.inr (0, [.int 0, .int 0, .int 0, .int 0, .int 0, .int 0, .int 0, .int 0, .int 0, .int 0, .int 0, .int 0, .ref q1, .ref q4, .ref q9, .ref q14, .ref q17, .ref q20, .ref q23])) := (hfr h n_h_q126).trans hc_h
  have hc_q1 : M131 q1 = some (.inl (kA 3, 12, .inr (.inr (.inr (.inr (va_up (va_up (va_up (va_up (va_up (va_up (va_up (va_up (va_up (va_up (va_up (fun _ => none) (Int32.toNatClampNeg 0) (some q27)) (Int32.toNatClampNeg 1) (some q36)) (Int32.toNatClampNeg 2) (some q45)) (Int32.toNatClampNeg 3) (some q54)) (Int32.toNatClampNeg 4) (some q63)) (Int32.toNatClampNeg 5) (some q72)) (Int32.toNatClampNeg 6) (some q81)) (Int32.toNatClampNeg 7) (some q90)) (Int32.toNatClampNeg 8) (some q99)) (Int32.toNatClampNeg 9) (some q108)) (Int32.toNatClampNeg 10) (some q117))))))) := (hfr q1 n_q1_q126).trans hc_q1
  have hc_q14 : M131 q14 = some (.inl (kA 0, 14, .inl (fun _ => 0))) := (hfr q14 n_q14_q126).trans hc_q14
  have hc_q17 : M131 q17 = some (.inl (kA 0, 14, .inl (fun _ => 0))) := (hfr q17 n_q17_q126).trans hc_q17
  have hc_q20 : M131 q20 = some (.inl (kA 0, 14, .inl (fun _ => 0))) := (hfr q20 n_q20_q126).trans hc_q20
  have hc_q23 : M131 q23 = some (.inl (kA 0, 14, .inl (fun _ => 0))) := (hfr q23 n_q23_q126).trans hc_q23
  have t_q4 : T132 q4 = some 1 := hsub _ _ t_q4
  have t_q9 : T132 q9 = some 1 := hsub _ _ t_q9
  have t_q27 : T132 q27 = some 0 := hsub _ _ t_q27
  have t_q36 : T132 q36 = some 0 := hsub _ _ t_q36
  have t_q45 : T132 q45 = some 0 := hsub _ _ t_q45
  have t_q54 : T132 q54 = some 0 := hsub _ _ t_q54
  have t_q63 : T132 q63 = some 0 := hsub _ _ t_q63
  have t_q72 : T132 q72 = some 0 := hsub _ _ t_q72
  have t_q81 : T132 q81 = some 0 := hsub _ _ t_q81
  have t_q90 : T132 q90 = some 0 := hsub _ _ t_q90
  have t_q99 : T132 q99 = some 0 := hsub _ _ t_q99
  have t_q108 : T132 q108 = some 0 := hsub _ _ t_q108
  have t_q117 : T132 q117 = some 0 := hsub _ _ t_q117
  have hTT : ∀ a t, T a = some t → T132 a = some t := fun a t h => hsub _ _ (hTT a t h)
  have hF : ∀ a, a ≠ h → a < sz → M131 a = M a := fun a h0 h1 => (hfr a (Nat.ne_of_lt (Nat.lt_of_lt_of_le h1 g_q126))).trans (hF a h0 h1)
  refine yqst (ck := 3) (cv := 5) (v := q126) hC hK hH rfl rfl hc_q1 (let ⟨fs, h1, _⟩ := tcell hH t_q126 rfl; ⟨fs, h1⟩) (iIn (by decide) (by decide)) dX1_init_87 (fun H locs M133 hc_q1 hfr hH => ?_)
  have hc_q1 : M133 q1 = some (.inl (kA 3, 12, .inr (.inr (.inr (.inr (va_up (va_up (va_up (va_up (va_up (va_up (va_up (va_up (va_up (va_up (va_up (va_up (fun _ => none) (Int32.toNatClampNeg 0) (some q27)) (Int32.toNatClampNeg 1) (some q36)) (Int32.toNatClampNeg 2) (some q45)) (Int32.toNatClampNeg 3) (some q54)) (Int32.toNatClampNeg 4) (some q63)) (Int32.toNatClampNeg 5) (some q72)) (Int32.toNatClampNeg 6) (some q81)) (Int32.toNatClampNeg 7) (some q90)) (Int32.toNatClampNeg 8) (some q99)) (Int32.toNatClampNeg 9) (some q108)) (Int32.toNatClampNeg 10) (some q117)) (Int32.toNatClampNeg 11) (some q126))))))) := hc_q1
  have hc_h : M133 h = some (.inr (0, [.int 0, .int 0, .int 0, .int 0, .int 0, .int 0, .int 0, .int 0, .int 0, .int 0, .int 0, .int 0, .ref q1, .ref q4, .ref q9, .ref q14, .ref q17, .ref q20, .ref q23])) := (hfr h n_h_q1).trans hc_h
  have hc_q14 : M133 q14 = some (.inl (kA 0, 14, .inl (fun _ => 0))) := (hfr q14 n_q14_q1).trans hc_q14
  have hc_q17 : M133 q17 = some (.inl (kA 0, 14, .inl (fun _ => 0))) := (hfr q17 n_q17_q1).trans hc_q17
  have hc_q20 : M133 q20 = some (.inl (kA 0, 14, .inl (fun _ => 0))) := (hfr q20 n_q20_q1).trans hc_q20
  have hc_q23 : M133 q23 = some (.inl (kA 0, 14, .inl (fun _ => 0))) := (hfr q23 n_q23_q1).trans hc_q23
  have hF : ∀ a, a ≠ h → a < sz → M133 a = M a := fun a h0 h1 => (hfr a (Nat.ne_of_lt (Nat.lt_of_lt_of_le h1 g_q1))).trans (hF a h0 h1)
  refine lv_iinc (v := 12) (lv' := [(1, .int 12), (0, .ref h)]) hx hb dX1_init_88 hl (k := 0) rfl (by decide) (by decide) rfl (fun ls hl => ?_)
  refine lv_goto (tgt := 69) hx hb dX1_init_91 (by decide) ?_
  refine lv_iload_n hx hb dX1_init_69 rfl (lv_at hl 0 rfl) ?_
  refine lv_bipush (v := 12) hx hb dX1_init_70 (by decide) ?_
  refine jic_ge (tgt := 94) hx hb dX1_init_72 (by decide) (fun c134 => ?_) (fun c134 => absurd c134 (by decide))
  have hq : ∀ j, j < 12 → ∃ q, (va_up (va_up (va_up (va_up (va_up (va_up (va_up (va_up (va_up (va_up (va_up (va_up (fun _ => none) (Int32.toNatClampNeg 0) (some q27)) (Int32.toNatClampNeg 1) (some q36)) (Int32.toNatClampNeg 2) (some q45)) (Int32.toNatClampNeg 3) (some q54)) (Int32.toNatClampNeg 4) (some q63)) (Int32.toNatClampNeg 5) (some q72)) (Int32.toNatClampNeg 6) (some q81)) (Int32.toNatClampNeg 7) (some q90)) (Int32.toNatClampNeg 8) (some q99)) (Int32.toNatClampNeg 9) (some q108)) (Int32.toNatClampNeg 10) (some q117)) (Int32.toNatClampNeg 11) (some q126)) j = some q ∧ T132 q = some 0 := by
    intro j hj
    rcases (show j = 0 ∨ j = 1 ∨ j = 2 ∨ j = 3 ∨ j = 4 ∨ j = 5 ∨ j = 6 ∨ j = 7 ∨ j = 8 ∨ j = 9 ∨ j = 10 ∨ j = 11 by omega) with rfl | rfl | rfl | rfl | rfl | rfl | rfl | rfl | rfl | rfl | rfl | rfl
    · exact ⟨q27, rfl, t_q27⟩
    · exact ⟨q36, rfl, t_q36⟩
    · exact ⟨q45, rfl, t_q45⟩
    · exact ⟨q54, rfl, t_q54⟩
    · exact ⟨q63, rfl, t_q63⟩
    · exact ⟨q72, rfl, t_q72⟩
    · exact ⟨q81, rfl, t_q81⟩
    · exact ⟨q90, rfl, t_q90⟩
    · exact ⟨q99, rfl, t_q99⟩
    · exact ⟨q108, rfl, t_q108⟩
    · exact ⟨q117, rfl, t_q117⟩
    · exact ⟨q126, rfl, t_q126⟩
  obtain ⟨M135, T136, nM_q1, hfr, t_q1, hfT, hsub, hH⟩ := hH.re2 (τ := 4) hc_q1 (conf_q rfl (fun j hj => let ⟨q, h1, h2⟩ := hq j hj; ⟨q, h1, by rw [upN _ _ (fun z => by rw [z, hH.1.TN (by rw [hc_q1]; simp)] at h2; cases h2)]; exact h2⟩))
  have hc_h : M135 h = some (.inr (0, [.int 0, .int 0, .int 0, .int 0, .int 0, .int 0, .int 0, .int 0, .int 0, .int 0, .int 0, .int 0, .ref q1, .ref q4, .ref q9, .ref q14, .ref q17, .ref q20, .ref q23])) := (hfr h n_h_q1).trans hc_h
  have hc_q14 : M135 q14 = some (.inl (kA 0, 14, .inl (fun _ => 0))) := (hfr q14 n_q14_q1).trans hc_q14
  have hc_q17 : M135 q17 = some (.inl (kA 0, 14, .inl (fun _ => 0))) := (hfr q17 n_q17_q1).trans hc_q17
  have hc_q20 : M135 q20 = some (.inl (kA 0, 14, .inl (fun _ => 0))) := (hfr q20 n_q20_q1).trans hc_q20
  have hc_q23 : M135 q23 = some (.inl (kA 0, 14, .inl (fun _ => 0))) := (hfr q23 n_q23_q1).trans hc_q23
  have t_q4 : T136 q4 = some 1 := hsub _ _ t_q4
  have t_q9 : T136 q9 = some 1 := hsub _ _ t_q9
  have t_q27 : T136 q27 = some 0 := hsub _ _ t_q27
  have t_q36 : T136 q36 = some 0 := hsub _ _ t_q36
  have t_q45 : T136 q45 = some 0 := hsub _ _ t_q45
  have t_q54 : T136 q54 = some 0 := hsub _ _ t_q54
  have t_q63 : T136 q63 = some 0 := hsub _ _ t_q63
  have t_q72 : T136 q72 = some 0 := hsub _ _ t_q72
  have t_q81 : T136 q81 = some 0 := hsub _ _ t_q81
  have t_q90 : T136 q90 = some 0 := hsub _ _ t_q90
  have t_q99 : T136 q99 = some 0 := hsub _ _ t_q99
  have t_q108 : T136 q108 = some 0 := hsub _ _ t_q108
  have t_q117 : T136 q117 = some 0 := hsub _ _ t_q117
  have t_q126 : T136 q126 = some 0 := hsub _ _ t_q126
  have hTT : ∀ a t, T a = some t → T136 a = some t := fun a t h => hsub _ _ (hTT a t h)
  have hF : ∀ a, a ≠ h → a < sz → M135 a = M a := fun a h0 h1 => (hfr a (Nat.ne_of_lt (Nat.lt_of_lt_of_le h1 g_q1))).trans (hF a h0 h1)
  obtain ⟨M137, T138, nM_q14, hfr, t_q14, hfT, hsub, hH⟩ := hH.re2 (τ := 5) hc_q14 (conf_i rfl (fun _ _ => iRg _))
  have hc_h : M137 h = some (.inr (0, [.int 0, .int 0, .int 0, .int 0, .int 0, .int 0, .int 0, .int 0, .int 0, .int 0, .int 0, .int 0, .ref q1, .ref q4, .ref q9, .ref q14, .ref q17, .ref q20, .ref q23])) := (hfr h n_h_q14).trans hc_h
  have hc_q17 : M137 q17 = some (.inl (kA 0, 14, .inl (fun _ => 0))) := (hfr q17 n_q17_q14).trans hc_q17
  have hc_q20 : M137 q20 = some (.inl (kA 0, 14, .inl (fun _ => 0))) := (hfr q20 n_q20_q14).trans hc_q20
  have hc_q23 : M137 q23 = some (.inl (kA 0, 14, .inl (fun _ => 0))) := (hfr q23 n_q23_q14).trans hc_q23
  have t_q4 : T138 q4 = some 1 := hsub _ _ t_q4
  have t_q9 : T138 q9 = some 1 := hsub _ _ t_q9
  have t_q27 : T138 q27 = some 0 := hsub _ _ t_q27
  have t_q36 : T138 q36 = some 0 := hsub _ _ t_q36
  have t_q45 : T138 q45 = some 0 := hsub _ _ t_q45
  have t_q54 : T138 q54 = some 0 := hsub _ _ t_q54
  have t_q63 : T138 q63 = some 0 := hsub _ _ t_q63
  have t_q72 : T138 q72 = some 0 := hsub _ _ t_q72
  have t_q81 : T138 q81 = some 0 := hsub _ _ t_q81
  have t_q90 : T138 q90 = some 0 := hsub _ _ t_q90
  have t_q99 : T138 q99 = some 0 := hsub _ _ t_q99
  have t_q108 : T138 q108 = some 0 := hsub _ _ t_q108
  have t_q117 : T138 q117 = some 0 := hsub _ _ t_q117
  have t_q126 : T138 q126 = some 0 := hsub _ _ t_q126
  have t_q1 : T138 q1 = some 4 := hsub _ _ t_q1
  have hTT : ∀ a t, T a = some t → T138 a = some t := fun a t h => hsub _ _ (hTT a t h)
  have hF : ∀ a, a ≠ h → a < sz → M137 a = M a := fun a h0 h1 => (hfr a (Nat.ne_of_lt (Nat.lt_of_lt_of_le h1 g_q14))).trans (hF a h0 h1)
  obtain ⟨M139, T140, nM_q17, hfr, t_q17, hfT, hsub, hH⟩ := hH.re2 (τ := 5) hc_q17 (conf_i rfl (fun _ _ => iRg _))
  have hc_h : M139 h = some (.inr (0, [.int 0, .int 0, .int 0, .int 0, .int 0, .int 0, .int 0, .int 0, .int 0, .int 0, .int 0, .int 0, .ref q1, .ref q4, .ref q9, .ref q14, .ref q17, .ref q20, .ref q23])) := (hfr h n_h_q17).trans hc_h
  have hc_q20 : M139 q20 = some (.inl (kA 0, 14, .inl (fun _ => 0))) := (hfr q20 n_q20_q17).trans hc_q20
  have hc_q23 : M139 q23 = some (.inl (kA 0, 14, .inl (fun _ => 0))) := (hfr q23 n_q23_q17).trans hc_q23
  have t_q4 : T140 q4 = some 1 := hsub _ _ t_q4
  have t_q9 : T140 q9 = some 1 := hsub _ _ t_q9
  have t_q27 : T140 q27 = some 0 := hsub _ _ t_q27
  have t_q36 : T140 q36 = some 0 := hsub _ _ t_q36
  have t_q45 : T140 q45 = some 0 := hsub _ _ t_q45
  have t_q54 : T140 q54 = some 0 := hsub _ _ t_q54
  have t_q63 : T140 q63 = some 0 := hsub _ _ t_q63
  have t_q72 : T140 q72 = some 0 := hsub _ _ t_q72
  have t_q81 : T140 q81 = some 0 := hsub _ _ t_q81
  have t_q90 : T140 q90 = some 0 := hsub _ _ t_q90
  have t_q99 : T140 q99 = some 0 := hsub _ _ t_q99
  have t_q108 : T140 q108 = some 0 := hsub _ _ t_q108
  have t_q117 : T140 q117 = some 0 := hsub _ _ t_q117
  have t_q126 : T140 q126 = some 0 := hsub _ _ t_q126
  have t_q1 : T140 q1 = some 4 := hsub _ _ t_q1
  have t_q14 : T140 q14 = some 5 := hsub _ _ t_q14
  have hTT : ∀ a t, T a = some t → T140 a = some t := fun a t h => hsub _ _ (hTT a t h)
  have hF : ∀ a, a ≠ h → a < sz → M139 a = M a := fun a h0 h1 => (hfr a (Nat.ne_of_lt (Nat.lt_of_lt_of_le h1 g_q17))).trans (hF a h0 h1)
  obtain ⟨M141, T142, nM_q20, hfr, t_q20, hfT, hsub, hH⟩ := hH.re2 (τ := 5) hc_q20 (conf_i rfl (fun _ _ => iRg _))
  have hc_h : M141 h = some (.inr (0, [.int 0, .int 0, .int 0, .int 0, .int 0, .int 0, .int 0, .int 0, .int 0, .int 0, .int 0, .int 0, .ref q1, .ref q4, .ref q9, .ref q14, .ref q17, .ref q20, .ref q23])) := (hfr h n_h_q20).trans hc_h
  have hc_q23 : M141 q23 = some (.inl (kA 0, 14, .inl (fun _ => 0))) := (hfr q23 n_q23_q20).trans hc_q23
  have t_q4 : T142 q4 = some 1 := hsub _ _ t_q4
  have t_q9 : T142 q9 = some 1 := hsub _ _ t_q9
  have t_q27 : T142 q27 = some 0 := hsub _ _ t_q27
  have t_q36 : T142 q36 = some 0 := hsub _ _ t_q36
  have t_q45 : T142 q45 = some 0 := hsub _ _ t_q45
  have t_q54 : T142 q54 = some 0 := hsub _ _ t_q54
  have t_q63 : T142 q63 = some 0 := hsub _ _ t_q63
  have t_q72 : T142 q72 = some 0 := hsub _ _ t_q72
  have t_q81 : T142 q81 = some 0 := hsub _ _ t_q81
  have t_q90 : T142 q90 = some 0 := hsub _ _ t_q90
  have t_q99 : T142 q99 = some 0 := hsub _ _ t_q99
  have t_q108 : T142 q108 = some 0 := hsub _ _ t_q108
  have t_q117 : T142 q117 = some 0 := hsub _ _ t_q117
  have t_q126 : T142 q126 = some 0 := hsub _ _ t_q126
  have t_q1 : T142 q1 = some 4 := hsub _ _ t_q1
  have t_q14 : T142 q14 = some 5 := hsub _ _ t_q14
  have t_q17 : T142 q17 = some 5 := hsub _ _ t_q17
  have hTT : ∀ a t, T a = some t → T142 a = some t := fun a t h => hsub _ _ (hTT a t h)
  have hF : ∀ a, a ≠ h → a < sz → M141 a = M a := fun a h0 h1 => (hfr a (Nat.ne_of_lt (Nat.lt_of_lt_of_le h1 g_q20))).trans (hF a h0 h1)
  obtain ⟨M143, T144, nM_q23, hfr, t_q23, hfT, hsub, hH⟩ := hH.re2 (τ := 5) hc_q23 (conf_i rfl (fun _ _ => iRg _))
  have hc_h : M143 h = some (.inr (0, [.int 0, .int 0, .int 0, .int 0, .int 0, .int 0, .int 0, .int 0, .int 0, .int 0, .int 0, .int 0, .ref q1, .ref q4, .ref q9, .ref q14, .ref q17, .ref q20, .ref q23])) := (hfr h n_h_q23).trans hc_h
  have t_q4 : T144 q4 = some 1 := hsub _ _ t_q4
  have t_q9 : T144 q9 = some 1 := hsub _ _ t_q9
  have t_q27 : T144 q27 = some 0 := hsub _ _ t_q27
  have t_q36 : T144 q36 = some 0 := hsub _ _ t_q36
  have t_q45 : T144 q45 = some 0 := hsub _ _ t_q45
  have t_q54 : T144 q54 = some 0 := hsub _ _ t_q54
  have t_q63 : T144 q63 = some 0 := hsub _ _ t_q63
  have t_q72 : T144 q72 = some 0 := hsub _ _ t_q72
  have t_q81 : T144 q81 = some 0 := hsub _ _ t_q81
  have t_q90 : T144 q90 = some 0 := hsub _ _ t_q90
  have t_q99 : T144 q99 = some 0 := hsub _ _ t_q99
  have t_q108 : T144 q108 = some 0 := hsub _ _ t_q108
  have t_q117 : T144 q117 = some 0 := hsub _ _ t_q117
  have t_q126 : T144 q126 = some 0 := hsub _ _ t_q126
  have t_q1 : T144 q1 = some 4 := hsub _ _ t_q1
  have t_q14 : T144 q14 = some 5 := hsub _ _ t_q14
  have t_q17 : T144 q17 = some 5 := hsub _ _ t_q17
  have t_q20 : T144 q20 = some 5 := hsub _ _ t_q20
  have hTT : ∀ a t, T a = some t → T144 a = some t := fun a t h => hsub _ _ (hTT a t h)
  have hF : ∀ a, a ≠ h → a < sz → M143 a = M a := fun a h0 h1 => (hfr a (Nat.ne_of_lt (Nat.lt_of_lt_of_le h1 g_q23))).trans (hF a h0 h1)
  obtain ⟨M145, T146, nM_h, hfr, t_h, hfT, hsub, hH⟩ := hH.re2 (τ := 2) hc_h (conf_o rfl ⟨okI (by decide) (by decide), okI (by decide) (by decide), okI (by decide) (by decide), okI (by decide) (by decide), okI (by decide) (by decide), okI (by decide) (by decide), okI (by decide) (by decide), okI (by decide) (by decide), okI (by decide) (by decide), okI (by decide) (by decide), okI (by decide) (by decide), okI (by decide) (by decide), okR (by rw [upN _ _ (fun z => by rw [z] at t_q1; rw [hH.1.TN (by rw [hc_h]; simp)] at t_q1; cases t_q1)]; exact t_q1), okR (by rw [upN _ _ (fun z => by rw [z] at t_q4; rw [hH.1.TN (by rw [hc_h]; simp)] at t_q4; cases t_q4)]; exact t_q4), okR (by rw [upN _ _ (fun z => by rw [z] at t_q9; rw [hH.1.TN (by rw [hc_h]; simp)] at t_q9; cases t_q9)]; exact t_q9), okR (by rw [upN _ _ (fun z => by rw [z] at t_q14; rw [hH.1.TN (by rw [hc_h]; simp)] at t_q14; cases t_q14)]; exact t_q14), okR (by rw [upN _ _ (fun z => by rw [z] at t_q17; rw [hH.1.TN (by rw [hc_h]; simp)] at t_q17; cases t_q17)]; exact t_q17), okR (by rw [upN _ _ (fun z => by rw [z] at t_q20; rw [hH.1.TN (by rw [hc_h]; simp)] at t_q20; cases t_q20)]; exact t_q20), okR (by rw [upN _ _ (fun z => by rw [z] at t_q23; rw [hH.1.TN (by rw [hc_h]; simp)] at t_q23; cases t_q23)]; exact t_q23), trivial⟩)
  have t_q4 : T146 q4 = some 1 := hsub _ _ t_q4
  have t_q9 : T146 q9 = some 1 := hsub _ _ t_q9
  have t_q27 : T146 q27 = some 0 := hsub _ _ t_q27
  have t_q36 : T146 q36 = some 0 := hsub _ _ t_q36
  have t_q45 : T146 q45 = some 0 := hsub _ _ t_q45
  have t_q54 : T146 q54 = some 0 := hsub _ _ t_q54
  have t_q63 : T146 q63 = some 0 := hsub _ _ t_q63
  have t_q72 : T146 q72 = some 0 := hsub _ _ t_q72
  have t_q81 : T146 q81 = some 0 := hsub _ _ t_q81
  have t_q90 : T146 q90 = some 0 := hsub _ _ t_q90
  have t_q99 : T146 q99 = some 0 := hsub _ _ t_q99
  have t_q108 : T146 q108 = some 0 := hsub _ _ t_q108
  have t_q117 : T146 q117 = some 0 := hsub _ _ t_q117
  have t_q126 : T146 q126 = some 0 := hsub _ _ t_q126
  have t_q1 : T146 q1 = some 4 := hsub _ _ t_q1
  have t_q14 : T146 q14 = some 5 := hsub _ _ t_q14
  have t_q17 : T146 q17 = some 5 := hsub _ _ t_q17
  have t_q20 : T146 q20 = some 5 := hsub _ _ t_q20
  have t_q23 : T146 q23 = some 5 := hsub _ _ t_q23
  have hTT : ∀ a t, T a = some t → T146 a = some t := fun a t h => hsub _ _ (hTT a t h)
  have hF : ∀ a, a ≠ h → a < sz → M145 a = M a := fun a h0 h1 => (hfr a h0).trans (hF a h0 h1)
  exact ret_v hC hr hlk hK hH (⟨nM_h, t_h, hTT, hF⟩) (Nat.le_of_ble_eq_true rfl) (Nat.le_of_ble_eq_true rfl) dX1_init_94
