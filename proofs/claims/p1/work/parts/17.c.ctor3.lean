set_option maxHeartbeats 4000000 in
set_option maxRecDepth 100000 in
theorem c_X4_init {l : Launch} {D : va_G} {kA : Nat → ClassId} {M : mM} {T : mT} {sz h vb : Nat} (hc_h : M h = some (.inr (3, [.null, .null, .int 0, .int 0, .null, .int 0, .int 0, .int 0, .int 0, .int 0]))) (hlt : h < sz) : mCvZ l yX4_init cX4_init 1 1 2 5 D kA M T sz vb [.ref h] (fun u => ∃ nb by_, u.1 h = some (.inr (3, [.ref nb, .ref vb, .int 0, .int 0, .ref by_, .int 0, .int 0, .int 0, .int 0, .int 0])) ∧ sz ≤ nb ∧ sz ≤ by_ ∧ (∀ a t, T a = some t → u.2 a = some t) ∧ ∀ a, a ≠ h → a < sz → u.1 a = M a) := by
  unfold mCvZ
  refine start_WZ (by decide) (Nat.le_of_ble_eq_true rfl) ?_
  intro p e s m below meth c ls hC hr hlk hnm hK hH hsz hZ hl
  have hx := hC.1
  have hb := hC.2.1
  have hl : lv_has ls 1 [(0, .ref h)] := hl
  have hF : ∀ a, a ≠ h → a < sz → M a = M a := fun a _ _ => rfl
  have hTT : ∀ a t, T a = some t → T a = some t := fun _ _ h => h
  refine lv_aload_n hx hb dX4_init_0 rfl (lv_at hl 0 rfl) ?_
  refine W.objInit hx hb hC.2.2.2.1 (hC.2.2.2.2 _ wlX4_3) (hC.2.2.2.2 _ w_oi) (hC.2.2.2.2 _ w_oc) rfl (by rw [hC.2.2.1]; exact hl.1) rfl dX4_init_1 (Nat.le_of_ble_eq_true rfl) (Nat.le_of_ble_eq_true rfl) ?_
  refine W.eq (g2 := F0 m 4 ls []) rfl ?_
  refine lv_aload_n hx hb dX4_init_4 rfl (lv_at hl 0 rfl) ?_
  refine lv_iconst (v := 5) hx hb dX4_init_5 (by decide) ?_
  refine ynewa (atype := .int) (ck := 0) (N := 5) (a0 := (5, .inl (fun _ => 0))) hC hK hH rfl w_ac0 rfl (fun _ h => by cases h) (fun _ => rfl) (by decide) (by decide) (by decide) (Nat.le_of_ble_eq_true rfl) (Nat.le_of_ble_eq_true rfl) dX4_init_6 (fun qq1_ Hq_ Mq2_ e_qq1_ hz nM_qq1_ nT_qq1_ hc_qq1_ hfr hN => ?_)
  have g_qq1_ : sz ≤ qq1_ := by rw [← hsz, e_qq1_]; exact hH.2.1.1
  have n_h_qq1_ : h ≠ qq1_ := neN hc_h nM_qq1_
  have n_qq1__h : qq1_ ≠ h := Ne.symm n_h_qq1_
  have hH := hN
  have hc_qq1_ : Mq2_ qq1_ = some (.inl (kA 0, 5, .inl (fun _ => 0))) := hc_qq1_
  have hc_h : Mq2_ h = some (.inr (3, [.null, .null, .int 0, .int 0, .null, .int 0, .int 0, .int 0, .int 0, .int 0])) := (hfr h n_h_qq1_).trans hc_h
  have hF : ∀ a, a ≠ h → a < sz → Mq2_ a = M a := fun a h0 h1 => (hfr a (Nat.ne_of_lt (Nat.lt_of_lt_of_le h1 g_qq1_))).trans (hF a h0 h1)
  refine ypF (v := .ref qq1_) hC hK hH hnm (fun _ _ _ h => by cases h; rfl) flX4_9 hc_h rfl rfl (Nat.le_of_ble_eq_true rfl) dX4_init_8 (fun Hq_ lcq_ Mq3_ hc_h hfr hH => ?_)
  have hc_h : Mq3_ h = some (.inr (3, [.ref qq1_, .null, .int 0, .int 0, .null, .int 0, .int 0, .int 0, .int 0, .int 0])) := hc_h
  have hc_qq1_ : Mq3_ qq1_ = some (.inl (kA 0, 5, .inl (fun _ => 0))) := (hfr qq1_ n_qq1__h).trans hc_qq1_
  have hF : ∀ a, a ≠ h → a < sz → Mq3_ a = M a := fun a h0 h1 => (hfr a h0).trans (hF a h0 h1)
  refine lv_aload_n hx hb dX4_init_11 rfl (lv_at hl 0 rfl) ?_
  refine getDay hC hZ hH wsX4_15 dX4_init_12 ?_
  refine yp (v := .ref vb) hC hK hH flX4_21 hc_h rfl rfl (Nat.le_of_ble_eq_true rfl) dX4_init_15 (fun Hq_ lcq_ Mq4_ hc_h hfr hH => ?_)
  have hc_h : Mq4_ h = some (.inr (3, [.ref qq1_, .ref vb, .int 0, .int 0, .null, .int 0, .int 0, .int 0, .int 0, .int 0])) := hc_h
  have hc_qq1_ : Mq4_ qq1_ = some (.inl (kA 0, 5, .inl (fun _ => 0))) := (hfr qq1_ n_qq1__h).trans hc_qq1_
  have hF : ∀ a, a ≠ h → a < sz → Mq4_ a = M a := fun a h0 h1 => (hfr a h0).trans (hF a h0 h1)
  refine lv_aload_n hx hb dX4_init_18 rfl (lv_at hl 0 rfl) ?_
  refine lv_iconst (v := 0) hx hb dX4_init_19 (by decide) ?_
  refine ynewa (atype := .byte) (ck := 1) (N := 0) (a0 := (0, .inl (fun _ => 0))) hC hK hH rfl w_ac1 rfl (fun _ h => by cases h) (fun _ => rfl) (by decide) (by decide) (by decide) (Nat.le_of_ble_eq_true rfl) (Nat.le_of_ble_eq_true rfl) dX4_init_20 (fun qq5_ Hq_ Mq6_ e_qq5_ hz nM_qq5_ nT_qq5_ hc_qq5_ hfr hN => ?_)
  have g_qq5_ : sz ≤ qq5_ := by rw [← hsz, e_qq5_]; exact hH.2.1.1
  have n_h_qq5_ : h ≠ qq5_ := neN hc_h nM_qq5_
  have n_qq5__h : qq5_ ≠ h := Ne.symm n_h_qq5_
  have n_qq1__qq5_ : qq1_ ≠ qq5_ := neN hc_qq1_ nM_qq5_
  have n_qq5__qq1_ : qq5_ ≠ qq1_ := Ne.symm n_qq1__qq5_
  have hH := hN
  have hc_qq5_ : Mq6_ qq5_ = some (.inl (kA 1, 0, .inl (fun _ => 0))) := hc_qq5_
  have hc_h : Mq6_ h = some (.inr (3, [.ref qq1_, .ref vb, .int 0, .int 0, .null, .int 0, .int 0, .int 0, .int 0, .int 0])) := (hfr h n_h_qq5_).trans hc_h
  have hc_qq1_ : Mq6_ qq1_ = some (.inl (kA 0, 5, .inl (fun _ => 0))) := (hfr qq1_ n_qq1__qq5_).trans hc_qq1_
  have hF : ∀ a, a ≠ h → a < sz → Mq6_ a = M a := fun a h0 h1 => (hfr a (Nat.ne_of_lt (Nat.lt_of_lt_of_le h1 g_qq5_))).trans (hF a h0 h1)
  refine yp (v := .ref qq5_) hC hK hH flX4_24 hc_h rfl rfl (Nat.le_of_ble_eq_true rfl) dX4_init_22 (fun Hq_ lcq_ Mq7_ hc_h hfr hH => ?_)
  have hc_h : Mq7_ h = some (.inr (3, [.ref qq1_, .ref vb, .int 0, .int 0, .ref qq5_, .int 0, .int 0, .int 0, .int 0, .int 0])) := hc_h
  have hc_qq1_ : Mq7_ qq1_ = some (.inl (kA 0, 5, .inl (fun _ => 0))) := (hfr qq1_ n_qq1__h).trans hc_qq1_
  have hc_qq5_ : Mq7_ qq5_ = some (.inl (kA 1, 0, .inl (fun _ => 0))) := (hfr qq5_ n_qq5__h).trans hc_qq5_
  have hF : ∀ a, a ≠ h → a < sz → Mq7_ a = M a := fun a h0 h1 => (hfr a h0).trans (hF a h0 h1)
  exact ret_v hC hr hlk hK hH (⟨qq1_, qq5_, hc_h, g_qq1_, g_qq5_, hTT, hF⟩) (Nat.le_of_ble_eq_true rfl) (Nat.le_of_ble_eq_true rfl) dX4_init_25
set_option maxHeartbeats 4000000 in
set_option maxRecDepth 100000 in
theorem c_X9_init {l : Launch} {D : va_G} {kA : Nat → ClassId} {M : mM} {T : mT} {sz h vb : Nat} (hc_h : M h = some (.inr (7, [.null, .null, .null, .null, .null]))) (hlt : h < sz) : mCvZ l yX9_init cX9_init 1 4 149 2144 D kA M T sz vb [.ref h] (fun u => ∃ w im rd rc cu cs bs tp nb by_, u.1 h = some (.inr (7, [.ref w, .ref im, .ref rd, .ref rc, .ref cu])) ∧ u.1 w = some (.inr (6, [.int 0, .int 2, .int 0, .int 0, .int 0, .int 0, .int 0, .int (-1), .ref cs, .ref bs, .ref tp])) ∧ u.1 im = some (.inl (kA 6, 3, .inr (.inr (.inr (.inr (fun _ => none)))))) ∧ u.1 rd = some (.inr (3, [.ref nb, .ref vb, .int 0, .int 0, .ref by_, .int 0, .int 0, .int 0, .int 0, .int 0])) ∧ u.1 cs = some (.inl (kA 0, 8, .inl (c100 (fun _ => 0)))) ∧ u.2 bs = some 6 ∧ u.2 tp = some 7 ∧ sz ≤ w ∧ sz ≤ im ∧ sz ≤ rd ∧ sz ≤ rc ∧ sz ≤ cu ∧ sz ≤ cs ∧ sz ≤ bs ∧ sz ≤ tp ∧ sz ≤ nb ∧ sz ≤ by_ ∧ (∀ a t, T a = some t → u.2 a = some t) ∧ ∀ a, a ≠ h → a < sz → u.1 a = M a) := by
  unfold mCvZ
  refine start_WZ (by decide) (Nat.le_of_ble_eq_true rfl) ?_
  intro p e s m below meth c ls hC hr hlk hnm hK hH hsz hZ hl
  have hx := hC.1
  have hb := hC.2.1
  have hl : lv_has ls 1 [(0, .ref h)] := hl
  have hF : ∀ a, a ≠ h → a < sz → M a = M a := fun a _ _ => rfl
  have hTT : ∀ a t, T a = some t → T a = some t := fun _ _ h => h
  refine lv_aload_n hx hb dX9_init_0 rfl (lv_at hl 0 rfl) ?_
  refine W.objInit hx hb hC.2.2.2.1 (hC.2.2.2.2 _ wlX9_3) (hC.2.2.2.2 _ w_oi) (hC.2.2.2.2 _ w_oc) rfl (by rw [hC.2.2.1]; exact hl.1) rfl dX9_init_1 (Nat.le_of_ble_eq_true rfl) (Nat.le_of_ble_eq_true rfl) ?_
  refine W.eq (g2 := F0 m 4 ls []) rfl ?_
  refine lv_aload_n hx hb dX9_init_4 rfl (lv_at hl 0 rfl) ?_
  refine ynew hC hK hH nlX9_9 (Nat.le_of_ble_eq_true rfl) (Nat.le_of_ble_eq_true rfl) dX9_init_5 (fun qq1_ Hq_ Mq2_ e_qq1_ hz nM_qq1_ nT_qq1_ hc_qq1_ hfr hN => ?_)
  have g_qq1_ : sz ≤ qq1_ := by rw [← hsz, e_qq1_]; exact hH.2.1.1
  have n_h_qq1_ : h ≠ qq1_ := neN hc_h nM_qq1_
  have n_qq1__h : qq1_ ≠ h := Ne.symm n_h_qq1_
  have hH := hN
  have hc_qq1_ : Mq2_ qq1_ = some (.inr (6, [.int 0, .int 0, .int 0, .int 0, .int 0, .int 0, .int 0, .int 0, .null, .null, .null])) := hc_qq1_
  have hc_h : Mq2_ h = some (.inr (7, [.null, .null, .null, .null, .null])) := (hfr h n_h_qq1_).trans hc_h
  have hF : ∀ a, a ≠ h → a < sz → Mq2_ a = M a := fun a h0 h1 => (hfr a (Nat.ne_of_lt (Nat.lt_of_lt_of_le h1 g_qq1_))).trans (hF a h0 h1)
  refine lv_dup hx hb dX9_init_8 rfl ?_
  have lt_qq1_ : qq1_ < Array.size Hq_ := hH.1.ltM (by rw [hc_qq1_]; simp)
  have gH : sz ≤ Array.size Hq_ := by rw [← hsz]; exact hH.2.1.1
  have lt_h : h < Array.size Hq_ := hH.1.ltM (by rw [hc_h]; simp)
  have lt_qq1_ : qq1_ < Array.size Hq_ := hH.1.ltM (by rw [hc_qq1_]; simp)
  refine goV hK hH (runI (As := []) (rest := [.ref qq1_, .ref h]) hC hK hH (c_X8_init hc_qq1_ lt_qq1_) mlX9_11 ⟨⟨Nat.le_of_ble_eq_true rfl, Nat.le_of_ble_eq_true rfl⟩, Nat.le_of_ble_eq_true rfl, Nat.le_of_ble_eq_true rfl⟩ rfl hl.1 rfl (Nat.le_of_ble_eq_true rfl) dX9_init_9) (fun Mq3_ Tq4_ Hq_ lcq_ hP hz hH => ?_)
  try dsimp only at hP
  obtain ⟨csq5_, bsq6_, tpq7_, hc_qq1_, hc_csq5_, t_bsq6_, t_tpq7_, g_csq5_, g_bsq6_, g_tpq7_, hsub, hfr⟩ := hP
  have n_h_csq5_ : h ≠ csq5_ := Nat.ne_of_lt (Nat.lt_of_lt_of_le lt_h g_csq5_)
  have n_csq5__h : csq5_ ≠ h := Ne.symm n_h_csq5_
  have n_qq1__csq5_ : qq1_ ≠ csq5_ := Nat.ne_of_lt (Nat.lt_of_lt_of_le lt_qq1_ g_csq5_)
  have n_csq5__qq1_ : csq5_ ≠ qq1_ := Ne.symm n_qq1__csq5_
  have n_h_bsq6_ : h ≠ bsq6_ := Nat.ne_of_lt (Nat.lt_of_lt_of_le lt_h g_bsq6_)
  have n_bsq6__h : bsq6_ ≠ h := Ne.symm n_h_bsq6_
  have n_qq1__bsq6_ : qq1_ ≠ bsq6_ := Nat.ne_of_lt (Nat.lt_of_lt_of_le lt_qq1_ g_bsq6_)
  have n_bsq6__qq1_ : bsq6_ ≠ qq1_ := Ne.symm n_qq1__bsq6_
  have n_h_tpq7_ : h ≠ tpq7_ := Nat.ne_of_lt (Nat.lt_of_lt_of_le lt_h g_tpq7_)
  have n_tpq7__h : tpq7_ ≠ h := Ne.symm n_h_tpq7_
  have n_qq1__tpq7_ : qq1_ ≠ tpq7_ := Nat.ne_of_lt (Nat.lt_of_lt_of_le lt_qq1_ g_tpq7_)
  have n_tpq7__qq1_ : tpq7_ ≠ qq1_ := Ne.symm n_qq1__tpq7_
  have hc_h : Mq3_ h = some (.inr (7, [.null, .null, .null, .null, .null])) := (hfr h n_h_qq1_ lt_h).trans hc_h
  have g_csq5_ : sz ≤ csq5_ := Nat.le_trans gH g_csq5_
  have g_bsq6_ : sz ≤ bsq6_ := Nat.le_trans gH g_bsq6_
  have g_tpq7_ : sz ≤ tpq7_ := Nat.le_trans gH g_tpq7_
  have hTT : ∀ a t, T a = some t → Tq4_ a = some t := fun a t h => hsub _ _ (hTT a t h)
  have hF : ∀ a, a ≠ h → a < sz → Mq3_ a = M a := fun a h0 h1 => (hfr a (Nat.ne_of_lt (Nat.lt_of_lt_of_le h1 g_qq1_)) (Nat.lt_of_lt_of_le h1 gH)).trans (hF a h0 h1)
  refine ypF (v := .ref qq1_) hC hK hH hnm (fun _ _ _ h => by cases h; rfl) flX9_12 hc_h rfl rfl (Nat.le_of_ble_eq_true rfl) dX9_init_12 (fun Hq_ lcq_ Mq8_ hc_h hfr hH => ?_)
  have hc_h : Mq8_ h = some (.inr (7, [.ref qq1_, .null, .null, .null, .null])) := hc_h
  have hc_qq1_ : Mq8_ qq1_ = some (.inr (6, [.int 0, .int 2, .int 0, .int 0, .int 0, .int 0, .int 0, .int (-1), .ref csq5_, .ref bsq6_, .ref tpq7_])) := (hfr qq1_ n_qq1__h).trans hc_qq1_
  have hc_csq5_ : Mq8_ csq5_ = some (.inl (kA 0, 8, .inl (c100 (fun _ => 0)))) := (hfr csq5_ n_csq5__h).trans hc_csq5_
  have hF : ∀ a, a ≠ h → a < sz → Mq8_ a = M a := fun a h0 h1 => (hfr a h0).trans (hF a h0 h1)
  refine lv_aload_n hx hb dX9_init_15 rfl (lv_at hl 0 rfl) ?_
  refine lv_iconst (v := 3) hx hb dX9_init_16 (by decide) ?_
  refine ynewq (ck := 6) (N := 3) hC hK hH wcX9_9 (by decide) rfl (by decide) (by decide) (by decide) (Nat.le_of_ble_eq_true rfl) (Nat.le_of_ble_eq_true rfl) dX9_init_17 (fun qq9_ Hq_ Mq10_ e_qq9_ hz nM_qq9_ nT_qq9_ hc_qq9_ hfr hN => ?_)
  have g_qq9_ : sz ≤ qq9_ := by rw [← hsz, e_qq9_]; exact hH.2.1.1
  have n_h_qq9_ : h ≠ qq9_ := neN hc_h nM_qq9_
  have n_qq9__h : qq9_ ≠ h := Ne.symm n_h_qq9_
  have n_qq1__qq9_ : qq1_ ≠ qq9_ := neN hc_qq1_ nM_qq9_
  have n_qq9__qq1_ : qq9_ ≠ qq1_ := Ne.symm n_qq1__qq9_
  have n_csq5__qq9_ : csq5_ ≠ qq9_ := neN hc_csq5_ nM_qq9_
  have n_qq9__csq5_ : qq9_ ≠ csq5_ := Ne.symm n_csq5__qq9_
  have hH := hN
  have hc_qq9_ : Mq10_ qq9_ = some (.inl (kA 6, 3, .inr (.inr (.inr (.inr (fun _ => none)))))) := hc_qq9_
  have hc_h : Mq10_ h = some (.inr (7, [.ref qq1_, .null, .null, .null, .null])) := (hfr h n_h_qq9_).trans hc_h
  have hc_qq1_ : Mq10_ qq1_ = some (.inr (6, [.int 0, .int 2, .int 0, .int 0, .int 0, .int 0, .int 0, .int (-1), .ref csq5_, .ref bsq6_, .ref tpq7_])) := (hfr qq1_ n_qq1__qq9_).trans hc_qq1_
  have hc_csq5_ : Mq10_ csq5_ = some (.inl (kA 0, 8, .inl (c100 (fun _ => 0)))) := (hfr csq5_ n_csq5__qq9_).trans hc_csq5_
  have hF : ∀ a, a ≠ h → a < sz → Mq10_ a = M a := fun a h0 h1 => (hfr a (Nat.ne_of_lt (Nat.lt_of_lt_of_le h1 g_qq9_))).trans (hF a h0 h1)
  refine ypF (v := .ref qq9_) hC hK hH hnm (fun _ _ _ h => by cases h; rfl) flX9_16 hc_h rfl rfl (Nat.le_of_ble_eq_true rfl) dX9_init_20 (fun Hq_ lcq_ Mq11_ hc_h hfr hH => ?_)
  have hc_h : Mq11_ h = some (.inr (7, [.ref qq1_, .ref qq9_, .null, .null, .null])) := hc_h
  have hc_qq1_ : Mq11_ qq1_ = some (.inr (6, [.int 0, .int 2, .int 0, .int 0, .int 0, .int 0, .int 0, .int (-1), .ref csq5_, .ref bsq6_, .ref tpq7_])) := (hfr qq1_ n_qq1__h).trans hc_qq1_
  have hc_csq5_ : Mq11_ csq5_ = some (.inl (kA 0, 8, .inl (c100 (fun _ => 0)))) := (hfr csq5_ n_csq5__h).trans hc_csq5_
  have hc_qq9_ : Mq11_ qq9_ = some (.inl (kA 6, 3, .inr (.inr (.inr (.inr (fun _ => none)))))) := (hfr qq9_ n_qq9__h).trans hc_qq9_
  have hF : ∀ a, a ≠ h → a < sz → Mq11_ a = M a := fun a h0 h1 => (hfr a h0).trans (hF a h0 h1)
  refine lv_aload_n hx hb dX9_init_23 rfl (lv_at hl 0 rfl) ?_
  refine ynew hC hK hH nlX9_20 (Nat.le_of_ble_eq_true rfl) (Nat.le_of_ble_eq_true rfl) dX9_init_24 (fun qq12_ Hq_ Mq13_ e_qq12_ hz nM_qq12_ nT_qq12_ hc_qq12_ hfr hN => ?_)
  have g_qq12_ : sz ≤ qq12_ := by rw [← hsz, e_qq12_]; exact hH.2.1.1
  have n_h_qq12_ : h ≠ qq12_ := neN hc_h nM_qq12_
  have n_qq12__h : qq12_ ≠ h := Ne.symm n_h_qq12_
  have n_qq1__qq12_ : qq1_ ≠ qq12_ := neN hc_qq1_ nM_qq12_
  have n_qq12__qq1_ : qq12_ ≠ qq1_ := Ne.symm n_qq1__qq12_
  have n_csq5__qq12_ : csq5_ ≠ qq12_ := neN hc_csq5_ nM_qq12_
  have n_qq12__csq5_ : qq12_ ≠ csq5_ := Ne.symm n_csq5__qq12_
  have n_qq9__qq12_ : qq9_ ≠ qq12_ := neN hc_qq9_ nM_qq12_
  have n_qq12__qq9_ : qq12_ ≠ qq9_ := Ne.symm n_qq9__qq12_
  have hH := hN
  have hc_qq12_ : Mq13_ qq12_ = some (.inr (3, [.null, .null, .int 0, .int 0, .null, .int 0, .int 0, .int 0, .int 0, .int 0])) := hc_qq12_
  have hc_h : Mq13_ h = some (.inr (7, [.ref qq1_, .ref qq9_, .null, .null, .null])) := (hfr h n_h_qq12_).trans hc_h
  have hc_qq1_ : Mq13_ qq1_ = some (.inr (6, [.int 0, .int 2, .int 0, .int 0, .int 0, .int 0, .int 0, .int (-1), .ref csq5_, .ref bsq6_, .ref tpq7_])) := (hfr qq1_ n_qq1__qq12_).trans hc_qq1_
  have hc_csq5_ : Mq13_ csq5_ = some (.inl (kA 0, 8, .inl (c100 (fun _ => 0)))) := (hfr csq5_ n_csq5__qq12_).trans hc_csq5_
  have hc_qq9_ : Mq13_ qq9_ = some (.inl (kA 6, 3, .inr (.inr (.inr (.inr (fun _ => none)))))) := (hfr qq9_ n_qq9__qq12_).trans hc_qq9_
  have hF : ∀ a, a ≠ h → a < sz → Mq13_ a = M a := fun a h0 h1 => (hfr a (Nat.ne_of_lt (Nat.lt_of_lt_of_le h1 g_qq12_))).trans (hF a h0 h1)
  refine lv_dup hx hb dX9_init_27 rfl ?_
  have lt_qq12_ : qq12_ < Array.size Hq_ := hH.1.ltM (by rw [hc_qq12_]; simp)
  have gH : sz ≤ Array.size Hq_ := by rw [← hsz]; exact hH.2.1.1
  have lt_h : h < Array.size Hq_ := hH.1.ltM (by rw [hc_h]; simp)
  have lt_qq1_ : qq1_ < Array.size Hq_ := hH.1.ltM (by rw [hc_qq1_]; simp)
  have lt_csq5_ : csq5_ < Array.size Hq_ := hH.1.ltM (by rw [hc_csq5_]; simp)
  have lt_qq9_ : qq9_ < Array.size Hq_ := hH.1.ltM (by rw [hc_qq9_]; simp)
  have lt_qq12_ : qq12_ < Array.size Hq_ := hH.1.ltM (by rw [hc_qq12_]; simp)
  refine goV hK hH (runINZ (As := []) (rest := [.ref qq12_, .ref h]) hC hK hH hZ (c_X4_init hc_qq12_ lt_qq12_) mlX9_22 ⟨⟨Nat.le_of_ble_eq_true rfl, Nat.le_of_ble_eq_true rfl⟩, Nat.le_of_ble_eq_true rfl, Nat.le_of_ble_eq_true rfl⟩ rfl hl.1 rfl (Nat.le_of_ble_eq_true rfl) dX9_init_28) (fun Mq14_ Tq15_ Hq_ lcq_ hP hz hH => ?_)
  try dsimp only at hP
  obtain ⟨nbq16_, by_q17_, hc_qq12_, g_nbq16_, g_by_q17_, hsub, hfr⟩ := hP
  have n_h_nbq16_ : h ≠ nbq16_ := Nat.ne_of_lt (Nat.lt_of_lt_of_le lt_h g_nbq16_)
  have n_nbq16__h : nbq16_ ≠ h := Ne.symm n_h_nbq16_
  have n_qq1__nbq16_ : qq1_ ≠ nbq16_ := Nat.ne_of_lt (Nat.lt_of_lt_of_le lt_qq1_ g_nbq16_)
  have n_nbq16__qq1_ : nbq16_ ≠ qq1_ := Ne.symm n_qq1__nbq16_
  have n_csq5__nbq16_ : csq5_ ≠ nbq16_ := Nat.ne_of_lt (Nat.lt_of_lt_of_le lt_csq5_ g_nbq16_)
  have n_nbq16__csq5_ : nbq16_ ≠ csq5_ := Ne.symm n_csq5__nbq16_
  have n_qq9__nbq16_ : qq9_ ≠ nbq16_ := Nat.ne_of_lt (Nat.lt_of_lt_of_le lt_qq9_ g_nbq16_)
  have n_nbq16__qq9_ : nbq16_ ≠ qq9_ := Ne.symm n_qq9__nbq16_
  have n_qq12__nbq16_ : qq12_ ≠ nbq16_ := Nat.ne_of_lt (Nat.lt_of_lt_of_le lt_qq12_ g_nbq16_)
  have n_nbq16__qq12_ : nbq16_ ≠ qq12_ := Ne.symm n_qq12__nbq16_
  have n_h_by_q17_ : h ≠ by_q17_ := Nat.ne_of_lt (Nat.lt_of_lt_of_le lt_h g_by_q17_)
  have n_by_q17__h : by_q17_ ≠ h := Ne.symm n_h_by_q17_
  have n_qq1__by_q17_ : qq1_ ≠ by_q17_ := Nat.ne_of_lt (Nat.lt_of_lt_of_le lt_qq1_ g_by_q17_)
  have n_by_q17__qq1_ : by_q17_ ≠ qq1_ := Ne.symm n_qq1__by_q17_
  have n_csq5__by_q17_ : csq5_ ≠ by_q17_ := Nat.ne_of_lt (Nat.lt_of_lt_of_le lt_csq5_ g_by_q17_)
  have n_by_q17__csq5_ : by_q17_ ≠ csq5_ := Ne.symm n_csq5__by_q17_
  have n_qq9__by_q17_ : qq9_ ≠ by_q17_ := Nat.ne_of_lt (Nat.lt_of_lt_of_le lt_qq9_ g_by_q17_)
  have n_by_q17__qq9_ : by_q17_ ≠ qq9_ := Ne.symm n_qq9__by_q17_
  have n_qq12__by_q17_ : qq12_ ≠ by_q17_ := Nat.ne_of_lt (Nat.lt_of_lt_of_le lt_qq12_ g_by_q17_)
  have n_by_q17__qq12_ : by_q17_ ≠ qq12_ := Ne.symm n_qq12__by_q17_
  have hc_h : Mq14_ h = some (.inr (7, [.ref qq1_, .ref qq9_, .null, .null, .null])) := (hfr h n_h_qq12_ lt_h).trans hc_h
  have hc_qq1_ : Mq14_ qq1_ = some (.inr (6, [.int 0, .int 2, .int 0, .int 0, .int 0, .int 0, .int 0, .int (-1), .ref csq5_, .ref bsq6_, .ref tpq7_])) := (hfr qq1_ n_qq1__qq12_ lt_qq1_).trans hc_qq1_
  have hc_csq5_ : Mq14_ csq5_ = some (.inl (kA 0, 8, .inl (c100 (fun _ => 0)))) := (hfr csq5_ n_csq5__qq12_ lt_csq5_).trans hc_csq5_
  have hc_qq9_ : Mq14_ qq9_ = some (.inl (kA 6, 3, .inr (.inr (.inr (.inr (fun _ => none)))))) := (hfr qq9_ n_qq9__qq12_ lt_qq9_).trans hc_qq9_
  have t_bsq6_ : Tq15_ bsq6_ = some 6 := hsub _ _ t_bsq6_
  have t_tpq7_ : Tq15_ tpq7_ = some 7 := hsub _ _ t_tpq7_
  have g_nbq16_ : sz ≤ nbq16_ := Nat.le_trans gH g_nbq16_
  have g_by_q17_ : sz ≤ by_q17_ := Nat.le_trans gH g_by_q17_
  have hTT : ∀ a t, T a = some t → Tq15_ a = some t := fun a t h => hsub _ _ (hTT a t h)
  have hF : ∀ a, a ≠ h → a < sz → Mq14_ a = M a := fun a h0 h1 => (hfr a (Nat.ne_of_lt (Nat.lt_of_lt_of_le h1 g_qq12_)) (Nat.lt_of_lt_of_le h1 gH)).trans (hF a h0 h1)
  refine ypF (v := .ref qq12_) hC hK hH hnm (fun _ _ _ h => by cases h; rfl) flX9_23 hc_h rfl rfl (Nat.le_of_ble_eq_true rfl) dX9_init_31 (fun Hq_ lcq_ Mq18_ hc_h hfr hH => ?_)
  have hc_h : Mq18_ h = some (.inr (7, [.ref qq1_, .ref qq9_, .ref qq12_, .null, .null])) := hc_h
  have hc_qq1_ : Mq18_ qq1_ = some (.inr (6, [.int 0, .int 2, .int 0, .int 0, .int 0, .int 0, .int 0, .int (-1), .ref csq5_, .ref bsq6_, .ref tpq7_])) := (hfr qq1_ n_qq1__h).trans hc_qq1_
  have hc_csq5_ : Mq18_ csq5_ = some (.inl (kA 0, 8, .inl (c100 (fun _ => 0)))) := (hfr csq5_ n_csq5__h).trans hc_csq5_
  have hc_qq9_ : Mq18_ qq9_ = some (.inl (kA 6, 3, .inr (.inr (.inr (.inr (fun _ => none)))))) := (hfr qq9_ n_qq9__h).trans hc_qq9_
  have hc_qq12_ : Mq18_ qq12_ = some (.inr (3, [.ref nbq16_, .ref vb, .int 0, .int 0, .ref by_q17_, .int 0, .int 0, .int 0, .int 0, .int 0])) := (hfr qq12_ n_qq12__h).trans hc_qq12_
  have hF : ∀ a, a ≠ h → a < sz → Mq18_ a = M a := fun a h0 h1 => (hfr a h0).trans (hF a h0 h1)
  refine lv_aload_n hx hb dX9_init_34 rfl (lv_at hl 0 rfl) ?_
  refine ynew hC hK hH nlX9_27 (Nat.le_of_ble_eq_true rfl) (Nat.le_of_ble_eq_true rfl) dX9_init_35 (fun qq19_ Hq_ Mq20_ e_qq19_ hz nM_qq19_ nT_qq19_ hc_qq19_ hfr hN => ?_)
  have g_qq19_ : sz ≤ qq19_ := by rw [← hsz, e_qq19_]; exact hH.2.1.1
  have n_h_qq19_ : h ≠ qq19_ := neN hc_h nM_qq19_
  have n_qq19__h : qq19_ ≠ h := Ne.symm n_h_qq19_
  have n_qq1__qq19_ : qq1_ ≠ qq19_ := neN hc_qq1_ nM_qq19_
  have n_qq19__qq1_ : qq19_ ≠ qq1_ := Ne.symm n_qq1__qq19_
  have n_csq5__qq19_ : csq5_ ≠ qq19_ := neN hc_csq5_ nM_qq19_
  have n_qq19__csq5_ : qq19_ ≠ csq5_ := Ne.symm n_csq5__qq19_
  have n_qq9__qq19_ : qq9_ ≠ qq19_ := neN hc_qq9_ nM_qq19_
  have n_qq19__qq9_ : qq19_ ≠ qq9_ := Ne.symm n_qq9__qq19_
  have n_qq12__qq19_ : qq12_ ≠ qq19_ := neN hc_qq12_ nM_qq19_
  have n_qq19__qq12_ : qq19_ ≠ qq12_ := Ne.symm n_qq12__qq19_
  have hH := hN
  have hc_qq19_ : Mq20_ qq19_ = some (.inr (4, [.null, .null, .null, .int 0])) := hc_qq19_
  have hc_h : Mq20_ h = some (.inr (7, [.ref qq1_, .ref qq9_, .ref qq12_, .null, .null])) := (hfr h n_h_qq19_).trans hc_h
  have hc_qq1_ : Mq20_ qq1_ = some (.inr (6, [.int 0, .int 2, .int 0, .int 0, .int 0, .int 0, .int 0, .int (-1), .ref csq5_, .ref bsq6_, .ref tpq7_])) := (hfr qq1_ n_qq1__qq19_).trans hc_qq1_
  have hc_csq5_ : Mq20_ csq5_ = some (.inl (kA 0, 8, .inl (c100 (fun _ => 0)))) := (hfr csq5_ n_csq5__qq19_).trans hc_csq5_
  have hc_qq9_ : Mq20_ qq9_ = some (.inl (kA 6, 3, .inr (.inr (.inr (.inr (fun _ => none)))))) := (hfr qq9_ n_qq9__qq19_).trans hc_qq9_
  have hc_qq12_ : Mq20_ qq12_ = some (.inr (3, [.ref nbq16_, .ref vb, .int 0, .int 0, .ref by_q17_, .int 0, .int 0, .int 0, .int 0, .int 0])) := (hfr qq12_ n_qq12__qq19_).trans hc_qq12_
  have hF : ∀ a, a ≠ h → a < sz → Mq20_ a = M a := fun a h0 h1 => (hfr a (Nat.ne_of_lt (Nat.lt_of_lt_of_le h1 g_qq19_))).trans (hF a h0 h1)
  refine lv_dup hx hb dX9_init_38 rfl ?_
  have lt_qq19_ : qq19_ < Array.size Hq_ := hH.1.ltM (by rw [hc_qq19_]; simp)
  have gH : sz ≤ Array.size Hq_ := by rw [← hsz]; exact hH.2.1.1
  have lt_h : h < Array.size Hq_ := hH.1.ltM (by rw [hc_h]; simp)
  have lt_qq1_ : qq1_ < Array.size Hq_ := hH.1.ltM (by rw [hc_qq1_]; simp)
  have lt_csq5_ : csq5_ < Array.size Hq_ := hH.1.ltM (by rw [hc_csq5_]; simp)
  have lt_qq9_ : qq9_ < Array.size Hq_ := hH.1.ltM (by rw [hc_qq9_]; simp)
  have lt_qq12_ : qq12_ < Array.size Hq_ := hH.1.ltM (by rw [hc_qq12_]; simp)
  have lt_qq19_ : qq19_ < Array.size Hq_ := hH.1.ltM (by rw [hc_qq19_]; simp)
  refine goV hK hH (runIN (As := []) (rest := [.ref qq19_, .ref h]) hC hK hH (c_X5_init hc_qq19_ lt_qq19_) mlX9_29 ⟨⟨Nat.le_of_ble_eq_true rfl, Nat.le_of_ble_eq_true rfl⟩, Nat.le_of_ble_eq_true rfl, Nat.le_of_ble_eq_true rfl⟩ rfl hl.1 rfl (Nat.le_of_ble_eq_true rfl) dX9_init_39) (fun Mq21_ Tq22_ Hq_ lcq_ hP hz hH => ?_)
  try dsimp only at hP
  obtain ⟨nM_qq19_, t_qq19_, hsub, hfr⟩ := hP
  have hc_h : Mq21_ h = some (.inr (7, [.ref qq1_, .ref qq9_, .ref qq12_, .null, .null])) := (hfr h n_h_qq19_ lt_h).trans hc_h
  have hc_qq1_ : Mq21_ qq1_ = some (.inr (6, [.int 0, .int 2, .int 0, .int 0, .int 0, .int 0, .int 0, .int (-1), .ref csq5_, .ref bsq6_, .ref tpq7_])) := (hfr qq1_ n_qq1__qq19_ lt_qq1_).trans hc_qq1_
  have hc_csq5_ : Mq21_ csq5_ = some (.inl (kA 0, 8, .inl (c100 (fun _ => 0)))) := (hfr csq5_ n_csq5__qq19_ lt_csq5_).trans hc_csq5_
  have hc_qq9_ : Mq21_ qq9_ = some (.inl (kA 6, 3, .inr (.inr (.inr (.inr (fun _ => none)))))) := (hfr qq9_ n_qq9__qq19_ lt_qq9_).trans hc_qq9_
  have hc_qq12_ : Mq21_ qq12_ = some (.inr (3, [.ref nbq16_, .ref vb, .int 0, .int 0, .ref by_q17_, .int 0, .int 0, .int 0, .int 0, .int 0])) := (hfr qq12_ n_qq12__qq19_ lt_qq12_).trans hc_qq12_
  have t_bsq6_ : Tq22_ bsq6_ = some 6 := hsub _ _ t_bsq6_
  have t_tpq7_ : Tq22_ tpq7_ = some 7 := hsub _ _ t_tpq7_
  have hTT : ∀ a t, T a = some t → Tq22_ a = some t := fun a t h => hsub _ _ (hTT a t h)
  have hF : ∀ a, a ≠ h → a < sz → Mq21_ a = M a := fun a h0 h1 => (hfr a (Nat.ne_of_lt (Nat.lt_of_lt_of_le h1 g_qq19_)) (Nat.lt_of_lt_of_le h1 gH)).trans (hF a h0 h1)
  refine ypF (v := .ref qq19_) hC hK hH hnm (fun _ _ _ h => by cases h; rfl) flX9_30 hc_h rfl rfl (Nat.le_of_ble_eq_true rfl) dX9_init_42 (fun Hq_ lcq_ Mq23_ hc_h hfr hH => ?_)
  have hc_h : Mq23_ h = some (.inr (7, [.ref qq1_, .ref qq9_, .ref qq12_, .ref qq19_, .null])) := hc_h
  have hc_qq1_ : Mq23_ qq1_ = some (.inr (6, [.int 0, .int 2, .int 0, .int 0, .int 0, .int 0, .int 0, .int (-1), .ref csq5_, .ref bsq6_, .ref tpq7_])) := (hfr qq1_ n_qq1__h).trans hc_qq1_
  have hc_csq5_ : Mq23_ csq5_ = some (.inl (kA 0, 8, .inl (c100 (fun _ => 0)))) := (hfr csq5_ n_csq5__h).trans hc_csq5_
  have hc_qq9_ : Mq23_ qq9_ = some (.inl (kA 6, 3, .inr (.inr (.inr (.inr (fun _ => none)))))) := (hfr qq9_ n_qq9__h).trans hc_qq9_
  have hc_qq12_ : Mq23_ qq12_ = some (.inr (3, [.ref nbq16_, .ref vb, .int 0, .int 0, .ref by_q17_, .int 0, .int 0, .int 0, .int 0, .int 0])) := (hfr qq12_ n_qq12__h).trans hc_qq12_
  have hF : ∀ a, a ≠ h → a < sz → Mq23_ a = M a := fun a h0 h1 => (hfr a h0).trans (hF a h0 h1)
  refine lv_aload_n hx hb dX9_init_45 rfl (lv_at hl 0 rfl) ?_
  refine ynew hC hK hH nlX9_34 (Nat.le_of_ble_eq_true rfl) (Nat.le_of_ble_eq_true rfl) dX9_init_46 (fun qq24_ Hq_ Mq25_ e_qq24_ hz nM_qq24_ nT_qq24_ hc_qq24_ hfr hN => ?_)
  have g_qq24_ : sz ≤ qq24_ := by rw [← hsz, e_qq24_]; exact hH.2.1.1
  have n_h_qq24_ : h ≠ qq24_ := neN hc_h nM_qq24_
  have n_qq24__h : qq24_ ≠ h := Ne.symm n_h_qq24_
  have n_qq1__qq24_ : qq1_ ≠ qq24_ := neN hc_qq1_ nM_qq24_
  have n_qq24__qq1_ : qq24_ ≠ qq1_ := Ne.symm n_qq1__qq24_
  have n_csq5__qq24_ : csq5_ ≠ qq24_ := neN hc_csq5_ nM_qq24_
  have n_qq24__csq5_ : qq24_ ≠ csq5_ := Ne.symm n_csq5__qq24_
  have n_qq9__qq24_ : qq9_ ≠ qq24_ := neN hc_qq9_ nM_qq24_
  have n_qq24__qq9_ : qq24_ ≠ qq9_ := Ne.symm n_qq9__qq24_
  have n_qq12__qq24_ : qq12_ ≠ qq24_ := neN hc_qq12_ nM_qq24_
  have n_qq24__qq12_ : qq24_ ≠ qq12_ := Ne.symm n_qq12__qq24_
  have hH := hN
  have hc_qq24_ : Mq25_ qq24_ = some (.inr (2, [.null])) := hc_qq24_
  have hc_h : Mq25_ h = some (.inr (7, [.ref qq1_, .ref qq9_, .ref qq12_, .ref qq19_, .null])) := (hfr h n_h_qq24_).trans hc_h
  have hc_qq1_ : Mq25_ qq1_ = some (.inr (6, [.int 0, .int 2, .int 0, .int 0, .int 0, .int 0, .int 0, .int (-1), .ref csq5_, .ref bsq6_, .ref tpq7_])) := (hfr qq1_ n_qq1__qq24_).trans hc_qq1_
  have hc_csq5_ : Mq25_ csq5_ = some (.inl (kA 0, 8, .inl (c100 (fun _ => 0)))) := (hfr csq5_ n_csq5__qq24_).trans hc_csq5_
  have hc_qq9_ : Mq25_ qq9_ = some (.inl (kA 6, 3, .inr (.inr (.inr (.inr (fun _ => none)))))) := (hfr qq9_ n_qq9__qq24_).trans hc_qq9_
  have hc_qq12_ : Mq25_ qq12_ = some (.inr (3, [.ref nbq16_, .ref vb, .int 0, .int 0, .ref by_q17_, .int 0, .int 0, .int 0, .int 0, .int 0])) := (hfr qq12_ n_qq12__qq24_).trans hc_qq12_
  have hF : ∀ a, a ≠ h → a < sz → Mq25_ a = M a := fun a h0 h1 => (hfr a (Nat.ne_of_lt (Nat.lt_of_lt_of_le h1 g_qq24_))).trans (hF a h0 h1)
  refine lv_dup hx hb dX9_init_49 rfl ?_
  have lt_qq24_ : qq24_ < Array.size Hq_ := hH.1.ltM (by rw [hc_qq24_]; simp)
  have gH : sz ≤ Array.size Hq_ := by rw [← hsz]; exact hH.2.1.1
  have lt_h : h < Array.size Hq_ := hH.1.ltM (by rw [hc_h]; simp)
  have lt_qq1_ : qq1_ < Array.size Hq_ := hH.1.ltM (by rw [hc_qq1_]; simp)
  have lt_csq5_ : csq5_ < Array.size Hq_ := hH.1.ltM (by rw [hc_csq5_]; simp)
  have lt_qq9_ : qq9_ < Array.size Hq_ := hH.1.ltM (by rw [hc_qq9_]; simp)
  have lt_qq12_ : qq12_ < Array.size Hq_ := hH.1.ltM (by rw [hc_qq12_]; simp)
  have lt_qq24_ : qq24_ < Array.size Hq_ := hH.1.ltM (by rw [hc_qq24_]; simp)
  refine goV hK hH (runI (As := []) (rest := [.ref qq24_, .ref h]) hC hK hH (c_X3_init hc_qq24_ lt_qq24_) mlX9_36 ⟨⟨Nat.le_of_ble_eq_true rfl, Nat.le_of_ble_eq_true rfl⟩, Nat.le_of_ble_eq_true rfl, Nat.le_of_ble_eq_true rfl⟩ rfl hl.1 rfl (Nat.le_of_ble_eq_true rfl) dX9_init_50) (fun Mq26_ Tq27_ Hq_ lcq_ hP hz hH => ?_)
  try dsimp only at hP
  obtain ⟨nM_qq24_, t_qq24_, hsub, hfr⟩ := hP
  have hc_h : Mq26_ h = some (.inr (7, [.ref qq1_, .ref qq9_, .ref qq12_, .ref qq19_, .null])) := (hfr h n_h_qq24_ lt_h).trans hc_h
  have hc_qq1_ : Mq26_ qq1_ = some (.inr (6, [.int 0, .int 2, .int 0, .int 0, .int 0, .int 0, .int 0, .int (-1), .ref csq5_, .ref bsq6_, .ref tpq7_])) := (hfr qq1_ n_qq1__qq24_ lt_qq1_).trans hc_qq1_
  have hc_csq5_ : Mq26_ csq5_ = some (.inl (kA 0, 8, .inl (c100 (fun _ => 0)))) := (hfr csq5_ n_csq5__qq24_ lt_csq5_).trans hc_csq5_
  have hc_qq9_ : Mq26_ qq9_ = some (.inl (kA 6, 3, .inr (.inr (.inr (.inr (fun _ => none)))))) := (hfr qq9_ n_qq9__qq24_ lt_qq9_).trans hc_qq9_
  have hc_qq12_ : Mq26_ qq12_ = some (.inr (3, [.ref nbq16_, .ref vb, .int 0, .int 0, .ref by_q17_, .int 0, .int 0, .int 0, .int 0, .int 0])) := (hfr qq12_ n_qq12__qq24_ lt_qq12_).trans hc_qq12_
  have t_bsq6_ : Tq27_ bsq6_ = some 6 := hsub _ _ t_bsq6_
  have t_tpq7_ : Tq27_ tpq7_ = some 7 := hsub _ _ t_tpq7_
  have t_qq19_ : Tq27_ qq19_ = some 10 := hsub _ _ t_qq19_
  have hTT : ∀ a t, T a = some t → Tq27_ a = some t := fun a t h => hsub _ _ (hTT a t h)
  have hF : ∀ a, a ≠ h → a < sz → Mq26_ a = M a := fun a h0 h1 => (hfr a (Nat.ne_of_lt (Nat.lt_of_lt_of_le h1 g_qq24_)) (Nat.lt_of_lt_of_le h1 gH)).trans (hF a h0 h1)
  refine ypF (v := .ref qq24_) hC hK hH hnm (fun _ _ _ h => by cases h; rfl) flX9_37 hc_h rfl rfl (Nat.le_of_ble_eq_true rfl) dX9_init_53 (fun Hq_ lcq_ Mq28_ hc_h hfr hH => ?_)
  have hc_h : Mq28_ h = some (.inr (7, [.ref qq1_, .ref qq9_, .ref qq12_, .ref qq19_, .ref qq24_])) := hc_h
  have hc_qq1_ : Mq28_ qq1_ = some (.inr (6, [.int 0, .int 2, .int 0, .int 0, .int 0, .int 0, .int 0, .int (-1), .ref csq5_, .ref bsq6_, .ref tpq7_])) := (hfr qq1_ n_qq1__h).trans hc_qq1_
  have hc_csq5_ : Mq28_ csq5_ = some (.inl (kA 0, 8, .inl (c100 (fun _ => 0)))) := (hfr csq5_ n_csq5__h).trans hc_csq5_
  have hc_qq9_ : Mq28_ qq9_ = some (.inl (kA 6, 3, .inr (.inr (.inr (.inr (fun _ => none)))))) := (hfr qq9_ n_qq9__h).trans hc_qq9_
  have hc_qq12_ : Mq28_ qq12_ = some (.inr (3, [.ref nbq16_, .ref vb, .int 0, .int 0, .ref by_q17_, .int 0, .int 0, .int 0, .int 0, .int 0])) := (hfr qq12_ n_qq12__h).trans hc_qq12_
  have hF : ∀ a, a ≠ h → a < sz → Mq28_ a = M a := fun a h0 h1 => (hfr a h0).trans (hF a h0 h1)
  exact ret_v hC hr hlk hK hH (⟨qq1_, qq9_, qq12_, qq19_, qq24_, csq5_, bsq6_, tpq7_, nbq16_, by_q17_, hc_h, hc_qq1_, hc_qq9_, hc_qq12_, hc_csq5_, t_bsq6_, t_tpq7_, g_qq1_, g_qq9_, g_qq12_, g_qq19_, g_qq24_, g_csq5_, g_bsq6_, g_tpq7_, g_nbq16_, g_by_q17_, hTT, hF⟩) (Nat.le_of_ble_eq_true rfl) (Nat.le_of_ble_eq_true rfl) dX9_init_56
