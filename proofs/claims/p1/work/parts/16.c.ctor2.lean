set_option maxHeartbeats 4000000 in
set_option maxRecDepth 100000 in
theorem c_X8_init {l : Launch} {D : va_G} {kA : Nat → ClassId} {M : mM} {T : mT} {sz h : Nat} (hc_h : M h = some (.inr (6, [.int 0, .int 0, .int 0, .int 0, .int 0, .int 0, .int 0, .int 0, .null, .null, .null]))) (hlt : h < sz) : mCv l yX8_init cX8_init 2 3 91 1616 D kA M T sz [.ref h] (fun u => ∃ cs bs tp, u.1 h = some (.inr (6, [.int 0, .int 2, .int 0, .int 0, .int 0, .int 0, .int 0, .int (-1), .ref cs, .ref bs, .ref tp])) ∧ u.1 cs = some (.inl (kA 0, 8, .inl (c100 (fun _ => 0)))) ∧ u.2 bs = some 6 ∧ u.2 tp = some 7 ∧ sz ≤ cs ∧ sz ≤ bs ∧ sz ≤ tp ∧ (∀ a t, T a = some t → u.2 a = some t) ∧ ∀ a, a ≠ h → a < sz → u.1 a = M a) := by
  unfold mCv
  refine start_W (by decide) (Nat.le_of_ble_eq_true rfl) ?_
  intro p e s m below meth c ls hC hr hlk hnm hK hH hsz hl
  have hx := hC.1
  have hb := hC.2.1
  have hl : lv_has ls 2 [(0, .ref h)] := hl
  have hF : ∀ a, a ≠ h → a < sz → M a = M a := fun a _ _ => rfl
  have hTT : ∀ a t, T a = some t → T a = some t := fun _ _ h => h
  refine lv_aload_n hx hb dX8_init_0 rfl (lv_at hl 0 rfl) ?_
  refine W.objInit hx hb hC.2.2.2.1 (hC.2.2.2.2 _ wlX8_3) (hC.2.2.2.2 _ w_oi) (hC.2.2.2.2 _ w_oc) rfl (by rw [hC.2.2.1]; exact hl.1) rfl dX8_init_1 (Nat.le_of_ble_eq_true rfl) (Nat.le_of_ble_eq_true rfl) ?_
  refine W.eq (g2 := F0 m 4 ls []) rfl ?_
  refine lv_aload_n hx hb dX8_init_4 rfl (lv_at hl 0 rfl) ?_
  refine lv_bipush (v := 8) hx hb dX8_init_5 (by decide) ?_
  refine ynewa (atype := .int) (ck := 0) (N := 8) (a0 := (8, .inl (fun _ => 0))) hC hK hH rfl w_ac0 rfl (fun _ h => by cases h) (fun _ => rfl) (by decide) (by decide) (by decide) (Nat.le_of_ble_eq_true rfl) (Nat.le_of_ble_eq_true rfl) dX8_init_7 (fun q1 H M2 e_q1 hz nM_q1 nT_q1 hc_q1 hfr hN => ?_)
  have g_q1 : sz ≤ q1 := by rw [← hsz, e_q1]; exact hH.2.1.1
  have n_h_q1 : h ≠ q1 := neN hc_h nM_q1
  have n_q1_h : q1 ≠ h := Ne.symm n_h_q1
  have hH := hN
  have hc_q1 : M2 q1 = some (.inl (kA 0, 8, .inl (fun _ => 0))) := hc_q1
  have hc_h : M2 h = some (.inr (6, [.int 0, .int 0, .int 0, .int 0, .int 0, .int 0, .int 0, .int 0, .null, .null, .null])) := (hfr h n_h_q1).trans hc_h
  have hF : ∀ a, a ≠ h → a < sz → M2 a = M a := fun a h0 h1 => (hfr a (Nat.ne_of_lt (Nat.lt_of_lt_of_le h1 g_q1))).trans (hF a h0 h1)
  refine ypF (v := .ref q1) hC hK hH hnm (fun _ _ _ h => by cases h; rfl) flX8_9 hc_h rfl rfl (Nat.le_of_ble_eq_true rfl) dX8_init_9 (fun H locs M3 hc_h hfr hH => ?_)
  have hc_h : M3 h = some (.inr (6, [.int 0, .int 0, .int 0, .int 0, .int 0, .int 0, .int 0, .int 0, .ref q1, .null, .null])) := hc_h
  have hc_q1 : M3 q1 = some (.inl (kA 0, 8, .inl (fun _ => 0))) := (hfr q1 n_q1_h).trans hc_q1
  have hF : ∀ a, a ≠ h → a < sz → M3 a = M a := fun a h0 h1 => (hfr a h0).trans (hF a h0 h1)
  refine lv_aload_n hx hb dX8_init_12 rfl (lv_at hl 0 rfl) ?_
  refine lv_iconst (v := 4) hx hb dX8_init_13 (by decide) ?_
  refine ynewq (ck := 5) (N := 4) hC hK hH wcX8_15 (by decide) rfl (by decide) (by decide) (by decide) (Nat.le_of_ble_eq_true rfl) (Nat.le_of_ble_eq_true rfl) dX8_init_14 (fun q4 H M5 e_q4 hz nM_q4 nT_q4 hc_q4 hfr hN => ?_)
  have g_q4 : sz ≤ q4 := by rw [← hsz, e_q4]; exact hH.2.1.1
  have n_h_q4 : h ≠ q4 := neN hc_h nM_q4
  have n_q4_h : q4 ≠ h := Ne.symm n_h_q4
  have n_q1_q4 : q1 ≠ q4 := neN hc_q1 nM_q4
  have n_q4_q1 : q4 ≠ q1 := Ne.symm n_q1_q4
  have hH := hN
  have hc_q4 : M5 q4 = some (.inl (kA 5, 4, .inr (.inr (.inr (.inr (fun _ => none)))))) := hc_q4
  have hc_h : M5 h = some (.inr (6, [.int 0, .int 0, .int 0, .int 0, .int 0, .int 0, .int 0, .int 0, .ref q1, .null, .null])) := (hfr h n_h_q4).trans hc_h
  have hc_q1 : M5 q1 = some (.inl (kA 0, 8, .inl (fun _ => 0))) := (hfr q1 n_q1_q4).trans hc_q1
  have hF : ∀ a, a ≠ h → a < sz → M5 a = M a := fun a h0 h1 => (hfr a (Nat.ne_of_lt (Nat.lt_of_lt_of_le h1 g_q4))).trans (hF a h0 h1)
  refine ypF (v := .ref q4) hC hK hH hnm (fun _ _ _ h => by cases h; rfl) flX8_17 hc_h rfl rfl (Nat.le_of_ble_eq_true rfl) dX8_init_17 (fun H locs M6 hc_h hfr hH => ?_)
  have hc_h : M6 h = some (.inr (6, [.int 0, .int 0, .int 0, .int 0, .int 0, .int 0, .int 0, .int 0, .ref q1, .ref q4, .null])) := hc_h
  have hc_q1 : M6 q1 = some (.inl (kA 0, 8, .inl (fun _ => 0))) := (hfr q1 n_q1_h).trans hc_q1
  have hc_q4 : M6 q4 = some (.inl (kA 5, 4, .inr (.inr (.inr (.inr (fun _ => none)))))) := (hfr q4 n_q4_h).trans hc_q4
  have hF : ∀ a, a ≠ h → a < sz → M6 a = M a := fun a h0 h1 => (hfr a h0).trans (hF a h0 h1)
  refine lv_aload_n hx hb dX8_init_20 rfl (lv_at hl 0 rfl) ?_
  refine lv_sipush (v := 600) hx hb dX8_init_21 (by decide) ?_
  refine ynewa (atype := .byte) (ck := 1) (N := 600) (a0 := (600, .inl (fun _ => 0))) hC hK hH rfl w_ac1 rfl (fun _ h => by cases h) (fun _ => rfl) (by decide) (by decide) (by decide) (Nat.le_of_ble_eq_true rfl) (Nat.le_of_ble_eq_true rfl) dX8_init_24 (fun q7 H M8 e_q7 hz nM_q7 nT_q7 hc_q7 hfr hN => ?_)
  have g_q7 : sz ≤ q7 := by rw [← hsz, e_q7]; exact hH.2.1.1
  have n_h_q7 : h ≠ q7 := neN hc_h nM_q7
  have n_q7_h : q7 ≠ h := Ne.symm n_h_q7
  have n_q1_q7 : q1 ≠ q7 := neN hc_q1 nM_q7
  have n_q7_q1 : q7 ≠ q1 := Ne.symm n_q1_q7
  have n_q4_q7 : q4 ≠ q7 := neN hc_q4 nM_q7
  have n_q7_q4 : q7 ≠ q4 := Ne.symm n_q4_q7
  have hH := hN
  have hc_q7 : M8 q7 = some (.inl (kA 1, 600, .inl (fun _ => 0))) := hc_q7
  have hc_h : M8 h = some (.inr (6, [.int 0, .int 0, .int 0, .int 0, .int 0, .int 0, .int 0, .int 0, .ref q1, .ref q4, .null])) := (hfr h n_h_q7).trans hc_h
  have hc_q1 : M8 q1 = some (.inl (kA 0, 8, .inl (fun _ => 0))) := (hfr q1 n_q1_q7).trans hc_q1
  have hc_q4 : M8 q4 = some (.inl (kA 5, 4, .inr (.inr (.inr (.inr (fun _ => none)))))) := (hfr q4 n_q4_q7).trans hc_q4
  have hF : ∀ a, a ≠ h → a < sz → M8 a = M a := fun a h0 h1 => (hfr a (Nat.ne_of_lt (Nat.lt_of_lt_of_le h1 g_q7))).trans (hF a h0 h1)
  refine ypF (v := .ref q7) hC hK hH hnm (fun _ _ _ h => by cases h; rfl) flX8_21 hc_h rfl rfl (Nat.le_of_ble_eq_true rfl) dX8_init_26 (fun H locs M9 hc_h hfr hH => ?_)
  have hc_h : M9 h = some (.inr (6, [.int 0, .int 0, .int 0, .int 0, .int 0, .int 0, .int 0, .int 0, .ref q1, .ref q4, .ref q7])) := hc_h
  have hc_q1 : M9 q1 = some (.inl (kA 0, 8, .inl (fun _ => 0))) := (hfr q1 n_q1_h).trans hc_q1
  have hc_q4 : M9 q4 = some (.inl (kA 5, 4, .inr (.inr (.inr (.inr (fun _ => none)))))) := (hfr q4 n_q4_h).trans hc_q4
  have hc_q7 : M9 q7 = some (.inl (kA 1, 600, .inl (fun _ => 0))) := (hfr q7 n_q7_h).trans hc_q7
  have hF : ∀ a, a ≠ h → a < sz → M9 a = M a := fun a h0 h1 => (hfr a h0).trans (hF a h0 h1)
  refine lv_iconst (v := 0) hx hb dX8_init_29 (by decide) ?_
  refine lv_istore_n (lv' := [(1, .int 0), (0, .ref h)]) hx hb dX8_init_30 rfl hl (by decide) rfl (fun ls hl => ?_)
  refine lv_iload_n hx hb dX8_init_31 rfl (lv_at hl 0 rfl) ?_
  refine lv_iconst (v := 4) hx hb dX8_init_32 (by decide) ?_
  refine jic_ge (tgt := 55) hx hb dX8_init_33 (by decide) (fun c10 => absurd c10 (by decide)) (fun c10 => ?_)
  refine lv_aload_n hx hb dX8_init_36 rfl (lv_at hl 1 rfl) ?_
  refine xg hC hK hH flX8_17 hc_h rfl dX8_init_37 ?_
  refine lv_iload_n hx hb dX8_init_40 rfl (lv_at hl 0 rfl) ?_
  refine ynew hC hK hH nlX8_15 (Nat.le_of_ble_eq_true rfl) (Nat.le_of_ble_eq_true rfl) dX8_init_41 (fun q11 H M12 e_q11 hz nM_q11 nT_q11 hc_q11 hfr hN => ?_)
  have g_q11 : sz ≤ q11 := by rw [← hsz, e_q11]; exact hH.2.1.1
  have n_h_q11 : h ≠ q11 := neN hc_h nM_q11
  have n_q11_h : q11 ≠ h := Ne.symm n_h_q11
  have n_q1_q11 : q1 ≠ q11 := neN hc_q1 nM_q11
  have n_q11_q1 : q11 ≠ q1 := Ne.symm n_q1_q11
  have n_q4_q11 : q4 ≠ q11 := neN hc_q4 nM_q11
  have n_q11_q4 : q11 ≠ q4 := Ne.symm n_q4_q11
  have n_q7_q11 : q7 ≠ q11 := neN hc_q7 nM_q11
  have n_q11_q7 : q11 ≠ q7 := Ne.symm n_q7_q11
  have hH := hN
  have hc_q11 : M12 q11 = some (.inr (0, [.int 0, .int 0, .int 0, .int 0, .int 0, .int 0, .int 0, .int 0, .int 0, .int 0, .int 0, .int 0, .null, .null, .null, .null, .null, .null, .null])) := hc_q11
  have hc_h : M12 h = some (.inr (6, [.int 0, .int 0, .int 0, .int 0, .int 0, .int 0, .int 0, .int 0, .ref q1, .ref q4, .ref q7])) := (hfr h n_h_q11).trans hc_h
  have hc_q1 : M12 q1 = some (.inl (kA 0, 8, .inl (fun _ => 0))) := (hfr q1 n_q1_q11).trans hc_q1
  have hc_q4 : M12 q4 = some (.inl (kA 5, 4, .inr (.inr (.inr (.inr (fun _ => none)))))) := (hfr q4 n_q4_q11).trans hc_q4
  have hc_q7 : M12 q7 = some (.inl (kA 1, 600, .inl (fun _ => 0))) := (hfr q7 n_q7_q11).trans hc_q7
  have hF : ∀ a, a ≠ h → a < sz → M12 a = M a := fun a h0 h1 => (hfr a (Nat.ne_of_lt (Nat.lt_of_lt_of_le h1 g_q11))).trans (hF a h0 h1)
  refine lv_dup hx hb dX8_init_44 rfl ?_
  have lt_q11 : q11 < Array.size H := hH.1.ltM (by rw [hc_q11]; simp)
  have gH : sz ≤ Array.size H := by rw [← hsz]; exact hH.2.1.1
  have lt_h : h < Array.size H := hH.1.ltM (by rw [hc_h]; simp)
  have lt_q1 : q1 < Array.size H := hH.1.ltM (by rw [hc_q1]; simp)
  have lt_q4 : q4 < Array.size H := hH.1.ltM (by rw [hc_q4]; simp)
  have lt_q7 : q7 < Array.size H := hH.1.ltM (by rw [hc_q7]; simp)
  have lt_q11 : q11 < Array.size H := hH.1.ltM (by rw [hc_q11]; simp)
  refine goV hK hH (runI (As := []) (rest := [.ref q11, .int 0, .ref q4]) hC hK hH (c_X1_init hc_q11 lt_q11) mlX8_25 ⟨⟨Nat.le_of_ble_eq_true rfl, Nat.le_of_ble_eq_true rfl⟩, Nat.le_of_ble_eq_true rfl, Nat.le_of_ble_eq_true rfl⟩ rfl hl.1 rfl (Nat.le_of_ble_eq_true rfl) dX8_init_45) (fun M13 T14 H locs hP hz hH => ?_)
  try dsimp only at hP
  obtain ⟨nM_q11, t_q11, hsub, hfr⟩ := hP
  have hc_h : M13 h = some (.inr (6, [.int 0, .int 0, .int 0, .int 0, .int 0, .int 0, .int 0, .int 0, .ref q1, .ref q4, .ref q7])) := (hfr h n_h_q11 lt_h).trans hc_h
  have hc_q1 : M13 q1 = some (.inl (kA 0, 8, .inl (fun _ => 0))) := (hfr q1 n_q1_q11 lt_q1).trans hc_q1
  have hc_q4 : M13 q4 = some (.inl (kA 5, 4, .inr (.inr (.inr (.inr (fun _ => none)))))) := (hfr q4 n_q4_q11 lt_q4).trans hc_q4
  have hc_q7 : M13 q7 = some (.inl (kA 1, 600, .inl (fun _ => 0))) := (hfr q7 n_q7_q11 lt_q7).trans hc_q7
  have hTT : ∀ a t, T a = some t → T14 a = some t := fun a t h => hsub _ _ (hTT a t h)
  have hF : ∀ a, a ≠ h → a < sz → M13 a = M a := fun a h0 h1 => (hfr a (Nat.ne_of_lt (Nat.lt_of_lt_of_le h1 g_q11)) (Nat.lt_of_lt_of_le h1 gH)).trans (hF a h0 h1)
  refine yqst (ck := 5) (cv := 0) (v := q11) hC hK hH rfl rfl hc_q4 (let ⟨fs, h1, _⟩ := tcell hH t_q11 rfl; ⟨fs, h1⟩) (iIn (by decide) (by decide)) dX8_init_48 (fun H locs M15 hc_q4 hfr hH => ?_)
  have hc_q4 : M15 q4 = some (.inl (kA 5, 4, .inr (.inr (.inr (.inr (va_up (fun _ => none) (Int32.toNatClampNeg 0) (some q11))))))) := hc_q4
  have hc_h : M15 h = some (.inr (6, [.int 0, .int 0, .int 0, .int 0, .int 0, .int 0, .int 0, .int 0, .ref q1, .ref q4, .ref q7])) := (hfr h n_h_q4).trans hc_h
  have hc_q1 : M15 q1 = some (.inl (kA 0, 8, .inl (fun _ => 0))) := (hfr q1 n_q1_q4).trans hc_q1
  have hc_q7 : M15 q7 = some (.inl (kA 1, 600, .inl (fun _ => 0))) := (hfr q7 n_q7_q4).trans hc_q7
  have hF : ∀ a, a ≠ h → a < sz → M15 a = M a := fun a h0 h1 => (hfr a (Nat.ne_of_lt (Nat.lt_of_lt_of_le h1 g_q4))).trans (hF a h0 h1)
  refine lv_iinc (v := 1) (lv' := [(1, .int 1), (0, .ref h)]) hx hb dX8_init_49 hl (k := 0) rfl (by decide) (by decide) rfl (fun ls hl => ?_)
  refine lv_goto (tgt := 31) hx hb dX8_init_52 (by decide) ?_
  refine lv_iload_n hx hb dX8_init_31 rfl (lv_at hl 0 rfl) ?_
  refine lv_iconst (v := 4) hx hb dX8_init_32 (by decide) ?_
  refine jic_ge (tgt := 55) hx hb dX8_init_33 (by decide) (fun c16 => absurd c16 (by decide)) (fun c16 => ?_)
  refine lv_aload_n hx hb dX8_init_36 rfl (lv_at hl 1 rfl) ?_
  refine xg hC hK hH flX8_17 hc_h rfl dX8_init_37 ?_
  refine lv_iload_n hx hb dX8_init_40 rfl (lv_at hl 0 rfl) ?_
  refine ynew hC hK hH nlX8_15 (Nat.le_of_ble_eq_true rfl) (Nat.le_of_ble_eq_true rfl) dX8_init_41 (fun q17 H M18 e_q17 hz nM_q17 nT_q17 hc_q17 hfr hN => ?_)
  have g_q17 : sz ≤ q17 := by rw [← hsz, e_q17]; exact hH.2.1.1
  have n_h_q17 : h ≠ q17 := neN hc_h nM_q17
  have n_q17_h : q17 ≠ h := Ne.symm n_h_q17
  have n_q1_q17 : q1 ≠ q17 := neN hc_q1 nM_q17
  have n_q17_q1 : q17 ≠ q1 := Ne.symm n_q1_q17
  have n_q4_q17 : q4 ≠ q17 := neN hc_q4 nM_q17
  have n_q17_q4 : q17 ≠ q4 := Ne.symm n_q4_q17
  have n_q7_q17 : q7 ≠ q17 := neN hc_q7 nM_q17
  have n_q17_q7 : q17 ≠ q7 := Ne.symm n_q7_q17
  have hH := hN
  have hc_q17 : M18 q17 = some (.inr (0, [.int 0, .int 0, .int 0, .int 0, .int 0, .int 0, .int 0, .int 0, .int 0, .int 0, .int 0, .int 0, .null, .null, .null, .null, .null, .null, .null])) := hc_q17
  have hc_h : M18 h = some (.inr (6, [.int 0, .int 0, .int 0, .int 0, .int 0, .int 0, .int 0, .int 0, .ref q1, .ref q4, .ref q7])) := (hfr h n_h_q17).trans hc_h
  have hc_q1 : M18 q1 = some (.inl (kA 0, 8, .inl (fun _ => 0))) := (hfr q1 n_q1_q17).trans hc_q1
  have hc_q4 : M18 q4 = some (.inl (kA 5, 4, .inr (.inr (.inr (.inr (va_up (fun _ => none) (Int32.toNatClampNeg 0) (some q11))))))) := (hfr q4 n_q4_q17).trans hc_q4
  have hc_q7 : M18 q7 = some (.inl (kA 1, 600, .inl (fun _ => 0))) := (hfr q7 n_q7_q17).trans hc_q7
  have hF : ∀ a, a ≠ h → a < sz → M18 a = M a := fun a h0 h1 => (hfr a (Nat.ne_of_lt (Nat.lt_of_lt_of_le h1 g_q17))).trans (hF a h0 h1)
  refine lv_dup hx hb dX8_init_44 rfl ?_
  have lt_q17 : q17 < Array.size H := hH.1.ltM (by rw [hc_q17]; simp)
  have gH : sz ≤ Array.size H := by rw [← hsz]; exact hH.2.1.1
  have lt_h : h < Array.size H := hH.1.ltM (by rw [hc_h]; simp)
  have lt_q1 : q1 < Array.size H := hH.1.ltM (by rw [hc_q1]; simp)
  have lt_q4 : q4 < Array.size H := hH.1.ltM (by rw [hc_q4]; simp)
  have lt_q7 : q7 < Array.size H := hH.1.ltM (by rw [hc_q7]; simp)
  have lt_q17 : q17 < Array.size H := hH.1.ltM (by rw [hc_q17]; simp)
  refine goV hK hH (runI (As := []) (rest := [.ref q17, .int 1, .ref q4]) hC hK hH (c_X1_init hc_q17 lt_q17) mlX8_25 ⟨⟨Nat.le_of_ble_eq_true rfl, Nat.le_of_ble_eq_true rfl⟩, Nat.le_of_ble_eq_true rfl, Nat.le_of_ble_eq_true rfl⟩ rfl hl.1 rfl (Nat.le_of_ble_eq_true rfl) dX8_init_45) (fun M19 T20 H locs hP hz hH => ?_)
  try dsimp only at hP
  obtain ⟨nM_q17, t_q17, hsub, hfr⟩ := hP
  have hc_h : M19 h = some (.inr (6, [.int 0, .int 0, .int 0, .int 0, .int 0, .int 0, .int 0, .int 0, .ref q1, .ref q4, .ref q7])) := (hfr h n_h_q17 lt_h).trans hc_h
  have hc_q1 : M19 q1 = some (.inl (kA 0, 8, .inl (fun _ => 0))) := (hfr q1 n_q1_q17 lt_q1).trans hc_q1
  have hc_q4 : M19 q4 = some (.inl (kA 5, 4, .inr (.inr (.inr (.inr (va_up (fun _ => none) (Int32.toNatClampNeg 0) (some q11))))))) := (hfr q4 n_q4_q17 lt_q4).trans hc_q4
  have hc_q7 : M19 q7 = some (.inl (kA 1, 600, .inl (fun _ => 0))) := (hfr q7 n_q7_q17 lt_q7).trans hc_q7
  have t_q11 : T20 q11 = some 2 := hsub _ _ t_q11
  have hTT : ∀ a t, T a = some t → T20 a = some t := fun a t h => hsub _ _ (hTT a t h)
  have hF : ∀ a, a ≠ h → a < sz → M19 a = M a := fun a h0 h1 => (hfr a (Nat.ne_of_lt (Nat.lt_of_lt_of_le h1 g_q17)) (Nat.lt_of_lt_of_le h1 gH)).trans (hF a h0 h1)
  refine yqst (ck := 5) (cv := 0) (v := q17) hC hK hH rfl rfl hc_q4 (let ⟨fs, h1, _⟩ := tcell hH t_q17 rfl; ⟨fs, h1⟩) (iIn (by decide) (by decide)) dX8_init_48 (fun H locs M21 hc_q4 hfr hH => ?_)
  have hc_q4 : M21 q4 = some (.inl (kA 5, 4, .inr (.inr (.inr (.inr (va_up (va_up (fun _ => none) (Int32.toNatClampNeg 0) (some q11)) (Int32.toNatClampNeg 1) (some q17))))))) := hc_q4
  have hc_h : M21 h = some (.inr (6, [.int 0, .int 0, .int 0, .int 0, .int 0, .int 0, .int 0, .int 0, .ref q1, .ref q4, .ref q7])) := (hfr h n_h_q4).trans hc_h
  have hc_q1 : M21 q1 = some (.inl (kA 0, 8, .inl (fun _ => 0))) := (hfr q1 n_q1_q4).trans hc_q1
  have hc_q7 : M21 q7 = some (.inl (kA 1, 600, .inl (fun _ => 0))) := (hfr q7 n_q7_q4).trans hc_q7
  have hF : ∀ a, a ≠ h → a < sz → M21 a = M a := fun a h0 h1 => (hfr a (Nat.ne_of_lt (Nat.lt_of_lt_of_le h1 g_q4))).trans (hF a h0 h1)
  refine lv_iinc (v := 2) (lv' := [(1, .int 2), (0, .ref h)]) hx hb dX8_init_49 hl (k := 0) rfl (by decide) (by decide) rfl (fun ls hl => ?_)
  refine lv_goto (tgt := 31) hx hb dX8_init_52 (by decide) ?_
  refine lv_iload_n hx hb dX8_init_31 rfl (lv_at hl 0 rfl) ?_
  refine lv_iconst (v := 4) hx hb dX8_init_32 (by decide) ?_
  refine jic_ge (tgt := 55) hx hb dX8_init_33 (by decide) (fun c22 => absurd c22 (by decide)) (fun c22 => ?_)
  refine lv_aload_n hx hb dX8_init_36 rfl (lv_at hl 1 rfl) ?_
  refine xg hC hK hH flX8_17 hc_h rfl dX8_init_37 ?_
  refine lv_iload_n hx hb dX8_init_40 rfl (lv_at hl 0 rfl) ?_
  refine ynew hC hK hH nlX8_15 (Nat.le_of_ble_eq_true rfl) (Nat.le_of_ble_eq_true rfl) dX8_init_41 (fun q23 H M24 e_q23 hz nM_q23 nT_q23 hc_q23 hfr hN => ?_)
  have g_q23 : sz ≤ q23 := by rw [← hsz, e_q23]; exact hH.2.1.1
  have n_h_q23 : h ≠ q23 := neN hc_h nM_q23
  have n_q23_h : q23 ≠ h := Ne.symm n_h_q23
  have n_q1_q23 : q1 ≠ q23 := neN hc_q1 nM_q23
  have n_q23_q1 : q23 ≠ q1 := Ne.symm n_q1_q23
  have n_q4_q23 : q4 ≠ q23 := neN hc_q4 nM_q23
  have n_q23_q4 : q23 ≠ q4 := Ne.symm n_q4_q23
  have n_q7_q23 : q7 ≠ q23 := neN hc_q7 nM_q23
  have n_q23_q7 : q23 ≠ q7 := Ne.symm n_q7_q23
  have hH := hN
  have hc_q23 : M24 q23 = some (.inr (0, [.int 0, .int 0, .int 0, .int 0, .int 0, .int 0, .int 0, .int 0, .int 0, .int 0, .int 0, .int 0, .null, .null, .null, .null, .null, .null, .null])) := hc_q23
  have hc_h : M24 h = some (.inr (6, [.int 0, .int 0, .int 0, .int 0, .int 0, .int 0, .int 0, .int 0, .ref q1, .ref q4, .ref q7])) := (hfr h n_h_q23).trans hc_h
  have hc_q1 : M24 q1 = some (.inl (kA 0, 8, .inl (fun _ => 0))) := (hfr q1 n_q1_q23).trans hc_q1
  have hc_q4 : M24 q4 = some (.inl (kA 5, 4, .inr (.inr (.inr (.inr (va_up (va_up (fun _ => none) (Int32.toNatClampNeg 0) (some q11)) (Int32.toNatClampNeg 1) (some q17))))))) := (hfr q4 n_q4_q23).trans hc_q4
  have hc_q7 : M24 q7 = some (.inl (kA 1, 600, .inl (fun _ => 0))) := (hfr q7 n_q7_q23).trans hc_q7
  have hF : ∀ a, a ≠ h → a < sz → M24 a = M a := fun a h0 h1 => (hfr a (Nat.ne_of_lt (Nat.lt_of_lt_of_le h1 g_q23))).trans (hF a h0 h1)
  refine lv_dup hx hb dX8_init_44 rfl ?_
  have lt_q23 : q23 < Array.size H := hH.1.ltM (by rw [hc_q23]; simp)
  have gH : sz ≤ Array.size H := by rw [← hsz]; exact hH.2.1.1
  have lt_h : h < Array.size H := hH.1.ltM (by rw [hc_h]; simp)
  have lt_q1 : q1 < Array.size H := hH.1.ltM (by rw [hc_q1]; simp)
  have lt_q4 : q4 < Array.size H := hH.1.ltM (by rw [hc_q4]; simp)
  have lt_q7 : q7 < Array.size H := hH.1.ltM (by rw [hc_q7]; simp)
  have lt_q23 : q23 < Array.size H := hH.1.ltM (by rw [hc_q23]; simp)
  refine goV hK hH (runI (As := []) (rest := [.ref q23, .int 2, .ref q4]) hC hK hH (c_X1_init hc_q23 lt_q23) mlX8_25 ⟨⟨Nat.le_of_ble_eq_true rfl, Nat.le_of_ble_eq_true rfl⟩, Nat.le_of_ble_eq_true rfl, Nat.le_of_ble_eq_true rfl⟩ rfl hl.1 rfl (Nat.le_of_ble_eq_true rfl) dX8_init_45) (fun M25 T26 H locs hP hz hH => ?_)
  try dsimp only at hP
  obtain ⟨nM_q23, t_q23, hsub, hfr⟩ := hP
  have hc_h : M25 h = some (.inr (6, [.int 0, .int 0, .int 0, .int 0, .int 0, .int 0, .int 0, .int 0, .ref q1, .ref q4, .ref q7])) := (hfr h n_h_q23 lt_h).trans hc_h
  have hc_q1 : M25 q1 = some (.inl (kA 0, 8, .inl (fun _ => 0))) := (hfr q1 n_q1_q23 lt_q1).trans hc_q1
  have hc_q4 : M25 q4 = some (.inl (kA 5, 4, .inr (.inr (.inr (.inr (va_up (va_up (fun _ => none) (Int32.toNatClampNeg 0) (some q11)) (Int32.toNatClampNeg 1) (some q17))))))) := (hfr q4 n_q4_q23 lt_q4).trans hc_q4
  have hc_q7 : M25 q7 = some (.inl (kA 1, 600, .inl (fun _ => 0))) := (hfr q7 n_q7_q23 lt_q7).trans hc_q7
  have t_q11 : T26 q11 = some 2 := hsub _ _ t_q11
  have t_q17 : T26 q17 = some 2 := hsub _ _ t_q17
  have hTT : ∀ a t, T a = some t → T26 a = some t := fun a t h => hsub _ _ (hTT a t h)
  have hF : ∀ a, a ≠ h → a < sz → M25 a = M a := fun a h0 h1 => (hfr a (Nat.ne_of_lt (Nat.lt_of_lt_of_le h1 g_q23)) (Nat.lt_of_lt_of_le h1 gH)).trans (hF a h0 h1)
  refine yqst (ck := 5) (cv := 0) (v := q23) hC hK hH rfl rfl hc_q4 (let ⟨fs, h1, _⟩ := tcell hH t_q23 rfl; ⟨fs, h1⟩) (iIn (by decide) (by decide)) dX8_init_48 (fun H locs M27 hc_q4 hfr hH => ?_)
  have hc_q4 : M27 q4 = some (.inl (kA 5, 4, .inr (.inr (.inr (.inr (va_up (va_up (va_up (fun _ => none) (Int32.toNatClampNeg 0) (some q11)) (Int32.toNatClampNeg 1) (some q17)) (Int32.toNatClampNeg 2) (some q23))))))) := hc_q4
  have hc_h : M27 h = some (.inr (6, [.int 0, .int 0, .int 0, .int 0, .int 0, .int 0, .int 0, .int 0, .ref q1, .ref q4, .ref q7])) := (hfr h n_h_q4).trans hc_h
  have hc_q1 : M27 q1 = some (.inl (kA 0, 8, .inl (fun _ => 0))) := (hfr q1 n_q1_q4).trans hc_q1
  have hc_q7 : M27 q7 = some (.inl (kA 1, 600, .inl (fun _ => 0))) := (hfr q7 n_q7_q4).trans hc_q7
  have hF : ∀ a, a ≠ h → a < sz → M27 a = M a := fun a h0 h1 => (hfr a (Nat.ne_of_lt (Nat.lt_of_lt_of_le h1 g_q4))).trans (hF a h0 h1)
  refine lv_iinc (v := 3) (lv' := [(1, .int 3), (0, .ref h)]) hx hb dX8_init_49 hl (k := 0) rfl (by decide) (by decide) rfl (fun ls hl => ?_)
  refine lv_goto (tgt := 31) hx hb dX8_init_52 (by decide) ?_
  refine lv_iload_n hx hb dX8_init_31 rfl (lv_at hl 0 rfl) ?_
  refine lv_iconst (v := 4) hx hb dX8_init_32 (by decide) ?_
  refine jic_ge (tgt := 55) hx hb dX8_init_33 (by decide) (fun c28 => absurd c28 (by decide)) (fun c28 => ?_)
  refine lv_aload_n hx hb dX8_init_36 rfl (lv_at hl 1 rfl) ?_
  refine xg hC hK hH flX8_17 hc_h rfl dX8_init_37 ?_
  refine lv_iload_n hx hb dX8_init_40 rfl (lv_at hl 0 rfl) ?_
  refine ynew hC hK hH nlX8_15 (Nat.le_of_ble_eq_true rfl) (Nat.le_of_ble_eq_true rfl) dX8_init_41 (fun q29 H M30 e_q29 hz nM_q29 nT_q29 hc_q29 hfr hN => ?_)
  have g_q29 : sz ≤ q29 := by rw [← hsz, e_q29]; exact hH.2.1.1
  have n_h_q29 : h ≠ q29 := neN hc_h nM_q29
  have n_q29_h : q29 ≠ h := Ne.symm n_h_q29
  have n_q1_q29 : q1 ≠ q29 := neN hc_q1 nM_q29
  have n_q29_q1 : q29 ≠ q1 := Ne.symm n_q1_q29
  have n_q4_q29 : q4 ≠ q29 := neN hc_q4 nM_q29
  have n_q29_q4 : q29 ≠ q4 := Ne.symm n_q4_q29
  have n_q7_q29 : q7 ≠ q29 := neN hc_q7 nM_q29
  have n_q29_q7 : q29 ≠ q7 := Ne.symm n_q7_q29
  have hH := hN
  have hc_q29 : M30 q29 = some (.inr (0, [.int 0, .int 0, .int 0, .int 0, .int 0, .int 0, .int 0, .int 0, .int 0, .int 0, .int 0, .int 0, .null, .null, .null, .null, .null, .null, .null])) := hc_q29
  have hc_h : M30 h = some (.inr (6, [.int 0, .int 0, .int 0, .int 0, .int 0, .int 0, .int 0, .int 0, .ref q1, .ref q4, .ref q7])) := (hfr h n_h_q29).trans hc_h
  have hc_q1 : M30 q1 = some (.inl (kA 0, 8, .inl (fun _ => 0))) := (hfr q1 n_q1_q29).trans hc_q1
  have hc_q4 : M30 q4 = some (.inl (kA 5, 4, .inr (.inr (.inr (.inr (va_up (va_up (va_up (fun _ => none) (Int32.toNatClampNeg 0) (some q11)) (Int32.toNatClampNeg 1) (some q17)) (Int32.toNatClampNeg 2) (some q23))))))) := (hfr q4 n_q4_q29).trans hc_q4
  have hc_q7 : M30 q7 = some (.inl (kA 1, 600, .inl (fun _ => 0))) := (hfr q7 n_q7_q29).trans hc_q7
  have hF : ∀ a, a ≠ h → a < sz → M30 a = M a := fun a h0 h1 => (hfr a (Nat.ne_of_lt (Nat.lt_of_lt_of_le h1 g_q29))).trans (hF a h0 h1)
  refine lv_dup hx hb dX8_init_44 rfl ?_
  have lt_q29 : q29 < Array.size H := hH.1.ltM (by rw [hc_q29]; simp)
  have gH : sz ≤ Array.size H := by rw [← hsz]; exact hH.2.1.1
  have lt_h : h < Array.size H := hH.1.ltM (by rw [hc_h]; simp)
  have lt_q1 : q1 < Array.size H := hH.1.ltM (by rw [hc_q1]; simp)
  have lt_q4 : q4 < Array.size H := hH.1.ltM (by rw [hc_q4]; simp)
  have lt_q7 : q7 < Array.size H := hH.1.ltM (by rw [hc_q7]; simp)
  have lt_q29 : q29 < Array.size H := hH.1.ltM (by rw [hc_q29]; simp)
  refine goV hK hH (runI (As := []) (rest := [.ref q29, .int 3, .ref q4]) hC hK hH (c_X1_init hc_q29 lt_q29) mlX8_25 ⟨⟨Nat.le_of_ble_eq_true rfl, Nat.le_of_ble_eq_true rfl⟩, Nat.le_of_ble_eq_true rfl, Nat.le_of_ble_eq_true rfl⟩ rfl hl.1 rfl (Nat.le_of_ble_eq_true rfl) dX8_init_45) (fun M31 T32 H locs hP hz hH => ?_)
  try dsimp only at hP
  obtain ⟨nM_q29, t_q29, hsub, hfr⟩ := hP
  have hc_h : M31 h = some (.inr (6, [.int 0, .int 0, .int 0, .int 0, .int 0, .int 0, .int 0, .int 0, .ref q1, .ref q4, .ref q7])) := (hfr h n_h_q29 lt_h).trans hc_h
  have hc_q1 : M31 q1 = some (.inl (kA 0, 8, .inl (fun _ => 0))) := (hfr q1 n_q1_q29 lt_q1).trans hc_q1
  have hc_q4 : M31 q4 = some (.inl (kA 5, 4, .inr (.inr (.inr (.inr (va_up (va_up (va_up (fun _ => none) (Int32.toNatClampNeg 0) (some q11)) (Int32.toNatClampNeg 1) (some q17)) (Int32.toNatClampNeg 2) (some q23))))))) := (hfr q4 n_q4_q29 lt_q4).trans hc_q4
  have hc_q7 : M31 q7 = some (.inl (kA 1, 600, .inl (fun _ => 0))) := (hfr q7 n_q7_q29 lt_q7).trans hc_q7
  have t_q11 : T32 q11 = some 2 := hsub _ _ t_q11
  have t_q17 : T32 q17 = some 2 := hsub _ _ t_q17
  have t_q23 : T32 q23 = some 2 := hsub _ _ t_q23
  have hTT : ∀ a t, T a = some t → T32 a = some t := fun a t h => hsub _ _ (hTT a t h)
  have hF : ∀ a, a ≠ h → a < sz → M31 a = M a := fun a h0 h1 => (hfr a (Nat.ne_of_lt (Nat.lt_of_lt_of_le h1 g_q29)) (Nat.lt_of_lt_of_le h1 gH)).trans (hF a h0 h1)
  refine yqst (ck := 5) (cv := 0) (v := q29) hC hK hH rfl rfl hc_q4 (let ⟨fs, h1, _⟩ := tcell hH t_q29 rfl; ⟨fs, h1⟩) (iIn (by decide) (by decide)) dX8_init_48 (fun H locs M33 hc_q4 hfr hH => ?_)
  have hc_q4 : M33 q4 = some (.inl (kA 5, 4, .inr (.inr (.inr (.inr (va_up (va_up (va_up (va_up (fun _ => none) (Int32.toNatClampNeg 0) (some q11)) (Int32.toNatClampNeg 1) (some q17)) (Int32.toNatClampNeg 2) (some q23)) (Int32.toNatClampNeg 3) (some q29))))))) := hc_q4
  have hc_h : M33 h = some (.inr (6, [.int 0, .int 0, .int 0, .int 0, .int 0, .int 0, .int 0, .int 0, .ref q1, .ref q4, .ref q7])) := (hfr h n_h_q4).trans hc_h
  have hc_q1 : M33 q1 = some (.inl (kA 0, 8, .inl (fun _ => 0))) := (hfr q1 n_q1_q4).trans hc_q1
  have hc_q7 : M33 q7 = some (.inl (kA 1, 600, .inl (fun _ => 0))) := (hfr q7 n_q7_q4).trans hc_q7
  have hF : ∀ a, a ≠ h → a < sz → M33 a = M a := fun a h0 h1 => (hfr a (Nat.ne_of_lt (Nat.lt_of_lt_of_le h1 g_q4))).trans (hF a h0 h1)
  refine lv_iinc (v := 4) (lv' := [(1, .int 4), (0, .ref h)]) hx hb dX8_init_49 hl (k := 0) rfl (by decide) (by decide) rfl (fun ls hl => ?_)
  refine lv_goto (tgt := 31) hx hb dX8_init_52 (by decide) ?_
  refine lv_iload_n hx hb dX8_init_31 rfl (lv_at hl 0 rfl) ?_
  refine lv_iconst (v := 4) hx hb dX8_init_32 (by decide) ?_
  refine jic_ge (tgt := 55) hx hb dX8_init_33 (by decide) (fun c34 => ?_) (fun c34 => absurd c34 (by decide))
  refine lv_aload_n hx hb dX8_init_55 rfl (lv_at hl 1 rfl) ?_
  refine goV hK hH (runV (As := []) (rest := []) hC hK hH (c_X8_begin hc_h hc_q1) mlX8_26 (rcvM hK hH hc_h rfl) ⟨⟨Nat.le_of_ble_eq_true rfl, Nat.le_of_ble_eq_true rfl⟩, Nat.le_of_ble_eq_true rfl, Nat.le_of_ble_eq_true rfl⟩ rfl hl.1 rfl (Nat.le_of_ble_eq_true rfl) dX8_init_56) (fun M35 T36 H locs hP hz hH => ?_)
  try dsimp only at hP
  obtain ⟨(⟨hx_h, hx_q1⟩), eT, hfr⟩ := hP
  have eT := eT.symm; subst eT
  have hc_h : M35 h = some (.inr (6, [.int 0, .int 2, .int 0, .int 0, .int 0, .int 0, .int 0, .int (-1), .ref q1, .ref q4, .ref q7])) := hx_h
  have hc_q1 : M35 q1 = some (.inl (kA 0, 8, .inl (c100 (fun _ => 0)))) := hx_q1
  have hc_q4 : M35 q4 = some (.inl (kA 5, 4, .inr (.inr (.inr (.inr (va_up (va_up (va_up (va_up (fun _ => none) (Int32.toNatClampNeg 0) (some q11)) (Int32.toNatClampNeg 1) (some q17)) (Int32.toNatClampNeg 2) (some q23)) (Int32.toNatClampNeg 3) (some q29))))))) := (hfr q4 n_q4_h n_q4_q1).trans hc_q4
  have hc_q7 : M35 q7 = some (.inl (kA 1, 600, .inl (fun _ => 0))) := (hfr q7 n_q7_h n_q7_q1).trans hc_q7
  have hF : ∀ a, a ≠ h → a < sz → M35 a = M a := fun a h0 h1 => (hfr a h0 (Nat.ne_of_lt (Nat.lt_of_lt_of_le h1 g_q1))).trans (hF a h0 h1)
  have hq : ∀ j, j < 4 → ∃ q, (va_up (va_up (va_up (va_up (fun _ => none) (Int32.toNatClampNeg 0) (some q11)) (Int32.toNatClampNeg 1) (some q17)) (Int32.toNatClampNeg 2) (some q23)) (Int32.toNatClampNeg 3) (some q29)) j = some q ∧ T32 q = some 2 := by
    intro j hj
    rcases (show j = 0 ∨ j = 1 ∨ j = 2 ∨ j = 3 by omega) with rfl | rfl | rfl | rfl
    · exact ⟨q11, rfl, t_q11⟩
    · exact ⟨q17, rfl, t_q17⟩
    · exact ⟨q23, rfl, t_q23⟩
    · exact ⟨q29, rfl, t_q29⟩
  obtain ⟨M38, T39, nM_q4, hfr, t_q4, hfT, hsub, hH⟩ := hH.re2 (τ := 6) hc_q4 (conf_q rfl (fun j hj => let ⟨q, h1, h2⟩ := hq j hj; ⟨q, h1, by rw [upN _ _ (fun z => by rw [z, hH.1.TN (by rw [hc_q4]; simp)] at h2; cases h2)]; exact h2⟩))
  have hc_h : M38 h = some (.inr (6, [.int 0, .int 2, .int 0, .int 0, .int 0, .int 0, .int 0, .int (-1), .ref q1, .ref q4, .ref q7])) := (hfr h n_h_q4).trans hc_h
  have hc_q1 : M38 q1 = some (.inl (kA 0, 8, .inl (c100 (fun _ => 0)))) := (hfr q1 n_q1_q4).trans hc_q1
  have hc_q7 : M38 q7 = some (.inl (kA 1, 600, .inl (fun _ => 0))) := (hfr q7 n_q7_q4).trans hc_q7
  have t_q11 : T39 q11 = some 2 := hsub _ _ t_q11
  have t_q17 : T39 q17 = some 2 := hsub _ _ t_q17
  have t_q23 : T39 q23 = some 2 := hsub _ _ t_q23
  have t_q29 : T39 q29 = some 2 := hsub _ _ t_q29
  have hTT : ∀ a t, T a = some t → T39 a = some t := fun a t h => hsub _ _ (hTT a t h)
  have hF : ∀ a, a ≠ h → a < sz → M38 a = M a := fun a h0 h1 => (hfr a (Nat.ne_of_lt (Nat.lt_of_lt_of_le h1 g_q4))).trans (hF a h0 h1)
  obtain ⟨M40, T41, nM_q7, hfr, t_q7, hfT, hsub, hH⟩ := hH.re2 (τ := 7) hc_q7 (conf_i rfl (fun _ _ => ⟨by decide, by decide⟩))
  have hc_h : M40 h = some (.inr (6, [.int 0, .int 2, .int 0, .int 0, .int 0, .int 0, .int 0, .int (-1), .ref q1, .ref q4, .ref q7])) := (hfr h n_h_q7).trans hc_h
  have hc_q1 : M40 q1 = some (.inl (kA 0, 8, .inl (c100 (fun _ => 0)))) := (hfr q1 n_q1_q7).trans hc_q1
  have t_q11 : T41 q11 = some 2 := hsub _ _ t_q11
  have t_q17 : T41 q17 = some 2 := hsub _ _ t_q17
  have t_q23 : T41 q23 = some 2 := hsub _ _ t_q23
  have t_q29 : T41 q29 = some 2 := hsub _ _ t_q29
  have t_q4 : T41 q4 = some 6 := hsub _ _ t_q4
  have hTT : ∀ a t, T a = some t → T41 a = some t := fun a t h => hsub _ _ (hTT a t h)
  have hF : ∀ a, a ≠ h → a < sz → M40 a = M a := fun a h0 h1 => (hfr a (Nat.ne_of_lt (Nat.lt_of_lt_of_le h1 g_q7))).trans (hF a h0 h1)
  exact ret_v hC hr hlk hK hH (⟨q1, q4, q7, hc_h, hc_q1, t_q4, t_q7, g_q1, g_q4, g_q7, hTT, hF⟩) (Nat.le_of_ble_eq_true rfl) (Nat.le_of_ble_eq_true rfl) dX8_init_59
set_option maxHeartbeats 4000000 in
set_option maxRecDepth 100000 in
theorem c_X5_init {l : Launch} {D : va_G} {kA : Nat → ClassId} {M : mM} {T : mT} {sz h : Nat} (hc_h : M h = some (.inr (4, [.null, .null, .null, .int 0]))) (hlt : h < sz) : mCv l yX5_init cX5_init 1 3 24 273 D kA M T sz [.ref h] (fun u => u.1 h = none ∧ u.2 h = some 10 ∧ (∀ a t, T a = some t → u.2 a = some t) ∧ ∀ a, a ≠ h → a < sz → u.1 a = M a) := by
  unfold mCv
  refine start_W (by decide) (Nat.le_of_ble_eq_true rfl) ?_
  intro p e s m below meth c ls hC hr hlk hnm hK hH hsz hl
  have hx := hC.1
  have hb := hC.2.1
  have hl : lv_has ls 1 [(0, .ref h)] := hl
  have hF : ∀ a, a ≠ h → a < sz → M a = M a := fun a _ _ => rfl
  have hTT : ∀ a t, T a = some t → T a = some t := fun _ _ h => h
  refine lv_aload_n hx hb dX5_init_0 rfl (lv_at hl 0 rfl) ?_
  refine W.objInit hx hb hC.2.2.2.1 (hC.2.2.2.2 _ wlX5_3) (hC.2.2.2.2 _ w_oi) (hC.2.2.2.2 _ w_oc) rfl (by rw [hC.2.2.1]; exact hl.1) rfl dX5_init_1 (Nat.le_of_ble_eq_true rfl) (Nat.le_of_ble_eq_true rfl) ?_
  refine W.eq (g2 := F0 m 4 ls []) rfl ?_
  refine lv_aload_n hx hb dX5_init_4 rfl (lv_at hl 0 rfl) ?_
  refine ynew hC hK hH nlX5_9 (Nat.le_of_ble_eq_true rfl) (Nat.le_of_ble_eq_true rfl) dX5_init_5 (fun q1 H M2 e_q1 hz nM_q1 nT_q1 hc_q1 hfr hN => ?_)
  have g_q1 : sz ≤ q1 := by rw [← hsz, e_q1]; exact hH.2.1.1
  have n_h_q1 : h ≠ q1 := neN hc_h nM_q1
  have n_q1_h : q1 ≠ h := Ne.symm n_h_q1
  have hH := hN
  have hc_q1 : M2 q1 = some (.inr (0, [.int 0, .int 0, .int 0, .int 0, .int 0, .int 0, .int 0, .int 0, .int 0, .int 0, .int 0, .int 0, .null, .null, .null, .null, .null, .null, .null])) := hc_q1
  have hc_h : M2 h = some (.inr (4, [.null, .null, .null, .int 0])) := (hfr h n_h_q1).trans hc_h
  have hF : ∀ a, a ≠ h → a < sz → M2 a = M a := fun a h0 h1 => (hfr a (Nat.ne_of_lt (Nat.lt_of_lt_of_le h1 g_q1))).trans (hF a h0 h1)
  refine lv_dup hx hb dX5_init_8 rfl ?_
  have lt_q1 : q1 < Array.size H := hH.1.ltM (by rw [hc_q1]; simp)
  have gH : sz ≤ Array.size H := by rw [← hsz]; exact hH.2.1.1
  have lt_h : h < Array.size H := hH.1.ltM (by rw [hc_h]; simp)
  have lt_q1 : q1 < Array.size H := hH.1.ltM (by rw [hc_q1]; simp)
  refine goV hK hH (runI (As := []) (rest := [.ref q1, .ref h]) hC hK hH (c_X1_init hc_q1 lt_q1) mlX5_11 ⟨⟨Nat.le_of_ble_eq_true rfl, Nat.le_of_ble_eq_true rfl⟩, Nat.le_of_ble_eq_true rfl, Nat.le_of_ble_eq_true rfl⟩ rfl hl.1 rfl (Nat.le_of_ble_eq_true rfl) dX5_init_9) (fun M3 T4 H locs hP hz hH => ?_)
  try dsimp only at hP
  obtain ⟨nM_q1, t_q1, hsub, hfr⟩ := hP
  have hc_h : M3 h = some (.inr (4, [.null, .null, .null, .int 0])) := (hfr h n_h_q1 lt_h).trans hc_h
  have hTT : ∀ a t, T a = some t → T4 a = some t := fun a t h => hsub _ _ (hTT a t h)
  have hF : ∀ a, a ≠ h → a < sz → M3 a = M a := fun a h0 h1 => (hfr a (Nat.ne_of_lt (Nat.lt_of_lt_of_le h1 g_q1)) (Nat.lt_of_lt_of_le h1 gH)).trans (hF a h0 h1)
  refine ypF (v := .ref q1) hC hK hH hnm (fun _ _ _ h => by cases h; rfl) flX5_12 hc_h rfl rfl (Nat.le_of_ble_eq_true rfl) dX5_init_12 (fun H locs M5 hc_h hfr hH => ?_)
  have hc_h : M5 h = some (.inr (4, [.ref q1, .null, .null, .int 0])) := hc_h
  have hF : ∀ a, a ≠ h → a < sz → M5 a = M a := fun a h0 h1 => (hfr a h0).trans (hF a h0 h1)
  refine lv_aload_n hx hb dX5_init_15 rfl (lv_at hl 0 rfl) ?_
  refine lv_bipush (v := 8) hx hb dX5_init_16 (by decide) ?_
  refine ynewa (atype := .int) (ck := 0) (N := 8) (a0 := (8, .inl (fun _ => 0))) hC hK hH rfl w_ac0 rfl (fun _ h => by cases h) (fun _ => rfl) (by decide) (by decide) (by decide) (Nat.le_of_ble_eq_true rfl) (Nat.le_of_ble_eq_true rfl) dX5_init_18 (fun q6 H M7 e_q6 hz nM_q6 nT_q6 hc_q6 hfr hN => ?_)
  have g_q6 : sz ≤ q6 := by rw [← hsz, e_q6]; exact hH.2.1.1
  have n_h_q6 : h ≠ q6 := neN hc_h nM_q6
  have n_q6_h : q6 ≠ h := Ne.symm n_h_q6
  have hH := hN
  have hc_q6 : M7 q6 = some (.inl (kA 0, 8, .inl (fun _ => 0))) := hc_q6
  have hc_h : M7 h = some (.inr (4, [.ref q1, .null, .null, .int 0])) := (hfr h n_h_q6).trans hc_h
  have hF : ∀ a, a ≠ h → a < sz → M7 a = M a := fun a h0 h1 => (hfr a (Nat.ne_of_lt (Nat.lt_of_lt_of_le h1 g_q6))).trans (hF a h0 h1)
  refine ypF (v := .ref q6) hC hK hH hnm (fun _ _ _ h => by cases h; rfl) flX5_18 hc_h rfl rfl (Nat.le_of_ble_eq_true rfl) dX5_init_20 (fun H locs M8 hc_h hfr hH => ?_)
  have hc_h : M8 h = some (.inr (4, [.ref q1, .ref q6, .null, .int 0])) := hc_h
  have hc_q6 : M8 q6 = some (.inl (kA 0, 8, .inl (fun _ => 0))) := (hfr q6 n_q6_h).trans hc_q6
  have hF : ∀ a, a ≠ h → a < sz → M8 a = M a := fun a h0 h1 => (hfr a h0).trans (hF a h0 h1)
  refine lv_aload_n hx hb dX5_init_23 rfl (lv_at hl 0 rfl) ?_
  refine lv_bipush (v := 14) hx hb dX5_init_24 (by decide) ?_
  refine ynewa (atype := .int) (ck := 0) (N := 14) (a0 := (14, .inl (fun _ => 0))) hC hK hH rfl w_ac0 rfl (fun _ h => by cases h) (fun _ => rfl) (by decide) (by decide) (by decide) (Nat.le_of_ble_eq_true rfl) (Nat.le_of_ble_eq_true rfl) dX5_init_26 (fun q9 H M10 e_q9 hz nM_q9 nT_q9 hc_q9 hfr hN => ?_)
  have g_q9 : sz ≤ q9 := by rw [← hsz, e_q9]; exact hH.2.1.1
  have n_h_q9 : h ≠ q9 := neN hc_h nM_q9
  have n_q9_h : q9 ≠ h := Ne.symm n_h_q9
  have n_q6_q9 : q6 ≠ q9 := neN hc_q6 nM_q9
  have n_q9_q6 : q9 ≠ q6 := Ne.symm n_q6_q9
  have hH := hN
  have hc_q9 : M10 q9 = some (.inl (kA 0, 14, .inl (fun _ => 0))) := hc_q9
  have hc_h : M10 h = some (.inr (4, [.ref q1, .ref q6, .null, .int 0])) := (hfr h n_h_q9).trans hc_h
  have hc_q6 : M10 q6 = some (.inl (kA 0, 8, .inl (fun _ => 0))) := (hfr q6 n_q6_q9).trans hc_q6
  have hF : ∀ a, a ≠ h → a < sz → M10 a = M a := fun a h0 h1 => (hfr a (Nat.ne_of_lt (Nat.lt_of_lt_of_le h1 g_q9))).trans (hF a h0 h1)
  refine ypF (v := .ref q9) hC hK hH hnm (fun _ _ _ h => by cases h; rfl) flX5_22 hc_h rfl rfl (Nat.le_of_ble_eq_true rfl) dX5_init_28 (fun H locs M11 hc_h hfr hH => ?_)
  have hc_h : M11 h = some (.inr (4, [.ref q1, .ref q6, .ref q9, .int 0])) := hc_h
  have hc_q6 : M11 q6 = some (.inl (kA 0, 8, .inl (fun _ => 0))) := (hfr q6 n_q6_h).trans hc_q6
  have hc_q9 : M11 q9 = some (.inl (kA 0, 14, .inl (fun _ => 0))) := (hfr q9 n_q9_h).trans hc_q9
  have hF : ∀ a, a ≠ h → a < sz → M11 a = M a := fun a h0 h1 => (hfr a h0).trans (hF a h0 h1)
  obtain ⟨M12, T13, nM_q6, hfr, t_q6, hfT, hsub, hH⟩ := hH.re2 (τ := 3) hc_q6 (conf_i rfl (fun _ _ => iRg _))
  have hc_h : M12 h = some (.inr (4, [.ref q1, .ref q6, .ref q9, .int 0])) := (hfr h n_h_q6).trans hc_h
  have hc_q9 : M12 q9 = some (.inl (kA 0, 14, .inl (fun _ => 0))) := (hfr q9 n_q9_q6).trans hc_q9
  have t_q1 : T13 q1 = some 2 := hsub _ _ t_q1
  have hTT : ∀ a t, T a = some t → T13 a = some t := fun a t h => hsub _ _ (hTT a t h)
  have hF : ∀ a, a ≠ h → a < sz → M12 a = M a := fun a h0 h1 => (hfr a (Nat.ne_of_lt (Nat.lt_of_lt_of_le h1 g_q6))).trans (hF a h0 h1)
  obtain ⟨M14, T15, nM_q9, hfr, t_q9, hfT, hsub, hH⟩ := hH.re2 (τ := 5) hc_q9 (conf_i rfl (fun _ _ => iRg _))
  have hc_h : M14 h = some (.inr (4, [.ref q1, .ref q6, .ref q9, .int 0])) := (hfr h n_h_q9).trans hc_h
  have t_q1 : T15 q1 = some 2 := hsub _ _ t_q1
  have t_q6 : T15 q6 = some 3 := hsub _ _ t_q6
  have hTT : ∀ a t, T a = some t → T15 a = some t := fun a t h => hsub _ _ (hTT a t h)
  have hF : ∀ a, a ≠ h → a < sz → M14 a = M a := fun a h0 h1 => (hfr a (Nat.ne_of_lt (Nat.lt_of_lt_of_le h1 g_q9))).trans (hF a h0 h1)
  obtain ⟨M16, T17, nM_h, hfr, t_h, hfT, hsub, hH⟩ := hH.re2 (τ := 10) hc_h (conf_o rfl ⟨okR (by rw [upN _ _ (fun z => by rw [z] at t_q1; rw [hH.1.TN (by rw [hc_h]; simp)] at t_q1; cases t_q1)]; exact t_q1), okR (by rw [upN _ _ (fun z => by rw [z] at t_q6; rw [hH.1.TN (by rw [hc_h]; simp)] at t_q6; cases t_q6)]; exact t_q6), okR (by rw [upN _ _ (fun z => by rw [z] at t_q9; rw [hH.1.TN (by rw [hc_h]; simp)] at t_q9; cases t_q9)]; exact t_q9), okI (by decide) (by decide), trivial⟩)
  have t_q1 : T17 q1 = some 2 := hsub _ _ t_q1
  have t_q6 : T17 q6 = some 3 := hsub _ _ t_q6
  have t_q9 : T17 q9 = some 5 := hsub _ _ t_q9
  have hTT : ∀ a t, T a = some t → T17 a = some t := fun a t h => hsub _ _ (hTT a t h)
  have hF : ∀ a, a ≠ h → a < sz → M16 a = M a := fun a h0 h1 => (hfr a h0).trans (hF a h0 h1)
  exact ret_v hC hr hlk hK hH (⟨nM_h, t_h, hTT, hF⟩) (Nat.le_of_ble_eq_true rfl) (Nat.le_of_ble_eq_true rfl) dX5_init_31
set_option maxHeartbeats 4000000 in
set_option maxRecDepth 100000 in
theorem c_X3_init {l : Launch} {D : va_G} {kA : Nat → ClassId} {M : mM} {T : mT} {sz h : Nat} (hc_h : M h = some (.inr (2, [.null]))) (hlt : h < sz) : mCv l yX3_init cX3_init 2 2 27 221 D kA M T sz [.ref h] (fun u => u.1 h = none ∧ u.2 h = some 9 ∧ (∀ a t, T a = some t → u.2 a = some t) ∧ ∀ a, a ≠ h → a < sz → u.1 a = M a) := by
  unfold mCv
  refine start_W (by decide) (Nat.le_of_ble_eq_true rfl) ?_
  intro p e s m below meth c ls hC hr hlk hnm hK hH hsz hl
  have hx := hC.1
  have hb := hC.2.1
  have hl : lv_has ls 2 [(0, .ref h)] := hl
  have hF : ∀ a, a ≠ h → a < sz → M a = M a := fun a _ _ => rfl
  have hTT : ∀ a t, T a = some t → T a = some t := fun _ _ h => h
  refine lv_aload_n hx hb dX3_init_0 rfl (lv_at hl 0 rfl) ?_
  refine W.objInit hx hb hC.2.2.2.1 (hC.2.2.2.2 _ wlX3_3) (hC.2.2.2.2 _ w_oi) (hC.2.2.2.2 _ w_oc) rfl (by rw [hC.2.2.1]; exact hl.1) rfl dX3_init_1 (Nat.le_of_ble_eq_true rfl) (Nat.le_of_ble_eq_true rfl) ?_
  refine W.eq (g2 := F0 m 4 ls []) rfl ?_
  refine lv_aload_n hx hb dX3_init_4 rfl (lv_at hl 0 rfl) ?_
  refine lv_bipush (v := 13) hx hb dX3_init_5 (by decide) ?_
  refine ynewq (ck := 4) (N := 13) hC hK hH wcX3_9 (by decide) rfl (by decide) (by decide) (by decide) (Nat.le_of_ble_eq_true rfl) (Nat.le_of_ble_eq_true rfl) dX3_init_7 (fun q1 H M2 e_q1 hz nM_q1 nT_q1 hc_q1 hfr hN => ?_)
  have g_q1 : sz ≤ q1 := by rw [← hsz, e_q1]; exact hH.2.1.1
  have n_h_q1 : h ≠ q1 := neN hc_h nM_q1
  have n_q1_h : q1 ≠ h := Ne.symm n_h_q1
  have hH := hN
  have hc_q1 : M2 q1 = some (.inl (kA 4, 13, .inr (.inr (.inr (.inr (fun _ => none)))))) := hc_q1
  have hc_h : M2 h = some (.inr (2, [.null])) := (hfr h n_h_q1).trans hc_h
  have hF : ∀ a, a ≠ h → a < sz → M2 a = M a := fun a h0 h1 => (hfr a (Nat.ne_of_lt (Nat.lt_of_lt_of_le h1 g_q1))).trans (hF a h0 h1)
  refine ypF (v := .ref q1) hC hK hH hnm (fun _ _ _ h => by cases h; rfl) flX3_11 hc_h rfl rfl (Nat.le_of_ble_eq_true rfl) dX3_init_10 (fun H locs M3 hc_h hfr hH => ?_)
  have hc_h : M3 h = some (.inr (2, [.ref q1])) := hc_h
  have hc_q1 : M3 q1 = some (.inl (kA 4, 13, .inr (.inr (.inr (.inr (fun _ => none)))))) := (hfr q1 n_q1_h).trans hc_q1
  have hF : ∀ a, a ≠ h → a < sz → M3 a = M a := fun a h0 h1 => (hfr a h0).trans (hF a h0 h1)
  refine lv_iconst (v := 0) hx hb dX3_init_13 (by decide) ?_
  refine lv_istore_n (lv' := [(1, .int 0), (0, .ref h)]) hx hb dX3_init_14 rfl hl (by decide) rfl (fun ls hl => ?_)
  refine lv_iload_n hx hb dX3_init_15 rfl (lv_at hl 0 rfl) ?_
  refine lv_bipush (v := 12) hx hb dX3_init_16 (by decide) ?_
  refine jic_gt (tgt := 40) hx hb dX3_init_18 (by decide) (fun c4 => absurd c4 (by decide)) (fun c4 => ?_)
  refine lv_aload_n hx hb dX3_init_21 rfl (lv_at hl 1 rfl) ?_
  refine xg hC hK hH flX3_11 hc_h rfl dX3_init_22 ?_
  refine lv_iload_n hx hb dX3_init_25 rfl (lv_at hl 0 rfl) ?_
  refine ynew hC hK hH nlX3_9 (Nat.le_of_ble_eq_true rfl) (Nat.le_of_ble_eq_true rfl) dX3_init_26 (fun q5 H M6 e_q5 hz nM_q5 nT_q5 hc_q5 hfr hN => ?_)
  have g_q5 : sz ≤ q5 := by rw [← hsz, e_q5]; exact hH.2.1.1
  have n_h_q5 : h ≠ q5 := neN hc_h nM_q5
  have n_q5_h : q5 ≠ h := Ne.symm n_h_q5
  have n_q1_q5 : q1 ≠ q5 := neN hc_q1 nM_q5
  have n_q5_q1 : q5 ≠ q1 := Ne.symm n_q1_q5
  have hH := hN
  have hc_q5 : M6 q5 = some (.inr (1, [.int 0, .int 0, .int 0, .int 0, .int 0, .int 0, .int 0, .null])) := hc_q5
  have hc_h : M6 h = some (.inr (2, [.ref q1])) := (hfr h n_h_q5).trans hc_h
  have hc_q1 : M6 q1 = some (.inl (kA 4, 13, .inr (.inr (.inr (.inr (fun _ => none)))))) := (hfr q1 n_q1_q5).trans hc_q1
  have hF : ∀ a, a ≠ h → a < sz → M6 a = M a := fun a h0 h1 => (hfr a (Nat.ne_of_lt (Nat.lt_of_lt_of_le h1 g_q5))).trans (hF a h0 h1)
  refine lv_dup hx hb dX3_init_29 rfl ?_
  have lt_q5 : q5 < Array.size H := hH.1.ltM (by rw [hc_q5]; simp)
  have gH : sz ≤ Array.size H := by rw [← hsz]; exact hH.2.1.1
  have lt_h : h < Array.size H := hH.1.ltM (by rw [hc_h]; simp)
  have lt_q1 : q1 < Array.size H := hH.1.ltM (by rw [hc_q1]; simp)
  have lt_q5 : q5 < Array.size H := hH.1.ltM (by rw [hc_q5]; simp)
  refine goV hK hH (runIN (As := []) (rest := [.ref q5, .int 0, .ref q1]) hC hK hH (c_X2_init hc_q5 lt_q5) mlX3_17 ⟨⟨Nat.le_of_ble_eq_true rfl, Nat.le_of_ble_eq_true rfl⟩, Nat.le_of_ble_eq_true rfl, Nat.le_of_ble_eq_true rfl⟩ rfl hl.1 rfl (Nat.le_of_ble_eq_true rfl) dX3_init_30) (fun M7 T8 H locs hP hz hH => ?_)
  try dsimp only at hP
  obtain ⟨nM_q5, t_q5, hsub, hfr⟩ := hP
  have hc_h : M7 h = some (.inr (2, [.ref q1])) := (hfr h n_h_q5 lt_h).trans hc_h
  have hc_q1 : M7 q1 = some (.inl (kA 4, 13, .inr (.inr (.inr (.inr (fun _ => none)))))) := (hfr q1 n_q1_q5 lt_q1).trans hc_q1
  have hTT : ∀ a t, T a = some t → T8 a = some t := fun a t h => hsub _ _ (hTT a t h)
  have hF : ∀ a, a ≠ h → a < sz → M7 a = M a := fun a h0 h1 => (hfr a (Nat.ne_of_lt (Nat.lt_of_lt_of_le h1 g_q5)) (Nat.lt_of_lt_of_le h1 gH)).trans (hF a h0 h1)
  refine yqst (ck := 4) (cv := 1) (v := q5) hC hK hH rfl rfl hc_q1 (let ⟨fs, h1, _⟩ := tcell hH t_q5 rfl; ⟨fs, h1⟩) (iIn (by decide) (by decide)) dX3_init_33 (fun H locs M9 hc_q1 hfr hH => ?_)
  have hc_q1 : M9 q1 = some (.inl (kA 4, 13, .inr (.inr (.inr (.inr (va_up (fun _ => none) (Int32.toNatClampNeg 0) (some q5))))))) := hc_q1
  have hc_h : M9 h = some (.inr (2, [.ref q1])) := (hfr h n_h_q1).trans hc_h
  have hF : ∀ a, a ≠ h → a < sz → M9 a = M a := fun a h0 h1 => (hfr a (Nat.ne_of_lt (Nat.lt_of_lt_of_le h1 g_q1))).trans (hF a h0 h1)
  refine lv_iinc (v := 1) (lv' := [(1, .int 1), (0, .ref h)]) hx hb dX3_init_34 hl (k := 0) rfl (by decide) (by decide) rfl (fun ls hl => ?_)
  refine lv_goto (tgt := 15) hx hb dX3_init_37 (by decide) ?_
  refine lv_iload_n hx hb dX3_init_15 rfl (lv_at hl 0 rfl) ?_
  refine lv_bipush (v := 12) hx hb dX3_init_16 (by decide) ?_
  refine jic_gt (tgt := 40) hx hb dX3_init_18 (by decide) (fun c10 => absurd c10 (by decide)) (fun c10 => ?_)
  refine lv_aload_n hx hb dX3_init_21 rfl (lv_at hl 1 rfl) ?_
  refine xg hC hK hH flX3_11 hc_h rfl dX3_init_22 ?_
  refine lv_iload_n hx hb dX3_init_25 rfl (lv_at hl 0 rfl) ?_
  refine ynew hC hK hH nlX3_9 (Nat.le_of_ble_eq_true rfl) (Nat.le_of_ble_eq_true rfl) dX3_init_26 (fun q11 H M12 e_q11 hz nM_q11 nT_q11 hc_q11 hfr hN => ?_)
  have g_q11 : sz ≤ q11 := by rw [← hsz, e_q11]; exact hH.2.1.1
  have n_h_q11 : h ≠ q11 := neN hc_h nM_q11
  have n_q11_h : q11 ≠ h := Ne.symm n_h_q11
  have n_q1_q11 : q1 ≠ q11 := neN hc_q1 nM_q11
  have n_q11_q1 : q11 ≠ q1 := Ne.symm n_q1_q11
  have hH := hN
  have hc_q11 : M12 q11 = some (.inr (1, [.int 0, .int 0, .int 0, .int 0, .int 0, .int 0, .int 0, .null])) := hc_q11
  have hc_h : M12 h = some (.inr (2, [.ref q1])) := (hfr h n_h_q11).trans hc_h
  have hc_q1 : M12 q1 = some (.inl (kA 4, 13, .inr (.inr (.inr (.inr (va_up (fun _ => none) (Int32.toNatClampNeg 0) (some q5))))))) := (hfr q1 n_q1_q11).trans hc_q1
  have hF : ∀ a, a ≠ h → a < sz → M12 a = M a := fun a h0 h1 => (hfr a (Nat.ne_of_lt (Nat.lt_of_lt_of_le h1 g_q11))).trans (hF a h0 h1)
  refine lv_dup hx hb dX3_init_29 rfl ?_
  have lt_q11 : q11 < Array.size H := hH.1.ltM (by rw [hc_q11]; simp)
  have gH : sz ≤ Array.size H := by rw [← hsz]; exact hH.2.1.1
  have lt_h : h < Array.size H := hH.1.ltM (by rw [hc_h]; simp)
  have lt_q1 : q1 < Array.size H := hH.1.ltM (by rw [hc_q1]; simp)
  have lt_q11 : q11 < Array.size H := hH.1.ltM (by rw [hc_q11]; simp)
  refine goV hK hH (runIN (As := []) (rest := [.ref q11, .int 1, .ref q1]) hC hK hH (c_X2_init hc_q11 lt_q11) mlX3_17 ⟨⟨Nat.le_of_ble_eq_true rfl, Nat.le_of_ble_eq_true rfl⟩, Nat.le_of_ble_eq_true rfl, Nat.le_of_ble_eq_true rfl⟩ rfl hl.1 rfl (Nat.le_of_ble_eq_true rfl) dX3_init_30) (fun M13 T14 H locs hP hz hH => ?_)
  try dsimp only at hP
  obtain ⟨nM_q11, t_q11, hsub, hfr⟩ := hP
  have hc_h : M13 h = some (.inr (2, [.ref q1])) := (hfr h n_h_q11 lt_h).trans hc_h
  have hc_q1 : M13 q1 = some (.inl (kA 4, 13, .inr (.inr (.inr (.inr (va_up (fun _ => none) (Int32.toNatClampNeg 0) (some q5))))))) := (hfr q1 n_q1_q11 lt_q1).trans hc_q1
  have t_q5 : T14 q5 = some 1 := hsub _ _ t_q5
  have hTT : ∀ a t, T a = some t → T14 a = some t := fun a t h => hsub _ _ (hTT a t h)
  have hF : ∀ a, a ≠ h → a < sz → M13 a = M a := fun a h0 h1 => (hfr a (Nat.ne_of_lt (Nat.lt_of_lt_of_le h1 g_q11)) (Nat.lt_of_lt_of_le h1 gH)).trans (hF a h0 h1)
  refine yqst (ck := 4) (cv := 1) (v := q11) hC hK hH rfl rfl hc_q1 (let ⟨fs, h1, _⟩ := tcell hH t_q11 rfl; ⟨fs, h1⟩) (iIn (by decide) (by decide)) dX3_init_33 (fun H locs M15 hc_q1 hfr hH => ?_)
  have hc_q1 : M15 q1 = some (.inl (kA 4, 13, .inr (.inr (.inr (.inr (va_up (va_up (fun _ => none) (Int32.toNatClampNeg 0) (some q5)) (Int32.toNatClampNeg 1) (some q11))))))) := hc_q1
  have hc_h : M15 h = some (.inr (2, [.ref q1])) := (hfr h n_h_q1).trans hc_h
  have hF : ∀ a, a ≠ h → a < sz → M15 a = M a := fun a h0 h1 => (hfr a (Nat.ne_of_lt (Nat.lt_of_lt_of_le h1 g_q1))).trans (hF a h0 h1)
  refine lv_iinc (v := 2) (lv' := [(1, .int 2), (0, .ref h)]) hx hb dX3_init_34 hl (k := 0) rfl (by decide) (by decide) rfl (fun ls hl => ?_)
  refine lv_goto (tgt := 15) hx hb dX3_init_37 (by decide) ?_
  refine lv_iload_n hx hb dX3_init_15 rfl (lv_at hl 0 rfl) ?_
  refine lv_bipush (v := 12) hx hb dX3_init_16 (by decide) ?_
  refine jic_gt (tgt := 40) hx hb dX3_init_18 (by decide) (fun c16 => absurd c16 (by decide)) (fun c16 => ?_)
  refine lv_aload_n hx hb dX3_init_21 rfl (lv_at hl 1 rfl) ?_
  refine xg hC hK hH flX3_11 hc_h rfl dX3_init_22 ?_
  refine lv_iload_n hx hb dX3_init_25 rfl (lv_at hl 0 rfl) ?_
  refine ynew hC hK hH nlX3_9 (Nat.le_of_ble_eq_true rfl) (Nat.le_of_ble_eq_true rfl) dX3_init_26 (fun q17 H M18 e_q17 hz nM_q17 nT_q17 hc_q17 hfr hN => ?_)
  have g_q17 : sz ≤ q17 := by rw [← hsz, e_q17]; exact hH.2.1.1
  have n_h_q17 : h ≠ q17 := neN hc_h nM_q17
  have n_q17_h : q17 ≠ h := Ne.symm n_h_q17
  have n_q1_q17 : q1 ≠ q17 := neN hc_q1 nM_q17
  have n_q17_q1 : q17 ≠ q1 := Ne.symm n_q1_q17
  have hH := hN
  have hc_q17 : M18 q17 = some (.inr (1, [.int 0, .int 0, .int 0, .int 0, .int 0, .int 0, .int 0, .null])) := hc_q17
  have hc_h : M18 h = some (.inr (2, [.ref q1])) := (hfr h n_h_q17).trans hc_h
  have hc_q1 : M18 q1 = some (.inl (kA 4, 13, .inr (.inr (.inr (.inr (va_up (va_up (fun _ => none) (Int32.toNatClampNeg 0) (some q5)) (Int32.toNatClampNeg 1) (some q11))))))) := (hfr q1 n_q1_q17).trans hc_q1
  have hF : ∀ a, a ≠ h → a < sz → M18 a = M a := fun a h0 h1 => (hfr a (Nat.ne_of_lt (Nat.lt_of_lt_of_le h1 g_q17))).trans (hF a h0 h1)
  refine lv_dup hx hb dX3_init_29 rfl ?_
  have lt_q17 : q17 < Array.size H := hH.1.ltM (by rw [hc_q17]; simp)
  have gH : sz ≤ Array.size H := by rw [← hsz]; exact hH.2.1.1
  have lt_h : h < Array.size H := hH.1.ltM (by rw [hc_h]; simp)
  have lt_q1 : q1 < Array.size H := hH.1.ltM (by rw [hc_q1]; simp)
  have lt_q17 : q17 < Array.size H := hH.1.ltM (by rw [hc_q17]; simp)
  refine goV hK hH (runIN (As := []) (rest := [.ref q17, .int 2, .ref q1]) hC hK hH (c_X2_init hc_q17 lt_q17) mlX3_17 ⟨⟨Nat.le_of_ble_eq_true rfl, Nat.le_of_ble_eq_true rfl⟩, Nat.le_of_ble_eq_true rfl, Nat.le_of_ble_eq_true rfl⟩ rfl hl.1 rfl (Nat.le_of_ble_eq_true rfl) dX3_init_30) (fun M19 T20 H locs hP hz hH => ?_)
  try dsimp only at hP
  obtain ⟨nM_q17, t_q17, hsub, hfr⟩ := hP
  have hc_h : M19 h = some (.inr (2, [.ref q1])) := (hfr h n_h_q17 lt_h).trans hc_h
  have hc_q1 : M19 q1 = some (.inl (kA 4, 13, .inr (.inr (.inr (.inr (va_up (va_up (fun _ => none) (Int32.toNatClampNeg 0) (some q5)) (Int32.toNatClampNeg 1) (some q11))))))) := (hfr q1 n_q1_q17 lt_q1).trans hc_q1
  have t_q5 : T20 q5 = some 1 := hsub _ _ t_q5
  have t_q11 : T20 q11 = some 1 := hsub _ _ t_q11
  have hTT : ∀ a t, T a = some t → T20 a = some t := fun a t h => hsub _ _ (hTT a t h)
  have hF : ∀ a, a ≠ h → a < sz → M19 a = M a := fun a h0 h1 => (hfr a (Nat.ne_of_lt (Nat.lt_of_lt_of_le h1 g_q17)) (Nat.lt_of_lt_of_le h1 gH)).trans (hF a h0 h1)
  refine yqst (ck := 4) (cv := 1) (v := q17) hC hK hH rfl rfl hc_q1 (let ⟨fs, h1, _⟩ := tcell hH t_q17 rfl; ⟨fs, h1⟩) (iIn (by decide) (by decide)) dX3_init_33 (fun H locs M21 hc_q1 hfr hH => ?_)
  have hc_q1 : M21 q1 = some (.inl (kA 4, 13, .inr (.inr (.inr (.inr (va_up (va_up (va_up (fun _ => none) (Int32.toNatClampNeg 0) (some q5)) (Int32.toNatClampNeg 1) (some q11)) (Int32.toNatClampNeg 2) (some q17))))))) := hc_q1
  have hc_h : M21 h = some (.inr (2, [.ref q1])) := (hfr h n_h_q1).trans hc_h
  have hF : ∀ a, a ≠ h → a < sz → M21 a = M a := fun a h0 h1 => (hfr a (Nat.ne_of_lt (Nat.lt_of_lt_of_le h1 g_q1))).trans (hF a h0 h1)
  refine lv_iinc (v := 3) (lv' := [(1, .int 3), (0, .ref h)]) hx hb dX3_init_34 hl (k := 0) rfl (by decide) (by decide) rfl (fun ls hl => ?_)
  refine lv_goto (tgt := 15) hx hb dX3_init_37 (by decide) ?_
  refine lv_iload_n hx hb dX3_init_15 rfl (lv_at hl 0 rfl) ?_
  refine lv_bipush (v := 12) hx hb dX3_init_16 (by decide) ?_
  refine jic_gt (tgt := 40) hx hb dX3_init_18 (by decide) (fun c22 => absurd c22 (by decide)) (fun c22 => ?_)
  refine lv_aload_n hx hb dX3_init_21 rfl (lv_at hl 1 rfl) ?_
  refine xg hC hK hH flX3_11 hc_h rfl dX3_init_22 ?_
  refine lv_iload_n hx hb dX3_init_25 rfl (lv_at hl 0 rfl) ?_
  refine ynew hC hK hH nlX3_9 (Nat.le_of_ble_eq_true rfl) (Nat.le_of_ble_eq_true rfl) dX3_init_26 (fun q23 H M24 e_q23 hz nM_q23 nT_q23 hc_q23 hfr hN => ?_)
  have g_q23 : sz ≤ q23 := by rw [← hsz, e_q23]; exact hH.2.1.1
  have n_h_q23 : h ≠ q23 := neN hc_h nM_q23
  have n_q23_h : q23 ≠ h := Ne.symm n_h_q23
  have n_q1_q23 : q1 ≠ q23 := neN hc_q1 nM_q23
  have n_q23_q1 : q23 ≠ q1 := Ne.symm n_q1_q23
  have hH := hN
  have hc_q23 : M24 q23 = some (.inr (1, [.int 0, .int 0, .int 0, .int 0, .int 0, .int 0, .int 0, .null])) := hc_q23
  have hc_h : M24 h = some (.inr (2, [.ref q1])) := (hfr h n_h_q23).trans hc_h
  have hc_q1 : M24 q1 = some (.inl (kA 4, 13, .inr (.inr (.inr (.inr (va_up (va_up (va_up (fun _ => none) (Int32.toNatClampNeg 0) (some q5)) (Int32.toNatClampNeg 1) (some q11)) (Int32.toNatClampNeg 2) (some q17))))))) := (hfr q1 n_q1_q23).trans hc_q1
  have hF : ∀ a, a ≠ h → a < sz → M24 a = M a := fun a h0 h1 => (hfr a (Nat.ne_of_lt (Nat.lt_of_lt_of_le h1 g_q23))).trans (hF a h0 h1)
  refine lv_dup hx hb dX3_init_29 rfl ?_
  have lt_q23 : q23 < Array.size H := hH.1.ltM (by rw [hc_q23]; simp)
  have gH : sz ≤ Array.size H := by rw [← hsz]; exact hH.2.1.1
  have lt_h : h < Array.size H := hH.1.ltM (by rw [hc_h]; simp)
  have lt_q1 : q1 < Array.size H := hH.1.ltM (by rw [hc_q1]; simp)
  have lt_q23 : q23 < Array.size H := hH.1.ltM (by rw [hc_q23]; simp)
  refine goV hK hH (runIN (As := []) (rest := [.ref q23, .int 3, .ref q1]) hC hK hH (c_X2_init hc_q23 lt_q23) mlX3_17 ⟨⟨Nat.le_of_ble_eq_true rfl, Nat.le_of_ble_eq_true rfl⟩, Nat.le_of_ble_eq_true rfl, Nat.le_of_ble_eq_true rfl⟩ rfl hl.1 rfl (Nat.le_of_ble_eq_true rfl) dX3_init_30) (fun M25 T26 H locs hP hz hH => ?_)
  try dsimp only at hP
  obtain ⟨nM_q23, t_q23, hsub, hfr⟩ := hP
  have hc_h : M25 h = some (.inr (2, [.ref q1])) := (hfr h n_h_q23 lt_h).trans hc_h
  have hc_q1 : M25 q1 = some (.inl (kA 4, 13, .inr (.inr (.inr (.inr (va_up (va_up (va_up (fun _ => none) (Int32.toNatClampNeg 0) (some q5)) (Int32.toNatClampNeg 1) (some q11)) (Int32.toNatClampNeg 2) (some q17))))))) := (hfr q1 n_q1_q23 lt_q1).trans hc_q1
  have t_q5 : T26 q5 = some 1 := hsub _ _ t_q5
  have t_q11 : T26 q11 = some 1 := hsub _ _ t_q11
  have t_q17 : T26 q17 = some 1 := hsub _ _ t_q17
  have hTT : ∀ a t, T a = some t → T26 a = some t := fun a t h => hsub _ _ (hTT a t h)
  have hF : ∀ a, a ≠ h → a < sz → M25 a = M a := fun a h0 h1 => (hfr a (Nat.ne_of_lt (Nat.lt_of_lt_of_le h1 g_q23)) (Nat.lt_of_lt_of_le h1 gH)).trans (hF a h0 h1)
  refine yqst (ck := 4) (cv := 1) (v := q23) hC hK hH rfl rfl hc_q1 (let ⟨fs, h1, _⟩ := tcell hH t_q23 rfl; ⟨fs, h1⟩) (iIn (by decide) (by decide)) dX3_init_33 (fun H locs M27 hc_q1 hfr hH => ?_)
  have hc_q1 : M27 q1 = some (.inl (kA 4, 13, .inr (.inr (.inr (.inr (va_up (va_up (va_up (va_up (fun _ => none) (Int32.toNatClampNeg 0) (some q5)) (Int32.toNatClampNeg 1) (some q11)) (Int32.toNatClampNeg 2) (some q17)) (Int32.toNatClampNeg 3) (some q23))))))) := hc_q1
  have hc_h : M27 h = some (.inr (2, [.ref q1])) := (hfr h n_h_q1).trans hc_h
  have hF : ∀ a, a ≠ h → a < sz → M27 a = M a := fun a h0 h1 => (hfr a (Nat.ne_of_lt (Nat.lt_of_lt_of_le h1 g_q1))).trans (hF a h0 h1)
  refine lv_iinc (v := 4) (lv' := [(1, .int 4), (0, .ref h)]) hx hb dX3_init_34 hl (k := 0) rfl (by decide) (by decide) rfl (fun ls hl => ?_)
  refine lv_goto (tgt := 15) hx hb dX3_init_37 (by decide) ?_
  refine lv_iload_n hx hb dX3_init_15 rfl (lv_at hl 0 rfl) ?_
  refine lv_bipush (v := 12) hx hb dX3_init_16 (by decide) ?_
  refine jic_gt (tgt := 40) hx hb dX3_init_18 (by decide) (fun c28 => absurd c28 (by decide)) (fun c28 => ?_)
  refine lv_aload_n hx hb dX3_init_21 rfl (lv_at hl 1 rfl) ?_
  refine xg hC hK hH flX3_11 hc_h rfl dX3_init_22 ?_
  refine lv_iload_n hx hb dX3_init_25 rfl (lv_at hl 0 rfl) ?_
  refine ynew hC hK hH nlX3_9 (Nat.le_of_ble_eq_true rfl) (Nat.le_of_ble_eq_true rfl) dX3_init_26 (fun q29 H M30 e_q29 hz nM_q29 nT_q29 hc_q29 hfr hN => ?_)
  have g_q29 : sz ≤ q29 := by rw [← hsz, e_q29]; exact hH.2.1.1
  have n_h_q29 : h ≠ q29 := neN hc_h nM_q29
  have n_q29_h : q29 ≠ h := Ne.symm n_h_q29
  have n_q1_q29 : q1 ≠ q29 := neN hc_q1 nM_q29
  have n_q29_q1 : q29 ≠ q1 := Ne.symm n_q1_q29
  have hH := hN
  have hc_q29 : M30 q29 = some (.inr (1, [.int 0, .int 0, .int 0, .int 0, .int 0, .int 0, .int 0, .null])) := hc_q29
  have hc_h : M30 h = some (.inr (2, [.ref q1])) := (hfr h n_h_q29).trans hc_h
  have hc_q1 : M30 q1 = some (.inl (kA 4, 13, .inr (.inr (.inr (.inr (va_up (va_up (va_up (va_up (fun _ => none) (Int32.toNatClampNeg 0) (some q5)) (Int32.toNatClampNeg 1) (some q11)) (Int32.toNatClampNeg 2) (some q17)) (Int32.toNatClampNeg 3) (some q23))))))) := (hfr q1 n_q1_q29).trans hc_q1
  have hF : ∀ a, a ≠ h → a < sz → M30 a = M a := fun a h0 h1 => (hfr a (Nat.ne_of_lt (Nat.lt_of_lt_of_le h1 g_q29))).trans (hF a h0 h1)
  refine lv_dup hx hb dX3_init_29 rfl ?_
  have lt_q29 : q29 < Array.size H := hH.1.ltM (by rw [hc_q29]; simp)
  have gH : sz ≤ Array.size H := by rw [← hsz]; exact hH.2.1.1
  have lt_h : h < Array.size H := hH.1.ltM (by rw [hc_h]; simp)
  have lt_q1 : q1 < Array.size H := hH.1.ltM (by rw [hc_q1]; simp)
  have lt_q29 : q29 < Array.size H := hH.1.ltM (by rw [hc_q29]; simp)
  refine goV hK hH (runIN (As := []) (rest := [.ref q29, .int 4, .ref q1]) hC hK hH (c_X2_init hc_q29 lt_q29) mlX3_17 ⟨⟨Nat.le_of_ble_eq_true rfl, Nat.le_of_ble_eq_true rfl⟩, Nat.le_of_ble_eq_true rfl, Nat.le_of_ble_eq_true rfl⟩ rfl hl.1 rfl (Nat.le_of_ble_eq_true rfl) dX3_init_30) (fun M31 T32 H locs hP hz hH => ?_)
  try dsimp only at hP
  obtain ⟨nM_q29, t_q29, hsub, hfr⟩ := hP
  have hc_h : M31 h = some (.inr (2, [.ref q1])) := (hfr h n_h_q29 lt_h).trans hc_h
  have hc_q1 : M31 q1 = some (.inl (kA 4, 13, .inr (.inr (.inr (.inr (va_up (va_up (va_up (va_up (fun _ => none) (Int32.toNatClampNeg 0) (some q5)) (Int32.toNatClampNeg 1) (some q11)) (Int32.toNatClampNeg 2) (some q17)) (Int32.toNatClampNeg 3) (some q23))))))) := (hfr q1 n_q1_q29 lt_q1).trans hc_q1
  have t_q5 : T32 q5 = some 1 := hsub _ _ t_q5
  have t_q11 : T32 q11 = some 1 := hsub _ _ t_q11
  have t_q17 : T32 q17 = some 1 := hsub _ _ t_q17
  have t_q23 : T32 q23 = some 1 := hsub _ _ t_q23
  have hTT : ∀ a t, T a = some t → T32 a = some t := fun a t h => hsub _ _ (hTT a t h)
  have hF : ∀ a, a ≠ h → a < sz → M31 a = M a := fun a h0 h1 => (hfr a (Nat.ne_of_lt (Nat.lt_of_lt_of_le h1 g_q29)) (Nat.lt_of_lt_of_le h1 gH)).trans (hF a h0 h1)
  refine yqst (ck := 4) (cv := 1) (v := q29) hC hK hH rfl rfl hc_q1 (let ⟨fs, h1, _⟩ := tcell hH t_q29 rfl; ⟨fs, h1⟩) (iIn (by decide) (by decide)) dX3_init_33 (fun H locs M33 hc_q1 hfr hH => ?_)
  have hc_q1 : M33 q1 = some (.inl (kA 4, 13, .inr (.inr (.inr (.inr (va_up (va_up (va_up (va_up (va_up (fun _ => none) (Int32.toNatClampNeg 0) (some q5)) (Int32.toNatClampNeg 1) (some q11)) (Int32.toNatClampNeg 2) (some q17)) (Int32.toNatClampNeg 3) (some q23)) (Int32.toNatClampNeg 4) (some q29))))))) := hc_q1
  have hc_h : M33 h = some (.inr (2, [.ref q1])) := (hfr h n_h_q1).trans hc_h
  have hF : ∀ a, a ≠ h → a < sz → M33 a = M a := fun a h0 h1 => (hfr a (Nat.ne_of_lt (Nat.lt_of_lt_of_le h1 g_q1))).trans (hF a h0 h1)
  refine lv_iinc (v := 5) (lv' := [(1, .int 5), (0, .ref h)]) hx hb dX3_init_34 hl (k := 0) rfl (by decide) (by decide) rfl (fun ls hl => ?_)
  refine lv_goto (tgt := 15) hx hb dX3_init_37 (by decide) ?_
  refine lv_iload_n hx hb dX3_init_15 rfl (lv_at hl 0 rfl) ?_
  refine lv_bipush (v := 12) hx hb dX3_init_16 (by decide) ?_
  refine jic_gt (tgt := 40) hx hb dX3_init_18 (by decide) (fun c34 => absurd c34 (by decide)) (fun c34 => ?_)
  refine lv_aload_n hx hb dX3_init_21 rfl (lv_at hl 1 rfl) ?_
  refine xg hC hK hH flX3_11 hc_h rfl dX3_init_22 ?_
  refine lv_iload_n hx hb dX3_init_25 rfl (lv_at hl 0 rfl) ?_
  refine ynew hC hK hH nlX3_9 (Nat.le_of_ble_eq_true rfl) (Nat.le_of_ble_eq_true rfl) dX3_init_26 (fun q35 H M36 e_q35 hz nM_q35 nT_q35 hc_q35 hfr hN => ?_)
  have g_q35 : sz ≤ q35 := by rw [← hsz, e_q35]; exact hH.2.1.1
  have n_h_q35 : h ≠ q35 := neN hc_h nM_q35
  have n_q35_h : q35 ≠ h := Ne.symm n_h_q35
  have n_q1_q35 : q1 ≠ q35 := neN hc_q1 nM_q35
  have n_q35_q1 : q35 ≠ q1 := Ne.symm n_q1_q35
  have hH := hN
  have hc_q35 : M36 q35 = some (.inr (1, [.int 0, .int 0, .int 0, .int 0, .int 0, .int 0, .int 0, .null])) := hc_q35
  have hc_h : M36 h = some (.inr (2, [.ref q1])) := (hfr h n_h_q35).trans hc_h
  have hc_q1 : M36 q1 = some (.inl (kA 4, 13, .inr (.inr (.inr (.inr (va_up (va_up (va_up (va_up (va_up (fun _ => none) (Int32.toNatClampNeg 0) (some q5)) (Int32.toNatClampNeg 1) (some q11)) (Int32.toNatClampNeg 2) (some q17)) (Int32.toNatClampNeg 3) (some q23)) (Int32.toNatClampNeg 4) (some q29))))))) := (hfr q1 n_q1_q35).trans hc_q1
  have hF : ∀ a, a ≠ h → a < sz → M36 a = M a := fun a h0 h1 => (hfr a (Nat.ne_of_lt (Nat.lt_of_lt_of_le h1 g_q35))).trans (hF a h0 h1)
  refine lv_dup hx hb dX3_init_29 rfl ?_
  have lt_q35 : q35 < Array.size H := hH.1.ltM (by rw [hc_q35]; simp)
  have gH : sz ≤ Array.size H := by rw [← hsz]; exact hH.2.1.1
  have lt_h : h < Array.size H := hH.1.ltM (by rw [hc_h]; simp)
  have lt_q1 : q1 < Array.size H := hH.1.ltM (by rw [hc_q1]; simp)
  have lt_q35 : q35 < Array.size H := hH.1.ltM (by rw [hc_q35]; simp)
  refine goV hK hH (runIN (As := []) (rest := [.ref q35, .int 5, .ref q1]) hC hK hH (c_X2_init hc_q35 lt_q35) mlX3_17 ⟨⟨Nat.le_of_ble_eq_true rfl, Nat.le_of_ble_eq_true rfl⟩, Nat.le_of_ble_eq_true rfl, Nat.le_of_ble_eq_true rfl⟩ rfl hl.1 rfl (Nat.le_of_ble_eq_true rfl) dX3_init_30) (fun M37 T38 H locs hP hz hH => ?_)
  try dsimp only at hP
  obtain ⟨nM_q35, t_q35, hsub, hfr⟩ := hP
  have hc_h : M37 h = some (.inr (2, [.ref q1])) := (hfr h n_h_q35 lt_h).trans hc_h
  have hc_q1 : M37 q1 = some (.inl (kA 4, 13, .inr (.inr (.inr (.inr (va_up (va_up (va_up (va_up (va_up (fun _ => none) (Int32.toNatClampNeg 0) (some q5)) (Int32.toNatClampNeg 1) (some q11)) (Int32.toNatClampNeg 2) (some q17)) (Int32.toNatClampNeg 3) (some q23)) (Int32.toNatClampNeg 4) (some q29))))))) := (hfr q1 n_q1_q35 lt_q1).trans hc_q1
  have t_q5 : T38 q5 = some 1 := hsub _ _ t_q5
  have t_q11 : T38 q11 = some 1 := hsub _ _ t_q11
  have t_q17 : T38 q17 = some 1 := hsub _ _ t_q17
  have t_q23 : T38 q23 = some 1 := hsub _ _ t_q23
  have t_q29 : T38 q29 = some 1 := hsub _ _ t_q29
  have hTT : ∀ a t, T a = some t → T38 a = some t := fun a t h => hsub _ _ (hTT a t h)
  have hF : ∀ a, a ≠ h → a < sz → M37 a = M a := fun a h0 h1 => (hfr a (Nat.ne_of_lt (Nat.lt_of_lt_of_le h1 g_q35)) (Nat.lt_of_lt_of_le h1 gH)).trans (hF a h0 h1)
  refine yqst (ck := 4) (cv := 1) (v := q35) hC hK hH rfl rfl hc_q1 (let ⟨fs, h1, _⟩ := tcell hH t_q35 rfl; ⟨fs, h1⟩) (iIn (by decide) (by decide)) dX3_init_33 (fun H locs M39 hc_q1 hfr hH => ?_)
  have hc_q1 : M39 q1 = some (.inl (kA 4, 13, .inr (.inr (.inr (.inr (va_up (va_up (va_up (va_up (va_up (va_up (fun _ => none) (Int32.toNatClampNeg 0) (some q5)) (Int32.toNatClampNeg 1) (some q11)) (Int32.toNatClampNeg 2) (some q17)) (Int32.toNatClampNeg 3) (some q23)) (Int32.toNatClampNeg 4) (some q29)) (Int32.toNatClampNeg 5) (some q35))))))) := hc_q1
  have hc_h : M39 h = some (.inr (2, [.ref q1])) := (hfr h n_h_q1).trans hc_h
  have hF : ∀ a, a ≠ h → a < sz → M39 a = M a := fun a h0 h1 => (hfr a (Nat.ne_of_lt (Nat.lt_of_lt_of_le h1 g_q1))).trans (hF a h0 h1)
  refine lv_iinc (v := 6) (lv' := [(1, .int 6), (0, .ref h)]) hx hb dX3_init_34 hl (k := 0) rfl (by decide) (by decide) rfl (fun ls hl => ?_)
  refine lv_goto (tgt := 15) hx hb dX3_init_37 (by decide) ?_
  refine lv_iload_n hx hb dX3_init_15 rfl (lv_at hl 0 rfl) ?_
  refine lv_bipush (v := 12) hx hb dX3_init_16 (by decide) ?_
  refine jic_gt (tgt := 40) hx hb dX3_init_18 (by decide) (fun c40 => absurd c40 (by decide)) (fun c40 => ?_)
  refine lv_aload_n hx hb dX3_init_21 rfl (lv_at hl 1 rfl) ?_
  refine xg hC hK hH flX3_11 hc_h rfl dX3_init_22 ?_
  refine lv_iload_n hx hb dX3_init_25 rfl (lv_at hl 0 rfl) ?_
  refine ynew hC hK hH nlX3_9 (Nat.le_of_ble_eq_true rfl) (Nat.le_of_ble_eq_true rfl) dX3_init_26 (fun q41 H M42 e_q41 hz nM_q41 nT_q41 hc_q41 hfr hN => ?_)
  have g_q41 : sz ≤ q41 := by rw [← hsz, e_q41]; exact hH.2.1.1
  have n_h_q41 : h ≠ q41 := neN hc_h nM_q41
  have n_q41_h : q41 ≠ h := Ne.symm n_h_q41
  have n_q1_q41 : q1 ≠ q41 := neN hc_q1 nM_q41
  have n_q41_q1 : q41 ≠ q1 := Ne.symm n_q1_q41
  have hH := hN
  have hc_q41 : M42 q41 = some (.inr (1, [.int 0, .int 0, .int 0, .int 0, .int 0, .int 0, .int 0, .null])) := hc_q41
  have hc_h : M42 h = some (.inr (2, [.ref q1])) := (hfr h n_h_q41).trans hc_h
  have hc_q1 : M42 q1 = some (.inl (kA 4, 13, .inr (.inr (.inr (.inr (va_up (va_up (va_up (va_up (va_up (va_up (fun _ => none) (Int32.toNatClampNeg 0) (some q5)) (Int32.toNatClampNeg 1) (some q11)) (Int32.toNatClampNeg 2) (some q17)) (Int32.toNatClampNeg 3) (some q23)) (Int32.toNatClampNeg 4) (some q29)) (Int32.toNatClampNeg 5) (some q35))))))) := (hfr q1 n_q1_q41).trans hc_q1
  have hF : ∀ a, a ≠ h → a < sz → M42 a = M a := fun a h0 h1 => (hfr a (Nat.ne_of_lt (Nat.lt_of_lt_of_le h1 g_q41))).trans (hF a h0 h1)
  refine lv_dup hx hb dX3_init_29 rfl ?_
  have lt_q41 : q41 < Array.size H := hH.1.ltM (by rw [hc_q41]; simp)
  have gH : sz ≤ Array.size H := by rw [← hsz]; exact hH.2.1.1
  have lt_h : h < Array.size H := hH.1.ltM (by rw [hc_h]; simp)
  have lt_q1 : q1 < Array.size H := hH.1.ltM (by rw [hc_q1]; simp)
  have lt_q41 : q41 < Array.size H := hH.1.ltM (by rw [hc_q41]; simp)
  refine goV hK hH (runIN (As := []) (rest := [.ref q41, .int 6, .ref q1]) hC hK hH (c_X2_init hc_q41 lt_q41) mlX3_17 ⟨⟨Nat.le_of_ble_eq_true rfl, Nat.le_of_ble_eq_true rfl⟩, Nat.le_of_ble_eq_true rfl, Nat.le_of_ble_eq_true rfl⟩ rfl hl.1 rfl (Nat.le_of_ble_eq_true rfl) dX3_init_30) (fun M43 T44 H locs hP hz hH => ?_)
  try dsimp only at hP
  obtain ⟨nM_q41, t_q41, hsub, hfr⟩ := hP
  have hc_h : M43 h = some (.inr (2, [.ref q1])) := (hfr h n_h_q41 lt_h).trans hc_h
  have hc_q1 : M43 q1 = some (.inl (kA 4, 13, .inr (.inr (.inr (.inr (va_up (va_up (va_up (va_up (va_up (va_up (fun _ => none) (Int32.toNatClampNeg 0) (some q5)) (Int32.toNatClampNeg 1) (some q11)) (Int32.toNatClampNeg 2) (some q17)) (Int32.toNatClampNeg 3) (some q23)) (Int32.toNatClampNeg 4) (some q29)) (Int32.toNatClampNeg 5) (some q35))))))) := (hfr q1 n_q1_q41 lt_q1).trans hc_q1
  have t_q5 : T44 q5 = some 1 := hsub _ _ t_q5
  have t_q11 : T44 q11 = some 1 := hsub _ _ t_q11
  have t_q17 : T44 q17 = some 1 := hsub _ _ t_q17
  have t_q23 : T44 q23 = some 1 := hsub _ _ t_q23
  have t_q29 : T44 q29 = some 1 := hsub _ _ t_q29
  have t_q35 : T44 q35 = some 1 := hsub _ _ t_q35
  have hTT : ∀ a t, T a = some t → T44 a = some t := fun a t h => hsub _ _ (hTT a t h)
  have hF : ∀ a, a ≠ h → a < sz → M43 a = M a := fun a h0 h1 => (hfr a (Nat.ne_of_lt (Nat.lt_of_lt_of_le h1 g_q41)) (Nat.lt_of_lt_of_le h1 gH)).trans (hF a h0 h1)
  refine yqst (ck := 4) (cv := 1) (v := q41) hC hK hH rfl rfl hc_q1 (let ⟨fs, h1, _⟩ := tcell hH t_q41 rfl; ⟨fs, h1⟩) (iIn (by decide) (by decide)) dX3_init_33 (fun H locs M45 hc_q1 hfr hH => ?_)
  have hc_q1 : M45 q1 = some (.inl (kA 4, 13, .inr (.inr (.inr (.inr (va_up (va_up (va_up (va_up (va_up (va_up (va_up (fun _ => none) (Int32.toNatClampNeg 0) (some q5)) (Int32.toNatClampNeg 1) (some q11)) (Int32.toNatClampNeg 2) (some q17)) (Int32.toNatClampNeg 3) (some q23)) (Int32.toNatClampNeg 4) (some q29)) (Int32.toNatClampNeg 5) (some q35)) (Int32.toNatClampNeg 6) (some q41))))))) := hc_q1
  have hc_h : M45 h = some (.inr (2, [.ref q1])) := (hfr h n_h_q1).trans hc_h
  have hF : ∀ a, a ≠ h → a < sz → M45 a = M a := fun a h0 h1 => (hfr a (Nat.ne_of_lt (Nat.lt_of_lt_of_le h1 g_q1))).trans (hF a h0 h1)
  refine lv_iinc (v := 7) (lv' := [(1, .int 7), (0, .ref h)]) hx hb dX3_init_34 hl (k := 0) rfl (by decide) (by decide) rfl (fun ls hl => ?_)
  refine lv_goto (tgt := 15) hx hb dX3_init_37 (by decide) ?_
  refine lv_iload_n hx hb dX3_init_15 rfl (lv_at hl 0 rfl) ?_
  refine lv_bipush (v := 12) hx hb dX3_init_16 (by decide) ?_
  refine jic_gt (tgt := 40) hx hb dX3_init_18 (by decide) (fun c46 => absurd c46 (by decide)) (fun c46 => ?_)
  refine lv_aload_n hx hb dX3_init_21 rfl (lv_at hl 1 rfl) ?_
  refine xg hC hK hH flX3_11 hc_h rfl dX3_init_22 ?_
  refine lv_iload_n hx hb dX3_init_25 rfl (lv_at hl 0 rfl) ?_
  refine ynew hC hK hH nlX3_9 (Nat.le_of_ble_eq_true rfl) (Nat.le_of_ble_eq_true rfl) dX3_init_26 (fun q47 H M48 e_q47 hz nM_q47 nT_q47 hc_q47 hfr hN => ?_)
  have g_q47 : sz ≤ q47 := by rw [← hsz, e_q47]; exact hH.2.1.1
  have n_h_q47 : h ≠ q47 := neN hc_h nM_q47
  have n_q47_h : q47 ≠ h := Ne.symm n_h_q47
  have n_q1_q47 : q1 ≠ q47 := neN hc_q1 nM_q47
  have n_q47_q1 : q47 ≠ q1 := Ne.symm n_q1_q47
  have hH := hN
  have hc_q47 : M48 q47 = some (.inr (1, [.int 0, .int 0, .int 0, .int 0, .int 0, .int 0, .int 0, .null])) := hc_q47
  have hc_h : M48 h = some (.inr (2, [.ref q1])) := (hfr h n_h_q47).trans hc_h
  have hc_q1 : M48 q1 = some (.inl (kA 4, 13, .inr (.inr (.inr (.inr (va_up (va_up (va_up (va_up (va_up (va_up (va_up (fun _ => none) (Int32.toNatClampNeg 0) (some q5)) (Int32.toNatClampNeg 1) (some q11)) (Int32.toNatClampNeg 2) (some q17)) (Int32.toNatClampNeg 3) (some q23)) (Int32.toNatClampNeg 4) (some q29)) (Int32.toNatClampNeg 5) (some q35)) (Int32.toNatClampNeg 6) (some q41))))))) := (hfr q1 n_q1_q47).trans hc_q1
  have hF : ∀ a, a ≠ h → a < sz → M48 a = M a := fun a h0 h1 => (hfr a (Nat.ne_of_lt (Nat.lt_of_lt_of_le h1 g_q47))).trans (hF a h0 h1)
  refine lv_dup hx hb dX3_init_29 rfl ?_
  have lt_q47 : q47 < Array.size H := hH.1.ltM (by rw [hc_q47]; simp)
  have gH : sz ≤ Array.size H := by rw [← hsz]; exact hH.2.1.1
  have lt_h : h < Array.size H := hH.1.ltM (by rw [hc_h]; simp)
  have lt_q1 : q1 < Array.size H := hH.1.ltM (by rw [hc_q1]; simp)
  have lt_q47 : q47 < Array.size H := hH.1.ltM (by rw [hc_q47]; simp)
  refine goV hK hH (runIN (As := []) (rest := [.ref q47, .int 7, .ref q1]) hC hK hH (c_X2_init hc_q47 lt_q47) mlX3_17 ⟨⟨Nat.le_of_ble_eq_true rfl, Nat.le_of_ble_eq_true rfl⟩, Nat.le_of_ble_eq_true rfl, Nat.le_of_ble_eq_true rfl⟩ rfl hl.1 rfl (Nat.le_of_ble_eq_true rfl) dX3_init_30) (fun M49 T50 H locs hP hz hH => ?_)
  try dsimp only at hP
  obtain ⟨nM_q47, t_q47, hsub, hfr⟩ := hP
  have hc_h : M49 h = some (.inr (2, [.ref q1])) := (hfr h n_h_q47 lt_h).trans hc_h
  have hc_q1 : M49 q1 = some (.inl (kA 4, 13, .inr (.inr (.inr (.inr (va_up (va_up (va_up (va_up (va_up (va_up (va_up (fun _ => none) (Int32.toNatClampNeg 0) (some q5)) (Int32.toNatClampNeg 1) (some q11)) (Int32.toNatClampNeg 2) (some q17)) (Int32.toNatClampNeg 3) (some q23)) (Int32.toNatClampNeg 4) (some q29)) (Int32.toNatClampNeg 5) (some q35)) (Int32.toNatClampNeg 6) (some q41))))))) := (hfr q1 n_q1_q47 lt_q1).trans hc_q1
  have t_q5 : T50 q5 = some 1 := hsub _ _ t_q5
  have t_q11 : T50 q11 = some 1 := hsub _ _ t_q11
  have t_q17 : T50 q17 = some 1 := hsub _ _ t_q17
  have t_q23 : T50 q23 = some 1 := hsub _ _ t_q23
  have t_q29 : T50 q29 = some 1 := hsub _ _ t_q29
  have t_q35 : T50 q35 = some 1 := hsub _ _ t_q35
  have t_q41 : T50 q41 = some 1 := hsub _ _ t_q41
  have hTT : ∀ a t, T a = some t → T50 a = some t := fun a t h => hsub _ _ (hTT a t h)
  have hF : ∀ a, a ≠ h → a < sz → M49 a = M a := fun a h0 h1 => (hfr a (Nat.ne_of_lt (Nat.lt_of_lt_of_le h1 g_q47)) (Nat.lt_of_lt_of_le h1 gH)).trans (hF a h0 h1)
  refine yqst (ck := 4) (cv := 1) (v := q47) hC hK hH rfl rfl hc_q1 (let ⟨fs, h1, _⟩ := tcell hH t_q47 rfl; ⟨fs, h1⟩) (iIn (by decide) (by decide)) dX3_init_33 (fun H locs M51 hc_q1 hfr hH => ?_)
  have hc_q1 : M51 q1 = some (.inl (kA 4, 13, .inr (.inr (.inr (.inr (va_up (va_up (va_up (va_up (va_up (va_up (va_up (va_up (fun _ => none) (Int32.toNatClampNeg 0) (some q5)) (Int32.toNatClampNeg 1) (some q11)) (Int32.toNatClampNeg 2) (some q17)) (Int32.toNatClampNeg 3) (some q23)) (Int32.toNatClampNeg 4) (some q29)) (Int32.toNatClampNeg 5) (some q35)) (Int32.toNatClampNeg 6) (some q41)) (Int32.toNatClampNeg 7) (some q47))))))) := hc_q1
  have hc_h : M51 h = some (.inr (2, [.ref q1])) := (hfr h n_h_q1).trans hc_h
  have hF : ∀ a, a ≠ h → a < sz → M51 a = M a := fun a h0 h1 => (hfr a (Nat.ne_of_lt (Nat.lt_of_lt_of_le h1 g_q1))).trans (hF a h0 h1)
  refine lv_iinc (v := 8) (lv' := [(1, .int 8), (0, .ref h)]) hx hb dX3_init_34 hl (k := 0) rfl (by decide) (by decide) rfl (fun ls hl => ?_)
  refine lv_goto (tgt := 15) hx hb dX3_init_37 (by decide) ?_
  refine lv_iload_n hx hb dX3_init_15 rfl (lv_at hl 0 rfl) ?_
  refine lv_bipush (v := 12) hx hb dX3_init_16 (by decide) ?_
  refine jic_gt (tgt := 40) hx hb dX3_init_18 (by decide) (fun c52 => absurd c52 (by decide)) (fun c52 => ?_)
  refine lv_aload_n hx hb dX3_init_21 rfl (lv_at hl 1 rfl) ?_
  refine xg hC hK hH flX3_11 hc_h rfl dX3_init_22 ?_
  refine lv_iload_n hx hb dX3_init_25 rfl (lv_at hl 0 rfl) ?_
  refine ynew hC hK hH nlX3_9 (Nat.le_of_ble_eq_true rfl) (Nat.le_of_ble_eq_true rfl) dX3_init_26 (fun q53 H M54 e_q53 hz nM_q53 nT_q53 hc_q53 hfr hN => ?_)
  have g_q53 : sz ≤ q53 := by rw [← hsz, e_q53]; exact hH.2.1.1
  have n_h_q53 : h ≠ q53 := neN hc_h nM_q53
  have n_q53_h : q53 ≠ h := Ne.symm n_h_q53
  have n_q1_q53 : q1 ≠ q53 := neN hc_q1 nM_q53
  have n_q53_q1 : q53 ≠ q1 := Ne.symm n_q1_q53
  have hH := hN
  have hc_q53 : M54 q53 = some (.inr (1, [.int 0, .int 0, .int 0, .int 0, .int 0, .int 0, .int 0, .null])) := hc_q53
  have hc_h : M54 h = some (.inr (2, [.ref q1])) := (hfr h n_h_q53).trans hc_h
  have hc_q1 : M54 q1 = some (.inl (kA 4, 13, .inr (.inr (.inr (.inr (va_up (va_up (va_up (va_up (va_up (va_up (va_up (va_up (fun _ => none) (Int32.toNatClampNeg 0) (some q5)) (Int32.toNatClampNeg 1) (some q11)) (Int32.toNatClampNeg 2) (some q17)) (Int32.toNatClampNeg 3) (some q23)) (Int32.toNatClampNeg 4) (some q29)) (Int32.toNatClampNeg 5) (some q35)) (Int32.toNatClampNeg 6) (some q41)) (Int32.toNatClampNeg 7) (some q47))))))) := (hfr q1 n_q1_q53).trans hc_q1
  have hF : ∀ a, a ≠ h → a < sz → M54 a = M a := fun a h0 h1 => (hfr a (Nat.ne_of_lt (Nat.lt_of_lt_of_le h1 g_q53))).trans (hF a h0 h1)
  refine lv_dup hx hb dX3_init_29 rfl ?_
  have lt_q53 : q53 < Array.size H := hH.1.ltM (by rw [hc_q53]; simp)
  have gH : sz ≤ Array.size H := by rw [← hsz]; exact hH.2.1.1
  have lt_h : h < Array.size H := hH.1.ltM (by rw [hc_h]; simp)
  have lt_q1 : q1 < Array.size H := hH.1.ltM (by rw [hc_q1]; simp)
  have lt_q53 : q53 < Array.size H := hH.1.ltM (by rw [hc_q53]; simp)
  refine goV hK hH (runIN (As := []) (rest := [.ref q53, .int 8, .ref q1]) hC hK hH (c_X2_init hc_q53 lt_q53) mlX3_17 ⟨⟨Nat.le_of_ble_eq_true rfl, Nat.le_of_ble_eq_true rfl⟩, Nat.le_of_ble_eq_true rfl, Nat.le_of_ble_eq_true rfl⟩ rfl hl.1 rfl (Nat.le_of_ble_eq_true rfl) dX3_init_30) (fun M55 T56 H locs hP hz hH => ?_)
  try dsimp only at hP
  obtain ⟨nM_q53, t_q53, hsub, hfr⟩ := hP
  have hc_h : M55 h = some (.inr (2, [.ref q1])) := (hfr h n_h_q53 lt_h).trans hc_h
  have hc_q1 : M55 q1 = some (.inl (kA 4, 13, .inr (.inr (.inr (.inr (va_up (va_up (va_up (va_up (va_up (va_up (va_up (va_up (fun _ => none) (Int32.toNatClampNeg 0) (some q5)) (Int32.toNatClampNeg 1) (some q11)) (Int32.toNatClampNeg 2) (some q17)) (Int32.toNatClampNeg 3) (some q23)) (Int32.toNatClampNeg 4) (some q29)) (Int32.toNatClampNeg 5) (some q35)) (Int32.toNatClampNeg 6) (some q41)) (Int32.toNatClampNeg 7) (some q47))))))) := (hfr q1 n_q1_q53 lt_q1).trans hc_q1
  have t_q5 : T56 q5 = some 1 := hsub _ _ t_q5
  have t_q11 : T56 q11 = some 1 := hsub _ _ t_q11
  have t_q17 : T56 q17 = some 1 := hsub _ _ t_q17
  have t_q23 : T56 q23 = some 1 := hsub _ _ t_q23
  have t_q29 : T56 q29 = some 1 := hsub _ _ t_q29
  have t_q35 : T56 q35 = some 1 := hsub _ _ t_q35
  have t_q41 : T56 q41 = some 1 := hsub _ _ t_q41
  have t_q47 : T56 q47 = some 1 := hsub _ _ t_q47
  have hTT : ∀ a t, T a = some t → T56 a = some t := fun a t h => hsub _ _ (hTT a t h)
  have hF : ∀ a, a ≠ h → a < sz → M55 a = M a := fun a h0 h1 => (hfr a (Nat.ne_of_lt (Nat.lt_of_lt_of_le h1 g_q53)) (Nat.lt_of_lt_of_le h1 gH)).trans (hF a h0 h1)
  refine yqst (ck := 4) (cv := 1) (v := q53) hC hK hH rfl rfl hc_q1 (let ⟨fs, h1, _⟩ := tcell hH t_q53 rfl; ⟨fs, h1⟩) (iIn (by decide) (by decide)) dX3_init_33 (fun H locs M57 hc_q1 hfr hH => ?_)
  have hc_q1 : M57 q1 = some (.inl (kA 4, 13, .inr (.inr (.inr (.inr (va_up (va_up (va_up (va_up (va_up (va_up (va_up (va_up (va_up (fun _ => none) (Int32.toNatClampNeg 0) (some q5)) (Int32.toNatClampNeg 1) (some q11)) (Int32.toNatClampNeg 2) (some q17)) (Int32.toNatClampNeg 3) (some q23)) (Int32.toNatClampNeg 4) (some q29)) (Int32.toNatClampNeg 5) (some q35)) (Int32.toNatClampNeg 6) (some q41)) (Int32.toNatClampNeg 7) (some q47)) (Int32.toNatClampNeg 8) (some q53))))))) := hc_q1
  have hc_h : M57 h = some (.inr (2, [.ref q1])) := (hfr h n_h_q1).trans hc_h
  have hF : ∀ a, a ≠ h → a < sz → M57 a = M a := fun a h0 h1 => (hfr a (Nat.ne_of_lt (Nat.lt_of_lt_of_le h1 g_q1))).trans (hF a h0 h1)
  refine lv_iinc (v := 9) (lv' := [(1, .int 9), (0, .ref h)]) hx hb dX3_init_34 hl (k := 0) rfl (by decide) (by decide) rfl (fun ls hl => ?_)
  refine lv_goto (tgt := 15) hx hb dX3_init_37 (by decide) ?_
  refine lv_iload_n hx hb dX3_init_15 rfl (lv_at hl 0 rfl) ?_
  refine lv_bipush (v := 12) hx hb dX3_init_16 (by decide) ?_
  refine jic_gt (tgt := 40) hx hb dX3_init_18 (by decide) (fun c58 => absurd c58 (by decide)) (fun c58 => ?_)
  refine lv_aload_n hx hb dX3_init_21 rfl (lv_at hl 1 rfl) ?_
  refine xg hC hK hH flX3_11 hc_h rfl dX3_init_22 ?_
  refine lv_iload_n hx hb dX3_init_25 rfl (lv_at hl 0 rfl) ?_
  refine ynew hC hK hH nlX3_9 (Nat.le_of_ble_eq_true rfl) (Nat.le_of_ble_eq_true rfl) dX3_init_26 (fun q59 H M60 e_q59 hz nM_q59 nT_q59 hc_q59 hfr hN => ?_)
  have g_q59 : sz ≤ q59 := by rw [← hsz, e_q59]; exact hH.2.1.1
  have n_h_q59 : h ≠ q59 := neN hc_h nM_q59
  have n_q59_h : q59 ≠ h := Ne.symm n_h_q59
  have n_q1_q59 : q1 ≠ q59 := neN hc_q1 nM_q59
  have n_q59_q1 : q59 ≠ q1 := Ne.symm n_q1_q59
  have hH := hN
  have hc_q59 : M60 q59 = some (.inr (1, [.int 0, .int 0, .int 0, .int 0, .int 0, .int 0, .int 0, .null])) := hc_q59
  have hc_h : M60 h = some (.inr (2, [.ref q1])) := (hfr h n_h_q59).trans hc_h
  have hc_q1 : M60 q1 = some (.inl (kA 4, 13, .inr (.inr (.inr (.inr (va_up (va_up (va_up (va_up (va_up (va_up (va_up (va_up (va_up (fun _ => none) (Int32.toNatClampNeg 0) (some q5)) (Int32.toNatClampNeg 1) (some q11)) (Int32.toNatClampNeg 2) (some q17)) (Int32.toNatClampNeg 3) (some q23)) (Int32.toNatClampNeg 4) (some q29)) (Int32.toNatClampNeg 5) (some q35)) (Int32.toNatClampNeg 6) (some q41)) (Int32.toNatClampNeg 7) (some q47)) (Int32.toNatClampNeg 8) (some q53))))))) := (hfr q1 n_q1_q59).trans hc_q1
  have hF : ∀ a, a ≠ h → a < sz → M60 a = M a := fun a h0 h1 => (hfr a (Nat.ne_of_lt (Nat.lt_of_lt_of_le h1 g_q59))).trans (hF a h0 h1)
  refine lv_dup hx hb dX3_init_29 rfl ?_
  have lt_q59 : q59 < Array.size H := hH.1.ltM (by rw [hc_q59]; simp)
  have gH : sz ≤ Array.size H := by rw [← hsz]; exact hH.2.1.1
  have lt_h : h < Array.size H := hH.1.ltM (by rw [hc_h]; simp)
  have lt_q1 : q1 < Array.size H := hH.1.ltM (by rw [hc_q1]; simp)
  have lt_q59 : q59 < Array.size H := hH.1.ltM (by rw [hc_q59]; simp)
  refine goV hK hH (runIN (As := []) (rest := [.ref q59, .int 9, .ref q1]) hC hK hH (c_X2_init hc_q59 lt_q59) mlX3_17 ⟨⟨Nat.le_of_ble_eq_true rfl, Nat.le_of_ble_eq_true rfl⟩, Nat.le_of_ble_eq_true rfl, Nat.le_of_ble_eq_true rfl⟩ rfl hl.1 rfl (Nat.le_of_ble_eq_true rfl) dX3_init_30) (fun M61 T62 H locs hP hz hH => ?_)
  try dsimp only at hP
  obtain ⟨nM_q59, t_q59, hsub, hfr⟩ := hP
  have hc_h : M61 h = some (.inr (2, [.ref q1])) := (hfr h n_h_q59 lt_h).trans hc_h
  have hc_q1 : M61 q1 = some (.inl (kA 4, 13, .inr (.inr (.inr (.inr (va_up (va_up (va_up (va_up (va_up (va_up (va_up (va_up (va_up (fun _ => none) (Int32.toNatClampNeg 0) (some q5)) (Int32.toNatClampNeg 1) (some q11)) (Int32.toNatClampNeg 2) (some q17)) (Int32.toNatClampNeg 3) (some q23)) (Int32.toNatClampNeg 4) (some q29)) (Int32.toNatClampNeg 5) (some q35)) (Int32.toNatClampNeg 6) (some q41)) (Int32.toNatClampNeg 7) (some q47)) (Int32.toNatClampNeg 8) (some q53))))))) := (hfr q1 n_q1_q59 lt_q1).trans hc_q1
  have t_q5 : T62 q5 = some 1 := hsub _ _ t_q5
  have t_q11 : T62 q11 = some 1 := hsub _ _ t_q11
  have t_q17 : T62 q17 = some 1 := hsub _ _ t_q17
  have t_q23 : T62 q23 = some 1 := hsub _ _ t_q23
  have t_q29 : T62 q29 = some 1 := hsub _ _ t_q29
  have t_q35 : T62 q35 = some 1 := hsub _ _ t_q35
  have t_q41 : T62 q41 = some 1 := hsub _ _ t_q41
  have t_q47 : T62 q47 = some 1 := hsub _ _ t_q47
  have t_q53 : T62 q53 = some 1 := hsub _ _ t_q53
  have hTT : ∀ a t, T a = some t → T62 a = some t := fun a t h => hsub _ _ (hTT a t h)
  have hF : ∀ a, a ≠ h → a < sz → M61 a = M a := fun a h0 h1 => (hfr a (Nat.ne_of_lt (Nat.lt_of_lt_of_le h1 g_q59)) (Nat.lt_of_lt_of_le h1 gH)).trans (hF a h0 h1)
  refine yqst (ck := 4) (cv := 1) (v := q59) hC hK hH rfl rfl hc_q1 (let ⟨fs, h1, _⟩ := tcell hH t_q59 rfl; ⟨fs, h1⟩) (iIn (by decide) (by decide)) dX3_init_33 (fun H locs M63 hc_q1 hfr hH => ?_)
  have hc_q1 : M63 q1 = some (.inl (kA 4, 13, .inr (.inr (.inr (.inr (va_up (va_up (va_up (va_up (va_up (va_up (va_up (va_up (va_up (va_up (fun _ => none) (Int32.toNatClampNeg 0) (some q5)) (Int32.toNatClampNeg 1) (some q11)) (Int32.toNatClampNeg 2) (some q17)) (Int32.toNatClampNeg 3) (some q23)) (Int32.toNatClampNeg 4) (some q29)) (Int32.toNatClampNeg 5) (some q35)) (Int32.toNatClampNeg 6) (some q41)) (Int32.toNatClampNeg 7) (some q47)) (Int32.toNatClampNeg 8) (some q53)) (Int32.toNatClampNeg 9) (some q59))))))) := hc_q1
  have hc_h : M63 h = some (.inr (2, [.ref q1])) := (hfr h n_h_q1).trans hc_h
  have hF : ∀ a, a ≠ h → a < sz → M63 a = M a := fun a h0 h1 => (hfr a (Nat.ne_of_lt (Nat.lt_of_lt_of_le h1 g_q1))).trans (hF a h0 h1)
  refine lv_iinc (v := 10) (lv' := [(1, .int 10), (0, .ref h)]) hx hb dX3_init_34 hl (k := 0) rfl (by decide) (by decide) rfl (fun ls hl => ?_)
  refine lv_goto (tgt := 15) hx hb dX3_init_37 (by decide) ?_
  refine lv_iload_n hx hb dX3_init_15 rfl (lv_at hl 0 rfl) ?_
  refine lv_bipush (v := 12) hx hb dX3_init_16 (by decide) ?_
  refine jic_gt (tgt := 40) hx hb dX3_init_18 (by decide) (fun c64 => absurd c64 (by decide)) (fun c64 => ?_)
  refine lv_aload_n hx hb dX3_init_21 rfl (lv_at hl 1 rfl) ?_
  refine xg hC hK hH flX3_11 hc_h rfl dX3_init_22 ?_
  refine lv_iload_n hx hb dX3_init_25 rfl (lv_at hl 0 rfl) ?_
  refine ynew hC hK hH nlX3_9 (Nat.le_of_ble_eq_true rfl) (Nat.le_of_ble_eq_true rfl) dX3_init_26 (fun q65 H M66 e_q65 hz nM_q65 nT_q65 hc_q65 hfr hN => ?_)
  have g_q65 : sz ≤ q65 := by rw [← hsz, e_q65]; exact hH.2.1.1
  have n_h_q65 : h ≠ q65 := neN hc_h nM_q65
  have n_q65_h : q65 ≠ h := Ne.symm n_h_q65
  have n_q1_q65 : q1 ≠ q65 := neN hc_q1 nM_q65
  have n_q65_q1 : q65 ≠ q1 := Ne.symm n_q1_q65
  have hH := hN
  have hc_q65 : M66 q65 = some (.inr (1, [.int 0, .int 0, .int 0, .int 0, .int 0, .int 0, .int 0, .null])) := hc_q65
  have hc_h : M66 h = some (.inr (2, [.ref q1])) := (hfr h n_h_q65).trans hc_h
  have hc_q1 : M66 q1 = some (.inl (kA 4, 13, .inr (.inr (.inr (.inr (va_up (va_up (va_up (va_up (va_up (va_up (va_up (va_up (va_up (va_up (fun _ => none) (Int32.toNatClampNeg 0) (some q5)) (Int32.toNatClampNeg 1) (some q11)) (Int32.toNatClampNeg 2) (some q17)) (Int32.toNatClampNeg 3) (some q23)) (Int32.toNatClampNeg 4) (some q29)) (Int32.toNatClampNeg 5) (some q35)) (Int32.toNatClampNeg 6) (some q41)) (Int32.toNatClampNeg 7) (some q47)) (Int32.toNatClampNeg 8) (some q53)) (Int32.toNatClampNeg 9) (some q59))))))) := (hfr q1 n_q1_q65).trans hc_q1
  have hF : ∀ a, a ≠ h → a < sz → M66 a = M a := fun a h0 h1 => (hfr a (Nat.ne_of_lt (Nat.lt_of_lt_of_le h1 g_q65))).trans (hF a h0 h1)
  refine lv_dup hx hb dX3_init_29 rfl ?_
  have lt_q65 : q65 < Array.size H := hH.1.ltM (by rw [hc_q65]; simp)
  have gH : sz ≤ Array.size H := by rw [← hsz]; exact hH.2.1.1
  have lt_h : h < Array.size H := hH.1.ltM (by rw [hc_h]; simp)
  have lt_q1 : q1 < Array.size H := hH.1.ltM (by rw [hc_q1]; simp)
  have lt_q65 : q65 < Array.size H := hH.1.ltM (by rw [hc_q65]; simp)
  refine goV hK hH (runIN (As := []) (rest := [.ref q65, .int 10, .ref q1]) hC hK hH (c_X2_init hc_q65 lt_q65) mlX3_17 ⟨⟨Nat.le_of_ble_eq_true rfl, Nat.le_of_ble_eq_true rfl⟩, Nat.le_of_ble_eq_true rfl, Nat.le_of_ble_eq_true rfl⟩ rfl hl.1 rfl (Nat.le_of_ble_eq_true rfl) dX3_init_30) (fun M67 T68 H locs hP hz hH => ?_)
  try dsimp only at hP
  obtain ⟨nM_q65, t_q65, hsub, hfr⟩ := hP
  have hc_h : M67 h = some (.inr (2, [.ref q1])) := (hfr h n_h_q65 lt_h).trans hc_h
  have hc_q1 : M67 q1 = some (.inl (kA 4, 13, .inr (.inr (.inr (.inr (va_up (va_up (va_up (va_up (va_up (va_up (va_up (va_up (va_up (va_up (fun _ => none) (Int32.toNatClampNeg 0) (some q5)) (Int32.toNatClampNeg 1) (some q11)) (Int32.toNatClampNeg 2) (some q17)) (Int32.toNatClampNeg 3) (some q23)) (Int32.toNatClampNeg 4) (some q29)) (Int32.toNatClampNeg 5) (some q35)) (Int32.toNatClampNeg 6) (some q41)) (Int32.toNatClampNeg 7) (some q47)) (Int32.toNatClampNeg 8) (some q53)) (Int32.toNatClampNeg 9) (some q59))))))) := (hfr q1 n_q1_q65 lt_q1).trans hc_q1
  have t_q5 : T68 q5 = some 1 := hsub _ _ t_q5
  have t_q11 : T68 q11 = some 1 := hsub _ _ t_q11
  have t_q17 : T68 q17 = some 1 := hsub _ _ t_q17
  have t_q23 : T68 q23 = some 1 := hsub _ _ t_q23
  have t_q29 : T68 q29 = some 1 := hsub _ _ t_q29
  have t_q35 : T68 q35 = some 1 := hsub _ _ t_q35
  have t_q41 : T68 q41 = some 1 := hsub _ _ t_q41
  have t_q47 : T68 q47 = some 1 := hsub _ _ t_q47
  have t_q53 : T68 q53 = some 1 := hsub _ _ t_q53
  have t_q59 : T68 q59 = some 1 := hsub _ _ t_q59
  have hTT : ∀ a t, T a = some t → T68 a = some t := fun a t h => hsub _ _ (hTT a t h)
  have hF : ∀ a, a ≠ h → a < sz → M67 a = M a := fun a h0 h1 => (hfr a (Nat.ne_of_lt (Nat.lt_of_lt_of_le h1 g_q65)) (Nat.lt_of_lt_of_le h1 gH)).trans (hF a h0 h1)
  refine yqst (ck := 4) (cv := 1) (v := q65) hC hK hH rfl rfl hc_q1 (let ⟨fs, h1, _⟩ := tcell hH t_q65 rfl; ⟨fs, h1⟩) (iIn (by decide) (by decide)) dX3_init_33 (fun H locs M69 hc_q1 hfr hH => ?_)
  have hc_q1 : M69 q1 = some (.inl (kA 4, 13, .inr (.inr (.inr (.inr (va_up (va_up (va_up (va_up (va_up (va_up (va_up (va_up (va_up (va_up (va_up (fun _ => none) (Int32.toNatClampNeg 0) (some q5)) (Int32.toNatClampNeg 1) (some q11)) (Int32.toNatClampNeg 2) (some q17)) (Int32.toNatClampNeg 3) (some q23)) (Int32.toNatClampNeg 4) (some q29)) (Int32.toNatClampNeg 5) (some q35)) (Int32.toNatClampNeg 6) (some q41)) (Int32.toNatClampNeg 7) (some q47)) (Int32.toNatClampNeg 8) (some q53)) (Int32.toNatClampNeg 9) (some q59)) (Int32.toNatClampNeg 10) (some q65))))))) := hc_q1
  have hc_h : M69 h = some (.inr (2, [.ref q1])) := (hfr h n_h_q1).trans hc_h
  have hF : ∀ a, a ≠ h → a < sz → M69 a = M a := fun a h0 h1 => (hfr a (Nat.ne_of_lt (Nat.lt_of_lt_of_le h1 g_q1))).trans (hF a h0 h1)
  refine lv_iinc (v := 11) (lv' := [(1, .int 11), (0, .ref h)]) hx hb dX3_init_34 hl (k := 0) rfl (by decide) (by decide) rfl (fun ls hl => ?_)
  refine lv_goto (tgt := 15) hx hb dX3_init_37 (by decide) ?_
  refine lv_iload_n hx hb dX3_init_15 rfl (lv_at hl 0 rfl) ?_
  refine lv_bipush (v := 12) hx hb dX3_init_16 (by decide) ?_
  refine jic_gt (tgt := 40) hx hb dX3_init_18 (by decide) (fun c70 => absurd c70 (by decide)) (fun c70 => ?_)
  refine lv_aload_n hx hb dX3_init_21 rfl (lv_at hl 1 rfl) ?_
  refine xg hC hK hH flX3_11 hc_h rfl dX3_init_22 ?_
  refine lv_iload_n hx hb dX3_init_25 rfl (lv_at hl 0 rfl) ?_
  refine ynew hC hK hH nlX3_9 (Nat.le_of_ble_eq_true rfl) (Nat.le_of_ble_eq_true rfl) dX3_init_26 (fun q71 H M72 e_q71 hz nM_q71 nT_q71 hc_q71 hfr hN => ?_)
  have g_q71 : sz ≤ q71 := by rw [← hsz, e_q71]; exact hH.2.1.1
  have n_h_q71 : h ≠ q71 := neN hc_h nM_q71
  have n_q71_h : q71 ≠ h := Ne.symm n_h_q71
  have n_q1_q71 : q1 ≠ q71 := neN hc_q1 nM_q71
  have n_q71_q1 : q71 ≠ q1 := Ne.symm n_q1_q71
  have hH := hN
  have hc_q71 : M72 q71 = some (.inr (1, [.int 0, .int 0, .int 0, .int 0, .int 0, .int 0, .int 0, .null])) := hc_q71
  have hc_h : M72 h = some (.inr (2, [.ref q1])) := (hfr h n_h_q71).trans hc_h
  have hc_q1 : M72 q1 = some (.inl (kA 4, 13, .inr (.inr (.inr (.inr (va_up (va_up (va_up (va_up (va_up (va_up (va_up (va_up (va_up (va_up (va_up (fun _ => none) (Int32.toNatClampNeg 0) (some q5)) (Int32.toNatClampNeg 1) (some q11)) (Int32.toNatClampNeg 2) (some q17)) (Int32.toNatClampNeg 3) (some q23)) (Int32.toNatClampNeg 4) (some q29)) (Int32.toNatClampNeg 5) (some q35)) (Int32.toNatClampNeg 6) (some q41)) (Int32.toNatClampNeg 7) (some q47)) (Int32.toNatClampNeg 8) (some q53)) (Int32.toNatClampNeg 9) (some q59)) (Int32.toNatClampNeg 10) (some q65))))))) := (hfr q1 n_q1_q71).trans hc_q1
  have hF : ∀ a, a ≠ h → a < sz → M72 a = M a := fun a h0 h1 => (hfr a (Nat.ne_of_lt (Nat.lt_of_lt_of_le h1 g_q71))).trans (hF a h0 h1)
  refine lv_dup hx hb dX3_init_29 rfl ?_
  have lt_q71 : q71 < Array.size H := hH.1.ltM (by rw [hc_q71]; simp)
  have gH : sz ≤ Array.size H := by rw [← hsz]; exact hH.2.1.1
  have lt_h : h < Array.size H := hH.1.ltM (by rw [hc_h]; simp)
  have lt_q1 : q1 < Array.size H := hH.1.ltM (by rw [hc_q1]; simp)
  have lt_q71 : q71 < Array.size H := hH.1.ltM (by rw [hc_q71]; simp)
  refine goV hK hH (runIN (As := []) (rest := [.ref q71, .int 11, .ref q1]) hC hK hH (c_X2_init hc_q71 lt_q71) mlX3_17 ⟨⟨Nat.le_of_ble_eq_true rfl, Nat.le_of_ble_eq_true rfl⟩, Nat.le_of_ble_eq_true rfl, Nat.le_of_ble_eq_true rfl⟩ rfl hl.1 rfl (Nat.le_of_ble_eq_true rfl) dX3_init_30) (fun M73 T74 H locs hP hz hH => ?_)
  try dsimp only at hP
  obtain ⟨nM_q71, t_q71, hsub, hfr⟩ := hP
  have hc_h : M73 h = some (.inr (2, [.ref q1])) := (hfr h n_h_q71 lt_h).trans hc_h
  have hc_q1 : M73 q1 = some (.inl (kA 4, 13, .inr (.inr (.inr (.inr (va_up (va_up (va_up (va_up (va_up (va_up (va_up (va_up (va_up (va_up (va_up (fun _ => none) (Int32.toNatClampNeg 0) (some q5)) (Int32.toNatClampNeg 1) (some q11)) (Int32.toNatClampNeg 2) (some q17)) (Int32.toNatClampNeg 3) (some q23)) (Int32.toNatClampNeg 4) (some q29)) (Int32.toNatClampNeg 5) (some q35)) (Int32.toNatClampNeg 6) (some q41)) (Int32.toNatClampNeg 7) (some q47)) (Int32.toNatClampNeg 8) (some q53)) (Int32.toNatClampNeg 9) (some q59)) (Int32.toNatClampNeg 10) (some q65))))))) := (hfr q1 n_q1_q71 lt_q1).trans hc_q1
  have t_q5 : T74 q5 = some 1 := hsub _ _ t_q5
  have t_q11 : T74 q11 = some 1 := hsub _ _ t_q11
  have t_q17 : T74 q17 = some 1 := hsub _ _ t_q17
  have t_q23 : T74 q23 = some 1 := hsub _ _ t_q23
  have t_q29 : T74 q29 = some 1 := hsub _ _ t_q29
  have t_q35 : T74 q35 = some 1 := hsub _ _ t_q35
  have t_q41 : T74 q41 = some 1 := hsub _ _ t_q41
  have t_q47 : T74 q47 = some 1 := hsub _ _ t_q47
  have t_q53 : T74 q53 = some 1 := hsub _ _ t_q53
  have t_q59 : T74 q59 = some 1 := hsub _ _ t_q59
  have t_q65 : T74 q65 = some 1 := hsub _ _ t_q65
  have hTT : ∀ a t, T a = some t → T74 a = some t := fun a t h => hsub _ _ (hTT a t h)
  have hF : ∀ a, a ≠ h → a < sz → M73 a = M a := fun a h0 h1 => (hfr a (Nat.ne_of_lt (Nat.lt_of_lt_of_le h1 g_q71)) (Nat.lt_of_lt_of_le h1 gH)).trans (hF a h0 h1)
  refine yqst (ck := 4) (cv := 1) (v := q71) hC hK hH rfl rfl hc_q1 (let ⟨fs, h1, _⟩ := tcell hH t_q71 rfl; ⟨fs, h1⟩) (iIn (by decide) (by decide)) dX3_init_33 (fun H locs M75 hc_q1 hfr hH => ?_)
  have hc_q1 : M75 q1 = some (.inl (kA 4, 13, .inr (.inr (.inr (.inr (va_up (va_up (va_up (va_up (va_up (va_up (va_up (va_up (va_up (va_up (va_up (va_up (fun _ => none) (Int32.toNatClampNeg 0) (some q5)) (Int32.toNatClampNeg 1) (some q11)) (Int32.toNatClampNeg 2) (some q17)) (Int32.toNatClampNeg 3) (some q23)) (Int32.toNatClampNeg 4) (some q29)) (Int32.toNatClampNeg 5) (some q35)) (Int32.toNatClampNeg 6) (some q41)) (Int32.toNatClampNeg 7) (some q47)) (Int32.toNatClampNeg 8) (some q53)) (Int32.toNatClampNeg 9) (some q59)) (Int32.toNatClampNeg 10) (some q65)) (Int32.toNatClampNeg 11) (some q71))))))) := hc_q1
  have hc_h : M75 h = some (.inr (2, [.ref q1])) := (hfr h n_h_q1).trans hc_h
  have hF : ∀ a, a ≠ h → a < sz → M75 a = M a := fun a h0 h1 => (hfr a (Nat.ne_of_lt (Nat.lt_of_lt_of_le h1 g_q1))).trans (hF a h0 h1)
  refine lv_iinc (v := 12) (lv' := [(1, .int 12), (0, .ref h)]) hx hb dX3_init_34 hl (k := 0) rfl (by decide) (by decide) rfl (fun ls hl => ?_)
  refine lv_goto (tgt := 15) hx hb dX3_init_37 (by decide) ?_
  refine lv_iload_n hx hb dX3_init_15 rfl (lv_at hl 0 rfl) ?_
  refine lv_bipush (v := 12) hx hb dX3_init_16 (by decide) ?_
  refine jic_gt (tgt := 40) hx hb dX3_init_18 (by decide) (fun c76 => absurd c76 (by decide)) (fun c76 => ?_)
  refine lv_aload_n hx hb dX3_init_21 rfl (lv_at hl 1 rfl) ?_
  refine xg hC hK hH flX3_11 hc_h rfl dX3_init_22 ?_
  refine lv_iload_n hx hb dX3_init_25 rfl (lv_at hl 0 rfl) ?_
  refine ynew hC hK hH nlX3_9 (Nat.le_of_ble_eq_true rfl) (Nat.le_of_ble_eq_true rfl) dX3_init_26 (fun q77 H M78 e_q77 hz nM_q77 nT_q77 hc_q77 hfr hN => ?_)
  have g_q77 : sz ≤ q77 := by rw [← hsz, e_q77]; exact hH.2.1.1
  have n_h_q77 : h ≠ q77 := neN hc_h nM_q77
  have n_q77_h : q77 ≠ h := Ne.symm n_h_q77
  have n_q1_q77 : q1 ≠ q77 := neN hc_q1 nM_q77
  have n_q77_q1 : q77 ≠ q1 := Ne.symm n_q1_q77
  have hH := hN
  have hc_q77 : M78 q77 = some (.inr (1, [.int 0, .int 0, .int 0, .int 0, .int 0, .int 0, .int 0, .null])) := hc_q77
  have hc_h : M78 h = some (.inr (2, [.ref q1])) := (hfr h n_h_q77).trans hc_h
  have hc_q1 : M78 q1 = some (.inl (kA 4, 13, .inr (.inr (.inr (.inr (va_up (va_up (va_up (va_up (va_up (va_up (va_up (va_up (va_up (va_up (va_up (va_up (fun _ => none) (Int32.toNatClampNeg 0) (some q5)) (Int32.toNatClampNeg 1) (some q11)) (Int32.toNatClampNeg 2) (some q17)) (Int32.toNatClampNeg 3) (some q23)) (Int32.toNatClampNeg 4) (some q29)) (Int32.toNatClampNeg 5) (some q35)) (Int32.toNatClampNeg 6) (some q41)) (Int32.toNatClampNeg 7) (some q47)) (Int32.toNatClampNeg 8) (some q53)) (Int32.toNatClampNeg 9) (some q59)) (Int32.toNatClampNeg 10) (some q65)) (Int32.toNatClampNeg 11) (some q71))))))) := (hfr q1 n_q1_q77).trans hc_q1
  have hF : ∀ a, a ≠ h → a < sz → M78 a = M a := fun a h0 h1 => (hfr a (Nat.ne_of_lt (Nat.lt_of_lt_of_le h1 g_q77))).trans (hF a h0 h1)
  refine lv_dup hx hb dX3_init_29 rfl ?_
  have lt_q77 : q77 < Array.size H := hH.1.ltM (by rw [hc_q77]; simp)
  have gH : sz ≤ Array.size H := by rw [← hsz]; exact hH.2.1.1
  have lt_h : h < Array.size H := hH.1.ltM (by rw [hc_h]; simp)
  have lt_q1 : q1 < Array.size H := hH.1.ltM (by rw [hc_q1]; simp)
  have lt_q77 : q77 < Array.size H := hH.1.ltM (by rw [hc_q77]; simp)
  refine goV hK hH (runIN (As := []) (rest := [.ref q77, .int 12, .ref q1]) hC hK hH (c_X2_init hc_q77 lt_q77) mlX3_17 ⟨⟨Nat.le_of_ble_eq_true rfl, Nat.le_of_ble_eq_true rfl⟩, Nat.le_of_ble_eq_true rfl, Nat.le_of_ble_eq_true rfl⟩ rfl hl.1 rfl (Nat.le_of_ble_eq_true rfl) dX3_init_30) (fun M79 T80 H locs hP hz hH => ?_)
  try dsimp only at hP
  obtain ⟨nM_q77, t_q77, hsub, hfr⟩ := hP
  have hc_h : M79 h = some (.inr (2, [.ref q1])) := (hfr h n_h_q77 lt_h).trans hc_h
  have hc_q1 : M79 q1 = some (.inl (kA 4, 13, .inr (.inr (.inr (.inr (va_up (va_up (va_up (va_up (va_up (va_up (va_up (va_up (va_up (va_up (va_up (va_up (fun _ => none) (Int32.toNatClampNeg 0) (some q5)) (Int32.toNatClampNeg 1) (some q11)) (Int32.toNatClampNeg 2) (some q17)) (Int32.toNatClampNeg 3) (some q23)) (Int32.toNatClampNeg 4) (some q29)) (Int32.toNatClampNeg 5) (some q35)) (Int32.toNatClampNeg 6) (some q41)) (Int32.toNatClampNeg 7) (some q47)) (Int32.toNatClampNeg 8) (some q53)) (Int32.toNatClampNeg 9) (some q59)) (Int32.toNatClampNeg 10) (some q65)) (Int32.toNatClampNeg 11) (some q71))))))) := (hfr q1 n_q1_q77 lt_q1).trans hc_q1
  have t_q5 : T80 q5 = some 1 := hsub _ _ t_q5
  have t_q11 : T80 q11 = some 1 := hsub _ _ t_q11
  have t_q17 : T80 q17 = some 1 := hsub _ _ t_q17
  have t_q23 : T80 q23 = some 1 := hsub _ _ t_q23
  have t_q29 : T80 q29 = some 1 := hsub _ _ t_q29
  have t_q35 : T80 q35 = some 1 := hsub _ _ t_q35
  have t_q41 : T80 q41 = some 1 := hsub _ _ t_q41
  have t_q47 : T80 q47 = some 1 := hsub _ _ t_q47
  have t_q53 : T80 q53 = some 1 := hsub _ _ t_q53
  have t_q59 : T80 q59 = some 1 := hsub _ _ t_q59
  have t_q65 : T80 q65 = some 1 := hsub _ _ t_q65
  have t_q71 : T80 q71 = some 1 := hsub _ _ t_q71
  have hTT : ∀ a t, T a = some t → T80 a = some t := fun a t h => hsub _ _ (hTT a t h)
  have hF : ∀ a, a ≠ h → a < sz → M79 a = M a := fun a h0 h1 => (hfr a (Nat.ne_of_lt (Nat.lt_of_lt_of_le h1 g_q77)) (Nat.lt_of_lt_of_le h1 gH)).trans (hF a h0 h1)
  refine yqst (ck := 4) (cv := 1) (v := q77) hC hK hH rfl rfl hc_q1 (let ⟨fs, h1, _⟩ := tcell hH t_q77 rfl; ⟨fs, h1⟩) (iIn (by decide) (by decide)) dX3_init_33 (fun H locs M81 hc_q1 hfr hH => ?_)
  have hc_q1 : M81 q1 = some (.inl (kA 4, 13, .inr (.inr (.inr (.inr (va_up (va_up (va_up (va_up (va_up (va_up (va_up (va_up (va_up (va_up (va_up (va_up (va_up (fun _ => none) (Int32.toNatClampNeg 0) (some q5)) (Int32.toNatClampNeg 1) (some q11)) (Int32.toNatClampNeg 2) (some q17)) (Int32.toNatClampNeg 3) (some q23)) (Int32.toNatClampNeg 4) (some q29)) (Int32.toNatClampNeg 5) (some q35)) (Int32.toNatClampNeg 6) (some q41)) (Int32.toNatClampNeg 7) (some q47)) (Int32.toNatClampNeg 8) (some q53)) (Int32.toNatClampNeg 9) (some q59)) (Int32.toNatClampNeg 10) (some q65)) (Int32.toNatClampNeg 11) (some q71)) (Int32.toNatClampNeg 12) (some q77))))))) := hc_q1
  have hc_h : M81 h = some (.inr (2, [.ref q1])) := (hfr h n_h_q1).trans hc_h
  have hF : ∀ a, a ≠ h → a < sz → M81 a = M a := fun a h0 h1 => (hfr a (Nat.ne_of_lt (Nat.lt_of_lt_of_le h1 g_q1))).trans (hF a h0 h1)
  refine lv_iinc (v := 13) (lv' := [(1, .int 13), (0, .ref h)]) hx hb dX3_init_34 hl (k := 0) rfl (by decide) (by decide) rfl (fun ls hl => ?_)
  refine lv_goto (tgt := 15) hx hb dX3_init_37 (by decide) ?_
  refine lv_iload_n hx hb dX3_init_15 rfl (lv_at hl 0 rfl) ?_
  refine lv_bipush (v := 12) hx hb dX3_init_16 (by decide) ?_
  refine jic_gt (tgt := 40) hx hb dX3_init_18 (by decide) (fun c82 => ?_) (fun c82 => absurd c82 (by decide))
  have hq : ∀ j, j < 13 → ∃ q, (va_up (va_up (va_up (va_up (va_up (va_up (va_up (va_up (va_up (va_up (va_up (va_up (va_up (fun _ => none) (Int32.toNatClampNeg 0) (some q5)) (Int32.toNatClampNeg 1) (some q11)) (Int32.toNatClampNeg 2) (some q17)) (Int32.toNatClampNeg 3) (some q23)) (Int32.toNatClampNeg 4) (some q29)) (Int32.toNatClampNeg 5) (some q35)) (Int32.toNatClampNeg 6) (some q41)) (Int32.toNatClampNeg 7) (some q47)) (Int32.toNatClampNeg 8) (some q53)) (Int32.toNatClampNeg 9) (some q59)) (Int32.toNatClampNeg 10) (some q65)) (Int32.toNatClampNeg 11) (some q71)) (Int32.toNatClampNeg 12) (some q77)) j = some q ∧ T80 q = some 1 := by
    intro j hj
    rcases (show j = 0 ∨ j = 1 ∨ j = 2 ∨ j = 3 ∨ j = 4 ∨ j = 5 ∨ j = 6 ∨ j = 7 ∨ j = 8 ∨ j = 9 ∨ j = 10 ∨ j = 11 ∨ j = 12 by omega) with rfl | rfl | rfl | rfl | rfl | rfl | rfl | rfl | rfl | rfl | rfl | rfl | rfl
    · exact ⟨q5, rfl, t_q5⟩
    · exact ⟨q11, rfl, t_q11⟩
    · exact ⟨q17, rfl, t_q17⟩
    · exact ⟨q23, rfl, t_q23⟩
    · exact ⟨q29, rfl, t_q29⟩
    · exact ⟨q35, rfl, t_q35⟩
    · exact ⟨q41, rfl, t_q41⟩
    · exact ⟨q47, rfl, t_q47⟩
    · exact ⟨q53, rfl, t_q53⟩
    · exact ⟨q59, rfl, t_q59⟩
    · exact ⟨q65, rfl, t_q65⟩
    · exact ⟨q71, rfl, t_q71⟩
    · exact ⟨q77, rfl, t_q77⟩
  obtain ⟨M83, T84, nM_q1, hfr, t_q1, hfT, hsub, hH⟩ := hH.re2 (τ := 8) hc_q1 (conf_q rfl (fun j hj => let ⟨q, h1, h2⟩ := hq j hj; ⟨q, h1, by rw [upN _ _ (fun z => by rw [z, hH.1.TN (by rw [hc_q1]; simp)] at h2; cases h2)]; exact h2⟩))
  have hc_h : M83 h = some (.inr (2, [.ref q1])) := (hfr h n_h_q1).trans hc_h
  have t_q5 : T84 q5 = some 1 := hsub _ _ t_q5
  have t_q11 : T84 q11 = some 1 := hsub _ _ t_q11
  have t_q17 : T84 q17 = some 1 := hsub _ _ t_q17
  have t_q23 : T84 q23 = some 1 := hsub _ _ t_q23
  have t_q29 : T84 q29 = some 1 := hsub _ _ t_q29
  have t_q35 : T84 q35 = some 1 := hsub _ _ t_q35
  have t_q41 : T84 q41 = some 1 := hsub _ _ t_q41
  have t_q47 : T84 q47 = some 1 := hsub _ _ t_q47
  have t_q53 : T84 q53 = some 1 := hsub _ _ t_q53
  have t_q59 : T84 q59 = some 1 := hsub _ _ t_q59
  have t_q65 : T84 q65 = some 1 := hsub _ _ t_q65
  have t_q71 : T84 q71 = some 1 := hsub _ _ t_q71
  have t_q77 : T84 q77 = some 1 := hsub _ _ t_q77
  have hTT : ∀ a t, T a = some t → T84 a = some t := fun a t h => hsub _ _ (hTT a t h)
  have hF : ∀ a, a ≠ h → a < sz → M83 a = M a := fun a h0 h1 => (hfr a (Nat.ne_of_lt (Nat.lt_of_lt_of_le h1 g_q1))).trans (hF a h0 h1)
  obtain ⟨M85, T86, nM_h, hfr, t_h, hfT, hsub, hH⟩ := hH.re2 (τ := 9) hc_h (conf_o rfl ⟨okR (by rw [upN _ _ (fun z => by rw [z] at t_q1; rw [hH.1.TN (by rw [hc_h]; simp)] at t_q1; cases t_q1)]; exact t_q1), trivial⟩)
  have t_q5 : T86 q5 = some 1 := hsub _ _ t_q5
  have t_q11 : T86 q11 = some 1 := hsub _ _ t_q11
  have t_q17 : T86 q17 = some 1 := hsub _ _ t_q17
  have t_q23 : T86 q23 = some 1 := hsub _ _ t_q23
  have t_q29 : T86 q29 = some 1 := hsub _ _ t_q29
  have t_q35 : T86 q35 = some 1 := hsub _ _ t_q35
  have t_q41 : T86 q41 = some 1 := hsub _ _ t_q41
  have t_q47 : T86 q47 = some 1 := hsub _ _ t_q47
  have t_q53 : T86 q53 = some 1 := hsub _ _ t_q53
  have t_q59 : T86 q59 = some 1 := hsub _ _ t_q59
  have t_q65 : T86 q65 = some 1 := hsub _ _ t_q65
  have t_q71 : T86 q71 = some 1 := hsub _ _ t_q71
  have t_q77 : T86 q77 = some 1 := hsub _ _ t_q77
  have t_q1 : T86 q1 = some 8 := hsub _ _ t_q1
  have hTT : ∀ a t, T a = some t → T86 a = some t := fun a t h => hsub _ _ (hTT a t h)
  have hF : ∀ a, a ≠ h → a < sz → M85 a = M a := fun a h0 h1 => (hfr a h0).trans (hF a h0 h1)
  exact ret_v hC hr hlk hK hH (⟨nM_h, t_h, hTT, hF⟩) (Nat.le_of_ble_eq_true rfl) (Nat.le_of_ble_eq_true rfl) dX3_init_40
