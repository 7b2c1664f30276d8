set_option maxHeartbeats 4000000 in
set_option maxRecDepth 100000 in
theorem c_X6_init {l : Launch} {D : va_G} {kA : Nat → ClassId} {M : mM} {T : mT} {sz : Nat} {h : Nat} (hc_h : M h = some (.inr (5, [.int 0, .int 0, .int 0, .int 0, .int 0, .int 0, .int 0, .int 0, .int 0, .int 0, .int 0]))) (hn_h : T h = none) : mCv l yX6_init cX6_init 1 1 0 0 D kA M T sz [.ref h] (fun u => (True) ∧ u.2 = T ∧ u.1 = M) := by
  unfold mCv
  refine start_W (by decide) (Nat.le_of_ble_eq_true rfl) ?_
  intro p e s m below meth c ls hC hr hlk hnm hK hH hsz hl
  have hx := hC.1
  have hb := hC.2.1
  have hl : lv_has ls 1 [(0, .ref h)] := hl
  refine lv_aload_n hx hb dX6_init_0 rfl (lv_at hl 0 rfl) ?_
  refine W.objInit hx hb hC.2.2.2.1 (hC.2.2.2.2 _ wlX6_3) (hC.2.2.2.2 _ w_oi) (hC.2.2.2.2 _ w_oc) rfl (by rw [hC.2.2.1]; exact hl.1) rfl dX6_init_1 (Nat.le_of_ble_eq_true rfl) (Nat.le_of_ble_eq_true rfl) ?_
  refine W.eq (g2 := F0 m 4 ls []) rfl ?_
  exact ret_v hC hr hlk hK hH (⟨trivial, rfl, rfl⟩) (Nat.le_of_ble_eq_true rfl) (Nat.le_of_ble_eq_true rfl) dX6_init_4
set_option maxHeartbeats 4000000 in
set_option maxRecDepth 100000 in
theorem c_X2_init {l : Launch} {D : va_G} {kA : Nat → ClassId} {M : mM} {T : mT} {sz h : Nat} (hc_h : M h = some (.inr (1, [.int 0, .int 0, .int 0, .int 0, .int 0, .int 0, .int 0, .null]))) (hn_h : T h = none) (hlt : h < sz) : mCv l yX2_init cX2_init 1 1 1 8 D kA M T sz [.ref h] (fun u => u.1 h = none ∧ u.2 h = some 1 ∧ (∀ a t, T a = some t → u.2 a = some t) ∧ (∀ a, a ≠ h → a < sz → u.2 a = T a) ∧ ∀ a, FrA T a → a ≠ h → a < sz → u.1 a = M a) := by
  unfold mCv
  refine start_W (by decide) (Nat.le_of_ble_eq_true rfl) ?_
  intro p e s m below meth c ls hC hr hlk hnm hK hH hsz hl
  have hx := hC.1
  have hb := hC.2.1
  have hl : lv_has ls 1 [(0, .ref h)] := hl
  have hF : ∀ a, FrA T a → a ≠ h → a < sz → M a = M a := fun a _ _ _ => rfl
  have hTF : ∀ a, a ≠ h → a < sz → T a = T a := fun a _ _ => rfl
  have hTT : ∀ a t, T a = some t → T a = some t := fun _ _ h => h
  refine lv_aload_n hx hb dX2_init_0 rfl (lv_at hl 0 rfl) ?_
  refine W.objInit hx hb hC.2.2.2.1 (hC.2.2.2.2 _ wlX2_3) (hC.2.2.2.2 _ w_oi) (hC.2.2.2.2 _ w_oc) rfl (by rw [hC.2.2.1]; exact hl.1) rfl dX2_init_1 (Nat.le_of_ble_eq_true rfl) (Nat.le_of_ble_eq_true rfl) ?_
  refine W.eq (g2 := F0 m 4 ls []) rfl ?_
  refine lv_aload_n hx hb dX2_init_4 rfl (lv_at hl 0 rfl) ?_
  refine lv_bipush (v := 8) hx hb dX2_init_5 (by decide) ?_
  refine ynewa (atype := .int) (ck := 0) (N := 8) (a0 := (8, .inl (fun _ => 0))) hC hK hH rfl w_ac0 rfl (fun _ h => by cases h) (fun _ => rfl) (by decide) (by decide) (by decide) (Nat.le_of_ble_eq_true rfl) (Nat.le_of_ble_eq_true rfl) dX2_init_7 (fun qq1_ Hq_ Mq2_ e_qq1_ hz nM_qq1_ hn_qq1_ hc_qq1_ hfr hN => ?_)
  have g_qq1_ : sz ≤ qq1_ := by rw [← hsz, e_qq1_]; exact hH.2.1.1
  have n_h_qq1_ : h ≠ qq1_ := neN hc_h nM_qq1_
  have n_qq1__h : qq1_ ≠ h := Ne.symm n_h_qq1_
  have hH := hN
  have hc_qq1_ : Mq2_ qq1_ = some (.inl (kA 0, 8, .inl (fun _ => 0))) := hc_qq1_
  have hc_h : Mq2_ h = some (.inr (1, [.int 0, .int 0, .int 0, .int 0, .int 0, .int 0, .int 0, .null])) := (hfr h n_h_qq1_).trans hc_h
  have hF : ∀ a, FrA T a → a ≠ h → a < sz → Mq2_ a = M a := fun a hA h0 h1 => (hfr a (Nat.ne_of_lt (Nat.lt_of_lt_of_le h1 g_qq1_))).trans (hF a hA h0 h1)
  refine ypF (v := .ref qq1_) hC hK hH hnm (fun _ _ _ h => by cases h; rfl) flX2_9 hc_h (noT hn_h) rfl rfl (Nat.le_of_ble_eq_true rfl) dX2_init_9 (fun Hq_ lcq_ Mq3_ hc_h hfr hH => ?_)
  have hc_h : Mq3_ h = some (.inr (1, [.int 0, .int 0, .int 0, .int 0, .int 0, .int 0, .int 0, .ref qq1_])) := hc_h
  have hc_qq1_ : Mq3_ qq1_ = some (.inl (kA 0, 8, .inl (fun _ => 0))) := (hfr qq1_ n_qq1__h).trans hc_qq1_
  have hF : ∀ a, FrA T a → a ≠ h → a < sz → Mq3_ a = M a := fun a hA h0 h1 => (hfr a h0).trans (hF a hA h0 h1)
  obtain ⟨Mq5_, Tq4_, nM_qq1_, hfr, t_qq1_, hfT, hsub, hH⟩ := hH.re2 (τ := 3) hc_qq1_ hn_qq1_ (conf_i rfl (fun _ _ => iRg _))
  have hc_h : Mq5_ h = some (.inr (1, [.int 0, .int 0, .int 0, .int 0, .int 0, .int 0, .int 0, .ref qq1_])) := (hfr h n_h_qq1_).trans hc_h
  have hn_h : Tq4_ h = none := (hfT h n_h_qq1_).trans hn_h
  have hTT : ∀ a t, T a = some t → Tq4_ a = some t := fun a t h => hsub _ _ (hTT a t h)
  have hTF : ∀ a, a ≠ h → a < sz → Tq4_ a = T a := fun a h0 h1 => (hfT a (Nat.ne_of_lt (Nat.lt_of_lt_of_le h1 g_qq1_))).trans (hTF a h0 h1)
  have hF : ∀ a, FrA T a → a ≠ h → a < sz → Mq5_ a = M a := fun a hA h0 h1 => (hfr a (Nat.ne_of_lt (Nat.lt_of_lt_of_le h1 g_qq1_))).trans (hF a hA h0 h1)
  obtain ⟨Mq7_, Tq6_, nM_h, hfr, t_h, hfT, hsub, hH⟩ := hH.re2 (τ := 1) hc_h hn_h (conf_o rfl ⟨okI (by decide) (by decide), okI (by decide) (by decide), okI (by decide) (by decide), okI (by decide) (by decide), okI (by decide) (by decide), okI (by decide) (by decide), okI (by decide) (by decide), okR (tUp hn_h t_qq1_), trivial⟩)
  have t_qq1_ : Tq6_ qq1_ = some 3 := hsub _ _ t_qq1_
  have hTT : ∀ a t, T a = some t → Tq6_ a = some t := fun a t h => hsub _ _ (hTT a t h)
  have hTF : ∀ a, a ≠ h → a < sz → Tq6_ a = T a := fun a h0 h1 => (hfT a h0).trans (hTF a h0 h1)
  have hF : ∀ a, FrA T a → a ≠ h → a < sz → Mq7_ a = M a := fun a hA h0 h1 => (hfr a h0).trans (hF a hA h0 h1)
  exact ret_v hC hr hlk hK hH (⟨nM_h, t_h, hTT, hTF, hF⟩) (Nat.le_of_ble_eq_true rfl) (Nat.le_of_ble_eq_true rfl) dX2_init_12
set_option maxHeartbeats 4000000 in
set_option maxRecDepth 100000 in
theorem c_X1_init {l : Launch} {D : va_G} {kA : Nat → ClassId} {M : mM} {T : mT} {sz h : Nat} (hc_h : M h = some (.inr (0, [.int 0, .int 0, .int 0, .int 0, .int 0, .int 0, .int 0, .int 0, .int 0, .int 0, .int 0, .int 0, .null, .null, .null, .null, .null, .null, .null]))) (hn_h : T h = none) (hlt : h < sz) : mCv l yX1_init cX1_init 2 2 21 232 D kA M T sz [.ref h] (fun u => u.1 h = none ∧ u.2 h = some 2 ∧ (∀ a t, T a = some t → u.2 a = some t) ∧ (∀ a, a ≠ h → a < sz → u.2 a = T a) ∧ ∀ a, FrA T a → a ≠ h → a < sz → u.1 a = M a) := by
  unfold mCv
  refine start_W (by decide) (Nat.le_of_ble_eq_true rfl) ?_
  intro p e s m below meth c ls hC hr hlk hnm hK hH hsz hl
  have hx := hC.1
  have hb := hC.2.1
  have hl : lv_has ls 2 [(0, .ref h)] := hl
  have hF : ∀ a, FrA T a → a ≠ h → a < sz → M a = M a := fun a _ _ _ => rfl
  have hTF : ∀ a, a ≠ h → a < sz → T a = T a := fun a _ _ => rfl
  have hTT : ∀ a t, T a = some t → T a = some t := fun _ _ h => h
  refine lv_aload_n hx hb dX1_init_0 rfl (lv_at hl 0 rfl) ?_
  refine W.objInit hx hb hC.2.2.2.1 (hC.2.2.2.2 _ wlX1_3) (hC.2.2.2.2 _ w_oi) (hC.2.2.2.2 _ w_oc) rfl (by rw [hC.2.2.1]; exact hl.1) rfl dX1_init_1 (Nat.le_of_ble_eq_true rfl) (Nat.le_of_ble_eq_true rfl) ?_
  refine W.eq (g2 := F0 m 4 ls []) rfl ?_
  refine lv_aload_n hx hb dX1_init_4 rfl (lv_at hl 0 rfl) ?_
  refine lv_bipush (v := 12) hx hb dX1_init_5 (by decide) ?_
  refine ynewq (ck := 3) (N := 12) hC hK hH wcX1_9 (by decide) rfl (by decide) (by decide) (by decide) (Nat.le_of_ble_eq_true rfl) (Nat.le_of_ble_eq_true rfl) dX1_init_7 (fun qq1_ Hq_ Mq2_ e_qq1_ hz nM_qq1_ hn_qq1_ hc_qq1_ hfr hN => ?_)
  have g_qq1_ : sz ≤ qq1_ := by rw [← hsz, e_qq1_]; exact hH.2.1.1
  have n_h_qq1_ : h ≠ qq1_ := neN hc_h nM_qq1_
  have n_qq1__h : qq1_ ≠ h := Ne.symm n_h_qq1_
  have hH := hN
  have hc_qq1_ : Mq2_ qq1_ = some (.inl (kA 3, 12, .inr (.inr (.inr (.inr (fun _ => none)))))) := hc_qq1_
  have hc_h : Mq2_ h = some (.inr (0, [.int 0, .int 0, .int 0, .int 0, .int 0, .int 0, .int 0, .int 0, .int 0, .int 0, .int 0, .int 0, .null, .null, .null, .null, .null, .null, .null])) := (hfr h n_h_qq1_).trans hc_h
  have hF : ∀ a, FrA T a → a ≠ h → a < sz → Mq2_ a = M a := fun a hA h0 h1 => (hfr a (Nat.ne_of_lt (Nat.lt_of_lt_of_le h1 g_qq1_))).trans (hF a hA h0 h1)
  refine ypF (v := .ref qq1_) hC hK hH hnm (fun _ _ _ h => by cases h; rfl) flX1_11 hc_h (noT hn_h) rfl rfl (Nat.le_of_ble_eq_true rfl) dX1_init_10 (fun Hq_ lcq_ Mq3_ hc_h hfr hH => ?_)
  have hc_h : Mq3_ h = some (.inr (0, [.int 0, .int 0, .int 0, .int 0, .int 0, .int 0, .int 0, .int 0, .int 0, .int 0, .int 0, .int 0, .ref qq1_, .null, .null, .null, .null, .null, .null])) := hc_h
  have hc_qq1_ : Mq3_ qq1_ = some (.inl (kA 3, 12, .inr (.inr (.inr (.inr (fun _ => none)))))) := (hfr qq1_ n_qq1__h).trans hc_qq1_
  have hF : ∀ a, FrA T a → a ≠ h → a < sz → Mq3_ a = M a := fun a hA h0 h1 => (hfr a h0).trans (hF a hA h0 h1)
  refine lv_aload_n hx hb dX1_init_13 rfl (lv_at hl 0 rfl) ?_
  refine ynew hC hK hH nlX1_17 (Nat.le_of_ble_eq_true rfl) (Nat.le_of_ble_eq_true rfl) dX1_init_14 (fun qq4_ Hq_ Mq5_ e_qq4_ hz nM_qq4_ hn_qq4_ hc_qq4_ hfr hN => ?_)
  have g_qq4_ : sz ≤ qq4_ := by rw [← hsz, e_qq4_]; exact hH.2.1.1
  have n_h_qq4_ : h ≠ qq4_ := neN hc_h nM_qq4_
  have n_qq4__h : qq4_ ≠ h := Ne.symm n_h_qq4_
  have n_qq1__qq4_ : qq1_ ≠ qq4_ := neN hc_qq1_ nM_qq4_
  have n_qq4__qq1_ : qq4_ ≠ qq1_ := Ne.symm n_qq1__qq4_
  have hH := hN
  have hc_qq4_ : Mq5_ qq4_ = some (.inr (1, [.int 0, .int 0, .int 0, .int 0, .int 0, .int 0, .int 0, .null])) := hc_qq4_
  have hc_h : Mq5_ h = some (.inr (0, [.int 0, .int 0, .int 0, .int 0, .int 0, .int 0, .int 0, .int 0, .int 0, .int 0, .int 0, .int 0, .ref qq1_, .null, .null, .null, .null, .null, .null])) := (hfr h n_h_qq4_).trans hc_h
  have hc_qq1_ : Mq5_ qq1_ = some (.inl (kA 3, 12, .inr (.inr (.inr (.inr (fun _ => none)))))) := (hfr qq1_ n_qq1__qq4_).trans hc_qq1_
  have hF : ∀ a, FrA T a → a ≠ h → a < sz → Mq5_ a = M a := fun a hA h0 h1 => (hfr a (Nat.ne_of_lt (Nat.lt_of_lt_of_le h1 g_qq4_))).trans (hF a hA h0 h1)
  refine lv_dup hx hb dX1_init_17 rfl ?_
  have gH : sz ≤ Array.size Hq_ := by rw [← hsz]; exact hH.2.1.1
  have lt_h : h < Array.size Hq_ := hH.1.ltM (by rw [hc_h]; simp)
  have lt_qq1_ : qq1_ < Array.size Hq_ := hH.1.ltM (by rw [hc_qq1_]; simp)
  have lt_qq4_ : qq4_ < Array.size Hq_ := hH.1.ltM (by rw [hc_qq4_]; simp)
  refine goV hK hH (runIN (As := []) (rest := [.ref qq4_, .ref h]) hC hK hH (c_X2_init hc_qq4_ hn_qq4_ lt_qq4_) mlX1_19 ⟨⟨Nat.le_of_ble_eq_true rfl, Nat.le_of_ble_eq_true rfl⟩, Nat.le_of_ble_eq_true rfl, Nat.le_of_ble_eq_true rfl⟩ rfl hl.1 rfl (Nat.le_of_ble_eq_true rfl) dX1_init_18) (fun Mq6_ Tq7_ Hq_ lcq_ hP hz hH => ?_)
  try dsimp only at hP
  obtain ⟨nM_qq4_, t_qq4_, hsub, hfT, hfr⟩ := hP
  have hc_h : Mq6_ h = some (.inr (0, [.int 0, .int 0, .int 0, .int 0, .int 0, .int 0, .int 0, .int 0, .int 0, .int 0, .int 0, .int 0, .ref qq1_, .null, .null, .null, .null, .null, .null])) := (hfr h (Or.inl hn_h) n_h_qq4_ lt_h).trans hc_h
  have hn_h : Tq7_ h = none := (hfT h n_h_qq4_ lt_h).trans hn_h
  have hc_qq1_ : Mq6_ qq1_ = some (.inl (kA 3, 12, .inr (.inr (.inr (.inr (fun _ => none)))))) := (hfr qq1_ (Or.inl hn_qq1_) n_qq1__qq4_ lt_qq1_).trans hc_qq1_
  have hn_qq1_ : Tq7_ qq1_ = none := (hfT qq1_ n_qq1__qq4_ lt_qq1_).trans hn_qq1_
  have hTT : ∀ a t, T a = some t → Tq7_ a = some t := fun a t h => hsub _ _ (hTT a t h)
  have hF : ∀ a, FrA T a → a ≠ h → a < sz → Mq6_ a = M a := fun a hA h0 h1 => (hfr a (FrA.mv (hTF a h0 h1) hA) (Nat.ne_of_lt (Nat.lt_of_lt_of_le h1 g_qq4_)) (Nat.lt_of_lt_of_le h1 gH)).trans (hF a hA h0 h1)
  have hTF : ∀ a, a ≠ h → a < sz → Tq7_ a = T a := fun a h0 h1 => (hfT a (Nat.ne_of_lt (Nat.lt_of_lt_of_le h1 g_qq4_)) (Nat.lt_of_lt_of_le h1 gH)).trans (hTF a h0 h1)
  refine ypF (v := .ref qq4_) hC hK hH hnm (fun _ _ _ h => by cases h; rfl) flX1_20 hc_h (noT hn_h) rfl rfl (Nat.le_of_ble_eq_true rfl) dX1_init_21 (fun Hq_ lcq_ Mq8_ hc_h hfr hH => ?_)
  have hc_h : Mq8_ h = some (.inr (0, [.int 0, .int 0, .int 0, .int 0, .int 0, .int 0, .int 0, .int 0, .int 0, .int 0, .int 0, .int 0, .ref qq1_, .ref qq4_, .null, .null, .null, .null, .null])) := hc_h
  have hc_qq1_ : Mq8_ qq1_ = some (.inl (kA 3, 12, .inr (.inr (.inr (.inr (fun _ => none)))))) := (hfr qq1_ n_qq1__h).trans hc_qq1_
  have hF : ∀ a, FrA T a → a ≠ h → a < sz → Mq8_ a = M a := fun a hA h0 h1 => (hfr a h0).trans (hF a hA h0 h1)
  refine lv_aload_n hx hb dX1_init_24 rfl (lv_at hl 0 rfl) ?_
  refine ynew hC hK hH nlX1_17 (Nat.le_of_ble_eq_true rfl) (Nat.le_of_ble_eq_true rfl) dX1_init_25 (fun qq9_ Hq_ Mq10_ e_qq9_ hz nM_qq9_ hn_qq9_ hc_qq9_ hfr hN => ?_)
  have g_qq9_ : sz ≤ qq9_ := by rw [← hsz, e_qq9_]; exact hH.2.1.1
  have n_h_qq9_ : h ≠ qq9_ := neN hc_h nM_qq9_
  have n_qq9__h : qq9_ ≠ h := Ne.symm n_h_qq9_
  have n_qq1__qq9_ : qq1_ ≠ qq9_ := neN hc_qq1_ nM_qq9_
  have n_qq9__qq1_ : qq9_ ≠ qq1_ := Ne.symm n_qq1__qq9_
  have hH := hN
  have hc_qq9_ : Mq10_ qq9_ = some (.inr (1, [.int 0, .int 0, .int 0, .int 0, .int 0, .int 0, .int 0, .null])) := hc_qq9_
  have hc_h : Mq10_ h = some (.inr (0, [.int 0, .int 0, .int 0, .int 0, .int 0, .int 0, .int 0, .int 0, .int 0, .int 0, .int 0, .int 0, .ref qq1_, .ref qq4_, .null, .null, .null, .null, .null])) := (hfr h n_h_qq9_).trans hc_h
  have hc_qq1_ : Mq10_ qq1_ = some (.inl (kA 3, 12, .inr (.inr (.inr (.inr (fun _ => none)))))) := (hfr qq1_ n_qq1__qq9_).trans hc_qq1_
  have hF : ∀ a, FrA T a → a ≠ h → a < sz → Mq10_ a = M a := fun a hA h0 h1 => (hfr a (Nat.ne_of_lt (Nat.lt_of_lt_of_le h1 g_qq9_))).trans (hF a hA h0 h1)
  refine lv_dup hx hb dX1_init_28 rfl ?_
  have gH : sz ≤ Array.size Hq_ := by rw [← hsz]; exact hH.2.1.1
  have lt_h : h < Array.size Hq_ := hH.1.ltM (by rw [hc_h]; simp)
  have lt_qq1_ : qq1_ < Array.size Hq_ := hH.1.ltM (by rw [hc_qq1_]; simp)
  have lt_qq9_ : qq9_ < Array.size Hq_ := hH.1.ltM (by rw [hc_qq9_]; simp)
  refine goV hK hH (runIN (As := []) (rest := [.ref qq9_, .ref h]) hC hK hH (c_X2_init hc_qq9_ hn_qq9_ lt_qq9_) mlX1_19 ⟨⟨Nat.le_of_ble_eq_true rfl, Nat.le_of_ble_eq_true rfl⟩, Nat.le_of_ble_eq_true rfl, Nat.le_of_ble_eq_true rfl⟩ rfl hl.1 rfl (Nat.le_of_ble_eq_true rfl) dX1_init_29) (fun Mq11_ Tq12_ Hq_ lcq_ hP hz hH => ?_)
  try dsimp only at hP
  obtain ⟨nM_qq9_, t_qq9_, hsub, hfT, hfr⟩ := hP
  have hc_h : Mq11_ h = some (.inr (0, [.int 0, .int 0, .int 0, .int 0, .int 0, .int 0, .int 0, .int 0, .int 0, .int 0, .int 0, .int 0, .ref qq1_, .ref qq4_, .null, .null, .null, .null, .null])) := (hfr h (Or.inl hn_h) n_h_qq9_ lt_h).trans hc_h
  have hn_h : Tq12_ h = none := (hfT h n_h_qq9_ lt_h).trans hn_h
  have hc_qq1_ : Mq11_ qq1_ = some (.inl (kA 3, 12, .inr (.inr (.inr (.inr (fun _ => none)))))) := (hfr qq1_ (Or.inl hn_qq1_) n_qq1__qq9_ lt_qq1_).trans hc_qq1_
  have hn_qq1_ : Tq12_ qq1_ = none := (hfT qq1_ n_qq1__qq9_ lt_qq1_).trans hn_qq1_
  have t_qq4_ : Tq12_ qq4_ = some 1 := hsub _ _ t_qq4_
  have hTT : ∀ a t, T a = some t → Tq12_ a = some t := fun a t h => hsub _ _ (hTT a t h)
  have hF : ∀ a, FrA T a → a ≠ h → a < sz → Mq11_ a = M a := fun a hA h0 h1 => (hfr a (FrA.mv (hTF a h0 h1) hA) (Nat.ne_of_lt (Nat.lt_of_lt_of_le h1 g_qq9_)) (Nat.lt_of_lt_of_le h1 gH)).trans (hF a hA h0 h1)
  have hTF : ∀ a, a ≠ h → a < sz → Tq12_ a = T a := fun a h0 h1 => (hfT a (Nat.ne_of_lt (Nat.lt_of_lt_of_le h1 g_qq9_)) (Nat.lt_of_lt_of_le h1 gH)).trans (hTF a h0 h1)
  refine ypF (v := .ref qq9_) hC hK hH hnm (fun _ _ _ h => by cases h; rfl) flX1_24 hc_h (noT hn_h) rfl rfl (Nat.le_of_ble_eq_true rfl) dX1_init_32 (fun Hq_ lcq_ Mq13_ hc_h hfr hH => ?_)
  have hc_h : Mq13_ h = some (.inr (0, [.int 0, .int 0, .int 0, .int 0, .int 0, .int 0, .int 0, .int 0, .int 0, .int 0, .int 0, .int 0, .ref qq1_, .ref qq4_, .ref qq9_, .null, .null, .null, .null])) := hc_h
  have hc_qq1_ : Mq13_ qq1_ = some (.inl (kA 3, 12, .inr (.inr (.inr (.inr (fun _ => none)))))) := (hfr qq1_ n_qq1__h).trans hc_qq1_
  have hF : ∀ a, FrA T a → a ≠ h → a < sz → Mq13_ a = M a := fun a hA h0 h1 => (hfr a h0).trans (hF a hA h0 h1)
  refine lv_aload_n hx hb dX1_init_35 rfl (lv_at hl 0 rfl) ?_
  refine lv_bipush (v := 14) hx hb dX1_init_36 (by decide) ?_
  refine ynewa (atype := .int) (ck := 0) (N := 14) (a0 := (14, .inl (fun _ => 0))) hC hK hH rfl w_ac0 rfl (fun _ h => by cases h) (fun _ => rfl) (by decide) (by decide) (by decide) (Nat.le_of_ble_eq_true rfl) (Nat.le_of_ble_eq_true rfl) dX1_init_38 (fun qq14_ Hq_ Mq15_ e_qq14_ hz nM_qq14_ hn_qq14_ hc_qq14_ hfr hN => ?_)
  have g_qq14_ : sz ≤ qq14_ := by rw [← hsz, e_qq14_]; exact hH.2.1.1
  have n_h_qq14_ : h ≠ qq14_ := neN hc_h nM_qq14_
  have n_qq14__h : qq14_ ≠ h := Ne.symm n_h_qq14_
  have n_qq1__qq14_ : qq1_ ≠ qq14_ := neN hc_qq1_ nM_qq14_
  have n_qq14__qq1_ : qq14_ ≠ qq1_ := Ne.symm n_qq1__qq14_
  have hH := hN
  have hc_qq14_ : Mq15_ qq14_ = some (.inl (kA 0, 14, .inl (fun _ => 0))) := hc_qq14_
  have hc_h : Mq15_ h = some (.inr (0, [.int 0, .int 0, .int 0, .int 0, .int 0, .int 0, .int 0, .int 0, .int 0, .int 0, .int 0, .int 0, .ref qq1_, .ref qq4_, .ref qq9_, .null, .null, .null, .null])) := (hfr h n_h_qq14_).trans hc_h
  have hc_qq1_ : Mq15_ qq1_ = some (.inl (kA 3, 12, .inr (.inr (.inr (.inr (fun _ => none)))))) := (hfr qq1_ n_qq1__qq14_).trans hc_qq1_
  have hF : ∀ a, FrA T a → a ≠ h → a < sz → Mq15_ a = M a := fun a hA h0 h1 => (hfr a (Nat.ne_of_lt (Nat.lt_of_lt_of_le h1 g_qq14_))).trans (hF a hA h0 h1)
  refine ypF (v := .ref qq14_) hC hK hH hnm (fun _ _ _ h => by cases h; rfl) flX1_27 hc_h (noT hn_h) rfl rfl (Nat.le_of_ble_eq_true rfl) dX1_init_40 (fun Hq_ lcq_ Mq16_ hc_h hfr hH => ?_)
  have hc_h : Mq16_ h = some (.inr (0, [.int 0, .int 0, .int 0, .int 0, .int 0, .int 0, .int 0, .int 0, .int 0, .int 0, .int 0, .int 0, .ref qq1_, .ref qq4_, .ref qq9_, .ref qq14_, .null, .null, .null])) := hc_h
  have hc_qq1_ : Mq16_ qq1_ = some (.inl (kA 3, 12, .inr (.inr (.inr (.inr (fun _ => none)))))) := (hfr qq1_ n_qq1__h).trans hc_qq1_
  have hc_qq14_ : Mq16_ qq14_ = some (.inl (kA 0, 14, .inl (fun _ => 0))) := (hfr qq14_ n_qq14__h).trans hc_qq14_
  have hF : ∀ a, FrA T a → a ≠ h → a < sz → Mq16_ a = M a := fun a hA h0 h1 => (hfr a h0).trans (hF a hA h0 h1)
  refine lv_aload_n hx hb dX1_init_43 rfl (lv_at hl 0 rfl) ?_
  refine lv_bipush (v := 14) hx hb dX1_init_44 (by decide) ?_
  refine ynewa (atype := .int) (ck := 0) (N := 14) (a0 := (14, .inl (fun _ => 0))) hC hK hH rfl w_ac0 rfl (fun _ h => by cases h) (fun _ => rfl) (by decide) (by decide) (by decide) (Nat.le_of_ble_eq_true rfl) (Nat.le_of_ble_eq_true rfl) dX1_init_46 (fun qq17_ Hq_ Mq18_ e_qq17_ hz nM_qq17_ hn_qq17_ hc_qq17_ hfr hN => ?_)
  have g_qq17_ : sz ≤ qq17_ := by rw [← hsz, e_qq17_]; exact hH.2.1.1
  have n_h_qq17_ : h ≠ qq17_ := neN hc_h nM_qq17_
  have n_qq17__h : qq17_ ≠ h := Ne.symm n_h_qq17_
  have n_qq1__qq17_ : qq1_ ≠ qq17_ := neN hc_qq1_ nM_qq17_
  have n_qq17__qq1_ : qq17_ ≠ qq1_ := Ne.symm n_qq1__qq17_
  have n_qq14__qq17_ : qq14_ ≠ qq17_ := neN hc_qq14_ nM_qq17_
  have n_qq17__qq14_ : qq17_ ≠ qq14_ := Ne.symm n_qq14__qq17_
  have hH := hN
  have hc_qq17_ : Mq18_ qq17_ = some (.inl (kA 0, 14, .inl (fun _ => 0))) := hc_qq17_
  have hc_h : Mq18_ h = some (.inr (0, [.int 0, .int 0, .int 0, .int 0, .int 0, .int 0, .int 0, .int 0, .int 0, .int 0, .int 0, .int 0, .ref qq1_, .ref qq4_, .ref qq9_, .ref qq14_, .null, .null, .null])) := (hfr h n_h_qq17_).trans hc_h
  have hc_qq1_ : Mq18_ qq1_ = some (.inl (kA 3, 12, .inr (.inr (.inr (.inr (fun _ => none)))))) := (hfr qq1_ n_qq1__qq17_).trans hc_qq1_
  have hc_qq14_ : Mq18_ qq14_ = some (.inl (kA 0, 14, .inl (fun _ => 0))) := (hfr qq14_ n_qq14__qq17_).trans hc_qq14_
  have hF : ∀ a, FrA T a → a ≠ h → a < sz → Mq18_ a = M a := fun a hA h0 h1 => (hfr a (Nat.ne_of_lt (Nat.lt_of_lt_of_le h1 g_qq17_))).trans (hF a hA h0 h1)
  refine ypF (v := .ref qq17_) hC hK hH hnm (fun _ _ _ h => by cases h; rfl) flX1_31 hc_h (noT hn_h) rfl rfl (Nat.le_of_ble_eq_true rfl) dX1_init_48 (fun Hq_ lcq_ Mq19_ hc_h hfr hH => ?_)
  have hc_h : Mq19_ h = some (.inr (0, [.int 0, .int 0, .int 0, .int 0, .int 0, .int 0, .int 0, .int 0, .int 0, .int 0, .int 0, .int 0, .ref qq1_, .ref qq4_, .ref qq9_, .ref qq14_, .ref qq17_, .null, .null])) := hc_h
  have hc_qq1_ : Mq19_ qq1_ = some (.inl (kA 3, 12, .inr (.inr (.inr (.inr (fun _ => none)))))) := (hfr qq1_ n_qq1__h).trans hc_qq1_
  have hc_qq14_ : Mq19_ qq14_ = some (.inl (kA 0, 14, .inl (fun _ => 0))) := (hfr qq14_ n_qq14__h).trans hc_qq14_
  have hc_qq17_ : Mq19_ qq17_ = some (.inl (kA 0, 14, .inl (fun _ => 0))) := (hfr qq17_ n_qq17__h).trans hc_qq17_
  have hF : ∀ a, FrA T a → a ≠ h → a < sz → Mq19_ a = M a := fun a hA h0 h1 => (hfr a h0).trans (hF a hA h0 h1)
  refine lv_aload_n hx hb dX1_init_51 rfl (lv_at hl 0 rfl) ?_
  refine lv_bipush (v := 14) hx hb dX1_init_52 (by decide) ?_
  refine ynewa (atype := .int) (ck := 0) (N := 14) (a0 := (14, .inl (fun _ => 0))) hC hK hH rfl w_ac0 rfl (fun _ h => by cases h) (fun _ => rfl) (by decide) (by decide) (by decide) (Nat.le_of_ble_eq_true rfl) (Nat.le_of_ble_eq_true rfl) dX1_init_54 (fun qq20_ Hq_ Mq21_ e_qq20_ hz nM_qq20_ hn_qq20_ hc_qq20_ hfr hN => ?_)
  have g_qq20_ : sz ≤ qq20_ := by rw [← hsz, e_qq20_]; exact hH.2.1.1
  have n_h_qq20_ : h ≠ qq20_ := neN hc_h nM_qq20_
  have n_qq20__h : qq20_ ≠ h := Ne.symm n_h_qq20_
  have n_qq1__qq20_ : qq1_ ≠ qq20_ := neN hc_qq1_ nM_qq20_
  have n_qq20__qq1_ : qq20_ ≠ qq1_ := Ne.symm n_qq1__qq20_
  have n_qq14__qq20_ : qq14_ ≠ qq20_ := neN hc_qq14_ nM_qq20_
  have n_qq20__qq14_ : qq20_ ≠ qq14_ := Ne.symm n_qq14__qq20_
  have n_qq17__qq20_ : qq17_ ≠ qq20_ := neN hc_qq17_ nM_qq20_
  have n_qq20__qq17_ : qq20_ ≠ qq17_ := Ne.symm n_qq17__qq20_
  have hH := hN
  have hc_qq20_ : Mq21_ qq20_ = some (.inl (kA 0, 14, .inl (fun _ => 0))) := hc_qq20_
  have hc_h : Mq21_ h = some (.inr (0, [.int 0, .int 0, .int 0, .int 0, .int 0, .int 0, .int 0, .int 0, .int 0, .int 0, .int 0, .int 0, .ref qq1_, .ref qq4_, .ref qq9_, .ref qq14_, .ref qq17_, .null, .null])) := (hfr h n_h_qq20_).trans hc_h
  have hc_qq1_ : Mq21_ qq1_ = some (.inl (kA 3, 12, .inr (.inr (.inr (.inr (fun _ => none)))))) := (hfr qq1_ n_qq1__qq20_).trans hc_qq1_
  have hc_qq14_ : Mq21_ qq14_ = some (.inl (kA 0, 14, .inl (fun _ => 0))) := (hfr qq14_ n_qq14__qq20_).trans hc_qq14_
  have hc_qq17_ : Mq21_ qq17_ = some (.inl (kA 0, 14, .inl (fun _ => 0))) := (hfr qq17_ n_qq17__qq20_).trans hc_qq17_
  have hF : ∀ a, FrA T a → a ≠ h → a < sz → Mq21_ a = M a := fun a hA h0 h1 => (hfr a (Nat.ne_of_lt (Nat.lt_of_lt_of_le h1 g_qq20_))).trans (hF a hA h0 h1)
  refine ypF (v := .ref qq20_) hC hK hH hnm (fun _ _ _ h => by cases h; rfl) flX1_34 hc_h (noT hn_h) rfl rfl (Nat.le_of_ble_eq_true rfl) dX1_init_56 (fun Hq_ lcq_ Mq22_ hc_h hfr hH => ?_)
  have hc_h : Mq22_ h = some (.inr (0, [.int 0, .int 0, .int 0, .int 0, .int 0, .int 0, .int 0, .int 0, .int 0, .int 0, .int 0, .int 0, .ref qq1_, .ref qq4_, .ref qq9_, .ref qq14_, .ref qq17_, .ref qq20_, .null])) := hc_h
  have hc_qq1_ : Mq22_ qq1_ = some (.inl (kA 3, 12, .inr (.inr (.inr (.inr (fun _ => none)))))) := (hfr qq1_ n_qq1__h).trans hc_qq1_
  have hc_qq14_ : Mq22_ qq14_ = some (.inl (kA 0, 14, .inl (fun _ => 0))) := (hfr qq14_ n_qq14__h).trans hc_qq14_
  have hc_qq17_ : Mq22_ qq17_ = some (.inl (kA 0, 14, .inl (fun _ => 0))) := (hfr qq17_ n_qq17__h).trans hc_qq17_
  have hc_qq20_ : Mq22_ qq20_ = some (.inl (kA 0, 14, .inl (fun _ => 0))) := (hfr qq20_ n_qq20__h).trans hc_qq20_
  have hF : ∀ a, FrA T a → a ≠ h → a < sz → Mq22_ a = M a := fun a hA h0 h1 => (hfr a h0).trans (hF a hA h0 h1)
  refine lv_aload_n hx hb dX1_init_59 rfl (lv_at hl 0 rfl) ?_
  refine lv_bipush (v := 14) hx hb dX1_init_60 (by decide) ?_
  refine ynewa (atype := .int) (ck := 0) (N := 14) (a0 := (14, .inl (fun _ => 0))) hC hK hH rfl w_ac0 rfl (fun _ h => by cases h) (fun _ => rfl) (by decide) (by decide) (by decide) (Nat.le_of_ble_eq_true rfl) (Nat.le_of_ble_eq_true rfl) dX1_init_62 (fun qq23_ Hq_ Mq24_ e_qq23_ hz nM_qq23_ hn_qq23_ hc_qq23_ hfr hN => ?_)
  have g_qq23_ : sz ≤ qq23_ := by rw [← hsz, e_qq23_]; exact hH.2.1.1
  have n_h_qq23_ : h ≠ qq23_ := neN hc_h nM_qq23_
  have n_qq23__h : qq23_ ≠ h := Ne.symm n_h_qq23_
  have n_qq1__qq23_ : qq1_ ≠ qq23_ := neN hc_qq1_ nM_qq23_
  have n_qq23__qq1_ : qq23_ ≠ qq1_ := Ne.symm n_qq1__qq23_
  have n_qq14__qq23_ : qq14_ ≠ qq23_ := neN hc_qq14_ nM_qq23_
  have n_qq23__qq14_ : qq23_ ≠ qq14_ := Ne.symm n_qq14__qq23_
  have n_qq17__qq23_ : qq17_ ≠ qq23_ := neN hc_qq17_ nM_qq23_
  have n_qq23__qq17_ : qq23_ ≠ qq17_ := Ne.symm n_qq17__qq23_
  have n_qq20__qq23_ : qq20_ ≠ qq23_ := neN hc_qq20_ nM_qq23_
  have n_qq23__qq20_ : qq23_ ≠ qq20_ := Ne.symm n_qq20__qq23_
  have hH := hN
  have hc_qq23_ : Mq24_ qq23_ = some (.inl (kA 0, 14, .inl (fun _ => 0))) := hc_qq23_
  have hc_h : Mq24_ h = some (.inr (0, [.int 0, .int 0, .int 0, .int 0, .int 0, .int 0, .int 0, .int 0, .int 0, .int 0, .int 0, .int 0, .ref qq1_, .ref qq4_, .ref qq9_, .ref qq14_, .ref qq17_, .ref qq20_, .null])) := (hfr h n_h_qq23_).trans hc_h
  have hc_qq1_ : Mq24_ qq1_ = some (.inl (kA 3, 12, .inr (.inr (.inr (.inr (fun _ => none)))))) := (hfr qq1_ n_qq1__qq23_).trans hc_qq1_
  have hc_qq14_ : Mq24_ qq14_ = some (.inl (kA 0, 14, .inl (fun _ => 0))) := (hfr qq14_ n_qq14__qq23_).trans hc_qq14_
  have hc_qq17_ : Mq24_ qq17_ = some (.inl (kA 0, 14, .inl (fun _ => 0))) := (hfr qq17_ n_qq17__qq23_).trans hc_qq17_
  have hc_qq20_ : Mq24_ qq20_ = some (.inl (kA 0, 14, .inl (fun _ => 0))) := (hfr qq20_ n_qq20__qq23_).trans hc_qq20_
  have hF : ∀ a, FrA T a → a ≠ h → a < sz → Mq24_ a = M a := fun a hA h0 h1 => (hfr a (Nat.ne_of_lt (Nat.lt_of_lt_of_le h1 g_qq23_))).trans (hF a hA h0 h1)
  refine ypF (v := .ref qq23_) hC hK hH hnm (fun _ _ _ h => by cases h; rfl) flX1_37 hc_h (noT hn_h) rfl rfl (Nat.le_of_ble_eq_true rfl) dX1_init_64 (fun Hq_ lcq_ Mq25_ hc_h hfr hH => ?_)
  have hc_h : Mq25_ h = some (.inr (0, [.int 0, .int 0, .int 0, .int 0, .int 0, .int 0, .int 0, .int 0, .int 0, .int 0, .int 0, .int 0, .ref qq1_, .ref qq4_, .ref qq9_, .ref qq14_, .ref qq17_, .ref qq20_, .ref qq23_])) := hc_h
  have hc_qq1_ : Mq25_ qq1_ = some (.inl (kA 3, 12, .inr (.inr (.inr (.inr (fun _ => none)))))) := (hfr qq1_ n_qq1__h).trans hc_qq1_
  have hc_qq14_ : Mq25_ qq14_ = some (.inl (kA 0, 14, .inl (fun _ => 0))) := (hfr qq14_ n_qq14__h).trans hc_qq14_
  have hc_qq17_ : Mq25_ qq17_ = some (.inl (kA 0, 14, .inl (fun _ => 0))) := (hfr qq17_ n_qq17__h).trans hc_qq17_
  have hc_qq20_ : Mq25_ qq20_ = some (.inl (kA 0, 14, .inl (fun _ => 0))) := (hfr qq20_ n_qq20__h).trans hc_qq20_
  have hc_qq23_ : Mq25_ qq23_ = some (.inl (kA 0, 14, .inl (fun _ => 0))) := (hfr qq23_ n_qq23__h).trans hc_qq23_
  have hF : ∀ a, FrA T a → a ≠ h → a < sz → Mq25_ a = M a := fun a hA h0 h1 => (hfr a h0).trans (hF a hA h0 h1)
  refine lv_iconst (v := 0) hx hb dX1_init_67 (by decide) ?_
  refine lv_istore_n (lv' := [(1, .int 0), (0, .ref h)]) hx hb dX1_init_68 rfl hl (by decide) rfl (fun ls hl => ?_)
  refine lv_iload_n hx hb dX1_init_69 rfl (lv_at hl 0 rfl) ?_
  refine lv_bipush (v := 12) hx hb dX1_init_70 (by decide) ?_
  refine jic_ge (tgt := 94) hx hb dX1_init_72 (by decide) (fun cq26_ => absurd cq26_ (by decide)) (fun cq26_ => ?_)
  refine lv_aload_n hx hb dX1_init_75 rfl (lv_at hl 1 rfl) ?_
  refine xg hC hK hH flX1_11 hc_h rfl dX1_init_76 ?_
  refine lv_iload_n hx hb dX1_init_79 rfl (lv_at hl 0 rfl) ?_
  refine ynew hC hK hH nlX1_9 (Nat.le_of_ble_eq_true rfl) (Nat.le_of_ble_eq_true rfl) dX1_init_80 (fun qq27_ Hq_ Mq28_ e_qq27_ hz nM_qq27_ hn_qq27_ hc_qq27_ hfr hN => ?_)
  have g_qq27_ : sz ≤ qq27_ := by rw [← hsz, e_qq27_]; exact hH.2.1.1
  have n_h_qq27_ : h ≠ qq27_ := neN hc_h nM_qq27_
  have n_qq27__h : qq27_ ≠ h := Ne.symm n_h_qq27_
  have n_qq1__qq27_ : qq1_ ≠ qq27_ := neN hc_qq1_ nM_qq27_
  have n_qq27__qq1_ : qq27_ ≠ qq1_ := Ne.symm n_qq1__qq27_
  have n_qq14__qq27_ : qq14_ ≠ qq27_ := neN hc_qq14_ nM_qq27_
  have n_qq27__qq14_ : qq27_ ≠ qq14_ := Ne.symm n_qq14__qq27_
  have n_qq17__qq27_ : qq17_ ≠ qq27_ := neN hc_qq17_ nM_qq27_
  have n_qq27__qq17_ : qq27_ ≠ qq17_ := Ne.symm n_qq17__qq27_
  have n_qq20__qq27_ : qq20_ ≠ qq27_ := neN hc_qq20_ nM_qq27_
  have n_qq27__qq20_ : qq27_ ≠ qq20_ := Ne.symm n_qq20__qq27_
  have n_qq23__qq27_ : qq23_ ≠ qq27_ := neN hc_qq23_ nM_qq27_
  have n_qq27__qq23_ : qq27_ ≠ qq23_ := Ne.symm n_qq23__qq27_
  have hH := hN
  have hc_qq27_ : Mq28_ qq27_ = some (.inr (5, [.int 0, .int 0, .int 0, .int 0, .int 0, .int 0, .int 0, .int 0, .int 0, .int 0, .int 0])) := hc_qq27_
  have hc_h : Mq28_ h = some (.inr (0, [.int 0, .int 0, .int 0, .int 0, .int 0, .int 0, .int 0, .int 0, .int 0, .int 0, .int 0, .int 0, .ref qq1_, .ref qq4_, .ref qq9_, .ref qq14_, .ref qq17_, .ref qq20_, .ref qq23_])) := (hfr h n_h_qq27_).trans hc_h
  have hc_qq1_ : Mq28_ qq1_ = some (.inl (kA 3, 12, .inr (.inr (.inr (.inr (fun _ => none)))))) := (hfr qq1_ n_qq1__qq27_).trans hc_qq1_
  have hc_qq14_ : Mq28_ qq14_ = some (.inl (kA 0, 14, .inl (fun _ => 0))) := (hfr qq14_ n_qq14__qq27_).trans hc_qq14_
  have hc_qq17_ : Mq28_ qq17_ = some (.inl (kA 0, 14, .inl (fun _ => 0))) := (hfr qq17_ n_qq17__qq27_).trans hc_qq17_
  have hc_qq20_ : Mq28_ qq20_ = some (.inl (kA 0, 14, .inl (fun _ => 0))) := (hfr qq20_ n_qq20__qq27_).trans hc_qq20_
  have hc_qq23_ : Mq28_ qq23_ = some (.inl (kA 0, 14, .inl (fun _ => 0))) := (hfr qq23_ n_qq23__qq27_).trans hc_qq23_
  have hF : ∀ a, FrA T a → a ≠ h → a < sz → Mq28_ a = M a := fun a hA h0 h1 => (hfr a (Nat.ne_of_lt (Nat.lt_of_lt_of_le h1 g_qq27_))).trans (hF a hA h0 h1)
  refine lv_dup hx hb dX1_init_83 rfl ?_
  refine goV hK hH (runIN (As := []) (rest := [.ref qq27_, .int 0, .ref qq1_]) hC hK hH (c_X6_init hc_qq27_ hn_qq27_) mlX1_40 ⟨⟨Nat.le_of_ble_eq_true rfl, Nat.le_of_ble_eq_true rfl⟩, Nat.le_of_ble_eq_true rfl, Nat.le_of_ble_eq_true rfl⟩ rfl hl.1 rfl (Nat.le_of_ble_eq_true rfl) dX1_init_84) (fun Mq29_ Tq30_ Hq_ lcq_ hP hz hH => ?_)
  try dsimp only at hP
  obtain ⟨(-), eT, eM⟩ := hP
  have eT := eT.symm; subst eT
  have eM := eM.symm; subst eM
  obtain ⟨Mq33_, Tq32_, nM_qq27_, hfr, t_qq27_, hfT, hsub, hH⟩ := hH.re2 (τ := 0) hc_qq27_ hn_qq27_ (conf_o rfl ⟨okI (by decide) (by decide), okI (by decide) (by decide), okI (by decide) (by decide), okI (by decide) (by decide), okI (by decide) (by decide), okI (by decide) (by decide), okI (by decide) (by decide), okI (by decide) (by decide), okI (by decide) (by decide), okI (by decide) (by decide), okI (by decide) (by decide), trivial⟩)
  have hc_h : Mq33_ h = some (.inr (0, [.int 0, .int 0, .int 0, .int 0, .int 0, .int 0, .int 0, .int 0, .int 0, .int 0, .int 0, .int 0, .ref qq1_, .ref qq4_, .ref qq9_, .ref qq14_, .ref qq17_, .ref qq20_, .ref qq23_])) := (hfr h n_h_qq27_).trans hc_h
  have hc_qq1_ : Mq33_ qq1_ = some (.inl (kA 3, 12, .inr (.inr (.inr (.inr (fun _ => none)))))) := (hfr qq1_ n_qq1__qq27_).trans hc_qq1_
  have hc_qq14_ : Mq33_ qq14_ = some (.inl (kA 0, 14, .inl (fun _ => 0))) := (hfr qq14_ n_qq14__qq27_).trans hc_qq14_
  have hc_qq17_ : Mq33_ qq17_ = some (.inl (kA 0, 14, .inl (fun _ => 0))) := (hfr qq17_ n_qq17__qq27_).trans hc_qq17_
  have hc_qq20_ : Mq33_ qq20_ = some (.inl (kA 0, 14, .inl (fun _ => 0))) := (hfr qq20_ n_qq20__qq27_).trans hc_qq20_
  have hc_qq23_ : Mq33_ qq23_ = some (.inl (kA 0, 14, .inl (fun _ => 0))) := (hfr qq23_ n_qq23__qq27_).trans hc_qq23_
  have hn_h : Tq32_ h = none := (hfT h n_h_qq27_).trans hn_h
  have hn_qq1_ : Tq32_ qq1_ = none := (hfT qq1_ n_qq1__qq27_).trans hn_qq1_
  have hn_qq14_ : Tq32_ qq14_ = none := (hfT qq14_ n_qq14__qq27_).trans hn_qq14_
  have hn_qq17_ : Tq32_ qq17_ = none := (hfT qq17_ n_qq17__qq27_).trans hn_qq17_
  have hn_qq20_ : Tq32_ qq20_ = none := (hfT qq20_ n_qq20__qq27_).trans hn_qq20_
  have hn_qq23_ : Tq32_ qq23_ = none := (hfT qq23_ n_qq23__qq27_).trans hn_qq23_
  have t_qq4_ : Tq32_ qq4_ = some 1 := hsub _ _ t_qq4_
  have t_qq9_ : Tq32_ qq9_ = some 1 := hsub _ _ t_qq9_
  have hTT : ∀ a t, T a = some t → Tq32_ a = some t := fun a t h => hsub _ _ (hTT a t h)
  have hTF : ∀ a, a ≠ h → a < sz → Tq32_ a = T a := fun a h0 h1 => (hfT a (Nat.ne_of_lt (Nat.lt_of_lt_of_le h1 g_qq27_))).trans (hTF a h0 h1)
  have hF : ∀ a, FrA T a → a ≠ h → a < sz → Mq33_ a = M a := fun a hA h0 h1 => (hfr a (Nat.ne_of_lt (Nat.lt_of_lt_of_le h1 g_qq27_))).trans (hF a hA h0 h1)
  refine yqst (ck := 3) (cv := 5) (v := qq27_) hC hK hH rfl rfl hc_qq1_ (let ⟨fs, h1, _⟩ := tcell hH t_qq27_ rfl; ⟨fs, h1⟩) (noT hn_qq1_) (iIn (by decide) (by decide)) dX1_init_87 (fun Hq_ lcq_ Mq34_ hc_qq1_ hfr hH => ?_)
  have hc_qq1_ : Mq34_ qq1_ = some (.inl (kA 3, 12, .inr (.inr (.inr (.inr (va_up (fun _ => none) (Int32.toNatClampNeg 0) (some qq27_))))))) := hc_qq1_
  have hc_h : Mq34_ h = some (.inr (0, [.int 0, .int 0, .int 0, .int 0, .int 0, .int 0, .int 0, .int 0, .int 0, .int 0, .int 0, .int 0, .ref qq1_, .ref qq4_, .ref qq9_, .ref qq14_, .ref qq17_, .ref qq20_, .ref qq23_])) := (hfr h n_h_qq1_).trans hc_h
  have hc_qq14_ : Mq34_ qq14_ = some (.inl (kA 0, 14, .inl (fun _ => 0))) := (hfr qq14_ n_qq14__qq1_).trans hc_qq14_
  have hc_qq17_ : Mq34_ qq17_ = some (.inl (kA 0, 14, .inl (fun _ => 0))) := (hfr qq17_ n_qq17__qq1_).trans hc_qq17_
  have hc_qq20_ : Mq34_ qq20_ = some (.inl (kA 0, 14, .inl (fun _ => 0))) := (hfr qq20_ n_qq20__qq1_).trans hc_qq20_
  have hc_qq23_ : Mq34_ qq23_ = some (.inl (kA 0, 14, .inl (fun _ => 0))) := (hfr qq23_ n_qq23__qq1_).trans hc_qq23_
  have hF : ∀ a, FrA T a → a ≠ h → a < sz → Mq34_ a = M a := fun a hA h0 h1 => (hfr a (Nat.ne_of_lt (Nat.lt_of_lt_of_le h1 g_qq1_))).trans (hF a hA h0 h1)
  refine lv_iinc (v := 1) (lv' := [(1, .int 1), (0, .ref h)]) hx hb dX1_init_88 hl (k := 0) rfl (by decide) (by decide) rfl (fun ls hl => ?_)
  refine lv_goto (tgt := 69) hx hb dX1_init_91 (by decide) ?_
  refine lv_iload_n hx hb dX1_init_69 rfl (lv_at hl 0 rfl) ?_
  refine lv_bipush (v := 12) hx hb dX1_init_70 (by decide) ?_
  refine jic_ge (tgt := 94) hx hb dX1_init_72 (by decide) (fun cq35_ => absurd cq35_ (by decide)) (fun cq35_ => ?_)
  refine lv_aload_n hx hb dX1_init_75 rfl (lv_at hl 1 rfl) ?_
  refine xg hC hK hH flX1_11 hc_h rfl dX1_init_76 ?_
  refine lv_iload_n hx hb dX1_init_79 rfl (lv_at hl 0 rfl) ?_
  refine ynew hC hK hH nlX1_9 (Nat.le_of_ble_eq_true rfl) (Nat.le_of_ble_eq_true rfl) dX1_init_80 (fun qq36_ Hq_ Mq37_ e_qq36_ hz nM_qq36_ hn_qq36_ hc_qq36_ hfr hN => ?_)
  have g_qq36_ : sz ≤ qq36_ := by rw [← hsz, e_qq36_]; exact hH.2.1.1
  have n_h_qq36_ : h ≠ qq36_ := neN hc_h nM_qq36_
  have n_qq36__h : qq36_ ≠ h := Ne.symm n_h_qq36_
  have n_qq1__qq36_ : qq1_ ≠ qq36_ := neN hc_qq1_ nM_qq36_
  have n_qq36__qq1_ : qq36_ ≠ qq1_ := Ne.symm n_qq1__qq36_
  have n_qq14__qq36_ : qq14_ ≠ qq36_ := neN hc_qq14_ nM_qq36_
  have n_qq36__qq14_ : qq36_ ≠ qq14_ := Ne.symm n_qq14__qq36_
  have n_qq17__qq36_ : qq17_ ≠ qq36_ := neN hc_qq17_ nM_qq36_
  have n_qq36__qq17_ : qq36_ ≠ qq17_ := Ne.symm n_qq17__qq36_
  have n_qq20__qq36_ : qq20_ ≠ qq36_ := neN hc_qq20_ nM_qq36_
  have n_qq36__qq20_ : qq36_ ≠ qq20_ := Ne.symm n_qq20__qq36_
  have n_qq23__qq36_ : qq23_ ≠ qq36_ := neN hc_qq23_ nM_qq36_
  have n_qq36__qq23_ : qq36_ ≠ qq23_ := Ne.symm n_qq23__qq36_
  have hH := hN
  have hc_qq36_ : Mq37_ qq36_ = some (.inr (5, [.int 0, .int 0, .int 0, .int 0, .int 0, .int 0, .int 0, .int 0, .int 0, .int 0, .int 0])) := hc_qq36_
  have hc_h : Mq37_ h = some (.inr (0, [.int 0, .int 0, .int 0, .int 0, .int 0, .int 0, .int 0, .int 0, .int 0, .int 0, .int 0, .int 0, .ref qq1_, .ref qq4_, .ref qq9_, .ref qq14_, .ref qq17_, .ref qq20_, .ref qq23_])) := (hfr h n_h_qq36_).trans hc_h
  have hc_qq1_ : Mq37_ qq1_ = some (.inl (kA 3, 12, .inr (.inr (.inr (.inr (va_up (fun _ => none) (Int32.toNatClampNeg 0) (some qq27_))))))) := (hfr qq1_ n_qq1__qq36_).trans hc_qq1_
  have hc_qq14_ : Mq37_ qq14_ = some (.inl (kA 0, 14, .inl (fun _ => 0))) := (hfr qq14_ n_qq14__qq36_).trans hc_qq14_
  have hc_qq17_ : Mq37_ qq17_ = some (.inl (kA 0, 14, .inl (fun _ => 0))) := (hfr qq17_ n_qq17__qq36_).trans hc_qq17_
  have hc_qq20_ : Mq37_ qq20_ = some (.inl (kA 0, 14, .inl (fun _ => 0))) := (hfr qq20_ n_qq20__qq36_).trans hc_qq20_
  have hc_qq23_ : Mq37_ qq23_ = some (.inl (kA 0, 14, .inl (fun _ => 0))) := (hfr qq23_ n_qq23__qq36_).trans hc_qq23_
  have hF : ∀ a, FrA T a → a ≠ h → a < sz → Mq37_ a = M a := fun a hA h0 h1 => (hfr a (Nat.ne_of_lt (Nat.lt_of_lt_of_le h1 g_qq36_))).trans (hF a hA h0 h1)
  refine lv_dup hx hb dX1_init_83 rfl ?_
  refine goV hK hH (runIN (As := []) (rest := [.ref qq36_, .int 1, .ref qq1_]) hC hK hH (c_X6_init hc_qq36_ hn_qq36_) mlX1_40 ⟨⟨Nat.le_of_ble_eq_true rfl, Nat.le_of_ble_eq_true rfl⟩, Nat.le_of_ble_eq_true rfl, Nat.le_of_ble_eq_true rfl⟩ rfl hl.1 rfl (Nat.le_of_ble_eq_true rfl) dX1_init_84) (fun Mq38_ Tq39_ Hq_ lcq_ hP hz hH => ?_)
  try dsimp only at hP
  obtain ⟨(-), eT, eM⟩ := hP
  have eT := eT.symm; subst eT
  have eM := eM.symm; subst eM
  obtain ⟨Mq42_, Tq41_, nM_qq36_, hfr, t_qq36_, hfT, hsub, hH⟩ := hH.re2 (τ := 0) hc_qq36_ hn_qq36_ (conf_o rfl ⟨okI (by decide) (by decide), okI (by decide) (by decide), okI (by decide) (by decide), okI (by decide) (by decide), okI (by decide) (by decide), okI (by decide) (by decide), okI (by decide) (by decide), okI (by decide) (by decide), okI (by decide) (by decide), okI (by decide) (by decide), okI (by decide) (by decide), trivial⟩)
  have hc_h : Mq42_ h = some (.inr (0, [.int 0, .int 0, .int 0, .int 0, .int 0, .int 0, .int 0, .int 0, .int 0, .int 0, .int 0, .int 0, .ref qq1_, .ref qq4_, .ref qq9_, .ref qq14_, .ref qq17_, .ref qq20_, .ref qq23_])) := (hfr h n_h_qq36_).trans hc_h
  have hc_qq1_ : Mq42_ qq1_ = some (.inl (kA 3, 12, .inr (.inr (.inr (.inr (va_up (fun _ => none) (Int32.toNatClampNeg 0) (some qq27_))))))) := (hfr qq1_ n_qq1__qq36_).trans hc_qq1_
  have hc_qq14_ : Mq42_ qq14_ = some (.inl (kA 0, 14, .inl (fun _ => 0))) := (hfr qq14_ n_qq14__qq36_).trans hc_qq14_
  have hc_qq17_ : Mq42_ qq17_ = some (.inl (kA 0, 14, .inl (fun _ => 0))) := (hfr qq17_ n_qq17__qq36_).trans hc_qq17_
  have hc_qq20_ : Mq42_ qq20_ = some (.inl (kA 0, 14, .inl (fun _ => 0))) := (hfr qq20_ n_qq20__qq36_).trans hc_qq20_
  have hc_qq23_ : Mq42_ qq23_ = some (.inl (kA 0, 14, .inl (fun _ => 0))) := (hfr qq23_ n_qq23__qq36_).trans hc_qq23_
  have hn_h : Tq41_ h = none := (hfT h n_h_qq36_).trans hn_h
  have hn_qq1_ : Tq41_ qq1_ = none := (hfT qq1_ n_qq1__qq36_).trans hn_qq1_
  have hn_qq14_ : Tq41_ qq14_ = none := (hfT qq14_ n_qq14__qq36_).trans hn_qq14_
  have hn_qq17_ : Tq41_ qq17_ = none := (hfT qq17_ n_qq17__qq36_).trans hn_qq17_
  have hn_qq20_ : Tq41_ qq20_ = none := (hfT qq20_ n_qq20__qq36_).trans hn_qq20_
  have hn_qq23_ : Tq41_ qq23_ = none := (hfT qq23_ n_qq23__qq36_).trans hn_qq23_
  have t_qq4_ : Tq41_ qq4_ = some 1 := hsub _ _ t_qq4_
  have t_qq9_ : Tq41_ qq9_ = some 1 := hsub _ _ t_qq9_
  have t_qq27_ : Tq41_ qq27_ = some 0 := hsub _ _ t_qq27_
  have hTT : ∀ a t, T a = some t → Tq41_ a = some t := fun a t h => hsub _ _ (hTT a t h)
  have hTF : ∀ a, a ≠ h → a < sz → Tq41_ a = T a := fun a h0 h1 => (hfT a (Nat.ne_of_lt (Nat.lt_of_lt_of_le h1 g_qq36_))).trans (hTF a h0 h1)
  have hF : ∀ a, FrA T a → a ≠ h → a < sz → Mq42_ a = M a := fun a hA h0 h1 => (hfr a (Nat.ne_of_lt (Nat.lt_of_lt_of_le h1 g_qq36_))).trans (hF a hA h0 h1)
  refine yqst (ck := 3) (cv := 5) (v := qq36_) hC hK hH rfl rfl hc_qq1_ (let ⟨fs, h1, _⟩ := tcell hH t_qq36_ rfl; ⟨fs, h1⟩) (noT hn_qq1_) (iIn (by decide) (by decide)) dX1_init_87 (fun Hq_ lcq_ Mq43_ hc_qq1_ hfr hH => ?_)
  have hc_qq1_ : Mq43_ qq1_ = some (.inl (kA 3, 12, .inr (.inr (.inr (.inr (va_up (va_up (fun _ => none) (Int32.toNatClampNeg 0) (some qq27_)) (Int32.toNatClampNeg 1) (some qq36_))))))) := hc_qq1_
  have hc_h : Mq43_ h = some (.inr (0, [.int 0, .int 0, .int 0, .int 0, .int 0, .int 0, .int 0, .int 0, .int 0, .int 0, .int 0, .int 0, .ref qq1_, .ref qq4_, .ref qq9_, .ref qq14_, .ref qq17_, .ref qq20_, .ref qq23_])) := (hfr h n_h_qq1_).trans hc_h
  have hc_qq14_ : Mq43_ qq14_ = some (.inl (kA 0, 14, .inl (fun _ => 0))) := (hfr qq14_ n_qq14__qq1_).trans hc_qq14_
  have hc_qq17_ : Mq43_ qq17_ = some (.inl (kA 0, 14, .inl (fun _ => 0))) := (hfr qq17_ n_qq17__qq1_).trans hc_qq17_
  have hc_qq20_ : Mq43_ qq20_ = some (.inl (kA 0, 14, .inl (fun _ => 0))) := (hfr qq20_ n_qq20__qq1_).trans hc_qq20_
  have hc_qq23_ : Mq43_ qq23_ = some (.inl (kA 0, 14, .inl (fun _ => 0))) := (hfr qq23_ n_qq23__qq1_).trans hc_qq23_
  have hF : ∀ a, FrA T a → a ≠ h → a < sz → Mq43_ a = M a := fun a hA h0 h1 => (hfr a (Nat.ne_of_lt (Nat.lt_of_lt_of_le h1 g_qq1_))).trans (hF a hA h0 h1)
  refine lv_iinc (v := 2) (lv' := [(1, .int 2), (0, .ref h)]) hx hb dX1_init_88 hl (k := 0) rfl (by decide) (by decide) rfl (fun ls hl => ?_)
  refine lv_goto (tgt := 69) hx hb dX1_init_91 (by decide) ?_
  refine lv_iload_n hx hb dX1_init_69 rfl (lv_at hl 0 rfl) ?_
  refine lv_bipush (v := 12) hx hb dX1_init_70 (by decide) ?_
  refine jic_ge (tgt := 94) hx hb dX1_init_72 (by decide) (fun cq44_ => absurd cq44_ (by decide)) (fun cq44_ => ?_)
  refine lv_aload_n hx hb dX1_init_75 rfl (lv_at hl 1 rfl) ?_
  refine xg hC hK hH flX1_11 hc_h rfl dX1_init_76 ?_
  refine lv_iload_n hx hb dX1_init_79 rfl (lv_at hl 0 rfl) ?_
  refine ynew hC hK hH nlX1_9 (Nat.le_of_ble_eq_true rfl) (Nat.le_of_ble_eq_true rfl) dX1_init_80 (fun qq45_ Hq_ Mq46_ e_qq45_ hz nM_qq45_ hn_qq45_ hc_qq45_ hfr hN => ?_)
  have g_qq45_ : sz ≤ qq45_ := by rw [← hsz, e_qq45_]; exact hH.2.1.1
  have n_h_qq45_ : h ≠ qq45_ := neN hc_h nM_qq45_
  have n_qq45__h : qq45_ ≠ h := Ne.symm n_h_qq45_
  have n_qq1__qq45_ : qq1_ ≠ qq45_ := neN hc_qq1_ nM_qq45_
  have n_qq45__qq1_ : qq45_ ≠ qq1_ := Ne.symm n_qq1__qq45_
  have n_qq14__qq45_ : qq14_ ≠ qq45_ := neN hc_qq14_ nM_qq45_
  have n_qq45__qq14_ : qq45_ ≠ qq14_ := Ne.symm n_qq14__qq45_
  have n_qq17__qq45_ : qq17_ ≠ qq45_ := neN hc_qq17_ nM_qq45_
  have n_qq45__qq17_ : qq45_ ≠ qq17_ := Ne.symm n_qq17__qq45_
  have n_qq20__qq45_ : qq20_ ≠ qq45_ := neN hc_qq20_ nM_qq45_
  have n_qq45__qq20_ : qq45_ ≠ qq20_ := Ne.symm n_qq20__qq45_
  have n_qq23__qq45_ : qq23_ ≠ qq45_ := neN hc_qq23_ nM_qq45_
  have n_qq45__qq23_ : qq45_ ≠ qq23_ := Ne.symm n_qq23__qq45_
  have hH := hN
  have hc_qq45_ : Mq46_ qq45_ = some (.inr (5, [.int 0, .int 0, .int 0, .int 0, .int 0, .int 0, .int 0, .int 0, .int 0, .int 0, .int 0])) := hc_qq45_
  have hc_h : Mq46_ h = some (.inr (0, [.int 0, .int 0, .int 0, .int 0, .int 0, .int 0, .int 0, .int 0, .int 0, .int 0, .int 0, .int 0, .ref qq1_, .ref qq4_, .ref qq9_, .ref qq14_, .ref qq17_, .ref qq20_, .ref qq23_])) := (hfr h n_h_qq45_).trans hc_h
  have hc_qq1_ : Mq46_ qq1_ = some (.inl (kA 3, 12, .inr (.inr (.inr (.inr (va_up (va_up (fun _ => none) (Int32.toNatClampNeg 0) (some qq27_)) (Int32.toNatClampNeg 1) (some qq36_))))))) := (hfr qq1_ n_qq1__qq45_).trans hc_qq1_
  have hc_qq14_ : Mq46_ qq14_ = some (.inl (kA 0, 14, .inl (fun _ => 0))) := (hfr qq14_ n_qq14__qq45_).trans hc_qq14_
  have hc_qq17_ : Mq46_ qq17_ = some (.inl (kA 0, 14, .inl (fun _ => 0))) := (hfr qq17_ n_qq17__qq45_).trans hc_qq17_
  have hc_qq20_ : Mq46_ qq20_ = some (.inl (kA 0, 14, .inl (fun _ => 0))) := (hfr qq20_ n_qq20__qq45_).trans hc_qq20_
  have hc_qq23_ : Mq46_ qq23_ = some (.inl (kA 0, 14, .inl (fun _ => 0))) := (hfr qq23_ n_qq23__qq45_).trans hc_qq23_
  have hF : ∀ a, FrA T a → a ≠ h → a < sz → Mq46_ a = M a := fun a hA h0 h1 => (hfr a (Nat.ne_of_lt (Nat.lt_of_lt_of_le h1 g_qq45_))).trans (hF a hA h0 h1)
  refine lv_dup hx hb dX1_init_83 rfl ?_
  refine goV hK hH (runIN (As := []) (rest := [.ref qq45_, .int 2, .ref qq1_]) hC hK hH (c_X6_init hc_qq45_ hn_qq45_) mlX1_40 ⟨⟨Nat.le_of_ble_eq_true rfl, Nat.le_of_ble_eq_true rfl⟩, Nat.le_of_ble_eq_true rfl, Nat.le_of_ble_eq_true rfl⟩ rfl hl.1 rfl (Nat.le_of_ble_eq_true rfl) dX1_init_84) (fun Mq47_ Tq48_ Hq_ lcq_ hP hz hH => ?_)
  try dsimp only at hP
  obtain ⟨(-), eT, eM⟩ := hP
  have eT := eT.symm; subst eT
  have eM := eM.symm; subst eM
  obtain ⟨Mq51_, Tq50_, nM_qq45_, hfr, t_qq45_, hfT, hsub, hH⟩ := hH.re2 (τ := 0) hc_qq45_ hn_qq45_ (conf_o rfl ⟨okI (by decide) (by decide), okI (by decide) (by decide), okI (by decide) (by decide), okI (by decide) (by decide), okI (by decide) (by decide), okI (by decide) (by decide), okI (by decide) (by decide), okI (by decide) (by decide), okI (by decide) (by decide), okI (by decide) (by decide), okI (by decide) (by decide), trivial⟩)
  have hc_h : Mq51_ h = some (.inr (0, [.int 0, .int 0, .int 0, .int 0, .int 0, .int 0, .int 0, .int 0, .int 0, .int 0, .int 0, .int 0, .ref qq1_, .ref qq4_, .ref qq9_, .ref qq14_, .ref qq17_, .ref qq20_, .ref qq23_])) := (hfr h n_h_qq45_).trans hc_h
  have hc_qq1_ : Mq51_ qq1_ = some (.inl (kA 3, 12, .inr (.inr (.inr (.inr (va_up (va_up (fun _ => none) (Int32.toNatClampNeg 0) (some qq27_)) (Int32.toNatClampNeg 1) (some qq36_))))))) := (hfr qq1_ n_qq1__qq45_).trans hc_qq1_
  have hc_qq14_ : Mq51_ qq14_ = some (.inl (kA 0, 14, .inl (fun _ => 0))) := (hfr qq14_ n_qq14__qq45_).trans hc_qq14_
  have hc_qq17_ : Mq51_ qq17_ = some (.inl (kA 0, 14, .inl (fun _ => 0))) := (hfr qq17_ n_qq17__qq45_).trans hc_qq17_
  have hc_qq20_ : Mq51_ qq20_ = some (.inl (kA 0, 14, .inl (fun _ => 0))) := (hfr qq20_ n_qq20__qq45_).trans hc_qq20_
  have hc_qq23_ : Mq51_ qq23_ = some (.inl (kA 0, 14, .inl (fun _ => 0))) := (hfr qq23_ n_qq23__qq45_).trans hc_qq23_
  have hn_h : Tq50_ h = none := (hfT h n_h_qq45_).trans hn_h
  have hn_qq1_ : Tq50_ qq1_ = none := (hfT qq1_ n_qq1__qq45_).trans hn_qq1_
  have hn_qq14_ : Tq50_ qq14_ = none := (hfT qq14_ n_qq14__qq45_).trans hn_qq14_
  have hn_qq17_ : Tq50_ qq17_ = none := (hfT qq17_ n_qq17__qq45_).trans hn_qq17_
  have hn_qq20_ : Tq50_ qq20_ = none := (hfT qq20_ n_qq20__qq45_).trans hn_qq20_
  have hn_qq23_ : Tq50_ qq23_ = none := (hfT qq23_ n_qq23__qq45_).trans hn_qq23_
  have t_qq4_ : Tq50_ qq4_ = some 1 := hsub _ _ t_qq4_
  have t_qq9_ : Tq50_ qq9_ = some 1 := hsub _ _ t_qq9_
  have t_qq27_ : Tq50_ qq27_ = some 0 := hsub _ _ t_qq27_
  have t_qq36_ : Tq50_ qq36_ = some 0 := hsub _ _ t_qq36_
  have hTT : ∀ a t, T a = some t → Tq50_ a = some t := fun a t h => hsub _ _ (hTT a t h)
  have hTF : ∀ a, a ≠ h → a < sz → Tq50_ a = T a := fun a h0 h1 => (hfT a (Nat.ne_of_lt (Nat.lt_of_lt_of_le h1 g_qq45_))).trans (hTF a h0 h1)
  have hF : ∀ a, FrA T a → a ≠ h → a < sz → Mq51_ a = M a := fun a hA h0 h1 => (hfr a (Nat.ne_of_lt (Nat.lt_of_lt_of_le h1 g_qq45_))).trans (hF a hA h0 h1)
  refine yqst (ck := 3) (cv := 5) (v := qq45_) hC hK hH rfl rfl hc_qq1_ (let ⟨fs, h1, _⟩ := tcell hH t_qq45_ rfl; ⟨fs, h1⟩) (noT hn_qq1_) (iIn (by decide) (by decide)) dX1_init_87 (fun Hq_ lcq_ Mq52_ hc_qq1_ hfr hH => ?_)
  have hc_qq1_ : Mq52_ qq1_ = some (.inl (kA 3, 12, .inr (.inr (.inr (.inr (va_up (va_up (va_up (fun _ => none) (Int32.toNatClampNeg 0) (some qq27_)) (Int32.toNatClampNeg 1) (some qq36_)) (Int32.toNatClampNeg 2) (some qq45_))))))) := hc_qq1_
  have hc_h : Mq52_ h = some (.inr (0, [.int 0, .int 0, .int 0, .int 0, .int 0, .int 0, .int 0, .int 0, .int 0, .int 0, .int 0, .int 0, .ref qq1_, .ref qq4_, .ref qq9_, .ref qq14_, .ref qq17_, .ref qq20_, .ref qq23_])) := (hfr h n_h_qq1_).trans hc_h
  have hc_qq14_ : Mq52_ qq14_ = some (.inl (kA 0, 14, .inl (fun _ => 0))) := (hfr qq14_ n_qq14__qq1_).trans hc_qq14_
  have hc_qq17_ : Mq52_ qq17_ = some (.inl (kA 0, 14, .inl (fun _ => 0))) := (hfr qq17_ n_qq17__qq1_).trans hc_qq17_
  have hc_qq20_ : Mq52_ qq20_ = some (.inl (kA 0, 14, .inl (fun _ => 0))) := (hfr qq20_ n_qq20__qq1_).trans hc_qq20_
  have hc_qq23_ : Mq52_ qq23_ = some (.inl (kA 0, 14, .inl (fun _ => 0))) := (hfr qq23_ n_qq23__qq1_).trans hc_qq23_
  have hF : ∀ a, FrA T a → a ≠ h → a < sz → Mq52_ a = M a := fun a hA h0 h1 => (hfr a (Nat.ne_of_lt (Nat.lt_of_lt_of_le h1 g_qq1_))).trans (hF a hA h0 h1)
  refine lv_iinc (v := 3) (lv' := [(1, .int 3), (0, .ref h)]) hx hb dX1_init_88 hl (k := 0) rfl (by decide) (by decide) rfl (fun ls hl => ?_)
  refine lv_goto (tgt := 69) hx hb dX1_init_91 (by decide) ?_
  refine lv_iload_n hx hb dX1_init_69 rfl (lv_at hl 0 rfl) ?_
  refine lv_bipush (v := 12) hx hb dX1_init_70 (by decide) ?_
  refine jic_ge (tgt := 94) hx hb dX1_init_72 (by decide) (fun cq53_ => absurd cq53_ (by decide)) (fun cq53_ => ?_)
  refine lv_aload_n hx hb dX1_init_75 rfl (lv_at hl 1 rfl) ?_
  refine xg hC hK hH flX1_11 hc_h rfl dX1_init_76 ?_
  refine lv_iload_n hx hb dX1_init_79 rfl (lv_at hl 0 rfl) ?_
  refine ynew hC hK hH nlX1_9 (Nat.le_of_ble_eq_true rfl) (Nat.le_of_ble_eq_true rfl) dX1_init_80 (fun qq54_ Hq_ Mq55_ e_qq54_ hz nM_qq54_ hn_qq54_ hc_qq54_ hfr hN => ?_)
  have g_qq54_ : sz ≤ qq54_ := by rw [← hsz, e_qq54_]; exact hH.2.1.1
  have n_h_qq54_ : h ≠ qq54_ := neN hc_h nM_qq54_
  have n_qq54__h : qq54_ ≠ h := Ne.symm n_h_qq54_
  have n_qq1__qq54_ : qq1_ ≠ qq54_ := neN hc_qq1_ nM_qq54_
  have n_qq54__qq1_ : qq54_ ≠ qq1_ := Ne.symm n_qq1__qq54_
  have n_qq14__qq54_ : qq14_ ≠ qq54_ := neN hc_qq14_ nM_qq54_
  have n_qq54__qq14_ : qq54_ ≠ qq14_ := Ne.symm n_qq14__qq54_
  have n_qq17__qq54_ : qq17_ ≠ qq54_ := neN hc_qq17_ nM_qq54_
  have n_qq54__qq17_ : qq54_ ≠ qq17_ := Ne.symm n_qq17__qq54_
  have n_qq20__qq54_ : qq20_ ≠ qq54_ := neN hc_qq20_ nM_qq54_
  have n_qq54__qq20_ : qq54_ ≠ qq20_ := Ne.symm n_qq20__qq54_
  have n_qq23__qq54_ : qq23_ ≠ qq54_ := neN hc_qq23_ nM_qq54_
  have n_qq54__qq23_ : qq54_ ≠ qq23_ := Ne.symm n_qq23__qq54_
  have hH := hN
  have hc_qq54_ : Mq55_ qq54_ = some (.inr (5, [.int 0, .int 0, .int 0, .int 0, .int 0, .int 0, .int 0, .int 0, .int 0, .int 0, .int 0])) := hc_qq54_
  have hc_h : Mq55_ h = some (.inr (0, [.int 0, .int 0, .int 0, .int 0, .int 0, .int 0, .int 0, .int 0, .int 0, .int 0, .int 0, .int 0, .ref qq1_, .ref qq4_, .ref qq9_, .ref qq14_, .ref qq17_, .ref qq20_, .ref qq23_])) := (hfr h n_h_qq54_).trans hc_h
  have hc_qq1_ : Mq55_ qq1_ = some (.inl (kA 3, 12, .inr (.inr (.inr (.inr (va_up (va_up (va_up (fun _ => none) (Int32.toNatClampNeg 0) (some qq27_)) (Int32.toNatClampNeg 1) (some qq36_)) (Int32.toNatClampNeg 2) (some qq45_))))))) := (hfr qq1_ n_qq1__qq54_).trans hc_qq1_
  have hc_qq14_ : Mq55_ qq14_ = some (.inl (kA 0, 14, .inl (fun _ => 0))) := (hfr qq14_ n_qq14__qq54_).trans hc_qq14_
  have hc_qq17_ : Mq55_ qq17_ = some (.inl (kA 0, 14, .inl (fun _ => 0))) := (hfr qq17_ n_qq17__qq54_).trans hc_qq17_
  have hc_qq20_ : Mq55_ qq20_ = some (.inl (kA 0, 14, .inl (fun _ => 0))) := (hfr qq20_ n_qq20__qq54_).trans hc_qq20_
  have hc_qq23_ : Mq55_ qq23_ = some (.inl (kA 0, 14, .inl (fun _ => 0))) := (hfr qq23_ n_qq23__qq54_).trans hc_qq23_
  have hF : ∀ a, FrA T a → a ≠ h → a < sz → Mq55_ a = M a := fun a hA h0 h1 => (hfr a (Nat.ne_of_lt (Nat.lt_of_lt_of_le h1 g_qq54_))).trans (hF a hA h0 h1)
  refine lv_dup hx hb dX1_init_83 rfl ?_
  refine goV hK hH (runIN (As := []) (rest := [.ref qq54_, .int 3, .ref qq1_]) hC hK hH (c_X6_init hc_qq54_ hn_qq54_) mlX1_40 ⟨⟨Nat.le_of_ble_eq_true rfl, Nat.le_of_ble_eq_true rfl⟩, Nat.le_of_ble_eq_true rfl, Nat.le_of_ble_eq_true rfl⟩ rfl hl.1 rfl (Nat.le_of_ble_eq_true rfl) dX1_init_84) (fun Mq56_ Tq57_ Hq_ lcq_ hP hz hH => ?_)
  try dsimp only at hP
  obtain ⟨(-), eT, eM⟩ := hP
  have eT := eT.symm; subst eT
  have eM := eM.symm; subst eM
  obtain ⟨Mq60_, Tq59_, nM_qq54_, hfr, t_qq54_, hfT, hsub, hH⟩ := hH.re2 (τ := 0) hc_qq54_ hn_qq54_ (conf_o rfl ⟨okI (by decide) (by decide), okI (by decide) (by decide), okI (by decide) (by decide), okI (by decide) (by decide), okI (by decide) (by decide), okI (by decide) (by decide), okI (by decide) (by decide), okI (by decide) (by decide), okI (by decide) (by decide), okI (by decide) (by decide), okI (by decide) (by decide), trivial⟩)
  have hc_h : Mq60_ h = some (.inr (0, [.int 0, .int 0, .int 0, .int 0, .int 0, .int 0, .int 0, .int 0, .int 0, .int 0, .int 0, .int 0, .ref qq1_, .ref qq4_, .ref qq9_, .ref qq14_, .ref qq17_, .ref qq20_, .ref qq23_])) := (hfr h n_h_qq54_).trans hc_h
  have hc_qq1_ : Mq60_ qq1_ = some (.inl (kA 3, 12, .inr (.inr (.inr (.inr (va_up (va_up (va_up (fun _ => none) (Int32.toNatClampNeg 0) (some qq27_)) (Int32.toNatClampNeg 1) (some qq36_)) (Int32.toNatClampNeg 2) (some qq45_))))))) := (hfr qq1_ n_qq1__qq54_).trans hc_qq1_
  have hc_qq14_ : Mq60_ qq14_ = some (.inl (kA 0, 14, .inl (fun _ => 0))) := (hfr qq14_ n_qq14__qq54_).trans hc_qq14_
  have hc_qq17_ : Mq60_ qq17_ = some (.inl (kA 0, 14, .inl (fun _ => 0))) := (hfr qq17_ n_qq17__qq54_).trans hc_qq17_
  have hc_qq20_ : Mq60_ qq20_ = some (.inl (kA 0, 14, .inl (fun _ => 0))) := (hfr qq20_ n_qq20__qq54_).trans hc_qq20_
  have hc_qq23_ : Mq60_ qq23_ = some (.inl (kA 0, 14, .inl (fun _ => 0))) := (hfr qq23_ n_qq23__qq54_).trans hc_qq23_
  have hn_h : Tq59_ h = none := (hfT h n_h_qq54_).trans hn_h
  have hn_qq1_ : Tq59_ qq1_ = none := (hfT qq1_ n_qq1__qq54_).trans hn_qq1_
  have hn_qq14_ : Tq59_ qq14_ = none := (hfT qq14_ n_qq14__qq54_).trans hn_qq14_
  have hn_qq17_ : Tq59_ qq17_ = none := (hfT qq17_ n_qq17__qq54_).trans hn_qq17_
  have hn_qq20_ : Tq59_ qq20_ = none := (hfT qq20_ n_qq20__qq54_).trans hn_qq20_
  have hn_qq23_ : Tq59_ qq23_ = none := (hfT qq23_ n_qq23__qq54_).trans hn_qq23_
  have t_qq4_ : Tq59_ qq4_ = some 1 := hsub _ _ t_qq4_
  have t_qq9_ : Tq59_ qq9_ = some 1 := hsub _ _ t_qq9_
  have t_qq27_ : Tq59_ qq27_ = some 0 := hsub _ _ t_qq27_
  have t_qq36_ : Tq59_ qq36_ = some 0 := hsub _ _ t_qq36_
  have t_qq45_ : Tq59_ qq45_ = some 0 := hsub _ _ t_qq45_
  have hTT : ∀ a t, T a = some t → Tq59_ a = some t := fun a t h => hsub _ _ (hTT a t h)
  have hTF : ∀ a, a ≠ h → a < sz → Tq59_ a = T a := fun a h0 h1 => (hfT a (Nat.ne_of_lt (Nat.lt_of_lt_of_le h1 g_qq54_))).trans (hTF a h0 h1)
  have hF : ∀ a, FrA T a → a ≠ h → a < sz → Mq60_ a = M a := fun a hA h0 h1 => (hfr a (Nat.ne_of_lt (Nat.lt_of_lt_of_le h1 g_qq54_))).trans (hF a hA h0 h1)
  refine yqst (ck := 3) (cv := 5) (v := qq54_) hC hK hH rfl rfl hc_qq1_ (let ⟨fs, h1, _⟩ := tcell hH t_qq54_ rfl; ⟨fs, h1⟩) (noT hn_qq1_) (iIn (by decide) (by decide)) dX1_init_87 (fun Hq_ lcq_ Mq61_ hc_qq1_ hfr hH => ?_)
  have hc_qq1_ : Mq61_ qq1_ = some (.inl (kA 3, 12, .inr (.inr (.inr (.inr (va_up (va_up (va_up (va_up (fun _ => none) (Int32.toNatClampNeg 0) (some qq27_)) (Int32.toNatClampNeg 1) (some qq36_)) (Int32.toNatClampNeg 2) (some qq45_)) (Int32.toNatClampNeg 3) (some qq54_))))))) := hc_qq1_
  have hc_h : Mq61_ h = some (.inr (0, [.int 0, .int 0, .int 0, .int 0, .int 0, .int 0, .int 0, .int 0, .int 0, .int 0, .int 0, .int 0, .ref qq1_, .ref qq4_, .ref qq9_, .ref qq14_, .ref qq17_, .ref qq20_, .ref qq23_])) := (hfr h n_h_qq1_).trans hc_h
  have hc_qq14_ : Mq61_ qq14_ = some (.inl (kA 0, 14, .inl (fun _ => 0))) := (hfr qq14_ n_qq14__qq1_).trans hc_qq14_
  have hc_qq17_ : Mq61_ qq17_ = some (.inl (kA 0, 14, .inl (fun _ => 0))) := (hfr qq17_ n_qq17__qq1_).trans hc_qq17_
  have hc_qq20_ : Mq61_ qq20_ = some (.inl (kA 0, 14, .inl (fun _ => 0))) := (hfr qq20_ n_qq20__qq1_).trans hc_qq20_
  have hc_qq23_ : Mq61_ qq23_ = some (.inl (kA 0, 14, .inl (fun _ => 0))) := (hfr qq23_ n_qq23__qq1_).trans hc_qq23_
  have hF : ∀ a, FrA T a → a ≠ h → a < sz → Mq61_ a = M a := fun a hA h0 h1 => (hfr a (Nat.ne_of_lt (Nat.lt_of_lt_of_le h1 g_qq1_))).trans (hF a hA h0 h1)
  refine lv_iinc (v := 4) (lv' := [(1, .int 4), (0, .ref h)]) hx hb dX1_init_88 hl (k := 0) rfl (by decide) (by decide) rfl (fun ls hl => ?_)
  refine lv_goto (tgt := 69) hx hb dX1_init_91 (by decide) ?_
  refine lv_iload_n hx hb dX1_init_69 rfl (lv_at hl 0 rfl) ?_
  refine lv_bipush (v := 12) hx hb dX1_init_70 (by decide) ?_
  refine jic_ge (tgt := 94) hx hb dX1_init_72 (by decide) (fun cq62_ => absurd cq62_ (by decide)) (fun cq62_ => ?_)
  refine lv_aload_n hx hb dX1_init_75 rfl (lv_at hl 1 rfl) ?_
  refine xg hC hK hH flX1_11 hc_h rfl dX1_init_76 ?_
  refine lv_iload_n hx hb dX1_init_79 rfl (lv_at hl 0 rfl) ?_
  refine ynew hC hK hH nlX1_9 (Nat.le_of_ble_eq_true rfl) (Nat.le_of_ble_eq_true rfl) dX1_init_80 (fun qq63_ Hq_ Mq64_ e_qq63_ hz nM_qq63_ hn_qq63_ hc_qq63_ hfr hN => ?_)
  have g_qq63_ : sz ≤ qq63_ := by rw [← hsz, e_qq63_]; exact hH.2.1.1
  have n_h_qq63_ : h ≠ qq63_ := neN hc_h nM_qq63_
  have n_qq63__h : qq63_ ≠ h := Ne.symm n_h_qq63_
  have n_qq1__qq63_ : qq1_ ≠ qq63_ := neN hc_qq1_ nM_qq63_
  have n_qq63__qq1_ : qq63_ ≠ qq1_ := Ne.symm n_qq1__qq63_
  have n_qq14__qq63_ : qq14_ ≠ qq63_ := neN hc_qq14_ nM_qq63_
  have n_qq63__qq14_ : qq63_ ≠ qq14_ := Ne.symm n_qq14__qq63_
  have n_qq17__qq63_ : qq17_ ≠ qq63_ := neN hc_qq17_ nM_qq63_
  have n_qq63__qq17_ : qq63_ ≠ qq17_ := Ne.symm n_qq17__qq63_
  have n_qq20__qq63_ : qq20_ ≠ qq63_ := neN hc_qq20_ nM_qq63_
  have n_qq63__qq20_ : qq63_ ≠ qq20_ := Ne.symm n_qq20__qq63_
  have n_qq23__qq63_ : qq23_ ≠ qq63_ := neN hc_qq23_ nM_qq63_
  have n_qq63__qq23_ : qq63_ ≠ qq23_ := Ne.symm n_qq23__qq63_
  have hH := hN
  have hc_qq63_ : Mq64_ qq63_ = some (.inr (5, [.int 0, .int 0, .int 0, .int 0, .int 0, .int 0, .int 0, .int 0, .int 0, .int 0, .int 0])) := hc_qq63_
  have hc_h : Mq64_ h = some (.inr (0, [.int 0, .int 0, .int 0, .int 0, .int 0, .int 0, .int 0, .int 0, .int 0, .int 0, .int 0, .int 0, .ref qq1_, .ref qq4_, .ref qq9_, .ref qq14_, .ref qq17_, .ref qq20_, .ref qq23_])) := (hfr h n_h_qq63_).trans hc_h
  have hc_qq1_ : Mq64_ qq1_ = some (.inl (kA 3, 12, .inr (.inr (.inr (.inr (va_up (va_up (va_up (va_up (fun _ => none) (Int32.toNatClampNeg 0) (some qq27_)) (Int32.toNatClampNeg 1) (some qq36_)) (Int32.toNatClampNeg 2) (some qq45_)) (Int32.toNatClampNeg 3) (some qq54_))))))) := (hfr qq1_ n_qq1__qq63_).trans hc_qq1_
  have hc_qq14_ : Mq64_ qq14_ = some (.inl (kA 0, 14, .inl (fun _ => 0))) := (hfr qq14_ n_qq14__qq63_).trans hc_qq14_
  have hc_qq17_ : Mq64_ qq17_ = some (.inl (kA 0, 14, .inl (fun _ => 0))) := (hfr qq17_ n_qq17__qq63_).trans hc_qq17_
  have hc_qq20_ : Mq64_ qq20_ = some (.inl (kA 0, 14, .inl (fun _ => 0))) := (hfr qq20_ n_qq20__qq63_).trans hc_qq20_
  have hc_qq23_ : Mq64_ qq23_ = some (.inl (kA 0, 14, .inl (fun _ => 0))) := (hfr qq23_ n_qq23__qq63_).trans hc_qq23_
  have hF : ∀ a, FrA T a → a ≠ h → a < sz → Mq64_ a = M a := fun a hA h0 h1 => (hfr a (Nat.ne_of_lt (Nat.lt_of_lt_of_le h1 g_qq63_))).trans (hF a hA h0 h1)
  refine lv_dup hx hb dX1_init_83 rfl ?_
  refine goV hK hH (runIN (As := []) (rest := [.ref qq63_, .int 4, .ref qq1_]) hC hK hH (c_X6_init hc_qq63_ hn_qq63_) mlX1_40 ⟨⟨Nat.le_of_ble_eq_true rfl, Nat.le_of_ble_eq_true rfl⟩, Nat.le_of_ble_eq_true rfl, Nat.le_of_ble_eq_true rfl⟩ rfl hl.1 rfl (Nat.le_of_ble_eq_true rfl) dX1_init_84) (fun Mq65_ Tq66_ Hq_ lcq_ hP hz hH => ?_)
  try dsimp only at hP
  obtain ⟨(-), eT, eM⟩ := hP
  have eT := eT.symm; subst eT
  have eM := eM.symm; subst eM
  obtain ⟨Mq69_, Tq68_, nM_qq63_, hfr, t_qq63_, hfT, hsub, hH⟩ := hH.re2 (τ := 0) hc_qq63_ hn_qq63_ (conf_o rfl ⟨okI (by decide) (by decide), okI (by decide) (by decide), okI (by decide) (by decide), okI (by decide) (by decide), okI (by decide) (by decide), okI (by decide) (by decide), okI (by decide) (by decide), okI (by decide) (by decide), okI (by decide) (by decide), okI (by decide) (by decide), okI (by decide) (by decide), trivial⟩)
  have hc_h : Mq69_ h = some (.inr (0, [.int 0, .int 0, .int 0, .int 0, .int 0, .int 0, .int 0, .int 0, .int 0, .int 0, .int 0, .int 0, .ref qq1_, .ref qq4_, .ref qq9_, .ref qq14_, .ref qq17_, .ref qq20_, .ref qq23_])) := (hfr h n_h_qq63_).trans hc_h
  have hc_qq1_ : Mq69_ qq1_ = some (.inl (kA 3, 12, .inr (.inr (.inr (.inr (va_up (va_up (va_up (va_up (fun _ => none) (Int32.toNatClampNeg 0) (some qq27_)) (Int32.toNatClampNeg 1) (some qq36_)) (Int32.toNatClampNeg 2) (some qq45_)) (Int32.toNatClampNeg 3) (some qq54_))))))) := (hfr qq1_ n_qq1__qq63_).trans hc_qq1_
  have hc_qq14_ : Mq69_ qq14_ = some (.inl (kA 0, 14, .inl (fun _ => 0))) := (hfr qq14_ n_qq14__qq63_).trans hc_qq14_
  have hc_qq17_ : Mq69_ qq17_ = some (.inl (kA 0, 14, .inl (fun _ => 0))) := (hfr qq17_ n_qq17__qq63_).trans hc_qq17_
  have hc_qq20_ : Mq69_ qq20_ = some (.inl (kA 0, 14, .inl (fun _ => 0))) := (hfr qq20_ n_qq20__qq63_).trans hc_qq20_
  have hc_qq23_ : Mq69_ qq23_ = some (.inl (kA 0, 14, .inl (fun _ => 0))) := (hfr qq23_ n_qq23__qq63_).trans hc_qq23_
  have hn_h : Tq68_ h = none := (hfT h n_h_qq63_).trans hn_h
  have hn_qq1_ : Tq68_ qq1_ = none := (hfT qq1_ n_qq1__qq63_).trans hn_qq1_
  have hn_qq14_ : Tq68_ qq14_ = none := (hfT qq14_ n_qq14__qq63_).trans hn_qq14_
  have hn_qq17_ : Tq68_ qq17_ = none := (hfT qq17_ n_qq17__qq63_).trans hn_qq17_
  have hn_qq20_ : Tq68_ qq20_ = none := (hfT qq20_ n_qq20__qq63_).trans hn_qq20_
  have hn_qq23_ : Tq68_ qq23_ = none := (hfT qq23_ n_qq23__qq63_).trans hn_qq23_
  have t_qq4_ : Tq68_ qq4_ = some 1 := hsub _ _ t_qq4_
  have t_qq9_ : Tq68_ qq9_ = some 1 := hsub _ _ t_qq9_
  have t_qq27_ : Tq68_ qq27_ = some 0 := hsub _ _ t_qq27_
  have t_qq36_ : Tq68_ qq36_ = some 0 := hsub _ _ t_qq36_
  have t_qq45_ : Tq68_ qq45_ = some 0 := hsub _ _ t_qq45_
  have t_qq54_ : Tq68_ qq54_ = some 0 := hsub _ _ t_qq54_
  have hTT : ∀ a t, T a = some t → Tq68_ a = some t := fun a t h => hsub _ _ (hTT a t h)
  have hTF : ∀ a, a ≠ h → a < sz → Tq68_ a = T a := fun a h0 h1 => (hfT a (Nat.ne_of_lt (Nat.lt_of_lt_of_le h1 g_qq63_))).trans (hTF a h0 h1)
  have hF : ∀ a, FrA T a → a ≠ h → a < sz → Mq69_ a = M a := fun a hA h0 h1 => (hfr a (Nat.ne_of_lt (Nat.lt_of_lt_of_le h1 g_qq63_))).trans (hF a hA h0 h1)
  refine yqst (ck := 3) (cv := 5) (v := qq63_) hC hK hH rfl rfl hc_qq1_ (let ⟨fs, h1, _⟩ := tcell hH t_qq63_ rfl; ⟨fs, h1⟩) (noT hn_qq1_) (iIn (by decide) (by decide)) dX1_init_87 (fun Hq_ lcq_ Mq70_ hc_qq1_ hfr hH => ?_)
  have hc_qq1_ : Mq70_ qq1_ = some (.inl (kA 3, 12, .inr (.inr (.inr (.inr (va_up (va_up (va_up (va_up (va_up (fun _ => none) (Int32.toNatClampNeg 0) (some qq27_)) (Int32.toNatClampNeg 1) (some qq36_)) (Int32.toNatClampNeg 2) (some qq45_)) (Int32.toNatClampNeg 3) (some qq54_)) (Int32.toNatClampNeg 4) (some qq63_))))))) := hc_qq1_
  have hc_h : Mq70_ h = some (.inr (0, [.int 0, .int 0, .int 0, .int 0, .int 0, .int 0, .int 0, .int 0, .int 0, .int 0, .int 0, .int 0, .ref qq1_, .ref qq4_, .ref qq9_, .ref qq14_, .ref qq17_, .ref qq20_, .ref qq23_])) := (hfr h n_h_qq1_).trans hc_h
  have hc_qq14_ : Mq70_ qq14_ = some (.inl (kA 0, 14, .inl (fun _ => 0))) := (hfr qq14_ n_qq14__qq1_).trans hc_qq14_
  have hc_qq17_ : Mq70_ qq17_ = some (.inl (kA 0, 14, .inl (fun _ => 0))) := (hfr qq17_ n_qq17__qq1_).trans hc_qq17_
  have hc_qq20_ : Mq70_ qq20_ = some (.inl (kA 0, 14, .inl (fun _ => 0))) := (hfr qq20_ n_qq20__qq1_).trans hc_qq20_
  have hc_qq23_ : Mq70_ qq23_ = some (.inl (kA 0, 14, .inl (fun _ => 0))) := (hfr qq23_ n_qq23__qq1_).trans hc_qq23_
  have hF : ∀ a, FrA T a → a ≠ h → a < sz → Mq70_ a = M a := fun a hA h0 h1 => (hfr a (Nat.ne_of_lt (Nat.lt_of_lt_of_le h1 g_qq1_))).trans (hF a hA h0 h1)
  refine lv_iinc (v := 5) (lv' := [(1, .int 5), (0, .ref h)]) hx hb dX1_init_88 hl (k := 0) rfl (by decide) (by decide) rfl (fun ls hl => ?_)
  refine lv_goto (tgt := 69) hx hb dX1_init_91 (by decide) ?_
  refine lv_iload_n hx hb dX1_init_69 rfl (lv_at hl 0 rfl) ?_
  refine lv_bipush (v := 12) hx hb dX1_init_70 (by decide) ?_
  refine jic_ge (tgt := 94) hx hb dX1_init_72 (by decide) (fun cq71_ => absurd cq71_ (by decide)) (fun cq71_ => ?_)
  refine lv_aload_n hx hb dX1_init_75 rfl (lv_at hl 1 rfl) ?_
  refine xg hC hK hH flX1_11 hc_h rfl dX1_init_76 ?_
  refine lv_iload_n hx hb dX1_init_79 rfl (lv_at hl 0 rfl) ?_
  refine ynew hC hK hH nlX1_9 (Nat.le_of_ble_eq_true rfl) (Nat.le_of_ble_eq_true rfl) dX1_init_80 (fun qq72_ Hq_ Mq73_ e_qq72_ hz nM_qq72_ hn_qq72_ hc_qq72_ hfr hN => ?_)
  have g_qq72_ : sz ≤ qq72_ := by rw [← hsz, e_qq72_]; exact hH.2.1.1
  have n_h_qq72_ : h ≠ qq72_ := neN hc_h nM_qq72_
  have n_qq72__h : qq72_ ≠ h := Ne.symm n_h_qq72_
  have n_qq1__qq72_ : qq1_ ≠ qq72_ := neN hc_qq1_ nM_qq72_
  have n_qq72__qq1_ : qq72_ ≠ qq1_ := Ne.symm n_qq1__qq72_
  have n_qq14__qq72_ : qq14_ ≠ qq72_ := neN hc_qq14_ nM_qq72_
  have n_qq72__qq14_ : qq72_ ≠ qq14_ := Ne.symm n_qq14__qq72_
  have n_qq17__qq72_ : qq17_ ≠ qq72_ := neN hc_qq17_ nM_qq72_
  have n_qq72__qq17_ : qq72_ ≠ qq17_ := Ne.symm n_qq17__qq72_
  have n_qq20__qq72_ : qq20_ ≠ qq72_ := neN hc_qq20_ nM_qq72_
  have n_qq72__qq20_ : qq72_ ≠ qq20_ := Ne.symm n_qq20__qq72_
  have n_qq23__qq72_ : qq23_ ≠ qq72_ := neN hc_qq23_ nM_qq72_
  have n_qq72__qq23_ : qq72_ ≠ qq23_ := Ne.symm n_qq23__qq72_
  have hH := hN
  have hc_qq72_ : Mq73_ qq72_ = some (.inr (5, [.int 0, .int 0, .int 0, .int 0, .int 0, .int 0, .int 0, .int 0, .int 0, .int 0, .int 0])) := hc_qq72_
  have hc_h : Mq73_ h = some (.inr (0, [.int 0, .int 0, .int 0, .int 0, .int 0, .int 0, .int 0, .int 0, .int 0, .int 0, .int 0, .int 0, .ref qq1_, .ref qq4_, .ref qq9_, .ref qq14_, .ref qq17_, .ref qq20_, .ref qq23_])) := (hfr h n_h_qq72_).trans hc_h
  have hc_qq1_ : Mq73_ qq1_ = some (.inl (kA 3, 12, .inr (.inr (.inr (.inr (va_up (va_up (va_up (va_up (va_up (fun _ => none) (Int32.toNatClampNeg 0) (some qq27_)) (Int32.toNatClampNeg 1) (some qq36_)) (Int32.toNatClampNeg 2) (some qq45_)) (Int32.toNatClampNeg 3) (some qq54_)) (Int32.toNatClampNeg 4) (some qq63_))))))) := (hfr qq1_ n_qq1__qq72_).trans hc_qq1_
  have hc_qq14_ : Mq73_ qq14_ = some (.inl (kA 0, 14, .inl (fun _ => 0))) := (hfr qq14_ n_qq14__qq72_).trans hc_qq14_
  have hc_qq17_ : Mq73_ qq17_ = some (.inl (kA 0, 14, .inl (fun _ => 0))) := (hfr qq17_ n_qq17__qq72_).trans hc_qq17_
  have hc_qq20_ : Mq73_ qq20_ = some (.inl (kA 0, 14, .inl (fun _ => 0))) := (hfr qq20_ n_qq20__qq72_).trans hc_qq20_
  have hc_qq23_ : Mq73_ qq23_ = some (.inl (kA 0, 14, .inl (fun _ => 0))) := (hfr qq23_ n_qq23__qq72_).trans hc_qq23_
  have hF : ∀ a, FrA T a → a ≠ h → a < sz → Mq73_ a = M a := fun a hA h0 h1 => (hfr a (Nat.ne_of_lt (Nat.lt_of_lt_of_le h1 g_qq72_))).trans (hF a hA h0 h1)
  refine lv_dup hx hb dX1_init_83 rfl ?_
  refine goV hK hH (runIN (As := []) (rest := [.ref qq72_, .int 5, .ref qq1_]) hC hK hH (c_X6_init hc_qq72_ hn_qq72_) mlX1_40 ⟨⟨Nat.le_of_ble_eq_true rfl, Nat.le_of_ble_eq_true rfl⟩, Nat.le_of_ble_eq_true rfl, Nat.le_of_ble_eq_true rfl⟩ rfl hl.1 rfl (Nat.le_of_ble_eq_true rfl) dX1_init_84) (fun Mq74_ Tq75_ Hq_ lcq_ hP hz hH => ?_)
  try dsimp only at hP
  obtain ⟨(-), eT, eM⟩ := hP
  have eT := eT.symm; subst eT
  have eM := eM.symm; subst eM
  obtain ⟨Mq78_, Tq77_, nM_qq72_, hfr, t_qq72_, hfT, hsub, hH⟩ := hH.re2 (τ := 0) hc_qq72_ hn_qq72_ (conf_o rfl ⟨okI (by decide) (by decide), okI (by decide) (by decide), okI (by decide) (by decide), okI (by decide) (by decide), okI (by decide) (by decide), okI (by decide) (by decide), okI (by decide) (by decide), okI (by decide) (by decide), okI (by decide) (by decide), okI (by decide) (by decide), okI (by decide) (by decide), trivial⟩)
  have hc_h : Mq78_ h = some (.inr (0, [.int 0, .int 0, .int 0, .int 0, .int 0, .int 0, .int 0, .int 0, .int 0, .int 0, .int 0, .int 0, .ref qq1_, .ref qq4_, .ref qq9_, .ref qq14_, .ref qq17_, .ref qq20_, .ref qq23_])) := (hfr h n_h_qq72_).trans hc_h
  have hc_qq1_ : Mq78_ qq1_ = some (.inl (kA 3, 12, .inr (.inr (.inr (.inr (va_up (va_up (va_up (va_up (va_up (fun _ => none) (Int32.toNatClampNeg 0) (some qq27_)) (Int32.toNatClampNeg 1) (some qq36_)) (Int32.toNatClampNeg 2) (some qq45_)) (Int32.toNatClampNeg 3) (some qq54_)) (Int32.toNatClampNeg 4) (some qq63_))))))) := (hfr qq1_ n_qq1__qq72_).trans hc_qq1_
  have hc_qq14_ : Mq78_ qq14_ = some (.inl (kA 0, 14, .inl (fun _ => 0))) := (hfr qq14_ n_qq14__qq72_).trans hc_qq14_
  have hc_qq17_ : Mq78_ qq17_ = some (.inl (kA 0, 14, .inl (fun _ => 0))) := (hfr qq17_ n_qq17__qq72_).trans hc_qq17_
  have hc_qq20_ : Mq78_ qq20_ = some (.inl (kA 0, 14, .inl (fun _ => 0))) := (hfr qq20_ n_qq20__qq72_).trans hc_qq20_
  have hc_qq23_ : Mq78_ qq23_ = some (.inl (kA 0, 14, .inl (fun _ => 0))) := (hfr qq23_ n_qq23__qq72_).trans hc_qq23_
  have hn_h : Tq77_ h = none := (hfT h n_h_qq72_).trans hn_h
  have hn_qq1_ : Tq77_ qq1_ = none := (hfT qq1_ n_qq1__qq72_).trans hn_qq1_
  have hn_qq14_ : Tq77_ qq14_ = none := (hfT qq14_ n_qq14__qq72_).trans hn_qq14_
  have hn_qq17_ : Tq77_ qq17_ = none := (hfT qq17_ n_qq17__qq72_).trans hn_qq17_
  have hn_qq20_ : Tq77_ qq20_ = none := (hfT qq20_ n_qq20__qq72_).trans hn_qq20_
  have hn_qq23_ : Tq77_ qq23_ = none := (hfT qq23_ n_qq23__qq72_).trans hn_qq23_
  have t_qq4_ : Tq77_ qq4_ = some 1 := hsub _ _ t_qq4_
  have t_qq9_ : Tq77_ qq9_ = some 1 := hsub _ _ t_qq9_
  have t_qq27_ : Tq77_ qq27_ = some 0 := hsub _ _ t_qq27_
  have t_qq36_ : Tq77_ qq36_ = some 0 := hsub _ _ t_qq36_
  have t_qq45_ : Tq77_ qq45_ = some 0 := hsub _ _ t_qq45_
  have t_qq54_ : Tq77_ qq54_ = some 0 := hsub _ _ t_qq54_
  have t_qq63_ : Tq77_ qq63_ = some 0 := hsub _ _ t_qq63_
  have hTT : ∀ a t, T a = some t → Tq77_ a = some t := fun a t h => hsub _ _ (hTT a t h)
  have hTF : ∀ a, a ≠ h → a < sz → Tq77_ a = T a := fun a h0 h1 => (hfT a (Nat.ne_of_lt (Nat.lt_of_lt_of_le h1 g_qq72_))).trans (hTF a h0 h1)
  have hF : ∀ a, FrA T a → a ≠ h → a < sz → Mq78_ a = M a := fun a hA h0 h1 => (hfr a (Nat.ne_of_lt (Nat.lt_of_lt_of_le h1 g_qq72_))).trans (hF a hA h0 h1)
  refine yqst (ck := 3) (cv := 5) (v := qq72_) hC hK hH rfl rfl hc_qq1_ (let ⟨fs, h1, _⟩ := tcell hH t_qq72_ rfl; ⟨fs, h1⟩) (noT hn_qq1_) (iIn (by decide) (by decide)) dX1_init_87 (fun Hq_ lcq_ Mq79_ hc_qq1_ hfr hH => ?_)
  have hc_qq1_ : Mq79_ qq1_ = some (.inl (kA 3, 12, .inr (.inr (.inr (.inr (va_up (va_up (va_up (va_up (va_up (va_up (fun _ => none) (Int32.toNatClampNeg 0) (some qq27_)) (Int32.toNatClampNeg 1) (some qq36_)) (Int32.toNatClampNeg 2) (some qq45_)) (Int32.toNatClampNeg 3) (some qq54_)) (Int32.toNatClampNeg 4) (some qq63_)) (Int32.toNatClampNeg 5) (some qq72_))))))) := hc_qq1_
  have hc_h : Mq79_ h = some (.inr (0, [.int 0, .int 0, .int 0, .int 0, .int 0, .int 0, .int 0, .int 0, .int 0, .int 0, .int 0, .int 0, .ref qq1_, .ref qq4_, .ref qq9_, .ref qq14_, .ref qq17_, .ref qq20_, .ref qq23_])) := (hfr h n_h_qq1_).trans hc_h
  have hc_qq14_ : Mq79_ qq14_ = some (.inl (kA 0, 14, .inl (fun _ => 0))) := (hfr qq14_ n_qq14__qq1_).trans hc_qq14_
  have hc_qq17_ : Mq79_ qq17_ = some (.inl (kA 0, 14, .inl (fun _ => 0))) := (hfr qq17_ n_qq17__qq1_).trans hc_qq17_
  have hc_qq20_ : Mq79_ qq20_ = some (.inl (kA 0, 14, .inl (fun _ => 0))) := (hfr qq20_ n_qq20__qq1_).trans hc_qq20_
  have hc_qq23_ : Mq79_ qq23_ = some (.inl (kA 0, 14, .inl (fun _ => 0))) := (hfr qq23_ n_qq23__qq1_).trans hc_qq23_
  have hF : ∀ a, FrA T a → a ≠ h → a < sz → Mq79_ a = M a := fun a hA h0 h1 => (hfr a (Nat.ne_of_lt (Nat.lt_of_lt_of_le h1 g_qq1_))).trans (hF a hA h0 h1)
  refine lv_iinc (v := 6) (lv' := [(1, .int 6), (0, .ref h)]) hx hb dX1_init_88 hl (k := 0) rfl (by decide) (by decide) rfl (fun ls hl => ?_)
  refine lv_goto (tgt := 69) hx hb dX1_init_91 (by decide) ?_
  refine lv_iload_n hx hb dX1_init_69 rfl (lv_at hl 0 rfl) ?_
  refine lv_bipush (v := 12) hx hb dX1_init_70 (by decide) ?_
  refine jic_ge (tgt := 94) hx hb dX1_init_72 (by decide) (fun cq80_ => absurd cq80_ (by decide)) (fun cq80_ => ?_)
  refine lv_aload_n hx hb dX1_init_75 rfl (lv_at hl 1 rfl) ?_
  refine xg hC hK hH flX1_11 hc_h rfl dX1_init_76 ?_
  refine lv_iload_n hx hb dX1_init_79 rfl (lv_at hl 0 rfl) ?_
  refine ynew hC hK hH nlX1_9 (Nat.le_of_ble_eq_true rfl) (Nat.le_of_ble_eq_true rfl) dX1_init_80 (fun qq81_ Hq_ Mq82_ e_qq81_ hz nM_qq81_ hn_qq81_ hc_qq81_ hfr hN => ?_)
  have g_qq81_ : sz ≤ qq81_ := by rw [← hsz, e_qq81_]; exact hH.2.1.1
  have n_h_qq81_ : h ≠ qq81_ := neN hc_h nM_qq81_
  have n_qq81__h : qq81_ ≠ h := Ne.symm n_h_qq81_
  have n_qq1__qq81_ : qq1_ ≠ qq81_ := neN hc_qq1_ nM_qq81_
  have n_qq81__qq1_ : qq81_ ≠ qq1_ := Ne.symm n_qq1__qq81_
  have n_qq14__qq81_ : qq14_ ≠ qq81_ := neN hc_qq14_ nM_qq81_
  have n_qq81__qq14_ : qq81_ ≠ qq14_ := Ne.symm n_qq14__qq81_
  have n_qq17__qq81_ : qq17_ ≠ qq81_ := neN hc_qq17_ nM_qq81_
  have n_qq81__qq17_ : qq81_ ≠ qq17_ := Ne.symm n_qq17__qq81_
  have n_qq20__qq81_ : qq20_ ≠ qq81_ := neN hc_qq20_ nM_qq81_
  have n_qq81__qq20_ : qq81_ ≠ qq20_ := Ne.symm n_qq20__qq81_
  have n_qq23__qq81_ : qq23_ ≠ qq81_ := neN hc_qq23_ nM_qq81_
  have n_qq81__qq23_ : qq81_ ≠ qq23_ := Ne.symm n_qq23__qq81_
  have hH := hN
  have hc_qq81_ : Mq82_ qq81_ = some (.inr (5, [.int 0, .int 0, .int 0, .int 0, .int 0, .int 0, .int 0, .int 0, .int 0, .int 0, .int 0])) := hc_qq81_
  have hc_h : Mq82_ h = some (.inr (0, [.int 0, .int 0, .int 0, .int 0, .int 0, .int 0, .int 0, .int 0, .int 0, .int 0, .int 0, .int 0, .ref qq1_, .ref qq4_, .ref qq9_, .ref qq14_, .ref qq17_, .ref qq20_, .ref qq23_])) := (hfr h n_h_qq81_).trans hc_h
  have hc_qq1_ : Mq82_ qq1_ = some (.inl (kA 3, 12, .inr (.inr (.inr (.inr (va_up (va_up (va_up (va_up (va_up (va_up (fun _ => none) (Int32.toNatClampNeg 0) (some qq27_)) (Int32.toNatClampNeg 1) (some qq36_)) (Int32.toNatClampNeg 2) (some qq45_)) (Int32.toNatClampNeg 3) (some qq54_)) (Int32.toNatClampNeg 4) (some qq63_)) (Int32.toNatClampNeg 5) (some qq72_))))))) := (hfr qq1_ n_qq1__qq81_).trans hc_qq1_
  have hc_qq14_ : Mq82_ qq14_ = some (.inl (kA 0, 14, .inl (fun _ => 0))) := (hfr qq14_ n_qq14__qq81_).trans hc_qq14_
  have hc_qq17_ : Mq82_ qq17_ = some (.inl (kA 0, 14, .inl (fun _ => 0))) := (hfr qq17_ n_qq17__qq81_).trans hc_qq17_
  have hc_qq20_ : Mq82_ qq20_ = some (.inl (kA 0, 14, .inl (fun _ => 0))) := (hfr qq20_ n_qq20__qq81_).trans hc_qq20_
  have hc_qq23_ : Mq82_ qq23_ = some (.inl (kA 0, 14, .inl (fun _ => 0))) := (hfr qq23_ n_qq23__qq81_).trans hc_qq23_
  have hF : ∀ a, FrA T a → a ≠ h → a < sz → Mq82_ a = M a := fun a hA h0 h1 => (hfr a (Nat.ne_of_lt (Nat.lt_of_lt_of_le h1 g_qq81_))).trans (hF a hA h0 h1)
  refine lv_dup hx hb dX1_init_83 rfl ?_
  refine goV hK hH (runIN (As := []) (rest := [.ref qq81_, .int 6, .ref qq1_]) hC hK hH (c_X6_init hc_qq81_ hn_qq81_) mlX1_40 ⟨⟨Nat.le_of_ble_eq_true rfl, Nat.le_of_ble_eq_true rfl⟩, Nat.le_of_ble_eq_true rfl, Nat.le_of_ble_eq_true rfl⟩ rfl hl.1 rfl (Nat.le_of_ble_eq_true rfl) dX1_init_84) (fun Mq83_ Tq84_ Hq_ lcq_ hP hz hH => ?_)
  try dsimp only at hP
  obtain ⟨(-), eT, eM⟩ := hP
  have eT := eT.symm; subst eT
  have eM := eM.symm; subst eM
  obtain ⟨Mq87_, Tq86_, nM_qq81_, hfr, t_qq81_, hfT, hsub, hH⟩ := hH.re2 (τ := 0) hc_qq81_ hn_qq81_ (conf_o rfl ⟨okI (by decide) (by decide), okI (by decide) (by decide), okI (by decide) (by decide), okI (by decide) (by decide), okI (by decide) (by decide), okI (by decide) (by decide), okI (by decide) (by decide), okI (by decide) (by decide), okI (by decide) (by decide), okI (by decide) (by decide), okI (by decide) (by decide), trivial⟩)
  have hc_h : Mq87_ h = some (.inr (0, [.int 0, .int 0, .int 0, .int 0, .int 0, .int 0, .int 0, .int 0, .int 0, .int 0, .int 0, .int 0, .ref qq1_, .ref qq4_, .ref qq9_, .ref qq14_, .ref qq17_, .ref qq20_, .ref qq23_])) := (hfr h n_h_qq81_).trans hc_h
  have hc_qq1_ : Mq87_ qq1_ = some (.inl (kA 3, 12, .inr (.inr (.inr (.inr (va_up (va_up (va_up (va_up (va_up (va_up (fun _ => none) (Int32.toNatClampNeg 0) (some qq27_)) (Int32.toNatClampNeg 1) (some qq36_)) (Int32.toNatClampNeg 2) (some qq45_)) (Int32.toNatClampNeg 3) (some qq54_)) (Int32.toNatClampNeg 4) (some qq63_)) (Int32.toNatClampNeg 5) (some qq72_))))))) := (hfr qq1_ n_qq1__qq81_).trans hc_qq1_
  have hc_qq14_ : Mq87_ qq14_ = some (.inl (kA 0, 14, .inl (fun _ => 0))) := (hfr qq14_ n_qq14__qq81_).trans hc_qq14_
  have hc_qq17_ : Mq87_ qq17_ = some (.inl (kA 0, 14, .inl (fun _ => 0))) := (hfr qq17_ n_qq17__qq81_).trans hc_qq17_
  have hc_qq20_ : Mq87_ qq20_ = some (.inl (kA 0, 14, .inl (fun _ => 0))) := (hfr qq20_ n_qq20__qq81_).trans hc_qq20_
  have hc_qq23_ : Mq87_ qq23_ = some (.inl (kA 0, 14, .inl (fun _ => 0))) := (hfr qq23_ n_qq23__qq81_).trans hc_qq23_
  have hn_h : Tq86_ h = none := (hfT h n_h_qq81_).trans hn_h
  have hn_qq1_ : Tq86_ qq1_ = none := (hfT qq1_ n_qq1__qq81_).trans hn_qq1_
  have hn_qq14_ : Tq86_ qq14_ = none := (hfT qq14_ n_qq14__qq81_).trans hn_qq14_
  have hn_qq17_ : Tq86_ qq17_ = none := (hfT qq17_ n_qq17__qq81_).trans hn_qq17_
  have hn_qq20_ : Tq86_ qq20_ = none := (hfT qq20_ n_qq20__qq81_).trans hn_qq20_
  have hn_qq23_ : Tq86_ qq23_ = none := (hfT qq23_ n_qq23__qq81_).trans hn_qq23_
  have t_qq4_ : Tq86_ qq4_ = some 1 := hsub _ _ t_qq4_
  have t_qq9_ : Tq86_ qq9_ = some 1 := hsub _ _ t_qq9_
  have t_qq27_ : Tq86_ qq27_ = some 0 := hsub _ _ t_qq27_
  have t_qq36_ : Tq86_ qq36_ = some 0 := hsub _ _ t_qq36_
  have t_qq45_ : Tq86_ qq45_ = some 0 := hsub _ _ t_qq45_
  have t_qq54_ : Tq86_ qq54_ = some 0 := hsub _ _ t_qq54_
  have t_qq63_ : Tq86_ qq63_ = some 0 := hsub _ _ t_qq63_
  have t_qq72_ : Tq86_ qq72_ = some 0 := hsub _ _ t_qq72_
  have hTT : ∀ a t, T a = some t → Tq86_ a = some t := fun a t h => hsub _ _ (hTT a t h)
  have hTF : ∀ a, a ≠ h → a < sz → Tq86_ a = T a := fun a h0 h1 => (hfT a (Nat.ne_of_lt (Nat.lt_of_lt_of_le h1 g_qq81_))).trans (hTF a h0 h1)
  have hF : ∀ a, FrA T a → a ≠ h → a < sz → Mq87_ a = M a := fun a hA h0 h1 => (hfr a (Nat.ne_of_lt (Nat.lt_of_lt_of_le h1 g_qq81_))).trans (hF a hA h0 h1)
  refine yqst (ck := 3) (cv := 5) (v := qq81_) hC hK hH rfl rfl hc_qq1_ (let ⟨fs, h1, _⟩ := tcell hH t_qq81_ rfl; ⟨fs, h1⟩) (noT hn_qq1_) (iIn (by decide) (by decide)) dX1_init_87 (fun Hq_ lcq_ Mq88_ hc_qq1_ hfr hH => ?_)
  have hc_qq1_ : Mq88_ qq1_ = some (.inl (kA 3, 12, .inr (.inr (.inr (.inr (va_up (va_up (va_up (va_up (va_up (va_up (va_up (fun _ => none) (Int32.toNatClampNeg 0) (some qq27_)) (Int32.toNatClampNeg 1) (some qq36_)) (Int32.toNatClampNeg 2) (some qq45_)) (Int32.toNatClampNeg 3) (some qq54_)) (Int32.toNatClampNeg 4) (some qq63_)) (Int32.toNatClampNeg 5) (some qq72_)) (Int32.toNatClampNeg 6) (some qq81_))))))) := hc_qq1_
  have hc_h : Mq88_ h = some (.inr (0, [.int 0, .int 0, .int 0, .int 0, .int 0, .int 0, .int 0, .int 0, .int 0, .int 0, .int 0, .int 0, .ref qq1_, .ref qq4_, .ref qq9_, .ref qq14_, .ref qq17_, .ref qq20_, .ref qq23_])) := (hfr h n_h_qq1_).trans hc_h
  have hc_qq14_ : Mq88_ qq14_ = some (.inl (kA 0, 14, .inl (fun _ => 0))) := (hfr qq14_ n_qq14__qq1_).trans hc_qq14_
  have hc_qq17_ : Mq88_ qq17_ = some (.inl (kA 0, 14, .inl (fun _ => 0))) := (hfr qq17_ n_qq17__qq1_).trans hc_qq17_
  have hc_qq20_ : Mq88_ qq20_ = some (.inl (kA 0, 14, .inl (fun _ => 0))) := (hfr qq20_ n_qq20__qq1_).trans hc_qq20_
  have hc_qq23_ : Mq88_ qq23_ = some (.inl (kA 0, 14, .inl (fun _ => 0))) := (hfr qq23_ n_qq23__qq1_).trans hc_qq23_
  have hF : ∀ a, FrA T a → a ≠ h → a < sz → Mq88_ a = M a := fun a hA h0 h1 => (hfr a (Nat.ne_of_lt (Nat.lt_of_lt_of_le h1 g_qq1_))).trans (hF a hA h0 h1)
  refine lv_iinc (v := 7) (lv' := [(1, .int 7), (0, .ref h)]) hx hb dX1_init_88 hl (k := 0) rfl (by decide) (by decide) rfl (fun ls hl => ?_)
  refine lv_goto (tgt := 69) hx hb dX1_init_91 (by decide) ?_
  refine lv_iload_n hx hb dX1_init_69 rfl (lv_at hl 0 rfl) ?_
  refine lv_bipush (v := 12) hx hb dX1_init_70 (by decide) ?_
  refine jic_ge (tgt := 94) hx hb dX1_init_72 (by decide) (fun cq89_ => absurd cq89_ (by decide)) (fun cq89_ => ?_)
  refine lv_aload_n hx hb dX1_init_75 rfl (lv_at hl 1 rfl) ?_
  refine xg hC hK hH flX1_11 hc_h rfl dX1_init_76 ?_
  refine lv_iload_n hx hb dX1_init_79 rfl (lv_at hl 0 rfl) ?_
  refine ynew hC hK hH nlX1_9 (Nat.le_of_ble_eq_true rfl) (Nat.le_of_ble_eq_true rfl) dX1_init_80 (fun qq90_ Hq_ Mq91_ e_qq90_ hz nM_qq90_ hn_qq90_ hc_qq90_ hfr hN => ?_)
  have g_qq90_ : sz ≤ qq90_ := by rw [← hsz, e_qq90_]; exact hH.2.1.1
  have n_h_qq90_ : h ≠ qq90_ := neN hc_h nM_qq90_
  have n_qq90__h : qq90_ ≠ h := Ne.symm n_h_qq90_
  have n_qq1__qq90_ : qq1_ ≠ qq90_ := neN hc_qq1_ nM_qq90_
  have n_qq90__qq1_ : qq90_ ≠ qq1_ := Ne.symm n_qq1__qq90_
  have n_qq14__qq90_ : qq14_ ≠ qq90_ := neN hc_qq14_ nM_qq90_
  have n_qq90__qq14_ : qq90_ ≠ qq14_ := Ne.symm n_qq14__qq90_
  have n_qq17__qq90_ : qq17_ ≠ qq90_ := neN hc_qq17_ nM_qq90_
  have n_qq90__qq17_ : qq90_ ≠ qq17_ := Ne.symm n_qq17__qq90_
  have n_qq20__qq90_ : qq20_ ≠ qq90_ := neN hc_qq20_ nM_qq90_
  have n_qq90__qq20_ : qq90_ ≠ qq20_ := Ne.symm n_qq20__qq90_
  have n_qq23__qq90_ : qq23_ ≠ qq90_ := neN hc_qq23_ nM_qq90_
  have n_qq90__qq23_ : qq90_ ≠ qq23_ := Ne.symm n_qq23__qq90_
  have hH := hN
  have hc_qq90_ : Mq91_ qq90_ = some (.inr (5, [.int 0, .int 0, .int 0, .int 0, .int 0, .int 0, .int 0, .int 0, .int 0, .int 0, .int 0])) := hc_qq90_
  have hc_h : Mq91_ h = some (.inr (0, [.int 0, .int 0, .int 0, .int 0, .int 0, .int 0, .int 0, .int 0, .int 0, .int 0, .int 0, .int 0, .ref qq1_, .ref qq4_, .ref qq9_, .ref qq14_, .ref qq17_, .ref qq20_, .ref qq23_])) := (hfr h n_h_qq90_).trans hc_h
  have hc_qq1_ : Mq91_ qq1_ = some (.inl (kA 3, 12, .inr (.inr (.inr (.inr (va_up (va_up (va_up (va_up (va_up (va_up (va_up (fun _ => none) (Int32.toNatClampNeg 0) (some qq27_)) (Int32.toNatClampNeg 1) (some qq36_)) (Int32.toNatClampNeg 2) (some qq45_)) (Int32.toNatClampNeg 3) (some qq54_)) (Int32.toNatClampNeg 4) (some qq63_)) (Int32.toNatClampNeg 5) (some qq72_)) (Int32.toNatClampNeg 6) (some qq81_))))))) := (hfr qq1_ n_qq1__qq90_).trans hc_qq1_
  have hc_qq14_ : Mq91_ qq14_ = some (.inl (kA 0, 14, .inl (fun _ => 0))) := (hfr qq14_ n_qq14__qq90_).trans hc_qq14_
  have hc_qq17_ : Mq91_ qq17_ = some (.inl (kA 0, 14, .inl (fun _ => 0))) := (hfr qq17_ n_qq17__qq90_).trans hc_qq17_
  have hc_qq20_ : Mq91_ qq20_ = some (.inl (kA 0, 14, .inl (fun _ => 0))) := (hfr qq20_ n_qq20__qq90_).trans hc_qq20_
  have hc_qq23_ : Mq91_ qq23_ = some (.inl (kA 0, 14, .inl (fun _ => 0))) := (hfr qq23_ n_qq23__qq90_).trans hc_qq23_
  have hF : ∀ a, FrA T a → a ≠ h → a < sz → Mq91_ a = M a := fun a hA h0 h1 => (hfr a (Nat.ne_of_lt (Nat.lt_of_lt_of_le h1 g_qq90_))).trans (hF a hA h0 h1)
  refine lv_dup hx hb dX1_init_83 rfl ?_
  refine goV hK hH (runIN (As := []) (rest := [.ref qq90_, .int 7, .ref qq1_]) hC hK hH (c_X6_init hc_qq90_ hn_qq90_) mlX1_40 ⟨⟨Nat.le_of_ble_eq_true rfl, Nat.le_of_ble_eq_true rfl⟩, Nat.le_of_ble_eq_true rfl, Nat.le_of_ble_eq_true rfl⟩ rfl hl.1 rfl (Nat.le_of_ble_eq_true rfl) dX1_init_84) (fun Mq92_ Tq93_ Hq_ lcq_ hP hz hH => ?_)
  try dsimp only at hP
  obtain ⟨(-), eT, eM⟩ := hP
  have eT := eT.symm; subst eT
  have eM := eM.symm; subst eM
  obtain ⟨Mq96_, Tq95_, nM_qq90_, hfr, t_qq90_, hfT, hsub, hH⟩ := hH.re2 (τ := 0) hc_qq90_ hn_qq90_ (conf_o rfl ⟨okI (by decide) (by decide), okI (by decide) (by decide), okI (by decide) (by decide), okI (by decide) (by decide), okI (by decide) (by decide), okI (by decide) (by decide), okI (by decide) (by decide), okI (by decide) (by decide), okI (by decide) (by decide), okI (by decide) (by decide), okI (by decide) (by decide), trivial⟩)
  have hc_h : Mq96_ h = some (.inr (0, [.int 0, .int 0, .int 0, .int 0, .int 0, .int 0, .int 0, .int 0, .int 0, .int 0, .int 0, .int 0, .ref qq1_, .ref qq4_, .ref qq9_, .ref qq14_, .ref qq17_, .ref qq20_, .ref qq23_])) := (hfr h n_h_qq90_).trans hc_h
  have hc_qq1_ : Mq96_ qq1_ = some (.inl (kA 3, 12, .inr (.inr (.inr (.inr (va_up (va_up (va_up (va_up (va_up (va_up (va_up (fun _ => none) (Int32.toNatClampNeg 0) (some qq27_)) (Int32.toNatClampNeg 1) (some qq36_)) (Int32.toNatClampNeg 2) (some qq45_)) (Int32.toNatClampNeg 3) (some qq54_)) (Int32.toNatClampNeg 4) (some qq63_)) (Int32.toNatClampNeg 5) (some qq72_)) (Int32.toNatClampNeg 6) (some qq81_))))))) := (hfr qq1_ n_qq1__qq90_).trans hc_qq1_
  have hc_qq14_ : Mq96_ qq14_ = some (.inl (kA 0, 14, .inl (fun _ => 0))) := (hfr qq14_ n_qq14__qq90_).trans hc_qq14_
  have hc_qq17_ : Mq96_ qq17_ = some (.inl (kA 0, 14, .inl (fun _ => 0))) := (hfr qq17_ n_qq17__qq90_).trans hc_qq17_
  have hc_qq20_ : Mq96_ qq20_ = some (.inl (kA 0, 14, .inl (fun _ => 0))) := (hfr qq20_ n_qq20__qq90_).trans hc_qq20_
  have hc_qq23_ : Mq96_ qq23_ = some (.inl (kA 0, 14, .inl (fun _ => 0))) := (hfr qq23_ n_qq23__qq90_).trans hc_qq23_
  have hn_h : Tq95_ h = none := (hfT h n_h_qq90_).trans hn_h
  have hn_qq1_ : Tq95_ qq1_ = none := (hfT qq1_ n_qq1__qq90_).trans hn_qq1_
  have hn_qq14_ : Tq95_ qq14_ = none := (hfT qq14_ n_qq14__qq90_).trans hn_qq14_
  have hn_qq17_ : Tq95_ qq17_ = none := (hfT qq17_ n_qq17__qq90_).trans hn_qq17_
  have hn_qq20_ : Tq95_ qq20_ = none := (hfT qq20_ n_qq20__qq90_).trans hn_qq20_
  have hn_qq23_ : Tq95_ qq23_ = none := (hfT qq23_ n_qq23__qq90_).trans hn_qq23_
  have t_qq4_ : Tq95_ qq4_ = some 1 := hsub _ _ t_qq4_
  have t_qq9_ : Tq95_ qq9_ = some 1 := hsub _ _ t_qq9_
  have t_qq27_ : Tq95_ qq27_ = some 0 := hsub _ _ t_qq27_
  have t_qq36_ : Tq95_ qq36_ = some 0 := hsub _ _ t_qq36_
  have t_qq45_ : Tq95_ qq45_ = some 0 := hsub _ _ t_qq45_
  have t_qq54_ : Tq95_ qq54_ = some 0 := hsub _ _ t_qq54_
  have t_qq63_ : Tq95_ qq63_ = some 0 := hsub _ _ t_qq63_
  have t_qq72_ : Tq95_ qq72_ = some 0 := hsub _ _ t_qq72_
  have t_qq81_ : Tq95_ qq81_ = some 0 := hsub _ _ t_qq81_
  have hTT : ∀ a t, T a = some t → Tq95_ a = some t := fun a t h => hsub _ _ (hTT a t h)
  have hTF : ∀ a, a ≠ h → a < sz → Tq95_ a = T a := fun a h0 h1 => (hfT a (Nat.ne_of_lt (Nat.lt_of_lt_of_le h1 g_qq90_))).trans (hTF a h0 h1)
  have hF : ∀ a, FrA T a → a ≠ h → a < sz → Mq96_ a = M a := fun a hA h0 h1 => (hfr a (Nat.ne_of_lt (Nat.lt_of_lt_of_le h1 g_qq90_))).trans (hF a hA h0 h1)
  refine yqst (ck := 3) (cv := 5) (v := qq90_) hC hK hH rfl rfl hc_qq1_ (let ⟨fs, h1, _⟩ := tcell hH t_qq90_ rfl; ⟨fs, h1⟩) (noT hn_qq1_) (iIn (by decide) (by decide)) dX1_init_87 (fun Hq_ lcq_ Mq97_ hc_qq1_ hfr hH => ?_)
  have hc_qq1_ : Mq97_ qq1_ = some (.inl (kA 3, 12, .inr (.inr (.inr (.inr (va_up (va_up (va_up (va_up (va_up (va_up (va_up (va_up (fun _ => none) (Int32.toNatClampNeg 0) (some qq27_)) (Int32.toNatClampNeg 1) (some qq36_)) (Int32.toNatClampNeg 2) (some qq45_)) (Int32.toNatClampNeg 3) (some qq54_)) (Int32.toNatClampNeg 4) (some qq63_)) (Int32.toNatClampNeg 5) (some qq72_)) (Int32.toNatClampNeg 6) (some qq81_)) (Int32.toNatClampNeg 7) (some qq90_))))))) := hc_qq1_
  have hc_h : Mq97_ h = some (.inr (0, [.int 0, .int 0, .int 0, .int 0, .int 0, .int 0, .int 0, .int 0, .int 0, .int 0, .int 0, .int 0, .ref qq1_, .ref qq4_, .ref qq9_, .ref qq14_, .ref qq17_, .ref qq20_, .ref qq23_])) := (hfr h n_h_qq1_).trans hc_h
  have hc_qq14_ : Mq97_ qq14_ = some (.inl (kA 0, 14, .inl (fun _ => 0))) := (hfr qq14_ n_qq14__qq1_).trans hc_qq14_
  have hc_qq17_ : Mq97_ qq17_ = some (.inl (kA 0, 14, .inl (fun _ => 0))) := (hfr qq17_ n_qq17__qq1_).trans hc_qq17_
  have hc_qq20_ : Mq97_ qq20_ = some (.inl (kA 0, 14, .inl (fun _ => 0))) := (hfr qq20_ n_qq20__qq1_).trans hc_qq20_
  have hc_qq23_ : Mq97_ qq23_ = some (.inl (kA 0, 14, .inl (fun _ => 0))) := (hfr qq23_ n_qq23__qq1_).trans hc_qq23_
  have hF : ∀ a, FrA T a → a ≠ h → a < sz → Mq97_ a = M a := fun a hA h0 h1 => (hfr a (Nat.ne_of_lt (Nat.lt_of_lt_of_le h1 g_qq1_))).trans (hF a hA h0 h1)
  refine lv_iinc (v := 8) (lv' := [(1, .int 8), (0, .ref h)]) hx hb dX1_init_88 hl (k := 0) rfl (by decide) (by decide) rfl (fun ls hl => ?_)
  refine lv_goto (tgt := 69) hx hb dX1_init_91 (by decide) ?_
  refine lv_iload_n hx hb dX1_init_69 rfl (lv_at hl 0 rfl) ?_
  refine lv_bipush (v := 12) hx hb dX1_init_70 (by decide) ?_
  refine jic_ge (tgt := 94) hx hb dX1_init_72 (by decide) (fun cq98_ => absurd cq98_ (by decide)) (fun cq98_ => ?_)
  refine lv_aload_n hx hb dX1_init_75 rfl (lv_at hl 1 rfl) ?_
  refine xg hC hK hH flX1_11 hc_h rfl dX1_init_76 ?_
  refine lv_iload_n hx hb dX1_init_79 rfl (lv_at hl 0 rfl) ?_
  refine ynew hC hK hH nlX1_9 (Nat.le_of_ble_eq_true rfl) (Nat.le_of_ble_eq_true rfl) dX1_init_80 (fun qq99_ Hq_ Mq100_ e_qq99_ hz nM_qq99_ hn_qq99_ hc_qq99_ hfr hN => ?_)
  have g_qq99_ : sz ≤ qq99_ := by rw [← hsz, e_qq99_]; exact hH.2.1.1
  have n_h_qq99_ : h ≠ qq99_ := neN hc_h nM_qq99_
  have n_qq99__h : qq99_ ≠ h := Ne.symm n_h_qq99_
  have n_qq1__qq99_ : qq1_ ≠ qq99_ := neN hc_qq1_ nM_qq99_
  have n_qq99__qq1_ : qq99_ ≠ qq1_ := Ne.symm n_qq1__qq99_
  have n_qq14__qq99_ : qq14_ ≠ qq99_ := neN hc_qq14_ nM_qq99_
  have n_qq99__qq14_ : qq99_ ≠ qq14_ := Ne.symm n_qq14__qq99_
  have n_qq17__qq99_ : qq17_ ≠ qq99_ := neN hc_qq17_ nM_qq99_
  have n_qq99__qq17_ : qq99_ ≠ qq17_ := Ne.symm n_qq17__qq99_
  have n_qq20__qq99_ : qq20_ ≠ qq99_ := neN hc_qq20_ nM_qq99_
  have n_qq99__qq20_ : qq99_ ≠ qq20_ := Ne.symm n_qq20__qq99_
  have n_qq23__qq99_ : qq23_ ≠ qq99_ := neN hc_qq23_ nM_qq99_
  have n_qq99__qq23_ : qq99_ ≠ qq23_ := Ne.symm n_qq23__qq99_
  have hH := hN
  have hc_qq99_ : Mq100_ qq99_ = some (.inr (5, [.int 0, .int 0, .int 0, .int 0, .int 0, .int 0, .int 0, .int 0, .int 0, .int 0, .int 0])) := hc_qq99_
  have hc_h : Mq100_ h = some (.inr (0, [.int 0, .int 0, .int 0, .int 0, .int 0, .int 0, .int 0, .int 0, .int 0, .int 0, .int 0, .int 0, .ref qq1_, .ref qq4_, .ref qq9_, .ref qq14_, .ref qq17_, .ref qq20_, .ref qq23_])) := (hfr h n_h_qq99_).trans hc_h
  have hc_qq1_ : Mq100_ qq1_ = some (.inl (kA 3, 12, .inr (.inr (.inr (.inr (va_up (va_up (va_up (va_up (va_up (va_up (va_up (va_up (fun _ => none) (Int32.toNatClampNeg 0) (some qq27_)) (Int32.toNatClampNeg 1) (some qq36_)) (Int32.toNatClampNeg 2) (some qq45_)) (Int32.toNatClampNeg 3) (some qq54_)) (Int32.toNatClampNeg 4) (some qq63_)) (Int32.toNatClampNeg 5) (some qq72_)) (Int32.toNatClampNeg 6) (some qq81_)) (Int32.toNatClampNeg 7) (some qq90_))))))) := (hfr qq1_ n_qq1__qq99_).trans hc_qq1_
  have hc_qq14_ : Mq100_ qq14_ = some (.inl (kA 0, 14, .inl (fun _ => 0))) := (hfr qq14_ n_qq14__qq99_).trans hc_qq14_
  have hc_qq17_ : Mq100_ qq17_ = some (.inl (kA 0, 14, .inl (fun _ => 0))) := (hfr qq17_ n_qq17__qq99_).trans hc_qq17_
  have hc_qq20_ : Mq100_ qq20_ = some (.inl (kA 0, 14, .inl (fun _ => 0))) := (hfr qq20_ n_qq20__qq99_).trans hc_qq20_
  have hc_qq23_ : Mq100_ qq23_ = some (.inl (kA 0, 14, .inl (fun _ => 0))) := (hfr qq23_ n_qq23__qq99_).trans hc_qq23_
  have hF : ∀ a, FrA T a → a ≠ h → a < sz → Mq100_ a = M a := fun a hA h0 h1 => (hfr a (Nat.ne_of_lt (Nat.lt_of_lt_of_le h1 g_qq99_))).trans (hF a hA h0 h1)
  refine lv_dup hx hb dX1_init_83 rfl ?_
  refine goV hK hH (runIN (As := []) (rest := [.ref qq99_, .int 8, .ref qq1_]) hC hK hH (c_X6_init hc_qq99_ hn_qq99_) mlX1_40 ⟨⟨Nat.le_of_ble_eq_true rfl, Nat.le_of_ble_eq_true rfl⟩, Nat.le_of_ble_eq_true rfl, Nat.le_of_ble_eq_true rfl⟩ rfl hl.1 rfl (Nat.le_of_ble_eq_true rfl) dX1_init_84) (fun Mq101_ Tq102_ Hq_ lcq_ hP hz hH => ?_)
  try dsimp only at hP
  obtain ⟨(-), eT, eM⟩ := hP
  have eT := eT.symm; subst eT
  have eM := eM.symm; subst eM
  obtain ⟨Mq105_, Tq104_, nM_qq99_, hfr, t_qq99_, hfT, hsub, hH⟩ := hH.re2 (τ := 0) hc_qq99_ hn_qq99_ (conf_o rfl ⟨okI (by decide) (by decide), okI (by decide) (by decide), okI (by decide) (by decide), okI (by decide) (by decide), okI (by decide) (by decide), okI (by decide) (by decide), okI (by decide) (by decide), okI (by decide) (by decide), okI (by decide) (by decide), okI (by decide) (by decide), okI (by decide) (by decide), trivial⟩)
  have hc_h : Mq105_ h = some (.inr (0, [.int 0, .int 0, .int 0, .int 0, .int 0, .int 0, .int 0, .int 0, .int 0, .int 0, .int 0, .int 0, .ref qq1_, .ref qq4_, .ref qq9_, .ref qq14_, .ref qq17_, .ref qq20_, .ref qq23_])) := (hfr h n_h_qq99_).trans hc_h
  have hc_qq1_ : Mq105_ qq1_ = some (.inl (kA 3, 12, .inr (.inr (.inr (.inr (va_up (va_up (va_up (va_up (va_up (va_up (va_up (va_up (fun _ => none) (Int32.toNatClampNeg 0) (some qq27_)) (Int32.toNatClampNeg 1) (some qq36_)) (Int32.toNatClampNeg 2) (some qq45_)) (Int32.toNatClampNeg 3) (some qq54_)) (Int32.toNatClampNeg 4) (some qq63_)) (Int32.toNatClampNeg 5) (some qq72_)) (Int32.toNatClampNeg 6) (some qq81_)) (Int32.toNatClampNeg 7) (some qq90_))))))) := (hfr qq1_ n_qq1__qq99_).trans hc_qq1_
  have hc_qq14_ : Mq105_ qq14_ = some (.inl (kA 0, 14, .inl (fun _ => 0))) := (hfr qq14_ n_qq14__qq99_).trans hc_qq14_
  have hc_qq17_ : Mq105_ qq17_ = some (.inl (kA 0, 14, .inl (fun _ => 0))) := (hfr qq17_ n_qq17__qq99_).trans hc_qq17_
  have hc_qq20_ : Mq105_ qq20_ = some (.inl (kA 0, 14, .inl (fun _ => 0))) := (hfr qq20_ n_qq20__qq99_).trans hc_qq20_
  have hc_qq23_ : Mq105_ qq23_ = some (.inl (kA 0, 14, .inl (fun _ => 0))) := (hfr qq23_ n_qq23__qq99_).trans hc_qq23_
  have hn_h : Tq104_ h = none := (hfT h n_h_qq99_).trans hn_h
  have hn_qq1_ : Tq104_ qq1_ = none := (hfT qq1_ n_qq1__qq99_).trans hn_qq1_
  have hn_qq14_ : Tq104_ qq14_ = none := (hfT qq14_ n_qq14__qq99_).trans hn_qq14_
  have hn_qq17_ : Tq104_ qq17_ = none := (hfT qq17_ n_qq17__qq99_).trans hn_qq17_
  have hn_qq20_ : Tq104_ qq20_ = none := (hfT qq20_ n_qq20__qq99_).trans hn_qq20_
  have hn_qq23_ : Tq104_ qq23_ = none := (hfT qq23_ n_qq23__qq99_).trans hn_qq23_
  have t_qq4_ : Tq104_ qq4_ = some 1 := hsub _ _ t_qq4_
  have t_qq9_ : Tq104_ qq9_ = some 1 := hsub _ _ t_qq9_
  have t_qq27_ : Tq104_ qq27_ = some 0 := hsub _ _ t_qq27_
  have t_qq36_ : Tq104_ qq36_ = some 0 := hsub _ _ t_qq36_
  have t_qq45_ : Tq104_ qq45_ = some 0 := hsub _ _ t_qq45_
  have t_qq54_ : Tq104_ qq54_ = some 0 := hsub _ _ t_qq54_
  have t_qq63_ : Tq104_ qq63_ = some 0 := hsub _ _ t_qq63_
  have t_qq72_ : Tq104_ qq72_ = some 0 := hsub _ _ t_qq72_
  have t_qq81_ : Tq104_ qq81_ = some 0 := hsub _ _ t_qq81_
  have t_qq90_ : Tq104_ qq90_ = some 0 := hsub _ _ t_qq90_
  have hTT : ∀ a t, T a = some t → Tq104_ a = some t := fun a t h => hsub _ _ (hTT a t h)
  have hTF : ∀ a, a ≠ h → a < sz → Tq104_ a = T a := fun a h0 h1 => (hfT a (Nat.ne_of_lt (Nat.lt_of_lt_of_le h1 g_qq99_))).trans (hTF a h0 h1)
  have hF : ∀ a, FrA T a → a ≠ h → a < sz → Mq105_ a = M a := fun a hA h0 h1 => (hfr a (Nat.ne_of_lt (Nat.lt_of_lt_of_le h1 g_qq99_))).trans (hF a hA h0 h1)
  refine yqst (ck := 3) (cv := 5) (v := qq99_) hC hK hH rfl rfl hc_qq1_ (let ⟨fs, h1, _⟩ := tcell hH t_qq99_ rfl; ⟨fs, h1⟩) (noT hn_qq1_) (iIn (by decide) (by decide)) dX1_init_87 (fun Hq_ lcq_ Mq106_ hc_qq1_ hfr hH => ?_)
  have hc_qq1_ : Mq106_ qq1_ = some (.inl (kA 3, 12, .inr (.inr (.inr (.inr (va_up (va_up (va_up (va_up (va_up (va_up (va_up (va_up (va_up (fun _ => none) (Int32.toNatClampNeg 0) (some qq27_)) (Int32.toNatClampNeg 1) (some qq36_)) (Int32.toNatClampNeg 2) (some qq45_)) (Int32.toNatClampNeg 3) (some qq54_)) (Int32.toNatClampNeg 4) (some qq63_)) (Int32.toNatClampNeg 5) (some qq72_)) (Int32.toNatClampNeg 6) (some qq81_)) (Int32.toNatClampNeg 7) (some qq90_)) (Int32.toNatClampNeg 8) (some qq99_))))))) := hc_qq1_
  have hc_h : Mq106_ h = some (.inr (0, [.int 0, .int 0, .int 0, .int 0, .int 0, .int 0, .int 0, .int 0, .int 0, .int 0, .int 0, .int 0, .ref qq1_, .ref qq4_, .ref qq9_, .ref qq14_, .ref qq17_, .ref qq20_, .ref qq23_])) := (hfr h n_h_qq1_).trans hc_h
  have hc_qq14_ : Mq106_ qq14_ = some (.inl (kA 0, 14, .inl (fun _ => 0))) := (hfr qq14_ n_qq14__qq1_).trans hc_qq14_
  have hc_qq17_ : Mq106_ qq17_ = some (.inl (kA 0, 14, .inl (fun _ => 0))) := (hfr qq17_ n_qq17__qq1_).trans hc_qq17_
  have hc_qq20_ : Mq106_ qq20_ = some (.inl (kA 0, 14, .inl (fun _ => 0))) := (hfr qq20_ n_qq20__qq1_).trans hc_qq20_
  have hc_qq23_ : Mq106_ qq23_ = some (.inl (kA 0, 14, .inl (fun _ => 0))) := (hfr qq23_ n_qq23__qq1_).trans hc_qq23_
  have hF : ∀ a, FrA T a → a ≠ h → a < sz → Mq106_ a = M a := fun a hA h0 h1 => (hfr a (Nat.ne_of_lt (Nat.lt_of_lt_of_le h1 g_qq1_))).trans (hF a hA h0 h1)
  refine lv_iinc (v := 9) (lv' := [(1, .int 9), (0, .ref h)]) hx hb dX1_init_88 hl (k := 0) rfl (by decide) (by decide) rfl (fun ls hl => ?_)
  refine lv_goto (tgt := 69) hx hb dX1_init_91 (by decide) ?_
  refine lv_iload_n hx hb dX1_init_69 rfl (lv_at hl 0 rfl) ?_
  refine lv_bipush (v := 12) hx hb dX1_init_70 (by decide) ?_
  refine jic_ge (tgt := 94) hx hb dX1_init_72 (by decide) (fun cq107_ => absurd cq107_ (by decide)) (fun cq107_ => ?_)
  refine lv_aload_n hx hb dX1_init_75 rfl (lv_at hl 1 rfl) ?_
  refine xg hC hK hH flX1_11 hc_h rfl dX1_init_76 ?_
  refine lv_iload_n hx hb dX1_init_79 rfl (lv_at hl 0 rfl) ?_
  refine ynew hC hK hH nlX1_9 (Nat.le_of_ble_eq_true rfl) (Nat.le_of_ble_eq_true rfl) dX1_init_80 (fun qq108_ Hq_ Mq109_ e_qq108_ hz nM_qq108_ hn_qq108_ hc_qq108_ hfr hN => ?_)
  have g_qq108_ : sz ≤ qq108_ := by rw [← hsz, e_qq108_]; exact hH.2.1.1
  have n_h_qq108_ : h ≠ qq108_ := neN hc_h nM_qq108_
  have n_qq108__h : qq108_ ≠ h := Ne.symm n_h_qq108_
  have n_qq1__qq108_ : qq1_ ≠ qq108_ := neN hc_qq1_ nM_qq108_
  have n_qq108__qq1_ : qq108_ ≠ qq1_ := Ne.symm n_qq1__qq108_
  have n_qq14__qq108_ : qq14_ ≠ qq108_ := neN hc_qq14_ nM_qq108_
  have n_qq108__qq14_ : qq108_ ≠ qq14_ := Ne.symm n_qq14__qq108_
  have n_qq17__qq108_ : qq17_ ≠ qq108_ := neN hc_qq17_ nM_qq108_
  have n_qq108__qq17_ : qq108_ ≠ qq17_ := Ne.symm n_qq17__qq108_
  have n_qq20__qq108_ : qq20_ ≠ qq108_ := neN hc_qq20_ nM_qq108_
  have n_qq108__qq20_ : qq108_ ≠ qq20_ := Ne.symm n_qq20__qq108_
  have n_qq23__qq108_ : qq23_ ≠ qq108_ := neN hc_qq23_ nM_qq108_
  have n_qq108__qq23_ : qq108_ ≠ qq23_ := Ne.symm n_qq23__qq108_
  have hH := hN
  have hc_qq108_ : Mq109_ qq108_ = some (.inr (5, [.int 0, .int 0, .int 0, .int 0, .int 0, .int 0, .int 0, .int 0, .int 0, .int 0, .int 0])) := hc_qq108_
  have hc_h : Mq109_ h = some (.inr (0, [.int 0, .int 0, .int 0, .int 0, .int 0, .int 0, .int 0, .int 0, .int 0, .int 0, .int 0, .int 0, .ref qq1_, .ref qq4_, .ref qq9_, .ref qq14_, .ref qq17_, .ref qq20_, .ref qq23_])) := (hfr h n_h_qq108_).trans hc_h
  have hc_qq1_ : Mq109_ qq1_ = some (.inl (kA 3, 12, .inr (.inr (.inr (.inr (va_up (va_up (va_up (va_up (va_up (va_up (va_up (va_up (va_up (fun _ => none) (Int32.toNatClampNeg 0) (some qq27_)) (Int32.toNatClampNeg 1) (some qq36_)) (Int32.toNatClampNeg 2) (some qq45_)) (Int32.toNatClampNeg 3) (some qq54_)) (Int32.toNatClampNeg 4) (some qq63_)) (Int32.toNatClampNeg 5) (some qq72_)) (Int32.toNatClampNeg 6) (some qq81_)) (Int32.toNatClampNeg 7) (some qq90_)) (Int32.toNatClampNeg 8) (some qq99_))))))) := (hfr qq1_ n_qq1__qq108_).trans hc_qq1_
  have hc_qq14_ : Mq109_ qq14_ = some (.inl (kA 0, 14, .inl (fun _ => 0))) := (hfr qq14_ n_qq14__qq108_).trans hc_qq14_
  have hc_qq17_ : Mq109_ qq17_ = some (.inl (kA 0, 14, .inl (fun _ => 0))) := (hfr qq17_ n_qq17__qq108_).trans hc_qq17_
  have hc_qq20_ : Mq109_ qq20_ = some (.inl (kA 0, 14, .inl (fun _ => 0))) := (hfr qq20_ n_qq20__qq108_).trans hc_qq20_
  have hc_qq23_ : Mq109_ qq23_ = some (.inl (kA 0, 14, .inl (fun _ => 0))) := (hfr qq23_ n_qq23__qq108_).trans hc_qq23_
  have hF : ∀ a, FrA T a → a ≠ h → a < sz → Mq109_ a = M a := fun a hA h0 h1 => (hfr a (Nat.ne_of_lt (Nat.lt_of_lt_of_le h1 g_qq108_))).trans (hF a hA h0 h1)
  refine lv_dup hx hb dX1_init_83 rfl ?_
  refine goV hK hH (runIN (As := []) (rest := [.ref qq108_, .int 9, .ref qq1_]) hC hK hH (c_X6_init hc_qq108_ hn_qq108_) mlX1_40 ⟨⟨Nat.le_of_ble_eq_true rfl, Nat.le_of_ble_eq_true rfl⟩, Nat.le_of_ble_eq_true rfl, Nat.le_of_ble_eq_true rfl⟩ rfl hl.1 rfl (Nat.le_of_ble_eq_true rfl) dX1_init_84) (fun Mq110_ Tq111_ Hq_ lcq_ hP hz hH => ?_)
  try dsimp only at hP
  obtain ⟨(-), eT, eM⟩ := hP
  have eT := eT.symm; subst eT
  have eM := eM.symm; subst eM
  obtain ⟨Mq114_, Tq113_, nM_qq108_, hfr, t_qq108_, hfT, hsub, hH⟩ := hH.re2 (τ := 0) hc_qq108_ hn_qq108_ (conf_o rfl ⟨okI (by decide) (by decide), okI (by decide) (by decide), okI (by decide) (by decide), okI (by decide) (by decide), okI (by decide) (by decide), okI (by decide) (by decide), okI (by decide) (by decide), okI (by decide) (by decide), okI (by decide) (by decide), okI (by decide) (by decide), okI (by decide) (by decide), trivial⟩)
  have hc_h : Mq114_ h = some (.inr (0, [.int 0, .int 0, .int 0, .int 0, .int 0, .int 0, .int 0, .int 0, .int 0, .int 0, .int 0, .int 0, .ref qq1_, .ref qq4_, .ref qq9_, .ref qq14_, .ref qq17_, .ref qq20_, .ref qq23_])) := (hfr h n_h_qq108_).trans hc_h
  have hc_qq1_ : Mq114_ qq1_ = some (.inl (kA 3, 12, .inr (.inr (.inr (.inr (va_up (va_up (va_up (va_up (va_up (va_up (va_up (va_up (va_up (fun _ => none) (Int32.toNatClampNeg 0) (some qq27_)) (Int32.toNatClampNeg 1) (some qq36_)) (Int32.toNatClampNeg 2) (some qq45_)) (Int32.toNatClampNeg 3) (some qq54_)) (Int32.toNatClampNeg 4) (some qq63_)) (Int32.toNatClampNeg 5) (some qq72_)) (Int32.toNatClampNeg 6) (some qq81_)) (Int32.toNatClampNeg 7) (some qq90_)) (Int32.toNatClampNeg 8) (some qq99_))))))) := (hfr qq1_ n_qq1__qq108_).trans hc_qq1_
  have hc_qq14_ : Mq114_ qq14_ = some (.inl (kA 0, 14, .inl (fun _ => 0))) := (hfr qq14_ n_qq14__qq108_).trans hc_qq14_
  have hc_qq17_ : Mq114_ qq17_ = some (.inl (kA 0, 14, .inl (fun _ => 0))) := (hfr qq17_ n_qq17__qq108_).trans hc_qq17_
  have hc_qq20_ : Mq114_ qq20_ = some (.inl (kA 0, 14, .inl (fun _ => 0))) := (hfr qq20_ n_qq20__qq108_).trans hc_qq20_
  have hc_qq23_ : Mq114_ qq23_ = some (.inl (kA 0, 14, .inl (fun _ => 0))) := (hfr qq23_ n_qq23__qq108_).trans hc_qq23_
  have hn_h : Tq113_ h = none := (hfT h n_h_qq108_).trans hn_h
  have hn_qq1_ : Tq113_ qq1_ = none := (hfT qq1_ n_qq1__qq108_).trans hn_qq1_
  have hn_qq14_ : Tq113_ qq14_ = none := (hfT qq14_ n_qq14__qq108_).trans hn_qq14_
  have hn_qq17_ : Tq113_ qq17_ = none := (hfT qq17_ n_qq17__qq108_).trans hn_qq17_
  have hn_qq20_ : Tq113_ qq20_ = none := (hfT qq20_ n_qq20__qq108_).trans hn_qq20_
  have hn_qq23_ : Tq113_ qq23_ = none := (hfT qq23_ n_qq23__qq108_).trans hn_qq23_
  have t_qq4_ : Tq113_ qq4_ = some 1 := hsub _ _ t_qq4_
  have t_qq9_ : Tq113_ qq9_ = some 1 := hsub _ _ t_qq9_
  have t_qq27_ : Tq113_ qq27_ = some 0 := hsub _ _ t_qq27_
  have t_qq36_ : Tq113_ qq36_ = some 0 := hsub _ _ t_qq36_
  have t_qq45_ : Tq113_ qq45_ = some 0 := hsub _ _ t_qq45_
  have t_qq54_ : Tq113_ qq54_ = some 0 := hsub _ _ t_qq54_
  have t_qq63_ : Tq113_ qq63_ = some 0 := hsub _ _ t_qq63_
  have t_qq72_ : Tq113_ qq72_ = some 0 := hsub _ _ t_qq72_
  have t_qq81_ : Tq113_ qq81_ = some 0 := hsub _ _ t_qq81_
  have t_qq90_ : Tq113_ qq90_ = some 0 := hsub _ _ t_qq90_
  have t_qq99_ : Tq113_ qq99_ = some 0 := hsub _ _ t_qq99_
  have hTT : ∀ a t, T a = some t → Tq113_ a = some t := fun a t h => hsub _ _ (hTT a t h)
  have hTF : ∀ a, a ≠ h → a < sz → Tq113_ a = T a := fun a h0 h1 => (hfT a (Nat.ne_of_lt (Nat.lt_of_lt_of_le h1 g_qq108_))).trans (hTF a h0 h1)
  have hF : ∀ a, FrA T a → a ≠ h → a < sz → Mq114_ a = M a := fun a hA h0 h1 => (hfr a (Nat.ne_of_lt (Nat.lt_of_lt_of_le h1 g_qq108_))).trans (hF a hA h0 h1)
  refine yqst (ck := 3) (cv := 5) (v := qq108_) hC hK hH rfl rfl hc_qq1_ (let ⟨fs, h1, _⟩ := tcell hH t_qq108_ rfl; ⟨fs, h1⟩) (noT hn_qq1_) (iIn (by decide) (by decide)) dX1_init_87 (fun Hq_ lcq_ Mq115_ hc_qq1_ hfr hH => ?_)
  have hc_qq1_ : Mq115_ qq1_ = some (.inl (kA 3, 12, .inr (.inr (.inr (.inr (va_up (va_up (va_up (va_up (va_up (va_up (va_up (va_up (va_up (va_up (fun _ => none) (Int32.toNatClampNeg 0) (some qq27_)) (Int32.toNatClampNeg 1) (some qq36_)) (Int32.toNatClampNeg 2) (some qq45_)) (Int32.toNatClampNeg 3) (some qq54_)) (Int32.toNatClampNeg 4) (some qq63_)) (Int32.toNatClampNeg 5) (some qq72_)) (Int32.toNatClampNeg 6) (some qq81_)) (Int32.toNatClampNeg 7) (some qq90_)) (Int32.toNatClampNeg 8) (some qq99_)) (Int32.toNatClampNeg 9) (some qq108_))))))) := hc_qq1_
  have hc_h : Mq115_ h = some (.inr (0, [.int 0, .int 0, .int 0, .int 0, .int 0, .int 0, .int 0, .int 0, .int 0, .int 0, .int 0, .int 0, .ref qq1_, .ref qq4_, .ref qq9_, .ref qq14_, .ref qq17_, .ref qq20_, .ref qq23_])) := (hfr h n_h_qq1_).trans hc_h
  have hc_qq14_ : Mq115_ qq14_ = some (.inl (kA 0, 14, .inl (fun _ => 0))) := (hfr qq14_ n_qq14__qq1_).trans hc_qq14_
  have hc_qq17_ : Mq115_ qq17_ = some (.inl (kA 0, 14, .inl (fun _ => 0))) := (hfr qq17_ n_qq17__qq1_).trans hc_qq17_
  have hc_qq20_ : Mq115_ qq20_ = some (.inl (kA 0, 14, .inl (fun _ => 0))) := (hfr qq20_ n_qq20__qq1_).trans hc_qq20_
  have hc_qq23_ : Mq115_ qq23_ = some (.inl (kA 0, 14, .inl (fun _ => 0))) := (hfr qq23_ n_qq23__qq1_).trans hc_qq23_
  have hF : ∀ a, FrA T a → a ≠ h → a < sz → Mq115_ a = M a := fun a hA h0 h1 => (hfr a (Nat.ne_of_lt (Nat.lt_of_lt_of_le h1 g_qq1_))).trans (hF a hA h0 h1)
  refine lv_iinc (v := 10) (lv' := [(1, .int 10), (0, .ref h)]) hx hb dX1_init_88 hl (k := 0) rfl (by decide) (by decide) rfl (fun ls hl => ?_)
  refine lv_goto (tgt := 69) hx hb dX1_init_91 (by decide) ?_
  refine lv_iload_n hx hb dX1_init_69 rfl (lv_at hl 0 rfl) ?_
  refine lv_bipush (v := 12) hx hb dX1_init_70 (by decide) ?_
  refine jic_ge (tgt := 94) hx hb dX1_init_72 (by decide) (fun cq116_ => absurd cq116_ (by decide)) (fun cq116_ => ?_)
  refine lv_aload_n hx hb dX1_init_75 rfl (lv_at hl 1 rfl) ?_
  refine xg hC hK hH flX1_11 hc_h rfl dX1_init_76 ?_
  refine lv_iload_n hx hb dX1_init_79 rfl (lv_at hl 0 rfl) ?_
  refine ynew hC hK hH nlX1_9 (Nat.le_of_ble_eq_true rfl) (Nat.le_of_ble_eq_true rfl) dX1_init_80 (fun qq117_ Hq_ Mq118_ e_qq117_ hz nM_qq117_ hn_qq117_ hc_qq117_ hfr hN => ?_)
  have g_qq117_ : sz ≤ qq117_ := by rw [← hsz, e_qq117_]; exact hH.2.1.1
  have n_h_qq117_ : h ≠ qq117_ := neN hc_h nM_qq117_
  have n_qq117__h : qq117_ ≠ h := Ne.symm n_h_qq117_
  have n_qq1__qq117_ : qq1_ ≠ qq117_ := neN hc_qq1_ nM_qq117_
  have n_qq117__qq1_ : qq117_ ≠ qq1_ := Ne.symm n_qq1__qq117_
  have n_qq14__qq117_ : qq14_ ≠ qq117_ := neN hc_qq14_ nM_qq117_
  have n_qq117__qq14_ : qq117_ ≠ qq14_ := Ne.symm n_qq14__qq117_
  have n_qq17__qq117_ : qq17_ ≠ qq117_ := neN hc_qq17_ nM_qq117_
  have n_qq117__qq17_ : qq117_ ≠ qq17_ := Ne.symm n_qq17__qq117_
  have n_qq20__qq117_ : qq20_ ≠ qq117_ := neN hc_qq20_ nM_qq117_
  have n_qq117__qq20_ : qq117_ ≠ qq20_ := Ne.symm n_qq20__qq117_
  have n_qq23__qq117_ : qq23_ ≠ qq117_ := neN hc_qq23_ nM_qq117_
  have n_qq117__qq23_ : qq117_ ≠ qq23_ := Ne.symm n_qq23__qq117_
  have hH := hN
  have hc_qq117_ : Mq118_ qq117_ = some (.inr (5, [.int 0, .int 0, .int 0, .int 0, .int 0, .int 0, .int 0, .int 0, .int 0, .int 0, .int 0])) := hc_qq117_
  have hc_h : Mq118_ h = some (.inr (0, [.int 0, .int 0, .int 0, .int 0, .int 0, .int 0, .int 0, .int 0, .int 0, .int 0, .int 0, .int 0, .ref qq1_, .ref qq4_, .ref qq9_, .ref qq14_, .ref qq17_, .ref qq20_, .ref qq23_])) := (hfr h n_h_qq117_).trans hc_h
  have hc_qq1_ : Mq118_ qq1_ = some (.inl (kA 3, 12, .inr (.inr (.inr (.inr (va_up (va_up (va_up (va_up (va_up (va_up (va_up (va_up (va_up (va_up (fun _ => none) (Int32.toNatClampNeg 0) (some qq27_)) (Int32.toNatClampNeg 1) (some qq36_)) (Int32.toNatClampNeg 2) (some qq45_)) (Int32.toNatClampNeg 3) (some qq54_)) (Int32.toNatClampNeg 4) (some qq63_)) (Int32.toNatClampNeg 5) (some qq72_)) (Int32.toNatClampNeg 6) (some qq81_)) (Int32.toNatClampNeg 7) (some qq90_)) (Int32.toNatClampNeg 8) (some qq99_)) (Int32.toNatClampNeg 9) (some qq108_))))))) := (hfr qq1_ n_qq1__qq117_).trans hc_qq1_
  have hc_qq14_ : Mq118_ qq14_ = some (.inl (kA 0, 14, .inl (fun _ => 0))) := (hfr qq14_ n_qq14__qq117_).trans hc_qq14_
  have hc_qq17_ : Mq118_ qq17_ = some (.inl (kA 0, 14, .inl (fun _ => 0))) := (hfr qq17_ n_qq17__qq117_).trans hc_qq17_
  have hc_qq20_ : Mq118_ qq20_ = some (.inl (kA 0, 14, .inl (fun _ => 0))) := (hfr qq20_ n_qq20__qq117_).trans hc_qq20_
  have hc_qq23_ : Mq118_ qq23_ = some (.inl (kA 0, 14, .inl (fun _ => 0))) := (hfr qq23_ n_qq23__qq117_).trans hc_qq23_
  have hF : ∀ a, FrA T a → a ≠ h → a < sz → Mq118_ a = M a := fun a hA h0 h1 => (hfr a (Nat.ne_of_lt (Nat.lt_of_lt_of_le h1 g_qq117_))).trans (hF a hA h0 h1)
  refine lv_dup hx hb dX1_init_83 rfl ?_
  refine goV hK hH (runIN (As := []) (rest := [.ref qq117_, .int 10, .ref qq1_]) hC hK hH (c_X6_init hc_qq117_ hn_qq117_) mlX1_40 ⟨⟨Nat.le_of_ble_eq_true rfl, Nat.le_of_ble_eq_true rfl⟩, Nat.le_of_ble_eq_true rfl, Nat.le_of_ble_eq_true rfl⟩ rfl hl.1 rfl (Nat.le_of_ble_eq_true rfl) dX1_init_84) (fun Mq119_ Tq120_ Hq_ lcq_ hP hz hH => ?_)
  try dsimp only at hP
  obtain ⟨(-), eT, eM⟩ := hP
  have eT := eT.symm; subst eT
  have eM := eM.symm; subst eM
  obtain ⟨Mq123_, Tq122_, nM_qq117_, hfr, t_qq117_, hfT, hsub, hH⟩ := hH.re2 (τ := 0) hc_qq117_ hn_qq117_ (conf_o rfl ⟨okI (by decide) (by decide), okI (by decide) (by decide), okI (by decide) (by decide), okI (by decide) (by decide), okI (by decide) (by decide), okI (by decide) (by decide), okI (by decide) (by decide), okI (by decide) (by decide), okI (by decide) (by decide), okI (by decide) (by decide), okI (by decide) (by decide), trivial⟩)
  have hc_h : Mq123_ h = some (.inr (0, [.int 0, .int 0, .int 0, .int 0, .int 0, .int 0, .int 0, .int 0, .int 0, .int 0, .int 0, .int 0, .ref qq1_, .ref qq4_, .ref qq9_, .ref qq14_, .ref qq17_, .ref qq20_, .ref qq23_])) := (hfr h n_h_qq117_).trans hc_h
  have hc_qq1_ : Mq123_ qq1_ = some (.inl (kA 3, 12, .inr (.inr (.inr (.inr (va_up (va_up (va_up (va_up (va_up (va_up (va_up (va_up (va_up (va_up (fun _ => none) (Int32.toNatClampNeg 0) (some qq27_)) (Int32.toNatClampNeg 1) (some qq36_)) (Int32.toNatClampNeg 2) (some qq45_)) (Int32.toNatClampNeg 3) (some qq54_)) (Int32.toNatClampNeg 4) (some qq63_)) (Int32.toNatClampNeg 5) (some qq72_)) (Int32.toNatClampNeg 6) (some qq81_)) (Int32.toNatClampNeg 7) (some qq90_)) (Int32.toNatClampNeg 8) (some qq99_)) (Int32.toNatClampNeg 9) (some qq108_))))))) := (hfr qq1_ n_qq1__qq117_).trans hc_qq1_
  have hc_qq14_ : Mq123_ qq14_ = some (.inl (kA 0, 14, .inl (fun _ => 0))) := (hfr qq14_ n_qq14__qq117_).trans hc_qq14_
  have hc_qq17_ : Mq123_ qq17_ = some (.inl (kA 0, 14, .inl (fun _ => 0))) := (hfr qq17_ n_qq17__qq117_).trans hc_qq17_
  have hc_qq20_ : Mq123_ qq20_ = some (.inl (kA 0, 14, .inl (fun _ => 0))) := (hfr qq20_ n_qq20__qq117_).trans hc_qq20_
  have hc_qq23_ : Mq123_ qq23_ = some (.inl (kA 0, 14, .inl (fun _ => 0))) := (hfr qq23_ n_qq23__qq117_).trans hc_qq23_
  have hn_h : Tq122_ h = none := (hfT h n_h_qq117_).trans hn_h
  have hn_qq1_ : Tq122_ qq1_ = none := (hfT qq1_ n_qq1__qq117_).trans hn_qq1_
  have hn_qq14_ : Tq122_ qq14_ = none := (hfT qq14_ n_qq14__qq117_).trans hn_qq14_
  have hn_qq17_ : Tq122_ qq17_ = none := (hfT qq17_ n_qq17__qq117_).trans hn_qq17_
  have hn_qq20_ : Tq122_ qq20_ = none := (hfT qq20_ n_qq20__qq117_).trans hn_qq20_
  have hn_qq23_ : Tq122_ qq23_ = none := (hfT qq23_ n_qq23__qq117_).trans hn_qq23_
  have t_qq4_ : Tq122_ qq4_ = some 1 := hsub _ _ t_qq4_
  have t_qq9_ : Tq122_ qq9_ = some 1 := hsub _ _ t_qq9_
  have t_qq27_ : Tq122_ qq27_ = some 0 := hsub _ _ t_qq27_
  have t_qq36_ : Tq122_ qq36_ = some 0 := hsub _ _ t_qq36_
  have t_qq45_ : Tq122_ qq45_ = some 0 := hsub _ _ t_qq45_
  have t_qq54_ : Tq122_ qq54_ = some 0 := hsub _ _ t_qq54_
  have t_qq63_ : Tq122_ qq63_ = some 0 := hsub _ _ t_qq63_
  have t_qq72_ : Tq122_ qq72_ = some 0 := hsub _ _ t_qq72_
  have t_qq81_ : Tq122_ qq81_ = some 0 := hsub _ _ t_qq81_
  have t_qq90_ : Tq122_ qq90_ = some 0 := hsub _ _ t_qq90_
  have t_qq99_ : Tq122_ qq99_ = some 0 := hsub _ _ t_qq99_
  have t_qq108_ : Tq122_ qq108_ = some 0 := hsub _ _ t_qq108_
  have hTT : ∀ a t, T a = some t → Tq122_ a = some t := fun a t h => hsub _ _ (hTT a t h)
  have hTF : ∀ a, a ≠ h → a < sz → Tq122_ a = T a := fun a h0 h1 => (hfT a (Nat.ne_of_lt (Nat.lt_of_lt_of_le h1 g_qq117_))).trans (hTF a h0 h1)
  have hF : ∀ a, FrA T a → a ≠ h → a < sz → Mq123_ a = M a := fun a hA h0 h1 => (hfr a (Nat.ne_of_lt (Nat.lt_of_lt_of_le h1 g_qq117_))).trans (hF a hA h0 h1)
  refine yqst (ck := 3) (cv := 5) (v := qq117_) hC hK hH rfl rfl hc_qq1_ (let ⟨fs, h1, _⟩ := tcell hH t_qq117_ rfl; ⟨fs, h1⟩) (noT hn_qq1_) (iIn (by decide) (by decide)) dX1_init_87 (fun Hq_ lcq_ Mq124_ hc_qq1_ hfr hH => ?_)
  have hc_qq1_ : Mq124_ qq1_ = some (.inl (kA 3, 12, .inr (.inr (.inr (.inr (va_up (va_up (va_up (va_up (va_up (va_up (va_up (va_up (va_up (va_up (va_up (fun _ => none) (Int32.toNatClampNeg 0) (some qq27_)) (Int32.toNatClampNeg 1) (some qq36_)) (Int32.toNatClampNeg 2) (some qq45_)) (Int32.toNatClampNeg 3) (some qq54_)) (Int32.toNatClampNeg 4) (some qq63_)) (Int32.toNatClampNeg 5) (some qq72_)) (Int32.toNatClampNeg 6) (some qq81_)) (Int32.toNatClampNeg 7) (some qq90_)) (Int32.toNatClampNeg 8) (some qq99_)) (Int32.toNatClampNeg 9) (some qq108_)) (Int32.toNatClampNeg 10) (some qq117_))))))) := hc_qq1_
  have hc_h : Mq124_ h = some (.inr (0, [.int 0, .int 0, .int 0, .int 0, .int 0, .int 0, .int 0, .int 0, .int 0, .int 0, .int 0, .int 0, .ref qq1_, .ref qq4_, .ref qq9_, .ref qq14_, .ref qq17_, .ref qq20_, .ref qq23_])) := (hfr h n_h_qq1_).trans hc_h
  have hc_qq14_ : Mq124_ qq14_ = some (.inl (kA 0, 14, .inl (fun _ => 0))) := (hfr qq14_ n_qq14__qq1_).trans hc_qq14_
  have hc_qq17_ : Mq124_ qq17_ = some (.inl (kA 0, 14, .inl (fun _ => 0))) := (hfr qq17_ n_qq17__qq1_).trans hc_qq17_
  have hc_qq20_ : Mq124_ qq20_ = some (.inl (kA 0, 14, .inl (fun _ => 0))) := (hfr qq20_ n_qq20__qq1_).trans hc_qq20_
  have hc_qq23_ : Mq124_ qq23_ = some (.inl (kA 0, 14, .inl (fun _ => 0))) := (hfr qq23_ n_qq23__qq1_).trans hc_qq23_
  have hF : ∀ a, FrA T a → a ≠ h → a < sz → Mq124_ a = M a := fun a hA h0 h1 => (hfr a (Nat.ne_of_lt (Nat.lt_of_lt_of_le h1 g_qq1_))).trans (hF a hA h0 h1)
  refine lv_iinc (v := 11) (lv' := [(1, .int 11), (0, .ref h)]) hx hb dX1_init_88 hl (k := 0) rfl (by decide) (by decide) rfl (fun ls hl => ?_)
  refine lv_goto (tgt := 69) hx hb dX1_init_91 (by decide) ?_
  refine lv_iload_n hx hb dX1_init_69 rfl (lv_at hl 0 rfl) ?_
  refine lv_bipush (v := 12) hx hb dX1_init_70 (by decide) ?_
  refine jic_ge (tgt := 94) hx hb dX1_init_72 (by decide) (fun cq125_ => absurd cq125_ (by decide)) (fun cq125_ => ?_)
  refine lv_aload_n hx hb dX1_init_75 rfl (lv_at hl 1 rfl) ?_
  refine xg hC hK hH flX1_11 hc_h rfl dX1_init_76 ?_
  refine lv_iload_n hx hb dX1_init_79 rfl (lv_at hl 0 rfl) ?_
  refine ynew hC hK hH nlX1_9 (Nat.le_of_ble_eq_true rfl) (Nat.le_of_ble_eq_true rfl) dX1_init_80 (fun qq126_ Hq_ Mq127_ e_qq126_ hz nM_qq126_ hn_qq126_ hc_qq126_ hfr hN => ?_)
  have g_qq126_ : sz ≤ qq126_ := by rw [← hsz, e_qq126_]; exact hH.2.1.1
  have n_h_qq126_ : h ≠ qq126_ := neN hc_h nM_qq126_
  have n_qq126__h : qq126_ ≠ h := Ne.symm n_h_qq126_
  have n_qq1__qq126_ : qq1_ ≠ qq126_ := neN hc_qq1_ nM_qq126_
  have n_qq126__qq1_ : qq126_ ≠ qq1_ := Ne.symm n_qq1__qq126_
  have n_qq14__qq126_ : qq14_ ≠ qq126_ := neN hc_qq14_ nM_qq126_
  have n_qq126__qq14_ : qq126_ ≠ qq14_ := Ne.symm n_qq14__qq126_
  have n_qq17__qq126_ : qq17_ ≠ qq126_ := neN hc_qq17_ nM_qq126_
  have n_qq126__qq17_ : qq126_ ≠ qq17_ := Ne.symm n_qq17__qq126_
  have n_qq20__qq126_ : qq20_ ≠ qq126_ := neN hc_qq20_ nM_qq126_
  have n_qq126__qq20_ : qq126_ ≠ qq20_ := Ne.symm n_qq20__qq126_
  have n_qq23__qq126_ : qq23_ ≠ qq126_ := neN hc_qq23_ nM_qq126_
  have n_qq126__qq23_ : qq126_ ≠ qq23_ := Ne.symm n_qq23__qq126_
  have hH := hN
  have hc_qq126_ : Mq127_ qq126_ = some (.inr (5, [.int 0, .int 0, .int 0, .int 0, .int 0, .int 0, .int 0, .int 0, .int 0, .int 0, .int 0])) := hc_qq126_
  have hc_h : Mq127_ h = some (.inr (0, [.int 0, .int 0, .int 0, .int 0, .int 0, .int 0, .int 0, .int 0, .int 0, .int 0, .int 0, .int 0, .ref qq1_, .ref qq4_, .ref qq9_, .ref qq14_, .ref qq17_, .ref qq20_, .ref qq23_])) := (hfr h n_h_qq126_).trans hc_h
  have hc_qq1_ : Mq127_ qq1_ = some (.inl (kA 3, 12, .inr (.inr (.inr (.inr (va_up (va_up (va_up (va_up (va_up (va_up (va_up (va_up (va_up (va_up (va_up (fun _ => none) (Int32.toNatClampNeg 0) (some qq27_)) (Int32.toNatClampNeg 1) (some qq36_)) (Int32.toNatClampNeg 2) (some qq45_)) (Int32.toNatClampNeg 3) (some qq54_)) (Int32.toNatClampNeg 4) (some qq63_)) (Int32.toNatClampNeg 5) (some qq72_)) (Int32.toNatClampNeg 6) (some qq81_)) (Int32.toNatClampNeg 7) (some qq90_)) (Int32.toNatClampNeg 8) (some qq99_)) (Int32.toNatClampNeg 9) (some qq108_)) (Int32.toNatClampNeg 10) (some qq117_))))))) := (hfr qq1_ n_qq1__qq126_).trans hc_qq1_
  have hc_qq14_ : Mq127_ qq14_ = some (.inl (kA 0, 14, .inl (fun _ => 0))) := (hfr qq14_ n_qq14__qq126_).trans hc_qq14_
  have hc_qq17_ : Mq127_ qq17_ = some (.inl (kA 0, 14, .inl (fun _ => 0))) := (hfr qq17_ n_qq17__qq126_).trans hc_qq17_
  have hc_qq20_ : Mq127_ qq20_ = some (.inl (kA 0, 14, .inl (fun _ => 0))) := (hfr qq20_ n_qq20__qq126_).trans hc_qq20_
  have hc_qq23_ : Mq127_ qq23_ = some (.inl (kA 0, 14, .inl (fun _ => 0))) := (hfr qq23_ n_qq23__qq126_).trans hc_qq23_
  have hF : ∀ a, FrA T a → a ≠ h → a < sz → Mq127_ a = M a := fun a hA h0 h1 => (hfr a (Nat.ne_of_lt (Nat.lt_of_lt_of_le h1 g_qq126_))).trans (hF a hA h0 h1)
  refine lv_dup hx hb dX1_init_83 rfl ?_
  refine goV hK hH (runIN (As := []) (rest := [.ref qq126_, .int 11, .ref qq1_]) hC hK hH (c_X6_init hc_qq126_ hn_qq126_) mlX1_40 ⟨⟨Nat.le_of_ble_eq_true rfl, Nat.le_of_ble_eq_true rfl⟩, Nat.le_of_ble_eq_true rfl, Nat.le_of_ble_eq_true rfl⟩ rfl hl.1 rfl (Nat.le_of_ble_eq_true rfl) dX1_init_84) (fun Mq128_ Tq129_ Hq_ lcq_ hP hz hH => ?_)
  try dsimp only at hP
  obtain ⟨(-), eT, eM⟩ := hP
  have eT := eT.symm; subst eT
  have eM := eM.symm; subst eM
  obtain ⟨Mq132_, Tq131_, nM_qq126_, hfr, t_qq126_, hfT, hsub, hH⟩ := hH.re2 (τ := 0) hc_qq126_ hn_qq126_ (conf_o rfl ⟨okI (by decide) (by decide), okI (by decide) (by decide), okI (by decide) (by decide), okI (by decide) (by decide), okI (by decide) (by decide), okI (by decide) (by decide), okI (by decide) (by decide), okI (by decide) (by decide), okI (by decide) (by decide), okI (by decide) (by decide), okI (by decide) (by decide), trivial⟩)
  have hc_h : Mq132_ h = some (.inr (0, [.int 0, .int 0, .int 0, .int 0, .int 0, .int 0, .int 0, .int 0, .int 0, .int 0, .int 0, .int 0, .ref qq1_, .ref qq4_, .ref qq9_, .ref qq14_, .ref qq17_, .ref qq20_, .ref qq23_])) := (hfr h n_h_qq126_).trans hc_h
  have hc_qq1_ : Mq132_ qq1_ = some (.inl (kA 3, 12, .inr (.inr (.inr (.inr (va_up (va_up (va_up (va_up (va_up (va_up (va_up (va_up (va_up (va_up (va_up (fun _ => none) (Int32.toNatClampNeg 0) (some qq27_)) (Int32.toNatClampNeg 1) (some qq36_)) (Int32.toNatClampNeg 2) (some qq45_)) (Int32.toNatClampNeg 3) (some qq54_)) (Int32.toNatClampNeg 4) (some qq63_)) (Int32.toNatClampNeg 5) (some qq72_)) (Int32.toNatClampNeg 6) (some qq81_)) (Int32.toNatClampNeg 7) (some qq90_)) (Int32.toNatClampNeg 8) (some qq99_)) (Int32.toNatClampNeg 9) (some qq108_)) (Int32.toNatClampNeg 10) (some qq117_))))))) := (hfr qq1_ n_qq1__qq126_).trans hc_qq1_
  have hc_qq14_ : Mq132_ qq14_ = some (.inl (kA 0, 14, .inl (fun _ => 0))) := (hfr qq14_ n_qq14__qq126_).trans hc_qq14_
  have hc_qq17_ : Mq132_ qq17_ = some (.inl (kA 0, 14, .inl (fun _ => 0))) := (hfr qq17_ n_qq17__qq126_).trans hc_qq17_
  have hc_qq20_ : Mq132_ qq20_ = some (.inl (kA 0, 14, .inl (fun _ => 0))) := (hfr qq20_ n_qq20__qq126_).trans hc_qq20_
  have hc_qq23_ : Mq132_ qq23_ = some (.inl (kA 0, 14, .inl (fun _ => 0))) := (hfr qq23_ n_qq23__qq126_).trans hc_qq23_
  have hn_h : Tq131_ h = none := (hfT h n_h_qq126_).trans hn_h
  have hn_qq1_ : Tq131_ qq1_ = none := (hfT qq1_ n_qq1__qq126_).trans hn_qq1_
  have hn_qq14_ : Tq131_ qq14_ = none := (hfT qq14_ n_qq14__qq126_).trans hn_qq14_
  have hn_qq17_ : Tq131_ qq17_ = none := (hfT qq17_ n_qq17__qq126_).trans hn_qq17_
  have hn_qq20_ : Tq131_ qq20_ = none := (hfT qq20_ n_qq20__qq126_).trans hn_qq20_
  have hn_qq23_ : Tq131_ qq23_ = none := (hfT qq23_ n_qq23__qq126_).trans hn_qq23_
  have t_qq4_ : Tq131_ qq4_ = some 1 := hsub _ _ t_qq4_
  have t_qq9_ : Tq131_ qq9_ = some 1 := hsub _ _ t_qq9_
  have t_qq27_ : Tq131_ qq27_ = some 0 := hsub _ _ t_qq27_
  have t_qq36_ : Tq131_ qq36_ = some 0 := hsub _ _ t_qq36_
  have t_qq45_ : Tq131_ qq45_ = some 0 := hsub _ _ t_qq45_
  have t_qq54_ : Tq131_ qq54_ = some 0 := hsub _ _ t_qq54_
  have t_qq63_ : Tq131_ qq63_ = some 0 := hsub _ _ t_qq63_
  have t_qq72_ : Tq131_ qq72_ = some 0 := hsub _ _ t_qq72_
  have t_qq81_ : Tq131_ qq81_ = some 0 := hsub _ _ t_qq81_
  have t_qq90_ : Tq131_ qq90_ = some 0 := hsub _ _ t_qq90_
  have t_qq99_ : Tq131_ qq99_ = some 0 := hsub _ _ t_qq99_
  have t_qq108_ : Tq131_ qq108_ = some 0 := hsub _ _ t_qq108_
  have t_qq117_ : Tq131_ qq117_ = some 0 := hsub _ _ t_qq117_
  have hTT : ∀ a t, T a = some t → Tq131_ a = some t := fun a t h => hsub _ _ (hTT a t h)
  have hTF : ∀ a, a ≠ h → a < sz → Tq131_ a = T a := fun a h0 h1 => (hfT a (Nat.ne_of_lt (Nat.lt_of_lt_of_le h1 g_qq126_))).trans (hTF a h0 h1)
  have hF : ∀ a, FrA T a → a ≠ h → a < sz → Mq132_ a = M a := fun a hA h0 h1 => (hfr a (Nat.ne_of_lt (Nat.lt_of_lt_of_le h1 g_qq126_))).trans (hF a hA h0 h1)
  refine yqst (ck := 3) (cv := 5) (v := qq126_) hC hK hH rfl rfl hc_qq1_ (let ⟨fs, h1, _⟩ := tcell hH t_qq126_ rfl; ⟨fs, h1⟩) (noT hn_qq1_) (iIn (by decide) (by decide)) dX1_init_87 (fun Hq_ lcq_ Mq133_ hc_qq1_ hfr hH => ?_)
  have hc_qq1_ : Mq133_ qq1_ = some (.inl (kA 3, 12, .inr (.inr (.inr (.inr (va_up (va_up (va_up (va_up (va_up (va_up (va_up (va_up (va_up (va_up (va_up (va_up (fun _ => none) (Int32.toNatClampNeg 0) (some qq27_)) (Int32.toNatClampNeg 1) (some qq36_)) (Int32.toNatClampNeg 2) (some qq45_)) (Int32.toNatClampNeg 3) (some qq54_)) (Int32.toNatClampNeg 4) (some qq63_)) (Int32.toNatClampNeg 5) (some qq72_)) (Int32.toNatClampNeg 6) (some qq81_)) (Int32.toNatClampNeg 7) (some qq90_)) (Int32.toNatClampNeg 8) (some qq99_)) (Int32.toNatClampNeg 9) (some qq108_)) (Int32.toNatClampNeg 10) (some qq117_)) (Int32.toNatClampNeg 11) (some qq126_))))))) := hc_qq1_
  have hc_h : Mq133_ h = some (.inr (0, [.int 0, .int 0, .int 0, .int 0, .int 0, .int 0, .int 0, .int 0, .int 0, .int 0, .int 0, .int 0, .ref qq1_, .ref qq4_, .ref qq9_, .ref qq14_, .ref qq17_, .ref qq20_, .ref qq23_])) := (hfr h n_h_qq1_).trans hc_h
  have hc_qq14_ : Mq133_ qq14_ = some (.inl (kA 0, 14, .inl (fun _ => 0))) := (hfr qq14_ n_qq14__qq1_).trans hc_qq14_
  have hc_qq17_ : Mq133_ qq17_ = some (.inl (kA 0, 14, .inl (fun _ => 0))) := (hfr qq17_ n_qq17__qq1_).trans hc_qq17_
  have hc_qq20_ : Mq133_ qq20_ = some (.inl (kA 0, 14, .inl (fun _ => 0))) := (hfr qq20_ n_qq20__qq1_).trans hc_qq20_
  have hc_qq23_ : Mq133_ qq23_ = some (.inl (kA 0, 14, .inl (fun _ => 0))) := (hfr qq23_ n_qq23__qq1_).trans hc_qq23_
  have hF : ∀ a, FrA T a → a ≠ h → a < sz → Mq133_ a = M a := fun a hA h0 h1 => (hfr a (Nat.ne_of_lt (Nat.lt_of_lt_of_le h1 g_qq1_))).trans (hF a hA h0 h1)
  refine lv_iinc (v := 12) (lv' := [(1, .int 12), (0, .ref h)]) hx hb dX1_init_88 hl (k := 0) rfl (by decide) (by decide) rfl (fun ls hl => ?_)
  refine lv_goto (tgt := 69) hx hb dX1_init_91 (by decide) ?_
  refine lv_iload_n hx hb dX1_init_69 rfl (lv_at hl 0 rfl) ?_
  refine lv_bipush (v := 12) hx hb dX1_init_70 (by decide) ?_
  refine jic_ge (tgt := 94) hx hb dX1_init_72 (by decide) (fun cq134_ => ?_) (fun cq134_ => absurd cq134_ (by decide))
  have hq : ∀ j, j < 12 → ∃ q, (va_up (va_up (va_up (va_up (va_up (va_up (va_up (va_up (va_up (va_up (va_up (va_up (fun _ => none) (Int32.toNatClampNeg 0) (some qq27_)) (Int32.toNatClampNeg 1) (some qq36_)) (Int32.toNatClampNeg 2) (some qq45_)) (Int32.toNatClampNeg 3) (some qq54_)) (Int32.toNatClampNeg 4) (some qq63_)) (Int32.toNatClampNeg 5) (some qq72_)) (Int32.toNatClampNeg 6) (some qq81_)) (Int32.toNatClampNeg 7) (some qq90_)) (Int32.toNatClampNeg 8) (some qq99_)) (Int32.toNatClampNeg 9) (some qq108_)) (Int32.toNatClampNeg 10) (some qq117_)) (Int32.toNatClampNeg 11) (some qq126_)) j = some q ∧ Tq131_ q = some 0 := by
    intro j hj
    rcases (show j = 0 ∨ j = 1 ∨ j = 2 ∨ j = 3 ∨ j = 4 ∨ j = 5 ∨ j = 6 ∨ j = 7 ∨ j = 8 ∨ j = 9 ∨ j = 10 ∨ j = 11 by omega) with rfl | rfl | rfl | rfl | rfl | rfl | rfl | rfl | rfl | rfl | rfl | rfl
    · exact ⟨qq27_, rfl, t_qq27_⟩
    · exact ⟨qq36_, rfl, t_qq36_⟩
    · exact ⟨qq45_, rfl, t_qq45_⟩
    · exact ⟨qq54_, rfl, t_qq54_⟩
    · exact ⟨qq63_, rfl, t_qq63_⟩
    · exact ⟨qq72_, rfl, t_qq72_⟩
    · exact ⟨qq81_, rfl, t_qq81_⟩
    · exact ⟨qq90_, rfl, t_qq90_⟩
    · exact ⟨qq99_, rfl, t_qq99_⟩
    · exact ⟨qq108_, rfl, t_qq108_⟩
    · exact ⟨qq117_, rfl, t_qq117_⟩
    · exact ⟨qq126_, rfl, t_qq126_⟩
  obtain ⟨Mq136_, Tq135_, nM_qq1_, hfr, t_qq1_, hfT, hsub, hH⟩ := hH.re2 (τ := 4) hc_qq1_ hn_qq1_ (conf_q rfl (fun j hj => let ⟨q, h1, h2⟩ := hq j hj; ⟨q, h1, tUp hn_qq1_ h2⟩))
  have hc_h : Mq136_ h = some (.inr (0, [.int 0, .int 0, .int 0, .int 0, .int 0, .int 0, .int 0, .int 0, .int 0, .int 0, .int 0, .int 0, .ref qq1_, .ref qq4_, .ref qq9_, .ref qq14_, .ref qq17_, .ref qq20_, .ref qq23_])) := (hfr h n_h_qq1_).trans hc_h
  have hc_qq14_ : Mq136_ qq14_ = some (.inl (kA 0, 14, .inl (fun _ => 0))) := (hfr qq14_ n_qq14__qq1_).trans hc_qq14_
  have hc_qq17_ : Mq136_ qq17_ = some (.inl (kA 0, 14, .inl (fun _ => 0))) := (hfr qq17_ n_qq17__qq1_).trans hc_qq17_
  have hc_qq20_ : Mq136_ qq20_ = some (.inl (kA 0, 14, .inl (fun _ => 0))) := (hfr qq20_ n_qq20__qq1_).trans hc_qq20_
  have hc_qq23_ : Mq136_ qq23_ = some (.inl (kA 0, 14, .inl (fun _ => 0))) := (hfr qq23_ n_qq23__qq1_).trans hc_qq23_
  have hn_h : Tq135_ h = none := (hfT h n_h_qq1_).trans hn_h
  have hn_qq14_ : Tq135_ qq14_ = none := (hfT qq14_ n_qq14__qq1_).trans hn_qq14_
  have hn_qq17_ : Tq135_ qq17_ = none := (hfT qq17_ n_qq17__qq1_).trans hn_qq17_
  have hn_qq20_ : Tq135_ qq20_ = none := (hfT qq20_ n_qq20__qq1_).trans hn_qq20_
  have hn_qq23_ : Tq135_ qq23_ = none := (hfT qq23_ n_qq23__qq1_).trans hn_qq23_
  have t_qq4_ : Tq135_ qq4_ = some 1 := hsub _ _ t_qq4_
  have t_qq9_ : Tq135_ qq9_ = some 1 := hsub _ _ t_qq9_
  have t_qq27_ : Tq135_ qq27_ = some 0 := hsub _ _ t_qq27_
  have t_qq36_ : Tq135_ qq36_ = some 0 := hsub _ _ t_qq36_
  have t_qq45_ : Tq135_ qq45_ = some 0 := hsub _ _ t_qq45_
  have t_qq54_ : Tq135_ qq54_ = some 0 := hsub _ _ t_qq54_
  have t_qq63_ : Tq135_ qq63_ = some 0 := hsub _ _ t_qq63_
  have t_qq72_ : Tq135_ qq72_ = some 0 := hsub _ _ t_qq72_
  have t_qq81_ : Tq135_ qq81_ = some 0 := hsub _ _ t_qq81_
  have t_qq90_ : Tq135_ qq90_ = some 0 := hsub _ _ t_qq90_
  have t_qq99_ : Tq135_ qq99_ = some 0 := hsub _ _ t_qq99_
  have t_qq108_ : Tq135_ qq108_ = some 0 := hsub _ _ t_qq108_
  have t_qq117_ : Tq135_ qq117_ = some 0 := hsub _ _ t_qq117_
  have t_qq126_ : Tq135_ qq126_ = some 0 := hsub _ _ t_qq126_
  have hTT : ∀ a t, T a = some t → Tq135_ a = some t := fun a t h => hsub _ _ (hTT a t h)
  have hTF : ∀ a, a ≠ h → a < sz → Tq135_ a = T a := fun a h0 h1 => (hfT a (Nat.ne_of_lt (Nat.lt_of_lt_of_le h1 g_qq1_))).trans (hTF a h0 h1)
  have hF : ∀ a, FrA T a → a ≠ h → a < sz → Mq136_ a = M a := fun a hA h0 h1 => (hfr a (Nat.ne_of_lt (Nat.lt_of_lt_of_le h1 g_qq1_))).trans (hF a hA h0 h1)
  obtain ⟨Mq138_, Tq137_, nM_qq14_, hfr, t_qq14_, hfT, hsub, hH⟩ := hH.re2 (τ := 5) hc_qq14_ hn_qq14_ (conf_i rfl (fun _ _ => iRg _))
  have hc_h : Mq138_ h = some (.inr (0, [.int 0, .int 0, .int 0, .int 0, .int 0, .int 0, .int 0, .int 0, .int 0, .int 0, .int 0, .int 0, .ref qq1_, .ref qq4_, .ref qq9_, .ref qq14_, .ref qq17_, .ref qq20_, .ref qq23_])) := (hfr h n_h_qq14_).trans hc_h
  have hc_qq17_ : Mq138_ qq17_ = some (.inl (kA 0, 14, .inl (fun _ => 0))) := (hfr qq17_ n_qq17__qq14_).trans hc_qq17_
  have hc_qq20_ : Mq138_ qq20_ = some (.inl (kA 0, 14, .inl (fun _ => 0))) := (hfr qq20_ n_qq20__qq14_).trans hc_qq20_
  have hc_qq23_ : Mq138_ qq23_ = some (.inl (kA 0, 14, .inl (fun _ => 0))) := (hfr qq23_ n_qq23__qq14_).trans hc_qq23_
  have hn_h : Tq137_ h = none := (hfT h n_h_qq14_).trans hn_h
  have hn_qq17_ : Tq137_ qq17_ = none := (hfT qq17_ n_qq17__qq14_).trans hn_qq17_
  have hn_qq20_ : Tq137_ qq20_ = none := (hfT qq20_ n_qq20__qq14_).trans hn_qq20_
  have hn_qq23_ : Tq137_ qq23_ = none := (hfT qq23_ n_qq23__qq14_).trans hn_qq23_
  have t_qq4_ : Tq137_ qq4_ = some 1 := hsub _ _ t_qq4_
  have t_qq9_ : Tq137_ qq9_ = some 1 := hsub _ _ t_qq9_
  have t_qq27_ : Tq137_ qq27_ = some 0 := hsub _ _ t_qq27_
  have t_qq36_ : Tq137_ qq36_ = some 0 := hsub _ _ t_qq36_
  have t_qq45_ : Tq137_ qq45_ = some 0 := hsub _ _ t_qq45_
  have t_qq54_ : Tq137_ qq54_ = some 0 := hsub _ _ t_qq54_
  have t_qq63_ : Tq137_ qq63_ = some 0 := hsub _ _ t_qq63_
  have t_qq72_ : Tq137_ qq72_ = some 0 := hsub _ _ t_qq72_
  have t_qq81_ : Tq137_ qq81_ = some 0 := hsub _ _ t_qq81_
  have t_qq90_ : Tq137_ qq90_ = some 0 := hsub _ _ t_qq90_
  have t_qq99_ : Tq137_ qq99_ = some 0 := hsub _ _ t_qq99_
  have t_qq108_ : Tq137_ qq108_ = some 0 := hsub _ _ t_qq108_
  have t_qq117_ : Tq137_ qq117_ = some 0 := hsub _ _ t_qq117_
  have t_qq126_ : Tq137_ qq126_ = some 0 := hsub _ _ t_qq126_
  have t_qq1_ : Tq137_ qq1_ = some 4 := hsub _ _ t_qq1_
  have hTT : ∀ a t, T a = some t → Tq137_ a = some t := fun a t h => hsub _ _ (hTT a t h)
  have hTF : ∀ a, a ≠ h → a < sz → Tq137_ a = T a := fun a h0 h1 => (hfT a (Nat.ne_of_lt (Nat.lt_of_lt_of_le h1 g_qq14_))).trans (hTF a h0 h1)
  have hF : ∀ a, FrA T a → a ≠ h → a < sz → Mq138_ a = M a := fun a hA h0 h1 => (hfr a (Nat.ne_of_lt (Nat.lt_of_lt_of_le h1 g_qq14_))).trans (hF a hA h0 h1)
  obtain ⟨Mq140_, Tq139_, nM_qq17_, hfr, t_qq17_, hfT, hsub, hH⟩ := hH.re2 (τ := 5) hc_qq17_ hn_qq17_ (conf_i rfl (fun _ _ => iRg _))
  have hc_h : Mq140_ h = some (.inr (0, [.int 0, .int 0, .int 0, .int 0, .int 0, .int 0, .int 0, .int 0, .int 0, .int 0, .int 0, .int 0, .ref qq1_, .ref qq4_, .ref qq9_, .ref qq14_, .ref qq17_, .ref qq20_, .ref qq23_])) := (hfr h n_h_qq17_).trans hc_h
  have hc_qq20_ : Mq140_ qq20_ = some (.inl (kA 0, 14, .inl (fun _ => 0))) := (hfr qq20_ n_qq20__qq17_).trans hc_qq20_
  have hc_qq23_ : Mq140_ qq23_ = some (.inl (kA 0, 14, .inl (fun _ => 0))) := (hfr qq23_ n_qq23__qq17_).trans hc_qq23_
  have hn_h : Tq139_ h = none := (hfT h n_h_qq17_).trans hn_h
  have hn_qq20_ : Tq139_ qq20_ = none := (hfT qq20_ n_qq20__qq17_).trans hn_qq20_
  have hn_qq23_ : Tq139_ qq23_ = none := (hfT qq23_ n_qq23__qq17_).trans hn_qq23_
  have t_qq4_ : Tq139_ qq4_ = some 1 := hsub _ _ t_qq4_
  have t_qq9_ : Tq139_ qq9_ = some 1 := hsub _ _ t_qq9_
  have t_qq27_ : Tq139_ qq27_ = some 0 := hsub _ _ t_qq27_
  have t_qq36_ : Tq139_ qq36_ = some 0 := hsub _ _ t_qq36_
  have t_qq45_ : Tq139_ qq45_ = some 0 := hsub _ _ t_qq45_
  have t_qq54_ : Tq139_ qq54_ = some 0 := hsub _ _ t_qq54_
  have t_qq63_ : Tq139_ qq63_ = some 0 := hsub _ _ t_qq63_
  have t_qq72_ : Tq139_ qq72_ = some 0 := hsub _ _ t_qq72_
  have t_qq81_ : Tq139_ qq81_ = some 0 := hsub _ _ t_qq81_
  have t_qq90_ : Tq139_ qq90_ = some 0 := hsub _ _ t_qq90_
  have t_qq99_ : Tq139_ qq99_ = some 0 := hsub _ _ t_qq99_
  have t_qq108_ : Tq139_ qq108_ = some 0 := hsub _ _ t_qq108_
  have t_qq117_ : Tq139_ qq117_ = some 0 := hsub _ _ t_qq117_
  have t_qq126_ : Tq139_ qq126_ = some 0 := hsub _ _ t_qq126_
  have t_qq1_ : Tq139_ qq1_ = some 4 := hsub _ _ t_qq1_
  have t_qq14_ : Tq139_ qq14_ = some 5 := hsub _ _ t_qq14_
  have hTT : ∀ a t, T a = some t → Tq139_ a = some t := fun a t h => hsub _ _ (hTT a t h)
  have hTF : ∀ a, a ≠ h → a < sz → Tq139_ a = T a := fun a h0 h1 => (hfT a (Nat.ne_of_lt (Nat.lt_of_lt_of_le h1 g_qq17_))).trans (hTF a h0 h1)
  have hF : ∀ a, FrA T a → a ≠ h → a < sz → Mq140_ a = M a := fun a hA h0 h1 => (hfr a (Nat.ne_of_lt (Nat.lt_of_lt_of_le h1 g_qq17_))).trans (hF a hA h0 h1)
  obtain ⟨Mq142_, Tq141_, nM_qq20_, hfr, t_qq20_, hfT, hsub, hH⟩ := hH.re2 (τ := 5) hc_qq20_ hn_qq20_ (conf_i rfl (fun _ _ => iRg _))
  have hc_h : Mq142_ h = some (.inr (0, [.int 0, .int 0, .int 0, .int 0, .int 0, .int 0, .int 0, .int 0, .int 0, .int 0, .int 0, .int 0, .ref qq1_, .ref qq4_, .ref qq9_, .ref qq14_, .ref qq17_, .ref qq20_, .ref qq23_])) := (hfr h n_h_qq20_).trans hc_h
  have hc_qq23_ : Mq142_ qq23_ = some (.inl (kA 0, 14, .inl (fun _ => 0))) := (hfr qq23_ n_qq23__qq20_).trans hc_qq23_
  have hn_h : Tq141_ h = none := (hfT h n_h_qq20_).trans hn_h
  have hn_qq23_ : Tq141_ qq23_ = none := (hfT qq23_ n_qq23__qq20_).trans hn_qq23_
  have t_qq4_ : Tq141_ qq4_ = some 1 := hsub _ _ t_qq4_
  have t_qq9_ : Tq141_ qq9_ = some 1 := hsub _ _ t_qq9_
  have t_qq27_ : Tq141_ qq27_ = some 0 := hsub _ _ t_qq27_
  have t_qq36_ : Tq141_ qq36_ = some 0 := hsub _ _ t_qq36_
  have t_qq45_ : Tq141_ qq45_ = some 0 := hsub _ _ t_qq45_
  have t_qq54_ : Tq141_ qq54_ = some 0 := hsub _ _ t_qq54_
  have t_qq63_ : Tq141_ qq63_ = some 0 := hsub _ _ t_qq63_
  have t_qq72_ : Tq141_ qq72_ = some 0 := hsub _ _ t_qq72_
  have t_qq81_ : Tq141_ qq81_ = some 0 := hsub _ _ t_qq81_
  have t_qq90_ : Tq141_ qq90_ = some 0 := hsub _ _ t_qq90_
  have t_qq99_ : Tq141_ qq99_ = some 0 := hsub _ _ t_qq99_
  have t_qq108_ : Tq141_ qq108_ = some 0 := hsub _ _ t_qq108_
  have t_qq117_ : Tq141_ qq117_ = some 0 := hsub _ _ t_qq117_
  have t_qq126_ : Tq141_ qq126_ = some 0 := hsub _ _ t_qq126_
  have t_qq1_ : Tq141_ qq1_ = some 4 := hsub _ _ t_qq1_
  have t_qq14_ : Tq141_ qq14_ = some 5 := hsub _ _ t_qq14_
  have t_qq17_ : Tq141_ qq17_ = some 5 := hsub _ _ t_qq17_
  have hTT : ∀ a t, T a = some t → Tq141_ a = some t := fun a t h => hsub _ _ (hTT a t h)
  have hTF : ∀ a, a ≠ h → a < sz → Tq141_ a = T a := fun a h0 h1 => (hfT a (Nat.ne_of_lt (Nat.lt_of_lt_of_le h1 g_qq20_))).trans (hTF a h0 h1)
  have hF : ∀ a, FrA T a → a ≠ h → a < sz → Mq142_ a = M a := fun a hA h0 h1 => (hfr a (Nat.ne_of_lt (Nat.lt_of_lt_of_le h1 g_qq20_))).trans (hF a hA h0 h1)
  obtain ⟨Mq144_, Tq143_, nM_qq23_, hfr, t_qq23_, hfT, hsub, hH⟩ := hH.re2 (τ := 5) hc_qq23_ hn_qq23_ (conf_i rfl (fun _ _ => iRg _))
  have hc_h : Mq144_ h = some (.inr (0, [.int 0, .int 0, .int 0, .int 0, .int 0, .int 0, .int 0, .int 0, .int 0, .int 0, .int 0, .int 0, .ref qq1_, .ref qq4_, .ref qq9_, .ref qq14_, .ref qq17_, .ref qq20_, .ref qq23_])) := (hfr h n_h_qq23_).trans hc_h
  have hn_h : Tq143_ h = none := (hfT h n_h_qq23_).trans hn_h
  have t_qq4_ : Tq143_ qq4_ = some 1 := hsub _ _ t_qq4_
  have t_qq9_ : Tq143_ qq9_ = some 1 := hsub _ _ t_qq9_
  have t_qq27_ : Tq143_ qq27_ = some 0 := hsub _ _ t_qq27_
  have t_qq36_ : Tq143_ qq36_ = some 0 := hsub _ _ t_qq36_
  have t_qq45_ : Tq143_ qq45_ = some 0 := hsub _ _ t_qq45_
  have t_qq54_ : Tq143_ qq54_ = some 0 := hsub _ _ t_qq54_
  have t_qq63_ : Tq143_ qq63_ = some 0 := hsub _ _ t_qq63_
  have t_qq72_ : Tq143_ qq72_ = some 0 := hsub _ _ t_qq72_
  have t_qq81_ : Tq143_ qq81_ = some 0 := hsub _ _ t_qq81_
  have t_qq90_ : Tq143_ qq90_ = some 0 := hsub _ _ t_qq90_
  have t_qq99_ : Tq143_ qq99_ = some 0 := hsub _ _ t_qq99_
  have t_qq108_ : Tq143_ qq108_ = some 0 := hsub _ _ t_qq108_
  have t_qq117_ : Tq143_ qq117_ = some 0 := hsub _ _ t_qq117_
  have t_qq126_ : Tq143_ qq126_ = some 0 := hsub _ _ t_qq126_
  have t_qq1_ : Tq143_ qq1_ = some 4 := hsub _ _ t_qq1_
  have t_qq14_ : Tq143_ qq14_ = some 5 := hsub _ _ t_qq14_
  have t_qq17_ : Tq143_ qq17_ = some 5 := hsub _ _ t_qq17_
  have t_qq20_ : Tq143_ qq20_ = some 5 := hsub _ _ t_qq20_
  have hTT : ∀ a t, T a = some t → Tq143_ a = some t := fun a t h => hsub _ _ (hTT a t h)
  have hTF : ∀ a, a ≠ h → a < sz → Tq143_ a = T a := fun a h0 h1 => (hfT a (Nat.ne_of_lt (Nat.lt_of_lt_of_le h1 g_qq23_))).trans (hTF a h0 h1)
  have hF : ∀ a, FrA T a → a ≠ h → a < sz → Mq144_ a = M a := fun a hA h0 h1 => (hfr a (Nat.ne_of_lt (Nat.lt_of_lt_of_le h1 g_qq23_))).trans (hF a hA h0 h1)
  obtain ⟨Mq146_, Tq145_, nM_h, hfr, t_h, hfT, hsub, hH⟩ := hH.re2 (τ := 2) hc_h hn_h (conf_o rfl ⟨okI (by decide) (by decide), okI (by decide) (by decide), okI (by decide) (by decide), okI (by decide) (by decide), okI (by decide) (by decide), okI (by decide) (by decide), okI (by decide) (by decide), okI (by decide) (by decide), okI (by decide) (by decide), okI (by decide) (by decide), okI (by decide) (by decide), okI (by decide) (by decide), okR (tUp hn_h t_qq1_), okR (tUp hn_h t_qq4_), okR (tUp hn_h t_qq9_), okR (tUp hn_h t_qq14_), okR (tUp hn_h t_qq17_), okR (tUp hn_h t_qq20_), okR (tUp hn_h t_qq23_), trivial⟩)
  have t_qq4_ : Tq145_ qq4_ = some 1 := hsub _ _ t_qq4_
  have t_qq9_ : Tq145_ qq9_ = some 1 := hsub _ _ t_qq9_
  have t_qq27_ : Tq145_ qq27_ = some 0 := hsub _ _ t_qq27_
  have t_qq36_ : Tq145_ qq36_ = some 0 := hsub _ _ t_qq36_
  have t_qq45_ : Tq145_ qq45_ = some 0 := hsub _ _ t_qq45_
  have t_qq54_ : Tq145_ qq54_ = some 0 := hsub _ _ t_qq54_
  have t_qq63_ : Tq145_ qq63_ = some 0 := hsub _ _ t_qq63_
  have t_qq72_ : Tq145_ qq72_ = some 0 := hsub _ _ t_qq72_
  have t_qq81_ : Tq145_ qq81_ = some 0 := hsub _ _ t_qq81_
  have t_qq90_ : Tq145_ qq90_ = some 0 := hsub _ _ t_qq90_
  have t_qq99_ : Tq145_ qq99_ = some 0 := hsub _ _ t_qq99_
  have t_qq108_ : Tq145_ qq108_ = some 0 := hsub _ _ t_qq108_
  have t_qq117_ : Tq145_ qq117_ = some 0 := hsub _ _ t_qq117_
  have t_qq126_ : Tq145_ qq126_ = some 0 := hsub _ _ t_qq126_
  have t_qq1_ : Tq145_ qq1_ = some 4 := hsub _ _ t_qq1_
  have t_qq14_ : Tq145_ qq14_ = some 5 := hsub _ _ t_qq14_
  have t_qq17_ : Tq145_ qq17_ = some 5 := hsub _ _ t_qq17_
  have t_qq20_ : Tq145_ qq20_ = some 5 := hsub _ _ t_qq20_
  have t_qq23_ : Tq145_ qq23_ = some 5 := hsub _ _ t_qq23_
  have hTT : ∀ a t, T a = some t → Tq145_ a = some t := fun a t h => hsub _ _ (hTT a t h)
  have hTF : ∀ a, a ≠ h → a < sz → Tq145_ a = T a := fun a h0 h1 => (hfT a h0).trans (hTF a h0 h1)
  have hF : ∀ a, FrA T a → a ≠ h → a < sz → Mq146_ a = M a := fun a hA h0 h1 => (hfr a h0).trans (hF a hA h0 h1)
  exact ret_v hC hr hlk hK hH (⟨nM_h, t_h, hTT, hTF, hF⟩) (Nat.le_of_ble_eq_true rfl) (Nat.le_of_ble_eq_true rfl) dX1_init_94
