set_option maxHeartbeats 4000000 in
set_option maxRecDepth 100000 in
theorem c_X8_init {l : Launch} {D : va_G} {kA : Nat → ClassId} {M : mM} {T : mT} {sz h : Nat} (hc_h : M h = some (.inr (6, [.int 0, .int 0, .int 0, .int 0, .int 0, .int 0, .int 0, .int 0, .null, .null, .null]))) (hn_h : T h = none) (hlt : h < sz) : mCv l yX8_init cX8_init 2 3 91 1616 D kA M T sz [.ref h] (fun u => ∃ cs bs tp Fg, u.1 h = some (.inr (6, [.int 0, .int 2, .int 0, .int 0, .int 0, .int 0, .int 0, .int (-1), .ref cs, .ref bs, .ref tp])) ∧ u.2 h = none ∧ u.1 bs = some (.inl (kA 5, 4, .inr (.inr (.inr (.inr Fg))))) ∧ u.2 cs = some 3 ∧ u.2 bs = some 6 ∧ u.2 tp = some 7 ∧ sz ≤ cs ∧ sz ≤ bs ∧ sz ≤ tp ∧ (∀ j, j < 4 → ∃ q, Fg j = some q ∧ u.2 q = some 2) ∧ (∀ a t, T a = some t → u.2 a = some t) ∧ (∀ a, a ≠ h → a < sz → u.2 a = T a) ∧ ∀ a, FrA T a → a ≠ h → a < sz → u.1 a = M a) := by
  unfold mCv
  refine start_W (by decide) (Nat.le_of_ble_eq_true rfl) ?_
  intro p e s m below meth c ls hC hr hlk hnm hK hH hsz hl
  have hx := hC.1
  have hb := hC.2.1
  have hl : lv_has ls 2 [(0, .ref h)] := hl
  have hF : ∀ a, FrA T a → a ≠ h → a < sz → M a = M a := fun a _ _ _ => rfl
  have hTF : ∀ a, a ≠ h → a < sz → T a = T a := fun a _ _ => rfl
  have hTT : ∀ a t, T a = some t → T a = some t := fun _ _ h => h
  refine lv_aload_n hx hb dX8_init_0 rfl (lv_at hl 0 rfl) ?_
  refine W.objInit hx hb hC.2.2.2.1 (hC.2.2.2.2 _ wlX8_3) (hC.2.2.2.2 _ w_oi) (hC.2.2.2.2 _ w_oc) rfl (by rw [hC.2.2.1]; exact hl.1) rfl dX8_init_1 (Nat.le_of_ble_eq_true rfl) (Nat.le_of_ble_eq_true rfl) ?_
  refine W.eq (g2 := F0 m 4 ls []) rfl ?_
  refine lv_aload_n hx hb dX8_init_4 rfl (lv_at hl 0 rfl) ?_
  refine lv_bipush (v := 8) hx hb dX8_init_5 (by decide) ?_
  refine ynewa (atype := .int) (ck := 0) (N := 8) (a0 := (8, .inl (fun _ => 0))) hC hK hH rfl w_ac0 rfl (fun _ h => by cases h) (fun _ => rfl) (by decide) (by decide) (by decide) (Nat.le_of_ble_eq_true rfl) (Nat.le_of_ble_eq_true rfl) dX8_init_7 (fun qq1_ Hq_ Mq2_ e_qq1_ hz nM_qq1_ hn_qq1_ hc_qq1_ hfr hN => ?_)
  have g_qq1_ : sz ≤ qq1_ := by rw [← hsz, e_qq1_]; exact hH.2.1.1
  have n_h_qq1_ : h ≠ qq1_ := neN hc_h nM_qq1_
  have n_qq1__h : qq1_ ≠ h := Ne.symm n_h_qq1_
  have hH := hN
  have hc_qq1_ : Mq2_ qq1_ = some (.inl (kA 0, 8, .inl (fun _ => 0))) := hc_qq1_
  have hc_h : Mq2_ h = some (.inr (6, [.int 0, .int 0, .int 0, .int 0, .int 0, .int 0, .int 0, .int 0, .null, .null, .null])) := (hfr h n_h_qq1_).trans hc_h
  have hF : ∀ a, FrA T a → a ≠ h → a < sz → Mq2_ a = M a := fun a hA h0 h1 => (hfr a (Nat.ne_of_lt (Nat.lt_of_lt_of_le h1 g_qq1_))).trans (hF a hA h0 h1)
  refine ypF (v := .ref qq1_) hC hK hH hnm (fun _ _ _ h => by cases h; rfl) flX8_9 hc_h (noT hn_h) rfl rfl (Nat.le_of_ble_eq_true rfl) dX8_init_9 (fun Hq_ lcq_ Mq3_ hc_h hfr hH => ?_)
  have hc_h : Mq3_ h = some (.inr (6, [.int 0, .int 0, .int 0, .int 0, .int 0, .int 0, .int 0, .int 0, .ref qq1_, .null, .null])) := hc_h
  have hc_qq1_ : Mq3_ qq1_ = some (.inl (kA 0, 8, .inl (fun _ => 0))) := (hfr qq1_ n_qq1__h).trans hc_qq1_
  have hF : ∀ a, FrA T a → a ≠ h → a < sz → Mq3_ a = M a := fun a hA h0 h1 => (hfr a h0).trans (hF a hA h0 h1)
  refine lv_aload_n hx hb dX8_init_12 rfl (lv_at hl 0 rfl) ?_
  refine lv_iconst (v := 4) hx hb dX8_init_13 (by decide) ?_
  refine ynewq (ck := 5) (N := 4) hC hK hH wcX8_15 (by decide) rfl (by decide) (by decide) (by decide) (Nat.le_of_ble_eq_true rfl) (Nat.le_of_ble_eq_true rfl) dX8_init_14 (fun qq4_ Hq_ Mq5_ e_qq4_ hz nM_qq4_ hn_qq4_ hc_qq4_ hfr hN => ?_)
  have g_qq4_ : sz ≤ qq4_ := by rw [← hsz, e_qq4_]; exact hH.2.1.1
  have n_h_qq4_ : h ≠ qq4_ := neN hc_h nM_qq4_
  have n_qq4__h : qq4_ ≠ h := Ne.symm n_h_qq4_
  have n_qq1__qq4_ : qq1_ ≠ qq4_ := neN hc_qq1_ nM_qq4_
  have n_qq4__qq1_ : qq4_ ≠ qq1_ := Ne.symm n_qq1__qq4_
  have hH := hN
  have hc_qq4_ : Mq5_ qq4_ = some (.inl (kA 5, 4, .inr (.inr (.inr (.inr (fun _ => none)))))) := hc_qq4_
  have hc_h : Mq5_ h = some (.inr (6, [.int 0, .int 0, .int 0, .int 0, .int 0, .int 0, .int 0, .int 0, .ref qq1_, .null, .null])) := (hfr h n_h_qq4_).trans hc_h
  have hc_qq1_ : Mq5_ qq1_ = some (.inl (kA 0, 8, .inl (fun _ => 0))) := (hfr qq1_ n_qq1__qq4_).trans hc_qq1_
  have hF : ∀ a, FrA T a → a ≠ h → a < sz → Mq5_ a = M a := fun a hA h0 h1 => (hfr a (Nat.ne_of_lt (Nat.lt_of_lt_of_le h1 g_qq4_))).trans (hF a hA h0 h1)
  refine ypF (v := .ref qq4_) hC hK hH hnm (fun _ _ _ h => by cases h; rfl) flX8_17 hc_h (noT hn_h) rfl rfl (Nat.le_of_ble_eq_true rfl) dX8_init_17 (fun Hq_ lcq_ Mq6_ hc_h hfr hH => ?_)
  have hc_h : Mq6_ h = some (.inr (6, [.int 0, .int 0, .int 0, .int 0, .int 0, .int 0, .int 0, .int 0, .ref qq1_, .ref qq4_, .null])) := hc_h
  have hc_qq1_ : Mq6_ qq1_ = some (.inl (kA 0, 8, .inl (fun _ => 0))) := (hfr qq1_ n_qq1__h).trans hc_qq1_
  have hc_qq4_ : Mq6_ qq4_ = some (.inl (kA 5, 4, .inr (.inr (.inr (.inr (fun _ => none)))))) := (hfr qq4_ n_qq4__h).trans hc_qq4_
  have hF : ∀ a, FrA T a → a ≠ h → a < sz → Mq6_ a = M a := fun a hA h0 h1 => (hfr a h0).trans (hF a hA h0 h1)
  refine lv_aload_n hx hb dX8_init_20 rfl (lv_at hl 0 rfl) ?_
  refine lv_sipush (v := 600) hx hb dX8_init_21 (by decide) ?_
  refine ynewa (atype := .byte) (ck := 1) (N := 600) (a0 := (600, .inl (fun _ => 0))) hC hK hH rfl w_ac1 rfl (fun _ h => by cases h) (fun _ => rfl) (by decide) (by decide) (by decide) (Nat.le_of_ble_eq_true rfl) (Nat.le_of_ble_eq_true rfl) dX8_init_24 (fun qq7_ Hq_ Mq8_ e_qq7_ hz nM_qq7_ hn_qq7_ hc_qq7_ hfr hN => ?_)
  have g_qq7_ : sz ≤ qq7_ := by rw [← hsz, e_qq7_]; exact hH.2.1.1
  have n_h_qq7_ : h ≠ qq7_ := neN hc_h nM_qq7_
  have n_qq7__h : qq7_ ≠ h := Ne.symm n_h_qq7_
  have n_qq1__qq7_ : qq1_ ≠ qq7_ := neN hc_qq1_ nM_qq7_
  have n_qq7__qq1_ : qq7_ ≠ qq1_ := Ne.symm n_qq1__qq7_
  have n_qq4__qq7_ : qq4_ ≠ qq7_ := neN hc_qq4_ nM_qq7_
  have n_qq7__qq4_ : qq7_ ≠ qq4_ := Ne.symm n_qq4__qq7_
  have hH := hN
  have hc_qq7_ : Mq8_ qq7_ = some (.inl (kA 1, 600, .inl (fun _ => 0))) := hc_qq7_
  have hc_h : Mq8_ h = some (.inr (6, [.int 0, .int 0, .int 0, .int 0, .int 0, .int 0, .int 0, .int 0, .ref qq1_, .ref qq4_, .null])) := (hfr h n_h_qq7_).trans hc_h
  have hc_qq1_ : Mq8_ qq1_ = some (.inl (kA 0, 8, .inl (fun _ => 0))) := (hfr qq1_ n_qq1__qq7_).trans hc_qq1_
  have hc_qq4_ : Mq8_ qq4_ = some (.inl (kA 5, 4, .inr (.inr (.inr (.inr (fun _ => none)))))) := (hfr qq4_ n_qq4__qq7_).trans hc_qq4_
  have hF : ∀ a, FrA T a → a ≠ h → a < sz → Mq8_ a = M a := fun a hA h0 h1 => (hfr a (Nat.ne_of_lt (Nat.lt_of_lt_of_le h1 g_qq7_))).trans (hF a hA h0 h1)
  refine ypF (v := .ref qq7_) hC hK hH hnm (fun _ _ _ h => by cases h; rfl) flX8_21 hc_h (noT hn_h) rfl rfl (Nat.le_of_ble_eq_true rfl) dX8_init_26 (fun Hq_ lcq_ Mq9_ hc_h hfr hH => ?_)
  have hc_h : Mq9_ h = some (.inr (6, [.int 0, .int 0, .int 0, .int 0, .int 0, .int 0, .int 0, .int 0, .ref qq1_, .ref qq4_, .ref qq7_])) := hc_h
  have hc_qq1_ : Mq9_ qq1_ = some (.inl (kA 0, 8, .inl (fun _ => 0))) := (hfr qq1_ n_qq1__h).trans hc_qq1_
  have hc_qq4_ : Mq9_ qq4_ = some (.inl (kA 5, 4, .inr (.inr (.inr (.inr (fun _ => none)))))) := (hfr qq4_ n_qq4__h).trans hc_qq4_
  have hc_qq7_ : Mq9_ qq7_ = some (.inl (kA 1, 600, .inl (fun _ => 0))) := (hfr qq7_ n_qq7__h).trans hc_qq7_
  have hF : ∀ a, FrA T a → a ≠ h → a < sz → Mq9_ a = M a := fun a hA h0 h1 => (hfr a h0).trans (hF a hA h0 h1)
  refine lv_iconst (v := 0) hx hb dX8_init_29 (by decide) ?_
  refine lv_istore_n (lv' := [(1, .int 0), (0, .ref h)]) hx hb dX8_init_30 rfl hl (by decide) rfl (fun ls hl => ?_)
  refine lv_iload_n hx hb dX8_init_31 rfl (lv_at hl 0 rfl) ?_
  refine lv_iconst (v := 4) hx hb dX8_init_32 (by decide) ?_
  refine jic_ge (tgt := 55) hx hb dX8_init_33 (by decide) (fun cq10_ => absurd cq10_ (by decide)) (fun cq10_ => ?_)
  refine lv_aload_n hx hb dX8_init_36 rfl (lv_at hl 1 rfl) ?_
  refine xg hC hK hH flX8_17 hc_h rfl dX8_init_37 ?_
  refine lv_iload_n hx hb dX8_init_40 rfl (lv_at hl 0 rfl) ?_
  refine ynew hC hK hH nlX8_15 (Nat.le_of_ble_eq_true rfl) (Nat.le_of_ble_eq_true rfl) dX8_init_41 (fun qq11_ Hq_ Mq12_ e_qq11_ hz nM_qq11_ hn_qq11_ hc_qq11_ hfr hN => ?_)
  have g_qq11_ : sz ≤ qq11_ := by rw [← hsz, e_qq11_]; exact hH.2.1.1
  have n_h_qq11_ : h ≠ qq11_ := neN hc_h nM_qq11_
  have n_qq11__h : qq11_ ≠ h := Ne.symm n_h_qq11_
  have n_qq1__qq11_ : qq1_ ≠ qq11_ := neN hc_qq1_ nM_qq11_
  have n_qq11__qq1_ : qq11_ ≠ qq1_ := Ne.symm n_qq1__qq11_
  have n_qq4__qq11_ : qq4_ ≠ qq11_ := neN hc_qq4_ nM_qq11_
  have n_qq11__qq4_ : qq11_ ≠ qq4_ := Ne.symm n_qq4__qq11_
  have n_qq7__qq11_ : qq7_ ≠ qq11_ := neN hc_qq7_ nM_qq11_
  have n_qq11__qq7_ : qq11_ ≠ qq7_ := Ne.symm n_qq7__qq11_
  have hH := hN
  have hc_qq11_ : Mq12_ qq11_ = some (.inr (0, [.int 0, .int 0, .int 0, .int 0, .int 0, .int 0, .int 0, .int 0, .int 0, .int 0, .int 0, .int 0, .null, .null, .null, .null, .null, .null, .null])) := hc_qq11_
  have hc_h : Mq12_ h = some (.inr (6, [.int 0, .int 0, .int 0, .int 0, .int 0, .int 0, .int 0, .int 0, .ref qq1_, .ref qq4_, .ref qq7_])) := (hfr h n_h_qq11_).trans hc_h
  have hc_qq1_ : Mq12_ qq1_ = some (.inl (kA 0, 8, .inl (fun _ => 0))) := (hfr qq1_ n_qq1__qq11_).trans hc_qq1_
  have hc_qq4_ : Mq12_ qq4_ = some (.inl (kA 5, 4, .inr (.inr (.inr (.inr (fun _ => none)))))) := (hfr qq4_ n_qq4__qq11_).trans hc_qq4_
  have hc_qq7_ : Mq12_ qq7_ = some (.inl (kA 1, 600, .inl (fun _ => 0))) := (hfr qq7_ n_qq7__qq11_).trans hc_qq7_
  have hF : ∀ a, FrA T a → a ≠ h → a < sz → Mq12_ a = M a := fun a hA h0 h1 => (hfr a (Nat.ne_of_lt (Nat.lt_of_lt_of_le h1 g_qq11_))).trans (hF a hA h0 h1)
  refine lv_dup hx hb dX8_init_44 rfl ?_
  have gH : sz ≤ Array.size Hq_ := by rw [← hsz]; exact hH.2.1.1
  have lt_h : h < Array.size Hq_ := hH.1.ltM (by rw [hc_h]; simp)
  have lt_qq1_ : qq1_ < Array.size Hq_ := hH.1.ltM (by rw [hc_qq1_]; simp)
  have lt_qq4_ : qq4_ < Array.size Hq_ := hH.1.ltM (by rw [hc_qq4_]; simp)
  have lt_qq7_ : qq7_ < Array.size Hq_ := hH.1.ltM (by rw [hc_qq7_]; simp)
  have lt_qq11_ : qq11_ < Array.size Hq_ := hH.1.ltM (by rw [hc_qq11_]; simp)
  refine goV hK hH (runI (As := []) (rest := [.ref qq11_, .int 0, .ref qq4_]) hC hK hH (c_X1_init hc_qq11_ hn_qq11_ lt_qq11_) mlX8_25 ⟨⟨Nat.le_of_ble_eq_true rfl, Nat.le_of_ble_eq_true rfl⟩, Nat.le_of_ble_eq_true rfl, Nat.le_of_ble_eq_true rfl⟩ rfl hl.1 rfl (Nat.le_of_ble_eq_true rfl) dX8_init_45) (fun Mq13_ Tq14_ Hq_ lcq_ hP hz hH => ?_)
  try dsimp only at hP
  obtain ⟨nM_qq11_, t_qq11_, hsub, hfT, hfr⟩ := hP
  have hc_h : Mq13_ h = some (.inr (6, [.int 0, .int 0, .int 0, .int 0, .int 0, .int 0, .int 0, .int 0, .ref qq1_, .ref qq4_, .ref qq7_])) := (hfr h (Or.inl hn_h) n_h_qq11_ lt_h).trans hc_h
  have hn_h : Tq14_ h = none := (hfT h n_h_qq11_ lt_h).trans hn_h
  have hc_qq1_ : Mq13_ qq1_ = some (.inl (kA 0, 8, .inl (fun _ => 0))) := (hfr qq1_ (Or.inl hn_qq1_) n_qq1__qq11_ lt_qq1_).trans hc_qq1_
  have hn_qq1_ : Tq14_ qq1_ = none := (hfT qq1_ n_qq1__qq11_ lt_qq1_).trans hn_qq1_
  have hc_qq4_ : Mq13_ qq4_ = some (.inl (kA 5, 4, .inr (.inr (.inr (.inr (fun _ => none)))))) := (hfr qq4_ (Or.inl hn_qq4_) n_qq4__qq11_ lt_qq4_).trans hc_qq4_
  have hn_qq4_ : Tq14_ qq4_ = none := (hfT qq4_ n_qq4__qq11_ lt_qq4_).trans hn_qq4_
  have hc_qq7_ : Mq13_ qq7_ = some (.inl (kA 1, 600, .inl (fun _ => 0))) := (hfr qq7_ (Or.inl hn_qq7_) n_qq7__qq11_ lt_qq7_).trans hc_qq7_
  have hn_qq7_ : Tq14_ qq7_ = none := (hfT qq7_ n_qq7__qq11_ lt_qq7_).trans hn_qq7_
  have hTT : ∀ a t, T a = some t → Tq14_ a = some t := fun a t h => hsub _ _ (hTT a t h)
  have hF : ∀ a, FrA T a → a ≠ h → a < sz → Mq13_ a = M a := fun a hA h0 h1 => (hfr a (FrA.mv (hTF a h0 h1) hA) (Nat.ne_of_lt (Nat.lt_of_lt_of_le h1 g_qq11_)) (Nat.lt_of_lt_of_le h1 gH)).trans (hF a hA h0 h1)
  have hTF : ∀ a, a ≠ h → a < sz → Tq14_ a = T a := fun a h0 h1 => (hfT a (Nat.ne_of_lt (Nat.lt_of_lt_of_le h1 g_qq11_)) (Nat.lt_of_lt_of_le h1 gH)).trans (hTF a h0 h1)
  refine yqst (ck := 5) (cv := 0) (v := qq11_) hC hK hH rfl rfl hc_qq4_ (let ⟨fs, h1, _⟩ := tcell hH t_qq11_ rfl; ⟨fs, h1⟩) (noT hn_qq4_) (iIn (by decide) (by decide)) dX8_init_48 (fun Hq_ lcq_ Mq15_ hc_qq4_ hfr hH => ?_)
  have hc_qq4_ : Mq15_ qq4_ = some (.inl (kA 5, 4, .inr (.inr (.inr (.inr (va_up (fun _ => none) (Int32.toNatClampNeg 0) (some qq11_))))))) := hc_qq4_
  have hc_h : Mq15_ h = some (.inr (6, [.int 0, .int 0, .int 0, .int 0, .int 0, .int 0, .int 0, .int 0, .ref qq1_, .ref qq4_, .ref qq7_])) := (hfr h n_h_qq4_).trans hc_h
  have hc_qq1_ : Mq15_ qq1_ = some (.inl (kA 0, 8, .inl (fun _ => 0))) := (hfr qq1_ n_qq1__qq4_).trans hc_qq1_
  have hc_qq7_ : Mq15_ qq7_ = some (.inl (kA 1, 600, .inl (fun _ => 0))) := (hfr qq7_ n_qq7__qq4_).trans hc_qq7_
  have hF : ∀ a, FrA T a → a ≠ h → a < sz → Mq15_ a = M a := fun a hA h0 h1 => (hfr a (Nat.ne_of_lt (Nat.lt_of_lt_of_le h1 g_qq4_))).trans (hF a hA h0 h1)
  refine lv_iinc (v := 1) (lv' := [(1, .int 1), (0, .ref h)]) hx hb dX8_init_49 hl (k := 0) rfl (by decide) (by decide) rfl (fun ls hl => ?_)
  refine lv_goto (tgt := 31) hx hb dX8_init_52 (by decide) ?_
  refine lv_iload_n hx hb dX8_init_31 rfl (lv_at hl 0 rfl) ?_
  refine lv_iconst (v := 4) hx hb dX8_init_32 (by decide) ?_
  refine jic_ge (tgt := 55) hx hb dX8_init_33 (by decide) (fun cq16_ => absurd cq16_ (by decide)) (fun cq16_ => ?_)
  refine lv_aload_n hx hb dX8_init_36 rfl (lv_at hl 1 rfl) ?_
  refine xg hC hK hH flX8_17 hc_h rfl dX8_init_37 ?_
  refine lv_iload_n hx hb dX8_init_40 rfl (lv_at hl 0 rfl) ?_
  refine ynew hC hK hH nlX8_15 (Nat.le_of_ble_eq_true rfl) (Nat.le_of_ble_eq_true rfl) dX8_init_41 (fun qq17_ Hq_ Mq18_ e_qq17_ hz nM_qq17_ hn_qq17_ hc_qq17_ hfr hN => ?_)
  have g_qq17_ : sz ≤ qq17_ := by rw [← hsz, e_qq17_]; exact hH.2.1.1
  have n_h_qq17_ : h ≠ qq17_ := neN hc_h nM_qq17_
  have n_qq17__h : qq17_ ≠ h := Ne.symm n_h_qq17_
  have n_qq1__qq17_ : qq1_ ≠ qq17_ := neN hc_qq1_ nM_qq17_
  have n_qq17__qq1_ : qq17_ ≠ qq1_ := Ne.symm n_qq1__qq17_
  have n_qq4__qq17_ : qq4_ ≠ qq17_ := neN hc_qq4_ nM_qq17_
  have n_qq17__qq4_ : qq17_ ≠ qq4_ := Ne.symm n_qq4__qq17_
  have n_qq7__qq17_ : qq7_ ≠ qq17_ := neN hc_qq7_ nM_qq17_
  have n_qq17__qq7_ : qq17_ ≠ qq7_ := Ne.symm n_qq7__qq17_
  have hH := hN
  have hc_qq17_ : Mq18_ qq17_ = some (.inr (0, [.int 0, .int 0, .int 0, .int 0, .int 0, .int 0, .int 0, .int 0, .int 0, .int 0, .int 0, .int 0, .null, .null, .null, .null, .null, .null, .null])) := hc_qq17_
  have hc_h : Mq18_ h = some (.inr (6, [.int 0, .int 0, .int 0, .int 0, .int 0, .int 0, .int 0, .int 0, .ref qq1_, .ref qq4_, .ref qq7_])) := (hfr h n_h_qq17_).trans hc_h
  have hc_qq1_ : Mq18_ qq1_ = some (.inl (kA 0, 8, .inl (fun _ => 0))) := (hfr qq1_ n_qq1__qq17_).trans hc_qq1_
  have hc_qq4_ : Mq18_ qq4_ = some (.inl (kA 5, 4, .inr (.inr (.inr (.inr (va_up (fun _ => none) (Int32.toNatClampNeg 0) (some qq11_))))))) := (hfr qq4_ n_qq4__qq17_).trans hc_qq4_
  have hc_qq7_ : Mq18_ qq7_ = some (.inl (kA 1, 600, .inl (fun _ => 0))) := (hfr qq7_ n_qq7__qq17_).trans hc_qq7_
  have hF : ∀ a, FrA T a → a ≠ h → a < sz → Mq18_ a = M a := fun a hA h0 h1 => (hfr a (Nat.ne_of_lt (Nat.lt_of_lt_of_le h1 g_qq17_))).trans (hF a hA h0 h1)
  refine lv_dup hx hb dX8_init_44 rfl ?_
  have gH : sz ≤ Array.size Hq_ := by rw [← hsz]; exact hH.2.1.1
  have lt_h : h < Array.size Hq_ := hH.1.ltM (by rw [hc_h]; simp)
  have lt_qq1_ : qq1_ < Array.size Hq_ := hH.1.ltM (by rw [hc_qq1_]; simp)
  have lt_qq4_ : qq4_ < Array.size Hq_ := hH.1.ltM (by rw [hc_qq4_]; simp)
  have lt_qq7_ : qq7_ < Array.size Hq_ := hH.1.ltM (by rw [hc_qq7_]; simp)
  have lt_qq17_ : qq17_ < Array.size Hq_ := hH.1.ltM (by rw [hc_qq17_]; simp)
  refine goV hK hH (runI (As := []) (rest := [.ref qq17_, .int 1, .ref qq4_]) hC hK hH (c_X1_init hc_qq17_ hn_qq17_ lt_qq17_) mlX8_25 ⟨⟨Nat.le_of_ble_eq_true rfl, Nat.le_of_ble_eq_true rfl⟩, Nat.le_of_ble_eq_true rfl, Nat.le_of_ble_eq_true rfl⟩ rfl hl.1 rfl (Nat.le_of_ble_eq_true rfl) dX8_init_45) (fun Mq19_ Tq20_ Hq_ lcq_ hP hz hH => ?_)
  try dsimp only at hP
  obtain ⟨nM_qq17_, t_qq17_, hsub, hfT, hfr⟩ := hP
  have hc_h : Mq19_ h = some (.inr (6, [.int 0, .int 0, .int 0, .int 0, .int 0, .int 0, .int 0, .int 0, .ref qq1_, .ref qq4_, .ref qq7_])) := (hfr h (Or.inl hn_h) n_h_qq17_ lt_h).trans hc_h
  have hn_h : Tq20_ h = none := (hfT h n_h_qq17_ lt_h).trans hn_h
  have hc_qq1_ : Mq19_ qq1_ = some (.inl (kA 0, 8, .inl (fun _ => 0))) := (hfr qq1_ (Or.inl hn_qq1_) n_qq1__qq17_ lt_qq1_).trans hc_qq1_
  have hn_qq1_ : Tq20_ qq1_ = none := (hfT qq1_ n_qq1__qq17_ lt_qq1_).trans hn_qq1_
  have hc_qq4_ : Mq19_ qq4_ = some (.inl (kA 5, 4, .inr (.inr (.inr (.inr (va_up (fun _ => none) (Int32.toNatClampNeg 0) (some qq11_))))))) := (hfr qq4_ (Or.inl hn_qq4_) n_qq4__qq17_ lt_qq4_).trans hc_qq4_
  have hn_qq4_ : Tq20_ qq4_ = none := (hfT qq4_ n_qq4__qq17_ lt_qq4_).trans hn_qq4_
  have hc_qq7_ : Mq19_ qq7_ = some (.inl (kA 1, 600, .inl (fun _ => 0))) := (hfr qq7_ (Or.inl hn_qq7_) n_qq7__qq17_ lt_qq7_).trans hc_qq7_
  have hn_qq7_ : Tq20_ qq7_ = none := (hfT qq7_ n_qq7__qq17_ lt_qq7_).trans hn_qq7_
  have t_qq11_ : Tq20_ qq11_ = some 2 := hsub _ _ t_qq11_
  have hTT : ∀ a t, T a = some t → Tq20_ a = some t := fun a t h => hsub _ _ (hTT a t h)
  have hF : ∀ a, FrA T a → a ≠ h → a < sz → Mq19_ a = M a := fun a hA h0 h1 => (hfr a (FrA.mv (hTF a h0 h1) hA) (Nat.ne_of_lt (Nat.lt_of_lt_of_le h1 g_qq17_)) (Nat.lt_of_lt_of_le h1 gH)).trans (hF a hA h0 h1)
  have hTF : ∀ a, a ≠ h → a < sz → Tq20_ a = T a := fun a h0 h1 => (hfT a (Nat.ne_of_lt (Nat.lt_of_lt_of_le h1 g_qq17_)) (Nat.lt_of_lt_of_le h1 gH)).trans (hTF a h0 h1)
  refine yqst (ck := 5) (cv := 0) (v := qq17_) hC hK hH rfl rfl hc_qq4_ (let ⟨fs, h1, _⟩ := tcell hH t_qq17_ rfl; ⟨fs, h1⟩) (noT hn_qq4_) (iIn (by decide) (by decide)) dX8_init_48 (fun Hq_ lcq_ Mq21_ hc_qq4_ hfr hH => ?_)
  have hc_qq4_ : Mq21_ qq4_ = some (.inl (kA 5, 4, .inr (.inr (.inr (.inr (va_up (va_up (fun _ => none) (Int32.toNatClampNeg 0) (some qq11_)) (Int32.toNatClampNeg 1) (some qq17_))))))) := hc_qq4_
  have hc_h : Mq21_ h = some (.inr (6, [.int 0, .int 0, .int 0, .int 0, .int 0, .int 0, .int 0, .int 0, .ref qq1_, .ref qq4_, .ref qq7_])) := (hfr h n_h_qq4_).trans hc_h
  have hc_qq1_ : Mq21_ qq1_ = some (.inl (kA 0, 8, .inl (fun _ => 0))) := (hfr qq1_ n_qq1__qq4_).trans hc_qq1_
  have hc_qq7_ : Mq21_ qq7_ = some (.inl (kA 1, 600, .inl (fun _ => 0))) := (hfr qq7_ n_qq7__qq4_).trans hc_qq7_
  have hF : ∀ a, FrA T a → a ≠ h → a < sz → Mq21_ a = M a := fun a hA h0 h1 => (hfr a (Nat.ne_of_lt (Nat.lt_of_lt_of_le h1 g_qq4_))).trans (hF a hA h0 h1)
  refine lv_iinc (v := 2) (lv' := [(1, .int 2), (0, .ref h)]) hx hb dX8_init_49 hl (k := 0) rfl (by decide) (by decide) rfl (fun ls hl => ?_)
  refine lv_goto (tgt := 31) hx hb dX8_init_52 (by decide) ?_
  refine lv_iload_n hx hb dX8_init_31 rfl (lv_at hl 0 rfl) ?_
  refine lv_iconst (v := 4) hx hb dX8_init_32 (by decide) ?_
  refine jic_ge (tgt := 55) hx hb dX8_init_33 (by decide) (fun cq22_ => absurd cq22_ (by decide)) (fun cq22_ => ?_)
  refine lv_aload_n hx hb dX8_init_36 rfl (lv_at hl 1 rfl) ?_
  refine xg hC hK hH flX8_17 hc_h rfl dX8_init_37 ?_
  refine lv_iload_n hx hb dX8_init_40 rfl (lv_at hl 0 rfl) ?_
  refine ynew hC hK hH nlX8_15 (Nat.le_of_ble_eq_true rfl) (Nat.le_of_ble_eq_true rfl) dX8_init_41 (fun qq23_ Hq_ Mq24_ e_qq23_ hz nM_qq23_ hn_qq23_ hc_qq23_ hfr hN => ?_)
  have g_qq23_ : sz ≤ qq23_ := by rw [← hsz, e_qq23_]; exact hH.2.1.1
  have n_h_qq23_ : h ≠ qq23_ := neN hc_h nM_qq23_
  have n_qq23__h : qq23_ ≠ h := Ne.symm n_h_qq23_
  have n_qq1__qq23_ : qq1_ ≠ qq23_ := neN hc_qq1_ nM_qq23_
  have n_qq23__qq1_ : qq23_ ≠ qq1_ := Ne.symm n_qq1__qq23_
  have n_qq4__qq23_ : qq4_ ≠ qq23_ := neN hc_qq4_ nM_qq23_
  have n_qq23__qq4_ : qq23_ ≠ qq4_ := Ne.symm n_qq4__qq23_
  have n_qq7__qq23_ : qq7_ ≠ qq23_ := neN hc_qq7_ nM_qq23_
  have n_qq23__qq7_ : qq23_ ≠ qq7_ := Ne.symm n_qq7__qq23_
  have hH := hN
  have hc_qq23_ : Mq24_ qq23_ = some (.inr (0, [.int 0, .int 0, .int 0, .int 0, .int 0, .int 0, .int 0, .int 0, .int 0, .int 0, .int 0, .int 0, .null, .null, .null, .null, .null, .null, .null])) := hc_qq23_
  have hc_h : Mq24_ h = some (.inr (6, [.int 0, .int 0, .int 0, .int 0, .int 0, .int 0, .int 0, .int 0, .ref qq1_, .ref qq4_, .ref qq7_])) := (hfr h n_h_qq23_).trans hc_h
  have hc_qq1_ : Mq24_ qq1_ = some (.inl (kA 0, 8, .inl (fun _ => 0))) := (hfr qq1_ n_qq1__qq23_).trans hc_qq1_
  have hc_qq4_ : Mq24_ qq4_ = some (.inl (kA 5, 4, .inr (.inr (.inr (.inr (va_up (va_up (fun _ => none) (Int32.toNatClampNeg 0) (some qq11_)) (Int32.toNatClampNeg 1) (some qq17_))))))) := (hfr qq4_ n_qq4__qq23_).trans hc_qq4_
  have hc_qq7_ : Mq24_ qq7_ = some (.inl (kA 1, 600, .inl (fun _ => 0))) := (hfr qq7_ n_qq7__qq23_).trans hc_qq7_
  have hF : ∀ a, FrA T a → a ≠ h → a < sz → Mq24_ a = M a := fun a hA h0 h1 => (hfr a (Nat.ne_of_lt (Nat.lt_of_lt_of_le h1 g_qq23_))).trans (hF a hA h0 h1)
  refine lv_dup hx hb dX8_init_44 rfl ?_
  have gH : sz ≤ Array.size Hq_ := by rw [← hsz]; exact hH.2.1.1
  have lt_h : h < Array.size Hq_ := hH.1.ltM (by rw [hc_h]; simp)
  have lt_qq1_ : qq1_ < Array.size Hq_ := hH.1.ltM (by rw [hc_qq1_]; simp)
  have lt_qq4_ : qq4_ < Array.size Hq_ := hH.1.ltM (by rw [hc_qq4_]; simp)
  have lt_qq7_ : qq7_ < Array.size Hq_ := hH.1.ltM (by rw [hc_qq7_]; simp)
  have lt_qq23_ : qq23_ < Array.size Hq_ := hH.1.ltM (by rw [hc_qq23_]; simp)
  refine goV hK hH (runI (As := []) (rest := [.ref qq23_, .int 2, .ref qq4_]) hC hK hH (c_X1_init hc_qq23_ hn_qq23_ lt_qq23_) mlX8_25 ⟨⟨Nat.le_of_ble_eq_true rfl, Nat.le_of_ble_eq_true rfl⟩, Nat.le_of_ble_eq_true rfl, Nat.le_of_ble_eq_true rfl⟩ rfl hl.1 rfl (Nat.le_of_ble_eq_true rfl) dX8_init_45) (fun Mq25_ Tq26_ Hq_ lcq_ hP hz hH => ?_)
  try dsimp only at hP
  obtain ⟨nM_qq23_, t_qq23_, hsub, hfT, hfr⟩ := hP
  have hc_h : Mq25_ h = some (.inr (6, [.int 0, .int 0, .int 0, .int 0, .int 0, .int 0, .int 0, .int 0, .ref qq1_, .ref qq4_, .ref qq7_])) := (hfr h (Or.inl hn_h) n_h_qq23_ lt_h).trans hc_h
  have hn_h : Tq26_ h = none := (hfT h n_h_qq23_ lt_h).trans hn_h
  have hc_qq1_ : Mq25_ qq1_ = some (.inl (kA 0, 8, .inl (fun _ => 0))) := (hfr qq1_ (Or.inl hn_qq1_) n_qq1__qq23_ lt_qq1_).trans hc_qq1_
  have hn_qq1_ : Tq26_ qq1_ = none := (hfT qq1_ n_qq1__qq23_ lt_qq1_).trans hn_qq1_
  have hc_qq4_ : Mq25_ qq4_ = some (.inl (kA 5, 4, .inr (.inr (.inr (.inr (va_up (va_up (fun _ => none) (Int32.toNatClampNeg 0) (some qq11_)) (Int32.toNatClampNeg 1) (some qq17_))))))) := (hfr qq4_ (Or.inl hn_qq4_) n_qq4__qq23_ lt_qq4_).trans hc_qq4_
  have hn_qq4_ : Tq26_ qq4_ = none := (hfT qq4_ n_qq4__qq23_ lt_qq4_).trans hn_qq4_
  have hc_qq7_ : Mq25_ qq7_ = some (.inl (kA 1, 600, .inl (fun _ => 0))) := (hfr qq7_ (Or.inl hn_qq7_) n_qq7__qq23_ lt_qq7_).trans hc_qq7_
  have hn_qq7_ : Tq26_ qq7_ = none := (hfT qq7_ n_qq7__qq23_ lt_qq7_).trans hn_qq7_
  have t_qq11_ : Tq26_ qq11_ = some 2 := hsub _ _ t_qq11_
  have t_qq17_ : Tq26_ qq17_ = some 2 := hsub _ _ t_qq17_
  have hTT : ∀ a t, T a = some t → Tq26_ a = some t := fun a t h => hsub _ _ (hTT a t h)
  have hF : ∀ a, FrA T a → a ≠ h → a < sz → Mq25_ a = M a := fun a hA h0 h1 => (hfr a (FrA.mv (hTF a h0 h1) hA) (Nat.ne_of_lt (Nat.lt_of_lt_of_le h1 g_qq23_)) (Nat.lt_of_lt_of_le h1 gH)).trans (hF a hA h0 h1)
  have hTF : ∀ a, a ≠ h → a < sz → Tq26_ a = T a := fun a h0 h1 => (hfT a (Nat.ne_of_lt (Nat.lt_of_lt_of_le h1 g_qq23_)) (Nat.lt_of_lt_of_le h1 gH)).trans (hTF a h0 h1)
  refine yqst (ck := 5) (cv := 0) (v := qq23_) hC hK hH rfl rfl hc_qq4_ (let ⟨fs, h1, _⟩ := tcell hH t_qq23_ rfl; ⟨fs, h1⟩) (noT hn_qq4_) (iIn (by decide) (by decide)) dX8_init_48 (fun Hq_ lcq_ Mq27_ hc_qq4_ hfr hH => ?_)
  have hc_qq4_ : Mq27_ qq4_ = some (.inl (kA 5, 4, .inr (.inr (.inr (.inr (va_up (va_up (va_up (fun _ => none) (Int32.toNatClampNeg 0) (some qq11_)) (Int32.toNatClampNeg 1) (some qq17_)) (Int32.toNatClampNeg 2) (some qq23_))))))) := hc_qq4_
  have hc_h : Mq27_ h = some (.inr (6, [.int 0, .int 0, .int 0, .int 0, .int 0, .int 0, .int 0, .int 0, .ref qq1_, .ref qq4_, .ref qq7_])) := (hfr h n_h_qq4_).trans hc_h
  have hc_qq1_ : Mq27_ qq1_ = some (.inl (kA 0, 8, .inl (fun _ => 0))) := (hfr qq1_ n_qq1__qq4_).trans hc_qq1_
  have hc_qq7_ : Mq27_ qq7_ = some (.inl (kA 1, 600, .inl (fun _ => 0))) := (hfr qq7_ n_qq7__qq4_).trans hc_qq7_
  have hF : ∀ a, FrA T a → a ≠ h → a < sz → Mq27_ a = M a := fun a hA h0 h1 => (hfr a (Nat.ne_of_lt (Nat.lt_of_lt_of_le h1 g_qq4_))).trans (hF a hA h0 h1)
  refine lv_iinc (v := 3) (lv' := [(1, .int 3), (0, .ref h)]) hx hb dX8_init_49 hl (k := 0) rfl (by decide) (by decide) rfl (fun ls hl => ?_)
  refine lv_goto (tgt := 31) hx hb dX8_init_52 (by decide) ?_
  refine lv_iload_n hx hb dX8_init_31 rfl (lv_at hl 0 rfl) ?_
  refine lv_iconst (v := 4) hx hb dX8_init_32 (by decide) ?_
  refine jic_ge (tgt := 55) hx hb dX8_init_33 (by decide) (fun cq28_ => absurd cq28_ (by decide)) (fun cq28_ => ?_)
  refine lv_aload_n hx hb dX8_init_36 rfl (lv_at hl 1 rfl) ?_
  refine xg hC hK hH flX8_17 hc_h rfl dX8_init_37 ?_
  refine lv_iload_n hx hb dX8_init_40 rfl (lv_at hl 0 rfl) ?_
  refine ynew hC hK hH nlX8_15 (Nat.le_of_ble_eq_true rfl) (Nat.le_of_ble_eq_true rfl) dX8_init_41 (fun qq29_ Hq_ Mq30_ e_qq29_ hz nM_qq29_ hn_qq29_ hc_qq29_ hfr hN => ?_)
  have g_qq29_ : sz ≤ qq29_ := by rw [← hsz, e_qq29_]; exact hH.2.1.1
  have n_h_qq29_ : h ≠ qq29_ := neN hc_h nM_qq29_
  have n_qq29__h : qq29_ ≠ h := Ne.symm n_h_qq29_
  have n_qq1__qq29_ : qq1_ ≠ qq29_ := neN hc_qq1_ nM_qq29_
  have n_qq29__qq1_ : qq29_ ≠ qq1_ := Ne.symm n_qq1__qq29_
  have n_qq4__qq29_ : qq4_ ≠ qq29_ := neN hc_qq4_ nM_qq29_
  have n_qq29__qq4_ : qq29_ ≠ qq4_ := Ne.symm n_qq4__qq29_
  have n_qq7__qq29_ : qq7_ ≠ qq29_ := neN hc_qq7_ nM_qq29_
  have n_qq29__qq7_ : qq29_ ≠ qq7_ := Ne.symm n_qq7__qq29_
  have hH := hN
  have hc_qq29_ : Mq30_ qq29_ = some (.inr (0, [.int 0, .int 0, .int 0, .int 0, .int 0, .int 0, .int 0, .int 0, .int 0, .int 0, .int 0, .int 0, .null, .null, .null, .null, .null, .null, .null])) := hc_qq29_
  have hc_h : Mq30_ h = some (.inr (6, [.int 0, .int 0, .int 0, .int 0, .int 0, .int 0, .int 0, .int 0, .ref qq1_, .ref qq4_, .ref qq7_])) := (hfr h n_h_qq29_).trans hc_h
  have hc_qq1_ : Mq30_ qq1_ = some (.inl (kA 0, 8, .inl (fun _ => 0))) := (hfr qq1_ n_qq1__qq29_).trans hc_qq1_
  have hc_qq4_ : Mq30_ qq4_ = some (.inl (kA 5, 4, .inr (.inr (.inr (.inr (va_up (va_up (va_up (fun _ => none) (Int32.toNatClampNeg 0) (some qq11_)) (Int32.toNatClampNeg 1) (some qq17_)) (Int32.toNatClampNeg 2) (some qq23_))))))) := (hfr qq4_ n_qq4__qq29_).trans hc_qq4_
  have hc_qq7_ : Mq30_ qq7_ = some (.inl (kA 1, 600, .inl (fun _ => 0))) := (hfr qq7_ n_qq7__qq29_).trans hc_qq7_
  have hF : ∀ a, FrA T a → a ≠ h → a < sz → Mq30_ a = M a := fun a hA h0 h1 => (hfr a (Nat.ne_of_lt (Nat.lt_of_lt_of_le h1 g_qq29_))).trans (hF a hA h0 h1)
  refine lv_dup hx hb dX8_init_44 rfl ?_
  have gH : sz ≤ Array.size Hq_ := by rw [← hsz]; exact hH.2.1.1
  have lt_h : h < Array.size Hq_ := hH.1.ltM (by rw [hc_h]; simp)
  have lt_qq1_ : qq1_ < Array.size Hq_ := hH.1.ltM (by rw [hc_qq1_]; simp)
  have lt_qq4_ : qq4_ < Array.size Hq_ := hH.1.ltM (by rw [hc_qq4_]; simp)
  have lt_qq7_ : qq7_ < Array.size Hq_ := hH.1.ltM (by rw [hc_qq7_]; simp)
  have lt_qq29_ : qq29_ < Array.size Hq_ := hH.1.ltM (by rw [hc_qq29_]; simp)
  refine goV hK hH (runI (As := []) (rest := [.ref qq29_, .int 3, .ref qq4_]) hC hK hH (c_X1_init hc_qq29_ hn_qq29_ lt_qq29_) mlX8_25 ⟨⟨Nat.le_of_ble_eq_true rfl, Nat.le_of_ble_eq_true rfl⟩, Nat.le_of_ble_eq_true rfl, Nat.le_of_ble_eq_true rfl⟩ rfl hl.1 rfl (Nat.le_of_ble_eq_true rfl) dX8_init_45) (fun Mq31_ Tq32_ Hq_ lcq_ hP hz hH => ?_)
  try dsimp only at hP
  obtain ⟨nM_qq29_, t_qq29_, hsub, hfT, hfr⟩ := hP
  have hc_h : Mq31_ h = some (.inr (6, [.int 0, .int 0, .int 0, .int 0, .int 0, .int 0, .int 0, .int 0, .ref qq1_, .ref qq4_, .ref qq7_])) := (hfr h (Or.inl hn_h) n_h_qq29_ lt_h).trans hc_h
  have hn_h : Tq32_ h = none := (hfT h n_h_qq29_ lt_h).trans hn_h
  have hc_qq1_ : Mq31_ qq1_ = some (.inl (kA 0, 8, .inl (fun _ => 0))) := (hfr qq1_ (Or.inl hn_qq1_) n_qq1__qq29_ lt_qq1_).trans hc_qq1_
  have hn_qq1_ : Tq32_ qq1_ = none := (hfT qq1_ n_qq1__qq29_ lt_qq1_).trans hn_qq1_
  have hc_qq4_ : Mq31_ qq4_ = some (.inl (kA 5, 4, .inr (.inr (.inr (.inr (va_up (va_up (va_up (fun _ => none) (Int32.toNatClampNeg 0) (some qq11_)) (Int32.toNatClampNeg 1) (some qq17_)) (Int32.toNatClampNeg 2) (some qq23_))))))) := (hfr qq4_ (Or.inl hn_qq4_) n_qq4__qq29_ lt_qq4_).trans hc_qq4_
  have hn_qq4_ : Tq32_ qq4_ = none := (hfT qq4_ n_qq4__qq29_ lt_qq4_).trans hn_qq4_
  have hc_qq7_ : Mq31_ qq7_ = some (.inl (kA 1, 600, .inl (fun _ => 0))) := (hfr qq7_ (Or.inl hn_qq7_) n_qq7__qq29_ lt_qq7_).trans hc_qq7_
  have hn_qq7_ : Tq32_ qq7_ = none := (hfT qq7_ n_qq7__qq29_ lt_qq7_).trans hn_qq7_
  have t_qq11_ : Tq32_ qq11_ = some 2 := hsub _ _ t_qq11_
  have t_qq17_ : Tq32_ qq17_ = some 2 := hsub _ _ t_qq17_
  have t_qq23_ : Tq32_ qq23_ = some 2 := hsub _ _ t_qq23_
  have hTT : ∀ a t, T a = some t → Tq32_ a = some t := fun a t h => hsub _ _ (hTT a t h)
  have hF : ∀ a, FrA T a → a ≠ h → a < sz → Mq31_ a = M a := fun a hA h0 h1 => (hfr a (FrA.mv (hTF a h0 h1) hA) (Nat.ne_of_lt (Nat.lt_of_lt_of_le h1 g_qq29_)) (Nat.lt_of_lt_of_le h1 gH)).trans (hF a hA h0 h1)
  have hTF : ∀ a, a ≠ h → a < sz → Tq32_ a = T a := fun a h0 h1 => (hfT a (Nat.ne_of_lt (Nat.lt_of_lt_of_le h1 g_qq29_)) (Nat.lt_of_lt_of_le h1 gH)).trans (hTF a h0 h1)
  refine yqst (ck := 5) (cv := 0) (v := qq29_) hC hK hH rfl rfl hc_qq4_ (let ⟨fs, h1, _⟩ := tcell hH t_qq29_ rfl; ⟨fs, h1⟩) (noT hn_qq4_) (iIn (by decide) (by decide)) dX8_init_48 (fun Hq_ lcq_ Mq33_ hc_qq4_ hfr hH => ?_)
  have hc_qq4_ : Mq33_ qq4_ = some (.inl (kA 5, 4, .inr (.inr (.inr (.inr (va_up (va_up (va_up (va_up (fun _ => none) (Int32.toNatClampNeg 0) (some qq11_)) (Int32.toNatClampNeg 1) (some qq17_)) (Int32.toNatClampNeg 2) (some qq23_)) (Int32.toNatClampNeg 3) (some qq29_))))))) := hc_qq4_
  have hc_h : Mq33_ h = some (.inr (6, [.int 0, .int 0, .int 0, .int 0, .int 0, .int 0, .int 0, .int 0, .ref qq1_, .ref qq4_, .ref qq7_])) := (hfr h n_h_qq4_).trans hc_h
  have hc_qq1_ : Mq33_ qq1_ = some (.inl (kA 0, 8, .inl (fun _ => 0))) := (hfr qq1_ n_qq1__qq4_).trans hc_qq1_
  have hc_qq7_ : Mq33_ qq7_ = some (.inl (kA 1, 600, .inl (fun _ => 0))) := (hfr qq7_ n_qq7__qq4_).trans hc_qq7_
  have hF : ∀ a, FrA T a → a ≠ h → a < sz → Mq33_ a = M a := fun a hA h0 h1 => (hfr a (Nat.ne_of_lt (Nat.lt_of_lt_of_le h1 g_qq4_))).trans (hF a hA h0 h1)
  refine lv_iinc (v := 4) (lv' := [(1, .int 4), (0, .ref h)]) hx hb dX8_init_49 hl (k := 0) rfl (by decide) (by decide) rfl (fun ls hl => ?_)
  refine lv_goto (tgt := 31) hx hb dX8_init_52 (by decide) ?_
  refine lv_iload_n hx hb dX8_init_31 rfl (lv_at hl 0 rfl) ?_
  refine lv_iconst (v := 4) hx hb dX8_init_32 (by decide) ?_
  refine jic_ge (tgt := 55) hx hb dX8_init_33 (by decide) (fun cq34_ => ?_) (fun cq34_ => absurd cq34_ (by decide))
  refine lv_aload_n hx hb dX8_init_55 rfl (lv_at hl 1 rfl) ?_
  obtain ⟨Mq36_, Tq35_, nM_qq1_, hfr, t_qq1_, hfT, hsub, hH⟩ := hH.re2 (τ := 3) hc_qq1_ hn_qq1_ (conf_i rfl (fun _ _ => iRg _))
  have hc_h : Mq36_ h = some (.inr (6, [.int 0, .int 0, .int 0, .int 0, .int 0, .int 0, .int 0, .int 0, .ref qq1_, .ref qq4_, .ref qq7_])) := (hfr h n_h_qq1_).trans hc_h
  have hc_qq4_ : Mq36_ qq4_ = some (.inl (kA 5, 4, .inr (.inr (.inr (.inr (va_up (va_up (va_up (va_up (fun _ => none) (Int32.toNatClampNeg 0) (some qq11_)) (Int32.toNatClampNeg 1) (some qq17_)) (Int32.toNatClampNeg 2) (some qq23_)) (Int32.toNatClampNeg 3) (some qq29_))))))) := (hfr qq4_ n_qq4__qq1_).trans hc_qq4_
  have hc_qq7_ : Mq36_ qq7_ = some (.inl (kA 1, 600, .inl (fun _ => 0))) := (hfr qq7_ n_qq7__qq1_).trans hc_qq7_
  have hn_h : Tq35_ h = none := (hfT h n_h_qq1_).trans hn_h
  have hn_qq4_ : Tq35_ qq4_ = none := (hfT qq4_ n_qq4__qq1_).trans hn_qq4_
  have hn_qq7_ : Tq35_ qq7_ = none := (hfT qq7_ n_qq7__qq1_).trans hn_qq7_
  have t_qq11_ : Tq35_ qq11_ = some 2 := hsub _ _ t_qq11_
  have t_qq17_ : Tq35_ qq17_ = some 2 := hsub _ _ t_qq17_
  have t_qq23_ : Tq35_ qq23_ = some 2 := hsub _ _ t_qq23_
  have t_qq29_ : Tq35_ qq29_ = some 2 := hsub _ _ t_qq29_
  have hTT : ∀ a t, T a = some t → Tq35_ a = some t := fun a t h => hsub _ _ (hTT a t h)
  have hTF : ∀ a, a ≠ h → a < sz → Tq35_ a = T a := fun a h0 h1 => (hfT a (Nat.ne_of_lt (Nat.lt_of_lt_of_le h1 g_qq1_))).trans (hTF a h0 h1)
  have hF : ∀ a, FrA T a → a ≠ h → a < sz → Mq36_ a = M a := fun a hA h0 h1 => (hfr a (Nat.ne_of_lt (Nat.lt_of_lt_of_le h1 g_qq1_))).trans (hF a hA h0 h1)
  obtain ⟨Mq38_, Tq37_, nM_qq7_, hfr, t_qq7_, hfT, hsub, hH⟩ := hH.re2 (τ := 7) hc_qq7_ hn_qq7_ (conf_i rfl (fun _ _ => ⟨by decide, by decide⟩))
  have hc_h : Mq38_ h = some (.inr (6, [.int 0, .int 0, .int 0, .int 0, .int 0, .int 0, .int 0, .int 0, .ref qq1_, .ref qq4_, .ref qq7_])) := (hfr h n_h_qq7_).trans hc_h
  have hc_qq4_ : Mq38_ qq4_ = some (.inl (kA 5, 4, .inr (.inr (.inr (.inr (va_up (va_up (va_up (va_up (fun _ => none) (Int32.toNatClampNeg 0) (some qq11_)) (Int32.toNatClampNeg 1) (some qq17_)) (Int32.toNatClampNeg 2) (some qq23_)) (Int32.toNatClampNeg 3) (some qq29_))))))) := (hfr qq4_ n_qq4__qq7_).trans hc_qq4_
  have hn_h : Tq37_ h = none := (hfT h n_h_qq7_).trans hn_h
  have hn_qq4_ : Tq37_ qq4_ = none := (hfT qq4_ n_qq4__qq7_).trans hn_qq4_
  have t_qq11_ : Tq37_ qq11_ = some 2 := hsub _ _ t_qq11_
  have t_qq17_ : Tq37_ qq17_ = some 2 := hsub _ _ t_qq17_
  have t_qq23_ : Tq37_ qq23_ = some 2 := hsub _ _ t_qq23_
  have t_qq29_ : Tq37_ qq29_ = some 2 := hsub _ _ t_qq29_
  have t_qq1_ : Tq37_ qq1_ = some 3 := hsub _ _ t_qq1_
  have hTT : ∀ a t, T a = some t → Tq37_ a = some t := fun a t h => hsub _ _ (hTT a t h)
  have hTF : ∀ a, a ≠ h → a < sz → Tq37_ a = T a := fun a h0 h1 => (hfT a (Nat.ne_of_lt (Nat.lt_of_lt_of_le h1 g_qq7_))).trans (hTF a h0 h1)
  have hF : ∀ a, FrA T a → a ≠ h → a < sz → Mq38_ a = M a := fun a hA h0 h1 => (hfr a (Nat.ne_of_lt (Nat.lt_of_lt_of_le h1 g_qq7_))).trans (hF a hA h0 h1)
  have hq : ∀ j, j < 4 → ∃ q, (va_up (va_up (va_up (va_up (fun _ => none) (Int32.toNatClampNeg 0) (some qq11_)) (Int32.toNatClampNeg 1) (some qq17_)) (Int32.toNatClampNeg 2) (some qq23_)) (Int32.toNatClampNeg 3) (some qq29_)) j = some q ∧ Tq37_ q = some 2 := by
    intro j hj
    rcases (show j = 0 ∨ j = 1 ∨ j = 2 ∨ j = 3 by omega) with rfl | rfl | rfl | rfl
    · exact ⟨qq11_, rfl, t_qq11_⟩
    · exact ⟨qq17_, rfl, t_qq17_⟩
    · exact ⟨qq23_, rfl, t_qq23_⟩
    · exact ⟨qq29_, rfl, t_qq29_⟩
  obtain ⟨Tq39_, t_qq4_, hfT, hsub, hH⟩ := hH.reK (τ := 6) hc_qq4_ hn_qq4_ (conf_q rfl (fun j hj => let ⟨q, h1, h2⟩ := hq j hj; ⟨q, h1, tUp hn_qq4_ h2⟩))
  have hn_h : Tq39_ h = none := (hfT h n_h_qq4_).trans hn_h
  have t_qq11_ : Tq39_ qq11_ = some 2 := hsub _ _ t_qq11_
  have t_qq17_ : Tq39_ qq17_ = some 2 := hsub _ _ t_qq17_
  have t_qq23_ : Tq39_ qq23_ = some 2 := hsub _ _ t_qq23_
  have t_qq29_ : Tq39_ qq29_ = some 2 := hsub _ _ t_qq29_
  have t_qq1_ : Tq39_ qq1_ = some 3 := hsub _ _ t_qq1_
  have t_qq7_ : Tq39_ qq7_ = some 7 := hsub _ _ t_qq7_
  have hTT : ∀ a t, T a = some t → Tq39_ a = some t := fun a t h => hsub _ _ (hTT a t h)
  have hTF : ∀ a, a ≠ h → a < sz → Tq39_ a = T a := fun a h0 h1 => (hfT a (Nat.ne_of_lt (Nat.lt_of_lt_of_le h1 g_qq4_))).trans (hTF a h0 h1)
  have hq : ∀ j, j < 4 → ∃ q, (va_up (va_up (va_up (va_up (fun _ => none) (Int32.toNatClampNeg 0) (some qq11_)) (Int32.toNatClampNeg 1) (some qq17_)) (Int32.toNatClampNeg 2) (some qq23_)) (Int32.toNatClampNeg 3) (some qq29_)) j = some q ∧ Tq39_ q = some 2 := fun j hj => (hq j hj).imp (fun q h => ⟨h.1, hsub _ _ h.2⟩)
  obtain ⟨Gq40_, e_Gq40_⟩ : ∃ g : Nat → Option Nat, g = (va_up (va_up (va_up (va_up (fun _ => none) (Int32.toNatClampNeg 0) (some qq11_)) (Int32.toNatClampNeg 1) (some qq17_)) (Int32.toNatClampNeg 2) (some qq23_)) (Int32.toNatClampNeg 3) (some qq29_)) := ⟨_, rfl⟩
  rw [← e_Gq40_] at hq hc_qq4_
  have hg_Gq40_ := hq
  refine goV hK hH (runV (As := []) (rest := []) hC hK hH (c_X8_begin hc_h hn_h hc_qq4_ t_qq1_ t_qq4_ t_qq7_ (by decide) (by decide) (by decide) hg_Gq40_) mlX8_26 (rcvM hK hH hc_h rfl) ⟨⟨Nat.le_of_ble_eq_true rfl, Nat.le_of_ble_eq_true rfl⟩, Nat.le_of_ble_eq_true rfl, Nat.le_of_ble_eq_true rfl⟩ rfl hl.1 rfl (Nat.le_of_ble_eq_true rfl) dX8_init_56) (fun Mq41_ Tq42_ Hq_ lcq_ hP hz hH => ?_)
  try dsimp only at hP
  obtain ⟨(hx_h), eT, hfr⟩ := hP
  have eT := eT.symm; subst eT
  have hc_h : Mq41_ h = some (.inr (6, [.int 0, .int 2, .int 0, .int 0, .int 0, .int 0, .int 0, .int (-1), .ref qq1_, .ref qq4_, .ref qq7_])) := hx_h
  have hc_qq4_ : Mq41_ qq4_ = some (.inl (kA 5, 4, .inr (.inr (.inr (.inr Gq40_))))) := (hfr qq4_ (Or.inr (Or.inl t_qq4_)) n_qq4__h).trans hc_qq4_
  have hF : ∀ a, FrA T a → a ≠ h → a < sz → Mq41_ a = M a := fun a hA h0 h1 => (hfr a (FrA.k (FrA.mv (hTF a h0 h1) hA)) h0).trans (hF a hA h0 h1)
  exact ret_v hC hr hlk hK hH (⟨qq1_, qq4_, qq7_, Gq40_, hc_h, hn_h, hc_qq4_, t_qq1_, t_qq4_, t_qq7_, g_qq1_, g_qq4_, g_qq7_, hg_Gq40_, hTT, hTF, hF⟩) (Nat.le_of_ble_eq_true rfl) (Nat.le_of_ble_eq_true rfl) dX8_init_59
set_option maxHeartbeats 4000000 in
set_option maxRecDepth 100000 in
theorem c_X5_init {l : Launch} {D : va_G} {kA : Nat → ClassId} {M : mM} {T : mT} {sz h : Nat} (hc_h : M h = some (.inr (4, [.null, .null, .null, .int 0]))) (hn_h : T h = none) (hlt : h < sz) : mCv l yX5_init cX5_init 1 3 24 273 D kA M T sz [.ref h] (fun u => ∃ rb rs rp, u.1 h = some (.inr (4, [.ref rb, .ref rs, .ref rp, .int 0])) ∧ u.2 h = none ∧ u.2 rb = some 2 ∧ u.2 rs = some 3 ∧ u.2 rp = some 5 ∧ sz ≤ rb ∧ sz ≤ rs ∧ sz ≤ rp ∧ (∀ a t, T a = some t → u.2 a = some t) ∧ (∀ a, a ≠ h → a < sz → u.2 a = T a) ∧ ∀ a, FrA T a → a ≠ h → a < sz → u.1 a = M a) := by
  unfold mCv
  refine start_W (by decide) (Nat.le_of_ble_eq_true rfl) ?_
  intro p e s m below meth c ls hC hr hlk hnm hK hH hsz hl
  have hx := hC.1
  have hb := hC.2.1
  have hl : lv_has ls 1 [(0, .ref h)] := hl
  have hF : ∀ a, FrA T a → a ≠ h → a < sz → M a = M a := fun a _ _ _ => rfl
  have hTF : ∀ a, a ≠ h → a < sz → T a = T a := fun a _ _ => rfl
  have hTT : ∀ a t, T a = some t → T a = some t := fun _ _ h => h
  refine lv_aload_n hx hb dX5_init_0 rfl (lv_at hl 0 rfl) ?_
  refine W.objInit hx hb hC.2.2.2.1 (hC.2.2.2.2 _ wlX5_3) (hC.2.2.2.2 _ w_oi) (hC.2.2.2.2 _ w_oc) rfl (by rw [hC.2.2.1]; exact hl.1) rfl dX5_init_1 (Nat.le_of_ble_eq_true rfl) (Nat.le_of_ble_eq_true rfl) ?_
  refine W.eq (g2 := F0 m 4 ls []) rfl ?_
  refine lv_aload_n hx hb dX5_init_4 rfl (lv_at hl 0 rfl) ?_
  refine ynew hC hK hH nlX5_9 (Nat.le_of_ble_eq_true rfl) (Nat.le_of_ble_eq_true rfl) dX5_init_5 (fun qq1_ Hq_ Mq2_ e_qq1_ hz nM_qq1_ hn_qq1_ hc_qq1_ hfr hN => ?_)
  have g_qq1_ : sz ≤ qq1_ := by rw [← hsz, e_qq1_]; exact hH.2.1.1
  have n_h_qq1_ : h ≠ qq1_ := neN hc_h nM_qq1_
  have n_qq1__h : qq1_ ≠ h := Ne.symm n_h_qq1_
  have hH := hN
  have hc_qq1_ : Mq2_ qq1_ = some (.inr (0, [.int 0, .int 0, .int 0, .int 0, .int 0, .int 0, .int 0, .int 0, .int 0, .int 0, .int 0, .int 0, .null, .null, .null, .null, .null, .null, .null])) := hc_qq1_
  have hc_h : Mq2_ h = some (.inr (4, [.null, .null, .null, .int 0])) := (hfr h n_h_qq1_).trans hc_h
  have hF : ∀ a, FrA T a → a ≠ h → a < sz → Mq2_ a = M a := fun a hA h0 h1 => (hfr a (Nat.ne_of_lt (Nat.lt_of_lt_of_le h1 g_qq1_))).trans (hF a hA h0 h1)
  refine lv_dup hx hb dX5_init_8 rfl ?_
  have gH : sz ≤ Array.size Hq_ := by rw [← hsz]; exact hH.2.1.1
  have lt_h : h < Array.size Hq_ := hH.1.ltM (by rw [hc_h]; simp)
  have lt_qq1_ : qq1_ < Array.size Hq_ := hH.1.ltM (by rw [hc_qq1_]; simp)
  refine goV hK hH (runI (As := []) (rest := [.ref qq1_, .ref h]) hC hK hH (c_X1_init hc_qq1_ hn_qq1_ lt_qq1_) mlX5_11 ⟨⟨Nat.le_of_ble_eq_true rfl, Nat.le_of_ble_eq_true rfl⟩, Nat.le_of_ble_eq_true rfl, Nat.le_of_ble_eq_true rfl⟩ rfl hl.1 rfl (Nat.le_of_ble_eq_true rfl) dX5_init_9) (fun Mq3_ Tq4_ Hq_ lcq_ hP hz hH => ?_)
  try dsimp only at hP
  obtain ⟨nM_qq1_, t_qq1_, hsub, hfT, hfr⟩ := hP
  have hc_h : Mq3_ h = some (.inr (4, [.null, .null, .null, .int 0])) := (hfr h (Or.inl hn_h) n_h_qq1_ lt_h).trans hc_h
  have hn_h : Tq4_ h = none := (hfT h n_h_qq1_ lt_h).trans hn_h
  have hTT : ∀ a t, T a = some t → Tq4_ a = some t := fun a t h => hsub _ _ (hTT a t h)
  have hF : ∀ a, FrA T a → a ≠ h → a < sz → Mq3_ a = M a := fun a hA h0 h1 => (hfr a (FrA.mv (hTF a h0 h1) hA) (Nat.ne_of_lt (Nat.lt_of_lt_of_le h1 g_qq1_)) (Nat.lt_of_lt_of_le h1 gH)).trans (hF a hA h0 h1)
  have hTF : ∀ a, a ≠ h → a < sz → Tq4_ a = T a := fun a h0 h1 => (hfT a (Nat.ne_of_lt (Nat.lt_of_lt_of_le h1 g_qq1_)) (Nat.lt_of_lt_of_le h1 gH)).trans (hTF a h0 h1)
  refine ypF (v := .ref qq1_) hC hK hH hnm (fun _ _ _ h => by cases h; rfl) flX5_12 hc_h (noT hn_h) rfl rfl (Nat.le_of_ble_eq_true rfl) dX5_init_12 (fun Hq_ lcq_ Mq5_ hc_h hfr hH => ?_)
  have hc_h : Mq5_ h = some (.inr (4, [.ref qq1_, .null, .null, .int 0])) := hc_h
  have hF : ∀ a, FrA T a → a ≠ h → a < sz → Mq5_ a = M a := fun a hA h0 h1 => (hfr a h0).trans (hF a hA h0 h1)
  refine lv_aload_n hx hb dX5_init_15 rfl (lv_at hl 0 rfl) ?_
  refine lv_bipush (v := 8) hx hb dX5_init_16 (by decide) ?_
  refine ynewa (atype := .int) (ck := 0) (N := 8) (a0 := (8, .inl (fun _ => 0))) hC hK hH rfl w_ac0 rfl (fun _ h => by cases h) (fun _ => rfl) (by decide) (by decide) (by decide) (Nat.le_of_ble_eq_true rfl) (Nat.le_of_ble_eq_true rfl) dX5_init_18 (fun qq6_ Hq_ Mq7_ e_qq6_ hz nM_qq6_ hn_qq6_ hc_qq6_ hfr hN => ?_)
  have g_qq6_ : sz ≤ qq6_ := by rw [← hsz, e_qq6_]; exact hH.2.1.1
  have n_h_qq6_ : h ≠ qq6_ := neN hc_h nM_qq6_
  have n_qq6__h : qq6_ ≠ h := Ne.symm n_h_qq6_
  have hH := hN
  have hc_qq6_ : Mq7_ qq6_ = some (.inl (kA 0, 8, .inl (fun _ => 0))) := hc_qq6_
  have hc_h : Mq7_ h = some (.inr (4, [.ref qq1_, .null, .null, .int 0])) := (hfr h n_h_qq6_).trans hc_h
  have hF : ∀ a, FrA T a → a ≠ h → a < sz → Mq7_ a = M a := fun a hA h0 h1 => (hfr a (Nat.ne_of_lt (Nat.lt_of_lt_of_le h1 g_qq6_))).trans (hF a hA h0 h1)
  refine ypF (v := .ref qq6_) hC hK hH hnm (fun _ _ _ h => by cases h; rfl) flX5_18 hc_h (noT hn_h) rfl rfl (Nat.le_of_ble_eq_true rfl) dX5_init_20 (fun Hq_ lcq_ Mq8_ hc_h hfr hH => ?_)
  have hc_h : Mq8_ h = some (.inr (4, [.ref qq1_, .ref qq6_, .null, .int 0])) := hc_h
  have hc_qq6_ : Mq8_ qq6_ = some (.inl (kA 0, 8, .inl (fun _ => 0))) := (hfr qq6_ n_qq6__h).trans hc_qq6_
  have hF : ∀ a, FrA T a → a ≠ h → a < sz → Mq8_ a = M a := fun a hA h0 h1 => (hfr a h0).trans (hF a hA h0 h1)
  refine lv_aload_n hx hb dX5_init_23 rfl (lv_at hl 0 rfl) ?_
  refine lv_bipush (v := 14) hx hb dX5_init_24 (by decide) ?_
  refine ynewa (atype := .int) (ck := 0) (N := 14) (a0 := (14, .inl (fun _ => 0))) hC hK hH rfl w_ac0 rfl (fun _ h => by cases h) (fun _ => rfl) (by decide) (by decide) (by decide) (Nat.le_of_ble_eq_true rfl) (Nat.le_of_ble_eq_true rfl) dX5_init_26 (fun qq9_ Hq_ Mq10_ e_qq9_ hz nM_qq9_ hn_qq9_ hc_qq9_ hfr hN => ?_)
  have g_qq9_ : sz ≤ qq9_ := by rw [← hsz, e_qq9_]; exact hH.2.1.1
  have n_h_qq9_ : h ≠ qq9_ := neN hc_h nM_qq9_
  have n_qq9__h : qq9_ ≠ h := Ne.symm n_h_qq9_
  have n_qq6__qq9_ : qq6_ ≠ qq9_ := neN hc_qq6_ nM_qq9_
  have n_qq9__qq6_ : qq9_ ≠ qq6_ := Ne.symm n_qq6__qq9_
  have hH := hN
  have hc_qq9_ : Mq10_ qq9_ = some (.inl (kA 0, 14, .inl (fun _ => 0))) := hc_qq9_
  have hc_h : Mq10_ h = some (.inr (4, [.ref qq1_, .ref qq6_, .null, .int 0])) := (hfr h n_h_qq9_).trans hc_h
  have hc_qq6_ : Mq10_ qq6_ = some (.inl (kA 0, 8, .inl (fun _ => 0))) := (hfr qq6_ n_qq6__qq9_).trans hc_qq6_
  have hF : ∀ a, FrA T a → a ≠ h → a < sz → Mq10_ a = M a := fun a hA h0 h1 => (hfr a (Nat.ne_of_lt (Nat.lt_of_lt_of_le h1 g_qq9_))).trans (hF a hA h0 h1)
  refine ypF (v := .ref qq9_) hC hK hH hnm (fun _ _ _ h => by cases h; rfl) flX5_22 hc_h (noT hn_h) rfl rfl (Nat.le_of_ble_eq_true rfl) dX5_init_28 (fun Hq_ lcq_ Mq11_ hc_h hfr hH => ?_)
  have hc_h : Mq11_ h = some (.inr (4, [.ref qq1_, .ref qq6_, .ref qq9_, .int 0])) := hc_h
  have hc_qq6_ : Mq11_ qq6_ = some (.inl (kA 0, 8, .inl (fun _ => 0))) := (hfr qq6_ n_qq6__h).trans hc_qq6_
  have hc_qq9_ : Mq11_ qq9_ = some (.inl (kA 0, 14, .inl (fun _ => 0))) := (hfr qq9_ n_qq9__h).trans hc_qq9_
  have hF : ∀ a, FrA T a → a ≠ h → a < sz → Mq11_ a = M a := fun a hA h0 h1 => (hfr a h0).trans (hF a hA h0 h1)
  obtain ⟨Mq13_, Tq12_, nM_qq6_, hfr, t_qq6_, hfT, hsub, hH⟩ := hH.re2 (τ := 3) hc_qq6_ hn_qq6_ (conf_i rfl (fun _ _ => iRg _))
  have hc_h : Mq13_ h = some (.inr (4, [.ref qq1_, .ref qq6_, .ref qq9_, .int 0])) := (hfr h n_h_qq6_).trans hc_h
  have hc_qq9_ : Mq13_ qq9_ = some (.inl (kA 0, 14, .inl (fun _ => 0))) := (hfr qq9_ n_qq9__qq6_).trans hc_qq9_
  have hn_h : Tq12_ h = none := (hfT h n_h_qq6_).trans hn_h
  have hn_qq9_ : Tq12_ qq9_ = none := (hfT qq9_ n_qq9__qq6_).trans hn_qq9_
  have t_qq1_ : Tq12_ qq1_ = some 2 := hsub _ _ t_qq1_
  have hTT : ∀ a t, T a = some t → Tq12_ a = some t := fun a t h => hsub _ _ (hTT a t h)
  have hTF : ∀ a, a ≠ h → a < sz → Tq12_ a = T a := fun a h0 h1 => (hfT a (Nat.ne_of_lt (Nat.lt_of_lt_of_le h1 g_qq6_))).trans (hTF a h0 h1)
  have hF : ∀ a, FrA T a → a ≠ h → a < sz → Mq13_ a = M a := fun a hA h0 h1 => (hfr a (Nat.ne_of_lt (Nat.lt_of_lt_of_le h1 g_qq6_))).trans (hF a hA h0 h1)
  obtain ⟨Mq15_, Tq14_, nM_qq9_, hfr, t_qq9_, hfT, hsub, hH⟩ := hH.re2 (τ := 5) hc_qq9_ hn_qq9_ (conf_i rfl (fun _ _ => iRg _))
  have hc_h : Mq15_ h = some (.inr (4, [.ref qq1_, .ref qq6_, .ref qq9_, .int 0])) := (hfr h n_h_qq9_).trans hc_h
  have hn_h : Tq14_ h = none := (hfT h n_h_qq9_).trans hn_h
  have t_qq1_ : Tq14_ qq1_ = some 2 := hsub _ _ t_qq1_
  have t_qq6_ : Tq14_ qq6_ = some 3 := hsub _ _ t_qq6_
  have hTT : ∀ a t, T a = some t → Tq14_ a = some t := fun a t h => hsub _ _ (hTT a t h)
  have hTF : ∀ a, a ≠ h → a < sz → Tq14_ a = T a := fun a h0 h1 => (hfT a (Nat.ne_of_lt (Nat.lt_of_lt_of_le h1 g_qq9_))).trans (hTF a h0 h1)
  have hF : ∀ a, FrA T a → a ≠ h → a < sz → Mq15_ a = M a := fun a hA h0 h1 => (hfr a (Nat.ne_of_lt (Nat.lt_of_lt_of_le h1 g_qq9_))).trans (hF a hA h0 h1)
  exact ret_v hC hr hlk hK hH (⟨qq1_, qq6_, qq9_, hc_h, hn_h, t_qq1_, t_qq6_, t_qq9_, g_qq1_, g_qq6_, g_qq9_, hTT, hTF, hF⟩) (Nat.le_of_ble_eq_true rfl) (Nat.le_of_ble_eq_true rfl) dX5_init_31
set_option maxHeartbeats 4000000 in
set_option maxRecDepth 100000 in
theorem c_X3_init {l : Launch} {D : va_G} {kA : Nat → ClassId} {M : mM} {T : mT} {sz h : Nat} (hc_h : M h = some (.inr (2, [.null]))) (hn_h : T h = none) (hlt : h < sz) : mCv l yX3_init cX3_init 2 2 27 221 D kA M T sz [.ref h] (fun u => u.1 h = none ∧ u.2 h = some 9 ∧ (∀ a t, T a = some t → u.2 a = some t) ∧ (∀ a, a ≠ h → a < sz → u.2 a = T a) ∧ ∀ a, FrA T a → a ≠ h → a < sz → u.1 a = M a) := by
  unfold mCv
  refine start_W (by decide) (Nat.le_of_ble_eq_true rfl) ?_
  intro p e s m below meth c ls hC hr hlk hnm hK hH hsz hl
  have hx := hC.1
  have hb := hC.2.1
  have hl : lv_has ls 2 [(0, .ref h)] := hl
  have hF : ∀ a, FrA T a → a ≠ h → a < sz → M a = M a := fun a _ _ _ => rfl
  have hTF : ∀ a, a ≠ h → a < sz → T a = T a := fun a _ _ => rfl
  have hTT : ∀ a t, T a = some t → T a = some t := fun _ _ h => h
  refine lv_aload_n hx hb dX3_init_0 rfl (lv_at hl 0 rfl) ?_
  refine W.objInit hx hb hC.2.2.2.1 (hC.2.2.2.2 _ wlX3_3) (hC.2.2.2.2 _ w_oi) (hC.2.2.2.2 _ w_oc) rfl (by rw [hC.2.2.1]; exact hl.1) rfl dX3_init_1 (Nat.le_of_ble_eq_true rfl) (Nat.le_of_ble_eq_true rfl) ?_
  refine W.eq (g2 := F0 m 4 ls []) rfl ?_
  refine lv_aload_n hx hb dX3_init_4 rfl (lv_at hl 0 rfl) ?_
  refine lv_bipush (v := 13) hx hb dX3_init_5 (by decide) ?_
  refine ynewq (ck := 4) (N := 13) hC hK hH wcX3_9 (by decide) rfl (by decide) (by decide) (by decide) (Nat.le_of_ble_eq_true rfl) (Nat.le_of_ble_eq_true rfl) dX3_init_7 (fun qq1_ Hq_ Mq2_ e_qq1_ hz nM_qq1_ hn_qq1_ hc_qq1_ hfr hN => ?_)
  have g_qq1_ : sz ≤ qq1_ := by rw [← hsz, e_qq1_]; exact hH.2.1.1
  have n_h_qq1_ : h ≠ qq1_ := neN hc_h nM_qq1_
  have n_qq1__h : qq1_ ≠ h := Ne.symm n_h_qq1_
  have hH := hN
  have hc_qq1_ : Mq2_ qq1_ = some (.inl (kA 4, 13, .inr (.inr (.inr (.inr (fun _ => none)))))) := hc_qq1_
  have hc_h : Mq2_ h = some (.inr (2, [.null])) := (hfr h n_h_qq1_).trans hc_h
  have hF : ∀ a, FrA T a → a ≠ h → a < sz → Mq2_ a = M a := fun a hA h0 h1 => (hfr a (Nat.ne_of_lt (Nat.lt_of_lt_of_le h1 g_qq1_))).trans (hF a hA h0 h1)
  refine ypF (v := .ref qq1_) hC hK hH hnm (fun _ _ _ h => by cases h; rfl) flX3_11 hc_h (noT hn_h) rfl rfl (Nat.le_of_ble_eq_true rfl) dX3_init_10 (fun Hq_ lcq_ Mq3_ hc_h hfr hH => ?_)
  have hc_h : Mq3_ h = some (.inr (2, [.ref qq1_])) := hc_h
  have hc_qq1_ : Mq3_ qq1_ = some (.inl (kA 4, 13, .inr (.inr (.inr (.inr (fun _ => none)))))) := (hfr qq1_ n_qq1__h).trans hc_qq1_
  have hF : ∀ a, FrA T a → a ≠ h → a < sz → Mq3_ a = M a := fun a hA h0 h1 => (hfr a h0).trans (hF a hA h0 h1)
  refine lv_iconst (v := 0) hx hb dX3_init_13 (by decide) ?_
  refine lv_istore_n (lv' := [(1, .int 0), (0, .ref h)]) hx hb dX3_init_14 rfl hl (by decide) rfl (fun ls hl => ?_)
  refine lv_iload_n hx hb dX3_init_15 rfl (lv_at hl 0 rfl) ?_
  refine lv_bipush (v := 12) hx hb dX3_init_16 (by decide) ?_
  refine jic_gt (tgt := 40) hx hb dX3_init_18 (by decide) (fun cq4_ => absurd cq4_ (by decide)) (fun cq4_ => ?_)
  refine lv_aload_n hx hb dX3_init_21 rfl (lv_at hl 1 rfl) ?_
  refine xg hC hK hH flX3_11 hc_h rfl dX3_init_22 ?_
  refine lv_iload_n hx hb dX3_init_25 rfl (lv_at hl 0 rfl) ?_
  refine ynew hC hK hH nlX3_9 (Nat.le_of_ble_eq_true rfl) (Nat.le_of_ble_eq_true rfl) dX3_init_26 (fun qq5_ Hq_ Mq6_ e_qq5_ hz nM_qq5_ hn_qq5_ hc_qq5_ hfr hN => ?_)
  have g_qq5_ : sz ≤ qq5_ := by rw [← hsz, e_qq5_]; exact hH.2.1.1
  have n_h_qq5_ : h ≠ qq5_ := neN hc_h nM_qq5_
  have n_qq5__h : qq5_ ≠ h := Ne.symm n_h_qq5_
  have n_qq1__qq5_ : qq1_ ≠ qq5_ := neN hc_qq1_ nM_qq5_
  have n_qq5__qq1_ : qq5_ ≠ qq1_ := Ne.symm n_qq1__qq5_
  have hH := hN
  have hc_qq5_ : Mq6_ qq5_ = some (.inr (1, [.int 0, .int 0, .int 0, .int 0, .int 0, .int 0, .int 0, .null])) := hc_qq5_
  have hc_h : Mq6_ h = some (.inr (2, [.ref qq1_])) := (hfr h n_h_qq5_).trans hc_h
  have hc_qq1_ : Mq6_ qq1_ = some (.inl (kA 4, 13, .inr (.inr (.inr (.inr (fun _ => none)))))) := (hfr qq1_ n_qq1__qq5_).trans hc_qq1_
  have hF : ∀ a, FrA T a → a ≠ h → a < sz → Mq6_ a = M a := fun a hA h0 h1 => (hfr a (Nat.ne_of_lt (Nat.lt_of_lt_of_le h1 g_qq5_))).trans (hF a hA h0 h1)
  refine lv_dup hx hb dX3_init_29 rfl ?_
  have gH : sz ≤ Array.size Hq_ := by rw [← hsz]; exact hH.2.1.1
  have lt_h : h < Array.size Hq_ := hH.1.ltM (by rw [hc_h]; simp)
  have lt_qq1_ : qq1_ < Array.size Hq_ := hH.1.ltM (by rw [hc_qq1_]; simp)
  have lt_qq5_ : qq5_ < Array.size Hq_ := hH.1.ltM (by rw [hc_qq5_]; simp)
  refine goV hK hH (runIN (As := []) (rest := [.ref qq5_, .int 0, .ref qq1_]) hC hK hH (c_X2_init hc_qq5_ hn_qq5_ lt_qq5_) mlX3_17 ⟨⟨Nat.le_of_ble_eq_true rfl, Nat.le_of_ble_eq_true rfl⟩, Nat.le_of_ble_eq_true rfl, Nat.le_of_ble_eq_true rfl⟩ rfl hl.1 rfl (Nat.le_of_ble_eq_true rfl) dX3_init_30) (fun Mq7_ Tq8_ Hq_ lcq_ hP hz hH => ?_)
  try dsimp only at hP
  obtain ⟨nM_qq5_, t_qq5_, hsub, hfT, hfr⟩ := hP
  have hc_h : Mq7_ h = some (.inr (2, [.ref qq1_])) := (hfr h (Or.inl hn_h) n_h_qq5_ lt_h).trans hc_h
  have hn_h : Tq8_ h = none := (hfT h n_h_qq5_ lt_h).trans hn_h
  have hc_qq1_ : Mq7_ qq1_ = some (.inl (kA 4, 13, .inr (.inr (.inr (.inr (fun _ => none)))))) := (hfr qq1_ (Or.inl hn_qq1_) n_qq1__qq5_ lt_qq1_).trans hc_qq1_
  have hn_qq1_ : Tq8_ qq1_ = none := (hfT qq1_ n_qq1__qq5_ lt_qq1_).trans hn_qq1_
  have hTT : ∀ a t, T a = some t → Tq8_ a = some t := fun a t h => hsub _ _ (hTT a t h)
  have hF : ∀ a, FrA T a → a ≠ h → a < sz → Mq7_ a = M a := fun a hA h0 h1 => (hfr a (FrA.mv (hTF a h0 h1) hA) (Nat.ne_of_lt (Nat.lt_of_lt_of_le h1 g_qq5_)) (Nat.lt_of_lt_of_le h1 gH)).trans (hF a hA h0 h1)
  have hTF : ∀ a, a ≠ h → a < sz → Tq8_ a = T a := fun a h0 h1 => (hfT a (Nat.ne_of_lt (Nat.lt_of_lt_of_le h1 g_qq5_)) (Nat.lt_of_lt_of_le h1 gH)).trans (hTF a h0 h1)
  refine yqst (ck := 4) (cv := 1) (v := qq5_) hC hK hH rfl rfl hc_qq1_ (let ⟨fs, h1, _⟩ := tcell hH t_qq5_ rfl; ⟨fs, h1⟩) (noT hn_qq1_) (iIn (by decide) (by decide)) dX3_init_33 (fun Hq_ lcq_ Mq9_ hc_qq1_ hfr hH => ?_)
  have hc_qq1_ : Mq9_ qq1_ = some (.inl (kA 4, 13, .inr (.inr (.inr (.inr (va_up (fun _ => none) (Int32.toNatClampNeg 0) (some qq5_))))))) := hc_qq1_
  have hc_h : Mq9_ h = some (.inr (2, [.ref qq1_])) := (hfr h n_h_qq1_).trans hc_h
  have hF : ∀ a, FrA T a → a ≠ h → a < sz → Mq9_ a = M a := fun a hA h0 h1 => (hfr a (Nat.ne_of_lt (Nat.lt_of_lt_of_le h1 g_qq1_))).trans (hF a hA h0 h1)
  refine lv_iinc (v := 1) (lv' := [(1, .int 1), (0, .ref h)]) hx hb dX3_init_34 hl (k := 0) rfl (by decide) (by decide) rfl (fun ls hl => ?_)
  refine lv_goto (tgt := 15) hx hb dX3_init_37 (by decide) ?_
  refine lv_iload_n hx hb dX3_init_15 rfl (lv_at hl 0 rfl) ?_
  refine lv_bipush (v := 12) hx hb dX3_init_16 (by decide) ?_
  refine jic_gt (tgt := 40) hx hb dX3_init_18 (by decide) (fun cq10_ => absurd cq10_ (by decide)) (fun cq10_ => ?_)
  refine lv_aload_n hx hb dX3_init_21 rfl (lv_at hl 1 rfl) ?_
  refine xg hC hK hH flX3_11 hc_h rfl dX3_init_22 ?_
  refine lv_iload_n hx hb dX3_init_25 rfl (lv_at hl 0 rfl) ?_
  refine ynew hC hK hH nlX3_9 (Nat.le_of_ble_eq_true rfl) (Nat.le_of_ble_eq_true rfl) dX3_init_26 (fun qq11_ Hq_ Mq12_ e_qq11_ hz nM_qq11_ hn_qq11_ hc_qq11_ hfr hN => ?_)
  have g_qq11_ : sz ≤ qq11_ := by rw [← hsz, e_qq11_]; exact hH.2.1.1
  have n_h_qq11_ : h ≠ qq11_ := neN hc_h nM_qq11_
  have n_qq11__h : qq11_ ≠ h := Ne.symm n_h_qq11_
  have n_qq1__qq11_ : qq1_ ≠ qq11_ := neN hc_qq1_ nM_qq11_
  have n_qq11__qq1_ : qq11_ ≠ qq1_ := Ne.symm n_qq1__qq11_
  have hH := hN
  have hc_qq11_ : Mq12_ qq11_ = some (.inr (1, [.int 0, .int 0, .int 0, .int 0, .int 0, .int 0, .int 0, .null])) := hc_qq11_
  have hc_h : Mq12_ h = some (.inr (2, [.ref qq1_])) := (hfr h n_h_qq11_).trans hc_h
  have hc_qq1_ : Mq12_ qq1_ = some (.inl (kA 4, 13, .inr (.inr (.inr (.inr (va_up (fun _ => none) (Int32.toNatClampNeg 0) (some qq5_))))))) := (hfr qq1_ n_qq1__qq11_).trans hc_qq1_
  have hF : ∀ a, FrA T a → a ≠ h → a < sz → Mq12_ a = M a := fun a hA h0 h1 => (hfr a (Nat.ne_of_lt (Nat.lt_of_lt_of_le h1 g_qq11_))).trans (hF a hA h0 h1)
  refine lv_dup hx hb dX3_init_29 rfl ?_
  have gH : sz ≤ Array.size Hq_ := by rw [← hsz]; exact hH.2.1.1
  have lt_h : h < Array.size Hq_ := hH.1.ltM (by rw [hc_h]; simp)
  have lt_qq1_ : qq1_ < Array.size Hq_ := hH.1.ltM (by rw [hc_qq1_]; simp)
  have lt_qq11_ : qq11_ < Array.size Hq_ := hH.1.ltM (by rw [hc_qq11_]; simp)
  refine goV hK hH (runIN (As := []) (rest := [.ref qq11_, .int 1, .ref qq1_]) hC hK hH (c_X2_init hc_qq11_ hn_qq11_ lt_qq11_) mlX3_17 ⟨⟨Nat.le_of_ble_eq_true rfl, Nat.le_of_ble_eq_true rfl⟩, Nat.le_of_ble_eq_true rfl, Nat.le_of_ble_eq_true rfl⟩ rfl hl.1 rfl (Nat.le_of_ble_eq_true rfl) dX3_init_30) (fun Mq13_ Tq14_ Hq_ lcq_ hP hz hH => ?_)
  try dsimp only at hP
  obtain ⟨nM_qq11_, t_qq11_, hsub, hfT, hfr⟩ := hP
  have hc_h : Mq13_ h = some (.inr (2, [.ref qq1_])) := (hfr h (Or.inl hn_h) n_h_qq11_ lt_h).trans hc_h
  have hn_h : Tq14_ h = none := (hfT h n_h_qq11_ lt_h).trans hn_h
  have hc_qq1_ : Mq13_ qq1_ = some (.inl (kA 4, 13, .inr (.inr (.inr (.inr (va_up (fun _ => none) (Int32.toNatClampNeg 0) (some qq5_))))))) := (hfr qq1_ (Or.inl hn_qq1_) n_qq1__qq11_ lt_qq1_).trans hc_qq1_
  have hn_qq1_ : Tq14_ qq1_ = none := (hfT qq1_ n_qq1__qq11_ lt_qq1_).trans hn_qq1_
  have t_qq5_ : Tq14_ qq5_ = some 1 := hsub _ _ t_qq5_
  have hTT : ∀ a t, T a = some t → Tq14_ a = some t := fun a t h => hsub _ _ (hTT a t h)
  have hF : ∀ a, FrA T a → a ≠ h → a < sz → Mq13_ a = M a := fun a hA h0 h1 => (hfr a (FrA.mv (hTF a h0 h1) hA) (Nat.ne_of_lt (Nat.lt_of_lt_of_le h1 g_qq11_)) (Nat.lt_of_lt_of_le h1 gH)).trans (hF a hA h0 h1)
  have hTF : ∀ a, a ≠ h → a < sz → Tq14_ a = T a := fun a h0 h1 => (hfT a (Nat.ne_of_lt (Nat.lt_of_lt_of_le h1 g_qq11_)) (Nat.lt_of_lt_of_le h1 gH)).trans (hTF a h0 h1)
  refine yqst (ck := 4) (cv := 1) (v := qq11_) hC hK hH rfl rfl hc_qq1_ (let ⟨fs, h1, _⟩ := tcell hH t_qq11_ rfl; ⟨fs, h1⟩) (noT hn_qq1_) (iIn (by decide) (by decide)) dX3_init_33 (fun Hq_ lcq_ Mq15_ hc_qq1_ hfr hH => ?_)
  have hc_qq1_ : Mq15_ qq1_ = some (.inl (kA 4, 13, .inr (.inr (.inr (.inr (va_up (va_up (fun _ => none) (Int32.toNatClampNeg 0) (some qq5_)) (Int32.toNatClampNeg 1) (some qq11_))))))) := hc_qq1_
  have hc_h : Mq15_ h = some (.inr (2, [.ref qq1_])) := (hfr h n_h_qq1_).trans hc_h
  have hF : ∀ a, FrA T a → a ≠ h → a < sz → Mq15_ a = M a := fun a hA h0 h1 => (hfr a (Nat.ne_of_lt (Nat.lt_of_lt_of_le h1 g_qq1_))).trans (hF a hA h0 h1)
  refine lv_iinc (v := 2) (lv' := [(1, .int 2), (0, .ref h)]) hx hb dX3_init_34 hl (k := 0) rfl (by decide) (by decide) rfl (fun ls hl => ?_)
  refine lv_goto (tgt := 15) hx hb dX3_init_37 (by decide) ?_
  refine lv_iload_n hx hb dX3_init_15 rfl (lv_at hl 0 rfl) ?_
  refine lv_bipush (v := 12) hx hb dX3_init_16 (by decide) ?_
  refine jic_gt (tgt := 40) hx hb dX3_init_18 (by decide) (fun cq16_ => absurd cq16_ (by decide)) (fun cq16_ => ?_)
  refine lv_aload_n hx hb dX3_init_21 rfl (lv_at hl 1 rfl) ?_
  refine xg hC hK hH flX3_11 hc_h rfl dX3_init_22 ?_
  refine lv_iload_n hx hb dX3_init_25 rfl (lv_at hl 0 rfl) ?_
  refine ynew hC hK hH nlX3_9 (Nat.le_of_ble_eq_true rfl) (Nat.le_of_ble_eq_true rfl) dX3_init_26 (fun qq17_ Hq_ Mq18_ e_qq17_ hz nM_qq17_ hn_qq17_ hc_qq17_ hfr hN => ?_)
  have g_qq17_ : sz ≤ qq17_ := by rw [← hsz, e_qq17_]; exact hH.2.1.1
  have n_h_qq17_ : h ≠ qq17_ := neN hc_h nM_qq17_
  have n_qq17__h : qq17_ ≠ h := Ne.symm n_h_qq17_
  have n_qq1__qq17_ : qq1_ ≠ qq17_ := neN hc_qq1_ nM_qq17_
  have n_qq17__qq1_ : qq17_ ≠ qq1_ := Ne.symm n_qq1__qq17_
  have hH := hN
  have hc_qq17_ : Mq18_ qq17_ = some (.inr (1, [.int 0, .int 0, .int 0, .int 0, .int 0, .int 0, .int 0, .null])) := hc_qq17_
  have hc_h : Mq18_ h = some (.inr (2, [.ref qq1_])) := (hfr h n_h_qq17_).trans hc_h
  have hc_qq1_ : Mq18_ qq1_ = some (.inl (kA 4, 13, .inr (.inr (.inr (.inr (va_up (va_up (fun _ => none) (Int32.toNatClampNeg 0) (some qq5_)) (Int32.toNatClampNeg 1) (some qq11_))))))) := (hfr qq1_ n_qq1__qq17_).trans hc_qq1_
  have hF : ∀ a, FrA T a → a ≠ h → a < sz → Mq18_ a = M a := fun a hA h0 h1 => (hfr a (Nat.ne_of_lt (Nat.lt_of_lt_of_le h1 g_qq17_))).trans (hF a hA h0 h1)
  refine lv_dup hx hb dX3_init_29 rfl ?_
  have gH : sz ≤ Array.size Hq_ := by rw [← hsz]; exact hH.2.1.1
  have lt_h : h < Array.size Hq_ := hH.1.ltM (by rw [hc_h]; simp)
  have lt_qq1_ : qq1_ < Array.size Hq_ := hH.1.ltM (by rw [hc_qq1_]; simp)
  have lt_qq17_ : qq17_ < Array.size Hq_ := hH.1.ltM (by rw [hc_qq17_]; simp)
  refine goV hK hH (runIN (As := []) (rest := [.ref qq17_, .int 2, .ref qq1_]) hC hK hH (c_X2_init hc_qq17_ hn_qq17_ lt_qq17_) mlX3_17 ⟨⟨Nat.le_of_ble_eq_true rfl, Nat.le_of_ble_eq_true rfl⟩, Nat.le_of_ble_eq_true rfl, Nat.le_of_ble_eq_true rfl⟩ rfl hl.1 rfl (Nat.le_of_ble_eq_true rfl) dX3_init_30) (fun Mq19_ Tq20_ Hq_ lcq_ hP hz hH => ?_)
  try dsimp only at hP
  obtain ⟨nM_qq17_, t_qq17_, hsub, hfT, hfr⟩ := hP
  have hc_h : Mq19_ h = some (.inr (2, [.ref qq1_])) := (hfr h (Or.inl hn_h) n_h_qq17_ lt_h).trans hc_h
  have hn_h : Tq20_ h = none := (hfT h n_h_qq17_ lt_h).trans hn_h
  have hc_qq1_ : Mq19_ qq1_ = some (.inl (kA 4, 13, .inr (.inr (.inr (.inr (va_up (va_up (fun _ => none) (Int32.toNatClampNeg 0) (some qq5_)) (Int32.toNatClampNeg 1) (some qq11_))))))) := (hfr qq1_ (Or.inl hn_qq1_) n_qq1__qq17_ lt_qq1_).trans hc_qq1_
  have hn_qq1_ : Tq20_ qq1_ = none := (hfT qq1_ n_qq1__qq17_ lt_qq1_).trans hn_qq1_
  have t_qq5_ : Tq20_ qq5_ = some 1 := hsub _ _ t_qq5_
  have t_qq11_ : Tq20_ qq11_ = some 1 := hsub _ _ t_qq11_
  have hTT : ∀ a t, T a = some t → Tq20_ a = some t := fun a t h => hsub _ _ (hTT a t h)
  have hF : ∀ a, FrA T a → a ≠ h → a < sz → Mq19_ a = M a := fun a hA h0 h1 => (hfr a (FrA.mv (hTF a h0 h1) hA) (Nat.ne_of_lt (Nat.lt_of_lt_of_le h1 g_qq17_)) (Nat.lt_of_lt_of_le h1 gH)).trans (hF a hA h0 h1)
  have hTF : ∀ a, a ≠ h → a < sz → Tq20_ a = T a := fun a h0 h1 => (hfT a (Nat.ne_of_lt (Nat.lt_of_lt_of_le h1 g_qq17_)) (Nat.lt_of_lt_of_le h1 gH)).trans (hTF a h0 h1)
  refine yqst (ck := 4) (cv := 1) (v := qq17_) hC hK hH rfl rfl hc_qq1_ (let ⟨fs, h1, _⟩ := tcell hH t_qq17_ rfl; ⟨fs, h1⟩) (noT hn_qq1_) (iIn (by decide) (by decide)) dX3_init_33 (fun Hq_ lcq_ Mq21_ hc_qq1_ hfr hH => ?_)
  have hc_qq1_ : Mq21_ qq1_ = some (.inl (kA 4, 13, .inr (.inr (.inr (.inr (va_up (va_up (va_up (fun _ => none) (Int32.toNatClampNeg 0) (some qq5_)) (Int32.toNatClampNeg 1) (some qq11_)) (Int32.toNatClampNeg 2) (some qq17_))))))) := hc_qq1_
  have hc_h : Mq21_ h = some (.inr (2, [.ref qq1_])) := (hfr h n_h_qq1_).trans hc_h
  have hF : ∀ a, FrA T a → a ≠ h → a < sz → Mq21_ a = M a := fun a hA h0 h1 => (hfr a (Nat.ne_of_lt (Nat.lt_of_lt_of_le h1 g_qq1_))).trans (hF a hA h0 h1)
  refine lv_iinc (v := 3) (lv' := [(1, .int 3), (0, .ref h)]) hx hb dX3_init_34 hl (k := 0) rfl (by decide) (by decide) rfl (fun ls hl => ?_)
  refine lv_goto (tgt := 15) hx hb dX3_init_37 (by decide) ?_
  refine lv_iload_n hx hb dX3_init_15 rfl (lv_at hl 0 rfl) ?_
  refine lv_bipush (v := 12) hx hb dX3_init_16 (by decide) ?_
  refine jic_gt (tgt := 40) hx hb dX3_init_18 (by decide) (fun cq22_ => absurd cq22_ (by decide)) (fun cq22_ => ?_)
  refine lv_aload_n hx hb dX3_init_21 rfl (lv_at hl 1 rfl) ?_
  refine xg hC hK hH flX3_11 hc_h rfl dX3_init_22 ?_
  refine lv_iload_n hx hb dX3_init_25 rfl (lv_at hl 0 rfl) ?_
  refine ynew hC hK hH nlX3_9 (Nat.le_of_ble_eq_true rfl) (Nat.le_of_ble_eq_true rfl) dX3_init_26 (fun qq23_ Hq_ Mq24_ e_qq23_ hz nM_qq23_ hn_qq23_ hc_qq23_ hfr hN => ?_)
  have g_qq23_ : sz ≤ qq23_ := by rw [← hsz, e_qq23_]; exact hH.2.1.1
  have n_h_qq23_ : h ≠ qq23_ := neN hc_h nM_qq23_
  have n_qq23__h : qq23_ ≠ h := Ne.symm n_h_qq23_
  have n_qq1__qq23_ : qq1_ ≠ qq23_ := neN hc_qq1_ nM_qq23_
  have n_qq23__qq1_ : qq23_ ≠ qq1_ := Ne.symm n_qq1__qq23_
  have hH := hN
  have hc_qq23_ : Mq24_ qq23_ = some (.inr (1, [.int 0, .int 0, .int 0, .int 0, .int 0, .int 0, .int 0, .null])) := hc_qq23_
  have hc_h : Mq24_ h = some (.inr (2, [.ref qq1_])) := (hfr h n_h_qq23_).trans hc_h
  have hc_qq1_ : Mq24_ qq1_ = some (.inl (kA 4, 13, .inr (.inr (.inr (.inr (va_up (va_up (va_up (fun _ => none) (Int32.toNatClampNeg 0) (some qq5_)) (Int32.toNatClampNeg 1) (some qq11_)) (Int32.toNatClampNeg 2) (some qq17_))))))) := (hfr qq1_ n_qq1__qq23_).trans hc_qq1_
  have hF : ∀ a, FrA T a → a ≠ h → a < sz → Mq24_ a = M a := fun a hA h0 h1 => (hfr a (Nat.ne_of_lt (Nat.lt_of_lt_of_le h1 g_qq23_))).trans (hF a hA h0 h1)
  refine lv_dup hx hb dX3_init_29 rfl ?_
  have gH : sz ≤ Array.size Hq_ := by rw [← hsz]; exact hH.2.1.1
  have lt_h : h < Array.size Hq_ := hH.1.ltM (by rw [hc_h]; simp)
  have lt_qq1_ : qq1_ < Array.size Hq_ := hH.1.ltM (by rw [hc_qq1_]; simp)
  have lt_qq23_ : qq23_ < Array.size Hq_ := hH.1.ltM (by rw [hc_qq23_]; simp)
  refine goV hK hH (runIN (As := []) (rest := [.ref qq23_, .int 3, .ref qq1_]) hC hK hH (c_X2_init hc_qq23_ hn_qq23_ lt_qq23_) mlX3_17 ⟨⟨Nat.le_of_ble_eq_true rfl, Nat.le_of_ble_eq_true rfl⟩, Nat.le_of_ble_eq_true rfl, Nat.le_of_ble_eq_true rfl⟩ rfl hl.1 rfl (Nat.le_of_ble_eq_true rfl) dX3_init_30) (fun Mq25_ Tq26_ Hq_ lcq_ hP hz hH => ?_)
  try dsimp only at hP
  obtain ⟨nM_qq23_, t_qq23_, hsub, hfT, hfr⟩ := hP
  have hc_h : Mq25_ h = some (.inr (2, [.ref qq1_])) := (hfr h (Or.inl hn_h) n_h_qq23_ lt_h).trans hc_h
  have hn_h : Tq26_ h = none := (hfT h n_h_qq23_ lt_h).trans hn_h
  have hc_qq1_ : Mq25_ qq1_ = some (.inl (kA 4, 13, .inr (.inr (.inr (.inr (va_up (va_up (va_up (fun _ => none) (Int32.toNatClampNeg 0) (some qq5_)) (Int32.toNatClampNeg 1) (some qq11_)) (Int32.toNatClampNeg 2) (some qq17_))))))) := (hfr qq1_ (Or.inl hn_qq1_) n_qq1__qq23_ lt_qq1_).trans hc_qq1_
  have hn_qq1_ : Tq26_ qq1_ = none := (hfT qq1_ n_qq1__qq23_ lt_qq1_).trans hn_qq1_
  have t_qq5_ : Tq26_ qq5_ = some 1 := hsub _ _ t_qq5_
  have t_qq11_ : Tq26_ qq11_ = some 1 := hsub _ _ t_qq11_
  have t_qq17_ : Tq26_ qq17_ = some 1 := hsub _ _ t_qq17_
  have hTT : ∀ a t, T a = some t → Tq26_ a = some t := fun a t h => hsub _ _ (hTT a t h)
  have hF : ∀ a, FrA T a → a ≠ h → a < sz → Mq25_ a = M a := fun a hA h0 h1 => (hfr a (FrA.mv (hTF a h0 h1) hA) (Nat.ne_of_lt (Nat.lt_of_lt_of_le h1 g_qq23_)) (Nat.lt_of_lt_of_le h1 gH)).trans (hF a hA h0 h1)
  have hTF : ∀ a, a ≠ h → a < sz → Tq26_ a = T a := fun a h0 h1 => (hfT a (Nat.ne_of_lt (Nat.lt_of_lt_of_le h1 g_qq23_)) (Nat.lt_of_lt_of_le h1 gH)).trans (hTF a h0 h1)
  refine yqst (ck := 4) (cv := 1) (v := qq23_) hC hK hH rfl rfl hc_qq1_ (let ⟨fs, h1, _⟩ := tcell hH t_qq23_ rfl; ⟨fs, h1⟩) (noT hn_qq1_) (iIn (by decide) (by decide)) dX3_init_33 (fun Hq_ lcq_ Mq27_ hc_qq1_ hfr hH => ?_)
  have hc_qq1_ : Mq27_ qq1_ = some (.inl (kA 4, 13, .inr (.inr (.inr (.inr (va_up (va_up (va_up (va_up (fun _ => none) (Int32.toNatClampNeg 0) (some qq5_)) (Int32.toNatClampNeg 1) (some qq11_)) (Int32.toNatClampNeg 2) (some qq17_)) (Int32.toNatClampNeg 3) (some qq23_))))))) := hc_qq1_
  have hc_h : Mq27_ h = some (.inr (2, [.ref qq1_])) := (hfr h n_h_qq1_).trans hc_h
  have hF : ∀ a, FrA T a → a ≠ h → a < sz → Mq27_ a = M a := fun a hA h0 h1 => (hfr a (Nat.ne_of_lt (Nat.lt_of_lt_of_le h1 g_qq1_))).trans (hF a hA h0 h1)
  refine lv_iinc (v := 4) (lv' := [(1, .int 4), (0, .ref h)]) hx hb dX3_init_34 hl (k := 0) rfl (by decide) (by decide) rfl (fun ls hl => ?_)
  refine lv_goto (tgt := 15) hx hb dX3_init_37 (by decide) ?_
  refine lv_iload_n hx hb dX3_init_15 rfl (lv_at hl 0 rfl) ?_
  refine lv_bipush (v := 12) hx hb dX3_init_16 (by decide) ?_
  refine jic_gt (tgt := 40) hx hb dX3_init_18 (by decide) (fun cq28_ => absurd cq28_ (by decide)) (fun cq28_ => ?_)
  refine lv_aload_n hx hb dX3_init_21 rfl (lv_at hl 1 rfl) ?_
  refine xg hC hK hH flX3_11 hc_h rfl dX3_init_22 ?_
  refine lv_iload_n hx hb dX3_init_25 rfl (lv_at hl 0 rfl) ?_
  refine ynew hC hK hH nlX3_9 (Nat.le_of_ble_eq_true rfl) (Nat.le_of_ble_eq_true rfl) dX3_init_26 (fun qq29_ Hq_ Mq30_ e_qq29_ hz nM_qq29_ hn_qq29_ hc_qq29_ hfr hN => ?_)
  have g_qq29_ : sz ≤ qq29_ := by rw [← hsz, e_qq29_]; exact hH.2.1.1
  have n_h_qq29_ : h ≠ qq29_ := neN hc_h nM_qq29_
  have n_qq29__h : qq29_ ≠ h := Ne.symm n_h_qq29_
  have n_qq1__qq29_ : qq1_ ≠ qq29_ := neN hc_qq1_ nM_qq29_
  have n_qq29__qq1_ : qq29_ ≠ qq1_ := Ne.symm n_qq1__qq29_
  have hH := hN
  have hc_qq29_ : Mq30_ qq29_ = some (.inr (1, [.int 0, .int 0, .int 0, .int 0, .int 0, .int 0, .int 0, .null])) := hc_qq29_
  have hc_h : Mq30_ h = some (.inr (2, [.ref qq1_])) := (hfr h n_h_qq29_).trans hc_h
  have hc_qq1_ : Mq30_ qq1_ = some (.inl (kA 4, 13, .inr (.inr (.inr (.inr (va_up (va_up (va_up (va_up (fun _ => none) (Int32.toNatClampNeg 0) (some qq5_)) (Int32.toNatClampNeg 1) (some qq11_)) (Int32.toNatClampNeg 2) (some qq17_)) (Int32.toNatClampNeg 3) (some qq23_))))))) := (hfr qq1_ n_qq1__qq29_).trans hc_qq1_
  have hF : ∀ a, FrA T a → a ≠ h → a < sz → Mq30_ a = M a := fun a hA h0 h1 => (hfr a (Nat.ne_of_lt (Nat.lt_of_lt_of_le h1 g_qq29_))).trans (hF a hA h0 h1)
  refine lv_dup hx hb dX3_init_29 rfl ?_
  have gH : sz ≤ Array.size Hq_ := by rw [← hsz]; exact hH.2.1.1
  have lt_h : h < Array.size Hq_ := hH.1.ltM (by rw [hc_h]; simp)
  have lt_qq1_ : qq1_ < Array.size Hq_ := hH.1.ltM (by rw [hc_qq1_]; simp)
  have lt_qq29_ : qq29_ < Array.size Hq_ := hH.1.ltM (by rw [hc_qq29_]; simp)
  refine goV hK hH (runIN (As := []) (rest := [.ref qq29_, .int 4, .ref qq1_]) hC hK hH (c_X2_init hc_qq29_ hn_qq29_ lt_qq29_) mlX3_17 ⟨⟨Nat.le_of_ble_eq_true rfl, Nat.le_of_ble_eq_true rfl⟩, Nat.le_of_ble_eq_true rfl, Nat.le_of_ble_eq_true rfl⟩ rfl hl.1 rfl (Nat.le_of_ble_eq_true rfl) dX3_init_30) (fun Mq31_ Tq32_ Hq_ lcq_ hP hz hH => ?_)
  try dsimp only at hP
  obtain ⟨nM_qq29_, t_qq29_, hsub, hfT, hfr⟩ := hP
  have hc_h : Mq31_ h = some (.inr (2, [.ref qq1_])) := (hfr h (Or.inl hn_h) n_h_qq29_ lt_h).trans hc_h
  have hn_h : Tq32_ h = none := (hfT h n_h_qq29_ lt_h).trans hn_h
  have hc_qq1_ : Mq31_ qq1_ = some (.inl (kA 4, 13, .inr (.inr (.inr (.inr (va_up (va_up (va_up (va_up (fun _ => none) (Int32.toNatClampNeg 0) (some qq5_)) (Int32.toNatClampNeg 1) (some qq11_)) (Int32.toNatClampNeg 2) (some qq17_)) (Int32.toNatClampNeg 3) (some qq23_))))))) := (hfr qq1_ (Or.inl hn_qq1_) n_qq1__qq29_ lt_qq1_).trans hc_qq1_
  have hn_qq1_ : Tq32_ qq1_ = none := (hfT qq1_ n_qq1__qq29_ lt_qq1_).trans hn_qq1_
  have t_qq5_ : Tq32_ qq5_ = some 1 := hsub _ _ t_qq5_
  have t_qq11_ : Tq32_ qq11_ = some 1 := hsub _ _ t_qq11_
  have t_qq17_ : Tq32_ qq17_ = some 1 := hsub _ _ t_qq17_
  have t_qq23_ : Tq32_ qq23_ = some 1 := hsub _ _ t_qq23_
  have hTT : ∀ a t, T a = some t → Tq32_ a = some t := fun a t h => hsub _ _ (hTT a t h)
  have hF : ∀ a, FrA T a → a ≠ h → a < sz → Mq31_ a = M a := fun a hA h0 h1 => (hfr a (FrA.mv (hTF a h0 h1) hA) (Nat.ne_of_lt (Nat.lt_of_lt_of_le h1 g_qq29_)) (Nat.lt_of_lt_of_le h1 gH)).trans (hF a hA h0 h1)
  have hTF : ∀ a, a ≠ h → a < sz → Tq32_ a = T a := fun a h0 h1 => (hfT a (Nat.ne_of_lt (Nat.lt_of_lt_of_le h1 g_qq29_)) (Nat.lt_of_lt_of_le h1 gH)).trans (hTF a h0 h1)
  refine yqst (ck := 4) (cv := 1) (v := qq29_) hC hK hH rfl rfl hc_qq1_ (let ⟨fs, h1, _⟩ := tcell hH t_qq29_ rfl; ⟨fs, h1⟩) (noT hn_qq1_) (iIn (by decide) (by decide)) dX3_init_33 (fun Hq_ lcq_ Mq33_ hc_qq1_ hfr hH => ?_)
  have hc_qq1_ : Mq33_ qq1_ = some (.inl (kA 4, 13, .inr (.inr (.inr (.inr (va_up (va_up (va_up (va_up (va_up (fun _ => none) (Int32.toNatClampNeg 0) (some qq5_)) (Int32.toNatClampNeg 1) (some qq11_)) (Int32.toNatClampNeg 2) (some qq17_)) (Int32.toNatClampNeg 3) (some qq23_)) (Int32.toNatClampNeg 4) (some qq29_))))))) := hc_qq1_
  have hc_h : Mq33_ h = some (.inr (2, [.ref qq1_])) := (hfr h n_h_qq1_).trans hc_h
  have hF : ∀ a, FrA T a → a ≠ h → a < sz → Mq33_ a = M a := fun a hA h0 h1 => (hfr a (Nat.ne_of_lt (Nat.lt_of_lt_of_le h1 g_qq1_))).trans (hF a hA h0 h1)
  refine lv_iinc (v := 5) (lv' := [(1, .int 5), (0, .ref h)]) hx hb dX3_init_34 hl (k := 0) rfl (by decide) (by decide) rfl (fun ls hl => ?_)
  refine lv_goto (tgt := 15) hx hb dX3_init_37 (by decide) ?_
  refine lv_iload_n hx hb dX3_init_15 rfl (lv_at hl 0 rfl) ?_
  refine lv_bipush (v := 12) hx hb dX3_init_16 (by decide) ?_
  refine jic_gt (tgt := 40) hx hb dX3_init_18 (by decide) (fun cq34_ => absurd cq34_ (by decide)) (fun cq34_ => ?_)
  refine lv_aload_n hx hb dX3_init_21 rfl (lv_at hl 1 rfl) ?_
  refine xg hC hK hH flX3_11 hc_h rfl dX3_init_22 ?_
  refine lv_iload_n hx hb dX3_init_25 rfl (lv_at hl 0 rfl) ?_
  refine ynew hC hK hH nlX3_9 (Nat.le_of_ble_eq_true rfl) (Nat.le_of_ble_eq_true rfl) dX3_init_26 (fun qq35_ Hq_ Mq36_ e_qq35_ hz nM_qq35_ hn_qq35_ hc_qq35_ hfr hN => ?_)
  have g_qq35_ : sz ≤ qq35_ := by rw [← hsz, e_qq35_]; exact hH.2.1.1
  have n_h_qq35_ : h ≠ qq35_ := neN hc_h nM_qq35_
  have n_qq35__h : qq35_ ≠ h := Ne.symm n_h_qq35_
  have n_qq1__qq35_ : qq1_ ≠ qq35_ := neN hc_qq1_ nM_qq35_
  have n_qq35__qq1_ : qq35_ ≠ qq1_ := Ne.symm n_qq1__qq35_
  have hH := hN
  have hc_qq35_ : Mq36_ qq35_ = some (.inr (1, [.int 0, .int 0, .int 0, .int 0, .int 0, .int 0, .int 0, .null])) := hc_qq35_
  have hc_h : Mq36_ h = some (.inr (2, [.ref qq1_])) := (hfr h n_h_qq35_).trans hc_h
  have hc_qq1_ : Mq36_ qq1_ = some (.inl (kA 4, 13, .inr (.inr (.inr (.inr (va_up (va_up (va_up (va_up (va_up (fun _ => none) (Int32.toNatClampNeg 0) (some qq5_)) (Int32.toNatClampNeg 1) (some qq11_)) (Int32.toNatClampNeg 2) (some qq17_)) (Int32.toNatClampNeg 3) (some qq23_)) (Int32.toNatClampNeg 4) (some qq29_))))))) := (hfr qq1_ n_qq1__qq35_).trans hc_qq1_
  have hF : ∀ a, FrA T a → a ≠ h → a < sz → Mq36_ a = M a := fun a hA h0 h1 => (hfr a (Nat.ne_of_lt (Nat.lt_of_lt_of_le h1 g_qq35_))).trans (hF a hA h0 h1)
  refine lv_dup hx hb dX3_init_29 rfl ?_
  have gH : sz ≤ Array.size Hq_ := by rw [← hsz]; exact hH.2.1.1
  have lt_h : h < Array.size Hq_ := hH.1.ltM (by rw [hc_h]; simp)
  have lt_qq1_ : qq1_ < Array.size Hq_ := hH.1.ltM (by rw [hc_qq1_]; simp)
  have lt_qq35_ : qq35_ < Array.size Hq_ := hH.1.ltM (by rw [hc_qq35_]; simp)
  refine goV hK hH (runIN (As := []) (rest := [.ref qq35_, .int 5, .ref qq1_]) hC hK hH (c_X2_init hc_qq35_ hn_qq35_ lt_qq35_) mlX3_17 ⟨⟨Nat.le_of_ble_eq_true rfl, Nat.le_of_ble_eq_true rfl⟩, Nat.le_of_ble_eq_true rfl, Nat.le_of_ble_eq_true rfl⟩ rfl hl.1 rfl (Nat.le_of_ble_eq_true rfl) dX3_init_30) (fun Mq37_ Tq38_ Hq_ lcq_ hP hz hH => ?_)
  try dsimp only at hP
  obtain ⟨nM_qq35_, t_qq35_, hsub, hfT, hfr⟩ := hP
  have hc_h : Mq37_ h = some (.inr (2, [.ref qq1_])) := (hfr h (Or.inl hn_h) n_h_qq35_ lt_h).trans hc_h
  have hn_h : Tq38_ h = none := (hfT h n_h_qq35_ lt_h).trans hn_h
  have hc_qq1_ : Mq37_ qq1_ = some (.inl (kA 4, 13, .inr (.inr (.inr (.inr (va_up (va_up (va_up (va_up (va_up (fun _ => none) (Int32.toNatClampNeg 0) (some qq5_)) (Int32.toNatClampNeg 1) (some qq11_)) (Int32.toNatClampNeg 2) (some qq17_)) (Int32.toNatClampNeg 3) (some qq23_)) (Int32.toNatClampNeg 4) (some qq29_))))))) := (hfr qq1_ (Or.inl hn_qq1_) n_qq1__qq35_ lt_qq1_).trans hc_qq1_
  have hn_qq1_ : Tq38_ qq1_ = none := (hfT qq1_ n_qq1__qq35_ lt_qq1_).trans hn_qq1_
  have t_qq5_ : Tq38_ qq5_ = some 1 := hsub _ _ t_qq5_
  have t_qq11_ : Tq38_ qq11_ = some 1 := hsub _ _ t_qq11_
  have t_qq17_ : Tq38_ qq17_ = some 1 := hsub _ _ t_qq17_
  have t_qq23_ : Tq38_ qq23_ = some 1 := hsub _ _ t_qq23_
  have t_qq29_ : Tq38_ qq29_ = some 1 := hsub _ _ t_qq29_
  have hTT : ∀ a t, T a = some t → Tq38_ a = some t := fun a t h => hsub _ _ (hTT a t h)
  have hF : ∀ a, FrA T a → a ≠ h → a < sz → Mq37_ a = M a := fun a hA h0 h1 => (hfr a (FrA.mv (hTF a h0 h1) hA) (Nat.ne_of_lt (Nat.lt_of_lt_of_le h1 g_qq35_)) (Nat.lt_of_lt_of_le h1 gH)).trans (hF a hA h0 h1)
  have hTF : ∀ a, a ≠ h → a < sz → Tq38_ a = T a := fun a h0 h1 => (hfT a (Nat.ne_of_lt (Nat.lt_of_lt_of_le h1 g_qq35_)) (Nat.lt_of_lt_of_le h1 gH)).trans (hTF a h0 h1)
  refine yqst (ck := 4) (cv := 1) (v := qq35_) hC hK hH rfl rfl hc_qq1_ (let ⟨fs, h1, _⟩ := tcell hH t_qq35_ rfl; ⟨fs, h1⟩) (noT hn_qq1_) (iIn (by decide) (by decide)) dX3_init_33 (fun Hq_ lcq_ Mq39_ hc_qq1_ hfr hH => ?_)
  have hc_qq1_ : Mq39_ qq1_ = some (.inl (kA 4, 13, .inr (.inr (.inr (.inr (va_up (va_up (va_up (va_up (va_up (va_up (fun _ => none) (Int32.toNatClampNeg 0) (some qq5_)) (Int32.toNatClampNeg 1) (some qq11_)) (Int32.toNatClampNeg 2) (some qq17_)) (Int32.toNatClampNeg 3) (some qq23_)) (Int32.toNatClampNeg 4) (some qq29_)) (Int32.toNatClampNeg 5) (some qq35_))))))) := hc_qq1_
  have hc_h : Mq39_ h = some (.inr (2, [.ref qq1_])) := (hfr h n_h_qq1_).trans hc_h
  have hF : ∀ a, FrA T a → a ≠ h → a < sz → Mq39_ a = M a := fun a hA h0 h1 => (hfr a (Nat.ne_of_lt (Nat.lt_of_lt_of_le h1 g_qq1_))).trans (hF a hA h0 h1)
  refine lv_iinc (v := 6) (lv' := [(1, .int 6), (0, .ref h)]) hx hb dX3_init_34 hl (k := 0) rfl (by decide) (by decide) rfl (fun ls hl => ?_)
  refine lv_goto (tgt := 15) hx hb dX3_init_37 (by decide) ?_
  refine lv_iload_n hx hb dX3_init_15 rfl (lv_at hl 0 rfl) ?_
  refine lv_bipush (v := 12) hx hb dX3_init_16 (by decide) ?_
  refine jic_gt (tgt := 40) hx hb dX3_init_18 (by decide) (fun cq40_ => absurd cq40_ (by decide)) (fun cq40_ => ?_)
  refine lv_aload_n hx hb dX3_init_21 rfl (lv_at hl 1 rfl) ?_
  refine xg hC hK hH flX3_11 hc_h rfl dX3_init_22 ?_
  refine lv_iload_n hx hb dX3_init_25 rfl (lv_at hl 0 rfl) ?_
  refine ynew hC hK hH nlX3_9 (Nat.le_of_ble_eq_true rfl) (Nat.le_of_ble_eq_true rfl) dX3_init_26 (fun qq41_ Hq_ Mq42_ e_qq41_ hz nM_qq41_ hn_qq41_ hc_qq41_ hfr hN => ?_)
  have g_qq41_ : sz ≤ qq41_ := by rw [← hsz, e_qq41_]; exact hH.2.1.1
  have n_h_qq41_ : h ≠ qq41_ := neN hc_h nM_qq41_
  have n_qq41__h : qq41_ ≠ h := Ne.symm n_h_qq41_
  have n_qq1__qq41_ : qq1_ ≠ qq41_ := neN hc_qq1_ nM_qq41_
  have n_qq41__qq1_ : qq41_ ≠ qq1_ := Ne.symm n_qq1__qq41_
  have hH := hN
  have hc_qq41_ : Mq42_ qq41_ = some (.inr (1, [.int 0, .int 0, .int 0, .int 0, .int 0, .int 0, .int 0, .null])) := hc_qq41_
  have hc_h : Mq42_ h = some (.inr (2, [.ref qq1_])) := (hfr h n_h_qq41_).trans hc_h
  have hc_qq1_ : Mq42_ qq1_ = some (.inl (kA 4, 13, .inr (.inr (.inr (.inr (va_up (va_up (va_up (va_up (va_up (va_up (fun _ => none) (Int32.toNatClampNeg 0) (some qq5_)) (Int32.toNatClampNeg 1) (some qq11_)) (Int32.toNatClampNeg 2) (some qq17_)) (Int32.toNatClampNeg 3) (some qq23_)) (Int32.toNatClampNeg 4) (some qq29_)) (Int32.toNatClampNeg 5) (some qq35_))))))) := (hfr qq1_ n_qq1__qq41_).trans hc_qq1_
  have hF : ∀ a, FrA T a → a ≠ h → a < sz → Mq42_ a = M a := fun a hA h0 h1 => (hfr a (Nat.ne_of_lt (Nat.lt_of_lt_of_le h1 g_qq41_))).trans (hF a hA h0 h1)
  refine lv_dup hx hb dX3_init_29 rfl ?_
  have gH : sz ≤ Array.size Hq_ := by rw [← hsz]; exact hH.2.1.1
  have lt_h : h < Array.size Hq_ := hH.1.ltM (by rw [hc_h]; simp)
  have lt_qq1_ : qq1_ < Array.size Hq_ := hH.1.ltM (by rw [hc_qq1_]; simp)
  have lt_qq41_ : qq41_ < Array.size Hq_ := hH.1.ltM (by rw [hc_qq41_]; simp)
  refine goV hK hH (runIN (As := []) (rest := [.ref qq41_, .int 6, .ref qq1_]) hC hK hH (c_X2_init hc_qq41_ hn_qq41_ lt_qq41_) mlX3_17 ⟨⟨Nat.le_of_ble_eq_true rfl, Nat.le_of_ble_eq_true rfl⟩, Nat.le_of_ble_eq_true rfl, Nat.le_of_ble_eq_true rfl⟩ rfl hl.1 rfl (Nat.le_of_ble_eq_true rfl) dX3_init_30) (fun Mq43_ Tq44_ Hq_ lcq_ hP hz hH => ?_)
  try dsimp only at hP
  obtain ⟨nM_qq41_, t_qq41_, hsub, hfT, hfr⟩ := hP
  have hc_h : Mq43_ h = some (.inr (2, [.ref qq1_])) := (hfr h (Or.inl hn_h) n_h_qq41_ lt_h).trans hc_h
  have hn_h : Tq44_ h = none := (hfT h n_h_qq41_ lt_h).trans hn_h
  have hc_qq1_ : Mq43_ qq1_ = some (.inl (kA 4, 13, .inr (.inr (.inr (.inr (va_up (va_up (va_up (va_up (va_up (va_up (fun _ => none) (Int32.toNatClampNeg 0) (some qq5_)) (Int32.toNatClampNeg 1) (some qq11_)) (Int32.toNatClampNeg 2) (some qq17_)) (Int32.toNatClampNeg 3) (some qq23_)) (Int32.toNatClampNeg 4) (some qq29_)) (Int32.toNatClampNeg 5) (some qq35_))))))) := (hfr qq1_ (Or.inl hn_qq1_) n_qq1__qq41_ lt_qq1_).trans hc_qq1_
  have hn_qq1_ : Tq44_ qq1_ = none := (hfT qq1_ n_qq1__qq41_ lt_qq1_).trans hn_qq1_
  have t_qq5_ : Tq44_ qq5_ = some 1 := hsub _ _ t_qq5_
  have t_qq11_ : Tq44_ qq11_ = some 1 := hsub _ _ t_qq11_
  have t_qq17_ : Tq44_ qq17_ = some 1 := hsub _ _ t_qq17_
  have t_qq23_ : Tq44_ qq23_ = some 1 := hsub _ _ t_qq23_
  have t_qq29_ : Tq44_ qq29_ = some 1 := hsub _ _ t_qq29_
  have t_qq35_ : Tq44_ qq35_ = some 1 := hsub _ _ t_qq35_
  have hTT : ∀ a t, T a = some t → Tq44_ a = some t := fun a t h => hsub _ _ (hTT a t h)
  have hF : ∀ a, FrA T a → a ≠ h → a < sz → Mq43_ a = M a := fun a hA h0 h1 => (hfr a (FrA.mv (hTF a h0 h1) hA) (Nat.ne_of_lt (Nat.lt_of_lt_of_le h1 g_qq41_)) (Nat.lt_of_lt_of_le h1 gH)).trans (hF a hA h0 h1)
  have hTF : ∀ a, a ≠ h → a < sz → Tq44_ a = T a := fun a h0 h1 => (hfT a (Nat.ne_of_lt (Nat.lt_of_lt_of_le h1 g_qq41_)) (Nat.lt_of_lt_of_le h1 gH)).trans (hTF a h0 h1)
  refine yqst (ck := 4) (cv := 1) (v := qq41_) hC hK hH rfl rfl hc_qq1_ (let ⟨fs, h1, _⟩ := tcell hH t_qq41_ rfl; ⟨fs, h1⟩) (noT hn_qq1_) (iIn (by decide) (by decide)) dX3_init_33 (fun Hq_ lcq_ Mq45_ hc_qq1_ hfr hH => ?_)
  have hc_qq1_ : Mq45_ qq1_ = some (.inl (kA 4, 13, .inr (.inr (.inr (.inr (va_up (va_up (va_up (va_up (va_up (va_up (va_up (fun _ => none) (Int32.toNatClampNeg 0) (some qq5_)) (Int32.toNatClampNeg 1) (some qq11_)) (Int32.toNatClampNeg 2) (some qq17_)) (Int32.toNatClampNeg 3) (some qq23_)) (Int32.toNatClampNeg 4) (some qq29_)) (Int32.toNatClampNeg 5) (some qq35_)) (Int32.toNatClampNeg 6) (some qq41_))))))) := hc_qq1_
  have hc_h : Mq45_ h = some (.inr (2, [.ref qq1_])) := (hfr h n_h_qq1_).trans hc_h
  have hF : ∀ a, FrA T a → a ≠ h → a < sz → Mq45_ a = M a := fun a hA h0 h1 => (hfr a (Nat.ne_of_lt (Nat.lt_of_lt_of_le h1 g_qq1_))).trans (hF a hA h0 h1)
  refine lv_iinc (v := 7) (lv' := [(1, .int 7), (0, .ref h)]) hx hb dX3_init_34 hl (k := 0) rfl (by decide) (by decide) rfl (fun ls hl => ?_)
  refine lv_goto (tgt := 15) hx hb dX3_init_37 (by decide) ?_
  refine lv_iload_n hx hb dX3_init_15 rfl (lv_at hl 0 rfl) ?_
  refine lv_bipush (v := 12) hx hb dX3_init_16 (by decide) ?_
  refine jic_gt (tgt := 40) hx hb dX3_init_18 (by decide) (fun cq46_ => absurd cq46_ (by decide)) (fun cq46_ => ?_)
  refine lv_aload_n hx hb dX3_init_21 rfl (lv_at hl 1 rfl) ?_
  refine xg hC hK hH flX3_11 hc_h rfl dX3_init_22 ?_
  refine lv_iload_n hx hb dX3_init_25 rfl (lv_at hl 0 rfl) ?_
  refine ynew hC hK hH nlX3_9 (Nat.le_of_ble_eq_true rfl) (Nat.le_of_ble_eq_true rfl) dX3_init_26 (fun qq47_ Hq_ Mq48_ e_qq47_ hz nM_qq47_ hn_qq47_ hc_qq47_ hfr hN => ?_)
  have g_qq47_ : sz ≤ qq47_ := by rw [← hsz, e_qq47_]; exact hH.2.1.1
  have n_h_qq47_ : h ≠ qq47_ := neN hc_h nM_qq47_
  have n_qq47__h : qq47_ ≠ h := Ne.symm n_h_qq47_
  have n_qq1__qq47_ : qq1_ ≠ qq47_ := neN hc_qq1_ nM_qq47_
  have n_qq47__qq1_ : qq47_ ≠ qq1_ := Ne.symm n_qq1__qq47_
  have hH := hN
  have hc_qq47_ : Mq48_ qq47_ = some (.inr (1, [.int 0, .int 0, .int 0, .int 0, .int 0, .int 0, .int 0, .null])) := hc_qq47_
  have hc_h : Mq48_ h = some (.inr (2, [.ref qq1_])) := (hfr h n_h_qq47_).trans hc_h
  have hc_qq1_ : Mq48_ qq1_ = some (.inl (kA 4, 13, .inr (.inr (.inr (.inr (va_up (va_up (va_up (va_up (va_up (va_up (va_up (fun _ => none) (Int32.toNatClampNeg 0) (some qq5_)) (Int32.toNatClampNeg 1) (some qq11_)) (Int32.toNatClampNeg 2) (some qq17_)) (Int32.toNatClampNeg 3) (some qq23_)) (Int32.toNatClampNeg 4) (some qq29_)) (Int32.toNatClampNeg 5) (some qq35_)) (Int32.toNatClampNeg 6) (some qq41_))))))) := (hfr qq1_ n_qq1__qq47_).trans hc_qq1_
  have hF : ∀ a, FrA T a → a ≠ h → a < sz → Mq48_ a = M a := fun a hA h0 h1 => (hfr a (Nat.ne_of_lt (Nat.lt_of_lt_of_le h1 g_qq47_))).trans (hF a hA h0 h1)
  refine lv_dup hx hb dX3_init_29 rfl ?_
  have gH : sz ≤ Array.size Hq_ := by rw [← hsz]; exact hH.2.1.1
  have lt_h : h < Array.size Hq_ := hH.1.ltM (by rw [hc_h]; simp)
  have lt_qq1_ : qq1_ < Array.size Hq_ := hH.1.ltM (by rw [hc_qq1_]; simp)
  have lt_qq47_ : qq47_ < Array.size Hq_ := hH.1.ltM (by rw [hc_qq47_]; simp)
  refine goV hK hH (runIN (As := []) (rest := [.ref qq47_, .int 7, .ref qq1_]) hC hK hH (c_X2_init hc_qq47_ hn_qq47_ lt_qq47_) mlX3_17 ⟨⟨Nat.le_of_ble_eq_true rfl, Nat.le_of_ble_eq_true rfl⟩, Nat.le_of_ble_eq_true rfl, Nat.le_of_ble_eq_true rfl⟩ rfl hl.1 rfl (Nat.le_of_ble_eq_true rfl) dX3_init_30) (fun Mq49_ Tq50_ Hq_ lcq_ hP hz hH => ?_)
  try dsimp only at hP
  obtain ⟨nM_qq47_, t_qq47_, hsub, hfT, hfr⟩ := hP
  have hc_h : Mq49_ h = some (.inr (2, [.ref qq1_])) := (hfr h (Or.inl hn_h) n_h_qq47_ lt_h).trans hc_h
  have hn_h : Tq50_ h = none := (hfT h n_h_qq47_ lt_h).trans hn_h
  have hc_qq1_ : Mq49_ qq1_ = some (.inl (kA 4, 13, .inr (.inr (.inr (.inr (va_up (va_up (va_up (va_up (va_up (va_up (va_up (fun _ => none) (Int32.toNatClampNeg 0) (some qq5_)) (Int32.toNatClampNeg 1) (some qq11_)) (Int32.toNatClampNeg 2) (some qq17_)) (Int32.toNatClampNeg 3) (some qq23_)) (Int32.toNatClampNeg 4) (some qq29_)) (Int32.toNatClampNeg 5) (some qq35_)) (Int32.toNatClampNeg 6) (some qq41_))))))) := (hfr qq1_ (Or.inl hn_qq1_) n_qq1__qq47_ lt_qq1_).trans hc_qq1_
  have hn_qq1_ : Tq50_ qq1_ = none := (hfT qq1_ n_qq1__qq47_ lt_qq1_).trans hn_qq1_
  have t_qq5_ : Tq50_ qq5_ = some 1 := hsub _ _ t_qq5_
  have t_qq11_ : Tq50_ qq11_ = some 1 := hsub _ _ t_qq11_
  have t_qq17_ : Tq50_ qq17_ = some 1 := hsub _ _ t_qq17_
  have t_qq23_ : Tq50_ qq23_ = some 1 := hsub _ _ t_qq23_
  have t_qq29_ : Tq50_ qq29_ = some 1 := hsub _ _ t_qq29_
  have t_qq35_ : Tq50_ qq35_ = some 1 := hsub _ _ t_qq35_
  have t_qq41_ : Tq50_ qq41_ = some 1 := hsub _ _ t_qq41_
  have hTT : ∀ a t, T a = some t → Tq50_ a = some t := fun a t h => hsub _ _ (hTT a t h)
  have hF : ∀ a, FrA T a → a ≠ h → a < sz → Mq49_ a = M a := fun a hA h0 h1 => (hfr a (FrA.mv (hTF a h0 h1) hA) (Nat.ne_of_lt (Nat.lt_of_lt_of_le h1 g_qq47_)) (Nat.lt_of_lt_of_le h1 gH)).trans (hF a hA h0 h1)
  have hTF : ∀ a, a ≠ h → a < sz → Tq50_ a = T a := fun a h0 h1 => (hfT a (Nat.ne_of_lt (Nat.lt_of_lt_of_le h1 g_qq47_)) (Nat.lt_of_lt_of_le h1 gH)).trans (hTF a h0 h1)
  refine yqst (ck := 4) (cv := 1) (v := qq47_) hC hK hH rfl rfl hc_qq1_ (let ⟨fs, h1, _⟩ := tcell hH t_qq47_ rfl; ⟨fs, h1⟩) (noT hn_qq1_) (iIn (by decide) (by decide)) dX3_init_33 (fun Hq_ lcq_ Mq51_ hc_qq1_ hfr hH => ?_)
  have hc_qq1_ : Mq51_ qq1_ = some (.inl (kA 4, 13, .inr (.inr (.inr (.inr (va_up (va_up (va_up (va_up (va_up (va_up (va_up (va_up (fun _ => none) (Int32.toNatClampNeg 0) (some qq5_)) (Int32.toNatClampNeg 1) (some qq11_)) (Int32.toNatClampNeg 2) (some qq17_)) (Int32.toNatClampNeg 3) (some qq23_)) (Int32.toNatClampNeg 4) (some qq29_)) (Int32.toNatClampNeg 5) (some qq35_)) (Int32.toNatClampNeg 6) (some qq41_)) (Int32.toNatClampNeg 7) (some qq47_))))))) := hc_qq1_
  have hc_h : Mq51_ h = some (.inr (2, [.ref qq1_])) := (hfr h n_h_qq1_).trans hc_h
  have hF : ∀ a, FrA T a → a ≠ h → a < sz → Mq51_ a = M a := fun a hA h0 h1 => (hfr a (Nat.ne_of_lt (Nat.lt_of_lt_of_le h1 g_qq1_))).trans (hF a hA h0 h1)
  refine lv_iinc (v := 8) (lv' := [(1, .int 8), (0, .ref h)]) hx hb dX3_init_34 hl (k := 0) rfl (by decide) (by decide) rfl (fun ls hl => ?_)
  refine lv_goto (tgt := 15) hx hb dX3_init_37 (by decide) ?_
  refine lv_iload_n hx hb dX3_init_15 rfl (lv_at hl 0 rfl) ?_
  refine lv_bipush (v := 12) hx hb dX3_init_16 (by decide) ?_
  refine jic_gt (tgt := 40) hx hb dX3_init_18 (by decide) (fun cq52_ => absurd cq52_ (by decide)) (fun cq52_ => ?_)
  refine lv_aload_n hx hb dX3_init_21 rfl (lv_at hl 1 rfl) ?_
  refine xg hC hK hH flX3_11 hc_h rfl dX3_init_22 ?_
  refine lv_iload_n hx hb dX3_init_25 rfl (lv_at hl 0 rfl) ?_
  refine ynew hC hK hH nlX3_9 (Nat.le_of_ble_eq_true rfl) (Nat.le_of_ble_eq_true rfl) dX3_init_26 (fun qq53_ Hq_ Mq54_ e_qq53_ hz nM_qq53_ hn_qq53_ hc_qq53_ hfr hN => ?_)
  have g_qq53_ : sz ≤ qq53_ := by rw [← hsz, e_qq53_]; exact hH.2.1.1
  have n_h_qq53_ : h ≠ qq53_ := neN hc_h nM_qq53_
  have n_qq53__h : qq53_ ≠ h := Ne.symm n_h_qq53_
  have n_qq1__qq53_ : qq1_ ≠ qq53_ := neN hc_qq1_ nM_qq53_
  have n_qq53__qq1_ : qq53_ ≠ qq1_ := Ne.symm n_qq1__qq53_
  have hH := hN
  have hc_qq53_ : Mq54_ qq53_ = some (.inr (1, [.int 0, .int 0, .int 0, .int 0, .int 0, .int 0, .int 0, .null])) := hc_qq53_
  have hc_h : Mq54_ h = some (.inr (2, [.ref qq1_])) := (hfr h n_h_qq53_).trans hc_h
  have hc_qq1_ : Mq54_ qq1_ = some (.inl (kA 4, 13, .inr (.inr (.inr (.inr (va_up (va_up (va_up (va_up (va_up (va_up (va_up (va_up (fun _ => none) (Int32.toNatClampNeg 0) (some qq5_)) (Int32.toNatClampNeg 1) (some qq11_)) (Int32.toNatClampNeg 2) (some qq17_)) (Int32.toNatClampNeg 3) (some qq23_)) (Int32.toNatClampNeg 4) (some qq29_)) (Int32.toNatClampNeg 5) (some qq35_)) (Int32.toNatClampNeg 6) (some qq41_)) (Int32.toNatClampNeg 7) (some qq47_))))))) := (hfr qq1_ n_qq1__qq53_).trans hc_qq1_
  have hF : ∀ a, FrA T a → a ≠ h → a < sz → Mq54_ a = M a := fun a hA h0 h1 => (hfr a (Nat.ne_of_lt (Nat.lt_of_lt_of_le h1 g_qq53_))).trans (hF a hA h0 h1)
  refine lv_dup hx hb dX3_init_29 rfl ?_
  have gH : sz ≤ Array.size Hq_ := by rw [← hsz]; exact hH.2.1.1
  have lt_h : h < Array.size Hq_ := hH.1.ltM (by rw [hc_h]; simp)
  have lt_qq1_ : qq1_ < Array.size Hq_ := hH.1.ltM (by rw [hc_qq1_]; simp)
  have lt_qq53_ : qq53_ < Array.size Hq_ := hH.1.ltM (by rw [hc_qq53_]; simp)
  refine goV hK hH (runIN (As := []) (rest := [.ref qq53_, .int 8, .ref qq1_]) hC hK hH (c_X2_init hc_qq53_ hn_qq53_ lt_qq53_) mlX3_17 ⟨⟨Nat.le_of_ble_eq_true rfl, Nat.le_of_ble_eq_true rfl⟩, Nat.le_of_ble_eq_true rfl, Nat.le_of_ble_eq_true rfl⟩ rfl hl.1 rfl (Nat.le_of_ble_eq_true rfl) dX3_init_30) (fun Mq55_ Tq56_ Hq_ lcq_ hP hz hH => ?_)
  try dsimp only at hP
  obtain ⟨nM_qq53_, t_qq53_, hsub, hfT, hfr⟩ := hP
  have hc_h : Mq55_ h = some (.inr (2, [.ref qq1_])) := (hfr h (Or.inl hn_h) n_h_qq53_ lt_h).trans hc_h
  have hn_h : Tq56_ h = none := (hfT h n_h_qq53_ lt_h).trans hn_h
  have hc_qq1_ : Mq55_ qq1_ = some (.inl (kA 4, 13, .inr (.inr (.inr (.inr (va_up (va_up (va_up (va_up (va_up (va_up (va_up (va_up (fun _ => none) (Int32.toNatClampNeg 0) (some qq5_)) (Int32.toNatClampNeg 1) (some qq11_)) (Int32.toNatClampNeg 2) (some qq17_)) (Int32.toNatClampNeg 3) (some qq23_)) (Int32.toNatClampNeg 4) (some qq29_)) (Int32.toNatClampNeg 5) (some qq35_)) (Int32.toNatClampNeg 6) (some qq41_)) (Int32.toNatClampNeg 7) (some qq47_))))))) := (hfr qq1_ (Or.inl hn_qq1_) n_qq1__qq53_ lt_qq1_).trans hc_qq1_
  have hn_qq1_ : Tq56_ qq1_ = none := (hfT qq1_ n_qq1__qq53_ lt_qq1_).trans hn_qq1_
  have t_qq5_ : Tq56_ qq5_ = some 1 := hsub _ _ t_qq5_
  have t_qq11_ : Tq56_ qq11_ = some 1 := hsub _ _ t_qq11_
  have t_qq17_ : Tq56_ qq17_ = some 1 := hsub _ _ t_qq17_
  have t_qq23_ : Tq56_ qq23_ = some 1 := hsub _ _ t_qq23_
  have t_qq29_ : Tq56_ qq29_ = some 1 := hsub _ _ t_qq29_
  have t_qq35_ : Tq56_ qq35_ = some 1 := hsub _ _ t_qq35_
  have t_qq41_ : Tq56_ qq41_ = some 1 := hsub _ _ t_qq41_
  have t_qq47_ : Tq56_ qq47_ = some 1 := hsub _ _ t_qq47_
  have hTT : ∀ a t, T a = some t → Tq56_ a = some t := fun a t h => hsub _ _ (hTT a t h)
  have hF : ∀ a, FrA T a → a ≠ h → a < sz → Mq55_ a = M a := fun a hA h0 h1 => (hfr a (FrA.mv (hTF a h0 h1) hA) (Nat.ne_of_lt (Nat.lt_of_lt_of_le h1 g_qq53_)) (Nat.lt_of_lt_of_le h1 gH)).trans (hF a hA h0 h1)
  have hTF : ∀ a, a ≠ h → a < sz → Tq56_ a = T a := fun a h0 h1 => (hfT a (Nat.ne_of_lt (Nat.lt_of_lt_of_le h1 g_qq53_)) (Nat.lt_of_lt_of_le h1 gH)).trans (hTF a h0 h1)
  refine yqst (ck := 4) (cv := 1) (v := qq53_) hC hK hH rfl rfl hc_qq1_ (let ⟨fs, h1, _⟩ := tcell hH t_qq53_ rfl; ⟨fs, h1⟩) (noT hn_qq1_) (iIn (by decide) (by decide)) dX3_init_33 (fun Hq_ lcq_ Mq57_ hc_qq1_ hfr hH => ?_)
  have hc_qq1_ : Mq57_ qq1_ = some (.inl (kA 4, 13, .inr (.inr (.inr (.inr (va_up (va_up (va_up (va_up (va_up (va_up (va_up (va_up (va_up (fun _ => none) (Int32.toNatClampNeg 0) (some qq5_)) (Int32.toNatClampNeg 1) (some qq11_)) (Int32.toNatClampNeg 2) (some qq17_)) (Int32.toNatClampNeg 3) (some qq23_)) (Int32.toNatClampNeg 4) (some qq29_)) (Int32.toNatClampNeg 5) (some qq35_)) (Int32.toNatClampNeg 6) (some qq41_)) (Int32.toNatClampNeg 7) (some qq47_)) (Int32.toNatClampNeg 8) (some qq53_))))))) := hc_qq1_
  have hc_h : Mq57_ h = some (.inr (2, [.ref qq1_])) := (hfr h n_h_qq1_).trans hc_h
  have hF : ∀ a, FrA T a → a ≠ h → a < sz → Mq57_ a = M a := fun a hA h0 h1 => (hfr a (Nat.ne_of_lt (Nat.lt_of_lt_of_le h1 g_qq1_))).trans (hF a hA h0 h1)
  refine lv_iinc (v := 9) (lv' := [(1, .int 9), (0, .ref h)]) hx hb dX3_init_34 hl (k := 0) rfl (by decide) (by decide) rfl (fun ls hl => ?_)
  refine lv_goto (tgt := 15) hx hb dX3_init_37 (by decide) ?_
  refine lv_iload_n hx hb dX3_init_15 rfl (lv_at hl 0 rfl) ?_
  refine lv_bipush (v := 12) hx hb dX3_init_16 (by decide) ?_
  refine jic_gt (tgt := 40) hx hb dX3_init_18 (by decide) (fun cq58_ => absurd cq58_ (by decide)) (fun cq58_ => ?_)
  refine lv_aload_n hx hb dX3_init_21 rfl (lv_at hl 1 rfl) ?_
  refine xg hC hK hH flX3_11 hc_h rfl dX3_init_22 ?_
  refine lv_iload_n hx hb dX3_init_25 rfl (lv_at hl 0 rfl) ?_
  refine ynew hC hK hH nlX3_9 (Nat.le_of_ble_eq_true rfl) (Nat.le_of_ble_eq_true rfl) dX3_init_26 (fun qq59_ Hq_ Mq60_ e_qq59_ hz nM_qq59_ hn_qq59_ hc_qq59_ hfr hN => ?_)
  have g_qq59_ : sz ≤ qq59_ := by rw [← hsz, e_qq59_]; exact hH.2.1.1
  have n_h_qq59_ : h ≠ qq59_ := neN hc_h nM_qq59_
  have n_qq59__h : qq59_ ≠ h := Ne.symm n_h_qq59_
  have n_qq1__qq59_ : qq1_ ≠ qq59_ := neN hc_qq1_ nM_qq59_
  have n_qq59__qq1_ : qq59_ ≠ qq1_ := Ne.symm n_qq1__qq59_
  have hH := hN
  have hc_qq59_ : Mq60_ qq59_ = some (.inr (1, [.int 0, .int 0, .int 0, .int 0, .int 0, .int 0, .int 0, .null])) := hc_qq59_
  have hc_h : Mq60_ h = some (.inr (2, [.ref qq1_])) := (hfr h n_h_qq59_).trans hc_h
  have hc_qq1_ : Mq60_ qq1_ = some (.inl (kA 4, 13, .inr (.inr (.inr (.inr (va_up (va_up (va_up (va_up (va_up (va_up (va_up (va_up (va_up (fun _ => none) (Int32.toNatClampNeg 0) (some qq5_)) (Int32.toNatClampNeg 1) (some qq11_)) (Int32.toNatClampNeg 2) (some qq17_)) (Int32.toNatClampNeg 3) (some qq23_)) (Int32.toNatClampNeg 4) (some qq29_)) (Int32.toNatClampNeg 5) (some qq35_)) (Int32.toNatClampNeg 6) (some qq41_)) (Int32.toNatClampNeg 7) (some qq47_)) (Int32.toNatClampNeg 8) (some qq53_))))))) := (hfr qq1_ n_qq1__qq59_).trans hc_qq1_
  have hF : ∀ a, FrA T a → a ≠ h → a < sz → Mq60_ a = M a := fun a hA h0 h1 => (hfr a (Nat.ne_of_lt (Nat.lt_of_lt_of_le h1 g_qq59_))).trans (hF a hA h0 h1)
  refine lv_dup hx hb dX3_init_29 rfl ?_
  have gH : sz ≤ Array.size Hq_ := by rw [← hsz]; exact hH.2.1.1
  have lt_h : h < Array.size Hq_ := hH.1.ltM (by rw [hc_h]; simp)
  have lt_qq1_ : qq1_ < Array.size Hq_ := hH.1.ltM (by rw [hc_qq1_]; simp)
  have lt_qq59_ : qq59_ < Array.size Hq_ := hH.1.ltM (by rw [hc_qq59_]; simp)
  refine goV hK hH (runIN (As := []) (rest := [.ref qq59_, .int 9, .ref qq1_]) hC hK hH (c_X2_init hc_qq59_ hn_qq59_ lt_qq59_) mlX3_17 ⟨⟨Nat.le_of_ble_eq_true rfl, Nat.le_of_ble_eq_true rfl⟩, Nat.le_of_ble_eq_true rfl, Nat.le_of_ble_eq_true rfl⟩ rfl hl.1 rfl (Nat.le_of_ble_eq_true rfl) dX3_init_30) (fun Mq61_ Tq62_ Hq_ lcq_ hP hz hH => ?_)
  try dsimp only at hP
  obtain ⟨nM_qq59_, t_qq59_, hsub, hfT, hfr⟩ := hP
  have hc_h : Mq61_ h = some (.inr (2, [.ref qq1_])) := (hfr h (Or.inl hn_h) n_h_qq59_ lt_h).trans hc_h
  have hn_h : Tq62_ h = none := (hfT h n_h_qq59_ lt_h).trans hn_h
  have hc_qq1_ : Mq61_ qq1_ = some (.inl (kA 4, 13, .inr (.inr (.inr (.inr (va_up (va_up (va_up (va_up (va_up (va_up (va_up (va_up (va_up (fun _ => none) (Int32.toNatClampNeg 0) (some qq5_)) (Int32.toNatClampNeg 1) (some qq11_)) (Int32.toNatClampNeg 2) (some qq17_)) (Int32.toNatClampNeg 3) (some qq23_)) (Int32.toNatClampNeg 4) (some qq29_)) (Int32.toNatClampNeg 5) (some qq35_)) (Int32.toNatClampNeg 6) (some qq41_)) (Int32.toNatClampNeg 7) (some qq47_)) (Int32.toNatClampNeg 8) (some qq53_))))))) := (hfr qq1_ (Or.inl hn_qq1_) n_qq1__qq59_ lt_qq1_).trans hc_qq1_
  have hn_qq1_ : Tq62_ qq1_ = none := (hfT qq1_ n_qq1__qq59_ lt_qq1_).trans hn_qq1_
  have t_qq5_ : Tq62_ qq5_ = some 1 := hsub _ _ t_qq5_
  have t_qq11_ : Tq62_ qq11_ = some 1 := hsub _ _ t_qq11_
  have t_qq17_ : Tq62_ qq17_ = some 1 := hsub _ _ t_qq17_
  have t_qq23_ : Tq62_ qq23_ = some 1 := hsub _ _ t_qq23_
  have t_qq29_ : Tq62_ qq29_ = some 1 := hsub _ _ t_qq29_
  have t_qq35_ : Tq62_ qq35_ = some 1 := hsub _ _ t_qq35_
  have t_qq41_ : Tq62_ qq41_ = some 1 := hsub _ _ t_qq41_
  have t_qq47_ : Tq62_ qq47_ = some 1 := hsub _ _ t_qq47_
  have t_qq53_ : Tq62_ qq53_ = some 1 := hsub _ _ t_qq53_
  have hTT : ∀ a t, T a = some t → Tq62_ a = some t := fun a t h => hsub _ _ (hTT a t h)
  have hF : ∀ a, FrA T a → a ≠ h → a < sz → Mq61_ a = M a := fun a hA h0 h1 => (hfr a (FrA.mv (hTF a h0 h1) hA) (Nat.ne_of_lt (Nat.lt_of_lt_of_le h1 g_qq59_)) (Nat.lt_of_lt_of_le h1 gH)).trans (hF a hA h0 h1)
  have hTF : ∀ a, a ≠ h → a < sz → Tq62_ a = T a := fun a h0 h1 => (hfT a (Nat.ne_of_lt (Nat.lt_of_lt_of_le h1 g_qq59_)) (Nat.lt_of_lt_of_le h1 gH)).trans (hTF a h0 h1)
  refine yqst (ck := 4) (cv := 1) (v := qq59_) hC hK hH rfl rfl hc_qq1_ (let ⟨fs, h1, _⟩ := tcell hH t_qq59_ rfl; ⟨fs, h1⟩) (noT hn_qq1_) (iIn (by decide) (by decide)) dX3_init_33 (fun Hq_ lcq_ Mq63_ hc_qq1_ hfr hH => ?_)
  have hc_qq1_ : Mq63_ qq1_ = some (.inl (kA 4, 13, .inr (.inr (.inr (.inr (va_up (va_up (va_up (va_up (va_up (va_up (va_up (va_up (va_up (va_up (fun _ => none) (Int32.toNatClampNeg 0) (some qq5_)) (Int32.toNatClampNeg 1) (some qq11_)) (Int32.toNatClampNeg 2) (some qq17_)) (Int32.toNatClampNeg 3) (some qq23_)) (Int32.toNatClampNeg 4) (some qq29_)) (Int32.toNatClampNeg 5) (some qq35_)) (Int32.toNatClampNeg 6) (some qq41_)) (Int32.toNatClampNeg 7) (some qq47_)) (Int32.toNatClampNeg 8) (some qq53_)) (Int32.toNatClampNeg 9) (some qq59_))))))) := hc_qq1_
  have hc_h : Mq63_ h = some (.inr (2, [.ref qq1_])) := (hfr h n_h_qq1_).trans hc_h
  have hF : ∀ a, FrA T a → a ≠ h → a < sz → Mq63_ a = M a := fun a hA h0 h1 => (hfr a (Nat.ne_of_lt (Nat.lt_of_lt_of_le h1 g_qq1_))).trans (hF a hA h0 h1)
  refine lv_iinc (v := 10) (lv' := [(1, .int 10), (0, .ref h)]) hx hb dX3_init_34 hl (k := 0) rfl (by decide) (by decide) rfl (fun ls hl => ?_)
  refine lv_goto (tgt := 15) hx hb dX3_init_37 (by decide) ?_
  refine lv_iload_n hx hb dX3_init_15 rfl (lv_at hl 0 rfl) ?_
  refine lv_bipush (v := 12) hx hb dX3_init_16 (by decide) ?_
  refine jic_gt (tgt := 40) hx hb dX3_init_18 (by decide) (fun cq64_ => absurd cq64_ (by decide)) (fun cq64_ => ?_)
  refine lv_aload_n hx hb dX3_init_21 rfl (lv_at hl 1 rfl) ?_
  refine xg hC hK hH flX3_11 hc_h rfl dX3_init_22 ?_
  refine lv_iload_n hx hb dX3_init_25 rfl (lv_at hl 0 rfl) ?_
  refine ynew hC hK hH nlX3_9 (Nat.le_of_ble_eq_true rfl) (Nat.le_of_ble_eq_true rfl) dX3_init_26 (fun qq65_ Hq_ Mq66_ e_qq65_ hz nM_qq65_ hn_qq65_ hc_qq65_ hfr hN => ?_)
  have g_qq65_ : sz ≤ qq65_ := by rw [← hsz, e_qq65_]; exact hH.2.1.1
  have n_h_qq65_ : h ≠ qq65_ := neN hc_h nM_qq65_
  have n_qq65__h : qq65_ ≠ h := Ne.symm n_h_qq65_
  have n_qq1__qq65_ : qq1_ ≠ qq65_ := neN hc_qq1_ nM_qq65_
  have n_qq65__qq1_ : qq65_ ≠ qq1_ := Ne.symm n_qq1__qq65_
  have hH := hN
  have hc_qq65_ : Mq66_ qq65_ = some (.inr (1, [.int 0, .int 0, .int 0, .int 0, .int 0, .int 0, .int 0, .null])) := hc_qq65_
  have hc_h : Mq66_ h = some (.inr (2, [.ref qq1_])) := (hfr h n_h_qq65_).trans hc_h
  have hc_qq1_ : Mq66_ qq1_ = some (.inl (kA 4, 13, .inr (.inr (.inr (.inr (va_up (va_up (va_up (va_up (va_up (va_up (va_up (va_up (va_up (va_up (fun _ => none) (Int32.toNatClampNeg 0) (some qq5_)) (Int32.toNatClampNeg 1) (some qq11_)) (Int32.toNatClampNeg 2) (some qq17_)) (Int32.toNatClampNeg 3) (some qq23_)) (Int32.toNatClampNeg 4) (some qq29_)) (Int32.toNatClampNeg 5) (some qq35_)) (Int32.toNatClampNeg 6) (some qq41_)) (Int32.toNatClampNeg 7) (some qq47_)) (Int32.toNatClampNeg 8) (some qq53_)) (Int32.toNatClampNeg 9) (some qq59_))))))) := (hfr qq1_ n_qq1__qq65_).trans hc_qq1_
  have hF : ∀ a, FrA T a → a ≠ h → a < sz → Mq66_ a = M a := fun a hA h0 h1 => (hfr a (Nat.ne_of_lt (Nat.lt_of_lt_of_le h1 g_qq65_))).trans (hF a hA h0 h1)
  refine lv_dup hx hb dX3_init_29 rfl ?_
  have gH : sz ≤ Array.size Hq_ := by rw [← hsz]; exact hH.2.1.1
  have lt_h : h < Array.size Hq_ := hH.1.ltM (by rw [hc_h]; simp)
  have lt_qq1_ : qq1_ < Array.size Hq_ := hH.1.ltM (by rw [hc_qq1_]; simp)
  have lt_qq65_ : qq65_ < Array.size Hq_ := hH.1.ltM (by rw [hc_qq65_]; simp)
  refine goV hK hH (runIN (As := []) (rest := [.ref qq65_, .int 10, .ref qq1_]) hC hK hH (c_X2_init hc_qq65_ hn_qq65_ lt_qq65_) mlX3_17 ⟨⟨Nat.le_of_ble_eq_true rfl, Nat.le_of_ble_eq_true rfl⟩, Nat.le_of_ble_eq_true rfl, Nat.le_of_ble_eq_true rfl⟩ rfl hl.1 rfl (Nat.le_of_ble_eq_true rfl) dX3_init_30) (fun Mq67_ Tq68_ Hq_ lcq_ hP hz hH => ?_)
  try dsimp only at hP
  obtain ⟨nM_qq65_, t_qq65_, hsub, hfT, hfr⟩ := hP
  have hc_h : Mq67_ h = some (.inr (2, [.ref qq1_])) := (hfr h (Or.inl hn_h) n_h_qq65_ lt_h).trans hc_h
  have hn_h : Tq68_ h = none := (hfT h n_h_qq65_ lt_h).trans hn_h
  have hc_qq1_ : Mq67_ qq1_ = some (.inl (kA 4, 13, .inr (.inr (.inr (.inr (va_up (va_up (va_up (va_up (va_up (va_up (va_up (va_up (va_up (va_up (fun _ => none) (Int32.toNatClampNeg 0) (some qq5_)) (Int32.toNatClampNeg 1) (some qq11_)) (Int32.toNatClampNeg 2) (some qq17_)) (Int32.toNatClampNeg 3) (some qq23_)) (Int32.toNatClampNeg 4) (some qq29_)) (Int32.toNatClampNeg 5) (some qq35_)) (Int32.toNatClampNeg 6) (some qq41_)) (Int32.toNatClampNeg 7) (some qq47_)) (Int32.toNatClampNeg 8) (some qq53_)) (Int32.toNatClampNeg 9) (some qq59_))))))) := (hfr qq1_ (Or.inl hn_qq1_) n_qq1__qq65_ lt_qq1_).trans hc_qq1_
  have hn_qq1_ : Tq68_ qq1_ = none := (hfT qq1_ n_qq1__qq65_ lt_qq1_).trans hn_qq1_
  have t_qq5_ : Tq68_ qq5_ = some 1 := hsub _ _ t_qq5_
  have t_qq11_ : Tq68_ qq11_ = some 1 := hsub _ _ t_qq11_
  have t_qq17_ : Tq68_ qq17_ = some 1 := hsub _ _ t_qq17_
  have t_qq23_ : Tq68_ qq23_ = some 1 := hsub _ _ t_qq23_
  have t_qq29_ : Tq68_ qq29_ = some 1 := hsub _ _ t_qq29_
  have t_qq35_ : Tq68_ qq35_ = some 1 := hsub _ _ t_qq35_
  have t_qq41_ : Tq68_ qq41_ = some 1 := hsub _ _ t_qq41_
  have t_qq47_ : Tq68_ qq47_ = some 1 := hsub _ _ t_qq47_
  have t_qq53_ : Tq68_ qq53_ = some 1 := hsub _ _ t_qq53_
  have t_qq59_ : Tq68_ qq59_ = some 1 := hsub _ _ t_qq59_
  have hTT : ∀ a t, T a = some t → Tq68_ a = some t := fun a t h => hsub _ _ (hTT a t h)
  have hF : ∀ a, FrA T a → a ≠ h → a < sz → Mq67_ a = M a := fun a hA h0 h1 => (hfr a (FrA.mv (hTF a h0 h1) hA) (Nat.ne_of_lt (Nat.lt_of_lt_of_le h1 g_qq65_)) (Nat.lt_of_lt_of_le h1 gH)).trans (hF a hA h0 h1)
  have hTF : ∀ a, a ≠ h → a < sz → Tq68_ a = T a := fun a h0 h1 => (hfT a (Nat.ne_of_lt (Nat.lt_of_lt_of_le h1 g_qq65_)) (Nat.lt_of_lt_of_le h1 gH)).trans (hTF a h0 h1)
  refine yqst (ck := 4) (cv := 1) (v := qq65_) hC hK hH rfl rfl hc_qq1_ (let ⟨fs, h1, _⟩ := tcell hH t_qq65_ rfl; ⟨fs, h1⟩) (noT hn_qq1_) (iIn (by decide) (by decide)) dX3_init_33 (fun Hq_ lcq_ Mq69_ hc_qq1_ hfr hH => ?_)
  have hc_qq1_ : Mq69_ qq1_ = some (.inl (kA 4, 13, .inr (.inr (.inr (.inr (va_up (va_up (va_up (va_up (va_up (va_up (va_up (va_up (va_up (va_up (va_up (fun _ => none) (Int32.toNatClampNeg 0) (some qq5_)) (Int32.toNatClampNeg 1) (some qq11_)) (Int32.toNatClampNeg 2) (some qq17_)) (Int32.toNatClampNeg 3) (some qq23_)) (Int32.toNatClampNeg 4) (some qq29_)) (Int32.toNatClampNeg 5) (some qq35_)) (Int32.toNatClampNeg 6) (some qq41_)) (Int32.toNatClampNeg 7) (some qq47_)) (Int32.toNatClampNeg 8) (some qq53_)) (Int32.toNatClampNeg 9) (some qq59_)) (Int32.toNatClampNeg 10) (some qq65_))))))) := hc_qq1_
  have hc_h : Mq69_ h = some (.inr (2, [.ref qq1_])) := (hfr h n_h_qq1_).trans hc_h
  have hF : ∀ a, FrA T a → a ≠ h → a < sz → Mq69_ a = M a := fun a hA h0 h1 => (hfr a (Nat.ne_of_lt (Nat.lt_of_lt_of_le h1 g_qq1_))).trans (hF a hA h0 h1)
  refine lv_iinc (v := 11) (lv' := [(1, .int 11), (0, .ref h)]) hx hb dX3_init_34 hl (k := 0) rfl (by decide) (by decide) rfl (fun ls hl => ?_)
  refine lv_goto (tgt := 15) hx hb dX3_init_37 (by decide) ?_
  refine lv_iload_n hx hb dX3_init_15 rfl (lv_at hl 0 rfl) ?_
  refine lv_bipush (v := 12) hx hb dX3_init_16 (by decide) ?_
  refine jic_gt (tgt := 40) hx hb dX3_init_18 (by decide) (fun cq70_ => absurd cq70_ (by decide)) (fun cq70_ => ?_)
  refine lv_aload_n hx hb dX3_init_21 rfl (lv_at hl 1 rfl) ?_
  refine xg hC hK hH flX3_11 hc_h rfl dX3_init_22 ?_
  refine lv_iload_n hx hb dX3_init_25 rfl (lv_at hl 0 rfl) ?_
  refine ynew hC hK hH nlX3_9 (Nat.le_of_ble_eq_true rfl) (Nat.le_of_ble_eq_true rfl) dX3_init_26 (fun qq71_ Hq_ Mq72_ e_qq71_ hz nM_qq71_ hn_qq71_ hc_qq71_ hfr hN => ?_)
  have g_qq71_ : sz ≤ qq71_ := by rw [← hsz, e_qq71_]; exact hH.2.1.1
  have n_h_qq71_ : h ≠ qq71_ := neN hc_h nM_qq71_
  have n_qq71__h : qq71_ ≠ h := Ne.symm n_h_qq71_
  have n_qq1__qq71_ : qq1_ ≠ qq71_ := neN hc_qq1_ nM_qq71_
  have n_qq71__qq1_ : qq71_ ≠ qq1_ := Ne.symm n_qq1__qq71_
  have hH := hN
  have hc_qq71_ : Mq72_ qq71_ = some (.inr (1, [.int 0, .int 0, .int 0, .int 0, .int 0, .int 0, .int 0, .null])) := hc_qq71_
  have hc_h : Mq72_ h = some (.inr (2, [.ref qq1_])) := (hfr h n_h_qq71_).trans hc_h
  have hc_qq1_ : Mq72_ qq1_ = some (.inl (kA 4, 13, .inr (.inr (.inr (.inr (va_up (va_up (va_up (va_up (va_up (va_up (va_up (va_up (va_up (va_up (va_up (fun _ => none) (Int32.toNatClampNeg 0) (some qq5_)) (Int32.toNatClampNeg 1) (some qq11_)) (Int32.toNatClampNeg 2) (some qq17_)) (Int32.toNatClampNeg 3) (some qq23_)) (Int32.toNatClampNeg 4) (some qq29_)) (Int32.toNatClampNeg 5) (some qq35_)) (Int32.toNatClampNeg 6) (some qq41_)) (Int32.toNatClampNeg 7) (some qq47_)) (Int32.toNatClampNeg 8) (some qq53_)) (Int32.toNatClampNeg 9) (some qq59_)) (Int32.toNatClampNeg 10) (some qq65_))))))) := (hfr qq1_ n_qq1__qq71_).trans hc_qq1_
  have hF : ∀ a, FrA T a → a ≠ h → a < sz → Mq72_ a = M a := fun a hA h0 h1 => (hfr a (Nat.ne_of_lt (Nat.lt_of_lt_of_le h1 g_qq71_))).trans (hF a hA h0 h1)
  refine lv_dup hx hb dX3_init_29 rfl ?_
  have gH : sz ≤ Array.size Hq_ := by rw [← hsz]; exact hH.2.1.1
  have lt_h : h < Array.size Hq_ := hH.1.ltM (by rw [hc_h]; simp)
  have lt_qq1_ : qq1_ < Array.size Hq_ := hH.1.ltM (by rw [hc_qq1_]; simp)
  have lt_qq71_ : qq71_ < Array.size Hq_ := hH.1.ltM (by rw [hc_qq71_]; simp)
  refine goV hK hH (runIN (As := []) (rest := [.ref qq71_, .int 11, .ref qq1_]) hC hK hH (c_X2_init hc_qq71_ hn_qq71_ lt_qq71_) mlX3_17 ⟨⟨Nat.le_of_ble_eq_true rfl, Nat.le_of_ble_eq_true rfl⟩, Nat.le_of_ble_eq_true rfl, Nat.le_of_ble_eq_true rfl⟩ rfl hl.1 rfl (Nat.le_of_ble_eq_true rfl) dX3_init_30) (fun Mq73_ Tq74_ Hq_ lcq_ hP hz hH => ?_)
  try dsimp only at hP
  obtain ⟨nM_qq71_, t_qq71_, hsub, hfT, hfr⟩ := hP
  have hc_h : Mq73_ h = some (.inr (2, [.ref qq1_])) := (hfr h (Or.inl hn_h) n_h_qq71_ lt_h).trans hc_h
  have hn_h : Tq74_ h = none := (hfT h n_h_qq71_ lt_h).trans hn_h
  have hc_qq1_ : Mq73_ qq1_ = some (.inl (kA 4, 13, .inr (.inr (.inr (.inr (va_up (va_up (va_up (va_up (va_up (va_up (va_up (va_up (va_up (va_up (va_up (fun _ => none) (Int32.toNatClampNeg 0) (some qq5_)) (Int32.toNatClampNeg 1) (some qq11_)) (Int32.toNatClampNeg 2) (some qq17_)) (Int32.toNatClampNeg 3) (some qq23_)) (Int32.toNatClampNeg 4) (some qq29_)) (Int32.toNatClampNeg 5) (some qq35_)) (Int32.toNatClampNeg 6) (some qq41_)) (Int32.toNatClampNeg 7) (some qq47_)) (Int32.toNatClampNeg 8) (some qq53_)) (Int32.toNatClampNeg 9) (some qq59_)) (Int32.toNatClampNeg 10) (some qq65_))))))) := (hfr qq1_ (Or.inl hn_qq1_) n_qq1__qq71_ lt_qq1_).trans hc_qq1_
  have hn_qq1_ : Tq74_ qq1_ = none := (hfT qq1_ n_qq1__qq71_ lt_qq1_).trans hn_qq1_
  have t_qq5_ : Tq74_ qq5_ = some 1 := hsub _ _ t_qq5_
  have t_qq11_ : Tq74_ qq11_ = some 1 := hsub _ _ t_qq11_
  have t_qq17_ : Tq74_ qq17_ = some 1 := hsub _ _ t_qq17_
  have t_qq23_ : Tq74_ qq23_ = some 1 := hsub _ _ t_qq23_
  have t_qq29_ : Tq74_ qq29_ = some 1 := hsub _ _ t_qq29_
  have t_qq35_ : Tq74_ qq35_ = some 1 := hsub _ _ t_qq35_
  have t_qq41_ : Tq74_ qq41_ = some 1 := hsub _ _ t_qq41_
  have t_qq47_ : Tq74_ qq47_ = some 1 := hsub _ _ t_qq47_
  have t_qq53_ : Tq74_ qq53_ = some 1 := hsub _ _ t_qq53_
  have t_qq59_ : Tq74_ qq59_ = some 1 := hsub _ _ t_qq59_
  have t_qq65_ : Tq74_ qq65_ = some 1 := hsub _ _ t_qq65_
  have hTT : ∀ a t, T a = some t → Tq74_ a = some t := fun a t h => hsub _ _ (hTT a t h)
  have hF : ∀ a, FrA T a → a ≠ h → a < sz → Mq73_ a = M a := fun a hA h0 h1 => (hfr a (FrA.mv (hTF a h0 h1) hA) (Nat.ne_of_lt (Nat.lt_of_lt_of_le h1 g_qq71_)) (Nat.lt_of_lt_of_le h1 gH)).trans (hF a hA h0 h1)
  have hTF : ∀ a, a ≠ h → a < sz → Tq74_ a = T a := fun a h0 h1 => (hfT a (Nat.ne_of_lt (Nat.lt_of_lt_of_le h1 g_qq71_)) (Nat.lt_of_lt_of_le h1 gH)).trans (hTF a h0 h1)
  refine yqst (ck := 4) (cv := 1) (v := qq71_) hC hK hH rfl rfl hc_qq1_ (let ⟨fs, h1, _⟩ := tcell hH t_qq71_ rfl; ⟨fs, h1⟩) (noT hn_qq1_) (iIn (by decide) (by decide)) dX3_init_33 (fun Hq_ lcq_ Mq75_ hc_qq1_ hfr hH => ?_)
  have hc_qq1_ : Mq75_ qq1_ = some (.inl (kA 4, 13, .inr (.inr (.inr (.inr (va_up (va_up (va_up (va_up (va_up (va_up (va_up (va_up (va_up (va_up (va_up (va_up (fun _ => none) (Int32.toNatClampNeg 0) (some qq5_)) (Int32.toNatClampNeg 1) (some qq11_)) (Int32.toNatClampNeg 2) (some qq17_)) (Int32.toNatClampNeg 3) (some qq23_)) (Int32.toNatClampNeg 4) (some qq29_)) (Int32.toNatClampNeg 5) (some qq35_)) (Int32.toNatClampNeg 6) (some qq41_)) (Int32.toNatClampNeg 7) (some qq47_)) (Int32.toNatClampNeg 8) (some qq53_)) (Int32.toNatClampNeg 9) (some qq59_)) (Int32.toNatClampNeg 10) (some qq65_)) (Int32.toNatClampNeg 11) (some qq71_))))))) := hc_qq1_
  have hc_h : Mq75_ h = some (.inr (2, [.ref qq1_])) := (hfr h n_h_qq1_).trans hc_h
  have hF : ∀ a, FrA T a → a ≠ h → a < sz → Mq75_ a = M a := fun a hA h0 h1 => (hfr a (Nat.ne_of_lt (Nat.lt_of_lt_of_le h1 g_qq1_))).trans (hF a hA h0 h1)
  refine lv_iinc (v := 12) (lv' := [(1, .int 12), (0, .ref h)]) hx hb dX3_init_34 hl (k := 0) rfl (by decide) (by decide) rfl (fun ls hl => ?_)
  refine lv_goto (tgt := 15) hx hb dX3_init_37 (by decide) ?_
  refine lv_iload_n hx hb dX3_init_15 rfl (lv_at hl 0 rfl) ?_
  refine lv_bipush (v := 12) hx hb dX3_init_16 (by decide) ?_
  refine jic_gt (tgt := 40) hx hb dX3_init_18 (by decide) (fun cq76_ => absurd cq76_ (by decide)) (fun cq76_ => ?_)
  refine lv_aload_n hx hb dX3_init_21 rfl (lv_at hl 1 rfl) ?_
  refine xg hC hK hH flX3_11 hc_h rfl dX3_init_22 ?_
  refine lv_iload_n hx hb dX3_init_25 rfl (lv_at hl 0 rfl) ?_
  refine ynew hC hK hH nlX3_9 (Nat.le_of_ble_eq_true rfl) (Nat.le_of_ble_eq_true rfl) dX3_init_26 (fun qq77_ Hq_ Mq78_ e_qq77_ hz nM_qq77_ hn_qq77_ hc_qq77_ hfr hN => ?_)
  have g_qq77_ : sz ≤ qq77_ := by rw [← hsz, e_qq77_]; exact hH.2.1.1
  have n_h_qq77_ : h ≠ qq77_ := neN hc_h nM_qq77_
  have n_qq77__h : qq77_ ≠ h := Ne.symm n_h_qq77_
  have n_qq1__qq77_ : qq1_ ≠ qq77_ := neN hc_qq1_ nM_qq77_
  have n_qq77__qq1_ : qq77_ ≠ qq1_ := Ne.symm n_qq1__qq77_
  have hH := hN
  have hc_qq77_ : Mq78_ qq77_ = some (.inr (1, [.int 0, .int 0, .int 0, .int 0, .int 0, .int 0, .int 0, .null])) := hc_qq77_
  have hc_h : Mq78_ h = some (.inr (2, [.ref qq1_])) := (hfr h n_h_qq77_).trans hc_h
  have hc_qq1_ : Mq78_ qq1_ = some (.inl (kA 4, 13, .inr (.inr (.inr (.inr (va_up (va_up (va_up (va_up (va_up (va_up (va_up (va_up (va_up (va_up (va_up (va_up (fun _ => none) (Int32.toNatClampNeg 0) (some qq5_)) (Int32.toNatClampNeg 1) (some qq11_)) (Int32.toNatClampNeg 2) (some qq17_)) (Int32.toNatClampNeg 3) (some qq23_)) (Int32.toNatClampNeg 4) (some qq29_)) (Int32.toNatClampNeg 5) (some qq35_)) (Int32.toNatClampNeg 6) (some qq41_)) (Int32.toNatClampNeg 7) (some qq47_)) (Int32.toNatClampNeg 8) (some qq53_)) (Int32.toNatClampNeg 9) (some qq59_)) (Int32.toNatClampNeg 10) (some qq65_)) (Int32.toNatClampNeg 11) (some qq71_))))))) := (hfr qq1_ n_qq1__qq77_).trans hc_qq1_
  have hF : ∀ a, FrA T a → a ≠ h → a < sz → Mq78_ a = M a := fun a hA h0 h1 => (hfr a (Nat.ne_of_lt (Nat.lt_of_lt_of_le h1 g_qq77_))).trans (hF a hA h0 h1)
  refine lv_dup hx hb dX3_init_29 rfl ?_
  have gH : sz ≤ Array.size Hq_ := by rw [← hsz]; exact hH.2.1.1
  have lt_h : h < Array.size Hq_ := hH.1.ltM (by rw [hc_h]; simp)
  have lt_qq1_ : qq1_ < Array.size Hq_ := hH.1.ltM (by rw [hc_qq1_]; simp)
  have lt_qq77_ : qq77_ < Array.size Hq_ := hH.1.ltM (by rw [hc_qq77_]; simp)
  refine goV hK hH (runIN (As := []) (rest := [.ref qq77_, .int 12, .ref qq1_]) hC hK hH (c_X2_init hc_qq77_ hn_qq77_ lt_qq77_) mlX3_17 ⟨⟨Nat.le_of_ble_eq_true rfl, Nat.le_of_ble_eq_true rfl⟩, Nat.le_of_ble_eq_true rfl, Nat.le_of_ble_eq_true rfl⟩ rfl hl.1 rfl (Nat.le_of_ble_eq_true rfl) dX3_init_30) (fun Mq79_ Tq80_ Hq_ lcq_ hP hz hH => ?_)
  try dsimp only at hP
  obtain ⟨nM_qq77_, t_qq77_, hsub, hfT, hfr⟩ := hP
  have hc_h : Mq79_ h = some (.inr (2, [.ref qq1_])) := (hfr h (Or.inl hn_h) n_h_qq77_ lt_h).trans hc_h
  have hn_h : Tq80_ h = none := (hfT h n_h_qq77_ lt_h).trans hn_h
  have hc_qq1_ : Mq79_ qq1_ = some (.inl (kA 4, 13, .inr (.inr (.inr (.inr (va_up (va_up (va_up (va_up (va_up (va_up (va_up (va_up (va_up (va_up (va_up (va_up (fun _ => none) (Int32.toNatClampNeg 0) (some qq5_)) (Int32.toNatClampNeg 1) (some qq11_)) (Int32.toNatClampNeg 2) (some qq17_)) (Int32.toNatClampNeg 3) (some qq23_)) (Int32.toNatClampNeg 4) (some qq29_)) (Int32.toNatClampNeg 5) (some qq35_)) (Int32.toNatClampNeg 6) (some qq41_)) (Int32.toNatClampNeg 7) (some qq47_)) (Int32.toNatClampNeg 8) (some qq53_)) (Int32.toNatClampNeg 9) (some qq59_)) (Int32.toNatClampNeg 10) (some qq65_)) (Int32.toNatClampNeg 11) (some qq71_))))))) := (hfr qq1_ (Or.inl hn_qq1_) n_qq1__qq77_ lt_qq1_).trans hc_qq1_
  have hn_qq1_ : Tq80_ qq1_ = none := (hfT qq1_ n_qq1__qq77_ lt_qq1_).trans hn_qq1_
  have t_qq5_ : Tq80_ qq5_ = some 1 := hsub _ _ t_qq5_
  have t_qq11_ : Tq80_ qq11_ = some 1 := hsub _ _ t_qq11_
  have t_qq17_ : Tq80_ qq17_ = some 1 := hsub _ _ t_qq17_
  have t_qq23_ : Tq80_ qq23_ = some 1 := hsub _ _ t_qq23_
  have t_qq29_ : Tq80_ qq29_ = some 1 := hsub _ _ t_qq29_
  have t_qq35_ : Tq80_ qq35_ = some 1 := hsub _ _ t_qq35_
  have t_qq41_ : Tq80_ qq41_ = some 1 := hsub _ _ t_qq41_
  have t_qq47_ : Tq80_ qq47_ = some 1 := hsub _ _ t_qq47_
  have t_qq53_ : Tq80_ qq53_ = some 1 := hsub _ _ t_qq53_
  have t_qq59_ : Tq80_ qq59_ = some 1 := hsub _ _ t_qq59_
  have t_qq65_ : Tq80_ qq65_ = some 1 := hsub _ _ t_qq65_
  have t_qq71_ : Tq80_ qq71_ = some 1 := hsub _ _ t_qq71_
  have hTT : ∀ a t, T a = some t → Tq80_ a = some t := fun a t h => hsub _ _ (hTT a t h)
  have hF : ∀ a, FrA T a → a ≠ h → a < sz → Mq79_ a = M a := fun a hA h0 h1 => (hfr a (FrA.mv (hTF a h0 h1) hA) (Nat.ne_of_lt (Nat.lt_of_lt_of_le h1 g_qq77_)) (Nat.lt_of_lt_of_le h1 gH)).trans (hF a hA h0 h1)
  have hTF : ∀ a, a ≠ h → a < sz → Tq80_ a = T a := fun a h0 h1 => (hfT a (Nat.ne_of_lt (Nat.lt_of_lt_of_le h1 g_qq77_)) (Nat.lt_of_lt_of_le h1 gH)).trans (hTF a h0 h1)
  refine yqst (ck := 4) (cv := 1) (v := qq77_) hC hK hH rfl rfl hc_qq1_ (let ⟨fs, h1, _⟩ := tcell hH t_qq77_ rfl; ⟨fs, h1⟩) (noT hn_qq1_) (iIn (by decide) (by decide)) dX3_init_33 (fun Hq_ lcq_ Mq81_ hc_qq1_ hfr hH => ?_)
  have hc_qq1_ : Mq81_ qq1_ = some (.inl (kA 4, 13, .inr (.inr (.inr (.inr (va_up (va_up (va_up (va_up (va_up (va_up (va_up (va_up (va_up (va_up (va_up (va_up (va_up (fun _ => none) (Int32.toNatClampNeg 0) (some qq5_)) (Int32.toNatClampNeg 1) (some qq11_)) (Int32.toNatClampNeg 2) (some qq17_)) (Int32.toNatClampNeg 3) (some qq23_)) (Int32.toNatClampNeg 4) (some qq29_)) (Int32.toNatClampNeg 5) (some qq35_)) (Int32.toNatClampNeg 6) (some qq41_)) (Int32.toNatClampNeg 7) (some qq47_)) (Int32.toNatClampNeg 8) (some qq53_)) (Int32.toNatClampNeg 9) (some qq59_)) (Int32.toNatClampNeg 10) (some qq65_)) (Int32.toNatClampNeg 11) (some qq71_)) (Int32.toNatClampNeg 12) (some qq77_))))))) := hc_qq1_
  have hc_h : Mq81_ h = some (.inr (2, [.ref qq1_])) := (hfr h n_h_qq1_).trans hc_h
  have hF : ∀ a, FrA T a → a ≠ h → a < sz → Mq81_ a = M a := fun a hA h0 h1 => (hfr a (Nat.ne_of_lt (Nat.lt_of_lt_of_le h1 g_qq1_))).trans (hF a hA h0 h1)
  refine lv_iinc (v := 13) (lv' := [(1, .int 13), (0, .ref h)]) hx hb dX3_init_34 hl (k := 0) rfl (by decide) (by decide) rfl (fun ls hl => ?_)
  refine lv_goto (tgt := 15) hx hb dX3_init_37 (by decide) ?_
  refine lv_iload_n hx hb dX3_init_15 rfl (lv_at hl 0 rfl) ?_
  refine lv_bipush (v := 12) hx hb dX3_init_16 (by decide) ?_
  refine jic_gt (tgt := 40) hx hb dX3_init_18 (by decide) (fun cq82_ => ?_) (fun cq82_ => absurd cq82_ (by decide))
  have hq : ∀ j, j < 13 → ∃ q, (va_up (va_up (va_up (va_up (va_up (va_up (va_up (va_up (va_up (va_up (va_up (va_up (va_up (fun _ => none) (Int32.toNatClampNeg 0) (some qq5_)) (Int32.toNatClampNeg 1) (some qq11_)) (Int32.toNatClampNeg 2) (some qq17_)) (Int32.toNatClampNeg 3) (some qq23_)) (Int32.toNatClampNeg 4) (some qq29_)) (Int32.toNatClampNeg 5) (some qq35_)) (Int32.toNatClampNeg 6) (some qq41_)) (Int32.toNatClampNeg 7) (some qq47_)) (Int32.toNatClampNeg 8) (some qq53_)) (Int32.toNatClampNeg 9) (some qq59_)) (Int32.toNatClampNeg 10) (some qq65_)) (Int32.toNatClampNeg 11) (some qq71_)) (Int32.toNatClampNeg 12) (some qq77_)) j = some q ∧ Tq80_ q = some 1 := by
    intro j hj
    rcases (show j = 0 ∨ j = 1 ∨ j = 2 ∨ j = 3 ∨ j = 4 ∨ j = 5 ∨ j = 6 ∨ j = 7 ∨ j = 8 ∨ j = 9 ∨ j = 10 ∨ j = 11 ∨ j = 12 by omega) with rfl | rfl | rfl | rfl | rfl | rfl | rfl | rfl | rfl | rfl | rfl | rfl | rfl
    · exact ⟨qq5_, rfl, t_qq5_⟩
    · exact ⟨qq11_, rfl, t_qq11_⟩
    · exact ⟨qq17_, rfl, t_qq17_⟩
    · exact ⟨qq23_, rfl, t_qq23_⟩
    · exact ⟨qq29_, rfl, t_qq29_⟩
    · exact ⟨qq35_, rfl, t_qq35_⟩
    · exact ⟨qq41_, rfl, t_qq41_⟩
    · exact ⟨qq47_, rfl, t_qq47_⟩
    · exact ⟨qq53_, rfl, t_qq53_⟩
    · exact ⟨qq59_, rfl, t_qq59_⟩
    · exact ⟨qq65_, rfl, t_qq65_⟩
    · exact ⟨qq71_, rfl, t_qq71_⟩
    · exact ⟨qq77_, rfl, t_qq77_⟩
  obtain ⟨Mq84_, Tq83_, nM_qq1_, hfr, t_qq1_, hfT, hsub, hH⟩ := hH.re2 (τ := 8) hc_qq1_ hn_qq1_ (conf_q rfl (fun j hj => let ⟨q, h1, h2⟩ := hq j hj; ⟨q, h1, tUp hn_qq1_ h2⟩))
  have hc_h : Mq84_ h = some (.inr (2, [.ref qq1_])) := (hfr h n_h_qq1_).trans hc_h
  have hn_h : Tq83_ h = none := (hfT h n_h_qq1_).trans hn_h
  have t_qq5_ : Tq83_ qq5_ = some 1 := hsub _ _ t_qq5_
  have t_qq11_ : Tq83_ qq11_ = some 1 := hsub _ _ t_qq11_
  have t_qq17_ : Tq83_ qq17_ = some 1 := hsub _ _ t_qq17_
  have t_qq23_ : Tq83_ qq23_ = some 1 := hsub _ _ t_qq23_
  have t_qq29_ : Tq83_ qq29_ = some 1 := hsub _ _ t_qq29_
  have t_qq35_ : Tq83_ qq35_ = some 1 := hsub _ _ t_qq35_
  have t_qq41_ : Tq83_ qq41_ = some 1 := hsub _ _ t_qq41_
  have t_qq47_ : Tq83_ qq47_ = some 1 := hsub _ _ t_qq47_
  have t_qq53_ : Tq83_ qq53_ = some 1 := hsub _ _ t_qq53_
  have t_qq59_ : Tq83_ qq59_ = some 1 := hsub _ _ t_qq59_
  have t_qq65_ : Tq83_ qq65_ = some 1 := hsub _ _ t_qq65_
  have t_qq71_ : Tq83_ qq71_ = some 1 := hsub _ _ t_qq71_
  have t_qq77_ : Tq83_ qq77_ = some 1 := hsub _ _ t_qq77_
  have hTT : ∀ a t, T a = some t → Tq83_ a = some t := fun a t h => hsub _ _ (hTT a t h)
  have hTF : ∀ a, a ≠ h → a < sz → Tq83_ a = T a := fun a h0 h1 => (hfT a (Nat.ne_of_lt (Nat.lt_of_lt_of_le h1 g_qq1_))).trans (hTF a h0 h1)
  have hF : ∀ a, FrA T a → a ≠ h → a < sz → Mq84_ a = M a := fun a hA h0 h1 => (hfr a (Nat.ne_of_lt (Nat.lt_of_lt_of_le h1 g_qq1_))).trans (hF a hA h0 h1)
  obtain ⟨Mq86_, Tq85_, nM_h, hfr, t_h, hfT, hsub, hH⟩ := hH.re2 (τ := 9) hc_h hn_h (conf_o rfl ⟨okR (tUp hn_h t_qq1_), trivial⟩)
  have t_qq5_ : Tq85_ qq5_ = some 1 := hsub _ _ t_qq5_
  have t_qq11_ : Tq85_ qq11_ = some 1 := hsub _ _ t_qq11_
  have t_qq17_ : Tq85_ qq17_ = some 1 := hsub _ _ t_qq17_
  have t_qq23_ : Tq85_ qq23_ = some 1 := hsub _ _ t_qq23_
  have t_qq29_ : Tq85_ qq29_ = some 1 := hsub _ _ t_qq29_
  have t_qq35_ : Tq85_ qq35_ = some 1 := hsub _ _ t_qq35_
  have t_qq41_ : Tq85_ qq41_ = some 1 := hsub _ _ t_qq41_
  have t_qq47_ : Tq85_ qq47_ = some 1 := hsub _ _ t_qq47_
  have t_qq53_ : Tq85_ qq53_ = some 1 := hsub _ _ t_qq53_
  have t_qq59_ : Tq85_ qq59_ = some 1 := hsub _ _ t_qq59_
  have t_qq65_ : Tq85_ qq65_ = some 1 := hsub _ _ t_qq65_
  have t_qq71_ : Tq85_ qq71_ = some 1 := hsub _ _ t_qq71_
  have t_qq77_ : Tq85_ qq77_ = some 1 := hsub _ _ t_qq77_
  have t_qq1_ : Tq85_ qq1_ = some 8 := hsub _ _ t_qq1_
  have hTT : ∀ a t, T a = some t → Tq85_ a = some t := fun a t h => hsub _ _ (hTT a t h)
  have hTF : ∀ a, a ≠ h → a < sz → Tq85_ a = T a := fun a h0 h1 => (hfT a h0).trans (hTF a h0 h1)
  have hF : ∀ a, FrA T a → a ≠ h → a < sz → Mq86_ a = M a := fun a hA h0 h1 => (hfr a h0).trans (hF a hA h0 h1)
  exact ret_v hC hr hlk hK hH (⟨nM_h, t_h, hTT, hTF, hF⟩) (Nat.le_of_ble_eq_true rfl) (Nat.le_of_ble_eq_true rfl) dX3_init_40
set_option maxHeartbeats 4000000 in
set_option maxRecDepth 100000 in
theorem c_X4_init {z : zD} {l : Launch} {D : va_G} {kA : Nat → ClassId} {M : mM} {T : mT} {sz h : Nat} (hc_h : M h = some (.inr (3, [.null, .null, .int 0, .int 0, .null, .int 0, .int 0, .int 0, .int 0, .int 0]))) (hn_h : T h = none) (hlt : h < sz) : mCvB z l yX4_init cX4_init 1 1 2 5 D kA M T sz [.ref h] (fun u => ∃ nb by_, u.1 h = some (.inr (3, [.ref nb, .ref (zv z 0), .int 0, .int 0, .ref by_, .int 0, .int 0, .int 0, .int 0, .int 0])) ∧ u.2 h = none ∧ u.2 nb = some 12 ∧ sz ≤ nb ∧ sz ≤ by_ ∧ (∀ a t, T a = some t → u.2 a = some t) ∧ (∀ a, a ≠ h → a < sz → u.2 a = T a) ∧ ∀ a, FrA T a → a ≠ h → a < sz → u.1 a = M a) := by
  unfold mCvB
  refine start_WB (by decide) (Nat.le_of_ble_eq_true rfl) ?_
  intro p e s m below meth c ls hC hr hlk hnm hK hH hsz hZ hl
  have hx := hC.1
  have hb := hC.2.1
  have hl : lv_has ls 1 [(0, .ref h)] := hl
  have hF : ∀ a, FrA T a → a ≠ h → a < sz → M a = M a := fun a _ _ _ => rfl
  have hTF : ∀ a, a ≠ h → a < sz → T a = T a := fun a _ _ => rfl
  have hTT : ∀ a t, T a = some t → T a = some t := fun _ _ h => h
  refine lv_aload_n hx hb dX4_init_0 rfl (lv_at hl 0 rfl) ?_
  refine W.objInit hx hb hC.2.2.2.1 (hC.2.2.2.2 _ wlX4_3) (hC.2.2.2.2 _ w_oi) (hC.2.2.2.2 _ w_oc) rfl (by rw [hC.2.2.1]; exact hl.1) rfl dX4_init_1 (Nat.le_of_ble_eq_true rfl) (Nat.le_of_ble_eq_true rfl) ?_
  refine W.eq (g2 := F0 m 4 ls []) rfl ?_
  refine lv_aload_n hx hb dX4_init_4 rfl (lv_at hl 0 rfl) ?_
  refine lv_iconst (v := 5) hx hb dX4_init_5 (by decide) ?_
  refine ynewa (atype := .int) (ck := 0) (N := 5) (a0 := (5, .inl (fun _ => 0))) hC hK hH rfl w_ac0 rfl (fun _ h => by cases h) (fun _ => rfl) (by decide) (by decide) (by decide) (Nat.le_of_ble_eq_true rfl) (Nat.le_of_ble_eq_true rfl) dX4_init_6 (fun qq1_ Hq_ Mq2_ e_qq1_ hz nM_qq1_ hn_qq1_ hc_qq1_ hfr hN => ?_)
  have g_qq1_ : sz ≤ qq1_ := by rw [← hsz, e_qq1_]; exact hH.2.1.1
  have n_h_qq1_ : h ≠ qq1_ := neN hc_h nM_qq1_
  have n_qq1__h : qq1_ ≠ h := Ne.symm n_h_qq1_
  have hH := hN
  have hc_qq1_ : Mq2_ qq1_ = some (.inl (kA 0, 5, .inl (fun _ => 0))) := hc_qq1_
  have hc_h : Mq2_ h = some (.inr (3, [.null, .null, .int 0, .int 0, .null, .int 0, .int 0, .int 0, .int 0, .int 0])) := (hfr h n_h_qq1_).trans hc_h
  have hF : ∀ a, FrA T a → a ≠ h → a < sz → Mq2_ a = M a := fun a hA h0 h1 => (hfr a (Nat.ne_of_lt (Nat.lt_of_lt_of_le h1 g_qq1_))).trans (hF a hA h0 h1)
  refine ypF (v := .ref qq1_) hC hK hH hnm (fun _ _ _ h => by cases h; rfl) flX4_9 hc_h (noT hn_h) rfl rfl (Nat.le_of_ble_eq_true rfl) dX4_init_8 (fun Hq_ lcq_ Mq3_ hc_h hfr hH => ?_)
  have hc_h : Mq3_ h = some (.inr (3, [.ref qq1_, .null, .int 0, .int 0, .null, .int 0, .int 0, .int 0, .int 0, .int 0])) := hc_h
  have hc_qq1_ : Mq3_ qq1_ = some (.inl (kA 0, 5, .inl (fun _ => 0))) := (hfr qq1_ n_qq1__h).trans hc_qq1_
  have hF : ∀ a, FrA T a → a ≠ h → a < sz → Mq3_ a = M a := fun a hA h0 h1 => (hfr a h0).trans (hF a hA h0 h1)
  refine lv_aload_n hx hb dX4_init_11 rfl (lv_at hl 0 rfl) ?_
  refine va_gets hx hb hZ.1.1 hH.2.1 hC.2.2.2.1 (hC.2.2.2.2 _ wsX4_15) (fun _ h => h) dX4_init_12 ?_
  refine yp (v := .ref (zv z 0)) hC hK hH flX4_21 hc_h (noT hn_h) rfl rfl (Nat.le_of_ble_eq_true rfl) dX4_init_15 (fun Hq_ lcq_ Mq4_ hc_h hfr hH => ?_)
  have hc_h : Mq4_ h = some (.inr (3, [.ref qq1_, .ref (zv z 0), .int 0, .int 0, .null, .int 0, .int 0, .int 0, .int 0, .int 0])) := hc_h
  have hc_qq1_ : Mq4_ qq1_ = some (.inl (kA 0, 5, .inl (fun _ => 0))) := (hfr qq1_ n_qq1__h).trans hc_qq1_
  have hF : ∀ a, FrA T a → a ≠ h → a < sz → Mq4_ a = M a := fun a hA h0 h1 => (hfr a h0).trans (hF a hA h0 h1)
  refine lv_aload_n hx hb dX4_init_18 rfl (lv_at hl 0 rfl) ?_
  refine lv_iconst (v := 0) hx hb dX4_init_19 (by decide) ?_
  refine ynewa (atype := .byte) (ck := 1) (N := 0) (a0 := (0, .inl (fun _ => 0))) hC hK hH rfl w_ac1 rfl (fun _ h => by cases h) (fun _ => rfl) (by decide) (by decide) (by decide) (Nat.le_of_ble_eq_true rfl) (Nat.le_of_ble_eq_true rfl) dX4_init_20 (fun qq5_ Hq_ Mq6_ e_qq5_ hz nM_qq5_ hn_qq5_ hc_qq5_ hfr hN => ?_)
  have g_qq5_ : sz ≤ qq5_ := by rw [← hsz, e_qq5_]; exact hH.2.1.1
  have n_h_qq5_ : h ≠ qq5_ := neN hc_h nM_qq5_
  have n_qq5__h : qq5_ ≠ h := Ne.symm n_h_qq5_
  have n_qq1__qq5_ : qq1_ ≠ qq5_ := neN hc_qq1_ nM_qq5_
  have n_qq5__qq1_ : qq5_ ≠ qq1_ := Ne.symm n_qq1__qq5_
  have hH := hN
  have hc_qq5_ : Mq6_ qq5_ = some (.inl (kA 1, 0, .inl (fun _ => 0))) := hc_qq5_
  have hc_h : Mq6_ h = some (.inr (3, [.ref qq1_, .ref (zv z 0), .int 0, .int 0, .null, .int 0, .int 0, .int 0, .int 0, .int 0])) := (hfr h n_h_qq5_).trans hc_h
  have hc_qq1_ : Mq6_ qq1_ = some (.inl (kA 0, 5, .inl (fun _ => 0))) := (hfr qq1_ n_qq1__qq5_).trans hc_qq1_
  have hF : ∀ a, FrA T a → a ≠ h → a < sz → Mq6_ a = M a := fun a hA h0 h1 => (hfr a (Nat.ne_of_lt (Nat.lt_of_lt_of_le h1 g_qq5_))).trans (hF a hA h0 h1)
  refine yp (v := .ref qq5_) hC hK hH flX4_24 hc_h (noT hn_h) rfl rfl (Nat.le_of_ble_eq_true rfl) dX4_init_22 (fun Hq_ lcq_ Mq7_ hc_h hfr hH => ?_)
  have hc_h : Mq7_ h = some (.inr (3, [.ref qq1_, .ref (zv z 0), .int 0, .int 0, .ref qq5_, .int 0, .int 0, .int 0, .int 0, .int 0])) := hc_h
  have hc_qq1_ : Mq7_ qq1_ = some (.inl (kA 0, 5, .inl (fun _ => 0))) := (hfr qq1_ n_qq1__h).trans hc_qq1_
  have hc_qq5_ : Mq7_ qq5_ = some (.inl (kA 1, 0, .inl (fun _ => 0))) := (hfr qq5_ n_qq5__h).trans hc_qq5_
  have hF : ∀ a, FrA T a → a ≠ h → a < sz → Mq7_ a = M a := fun a hA h0 h1 => (hfr a h0).trans (hF a hA h0 h1)
  obtain ⟨Mq9_, Tq8_, nM_qq1_, hfr, t_qq1_, hfT, hsub, hH⟩ := hH.re2 (τ := 12) hc_qq1_ hn_qq1_ (conf_i rfl (fun _ _ => iRg _))
  have hc_h : Mq9_ h = some (.inr (3, [.ref qq1_, .ref (zv z 0), .int 0, .int 0, .ref qq5_, .int 0, .int 0, .int 0, .int 0, .int 0])) := (hfr h n_h_qq1_).trans hc_h
  have hc_qq5_ : Mq9_ qq5_ = some (.inl (kA 1, 0, .inl (fun _ => 0))) := (hfr qq5_ n_qq5__qq1_).trans hc_qq5_
  have hn_h : Tq8_ h = none := (hfT h n_h_qq1_).trans hn_h
  have hn_qq5_ : Tq8_ qq5_ = none := (hfT qq5_ n_qq5__qq1_).trans hn_qq5_
  have hTT : ∀ a t, T a = some t → Tq8_ a = some t := fun a t h => hsub _ _ (hTT a t h)
  have hTF : ∀ a, a ≠ h → a < sz → Tq8_ a = T a := fun a h0 h1 => (hfT a (Nat.ne_of_lt (Nat.lt_of_lt_of_le h1 g_qq1_))).trans (hTF a h0 h1)
  have hF : ∀ a, FrA T a → a ≠ h → a < sz → Mq9_ a = M a := fun a hA h0 h1 => (hfr a (Nat.ne_of_lt (Nat.lt_of_lt_of_le h1 g_qq1_))).trans (hF a hA h0 h1)
  exact ret_v hC hr hlk hK hH (⟨qq1_, qq5_, hc_h, hn_h, t_qq1_, g_qq1_, g_qq5_, hTT, hTF, hF⟩) (Nat.le_of_ble_eq_true rfl) (Nat.le_of_ble_eq_true rfl) dX4_init_25
set_option maxHeartbeats 4000000 in
set_option maxRecDepth 100000 in
theorem c_X9_init {z : zD} {l : Launch} {D : va_G} {kA : Nat → ClassId} {M : mM} {T : mT} {sz h : Nat} (hc_h : M h = some (.inr (7, [.null, .null, .null, .null, .null]))) (hn_h : T h = none) (hlt : h < sz) : mCvB z l yX9_init cX9_init 1 4 149 2144 D kA M T sz [.ref h] (fun u => ∃ w im rd rc cu cs bs tp nb by_ rb rs rp Fg, u.1 h = some (.inr (7, [.ref w, .ref im, .ref rd, .ref rc, .ref cu])) ∧ u.2 h = none ∧ u.1 w = some (.inr (6, [.int 0, .int 2, .int 0, .int 0, .int 0, .int 0, .int 0, .int (-1), .ref cs, .ref bs, .ref tp])) ∧ u.2 w = none ∧ u.1 bs = some (.inl (kA 5, 4, .inr (.inr (.inr (.inr Fg))))) ∧ u.1 im = some (.inl (kA 6, 3, .inr (.inr (.inr (.inr (fun _ => none)))))) ∧ u.2 im = none ∧ u.1 rd = some (.inr (3, [.ref nb, .ref (zv z 0), .int 0, .int 0, .ref by_, .int 0, .int 0, .int 0, .int 0, .int 0])) ∧ u.2 rd = none ∧ u.1 rc = some (.inr (4, [.ref rb, .ref rs, .ref rp, .int 0])) ∧ u.2 rc = none ∧ u.2 cu = some 9 ∧ u.2 cs = some 3 ∧ u.2 bs = some 6 ∧ u.2 tp = some 7 ∧ u.2 nb = some 12 ∧ u.2 rb = some 2 ∧ u.2 rs = some 3 ∧ u.2 rp = some 5 ∧ sz ≤ w ∧ sz ≤ im ∧ sz ≤ rd ∧ sz ≤ rc ∧ sz ≤ cu ∧ sz ≤ cs ∧ sz ≤ bs ∧ sz ≤ tp ∧ sz ≤ nb ∧ sz ≤ by_ ∧ sz ≤ rb ∧ sz ≤ rs ∧ sz ≤ rp ∧ (∀ j, j < 4 → ∃ q, Fg j = some q ∧ u.2 q = some 2) ∧ (∀ a t, T a = some t → u.2 a = some t) ∧ (∀ a, a ≠ h → a < sz → u.2 a = T a) ∧ ∀ a, FrA T a → a ≠ h → a < sz → u.1 a = M a) := by
  unfold mCvB
  refine start_WB (by decide) (Nat.le_of_ble_eq_true rfl) ?_
  intro p e s m below meth c ls hC hr hlk hnm hK hH hsz hZ hl
  have hx := hC.1
  have hb := hC.2.1
  have hl : lv_has ls 1 [(0, .ref h)] := hl
  have hF : ∀ a, FrA T a → a ≠ h → a < sz → M a = M a := fun a _ _ _ => rfl
  have hTF : ∀ a, a ≠ h → a < sz → T a = T a := fun a _ _ => rfl
  have hTT : ∀ a t, T a = some t → T a = some t := fun _ _ h => h
  refine lv_aload_n hx hb dX9_init_0 rfl (lv_at hl 0 rfl) ?_
  refine W.objInit hx hb hC.2.2.2.1 (hC.2.2.2.2 _ wlX9_3) (hC.2.2.2.2 _ w_oi) (hC.2.2.2.2 _ w_oc) rfl (by rw [hC.2.2.1]; exact hl.1) rfl dX9_init_1 (Nat.le_of_ble_eq_true rfl) (Nat.le_of_ble_eq_true rfl) ?_
  refine W.eq (g2 := F0 m 4 ls []) rfl ?_
  refine lv_aload_n hx hb dX9_init_4 rfl (lv_at hl 0 rfl) ?_
  refine ynew hC hK hH nlX9_9 (Nat.le_of_ble_eq_true rfl) (Nat.le_of_ble_eq_true rfl) dX9_init_5 (fun qq1_ Hq_ Mq2_ e_qq1_ hz nM_qq1_ hn_qq1_ hc_qq1_ hfr hN => ?_)
  have g_qq1_ : sz ≤ qq1_ := by rw [← hsz, e_qq1_]; exact hH.2.1.1
  have n_h_qq1_ : h ≠ qq1_ := neN hc_h nM_qq1_
  have n_qq1__h : qq1_ ≠ h := Ne.symm n_h_qq1_
  have hH := hN
  have hc_qq1_ : Mq2_ qq1_ = some (.inr (6, [.int 0, .int 0, .int 0, .int 0, .int 0, .int 0, .int 0, .int 0, .null, .null, .null])) := hc_qq1_
  have hc_h : Mq2_ h = some (.inr (7, [.null, .null, .null, .null, .null])) := (hfr h n_h_qq1_).trans hc_h
  have hF : ∀ a, FrA T a → a ≠ h → a < sz → Mq2_ a = M a := fun a hA h0 h1 => (hfr a (Nat.ne_of_lt (Nat.lt_of_lt_of_le h1 g_qq1_))).trans (hF a hA h0 h1)
  refine lv_dup hx hb dX9_init_8 rfl ?_
  have gH : sz ≤ Array.size Hq_ := by rw [← hsz]; exact hH.2.1.1
  have lt_h : h < Array.size Hq_ := hH.1.ltM (by rw [hc_h]; simp)
  have lt_qq1_ : qq1_ < Array.size Hq_ := hH.1.ltM (by rw [hc_qq1_]; simp)
  refine goV hK hH (runI (As := []) (rest := [.ref qq1_, .ref h]) hC hK hH (c_X8_init hc_qq1_ hn_qq1_ lt_qq1_) mlX9_11 ⟨⟨Nat.le_of_ble_eq_true rfl, Nat.le_of_ble_eq_true rfl⟩, Nat.le_of_ble_eq_true rfl, Nat.le_of_ble_eq_true rfl⟩ rfl hl.1 rfl (Nat.le_of_ble_eq_true rfl) dX9_init_9) (fun Mq3_ Tq4_ Hq_ lcq_ hP hz hH => ?_)
  try dsimp only at hP
  obtain ⟨csq5_, bsq6_, tpq7_, Fgq8_, hc_qq1_, hn_qq1_, hc_bsq6_, t_csq5_, t_bsq6_, t_tpq7_, g_csq5_, g_bsq6_, g_tpq7_, h_Fgq8_, hsub, hfT, hfr⟩ := hP
  have n_h_csq5_ : h ≠ csq5_ := Nat.ne_of_lt (Nat.lt_of_lt_of_le lt_h g_csq5_)
  have n_csq5__h : csq5_ ≠ h := Ne.symm n_h_csq5_
  have n_qq1__csq5_ : qq1_ ≠ csq5_ := Nat.ne_of_lt (Nat.lt_of_lt_of_le lt_qq1_ g_csq5_)
  have n_csq5__qq1_ : csq5_ ≠ qq1_ := Ne.symm n_qq1__csq5_
  have n_h_bsq6_ : h ≠ bsq6_ := Nat.ne_of_lt (Nat.lt_of_lt_of_le lt_h g_bsq6_)
  have n_bsq6__h : bsq6_ ≠ h := Ne.symm n_h_bsq6_
  have n_qq1__bsq6_ : qq1_ ≠ bsq6_ := Nat.ne_of_lt (Nat.lt_of_lt_of_le lt_qq1_ g_bsq6_)
  have n_bsq6__qq1_ : bsq6_ ≠ qq1_ := Ne.symm n_qq1__bsq6_
  have n_h_tpq7_ : h ≠ tpq7_ := Nat.ne_of_lt (Nat.lt_of_lt_of_le lt_h g_tpq7_)
  have n_tpq7__h : tpq7_ ≠ h := Ne.symm n_h_tpq7_
  have n_qq1__tpq7_ : qq1_ ≠ tpq7_ := Nat.ne_of_lt (Nat.lt_of_lt_of_le lt_qq1_ g_tpq7_)
  have n_tpq7__qq1_ : tpq7_ ≠ qq1_ := Ne.symm n_qq1__tpq7_
  have hc_h : Mq3_ h = some (.inr (7, [.null, .null, .null, .null, .null])) := (hfr h (Or.inl hn_h) n_h_qq1_ lt_h).trans hc_h
  have hn_h : Tq4_ h = none := (hfT h n_h_qq1_ lt_h).trans hn_h
  have g_csq5_ : sz ≤ csq5_ := Nat.le_trans gH g_csq5_
  have g_bsq6_ : sz ≤ bsq6_ := Nat.le_trans gH g_bsq6_
  have g_tpq7_ : sz ≤ tpq7_ := Nat.le_trans gH g_tpq7_
  have hTT : ∀ a t, T a = some t → Tq4_ a = some t := fun a t h => hsub _ _ (hTT a t h)
  have hF : ∀ a, FrA T a → a ≠ h → a < sz → Mq3_ a = M a := fun a hA h0 h1 => (hfr a (FrA.mv (hTF a h0 h1) hA) (Nat.ne_of_lt (Nat.lt_of_lt_of_le h1 g_qq1_)) (Nat.lt_of_lt_of_le h1 gH)).trans (hF a hA h0 h1)
  have hTF : ∀ a, a ≠ h → a < sz → Tq4_ a = T a := fun a h0 h1 => (hfT a (Nat.ne_of_lt (Nat.lt_of_lt_of_le h1 g_qq1_)) (Nat.lt_of_lt_of_le h1 gH)).trans (hTF a h0 h1)
  refine ypF (v := .ref qq1_) hC hK hH hnm (fun _ _ _ h => by cases h; rfl) flX9_12 hc_h (noT hn_h) rfl rfl (Nat.le_of_ble_eq_true rfl) dX9_init_12 (fun Hq_ lcq_ Mq9_ hc_h hfr hH => ?_)
  have hc_h : Mq9_ h = some (.inr (7, [.ref qq1_, .null, .null, .null, .null])) := hc_h
  have hc_qq1_ : Mq9_ qq1_ = some (.inr (6, [.int 0, .int 2, .int 0, .int 0, .int 0, .int 0, .int 0, .int (-1), .ref csq5_, .ref bsq6_, .ref tpq7_])) := (hfr qq1_ n_qq1__h).trans hc_qq1_
  have hc_bsq6_ : Mq9_ bsq6_ = some (.inl (kA 5, 4, .inr (.inr (.inr (.inr Fgq8_))))) := (hfr bsq6_ n_bsq6__h).trans hc_bsq6_
  have hF : ∀ a, FrA T a → a ≠ h → a < sz → Mq9_ a = M a := fun a hA h0 h1 => (hfr a h0).trans (hF a hA h0 h1)
  refine lv_aload_n hx hb dX9_init_15 rfl (lv_at hl 0 rfl) ?_
  refine lv_iconst (v := 3) hx hb dX9_init_16 (by decide) ?_
  refine ynewq (ck := 6) (N := 3) hC hK hH wcX9_9 (by decide) rfl (by decide) (by decide) (by decide) (Nat.le_of_ble_eq_true rfl) (Nat.le_of_ble_eq_true rfl) dX9_init_17 (fun qq10_ Hq_ Mq11_ e_qq10_ hz nM_qq10_ hn_qq10_ hc_qq10_ hfr hN => ?_)
  have g_qq10_ : sz ≤ qq10_ := by rw [← hsz, e_qq10_]; exact hH.2.1.1
  have n_h_qq10_ : h ≠ qq10_ := neN hc_h nM_qq10_
  have n_qq10__h : qq10_ ≠ h := Ne.symm n_h_qq10_
  have n_qq1__qq10_ : qq1_ ≠ qq10_ := neN hc_qq1_ nM_qq10_
  have n_qq10__qq1_ : qq10_ ≠ qq1_ := Ne.symm n_qq1__qq10_
  have n_bsq6__qq10_ : bsq6_ ≠ qq10_ := neN hc_bsq6_ nM_qq10_
  have n_qq10__bsq6_ : qq10_ ≠ bsq6_ := Ne.symm n_bsq6__qq10_
  have hH := hN
  have hc_qq10_ : Mq11_ qq10_ = some (.inl (kA 6, 3, .inr (.inr (.inr (.inr (fun _ => none)))))) := hc_qq10_
  have hc_h : Mq11_ h = some (.inr (7, [.ref qq1_, .null, .null, .null, .null])) := (hfr h n_h_qq10_).trans hc_h
  have hc_qq1_ : Mq11_ qq1_ = some (.inr (6, [.int 0, .int 2, .int 0, .int 0, .int 0, .int 0, .int 0, .int (-1), .ref csq5_, .ref bsq6_, .ref tpq7_])) := (hfr qq1_ n_qq1__qq10_).trans hc_qq1_
  have hc_bsq6_ : Mq11_ bsq6_ = some (.inl (kA 5, 4, .inr (.inr (.inr (.inr Fgq8_))))) := (hfr bsq6_ n_bsq6__qq10_).trans hc_bsq6_
  have hF : ∀ a, FrA T a → a ≠ h → a < sz → Mq11_ a = M a := fun a hA h0 h1 => (hfr a (Nat.ne_of_lt (Nat.lt_of_lt_of_le h1 g_qq10_))).trans (hF a hA h0 h1)
  refine ypF (v := .ref qq10_) hC hK hH hnm (fun _ _ _ h => by cases h; rfl) flX9_16 hc_h (noT hn_h) rfl rfl (Nat.le_of_ble_eq_true rfl) dX9_init_20 (fun Hq_ lcq_ Mq12_ hc_h hfr hH => ?_)
  have hc_h : Mq12_ h = some (.inr (7, [.ref qq1_, .ref qq10_, .null, .null, .null])) := hc_h
  have hc_qq1_ : Mq12_ qq1_ = some (.inr (6, [.int 0, .int 2, .int 0, .int 0, .int 0, .int 0, .int 0, .int (-1), .ref csq5_, .ref bsq6_, .ref tpq7_])) := (hfr qq1_ n_qq1__h).trans hc_qq1_
  have hc_bsq6_ : Mq12_ bsq6_ = some (.inl (kA 5, 4, .inr (.inr (.inr (.inr Fgq8_))))) := (hfr bsq6_ n_bsq6__h).trans hc_bsq6_
  have hc_qq10_ : Mq12_ qq10_ = some (.inl (kA 6, 3, .inr (.inr (.inr (.inr (fun _ => none)))))) := (hfr qq10_ n_qq10__h).trans hc_qq10_
  have hF : ∀ a, FrA T a → a ≠ h → a < sz → Mq12_ a = M a := fun a hA h0 h1 => (hfr a h0).trans (hF a hA h0 h1)
  refine lv_aload_n hx hb dX9_init_23 rfl (lv_at hl 0 rfl) ?_
  refine ynew hC hK hH nlX9_20 (Nat.le_of_ble_eq_true rfl) (Nat.le_of_ble_eq_true rfl) dX9_init_24 (fun qq13_ Hq_ Mq14_ e_qq13_ hz nM_qq13_ hn_qq13_ hc_qq13_ hfr hN => ?_)
  have g_qq13_ : sz ≤ qq13_ := by rw [← hsz, e_qq13_]; exact hH.2.1.1
  have n_h_qq13_ : h ≠ qq13_ := neN hc_h nM_qq13_
  have n_qq13__h : qq13_ ≠ h := Ne.symm n_h_qq13_
  have n_qq1__qq13_ : qq1_ ≠ qq13_ := neN hc_qq1_ nM_qq13_
  have n_qq13__qq1_ : qq13_ ≠ qq1_ := Ne.symm n_qq1__qq13_
  have n_bsq6__qq13_ : bsq6_ ≠ qq13_ := neN hc_bsq6_ nM_qq13_
  have n_qq13__bsq6_ : qq13_ ≠ bsq6_ := Ne.symm n_bsq6__qq13_
  have n_qq10__qq13_ : qq10_ ≠ qq13_ := neN hc_qq10_ nM_qq13_
  have n_qq13__qq10_ : qq13_ ≠ qq10_ := Ne.symm n_qq10__qq13_
  have hH := hN
  have hc_qq13_ : Mq14_ qq13_ = some (.inr (3, [.null, .null, .int 0, .int 0, .null, .int 0, .int 0, .int 0, .int 0, .int 0])) := hc_qq13_
  have hc_h : Mq14_ h = some (.inr (7, [.ref qq1_, .ref qq10_, .null, .null, .null])) := (hfr h n_h_qq13_).trans hc_h
  have hc_qq1_ : Mq14_ qq1_ = some (.inr (6, [.int 0, .int 2, .int 0, .int 0, .int 0, .int 0, .int 0, .int (-1), .ref csq5_, .ref bsq6_, .ref tpq7_])) := (hfr qq1_ n_qq1__qq13_).trans hc_qq1_
  have hc_bsq6_ : Mq14_ bsq6_ = some (.inl (kA 5, 4, .inr (.inr (.inr (.inr Fgq8_))))) := (hfr bsq6_ n_bsq6__qq13_).trans hc_bsq6_
  have hc_qq10_ : Mq14_ qq10_ = some (.inl (kA 6, 3, .inr (.inr (.inr (.inr (fun _ => none)))))) := (hfr qq10_ n_qq10__qq13_).trans hc_qq10_
  have hF : ∀ a, FrA T a → a ≠ h → a < sz → Mq14_ a = M a := fun a hA h0 h1 => (hfr a (Nat.ne_of_lt (Nat.lt_of_lt_of_le h1 g_qq13_))).trans (hF a hA h0 h1)
  refine lv_dup hx hb dX9_init_27 rfl ?_
  have gH : sz ≤ Array.size Hq_ := by rw [← hsz]; exact hH.2.1.1
  have lt_h : h < Array.size Hq_ := hH.1.ltM (by rw [hc_h]; simp)
  have lt_qq1_ : qq1_ < Array.size Hq_ := hH.1.ltM (by rw [hc_qq1_]; simp)
  have lt_bsq6_ : bsq6_ < Array.size Hq_ := hH.1.ltM (by rw [hc_bsq6_]; simp)
  have lt_qq10_ : qq10_ < Array.size Hq_ := hH.1.ltM (by rw [hc_qq10_]; simp)
  have lt_qq13_ : qq13_ < Array.size Hq_ := hH.1.ltM (by rw [hc_qq13_]; simp)
  refine goV hK hH (runINB (As := []) (rest := [.ref qq13_, .ref h]) hC hK hH hZ (c_X4_init hc_qq13_ hn_qq13_ lt_qq13_) mlX9_22 ⟨⟨Nat.le_of_ble_eq_true rfl, Nat.le_of_ble_eq_true rfl⟩, Nat.le_of_ble_eq_true rfl, Nat.le_of_ble_eq_true rfl⟩ rfl hl.1 rfl (Nat.le_of_ble_eq_true rfl) dX9_init_28) (fun Mq15_ Tq16_ Hq_ lcq_ hP hz hH => ?_)
  try dsimp only at hP
  obtain ⟨nbq17_, by_q18_, hc_qq13_, hn_qq13_, t_nbq17_, g_nbq17_, g_by_q18_, hsub, hfT, hfr⟩ := hP
  have n_h_nbq17_ : h ≠ nbq17_ := Nat.ne_of_lt (Nat.lt_of_lt_of_le lt_h g_nbq17_)
  have n_nbq17__h : nbq17_ ≠ h := Ne.symm n_h_nbq17_
  have n_qq1__nbq17_ : qq1_ ≠ nbq17_ := Nat.ne_of_lt (Nat.lt_of_lt_of_le lt_qq1_ g_nbq17_)
  have n_nbq17__qq1_ : nbq17_ ≠ qq1_ := Ne.symm n_qq1__nbq17_
  have n_bsq6__nbq17_ : bsq6_ ≠ nbq17_ := Nat.ne_of_lt (Nat.lt_of_lt_of_le lt_bsq6_ g_nbq17_)
  have n_nbq17__bsq6_ : nbq17_ ≠ bsq6_ := Ne.symm n_bsq6__nbq17_
  have n_qq10__nbq17_ : qq10_ ≠ nbq17_ := Nat.ne_of_lt (Nat.lt_of_lt_of_le lt_qq10_ g_nbq17_)
  have n_nbq17__qq10_ : nbq17_ ≠ qq10_ := Ne.symm n_qq10__nbq17_
  have n_qq13__nbq17_ : qq13_ ≠ nbq17_ := Nat.ne_of_lt (Nat.lt_of_lt_of_le lt_qq13_ g_nbq17_)
  have n_nbq17__qq13_ : nbq17_ ≠ qq13_ := Ne.symm n_qq13__nbq17_
  have n_h_by_q18_ : h ≠ by_q18_ := Nat.ne_of_lt (Nat.lt_of_lt_of_le lt_h g_by_q18_)
  have n_by_q18__h : by_q18_ ≠ h := Ne.symm n_h_by_q18_
  have n_qq1__by_q18_ : qq1_ ≠ by_q18_ := Nat.ne_of_lt (Nat.lt_of_lt_of_le lt_qq1_ g_by_q18_)
  have n_by_q18__qq1_ : by_q18_ ≠ qq1_ := Ne.symm n_qq1__by_q18_
  have n_bsq6__by_q18_ : bsq6_ ≠ by_q18_ := Nat.ne_of_lt (Nat.lt_of_lt_of_le lt_bsq6_ g_by_q18_)
  have n_by_q18__bsq6_ : by_q18_ ≠ bsq6_ := Ne.symm n_bsq6__by_q18_
  have n_qq10__by_q18_ : qq10_ ≠ by_q18_ := Nat.ne_of_lt (Nat.lt_of_lt_of_le lt_qq10_ g_by_q18_)
  have n_by_q18__qq10_ : by_q18_ ≠ qq10_ := Ne.symm n_qq10__by_q18_
  have n_qq13__by_q18_ : qq13_ ≠ by_q18_ := Nat.ne_of_lt (Nat.lt_of_lt_of_le lt_qq13_ g_by_q18_)
  have n_by_q18__qq13_ : by_q18_ ≠ qq13_ := Ne.symm n_qq13__by_q18_
  have hc_h : Mq15_ h = some (.inr (7, [.ref qq1_, .ref qq10_, .null, .null, .null])) := (hfr h (Or.inl hn_h) n_h_qq13_ lt_h).trans hc_h
  have hn_h : Tq16_ h = none := (hfT h n_h_qq13_ lt_h).trans hn_h
  have hc_qq1_ : Mq15_ qq1_ = some (.inr (6, [.int 0, .int 2, .int 0, .int 0, .int 0, .int 0, .int 0, .int (-1), .ref csq5_, .ref bsq6_, .ref tpq7_])) := (hfr qq1_ (Or.inl hn_qq1_) n_qq1__qq13_ lt_qq1_).trans hc_qq1_
  have hn_qq1_ : Tq16_ qq1_ = none := (hfT qq1_ n_qq1__qq13_ lt_qq1_).trans hn_qq1_
  have hc_bsq6_ : Mq15_ bsq6_ = some (.inl (kA 5, 4, .inr (.inr (.inr (.inr Fgq8_))))) := (hfr bsq6_ (Or.inr t_bsq6_) n_bsq6__qq13_ lt_bsq6_).trans hc_bsq6_
  have hc_qq10_ : Mq15_ qq10_ = some (.inl (kA 6, 3, .inr (.inr (.inr (.inr (fun _ => none)))))) := (hfr qq10_ (Or.inl hn_qq10_) n_qq10__qq13_ lt_qq10_).trans hc_qq10_
  have hn_qq10_ : Tq16_ qq10_ = none := (hfT qq10_ n_qq10__qq13_ lt_qq10_).trans hn_qq10_
  have t_csq5_ : Tq16_ csq5_ = some 3 := hsub _ _ t_csq5_
  have t_bsq6_ : Tq16_ bsq6_ = some 6 := hsub _ _ t_bsq6_
  have t_tpq7_ : Tq16_ tpq7_ = some 7 := hsub _ _ t_tpq7_
  have h_Fgq8_ : ∀ j, j < 4 → ∃ q, Fgq8_ j = some q ∧ Tq16_ q = some 2 := fun j hj => (h_Fgq8_ j hj).imp (fun q h => ⟨h.1, hsub _ _ h.2⟩)
  have g_nbq17_ : sz ≤ nbq17_ := Nat.le_trans gH g_nbq17_
  have g_by_q18_ : sz ≤ by_q18_ := Nat.le_trans gH g_by_q18_
  have hTT : ∀ a t, T a = some t → Tq16_ a = some t := fun a t h => hsub _ _ (hTT a t h)
  have hF : ∀ a, FrA T a → a ≠ h → a < sz → Mq15_ a = M a := fun a hA h0 h1 => (hfr a (FrA.mv (hTF a h0 h1) hA) (Nat.ne_of_lt (Nat.lt_of_lt_of_le h1 g_qq13_)) (Nat.lt_of_lt_of_le h1 gH)).trans (hF a hA h0 h1)
  have hTF : ∀ a, a ≠ h → a < sz → Tq16_ a = T a := fun a h0 h1 => (hfT a (Nat.ne_of_lt (Nat.lt_of_lt_of_le h1 g_qq13_)) (Nat.lt_of_lt_of_le h1 gH)).trans (hTF a h0 h1)
  refine ypF (v := .ref qq13_) hC hK hH hnm (fun _ _ _ h => by cases h; rfl) flX9_23 hc_h (noT hn_h) rfl rfl (Nat.le_of_ble_eq_true rfl) dX9_init_31 (fun Hq_ lcq_ Mq19_ hc_h hfr hH => ?_)
  have hc_h : Mq19_ h = some (.inr (7, [.ref qq1_, .ref qq10_, .ref qq13_, .null, .null])) := hc_h
  have hc_qq1_ : Mq19_ qq1_ = some (.inr (6, [.int 0, .int 2, .int 0, .int 0, .int 0, .int 0, .int 0, .int (-1), .ref csq5_, .ref bsq6_, .ref tpq7_])) := (hfr qq1_ n_qq1__h).trans hc_qq1_
  have hc_bsq6_ : Mq19_ bsq6_ = some (.inl (kA 5, 4, .inr (.inr (.inr (.inr Fgq8_))))) := (hfr bsq6_ n_bsq6__h).trans hc_bsq6_
  have hc_qq10_ : Mq19_ qq10_ = some (.inl (kA 6, 3, .inr (.inr (.inr (.inr (fun _ => none)))))) := (hfr qq10_ n_qq10__h).trans hc_qq10_
  have hc_qq13_ : Mq19_ qq13_ = some (.inr (3, [.ref nbq17_, .ref (zv z 0), .int 0, .int 0, .ref by_q18_, .int 0, .int 0, .int 0, .int 0, .int 0])) := (hfr qq13_ n_qq13__h).trans hc_qq13_
  have hF : ∀ a, FrA T a → a ≠ h → a < sz → Mq19_ a = M a := fun a hA h0 h1 => (hfr a h0).trans (hF a hA h0 h1)
  refine lv_aload_n hx hb dX9_init_34 rfl (lv_at hl 0 rfl) ?_
  refine ynew hC hK hH nlX9_27 (Nat.le_of_ble_eq_true rfl) (Nat.le_of_ble_eq_true rfl) dX9_init_35 (fun qq20_ Hq_ Mq21_ e_qq20_ hz nM_qq20_ hn_qq20_ hc_qq20_ hfr hN => ?_)
  have g_qq20_ : sz ≤ qq20_ := by rw [← hsz, e_qq20_]; exact hH.2.1.1
  have n_h_qq20_ : h ≠ qq20_ := neN hc_h nM_qq20_
  have n_qq20__h : qq20_ ≠ h := Ne.symm n_h_qq20_
  have n_qq1__qq20_ : qq1_ ≠ qq20_ := neN hc_qq1_ nM_qq20_
  have n_qq20__qq1_ : qq20_ ≠ qq1_ := Ne.symm n_qq1__qq20_
  have n_bsq6__qq20_ : bsq6_ ≠ qq20_ := neN hc_bsq6_ nM_qq20_
  have n_qq20__bsq6_ : qq20_ ≠ bsq6_ := Ne.symm n_bsq6__qq20_
  have n_qq10__qq20_ : qq10_ ≠ qq20_ := neN hc_qq10_ nM_qq20_
  have n_qq20__qq10_ : qq20_ ≠ qq10_ := Ne.symm n_qq10__qq20_
  have n_qq13__qq20_ : qq13_ ≠ qq20_ := neN hc_qq13_ nM_qq20_
  have n_qq20__qq13_ : qq20_ ≠ qq13_ := Ne.symm n_qq13__qq20_
  have hH := hN
  have hc_qq20_ : Mq21_ qq20_ = some (.inr (4, [.null, .null, .null, .int 0])) := hc_qq20_
  have hc_h : Mq21_ h = some (.inr (7, [.ref qq1_, .ref qq10_, .ref qq13_, .null, .null])) := (hfr h n_h_qq20_).trans hc_h
  have hc_qq1_ : Mq21_ qq1_ = some (.inr (6, [.int 0, .int 2, .int 0, .int 0, .int 0, .int 0, .int 0, .int (-1), .ref csq5_, .ref bsq6_, .ref tpq7_])) := (hfr qq1_ n_qq1__qq20_).trans hc_qq1_
  have hc_bsq6_ : Mq21_ bsq6_ = some (.inl (kA 5, 4, .inr (.inr (.inr (.inr Fgq8_))))) := (hfr bsq6_ n_bsq6__qq20_).trans hc_bsq6_
  have hc_qq10_ : Mq21_ qq10_ = some (.inl (kA 6, 3, .inr (.inr (.inr (.inr (fun _ => none)))))) := (hfr qq10_ n_qq10__qq20_).trans hc_qq10_
  have hc_qq13_ : Mq21_ qq13_ = some (.inr (3, [.ref nbq17_, .ref (zv z 0), .int 0, .int 0, .ref by_q18_, .int 0, .int 0, .int 0, .int 0, .int 0])) := (hfr qq13_ n_qq13__qq20_).trans hc_qq13_
  have hF : ∀ a, FrA T a → a ≠ h → a < sz → Mq21_ a = M a := fun a hA h0 h1 => (hfr a (Nat.ne_of_lt (Nat.lt_of_lt_of_le h1 g_qq20_))).trans (hF a hA h0 h1)
  refine lv_dup hx hb dX9_init_38 rfl ?_
  have gH : sz ≤ Array.size Hq_ := by rw [← hsz]; exact hH.2.1.1
  have lt_h : h < Array.size Hq_ := hH.1.ltM (by rw [hc_h]; simp)
  have lt_qq1_ : qq1_ < Array.size Hq_ := hH.1.ltM (by rw [hc_qq1_]; simp)
  have lt_bsq6_ : bsq6_ < Array.size Hq_ := hH.1.ltM (by rw [hc_bsq6_]; simp)
  have lt_qq10_ : qq10_ < Array.size Hq_ := hH.1.ltM (by rw [hc_qq10_]; simp)
  have lt_qq13_ : qq13_ < Array.size Hq_ := hH.1.ltM (by rw [hc_qq13_]; simp)
  have lt_qq20_ : qq20_ < Array.size Hq_ := hH.1.ltM (by rw [hc_qq20_]; simp)
  refine goV hK hH (runIN (As := []) (rest := [.ref qq20_, .ref h]) hC hK hH (c_X5_init hc_qq20_ hn_qq20_ lt_qq20_) mlX9_29 ⟨⟨Nat.le_of_ble_eq_true rfl, Nat.le_of_ble_eq_true rfl⟩, Nat.le_of_ble_eq_true rfl, Nat.le_of_ble_eq_true rfl⟩ rfl hl.1 rfl (Nat.le_of_ble_eq_true rfl) dX9_init_39) (fun Mq22_ Tq23_ Hq_ lcq_ hP hz hH => ?_)
  try dsimp only at hP
  obtain ⟨rbq24_, rsq25_, rpq26_, hc_qq20_, hn_qq20_, t_rbq24_, t_rsq25_, t_rpq26_, g_rbq24_, g_rsq25_, g_rpq26_, hsub, hfT, hfr⟩ := hP
  have n_h_rbq24_ : h ≠ rbq24_ := Nat.ne_of_lt (Nat.lt_of_lt_of_le lt_h g_rbq24_)
  have n_rbq24__h : rbq24_ ≠ h := Ne.symm n_h_rbq24_
  have n_qq1__rbq24_ : qq1_ ≠ rbq24_ := Nat.ne_of_lt (Nat.lt_of_lt_of_le lt_qq1_ g_rbq24_)
  have n_rbq24__qq1_ : rbq24_ ≠ qq1_ := Ne.symm n_qq1__rbq24_
  have n_bsq6__rbq24_ : bsq6_ ≠ rbq24_ := Nat.ne_of_lt (Nat.lt_of_lt_of_le lt_bsq6_ g_rbq24_)
  have n_rbq24__bsq6_ : rbq24_ ≠ bsq6_ := Ne.symm n_bsq6__rbq24_
  have n_qq10__rbq24_ : qq10_ ≠ rbq24_ := Nat.ne_of_lt (Nat.lt_of_lt_of_le lt_qq10_ g_rbq24_)
  have n_rbq24__qq10_ : rbq24_ ≠ qq10_ := Ne.symm n_qq10__rbq24_
  have n_qq13__rbq24_ : qq13_ ≠ rbq24_ := Nat.ne_of_lt (Nat.lt_of_lt_of_le lt_qq13_ g_rbq24_)
  have n_rbq24__qq13_ : rbq24_ ≠ qq13_ := Ne.symm n_qq13__rbq24_
  have n_qq20__rbq24_ : qq20_ ≠ rbq24_ := Nat.ne_of_lt (Nat.lt_of_lt_of_le lt_qq20_ g_rbq24_)
  have n_rbq24__qq20_ : rbq24_ ≠ qq20_ := Ne.symm n_qq20__rbq24_
  have n_h_rsq25_ : h ≠ rsq25_ := Nat.ne_of_lt (Nat.lt_of_lt_of_le lt_h g_rsq25_)
  have n_rsq25__h : rsq25_ ≠ h := Ne.symm n_h_rsq25_
  have n_qq1__rsq25_ : qq1_ ≠ rsq25_ := Nat.ne_of_lt (Nat.lt_of_lt_of_le lt_qq1_ g_rsq25_)
  have n_rsq25__qq1_ : rsq25_ ≠ qq1_ := Ne.symm n_qq1__rsq25_
  have n_bsq6__rsq25_ : bsq6_ ≠ rsq25_ := Nat.ne_of_lt (Nat.lt_of_lt_of_le lt_bsq6_ g_rsq25_)
  have n_rsq25__bsq6_ : rsq25_ ≠ bsq6_ := Ne.symm n_bsq6__rsq25_
  have n_qq10__rsq25_ : qq10_ ≠ rsq25_ := Nat.ne_of_lt (Nat.lt_of_lt_of_le lt_qq10_ g_rsq25_)
  have n_rsq25__qq10_ : rsq25_ ≠ qq10_ := Ne.symm n_qq10__rsq25_
  have n_qq13__rsq25_ : qq13_ ≠ rsq25_ := Nat.ne_of_lt (Nat.lt_of_lt_of_le lt_qq13_ g_rsq25_)
  have n_rsq25__qq13_ : rsq25_ ≠ qq13_ := Ne.symm n_qq13__rsq25_
  have n_qq20__rsq25_ : qq20_ ≠ rsq25_ := Nat.ne_of_lt (Nat.lt_of_lt_of_le lt_qq20_ g_rsq25_)
  have n_rsq25__qq20_ : rsq25_ ≠ qq20_ := Ne.symm n_qq20__rsq25_
  have n_h_rpq26_ : h ≠ rpq26_ := Nat.ne_of_lt (Nat.lt_of_lt_of_le lt_h g_rpq26_)
  have n_rpq26__h : rpq26_ ≠ h := Ne.symm n_h_rpq26_
  have n_qq1__rpq26_ : qq1_ ≠ rpq26_ := Nat.ne_of_lt (Nat.lt_of_lt_of_le lt_qq1_ g_rpq26_)
  have n_rpq26__qq1_ : rpq26_ ≠ qq1_ := Ne.symm n_qq1__rpq26_
  have n_bsq6__rpq26_ : bsq6_ ≠ rpq26_ := Nat.ne_of_lt (Nat.lt_of_lt_of_le lt_bsq6_ g_rpq26_)
  have n_rpq26__bsq6_ : rpq26_ ≠ bsq6_ := Ne.symm n_bsq6__rpq26_
  have n_qq10__rpq26_ : qq10_ ≠ rpq26_ := Nat.ne_of_lt (Nat.lt_of_lt_of_le lt_qq10_ g_rpq26_)
  have n_rpq26__qq10_ : rpq26_ ≠ qq10_ := Ne.symm n_qq10__rpq26_
  have n_qq13__rpq26_ : qq13_ ≠ rpq26_ := Nat.ne_of_lt (Nat.lt_of_lt_of_le lt_qq13_ g_rpq26_)
  have n_rpq26__qq13_ : rpq26_ ≠ qq13_ := Ne.symm n_qq13__rpq26_
  have n_qq20__rpq26_ : qq20_ ≠ rpq26_ := Nat.ne_of_lt (Nat.lt_of_lt_of_le lt_qq20_ g_rpq26_)
  have n_rpq26__qq20_ : rpq26_ ≠ qq20_ := Ne.symm n_qq20__rpq26_
  have hc_h : Mq22_ h = some (.inr (7, [.ref qq1_, .ref qq10_, .ref qq13_, .null, .null])) := (hfr h (Or.inl hn_h) n_h_qq20_ lt_h).trans hc_h
  have hn_h : Tq23_ h = none := (hfT h n_h_qq20_ lt_h).trans hn_h
  have hc_qq1_ : Mq22_ qq1_ = some (.inr (6, [.int 0, .int 2, .int 0, .int 0, .int 0, .int 0, .int 0, .int (-1), .ref csq5_, .ref bsq6_, .ref tpq7_])) := (hfr qq1_ (Or.inl hn_qq1_) n_qq1__qq20_ lt_qq1_).trans hc_qq1_
  have hn_qq1_ : Tq23_ qq1_ = none := (hfT qq1_ n_qq1__qq20_ lt_qq1_).trans hn_qq1_
  have hc_bsq6_ : Mq22_ bsq6_ = some (.inl (kA 5, 4, .inr (.inr (.inr (.inr Fgq8_))))) := (hfr bsq6_ (Or.inr t_bsq6_) n_bsq6__qq20_ lt_bsq6_).trans hc_bsq6_
  have hc_qq10_ : Mq22_ qq10_ = some (.inl (kA 6, 3, .inr (.inr (.inr (.inr (fun _ => none)))))) := (hfr qq10_ (Or.inl hn_qq10_) n_qq10__qq20_ lt_qq10_).trans hc_qq10_
  have hn_qq10_ : Tq23_ qq10_ = none := (hfT qq10_ n_qq10__qq20_ lt_qq10_).trans hn_qq10_
  have hc_qq13_ : Mq22_ qq13_ = some (.inr (3, [.ref nbq17_, .ref (zv z 0), .int 0, .int 0, .ref by_q18_, .int 0, .int 0, .int 0, .int 0, .int 0])) := (hfr qq13_ (Or.inl hn_qq13_) n_qq13__qq20_ lt_qq13_).trans hc_qq13_
  have hn_qq13_ : Tq23_ qq13_ = none := (hfT qq13_ n_qq13__qq20_ lt_qq13_).trans hn_qq13_
  have t_csq5_ : Tq23_ csq5_ = some 3 := hsub _ _ t_csq5_
  have t_bsq6_ : Tq23_ bsq6_ = some 6 := hsub _ _ t_bsq6_
  have t_tpq7_ : Tq23_ tpq7_ = some 7 := hsub _ _ t_tpq7_
  have t_nbq17_ : Tq23_ nbq17_ = some 12 := hsub _ _ t_nbq17_
  have h_Fgq8_ : ∀ j, j < 4 → ∃ q, Fgq8_ j = some q ∧ Tq23_ q = some 2 := fun j hj => (h_Fgq8_ j hj).imp (fun q h => ⟨h.1, hsub _ _ h.2⟩)
  have g_rbq24_ : sz ≤ rbq24_ := Nat.le_trans gH g_rbq24_
  have g_rsq25_ : sz ≤ rsq25_ := Nat.le_trans gH g_rsq25_
  have g_rpq26_ : sz ≤ rpq26_ := Nat.le_trans gH g_rpq26_
  have hTT : ∀ a t, T a = some t → Tq23_ a = some t := fun a t h => hsub _ _ (hTT a t h)
  have hF : ∀ a, FrA T a → a ≠ h → a < sz → Mq22_ a = M a := fun a hA h0 h1 => (hfr a (FrA.mv (hTF a h0 h1) hA) (Nat.ne_of_lt (Nat.lt_of_lt_of_le h1 g_qq20_)) (Nat.lt_of_lt_of_le h1 gH)).trans (hF a hA h0 h1)
  have hTF : ∀ a, a ≠ h → a < sz → Tq23_ a = T a := fun a h0 h1 => (hfT a (Nat.ne_of_lt (Nat.lt_of_lt_of_le h1 g_qq20_)) (Nat.lt_of_lt_of_le h1 gH)).trans (hTF a h0 h1)
  refine ypF (v := .ref qq20_) hC hK hH hnm (fun _ _ _ h => by cases h; rfl) flX9_30 hc_h (noT hn_h) rfl rfl (Nat.le_of_ble_eq_true rfl) dX9_init_42 (fun Hq_ lcq_ Mq27_ hc_h hfr hH => ?_)
  have hc_h : Mq27_ h = some (.inr (7, [.ref qq1_, .ref qq10_, .ref qq13_, .ref qq20_, .null])) := hc_h
  have hc_qq1_ : Mq27_ qq1_ = some (.inr (6, [.int 0, .int 2, .int 0, .int 0, .int 0, .int 0, .int 0, .int (-1), .ref csq5_, .ref bsq6_, .ref tpq7_])) := (hfr qq1_ n_qq1__h).trans hc_qq1_
  have hc_bsq6_ : Mq27_ bsq6_ = some (.inl (kA 5, 4, .inr (.inr (.inr (.inr Fgq8_))))) := (hfr bsq6_ n_bsq6__h).trans hc_bsq6_
  have hc_qq10_ : Mq27_ qq10_ = some (.inl (kA 6, 3, .inr (.inr (.inr (.inr (fun _ => none)))))) := (hfr qq10_ n_qq10__h).trans hc_qq10_
  have hc_qq13_ : Mq27_ qq13_ = some (.inr (3, [.ref nbq17_, .ref (zv z 0), .int 0, .int 0, .ref by_q18_, .int 0, .int 0, .int 0, .int 0, .int 0])) := (hfr qq13_ n_qq13__h).trans hc_qq13_
  have hc_qq20_ : Mq27_ qq20_ = some (.inr (4, [.ref rbq24_, .ref rsq25_, .ref rpq26_, .int 0])) := (hfr qq20_ n_qq20__h).trans hc_qq20_
  have hF : ∀ a, FrA T a → a ≠ h → a < sz → Mq27_ a = M a := fun a hA h0 h1 => (hfr a h0).trans (hF a hA h0 h1)
  refine lv_aload_n hx hb dX9_init_45 rfl (lv_at hl 0 rfl) ?_
  refine ynew hC hK hH nlX9_34 (Nat.le_of_ble_eq_true rfl) (Nat.le_of_ble_eq_true rfl) dX9_init_46 (fun qq28_ Hq_ Mq29_ e_qq28_ hz nM_qq28_ hn_qq28_ hc_qq28_ hfr hN => ?_)
  have g_qq28_ : sz ≤ qq28_ := by rw [← hsz, e_qq28_]; exact hH.2.1.1
  have n_h_qq28_ : h ≠ qq28_ := neN hc_h nM_qq28_
  have n_qq28__h : qq28_ ≠ h := Ne.symm n_h_qq28_
  have n_qq1__qq28_ : qq1_ ≠ qq28_ := neN hc_qq1_ nM_qq28_
  have n_qq28__qq1_ : qq28_ ≠ qq1_ := Ne.symm n_qq1__qq28_
  have n_bsq6__qq28_ : bsq6_ ≠ qq28_ := neN hc_bsq6_ nM_qq28_
  have n_qq28__bsq6_ : qq28_ ≠ bsq6_ := Ne.symm n_bsq6__qq28_
  have n_qq10__qq28_ : qq10_ ≠ qq28_ := neN hc_qq10_ nM_qq28_
  have n_qq28__qq10_ : qq28_ ≠ qq10_ := Ne.symm n_qq10__qq28_
  have n_qq13__qq28_ : qq13_ ≠ qq28_ := neN hc_qq13_ nM_qq28_
  have n_qq28__qq13_ : qq28_ ≠ qq13_ := Ne.symm n_qq13__qq28_
  have n_qq20__qq28_ : qq20_ ≠ qq28_ := neN hc_qq20_ nM_qq28_
  have n_qq28__qq20_ : qq28_ ≠ qq20_ := Ne.symm n_qq20__qq28_
  have hH := hN
  have hc_qq28_ : Mq29_ qq28_ = some (.inr (2, [.null])) := hc_qq28_
  have hc_h : Mq29_ h = some (.inr (7, [.ref qq1_, .ref qq10_, .ref qq13_, .ref qq20_, .null])) := (hfr h n_h_qq28_).trans hc_h
  have hc_qq1_ : Mq29_ qq1_ = some (.inr (6, [.int 0, .int 2, .int 0, .int 0, .int 0, .int 0, .int 0, .int (-1), .ref csq5_, .ref bsq6_, .ref tpq7_])) := (hfr qq1_ n_qq1__qq28_).trans hc_qq1_
  have hc_bsq6_ : Mq29_ bsq6_ = some (.inl (kA 5, 4, .inr (.inr (.inr (.inr Fgq8_))))) := (hfr bsq6_ n_bsq6__qq28_).trans hc_bsq6_
  have hc_qq10_ : Mq29_ qq10_ = some (.inl (kA 6, 3, .inr (.inr (.inr (.inr (fun _ => none)))))) := (hfr qq10_ n_qq10__qq28_).trans hc_qq10_
  have hc_qq13_ : Mq29_ qq13_ = some (.inr (3, [.ref nbq17_, .ref (zv z 0), .int 0, .int 0, .ref by_q18_, .int 0, .int 0, .int 0, .int 0, .int 0])) := (hfr qq13_ n_qq13__qq28_).trans hc_qq13_
  have hc_qq20_ : Mq29_ qq20_ = some (.inr (4, [.ref rbq24_, .ref rsq25_, .ref rpq26_, .int 0])) := (hfr qq20_ n_qq20__qq28_).trans hc_qq20_
  have hF : ∀ a, FrA T a → a ≠ h → a < sz → Mq29_ a = M a := fun a hA h0 h1 => (hfr a (Nat.ne_of_lt (Nat.lt_of_lt_of_le h1 g_qq28_))).trans (hF a hA h0 h1)
  refine lv_dup hx hb dX9_init_49 rfl ?_
  have gH : sz ≤ Array.size Hq_ := by rw [← hsz]; exact hH.2.1.1
  have lt_h : h < Array.size Hq_ := hH.1.ltM (by rw [hc_h]; simp)
  have lt_qq1_ : qq1_ < Array.size Hq_ := hH.1.ltM (by rw [hc_qq1_]; simp)
  have lt_bsq6_ : bsq6_ < Array.size Hq_ := hH.1.ltM (by rw [hc_bsq6_]; simp)
  have lt_qq10_ : qq10_ < Array.size Hq_ := hH.1.ltM (by rw [hc_qq10_]; simp)
  have lt_qq13_ : qq13_ < Array.size Hq_ := hH.1.ltM (by rw [hc_qq13_]; simp)
  have lt_qq20_ : qq20_ < Array.size Hq_ := hH.1.ltM (by rw [hc_qq20_]; simp)
  have lt_qq28_ : qq28_ < Array.size Hq_ := hH.1.ltM (by rw [hc_qq28_]; simp)
  refine goV hK hH (runI (As := []) (rest := [.ref qq28_, .ref h]) hC hK hH (c_X3_init hc_qq28_ hn_qq28_ lt_qq28_) mlX9_36 ⟨⟨Nat.le_of_ble_eq_true rfl, Nat.le_of_ble_eq_true rfl⟩, Nat.le_of_ble_eq_true rfl, Nat.le_of_ble_eq_true rfl⟩ rfl hl.1 rfl (Nat.le_of_ble_eq_true rfl) dX9_init_50) (fun Mq30_ Tq31_ Hq_ lcq_ hP hz hH => ?_)
  try dsimp only at hP
  obtain ⟨nM_qq28_, t_qq28_, hsub, hfT, hfr⟩ := hP
  have hc_h : Mq30_ h = some (.inr (7, [.ref qq1_, .ref qq10_, .ref qq13_, .ref qq20_, .null])) := (hfr h (Or.inl hn_h) n_h_qq28_ lt_h).trans hc_h
  have hn_h : Tq31_ h = none := (hfT h n_h_qq28_ lt_h).trans hn_h
  have hc_qq1_ : Mq30_ qq1_ = some (.inr (6, [.int 0, .int 2, .int 0, .int 0, .int 0, .int 0, .int 0, .int (-1), .ref csq5_, .ref bsq6_, .ref tpq7_])) := (hfr qq1_ (Or.inl hn_qq1_) n_qq1__qq28_ lt_qq1_).trans hc_qq1_
  have hn_qq1_ : Tq31_ qq1_ = none := (hfT qq1_ n_qq1__qq28_ lt_qq1_).trans hn_qq1_
  have hc_bsq6_ : Mq30_ bsq6_ = some (.inl (kA 5, 4, .inr (.inr (.inr (.inr Fgq8_))))) := (hfr bsq6_ (Or.inr t_bsq6_) n_bsq6__qq28_ lt_bsq6_).trans hc_bsq6_
  have hc_qq10_ : Mq30_ qq10_ = some (.inl (kA 6, 3, .inr (.inr (.inr (.inr (fun _ => none)))))) := (hfr qq10_ (Or.inl hn_qq10_) n_qq10__qq28_ lt_qq10_).trans hc_qq10_
  have hn_qq10_ : Tq31_ qq10_ = none := (hfT qq10_ n_qq10__qq28_ lt_qq10_).trans hn_qq10_
  have hc_qq13_ : Mq30_ qq13_ = some (.inr (3, [.ref nbq17_, .ref (zv z 0), .int 0, .int 0, .ref by_q18_, .int 0, .int 0, .int 0, .int 0, .int 0])) := (hfr qq13_ (Or.inl hn_qq13_) n_qq13__qq28_ lt_qq13_).trans hc_qq13_
  have hn_qq13_ : Tq31_ qq13_ = none := (hfT qq13_ n_qq13__qq28_ lt_qq13_).trans hn_qq13_
  have hc_qq20_ : Mq30_ qq20_ = some (.inr (4, [.ref rbq24_, .ref rsq25_, .ref rpq26_, .int 0])) := (hfr qq20_ (Or.inl hn_qq20_) n_qq20__qq28_ lt_qq20_).trans hc_qq20_
  have hn_qq20_ : Tq31_ qq20_ = none := (hfT qq20_ n_qq20__qq28_ lt_qq20_).trans hn_qq20_
  have t_csq5_ : Tq31_ csq5_ = some 3 := hsub _ _ t_csq5_
  have t_bsq6_ : Tq31_ bsq6_ = some 6 := hsub _ _ t_bsq6_
  have t_tpq7_ : Tq31_ tpq7_ = some 7 := hsub _ _ t_tpq7_
  have t_nbq17_ : Tq31_ nbq17_ = some 12 := hsub _ _ t_nbq17_
  have t_rbq24_ : Tq31_ rbq24_ = some 2 := hsub _ _ t_rbq24_
  have t_rsq25_ : Tq31_ rsq25_ = some 3 := hsub _ _ t_rsq25_
  have t_rpq26_ : Tq31_ rpq26_ = some 5 := hsub _ _ t_rpq26_
  have h_Fgq8_ : ∀ j, j < 4 → ∃ q, Fgq8_ j = some q ∧ Tq31_ q = some 2 := fun j hj => (h_Fgq8_ j hj).imp (fun q h => ⟨h.1, hsub _ _ h.2⟩)
  have hTT : ∀ a t, T a = some t → Tq31_ a = some t := fun a t h => hsub _ _ (hTT a t h)
  have hF : ∀ a, FrA T a → a ≠ h → a < sz → Mq30_ a = M a := fun a hA h0 h1 => (hfr a (FrA.mv (hTF a h0 h1) hA) (Nat.ne_of_lt (Nat.lt_of_lt_of_le h1 g_qq28_)) (Nat.lt_of_lt_of_le h1 gH)).trans (hF a hA h0 h1)
  have hTF : ∀ a, a ≠ h → a < sz → Tq31_ a = T a := fun a h0 h1 => (hfT a (Nat.ne_of_lt (Nat.lt_of_lt_of_le h1 g_qq28_)) (Nat.lt_of_lt_of_le h1 gH)).trans (hTF a h0 h1)
  refine ypF (v := .ref qq28_) hC hK hH hnm (fun _ _ _ h => by cases h; rfl) flX9_37 hc_h (noT hn_h) rfl rfl (Nat.le_of_ble_eq_true rfl) dX9_init_53 (fun Hq_ lcq_ Mq32_ hc_h hfr hH => ?_)
  have hc_h : Mq32_ h = some (.inr (7, [.ref qq1_, .ref qq10_, .ref qq13_, .ref qq20_, .ref qq28_])) := hc_h
  have hc_qq1_ : Mq32_ qq1_ = some (.inr (6, [.int 0, .int 2, .int 0, .int 0, .int 0, .int 0, .int 0, .int (-1), .ref csq5_, .ref bsq6_, .ref tpq7_])) := (hfr qq1_ n_qq1__h).trans hc_qq1_
  have hc_bsq6_ : Mq32_ bsq6_ = some (.inl (kA 5, 4, .inr (.inr (.inr (.inr Fgq8_))))) := (hfr bsq6_ n_bsq6__h).trans hc_bsq6_
  have hc_qq10_ : Mq32_ qq10_ = some (.inl (kA 6, 3, .inr (.inr (.inr (.inr (fun _ => none)))))) := (hfr qq10_ n_qq10__h).trans hc_qq10_
  have hc_qq13_ : Mq32_ qq13_ = some (.inr (3, [.ref nbq17_, .ref (zv z 0), .int 0, .int 0, .ref by_q18_, .int 0, .int 0, .int 0, .int 0, .int 0])) := (hfr qq13_ n_qq13__h).trans hc_qq13_
  have hc_qq20_ : Mq32_ qq20_ = some (.inr (4, [.ref rbq24_, .ref rsq25_, .ref rpq26_, .int 0])) := (hfr qq20_ n_qq20__h).trans hc_qq20_
  have hF : ∀ a, FrA T a → a ≠ h → a < sz → Mq32_ a = M a := fun a hA h0 h1 => (hfr a h0).trans (hF a hA h0 h1)
  exact ret_v hC hr hlk hK hH (⟨qq1_, qq10_, qq13_, qq20_, qq28_, csq5_, bsq6_, tpq7_, nbq17_, by_q18_, rbq24_, rsq25_, rpq26_, Fgq8_, hc_h, hn_h, hc_qq1_, hn_qq1_, hc_bsq6_, hc_qq10_, hn_qq10_, hc_qq13_, hn_qq13_, hc_qq20_, hn_qq20_, t_qq28_, t_csq5_, t_bsq6_, t_tpq7_, t_nbq17_, t_rbq24_, t_rsq25_, t_rpq26_, g_qq1_, g_qq10_, g_qq13_, g_qq20_, g_qq28_, g_csq5_, g_bsq6_, g_tpq7_, g_nbq17_, g_by_q18_, g_rbq24_, g_rsq25_, g_rpq26_, h_Fgq8_, hTT, hTF, hF⟩) (Nat.le_of_ble_eq_true rfl) (Nat.le_of_ble_eq_true rfl) dX9_init_56
