set_option maxHeartbeats 4000000 in
set_option maxRecDepth 100000 in
theorem c_X10_init {l : Launch} {D : va_G} {kA : Nat → ClassId} {M : mM} {T : mT} {sz h : Nat} (hc_h : M h = some (.inr (8, [.null, .null, .null, .int 0, .int 0, .null, .int 0, .int 0, .int 0, .int 0, .int 0, .long 0, .int 0, .null]))) (hn_h : T h = none) (hlt : h < sz) : mCv l yX10_init cX10_init 1 1 5 9525 D kA M T sz [.ref h] (fun u => ∃ al mt ii pa li F, u.1 h = some (.inr (8, [.ref al, .ref mt, .ref ii, .int 0, .int (-1), .ref pa, .int 0, .int 0, .int 0, .int 0, .int 0, .long 0, .int 0, .ref li])) ∧ u.2 h = none ∧ u.1 al = some (.inl (kA 0, 7506, .inl F)) ∧ u.2 al = none ∧ u.1 ii = some (.inl (kA 2, 3, .inl (fun _ => 0))) ∧ u.2 ii = none ∧ u.2 mt = some 11 ∧ u.2 pa = some 13 ∧ u.2 li = some 14 ∧ sz ≤ al ∧ sz ≤ mt ∧ sz ≤ ii ∧ sz ≤ pa ∧ sz ≤ li ∧ (Rng F) ∧ (∀ a t, T a = some t → u.2 a = some t) ∧ (∀ a, a ≠ h → a < sz → u.2 a = T a) ∧ ∀ a, FrA T a → a ≠ h → a < sz → u.1 a = M a) := by
  unfold mCv
  refine start_W (by decide) (Nat.le_of_ble_eq_true rfl) ?_
  intro p e s m below meth c ls hC hr hlk hnm hK hH hsz hl
  have hx := hC.1
  have hb := hC.2.1
  have hl : lv_has ls 1 [(0, .ref h)] := hl
  have hF : ∀ a, FrA T a → a ≠ h → a < sz → M a = M a := fun a _ _ _ => rfl
  have hTF : ∀ a, a ≠ h → a < sz → T a = T a := fun a _ _ => rfl
  have hTT : ∀ a t, T a = some t → T a = some t := fun _ _ h => h
  refine lv_aload_n hx hb dX10_init_0 rfl (lv_at hl 0 rfl) ?_
  refine W.objInit hx hb hC.2.2.2.1 (hC.2.2.2.2 _ wlX10_1) (hC.2.2.2.2 _ w_oi) (hC.2.2.2.2 _ w_oc) rfl (by rw [hC.2.2.1]; exact hl.1) rfl dX10_init_1 (Nat.le_of_ble_eq_true rfl) (Nat.le_of_ble_eq_true rfl) ?_
  refine W.eq (g2 := F0 m 4 ls []) rfl ?_
  refine lv_aload_n hx hb dX10_init_4 rfl (lv_at hl 0 rfl) ?_
  refine lv_sipush (v := 7506) hx hb dX10_init_5 (by decide) ?_
  refine ynewa (atype := .int) (ck := 0) (N := 7506) (a0 := (7506, .inl (fun _ => 0))) hC hK hH rfl w_ac0 rfl (fun _ h => by cases h) (fun _ => rfl) (by decide) (by decide) (by decide) (Nat.le_of_ble_eq_true rfl) (Nat.le_of_ble_eq_true rfl) dX10_init_8 (fun qq1_ Hq_ Mq2_ e_qq1_ hz nM_qq1_ hn_qq1_ hc_qq1_ hfr hN => ?_)
  have g_qq1_ : sz ≤ qq1_ := by rw [← hsz, e_qq1_]; exact hH.2.1.1
  have n_h_qq1_ : h ≠ qq1_ := neN hc_h nM_qq1_
  have n_qq1__h : qq1_ ≠ h := Ne.symm n_h_qq1_
  have hH := hN
  have hc_qq1_ : Mq2_ qq1_ = some (.inl (kA 0, 7506, .inl (fun _ => 0))) := hc_qq1_
  have hc_h : Mq2_ h = some (.inr (8, [.null, .null, .null, .int 0, .int 0, .null, .int 0, .int 0, .int 0, .int 0, .int 0, .long 0, .int 0, .null])) := (hfr h n_h_qq1_).trans hc_h
  have hF : ∀ a, FrA T a → a ≠ h → a < sz → Mq2_ a = M a := fun a hA h0 h1 => (hfr a (Nat.ne_of_lt (Nat.lt_of_lt_of_le h1 g_qq1_))).trans (hF a hA h0 h1)
  refine ypF (v := .ref qq1_) hC hK hH hnm (fun _ _ _ h => by cases h; rfl) flX10_7 hc_h (noT hn_h) rfl rfl (Nat.le_of_ble_eq_true rfl) dX10_init_10 (fun Hq_ lcq_ Mq3_ hc_h hfr hH => ?_)
  have hc_h : Mq3_ h = some (.inr (8, [.ref qq1_, .null, .null, .int 0, .int 0, .null, .int 0, .int 0, .int 0, .int 0, .int 0, .long 0, .int 0, .null])) := hc_h
  have hc_qq1_ : Mq3_ qq1_ = some (.inl (kA 0, 7506, .inl (fun _ => 0))) := (hfr qq1_ n_qq1__h).trans hc_qq1_
  have hF : ∀ a, FrA T a → a ≠ h → a < sz → Mq3_ a = M a := fun a hA h0 h1 => (hfr a h0).trans (hF a hA h0 h1)
  refine lv_aload_n hx hb dX10_init_13 rfl (lv_at hl 0 rfl) ?_
  refine lv_sipush (v := 600) hx hb dX10_init_14 (by decide) ?_
  refine ynewa (atype := .int) (ck := 0) (N := 600) (a0 := (600, .inl (fun _ => 0))) hC hK hH rfl w_ac0 rfl (fun _ h => by cases h) (fun _ => rfl) (by decide) (by decide) (by decide) (Nat.le_of_ble_eq_true rfl) (Nat.le_of_ble_eq_true rfl) dX10_init_17 (fun qq4_ Hq_ Mq5_ e_qq4_ hz nM_qq4_ hn_qq4_ hc_qq4_ hfr hN => ?_)
  have g_qq4_ : sz ≤ qq4_ := by rw [← hsz, e_qq4_]; exact hH.2.1.1
  have n_h_qq4_ : h ≠ qq4_ := neN hc_h nM_qq4_
  have n_qq4__h : qq4_ ≠ h := Ne.symm n_h_qq4_
  have n_qq1__qq4_ : qq1_ ≠ qq4_ := neN hc_qq1_ nM_qq4_
  have n_qq4__qq1_ : qq4_ ≠ qq1_ := Ne.symm n_qq1__qq4_
  have hH := hN
  have hc_qq4_ : Mq5_ qq4_ = some (.inl (kA 0, 600, .inl (fun _ => 0))) := hc_qq4_
  have hc_h : Mq5_ h = some (.inr (8, [.ref qq1_, .null, .null, .int 0, .int 0, .null, .int 0, .int 0, .int 0, .int 0, .int 0, .long 0, .int 0, .null])) := (hfr h n_h_qq4_).trans hc_h
  have hc_qq1_ : Mq5_ qq1_ = some (.inl (kA 0, 7506, .inl (fun _ => 0))) := (hfr qq1_ n_qq1__qq4_).trans hc_qq1_
  have hF : ∀ a, FrA T a → a ≠ h → a < sz → Mq5_ a = M a := fun a hA h0 h1 => (hfr a (Nat.ne_of_lt (Nat.lt_of_lt_of_le h1 g_qq4_))).trans (hF a hA h0 h1)
  refine ypF (v := .ref qq4_) hC hK hH hnm (fun _ _ _ h => by cases h; rfl) flX10_13 hc_h (noT hn_h) rfl rfl (Nat.le_of_ble_eq_true rfl) dX10_init_19 (fun Hq_ lcq_ Mq6_ hc_h hfr hH => ?_)
  have hc_h : Mq6_ h = some (.inr (8, [.ref qq1_, .ref qq4_, .null, .int 0, .int 0, .null, .int 0, .int 0, .int 0, .int 0, .int 0, .long 0, .int 0, .null])) := hc_h
  have hc_qq1_ : Mq6_ qq1_ = some (.inl (kA 0, 7506, .inl (fun _ => 0))) := (hfr qq1_ n_qq1__h).trans hc_qq1_
  have hc_qq4_ : Mq6_ qq4_ = some (.inl (kA 0, 600, .inl (fun _ => 0))) := (hfr qq4_ n_qq4__h).trans hc_qq4_
  have hF : ∀ a, FrA T a → a ≠ h → a < sz → Mq6_ a = M a := fun a hA h0 h1 => (hfr a h0).trans (hF a hA h0 h1)
  refine lv_aload_n hx hb dX10_init_22 rfl (lv_at hl 0 rfl) ?_
  refine lv_iconst (v := 3) hx hb dX10_init_23 (by decide) ?_
  refine ynewa (atype := .boolean) (ck := 2) (N := 3) (a0 := (3, .inl (fun _ => 0))) hC hK hH rfl w_ac2 rfl (fun _ h => by cases h) (fun _ => rfl) (by decide) (by decide) (by decide) (Nat.le_of_ble_eq_true rfl) (Nat.le_of_ble_eq_true rfl) dX10_init_24 (fun qq7_ Hq_ Mq8_ e_qq7_ hz nM_qq7_ hn_qq7_ hc_qq7_ hfr hN => ?_)
  have g_qq7_ : sz ≤ qq7_ := by rw [← hsz, e_qq7_]; exact hH.2.1.1
  have n_h_qq7_ : h ≠ qq7_ := neN hc_h nM_qq7_
  have n_qq7__h : qq7_ ≠ h := Ne.symm n_h_qq7_
  have n_qq1__qq7_ : qq1_ ≠ qq7_ := neN hc_qq1_ nM_qq7_
  have n_qq7__qq1_ : qq7_ ≠ qq1_ := Ne.symm n_qq1__qq7_
  have n_qq4__qq7_ : qq4_ ≠ qq7_ := neN hc_qq4_ nM_qq7_
  have n_qq7__qq4_ : qq7_ ≠ qq4_ := Ne.symm n_qq4__qq7_
  have hH := hN
  have hc_qq7_ : Mq8_ qq7_ = some (.inl (kA 2, 3, .inl (fun _ => 0))) := hc_qq7_
  have hc_h : Mq8_ h = some (.inr (8, [.ref qq1_, .ref qq4_, .null, .int 0, .int 0, .null, .int 0, .int 0, .int 0, .int 0, .int 0, .long 0, .int 0, .null])) := (hfr h n_h_qq7_).trans hc_h
  have hc_qq1_ : Mq8_ qq1_ = some (.inl (kA 0, 7506, .inl (fun _ => 0))) := (hfr qq1_ n_qq1__qq7_).trans hc_qq1_
  have hc_qq4_ : Mq8_ qq4_ = some (.inl (kA 0, 600, .inl (fun _ => 0))) := (hfr qq4_ n_qq4__qq7_).trans hc_qq4_
  have hF : ∀ a, FrA T a → a ≠ h → a < sz → Mq8_ a = M a := fun a hA h0 h1 => (hfr a (Nat.ne_of_lt (Nat.lt_of_lt_of_le h1 g_qq7_))).trans (hF a hA h0 h1)
  refine ypF (v := .ref qq7_) hC hK hH hnm (fun _ _ _ h => by cases h; rfl) flX10_16 hc_h (noT hn_h) rfl rfl (Nat.le_of_ble_eq_true rfl) dX10_init_26 (fun Hq_ lcq_ Mq9_ hc_h hfr hH => ?_)
  have hc_h : Mq9_ h = some (.inr (8, [.ref qq1_, .ref qq4_, .ref qq7_, .int 0, .int 0, .null, .int 0, .int 0, .int 0, .int 0, .int 0, .long 0, .int 0, .null])) := hc_h
  have hc_qq1_ : Mq9_ qq1_ = some (.inl (kA 0, 7506, .inl (fun _ => 0))) := (hfr qq1_ n_qq1__h).trans hc_qq1_
  have hc_qq4_ : Mq9_ qq4_ = some (.inl (kA 0, 600, .inl (fun _ => 0))) := (hfr qq4_ n_qq4__h).trans hc_qq4_
  have hc_qq7_ : Mq9_ qq7_ = some (.inl (kA 2, 3, .inl (fun _ => 0))) := (hfr qq7_ n_qq7__h).trans hc_qq7_
  have hF : ∀ a, FrA T a → a ≠ h → a < sz → Mq9_ a = M a := fun a hA h0 h1 => (hfr a h0).trans (hF a hA h0 h1)
  refine lv_aload_n hx hb dX10_init_29 rfl (lv_at hl 0 rfl) ?_
  refine lv_iconst (v := -1) hx hb dX10_init_30 (by decide) ?_
  refine yp (v := .int (-1)) hC hK hH flX10_20 hc_h (noT hn_h) rfl rfl (Nat.le_of_ble_eq_true rfl) dX10_init_31 (fun Hq_ lcq_ Mq10_ hc_h hfr hH => ?_)
  have hc_h : Mq10_ h = some (.inr (8, [.ref qq1_, .ref qq4_, .ref qq7_, .int 0, .int (-1), .null, .int 0, .int 0, .int 0, .int 0, .int 0, .long 0, .int 0, .null])) := hc_h
  have hc_qq1_ : Mq10_ qq1_ = some (.inl (kA 0, 7506, .inl (fun _ => 0))) := (hfr qq1_ n_qq1__h).trans hc_qq1_
  have hc_qq4_ : Mq10_ qq4_ = some (.inl (kA 0, 600, .inl (fun _ => 0))) := (hfr qq4_ n_qq4__h).trans hc_qq4_
  have hc_qq7_ : Mq10_ qq7_ = some (.inl (kA 2, 3, .inl (fun _ => 0))) := (hfr qq7_ n_qq7__h).trans hc_qq7_
  have hF : ∀ a, FrA T a → a ≠ h → a < sz → Mq10_ a = M a := fun a hA h0 h1 => (hfr a h0).trans (hF a hA h0 h1)
  refine lv_aload_n hx hb dX10_init_34 rfl (lv_at hl 0 rfl) ?_
  refine lv_bipush (v := 16) hx hb dX10_init_35 (by decide) ?_
  refine ynewa (atype := .int) (ck := 0) (N := 16) (a0 := (16, .inl (fun _ => 0))) hC hK hH rfl w_ac0 rfl (fun _ h => by cases h) (fun _ => rfl) (by decide) (by decide) (by decide) (Nat.le_of_ble_eq_true rfl) (Nat.le_of_ble_eq_true rfl) dX10_init_37 (fun qq11_ Hq_ Mq12_ e_qq11_ hz nM_qq11_ hn_qq11_ hc_qq11_ hfr hN => ?_)
  have g_qq11_ : sz ≤ qq11_ := by rw [← hsz, e_qq11_]; exact hH.2.1.1
  have n_h_qq11_ : h ≠ qq11_ := neN hc_h nM_qq11_
  have n_qq11__h : qq11_ ≠ h := Ne.symm n_h_qq11_
  have n_qq1__qq11_ : qq1_ ≠ qq11_ := neN hc_qq1_ nM_qq11_
  have n_qq11__qq1_ : qq11_ ≠ qq1_ := Ne.symm n_qq1__qq11_
  have n_qq4__qq11_ : qq4_ ≠ qq11_ := neN hc_qq4_ nM_qq11_
  have n_qq11__qq4_ : qq11_ ≠ qq4_ := Ne.symm n_qq4__qq11_
  have n_qq7__qq11_ : qq7_ ≠ qq11_ := neN hc_qq7_ nM_qq11_
  have n_qq11__qq7_ : qq11_ ≠ qq7_ := Ne.symm n_qq7__qq11_
  have hH := hN
  have hc_qq11_ : Mq12_ qq11_ = some (.inl (kA 0, 16, .inl (fun _ => 0))) := hc_qq11_
  have hc_h : Mq12_ h = some (.inr (8, [.ref qq1_, .ref qq4_, .ref qq7_, .int 0, .int (-1), .null, .int 0, .int 0, .int 0, .int 0, .int 0, .long 0, .int 0, .null])) := (hfr h n_h_qq11_).trans hc_h
  have hc_qq1_ : Mq12_ qq1_ = some (.inl (kA 0, 7506, .inl (fun _ => 0))) := (hfr qq1_ n_qq1__qq11_).trans hc_qq1_
  have hc_qq4_ : Mq12_ qq4_ = some (.inl (kA 0, 600, .inl (fun _ => 0))) := (hfr qq4_ n_qq4__qq11_).trans hc_qq4_
  have hc_qq7_ : Mq12_ qq7_ = some (.inl (kA 2, 3, .inl (fun _ => 0))) := (hfr qq7_ n_qq7__qq11_).trans hc_qq7_
  have hF : ∀ a, FrA T a → a ≠ h → a < sz → Mq12_ a = M a := fun a hA h0 h1 => (hfr a (Nat.ne_of_lt (Nat.lt_of_lt_of_le h1 g_qq11_))).trans (hF a hA h0 h1)
  refine ypF (v := .ref qq11_) hC hK hH hnm (fun _ _ _ h => by cases h; rfl) flX10_24 hc_h (noT hn_h) rfl rfl (Nat.le_of_ble_eq_true rfl) dX10_init_39 (fun Hq_ lcq_ Mq13_ hc_h hfr hH => ?_)
  have hc_h : Mq13_ h = some (.inr (8, [.ref qq1_, .ref qq4_, .ref qq7_, .int 0, .int (-1), .ref qq11_, .int 0, .int 0, .int 0, .int 0, .int 0, .long 0, .int 0, .null])) := hc_h
  have hc_qq1_ : Mq13_ qq1_ = some (.inl (kA 0, 7506, .inl (fun _ => 0))) := (hfr qq1_ n_qq1__h).trans hc_qq1_
  have hc_qq4_ : Mq13_ qq4_ = some (.inl (kA 0, 600, .inl (fun _ => 0))) := (hfr qq4_ n_qq4__h).trans hc_qq4_
  have hc_qq7_ : Mq13_ qq7_ = some (.inl (kA 2, 3, .inl (fun _ => 0))) := (hfr qq7_ n_qq7__h).trans hc_qq7_
  have hc_qq11_ : Mq13_ qq11_ = some (.inl (kA 0, 16, .inl (fun _ => 0))) := (hfr qq11_ n_qq11__h).trans hc_qq11_
  have hF : ∀ a, FrA T a → a ≠ h → a < sz → Mq13_ a = M a := fun a hA h0 h1 => (hfr a h0).trans (hF a hA h0 h1)
  refine lv_aload_n hx hb dX10_init_42 rfl (lv_at hl 0 rfl) ?_
  refine lv_sipush (v := 1400) hx hb dX10_init_43 (by decide) ?_
  refine ynewa (atype := .int) (ck := 0) (N := 1400) (a0 := (1400, .inl (fun _ => 0))) hC hK hH rfl w_ac0 rfl (fun _ h => by cases h) (fun _ => rfl) (by decide) (by decide) (by decide) (Nat.le_of_ble_eq_true rfl) (Nat.le_of_ble_eq_true rfl) dX10_init_46 (fun qq14_ Hq_ Mq15_ e_qq14_ hz nM_qq14_ hn_qq14_ hc_qq14_ hfr hN => ?_)
  have g_qq14_ : sz ≤ qq14_ := by rw [← hsz, e_qq14_]; exact hH.2.1.1
  have n_h_qq14_ : h ≠ qq14_ := neN hc_h nM_qq14_
  have n_qq14__h : qq14_ ≠ h := Ne.symm n_h_qq14_
  have n_qq1__qq14_ : qq1_ ≠ qq14_ := neN hc_qq1_ nM_qq14_
  have n_qq14__qq1_ : qq14_ ≠ qq1_ := Ne.symm n_qq1__qq14_
  have n_qq4__qq14_ : qq4_ ≠ qq14_ := neN hc_qq4_ nM_qq14_
  have n_qq14__qq4_ : qq14_ ≠ qq4_ := Ne.symm n_qq4__qq14_
  have n_qq7__qq14_ : qq7_ ≠ qq14_ := neN hc_qq7_ nM_qq14_
  have n_qq14__qq7_ : qq14_ ≠ qq7_ := Ne.symm n_qq7__qq14_
  have n_qq11__qq14_ : qq11_ ≠ qq14_ := neN hc_qq11_ nM_qq14_
  have n_qq14__qq11_ : qq14_ ≠ qq11_ := Ne.symm n_qq11__qq14_
  have hH := hN
  have hc_qq14_ : Mq15_ qq14_ = some (.inl (kA 0, 1400, .inl (fun _ => 0))) := hc_qq14_
  have hc_h : Mq15_ h = some (.inr (8, [.ref qq1_, .ref qq4_, .ref qq7_, .int 0, .int (-1), .ref qq11_, .int 0, .int 0, .int 0, .int 0, .int 0, .long 0, .int 0, .null])) := (hfr h n_h_qq14_).trans hc_h
  have hc_qq1_ : Mq15_ qq1_ = some (.inl (kA 0, 7506, .inl (fun _ => 0))) := (hfr qq1_ n_qq1__qq14_).trans hc_qq1_
  have hc_qq4_ : Mq15_ qq4_ = some (.inl (kA 0, 600, .inl (fun _ => 0))) := (hfr qq4_ n_qq4__qq14_).trans hc_qq4_
  have hc_qq7_ : Mq15_ qq7_ = some (.inl (kA 2, 3, .inl (fun _ => 0))) := (hfr qq7_ n_qq7__qq14_).trans hc_qq7_
  have hc_qq11_ : Mq15_ qq11_ = some (.inl (kA 0, 16, .inl (fun _ => 0))) := (hfr qq11_ n_qq11__qq14_).trans hc_qq11_
  have hF : ∀ a, FrA T a → a ≠ h → a < sz → Mq15_ a = M a := fun a hA h0 h1 => (hfr a (Nat.ne_of_lt (Nat.lt_of_lt_of_le h1 g_qq14_))).trans (hF a hA h0 h1)
  refine ypF (v := .ref qq14_) hC hK hH hnm (fun _ _ _ h => by cases h; rfl) flX10_27 hc_h (noT hn_h) rfl rfl (Nat.le_of_ble_eq_true rfl) dX10_init_48 (fun Hq_ lcq_ Mq16_ hc_h hfr hH => ?_)
  have hc_h : Mq16_ h = some (.inr (8, [.ref qq1_, .ref qq4_, .ref qq7_, .int 0, .int (-1), .ref qq11_, .int 0, .int 0, .int 0, .int 0, .int 0, .long 0, .int 0, .ref qq14_])) := hc_h
  have hc_qq1_ : Mq16_ qq1_ = some (.inl (kA 0, 7506, .inl (fun _ => 0))) := (hfr qq1_ n_qq1__h).trans hc_qq1_
  have hc_qq4_ : Mq16_ qq4_ = some (.inl (kA 0, 600, .inl (fun _ => 0))) := (hfr qq4_ n_qq4__h).trans hc_qq4_
  have hc_qq7_ : Mq16_ qq7_ = some (.inl (kA 2, 3, .inl (fun _ => 0))) := (hfr qq7_ n_qq7__h).trans hc_qq7_
  have hc_qq11_ : Mq16_ qq11_ = some (.inl (kA 0, 16, .inl (fun _ => 0))) := (hfr qq11_ n_qq11__h).trans hc_qq11_
  have hc_qq14_ : Mq16_ qq14_ = some (.inl (kA 0, 1400, .inl (fun _ => 0))) := (hfr qq14_ n_qq14__h).trans hc_qq14_
  have hF : ∀ a, FrA T a → a ≠ h → a < sz → Mq16_ a = M a := fun a hA h0 h1 => (hfr a h0).trans (hF a hA h0 h1)
  refine lv_aload_n hx hb dX10_init_51 rfl (lv_at hl 0 rfl) ?_
  obtain ⟨Mq18_, Tq17_, nM_qq4_, hfr, t_qq4_, hfT, hsub, hH⟩ := hH.re2 (τ := 11) hc_qq4_ hn_qq4_ (conf_i rfl (fun _ _ => iRg _))
  have hc_h : Mq18_ h = some (.inr (8, [.ref qq1_, .ref qq4_, .ref qq7_, .int 0, .int (-1), .ref qq11_, .int 0, .int 0, .int 0, .int 0, .int 0, .long 0, .int 0, .ref qq14_])) := (hfr h n_h_qq4_).trans hc_h
  have hc_qq1_ : Mq18_ qq1_ = some (.inl (kA 0, 7506, .inl (fun _ => 0))) := (hfr qq1_ n_qq1__qq4_).trans hc_qq1_
  have hc_qq7_ : Mq18_ qq7_ = some (.inl (kA 2, 3, .inl (fun _ => 0))) := (hfr qq7_ n_qq7__qq4_).trans hc_qq7_
  have hc_qq11_ : Mq18_ qq11_ = some (.inl (kA 0, 16, .inl (fun _ => 0))) := (hfr qq11_ n_qq11__qq4_).trans hc_qq11_
  have hc_qq14_ : Mq18_ qq14_ = some (.inl (kA 0, 1400, .inl (fun _ => 0))) := (hfr qq14_ n_qq14__qq4_).trans hc_qq14_
  have hn_h : Tq17_ h = none := (hfT h n_h_qq4_).trans hn_h
  have hn_qq1_ : Tq17_ qq1_ = none := (hfT qq1_ n_qq1__qq4_).trans hn_qq1_
  have hn_qq7_ : Tq17_ qq7_ = none := (hfT qq7_ n_qq7__qq4_).trans hn_qq7_
  have hn_qq11_ : Tq17_ qq11_ = none := (hfT qq11_ n_qq11__qq4_).trans hn_qq11_
  have hn_qq14_ : Tq17_ qq14_ = none := (hfT qq14_ n_qq14__qq4_).trans hn_qq14_
  have hTT : ∀ a t, T a = some t → Tq17_ a = some t := fun a t h => hsub _ _ (hTT a t h)
  have hTF : ∀ a, a ≠ h → a < sz → Tq17_ a = T a := fun a h0 h1 => (hfT a (Nat.ne_of_lt (Nat.lt_of_lt_of_le h1 g_qq4_))).trans (hTF a h0 h1)
  have hF : ∀ a, FrA T a → a ≠ h → a < sz → Mq18_ a = M a := fun a hA h0 h1 => (hfr a (Nat.ne_of_lt (Nat.lt_of_lt_of_le h1 g_qq4_))).trans (hF a hA h0 h1)
  obtain ⟨Mq20_, Tq19_, nM_qq11_, hfr, t_qq11_, hfT, hsub, hH⟩ := hH.re2 (τ := 13) hc_qq11_ hn_qq11_ (conf_i rfl (fun _ _ => iRg _))
  have hc_h : Mq20_ h = some (.inr (8, [.ref qq1_, .ref qq4_, .ref qq7_, .int 0, .int (-1), .ref qq11_, .int 0, .int 0, .int 0, .int 0, .int 0, .long 0, .int 0, .ref qq14_])) := (hfr h n_h_qq11_).trans hc_h
  have hc_qq1_ : Mq20_ qq1_ = some (.inl (kA 0, 7506, .inl (fun _ => 0))) := (hfr qq1_ n_qq1__qq11_).trans hc_qq1_
  have hc_qq7_ : Mq20_ qq7_ = some (.inl (kA 2, 3, .inl (fun _ => 0))) := (hfr qq7_ n_qq7__qq11_).trans hc_qq7_
  have hc_qq14_ : Mq20_ qq14_ = some (.inl (kA 0, 1400, .inl (fun _ => 0))) := (hfr qq14_ n_qq14__qq11_).trans hc_qq14_
  have hn_h : Tq19_ h = none := (hfT h n_h_qq11_).trans hn_h
  have hn_qq1_ : Tq19_ qq1_ = none := (hfT qq1_ n_qq1__qq11_).trans hn_qq1_
  have hn_qq7_ : Tq19_ qq7_ = none := (hfT qq7_ n_qq7__qq11_).trans hn_qq7_
  have hn_qq14_ : Tq19_ qq14_ = none := (hfT qq14_ n_qq14__qq11_).trans hn_qq14_
  have t_qq4_ : Tq19_ qq4_ = some 11 := hsub _ _ t_qq4_
  have hTT : ∀ a t, T a = some t → Tq19_ a = some t := fun a t h => hsub _ _ (hTT a t h)
  have hTF : ∀ a, a ≠ h → a < sz → Tq19_ a = T a := fun a h0 h1 => (hfT a (Nat.ne_of_lt (Nat.lt_of_lt_of_le h1 g_qq11_))).trans (hTF a h0 h1)
  have hF : ∀ a, FrA T a → a ≠ h → a < sz → Mq20_ a = M a := fun a hA h0 h1 => (hfr a (Nat.ne_of_lt (Nat.lt_of_lt_of_le h1 g_qq11_))).trans (hF a hA h0 h1)
  obtain ⟨Mq22_, Tq21_, nM_qq14_, hfr, t_qq14_, hfT, hsub, hH⟩ := hH.re2 (τ := 14) hc_qq14_ hn_qq14_ (conf_i rfl (fun _ _ => iRg _))
  have hc_h : Mq22_ h = some (.inr (8, [.ref qq1_, .ref qq4_, .ref qq7_, .int 0, .int (-1), .ref qq11_, .int 0, .int 0, .int 0, .int 0, .int 0, .long 0, .int 0, .ref qq14_])) := (hfr h n_h_qq14_).trans hc_h
  have hc_qq1_ : Mq22_ qq1_ = some (.inl (kA 0, 7506, .inl (fun _ => 0))) := (hfr qq1_ n_qq1__qq14_).trans hc_qq1_
  have hc_qq7_ : Mq22_ qq7_ = some (.inl (kA 2, 3, .inl (fun _ => 0))) := (hfr qq7_ n_qq7__qq14_).trans hc_qq7_
  have hn_h : Tq21_ h = none := (hfT h n_h_qq14_).trans hn_h
  have hn_qq1_ : Tq21_ qq1_ = none := (hfT qq1_ n_qq1__qq14_).trans hn_qq1_
  have hn_qq7_ : Tq21_ qq7_ = none := (hfT qq7_ n_qq7__qq14_).trans hn_qq7_
  have t_qq4_ : Tq21_ qq4_ = some 11 := hsub _ _ t_qq4_
  have t_qq11_ : Tq21_ qq11_ = some 13 := hsub _ _ t_qq11_
  have hTT : ∀ a t, T a = some t → Tq21_ a = some t := fun a t h => hsub _ _ (hTT a t h)
  have hTF : ∀ a, a ≠ h → a < sz → Tq21_ a = T a := fun a h0 h1 => (hfT a (Nat.ne_of_lt (Nat.lt_of_lt_of_le h1 g_qq14_))).trans (hTF a h0 h1)
  have hF : ∀ a, FrA T a → a ≠ h → a < sz → Mq22_ a = M a := fun a hA h0 h1 => (hfr a (Nat.ne_of_lt (Nat.lt_of_lt_of_le h1 g_qq14_))).trans (hF a hA h0 h1)
  have hR0 : Rng (fun _ => (0 : Int32)) := fun j _ => rgA0 j
  refine goV hK hH (runV (As := []) (rest := []) hC hK hH (c_X10_begins hc_h hn_h hc_qq1_ hn_qq1_ t_qq4_ t_qq11_ t_qq14_ (by exact hR0)) mlX10_30 (rcvM hK hH hc_h rfl) ⟨⟨Nat.le_of_ble_eq_true rfl, Nat.le_of_ble_eq_true rfl⟩, Nat.le_of_ble_eq_true rfl, Nat.le_of_ble_eq_true rfl⟩ rfl hl.1 rfl (Nat.le_of_ble_eq_true rfl) dX10_init_52) (fun Mq23_ Tq24_ Hq_ lcq_ hP hz hH => ?_)
  try dsimp only at hP
  obtain ⟨gq26_, h_gq26_, (hx_qq1_), eT, hfr⟩ := hP
  have eT := eT.symm; subst eT
  have hc_h : Mq23_ h = some (.inr (8, [.ref qq1_, .ref qq4_, .ref qq7_, .int 0, .int (-1), .ref qq11_, .int 0, .int 0, .int 0, .int 0, .int 0, .long 0, .int 0, .ref qq14_])) := (hfr h (Or.inl hn_h) n_h_qq1_).trans hc_h
  have hc_qq1_ : Mq23_ qq1_ = some (.inl (kA 0, 7506, .inl gq26_)) := hx_qq1_
  have hc_qq7_ : Mq23_ qq7_ = some (.inl (kA 2, 3, .inl (fun _ => 0))) := (hfr qq7_ (Or.inl hn_qq7_) n_qq7__qq1_).trans hc_qq7_
  have hF : ∀ a, FrA T a → a ≠ h → a < sz → Mq23_ a = M a := fun a hA h0 h1 => (hfr a (FrA.k (FrA.mv (hTF a h0 h1) hA)) (Nat.ne_of_lt (Nat.lt_of_lt_of_le h1 g_qq1_))).trans (hF a hA h0 h1)
  have hR_gq26_ : Rng gq26_ := h_gq26_.1
  exact ret_v hC hr hlk hK hH (⟨qq1_, qq4_, qq7_, qq11_, qq14_, gq26_, hc_h, hn_h, hc_qq1_, hn_qq1_, hc_qq7_, hn_qq7_, t_qq4_, t_qq11_, t_qq14_, g_qq1_, g_qq4_, g_qq7_, g_qq11_, g_qq14_, hR_gq26_, hTT, hTF, hF⟩) (Nat.le_of_ble_eq_true rfl) (Nat.le_of_ble_eq_true rfl) dX10_init_55
