set_option maxHeartbeats 4000000 in
set_option maxRecDepth 100000 in
theorem c_X10_begins {l : Launch} {D : va_G} {kA : Nat → ClassId} {M : mM} {T : mT} {sz : Nat} {h al mt ii pa li : Nat} {ta fpm sm nx tk pl ln wr : Int32} {va : Int64} {f : Nat → Int32} (hc_h : M h = some (.inr (8, [.ref al, .ref mt, .ref ii, .int ta, .int fpm, .ref pa, .int sm, .int nx, .int tk, .int pl, .int ln, .long va, .int wr, .ref li]))) (hn_h : T h = none) (hc_al : M al = some (.inl (kA 0, 7506, .inl f))) (hn_al : T al = none) (ht_mt : T mt = some 11) (ht_pa : T pa = some 13) (ht_li : T li = some 14) (hR_f : Rng f) : mCv l yX10_begins cX10_begins 2 0 0 0 D kA M T sz [.ref h] (fun u => ∃ g : Nat → Int32, (Rng g ∧ Ke f g) ∧ (u.1 al = some (.inl (kA 0, 7506, .inl g))) ∧ u.2 = T ∧ (∀ q, FrK T q → q ≠ al → u.1 q = M q)) := by
  unfold mCv
  refine start_W (by decide) (Nat.le_of_ble_eq_true rfl) ?_
  intro p e s m below meth c ls hC hr hlk hnm hK hH hsz hl
  have hx := hC.1
  have hb := hC.2.1
  have hl : lv_has ls 2 [(0, .ref h)] := hl
  have hF : ∀ q, FrK T q → q ≠ al → M q = M q := fun q _ _ => rfl
  have n_h_al : h ≠ al := neM hc_h hc_al (by simp)
  have n_al_h : al ≠ h := neM hc_al hc_h (by simp)
  have hK_f : Ke f f := Ke.rf
  refine lv_iconst (v := 0) hx hb dX10_begins_0 (by decide) ?_
  refine lv_istore_n (lv' := [(1, .int 0), (0, .ref h)]) hx hb dX10_begins_1 rfl hl (by decide) rfl (fun ls hl => ?_)
  have loop : ∀ (n : Nat) (yq1_ : Int32) (Fq3_ : Nat → Int32) (Hq_ : Heap) (lcq_ : List Loc) (Mq2_ : mM) (ls : Array Slot), 1141 - yq1_.toInt ≤ (n : Int) → (0 : Int) ≤ yq1_.toInt → yq1_.toInt ≤ 1140 → Rng Fq3_ → Ke f Fq3_ → Mq2_ h = some (.inr (8, [.ref al, .ref mt, .ref ii, .int ta, .int fpm, .ref pa, .int sm, .int nx, .int tk, .int pl, .int ln, .long va, .int wr, .ref li])) → Mq2_ al = some (.inl (kA 0, 7506, .inl Fq3_)) → (∀ q, FrK T q → q ≠ al → Mq2_ q = M q) → mS D kA Mq2_ T (mA M T sz) s.heap Hq_ lcq_ → lv_has ls 2 [(1, .int yq1_), (0, .ref h)] → W p l e (rmL 0 0 0) s m ([.ref h] : List Value).toArray below meth c Hq_ lcq_ 0 0 (MQ below (va_Qv (fun u => ∃ g : Nat → Int32, (Rng g ∧ Ke f g) ∧ (u.1 al = some (.inl (kA 0, 7506, .inl g))) ∧ u.2 = T ∧ (∀ q, FrK T q → q ≠ al → u.1 q = M q)) (mB D kA M T sz) (mA M T sz)) ([.ref h] : List Value).toArray s 0 0 (mA M T sz)) (F0 m 2 ls []) := by
    intro n
    induction n with
    | zero =>
      intro yq1_ Fq3_ Hq_ lcq_ Mq2_ ls hme l_yq1_ g_yq1_ hR_Fq3_ hK_Fq3_ hc_h hc_al hF hH hl
      exfalso; omega
    | succ n ih =>
      intro yq1_ Fq3_ Hq_ lcq_ Mq2_ ls hme l_yq1_ g_yq1_ hR_Fq3_ hK_Fq3_ hc_h hc_al hF hH hl
      refine lv_iload_n hx hb dX10_begins_2 rfl (lv_at hl 0 rfl) ?_
      refine lv_sipush (v := 1140) hx hb dX10_begins_3 (by decide) ?_
      refine jic_ge (tgt := 22) hx hb dX10_begins_6 (by decide) (fun cq4_ => ?_) (fun cq4_ => ?_)
      · skip
        have cq4_ : 1140 ≤ yq1_.toInt := cq4_
        refine lv_aload_n hx hb dX10_begins_22 rfl (lv_at hl 1 rfl) ?_
        refine xg hC hK hH flX10_7 hc_h rfl dX10_begins_23 ?_
        refine lv_iconst (v := 2) hx hb dX10_begins_26 (by decide) ?_
        refine lv_iconst (v := 2) hx hb dX10_begins_27 (by decide) ?_
        refine yist (x := 2) hC hK hH hc_al (noT hn_al) (iIn (by decide) (by decide)) dX10_begins_28 (fun Hq_ lcq_ Mq5_ hc_al hfr hH => ?_)
        have hc_al : Mq5_ al = some (.inl (kA 0, 7506, .inl (upd Fq3_ (Int32.toNatClampNeg 2) 2))) := hc_al
        have hc_h : Mq5_ h = some (.inr (8, [.ref al, .ref mt, .ref ii, .int ta, .int fpm, .ref pa, .int sm, .int nx, .int tk, .int pl, .int ln, .long va, .int wr, .ref li])) := (hfr h n_h_al).trans hc_h
        have hF : ∀ q, FrK T q → q ≠ al → Mq5_ q = M q := fun q hq h0 => (hfr q h0).trans (hF q hq h0)
        obtain ⟨gq6_, e_gq6_⟩ : ∃ g : Nat → Int32, g = upd Fq3_ (Int32.toNatClampNeg 2) 2 := ⟨_, rfl⟩
        rw [← e_gq6_] at hc_al
        have hR_gq6_ : Rng gq6_ := by rw [e_gq6_]; exact hR_Fq3_.uL (by have : Int32.toNatClampNeg 2 = 2 := rfl; omega)
        have hK_gq6_ : Ke f gq6_ := by rw [e_gq6_]; exact hK_Fq3_.up (by have : Int32.toNatClampNeg 2 = 2 := rfl; omega)
        refine lv_iconst (v := 0) hx hb dX10_begins_29 (by decide) ?_
        refine lv_istore_n (lv' := [(1, .int 0), (0, .ref h)]) hx hb dX10_begins_30 rfl hl (by decide) rfl (fun ls hl => ?_)
        have loop : ∀ (n : Nat) (yq7_ : Int32) (Fq9_ : Nat → Int32) (Hq_ : Heap) (lcq_ : List Loc) (Mq8_ : mM) (ls : Array Slot), 9 - yq7_.toInt ≤ (n : Int) → (0 : Int) ≤ yq7_.toInt → yq7_.toInt ≤ 8 → Rng Fq9_ → Ke f Fq9_ → Mq8_ h = some (.inr (8, [.ref al, .ref mt, .ref ii, .int ta, .int fpm, .ref pa, .int sm, .int nx, .int tk, .int pl, .int ln, .long va, .int wr, .ref li])) → Mq8_ al = some (.inl (kA 0, 7506, .inl Fq9_)) → (∀ q, FrK T q → q ≠ al → Mq8_ q = M q) → mS D kA Mq8_ T (mA M T sz) s.heap Hq_ lcq_ → lv_has ls 2 [(1, .int yq7_), (0, .ref h)] → W p l e (rmL 0 0 0) s m ([.ref h] : List Value).toArray below meth c Hq_ lcq_ 0 0 (MQ below (va_Qv (fun u => ∃ g : Nat → Int32, (Rng g ∧ Ke f g) ∧ (u.1 al = some (.inl (kA 0, 7506, .inl g))) ∧ u.2 = T ∧ (∀ q, FrK T q → q ≠ al → u.1 q = M q)) (mB D kA M T sz) (mA M T sz)) ([.ref h] : List Value).toArray s 0 0 (mA M T sz)) (F0 m 31 ls []) := by
          intro n
          induction n with
          | zero =>
            intro yq7_ Fq9_ Hq_ lcq_ Mq8_ ls hme l_yq7_ g_yq7_ hR_Fq9_ hK_Fq9_ hc_h hc_al hF hH hl
            exfalso; omega
          | succ n ih =>
            intro yq7_ Fq9_ Hq_ lcq_ Mq8_ ls hme l_yq7_ g_yq7_ hR_Fq9_ hK_Fq9_ hc_h hc_al hF hH hl
            refine lv_iload_n hx hb dX10_begins_31 rfl (lv_at hl 0 rfl) ?_
            refine lv_bipush (v := 8) hx hb dX10_begins_32 (by decide) ?_
            refine jic_ge (tgt := 54) hx hb dX10_begins_34 (by decide) (fun cq10_ => ?_) (fun cq10_ => ?_)
            · skip
              have cq10_ : 8 ≤ yq7_.toInt := cq10_
              exact ret_v hC hr hlk hK hH (⟨Fq9_, ⟨hR_Fq9_, hK_Fq9_⟩, hc_al, rfl, hF⟩) (Nat.le_of_ble_eq_true rfl) (Nat.le_of_ble_eq_true rfl) dX10_begins_54
            · skip
              have cq10_ : yq7_.toInt < 8 := cq10_
              refine lv_aload_n hx hb dX10_begins_37 rfl (lv_at hl 1 rfl) ?_
              refine xg hC hK hH flX10_7 hc_h rfl dX10_begins_38 ?_
              refine lv_bipush (v := 6) hx hb dX10_begins_41 (by decide) ?_
              refine lv_iload_n hx hb dX10_begins_43 rfl (lv_at hl 0 rfl) ?_
              refine lv_iadd hx hb dX10_begins_44 ?_
              refine lv_topi (fun zq11_ e_zq11_ => ?_)
              have h_zq11_ : zq11_.toInt = 6 + yq7_.toInt := by rw [e_zq11_, iAdd (by have : (6 : Int32).toInt = 6 := rfl; have := iRg yq7_; omega) (by have : (6 : Int32).toInt = 6 := rfl; have := iRg yq7_; omega)]; rfl
              refine lv_bipush (v := 100) hx hb dX10_begins_45 (by decide) ?_
              refine yist (x := 100) hC hK hH hc_al (noT hn_al) (iIn (by omega) (by omega)) dX10_begins_47 (fun Hq_ lcq_ Mq12_ hc_al hfr hH => ?_)
              have hc_al : Mq12_ al = some (.inl (kA 0, 7506, .inl (upd Fq9_ (Int32.toNatClampNeg zq11_) 100))) := hc_al
              have hc_h : Mq12_ h = some (.inr (8, [.ref al, .ref mt, .ref ii, .int ta, .int fpm, .ref pa, .int sm, .int nx, .int tk, .int pl, .int ln, .long va, .int wr, .ref li])) := (hfr h n_h_al).trans hc_h
              have hF : ∀ q, FrK T q → q ≠ al → Mq12_ q = M q := fun q hq h0 => (hfr q h0).trans (hF q hq h0)
              obtain ⟨gq13_, e_gq13_⟩ : ∃ g : Nat → Int32, g = upd Fq9_ (Int32.toNatClampNeg zq11_) 100 := ⟨_, rfl⟩
              rw [← e_gq13_] at hc_al
              have hR_gq13_ : Rng gq13_ := by rw [e_gq13_]; exact hR_Fq9_.uL (by have := iCl (x := zq11_) (by omega); omega)
              have hK_gq13_ : Ke f gq13_ := by rw [e_gq13_]; exact hK_Fq9_.up (by have := iCl (x := zq11_) (by omega); omega)
              obtain ⟨zq14_, e_zq14_⟩ : ∃ y : Int32, y = yq7_ + 1 := ⟨_, rfl⟩
              refine lv_iinc (v := zq14_) (lv' := [(1, .int zq14_), (0, .ref h)]) hx hb dX10_begins_48 hl (k := 0) rfl (by rw [e_zq14_]; rfl) (by decide) rfl (fun ls hl => ?_)
              have h_zq14_ : zq14_.toInt = yq7_.toInt + 1 := by rw [e_zq14_, iAdd (by have : (1 : Int32).toInt = 1 := rfl; omega) (by have : (1 : Int32).toInt = 1 := rfl; omega)]; rfl
              refine lv_goto (tgt := 31) hx hb dX10_begins_51 (by decide) ?_
              exact ih zq14_ gq13_ _ _ _ ls (by have := iRg zq14_; omega) (by have := iRg zq14_; omega) (by have := iRg zq14_; omega) hR_gq13_ hK_gq13_ hc_h hc_al hF hH (lv_sub hl [0, 1] rfl)
        exact loop (Int.toNat (9 - 0)) 0 gq6_ _ _ _ ls (by have : (0 : Int32).toInt = 0 := rfl; omega) (by have : (0 : Int32).toInt = 0 := rfl; omega) (by have : (0 : Int32).toInt = 0 := rfl; omega) hR_gq6_ hK_gq6_ hc_h hc_al hF hH hl
      · skip
        have cq4_ : yq1_.toInt < 1140 := cq4_
        refine lv_aload_n hx hb dX10_begins_9 rfl (lv_at hl 1 rfl) ?_
        refine xg hC hK hH flX10_7 hc_h rfl dX10_begins_10 ?_
        refine lv_iload_n hx hb dX10_begins_13 rfl (lv_at hl 0 rfl) ?_
        refine lv_iconst (v := 0) hx hb dX10_begins_14 (by decide) ?_
        refine yist (x := 0) hC hK hH hc_al (noT hn_al) (iIn (by omega) (by omega)) dX10_begins_15 (fun Hq_ lcq_ Mq15_ hc_al hfr hH => ?_)
        have hc_al : Mq15_ al = some (.inl (kA 0, 7506, .inl (upd Fq3_ (Int32.toNatClampNeg yq1_) 0))) := hc_al
        have hc_h : Mq15_ h = some (.inr (8, [.ref al, .ref mt, .ref ii, .int ta, .int fpm, .ref pa, .int sm, .int nx, .int tk, .int pl, .int ln, .long va, .int wr, .ref li])) := (hfr h n_h_al).trans hc_h
        have hF : ∀ q, FrK T q → q ≠ al → Mq15_ q = M q := fun q hq h0 => (hfr q h0).trans (hF q hq h0)
        obtain ⟨gq16_, e_gq16_⟩ : ∃ g : Nat → Int32, g = upd Fq3_ (Int32.toNatClampNeg yq1_) 0 := ⟨_, rfl⟩
        rw [← e_gq16_] at hc_al
        have hR_gq16_ : Rng gq16_ := by rw [e_gq16_]; exact hR_Fq3_.u0
        have hK_gq16_ : Ke f gq16_ := by rw [e_gq16_]; exact hK_Fq3_.up (by have := iCl (x := yq1_) (by omega); omega)
        obtain ⟨zq17_, e_zq17_⟩ : ∃ y : Int32, y = yq1_ + 1 := ⟨_, rfl⟩
        refine lv_iinc (v := zq17_) (lv' := [(1, .int zq17_), (0, .ref h)]) hx hb dX10_begins_16 hl (k := 0) rfl (by rw [e_zq17_]; rfl) (by decide) rfl (fun ls hl => ?_)
        have h_zq17_ : zq17_.toInt = yq1_.toInt + 1 := by rw [e_zq17_, iAdd (by have : (1 : Int32).toInt = 1 := rfl; omega) (by have : (1 : Int32).toInt = 1 := rfl; omega)]; rfl
        refine lv_goto (tgt := 2) hx hb dX10_begins_19 (by decide) ?_
        exact ih zq17_ gq16_ _ _ _ ls (by have := iRg zq17_; omega) (by have := iRg zq17_; omega) (by have := iRg zq17_; omega) hR_gq16_ hK_gq16_ hc_h hc_al hF hH (lv_sub hl [0, 1] rfl)
  exact loop (Int.toNat (1141 - 0)) 0 f _ _ _ ls (by have : (0 : Int32).toInt = 0 := rfl; omega) (by have : (0 : Int32).toInt = 0 := rfl; omega) (by have : (0 : Int32).toInt = 0 := rfl; omega) hR_f hK_f hc_h hc_al hF hH hl
set_option maxHeartbeats 4000000 in
set_option maxRecDepth 100000 in
theorem c_X10_day {l : Launch} {D : va_G} {kA : Nat → ClassId} {M : mM} {T : mT} {sz : Nat} {h al mt ii pa li : Nat} {ta fpm sm nx tk pl ln wr : Int32} {va : Int64} {f : Nat → Int32} {n : Int32} (hc_h : M h = some (.inr (8, [.ref al, .ref mt, .ref ii, .int ta, .int fpm, .ref pa, .int sm, .int nx, .int tk, .int pl, .int ln, .long va, .int wr, .ref li]))) (hn_h : T h = none) (hc_al : M al = some (.inl (kA 0, 7506, .inl f))) (hn_al : T al = none) (ht_mt : T mt = some 11) (ht_pa : T pa = some 13) (ht_li : T li = some 14) (hR_f : Rng f) : mCi l yX10_day cX10_day 2 (some .int) 2 0 0 D kA M T sz [.ref h, .int n] (fun r u => ∃ g : Nat → Int32, (Rng g ∧ Ke f g) ∧ (u.1 al = some (.inl (kA 0, 7506, .inl g))) ∧ u.2 = T ∧ (∀ q, FrK T q → q ≠ al → u.1 q = M q)) := by
  unfold mCi
  refine start_W (by decide) (Nat.le_of_ble_eq_true rfl) ?_
  intro p e s m below meth c ls hC hr hlk hnm hK hH hsz hl
  have hx := hC.1
  have hb := hC.2.1
  have hl : lv_has ls 2 [(0, .ref h), (1, .int n)] := hl
  have hF : ∀ q, FrK T q → q ≠ al → M q = M q := fun q _ _ => rfl
  have n_h_al : h ≠ al := neM hc_h hc_al (by simp)
  have n_al_h : al ≠ h := neM hc_al hc_h (by simp)
  have hK_f : Ke f f := Ke.rf
  refine lv_aload_n hx hb dX10_day_0 rfl (lv_at hl 0 rfl) ?_
  refine lv_aload_n hx hb dX10_day_1 rfl (lv_at hl 0 rfl) ?_
  refine lv_iload_n hx hb dX10_day_2 rfl (lv_at hl 1 rfl) ?_
  refine goI hK hH (runV (As := [.int n]) (rest := [.ref h]) hC hK hH (c_X10_days hc_h hn_h hc_al hn_al ht_mt ht_pa ht_li (by exact hR_f)) mlX10_94 (rcvM hK hH hc_h rfl) ⟨⟨Nat.le_of_ble_eq_true rfl, Nat.le_of_ble_eq_true rfl⟩, Nat.le_of_ble_eq_true rfl, Nat.le_of_ble_eq_true rfl⟩ rfl hl.1 rfl (Nat.le_of_ble_eq_true rfl) dX10_day_3) (fun rq3_ Mq1_ Tq2_ Hq_ lcq_ hP hz hH => ?_)
  try dsimp only at hP
  obtain ⟨gq4_, h_gq4_, (hx_al), eT, hfr⟩ := hP
  have eT := eT.symm; subst eT
  have hc_h : Mq1_ h = some (.inr (8, [.ref al, .ref mt, .ref ii, .int ta, .int fpm, .ref pa, .int sm, .int nx, .int tk, .int pl, .int ln, .long va, .int wr, .ref li])) := (hfr h (Or.inl hn_h) n_h_al).trans hc_h
  have hc_al : Mq1_ al = some (.inl (kA 0, 7506, .inl gq4_)) := hx_al
  have hF : ∀ q, FrK T q → q ≠ al → Mq1_ q = M q := fun q hq h0 => (hfr q hq  h0).trans (hF q hq h0)
  have hR_gq4_ : Rng gq4_ := h_gq4_.1
  have hK_gq4_ : Ke f gq4_ := hK_f.tr h_gq4_.2
  refine goI hK hH (runV (As := [.int rq3_]) (rest := []) hC hK hH (c_X10_told hc_h hn_h hc_al hn_al ht_mt ht_pa ht_li (by exact hR_gq4_)) mlX10_97 (rcvM hK hH hc_h rfl) ⟨⟨Nat.le_of_ble_eq_true rfl, Nat.le_of_ble_eq_true rfl⟩, Nat.le_of_ble_eq_true rfl, Nat.le_of_ble_eq_true rfl⟩ rfl hl.1 rfl (Nat.le_of_ble_eq_true rfl) dX10_day_6) (fun rq7_ Mq5_ Tq6_ Hq_ lcq_ hP hz hH => ?_)
  try dsimp only at hP
  obtain ⟨gq8_, h_gq8_, (⟨er_rq7_, hx_al⟩), eT, hfr⟩ := hP
  have eT := eT.symm; subst eT
  have er_rq7_ := er_rq7_.symm; subst er_rq7_
  have hc_h : Mq5_ h = some (.inr (8, [.ref al, .ref mt, .ref ii, .int ta, .int fpm, .ref pa, .int sm, .int nx, .int tk, .int pl, .int ln, .long va, .int wr, .ref li])) := (hfr h (Or.inl hn_h) n_h_al).trans hc_h
  have hc_al : Mq5_ al = some (.inl (kA 0, 7506, .inl gq8_)) := hx_al
  have hF : ∀ q, FrK T q → q ≠ al → Mq5_ q = M q := fun q hq h0 => (hfr q hq  h0).trans (hF q hq h0)
  have hR_gq8_ : Rng gq8_ := h_gq8_.1
  have hK_gq8_ : Ke f gq8_ := hK_gq4_.tr h_gq8_.2
  exact ret_i hC hr hlk hK hH (⟨gq8_, ⟨hR_gq8_, hK_gq8_⟩, hc_al, rfl, hF⟩) (Nat.le_of_ble_eq_true rfl) (Nat.le_of_ble_eq_true rfl) dX10_day_9
set_option maxHeartbeats 4000000 in
set_option maxRecDepth 100000 in
theorem c_X10_cash {l : Launch} {D : va_G} {kA : Nat → ClassId} {M : mM} {T : mT} {sz : Nat} {h al mt ii pa li : Nat} {ta fpm sm nx tk pl ln wr : Int32} {va : Int64} {f : Nat → Int32} {ps n : Int32} (hc_h : M h = some (.inr (8, [.ref al, .ref mt, .ref ii, .int ta, .int fpm, .ref pa, .int sm, .int nx, .int tk, .int pl, .int ln, .long va, .int wr, .ref li]))) (hn_h : T h = none) (hc_al : M al = some (.inl (kA 0, 7506, .inl f))) (hn_al : T al = none) (ht_mt : T mt = some 11) (ht_pa : T pa = some 13) (ht_li : T li = some 14) (hR_f : Rng f) : mCi l yX10_cash cX10_cash 3 (some .int) 3 0 0 D kA M T sz [.ref h, .int ps, .int n] (fun r u => ∃ g : Nat → Int32, (Rng g ∧ Ke f g) ∧ (((0 ≤ ps.toInt ∧ ps.toInt ≤ 7 ∧ 0 ≤ n.toInt ∧ n.toInt ≤ 9999) ∧ r = 0 ∧ u.1 al = some (.inl (kA 0, 7506, .inl g))) ∨ ((¬ (0 ≤ ps.toInt ∧ ps.toInt ≤ 7 ∧ 0 ≤ n.toInt ∧ n.toInt ≤ 9999)) ∧ r = 30 ∧ u.1 al = some (.inl (kA 0, 7506, .inl g)))) ∧ u.2 = T ∧ (∀ q, FrK T q → q ≠ al → u.1 q = M q)) := by
  unfold mCi
  refine start_W (by decide) (Nat.le_of_ble_eq_true rfl) ?_
  intro p e s m below meth c ls hC hr hlk hnm hK hH hsz hl
  have hx := hC.1
  have hb := hC.2.1
  have hl : lv_has ls 3 [(0, .ref h), (1, .int ps), (2, .int n)] := hl
  have hF : ∀ q, FrK T q → q ≠ al → M q = M q := fun q _ _ => rfl
  have n_h_al : h ≠ al := neM hc_h hc_al (by simp)
  have n_al_h : al ≠ h := neM hc_al hc_h (by simp)
  have hK_f : Ke f f := Ke.rf
  refine lv_aload_n hx hb dX10_cash_0 rfl (lv_at hl 0 rfl) ?_
  refine lv_aload_n hx hb dX10_cash_1 rfl (lv_at hl 0 rfl) ?_
  refine lv_iload_n hx hb dX10_cash_2 rfl (lv_at hl 1 rfl) ?_
  refine lv_iload_n hx hb dX10_cash_3 rfl (lv_at hl 2 rfl) ?_
  refine goI hK hH (runV (As := [.int ps, .int n]) (rest := [.ref h]) hC hK hH (c_X10_hasNow hc_h hn_h hc_al hn_al ht_mt ht_pa ht_li (by exact hR_f)) mlX10_103 (rcvM hK hH hc_h rfl) ⟨⟨Nat.le_of_ble_eq_true rfl, Nat.le_of_ble_eq_true rfl⟩, Nat.le_of_ble_eq_true rfl, Nat.le_of_ble_eq_true rfl⟩ rfl hl.1 rfl (Nat.le_of_ble_eq_true rfl) dX10_cash_4) (fun rq3_ Mq1_ Tq2_ Hq_ lcq_ hP hz hH => ?_)
  try dsimp only at hP
  obtain ⟨gq6_, h_gq6_, (⟨cq4_, er_rq3_, hx_al⟩ | ⟨cq5_, er_rq3_, hx_al⟩), eT, hfr⟩ := hP
  · skip
    have eT := eT.symm; subst eT
    have er_rq3_ := er_rq3_.symm; subst er_rq3_
    have hc_h : Mq1_ h = some (.inr (8, [.ref al, .ref mt, .ref ii, .int ta, .int fpm, .ref pa, .int sm, .int nx, .int tk, .int pl, .int ln, .long va, .int wr, .ref li])) := (hfr h (Or.inl hn_h) n_h_al).trans hc_h
    have hc_al : Mq1_ al = some (.inl (kA 0, 7506, .inl gq6_)) := hx_al
    have hF : ∀ q, FrK T q → q ≠ al → Mq1_ q = M q := fun q hq h0 => (hfr q hq  h0).trans (hF q hq h0)
    have hR_gq6_ : Rng gq6_ := h_gq6_.1
    have hK_gq6_ : Ke f gq6_ := hK_f.tr h_gq6_.2
    have cq4_ : 0 ≤ ps.toInt ∧ ps.toInt ≤ 7 ∧ 0 ≤ n.toInt ∧ n.toInt ≤ 9999 := cq4_
    refine goI hK hH (runV (As := [.int 0]) (rest := []) hC hK hH (c_X10_told hc_h hn_h hc_al hn_al ht_mt ht_pa ht_li (by exact hR_gq6_)) mlX10_97 (rcvM hK hH hc_h rfl) ⟨⟨Nat.le_of_ble_eq_true rfl, Nat.le_of_ble_eq_true rfl⟩, Nat.le_of_ble_eq_true rfl, Nat.le_of_ble_eq_true rfl⟩ rfl hl.1 rfl (Nat.le_of_ble_eq_true rfl) dX10_cash_7) (fun rq9_ Mq7_ Tq8_ Hq_ lcq_ hP hz hH => ?_)
    try dsimp only at hP
    obtain ⟨gq10_, h_gq10_, (⟨er_rq9_, hx_al⟩), eT, hfr⟩ := hP
    have eT := eT.symm; subst eT
    have er_rq9_ := er_rq9_.symm; subst er_rq9_
    have hc_h : Mq7_ h = some (.inr (8, [.ref al, .ref mt, .ref ii, .int ta, .int fpm, .ref pa, .int sm, .int nx, .int tk, .int pl, .int ln, .long va, .int wr, .ref li])) := (hfr h (Or.inl hn_h) n_h_al).trans hc_h
    have hc_al : Mq7_ al = some (.inl (kA 0, 7506, .inl gq10_)) := hx_al
    have hF : ∀ q, FrK T q → q ≠ al → Mq7_ q = M q := fun q hq h0 => (hfr q hq  h0).trans (hF q hq h0)
    have hR_gq10_ : Rng gq10_ := h_gq10_.1
    have hK_gq10_ : Ke f gq10_ := hK_gq6_.tr h_gq10_.2
    exact ret_i hC hr hlk hK hH (⟨gq10_, ⟨hR_gq10_, hK_gq10_⟩, Or.inl (⟨by omega, rfl, hc_al⟩), rfl, hF⟩) (Nat.le_of_ble_eq_true rfl) (Nat.le_of_ble_eq_true rfl) dX10_cash_10
  · skip
    have eT := eT.symm; subst eT
    have er_rq3_ := er_rq3_.symm; subst er_rq3_
    have hc_h : Mq1_ h = some (.inr (8, [.ref al, .ref mt, .ref ii, .int ta, .int fpm, .ref pa, .int sm, .int nx, .int tk, .int pl, .int ln, .long va, .int wr, .ref li])) := (hfr h (Or.inl hn_h) n_h_al).trans hc_h
    have hc_al : Mq1_ al = some (.inl (kA 0, 7506, .inl gq6_)) := hx_al
    have hF : ∀ q, FrK T q → q ≠ al → Mq1_ q = M q := fun q hq h0 => (hfr q hq  h0).trans (hF q hq h0)
    have hR_gq6_ : Rng gq6_ := h_gq6_.1
    have hK_gq6_ : Ke f gq6_ := hK_f.tr h_gq6_.2
    have cq5_ : ¬ (0 ≤ ps.toInt ∧ ps.toInt ≤ 7 ∧ 0 ≤ n.toInt ∧ n.toInt ≤ 9999) := cq5_
    refine goI hK hH (runV (As := [.int 30]) (rest := []) hC hK hH (c_X10_told hc_h hn_h hc_al hn_al ht_mt ht_pa ht_li (by exact hR_gq6_)) mlX10_97 (rcvM hK hH hc_h rfl) ⟨⟨Nat.le_of_ble_eq_true rfl, Nat.le_of_ble_eq_true rfl⟩, Nat.le_of_ble_eq_true rfl, Nat.le_of_ble_eq_true rfl⟩ rfl hl.1 rfl (Nat.le_of_ble_eq_true rfl) dX10_cash_7) (fun rq13_ Mq11_ Tq12_ Hq_ lcq_ hP hz hH => ?_)
    try dsimp only at hP
    obtain ⟨gq14_, h_gq14_, (⟨er_rq13_, hx_al⟩), eT, hfr⟩ := hP
    have eT := eT.symm; subst eT
    have er_rq13_ := er_rq13_.symm; subst er_rq13_
    have hc_h : Mq11_ h = some (.inr (8, [.ref al, .ref mt, .ref ii, .int ta, .int fpm, .ref pa, .int sm, .int nx, .int tk, .int pl, .int ln, .long va, .int wr, .ref li])) := (hfr h (Or.inl hn_h) n_h_al).trans hc_h
    have hc_al : Mq11_ al = some (.inl (kA 0, 7506, .inl gq14_)) := hx_al
    have hF : ∀ q, FrK T q → q ≠ al → Mq11_ q = M q := fun q hq h0 => (hfr q hq  h0).trans (hF q hq h0)
    have hR_gq14_ : Rng gq14_ := h_gq14_.1
    have hK_gq14_ : Ke f gq14_ := hK_gq6_.tr h_gq14_.2
    exact ret_i hC hr hlk hK hH (⟨gq14_, ⟨hR_gq14_, hK_gq14_⟩, Or.inr (⟨by omega, rfl, hc_al⟩), rfl, hF⟩) (Nat.le_of_ble_eq_true rfl) (Nat.le_of_ble_eq_true rfl) dX10_cash_10
set_option maxHeartbeats 4000000 in
set_option maxRecDepth 100000 in
theorem c_X10_grace {l : Launch} {D : va_G} {kA : Nat → ClassId} {M : mM} {T : mT} {sz : Nat} {h al mt ii pa li : Nat} {ta fpm sm nx tk pl ln wr : Int32} {va : Int64} {f : Nat → Int32} {n : Int32} (hc_h : M h = some (.inr (8, [.ref al, .ref mt, .ref ii, .int ta, .int fpm, .ref pa, .int sm, .int nx, .int tk, .int pl, .int ln, .long va, .int wr, .ref li]))) (hn_h : T h = none) (hc_al : M al = some (.inl (kA 0, 7506, .inl f))) (hn_al : T al = none) (ht_mt : T mt = some 11) (ht_pa : T pa = some 13) (ht_li : T li = some 14) (hR_f : Rng f) : mCi l yX10_grace cX10_grace 2 (some .int) 2 0 0 D kA M T sz [.ref h, .int n] (fun r u => ∃ g : Nat → Int32, (Rng g ∧ Ke f g) ∧ (((1 ≤ n.toInt ∧ n.toInt ≤ 9) ∧ r = 0 ∧ u.1 al = some (.inl (kA 0, 7506, .inl g))) ∨ ((¬ (1 ≤ n.toInt ∧ n.toInt ≤ 9)) ∧ r = 30 ∧ u.1 al = some (.inl (kA 0, 7506, .inl g)))) ∧ u.2 = T ∧ (∀ q, FrK T q → q ≠ al → u.1 q = M q)) := by
  unfold mCi
  refine start_W (by decide) (Nat.le_of_ble_eq_true rfl) ?_
  intro p e s m below meth c ls hC hr hlk hnm hK hH hsz hl
  have hx := hC.1
  have hb := hC.2.1
  have hl : lv_has ls 2 [(0, .ref h), (1, .int n)] := hl
  have hF : ∀ q, FrK T q → q ≠ al → M q = M q := fun q _ _ => rfl
  have n_h_al : h ≠ al := neM hc_h hc_al (by simp)
  have n_al_h : al ≠ h := neM hc_al hc_h (by simp)
  have hK_f : Ke f f := Ke.rf
  refine lv_aload_n hx hb dX10_grace_0 rfl (lv_at hl 0 rfl) ?_
  refine lv_aload_n hx hb dX10_grace_1 rfl (lv_at hl 0 rfl) ?_
  refine lv_iload_n hx hb dX10_grace_2 rfl (lv_at hl 1 rfl) ?_
  refine goI hK hH (runV (As := [.int n]) (rest := [.ref h]) hC hK hH (c_X10_graces hc_h hn_h hc_al hn_al ht_mt ht_pa ht_li (by exact hR_f)) mlX10_106 (rcvM hK hH hc_h rfl) ⟨⟨Nat.le_of_ble_eq_true rfl, Nat.le_of_ble_eq_true rfl⟩, Nat.le_of_ble_eq_true rfl, Nat.le_of_ble_eq_true rfl⟩ rfl hl.1 rfl (Nat.le_of_ble_eq_true rfl) dX10_grace_3) (fun rq3_ Mq1_ Tq2_ Hq_ lcq_ hP hz hH => ?_)
  try dsimp only at hP
  obtain ⟨gq6_, h_gq6_, (⟨cq4_, er_rq3_, hx_al⟩ | ⟨cq5_, er_rq3_, hx_al⟩), eT, hfr⟩ := hP
  · skip
    have eT := eT.symm; subst eT
    have er_rq3_ := er_rq3_.symm; subst er_rq3_
    have hc_h : Mq1_ h = some (.inr (8, [.ref al, .ref mt, .ref ii, .int ta, .int fpm, .ref pa, .int sm, .int nx, .int tk, .int pl, .int ln, .long va, .int wr, .ref li])) := (hfr h (Or.inl hn_h) n_h_al).trans hc_h
    have hc_al : Mq1_ al = some (.inl (kA 0, 7506, .inl gq6_)) := hx_al
    have hF : ∀ q, FrK T q → q ≠ al → Mq1_ q = M q := fun q hq h0 => (hfr q hq  h0).trans (hF q hq h0)
    have hR_gq6_ : Rng gq6_ := h_gq6_.1
    have hK_gq6_ : Ke f gq6_ := hK_f.tr h_gq6_.2
    have cq4_ : 1 ≤ n.toInt ∧ n.toInt ≤ 9 := cq4_
    refine goI hK hH (runV (As := [.int 0]) (rest := []) hC hK hH (c_X10_told hc_h hn_h hc_al hn_al ht_mt ht_pa ht_li (by exact hR_gq6_)) mlX10_97 (rcvM hK hH hc_h rfl) ⟨⟨Nat.le_of_ble_eq_true rfl, Nat.le_of_ble_eq_true rfl⟩, Nat.le_of_ble_eq_true rfl, Nat.le_of_ble_eq_true rfl⟩ rfl hl.1 rfl (Nat.le_of_ble_eq_true rfl) dX10_grace_6) (fun rq9_ Mq7_ Tq8_ Hq_ lcq_ hP hz hH => ?_)
    try dsimp only at hP
    obtain ⟨gq10_, h_gq10_, (⟨er_rq9_, hx_al⟩), eT, hfr⟩ := hP
    have eT := eT.symm; subst eT
    have er_rq9_ := er_rq9_.symm; subst er_rq9_
    have hc_h : Mq7_ h = some (.inr (8, [.ref al, .ref mt, .ref ii, .int ta, .int fpm, .ref pa, .int sm, .int nx, .int tk, .int pl, .int ln, .long va, .int wr, .ref li])) := (hfr h (Or.inl hn_h) n_h_al).trans hc_h
    have hc_al : Mq7_ al = some (.inl (kA 0, 7506, .inl gq10_)) := hx_al
    have hF : ∀ q, FrK T q → q ≠ al → Mq7_ q = M q := fun q hq h0 => (hfr q hq  h0).trans (hF q hq h0)
    have hR_gq10_ : Rng gq10_ := h_gq10_.1
    have hK_gq10_ : Ke f gq10_ := hK_gq6_.tr h_gq10_.2
    exact ret_i hC hr hlk hK hH (⟨gq10_, ⟨hR_gq10_, hK_gq10_⟩, Or.inl (⟨by omega, rfl, hc_al⟩), rfl, hF⟩) (Nat.le_of_ble_eq_true rfl) (Nat.le_of_ble_eq_true rfl) dX10_grace_9
  · skip
    have eT := eT.symm; subst eT
    have er_rq3_ := er_rq3_.symm; subst er_rq3_
    have hc_h : Mq1_ h = some (.inr (8, [.ref al, .ref mt, .ref ii, .int ta, .int fpm, .ref pa, .int sm, .int nx, .int tk, .int pl, .int ln, .long va, .int wr, .ref li])) := (hfr h (Or.inl hn_h) n_h_al).trans hc_h
    have hc_al : Mq1_ al = some (.inl (kA 0, 7506, .inl gq6_)) := hx_al
    have hF : ∀ q, FrK T q → q ≠ al → Mq1_ q = M q := fun q hq h0 => (hfr q hq  h0).trans (hF q hq h0)
    have hR_gq6_ : Rng gq6_ := h_gq6_.1
    have hK_gq6_ : Ke f gq6_ := hK_f.tr h_gq6_.2
    have cq5_ : ¬ (1 ≤ n.toInt ∧ n.toInt ≤ 9) := cq5_
    refine goI hK hH (runV (As := [.int 30]) (rest := []) hC hK hH (c_X10_told hc_h hn_h hc_al hn_al ht_mt ht_pa ht_li (by exact hR_gq6_)) mlX10_97 (rcvM hK hH hc_h rfl) ⟨⟨Nat.le_of_ble_eq_true rfl, Nat.le_of_ble_eq_true rfl⟩, Nat.le_of_ble_eq_true rfl, Nat.le_of_ble_eq_true rfl⟩ rfl hl.1 rfl (Nat.le_of_ble_eq_true rfl) dX10_grace_6) (fun rq13_ Mq11_ Tq12_ Hq_ lcq_ hP hz hH => ?_)
    try dsimp only at hP
    obtain ⟨gq14_, h_gq14_, (⟨er_rq13_, hx_al⟩), eT, hfr⟩ := hP
    have eT := eT.symm; subst eT
    have er_rq13_ := er_rq13_.symm; subst er_rq13_
    have hc_h : Mq11_ h = some (.inr (8, [.ref al, .ref mt, .ref ii, .int ta, .int fpm, .ref pa, .int sm, .int nx, .int tk, .int pl, .int ln, .long va, .int wr, .ref li])) := (hfr h (Or.inl hn_h) n_h_al).trans hc_h
    have hc_al : Mq11_ al = some (.inl (kA 0, 7506, .inl gq14_)) := hx_al
    have hF : ∀ q, FrK T q → q ≠ al → Mq11_ q = M q := fun q hq h0 => (hfr q hq  h0).trans (hF q hq h0)
    have hR_gq14_ : Rng gq14_ := h_gq14_.1
    have hK_gq14_ : Ke f gq14_ := hK_gq6_.tr h_gq14_.2
    exact ret_i hC hr hlk hK hH (⟨gq14_, ⟨hR_gq14_, hK_gq14_⟩, Or.inr (⟨by omega, rfl, hc_al⟩), rfl, hF⟩) (Nat.le_of_ble_eq_true rfl) (Nat.le_of_ble_eq_true rfl) dX10_grace_9
set_option maxHeartbeats 4000000 in
set_option maxRecDepth 100000 in
theorem c_X10_draw {l : Launch} {D : va_G} {kA : Nat → ClassId} {M : mM} {T : mT} {sz : Nat} {h al mt ii pa li : Nat} {ta fpm sm nx tk pl ln wr : Int32} {va : Int64} {f : Nat → Int32} {dr de pe su dy : Int32} (hc_h : M h = some (.inr (8, [.ref al, .ref mt, .ref ii, .int ta, .int fpm, .ref pa, .int sm, .int nx, .int tk, .int pl, .int ln, .long va, .int wr, .ref li]))) (hn_h : T h = none) (hc_al : M al = some (.inl (kA 0, 7506, .inl f))) (hn_al : T al = none) (ht_mt : T mt = some 11) (ht_pa : T pa = some 13) (ht_li : T li = some 14) (hR_f : Rng f) : mCi l yX10_draw cX10_draw 8 (some .int) 4 0 0 D kA M T sz [.ref h, .int dr, .int de, .int pe, .int su, .int dy] (fun r u => ∃ g : Nat → Int32, (Rng g ∧ Ke f g) ∧ (u.1 al = some (.inl (kA 0, 7506, .inl g))) ∧ u.2 = T ∧ (∀ q, FrK T q → q ≠ al → u.1 q = M q)) := by
  unfold mCi
  refine start_W (by decide) (Nat.le_of_ble_eq_true rfl) ?_
  intro p e s m below meth c ls hC hr hlk hnm hK hH hsz hl
  have hx := hC.1
  have hb := hC.2.1
  have hl : lv_has ls 8 [(0, .ref h), (1, .int dr), (2, .int de), (3, .int pe), (4, .int su), (5, .int dy)] := hl
  have hF : ∀ q, FrK T q → q ≠ al → M q = M q := fun q _ _ => rfl
  have n_h_al : h ≠ al := neM hc_h hc_al (by simp)
  have n_al_h : al ≠ h := neM hc_al hc_h (by simp)
  have hK_f : Ke f f := Ke.rf
  refine lv_iload_n hx hb dX10_draw_0 rfl (lv_at hl 3 rfl) ?_
  refine lv_bipush (v := 9) hx hb dX10_draw_1 (by decide) ?_
  refine jic_le (tgt := 10) hx hb dX10_draw_3 (by decide) (fun cq1_ => ?_) (fun cq1_ => ?_)
  · skip
    have cq1_ : pe.toInt ≤ 9 := cq1_
    refine lv_iconst (v := 0) hx hb dX10_draw_10 (by decide) ?_
    refine lv_istore (lv' := [(6, .int 0), (0, .ref h), (1, .int dr), (2, .int de), (3, .int pe), (4, .int su), (5, .int dy)]) hx hb dX10_draw_11 hl (by decide) rfl (fun ls hl => ?_)
    refine lv_aload_n hx hb dX10_draw_13 rfl (lv_at hl 1 rfl) ?_
    refine lv_aload_n hx hb dX10_draw_14 rfl (lv_at hl 1 rfl) ?_
    refine lv_iload_n hx hb dX10_draw_15 rfl (lv_at hl 2 rfl) ?_
    refine lv_iload_n hx hb dX10_draw_16 rfl (lv_at hl 3 rfl) ?_
    refine lv_iload hx hb dX10_draw_17 (lv_at hl 0 rfl) ?_
    refine jif_eq (tgt := 29) hx hb dX10_draw_19 (by decide) (fun cq2_ => ?_) (fun cq2_ => absurd cq2_ (by decide))
    refine lv_iload_n hx hb dX10_draw_29 rfl (lv_at hl 4 rfl) ?_
    refine lv_iload hx hb dX10_draw_30 (lv_at hl 0 rfl) ?_
    refine lv_iload hx hb dX10_draw_32 (lv_at hl 5 rfl) ?_
    refine lv_iload hx hb dX10_draw_34 (lv_at hl 6 rfl) ?_
    refine goI hK hH (runV (As := [.int dr, .int de, .int pe, .int 0, .int su, .int dy]) (rest := [.ref h]) hC hK hH (c_X10_draws hc_h hn_h hc_al hn_al ht_mt ht_pa ht_li (by exact hR_f)) mlX10_112 (rcvM hK hH hc_h rfl) ⟨⟨Nat.le_of_ble_eq_true rfl, Nat.le_of_ble_eq_true rfl⟩, Nat.le_of_ble_eq_true rfl, Nat.le_of_ble_eq_true rfl⟩ rfl hl.1 rfl (Nat.le_of_ble_eq_true rfl) dX10_draw_36) (fun rq5_ Mq3_ Tq4_ Hq_ lcq_ hP hz hH => ?_)
    try dsimp only at hP
    obtain ⟨gq6_, h_gq6_, (hx_al), eT, hfr⟩ := hP
    have eT := eT.symm; subst eT
    have hc_h : Mq3_ h = some (.inr (8, [.ref al, .ref mt, .ref ii, .int ta, .int fpm, .ref pa, .int sm, .int nx, .int tk, .int pl, .int ln, .long va, .int wr, .ref li])) := (hfr h (Or.inl hn_h) n_h_al).trans hc_h
    have hc_al : Mq3_ al = some (.inl (kA 0, 7506, .inl gq6_)) := hx_al
    have hF : ∀ q, FrK T q → q ≠ al → Mq3_ q = M q := fun q hq h0 => (hfr q hq  h0).trans (hF q hq h0)
    have hR_gq6_ : Rng gq6_ := h_gq6_.1
    have hK_gq6_ : Ke f gq6_ := hK_f.tr h_gq6_.2
    refine goI hK hH (runV (As := [.int rq5_]) (rest := []) hC hK hH (c_X10_told hc_h hn_h hc_al hn_al ht_mt ht_pa ht_li (by exact hR_gq6_)) mlX10_97 (rcvM hK hH hc_h rfl) ⟨⟨Nat.le_of_ble_eq_true rfl, Nat.le_of_ble_eq_true rfl⟩, Nat.le_of_ble_eq_true rfl, Nat.le_of_ble_eq_true rfl⟩ rfl hl.1 rfl (Nat.le_of_ble_eq_true rfl) dX10_draw_39) (fun rq9_ Mq7_ Tq8_ Hq_ lcq_ hP hz hH => ?_)
    try dsimp only at hP
    obtain ⟨gq10_, h_gq10_, (⟨er_rq9_, hx_al⟩), eT, hfr⟩ := hP
    have eT := eT.symm; subst eT
    have er_rq9_ := er_rq9_.symm; subst er_rq9_
    have hc_h : Mq7_ h = some (.inr (8, [.ref al, .ref mt, .ref ii, .int ta, .int fpm, .ref pa, .int sm, .int nx, .int tk, .int pl, .int ln, .long va, .int wr, .ref li])) := (hfr h (Or.inl hn_h) n_h_al).trans hc_h
    have hc_al : Mq7_ al = some (.inl (kA 0, 7506, .inl gq10_)) := hx_al
    have hF : ∀ q, FrK T q → q ≠ al → Mq7_ q = M q := fun q hq h0 => (hfr q hq  h0).trans (hF q hq h0)
    have hR_gq10_ : Rng gq10_ := h_gq10_.1
    have hK_gq10_ : Ke f gq10_ := hK_gq6_.tr h_gq10_.2
    refine lv_istore (lv' := [(7, .int rq5_), (6, .int 0), (0, .ref h), (1, .int dr), (2, .int de), (3, .int pe), (4, .int su), (5, .int dy)]) hx hb dX10_draw_42 hl (by decide) rfl (fun ls hl => ?_)
    refine lv_iload hx hb dX10_draw_44 (lv_at hl 0 rfl) ?_
    refine jif_le (tgt := 55) hx hb dX10_draw_46 (by decide) (fun cq11_ => ?_) (fun cq11_ => ?_)
    · skip
      have cq11_ : rq5_.toInt ≤ 0 := cq11_
      refine lv_aload_n hx hb dX10_draw_55 rfl (lv_at hl 2 rfl) ?_
      refine xg hC hK hH flX10_7 hc_h rfl dX10_draw_56 ?_
      refine lv_iconst (v := 1) hx hb dX10_draw_59 (by decide) ?_
      refine xild hC hK hH hc_al (iIn (by decide) (by decide)) dX10_draw_60 ?_
      refine lv_topi (fun xq12_ e_xq12_ => ?_)
      have kt_xq12_ : xq12_.toInt = (gq10_ 1).toInt := by rw [e_xq12_]; rfl
      have l_xq12_ : 0 ≤ xq12_.toInt := by rw [kt_xq12_]; exact hR_gq10_.r1.1
      have g_xq12_ : xq12_.toInt ≤ 4 := by rw [kt_xq12_]; exact hR_gq10_.r1.2
      refine lv_iconst (v := 1) hx hb dX10_draw_61 (by decide) ?_
      refine lv_isub hx hb dX10_draw_62 ?_
      refine lv_topi (fun zq13_ e_zq13_ => ?_)
      have h_zq13_ : zq13_.toInt = xq12_.toInt - 1 := by rw [e_zq13_, iSub (by have := iRg xq12_; have : (1 : Int32).toInt = 1 := rfl; omega) (by have := iRg xq12_; have : (1 : Int32).toInt = 1 := rfl; omega)]; rfl
      exact ret_i hC hr hlk hK hH (⟨gq10_, ⟨hR_gq10_, hK_gq10_⟩, hc_al, rfl, hF⟩) (Nat.le_of_ble_eq_true rfl) (Nat.le_of_ble_eq_true rfl) dX10_draw_63
    · skip
      have cq11_ : 0 < rq5_.toInt := cq11_
      refine lv_iload hx hb dX10_draw_49 (lv_at hl 0 rfl) ?_
      refine lv_ineg hx hb dX10_draw_51 ?_
      refine lv_topi (fun zq14_ e_zq14_ => ?_)
      refine lv_goto (tgt := 63) hx hb dX10_draw_52 (by decide) ?_
      exact ret_i hC hr hlk hK hH (⟨gq10_, ⟨hR_gq10_, hK_gq10_⟩, hc_al, rfl, hF⟩) (Nat.le_of_ble_eq_true rfl) (Nat.le_of_ble_eq_true rfl) dX10_draw_63
  · skip
    have cq1_ : 9 < pe.toInt := cq1_
    refine lv_iconst (v := 1) hx hb dX10_draw_6 (by decide) ?_
    refine lv_goto (tgt := 11) hx hb dX10_draw_7 (by decide) ?_
    refine lv_istore (lv' := [(6, .int 1), (0, .ref h), (1, .int dr), (2, .int de), (3, .int pe), (4, .int su), (5, .int dy)]) hx hb dX10_draw_11 hl (by decide) rfl (fun ls hl => ?_)
    refine lv_aload_n hx hb dX10_draw_13 rfl (lv_at hl 1 rfl) ?_
    refine lv_aload_n hx hb dX10_draw_14 rfl (lv_at hl 1 rfl) ?_
    refine lv_iload_n hx hb dX10_draw_15 rfl (lv_at hl 2 rfl) ?_
    refine lv_iload_n hx hb dX10_draw_16 rfl (lv_at hl 3 rfl) ?_
    refine lv_iload hx hb dX10_draw_17 (lv_at hl 0 rfl) ?_
    refine jif_eq (tgt := 29) hx hb dX10_draw_19 (by decide) (fun cq15_ => absurd cq15_ (by decide)) (fun cq15_ => ?_)
    refine lv_iload_n hx hb dX10_draw_22 rfl (lv_at hl 4 rfl) ?_
    refine lv_bipush (v := 10) hx hb dX10_draw_23 (by decide) ?_
    refine lv_isub hx hb dX10_draw_25 ?_
    refine lv_topi (fun zq16_ e_zq16_ => ?_)
    have h_zq16_ : zq16_.toInt = pe.toInt - 10 := by rw [e_zq16_, iSub (by have := iRg pe; have : (10 : Int32).toInt = 10 := rfl; omega) (by have := iRg pe; have : (10 : Int32).toInt = 10 := rfl; omega)]; rfl
    refine lv_goto (tgt := 30) hx hb dX10_draw_26 (by decide) ?_
    refine lv_iload hx hb dX10_draw_30 (lv_at hl 0 rfl) ?_
    refine lv_iload hx hb dX10_draw_32 (lv_at hl 5 rfl) ?_
    refine lv_iload hx hb dX10_draw_34 (lv_at hl 6 rfl) ?_
    refine goI hK hH (runV (As := [.int dr, .int de, .int zq16_, .int 1, .int su, .int dy]) (rest := [.ref h]) hC hK hH (c_X10_draws hc_h hn_h hc_al hn_al ht_mt ht_pa ht_li (by exact hR_f)) mlX10_112 (rcvM hK hH hc_h rfl) ⟨⟨Nat.le_of_ble_eq_true rfl, Nat.le_of_ble_eq_true rfl⟩, Nat.le_of_ble_eq_true rfl, Nat.le_of_ble_eq_true rfl⟩ rfl hl.1 rfl (Nat.le_of_ble_eq_true rfl) dX10_draw_36) (fun rq19_ Mq17_ Tq18_ Hq_ lcq_ hP hz hH => ?_)
    try dsimp only at hP
    obtain ⟨gq20_, h_gq20_, (hx_al), eT, hfr⟩ := hP
    have eT := eT.symm; subst eT
    have hc_h : Mq17_ h = some (.inr (8, [.ref al, .ref mt, .ref ii, .int ta, .int fpm, .ref pa, .int sm, .int nx, .int tk, .int pl, .int ln, .long va, .int wr, .ref li])) := (hfr h (Or.inl hn_h) n_h_al).trans hc_h
    have hc_al : Mq17_ al = some (.inl (kA 0, 7506, .inl gq20_)) := hx_al
    have hF : ∀ q, FrK T q → q ≠ al → Mq17_ q = M q := fun q hq h0 => (hfr q hq  h0).trans (hF q hq h0)
    have hR_gq20_ : Rng gq20_ := h_gq20_.1
    have hK_gq20_ : Ke f gq20_ := hK_f.tr h_gq20_.2
    refine goI hK hH (runV (As := [.int rq19_]) (rest := []) hC hK hH (c_X10_told hc_h hn_h hc_al hn_al ht_mt ht_pa ht_li (by exact hR_gq20_)) mlX10_97 (rcvM hK hH hc_h rfl) ⟨⟨Nat.le_of_ble_eq_true rfl, Nat.le_of_ble_eq_true rfl⟩, Nat.le_of_ble_eq_true rfl, Nat.le_of_ble_eq_true rfl⟩ rfl hl.1 rfl (Nat.le_of_ble_eq_true rfl) dX10_draw_39) (fun rq23_ Mq21_ Tq22_ Hq_ lcq_ hP hz hH => ?_)
    try dsimp only at hP
    obtain ⟨gq24_, h_gq24_, (⟨er_rq23_, hx_al⟩), eT, hfr⟩ := hP
    have eT := eT.symm; subst eT
    have er_rq23_ := er_rq23_.symm; subst er_rq23_
    have hc_h : Mq21_ h = some (.inr (8, [.ref al, .ref mt, .ref ii, .int ta, .int fpm, .ref pa, .int sm, .int nx, .int tk, .int pl, .int ln, .long va, .int wr, .ref li])) := (hfr h (Or.inl hn_h) n_h_al).trans hc_h
    have hc_al : Mq21_ al = some (.inl (kA 0, 7506, .inl gq24_)) := hx_al
    have hF : ∀ q, FrK T q → q ≠ al → Mq21_ q = M q := fun q hq h0 => (hfr q hq  h0).trans (hF q hq h0)
    have hR_gq24_ : Rng gq24_ := h_gq24_.1
    have hK_gq24_ : Ke f gq24_ := hK_gq20_.tr h_gq24_.2
    refine lv_istore (lv' := [(7, .int rq19_), (6, .int 1), (0, .ref h), (1, .int dr), (2, .int de), (3, .int pe), (4, .int su), (5, .int dy)]) hx hb dX10_draw_42 hl (by decide) rfl (fun ls hl => ?_)
    refine lv_iload hx hb dX10_draw_44 (lv_at hl 0 rfl) ?_
    refine jif_le (tgt := 55) hx hb dX10_draw_46 (by decide) (fun cq25_ => ?_) (fun cq25_ => ?_)
    · skip
      have cq25_ : rq19_.toInt ≤ 0 := cq25_
      refine lv_aload_n hx hb dX10_draw_55 rfl (lv_at hl 2 rfl) ?_
      refine xg hC hK hH flX10_7 hc_h rfl dX10_draw_56 ?_
      refine lv_iconst (v := 1) hx hb dX10_draw_59 (by decide) ?_
      refine xild hC hK hH hc_al (iIn (by decide) (by decide)) dX10_draw_60 ?_
      refine lv_topi (fun xq26_ e_xq26_ => ?_)
      have kt_xq26_ : xq26_.toInt = (gq24_ 1).toInt := by rw [e_xq26_]; rfl
      have l_xq26_ : 0 ≤ xq26_.toInt := by rw [kt_xq26_]; exact hR_gq24_.r1.1
      have g_xq26_ : xq26_.toInt ≤ 4 := by rw [kt_xq26_]; exact hR_gq24_.r1.2
      refine lv_iconst (v := 1) hx hb dX10_draw_61 (by decide) ?_
      refine lv_isub hx hb dX10_draw_62 ?_
      refine lv_topi (fun zq27_ e_zq27_ => ?_)
      have h_zq27_ : zq27_.toInt = xq26_.toInt - 1 := by rw [e_zq27_, iSub (by have := iRg xq26_; have : (1 : Int32).toInt = 1 := rfl; omega) (by have := iRg xq26_; have : (1 : Int32).toInt = 1 := rfl; omega)]; rfl
      exact ret_i hC hr hlk hK hH (⟨gq24_, ⟨hR_gq24_, hK_gq24_⟩, hc_al, rfl, hF⟩) (Nat.le_of_ble_eq_true rfl) (Nat.le_of_ble_eq_true rfl) dX10_draw_63
    · skip
      have cq25_ : 0 < rq19_.toInt := cq25_
      refine lv_iload hx hb dX10_draw_49 (lv_at hl 0 rfl) ?_
      refine lv_ineg hx hb dX10_draw_51 ?_
      refine lv_topi (fun zq28_ e_zq28_ => ?_)
      refine lv_goto (tgt := 63) hx hb dX10_draw_52 (by decide) ?_
      exact ret_i hC hr hlk hK hH (⟨gq24_, ⟨hR_gq24_, hK_gq24_⟩, hc_al, rfl, hF⟩) (Nat.le_of_ble_eq_true rfl) (Nat.le_of_ble_eq_true rfl) dX10_draw_63
set_option maxHeartbeats 4000000 in
set_option maxRecDepth 100000 in
theorem c_X10_accept {l : Launch} {D : va_G} {kA : Nat → ClassId} {M : mM} {T : mT} {sz : Nat} {h al mt ii pa li : Nat} {ta fpm sm nx tk pl ln wr : Int32} {va : Int64} {f : Nat → Int32} {bi : Int32} (hc_h : M h = some (.inr (8, [.ref al, .ref mt, .ref ii, .int ta, .int fpm, .ref pa, .int sm, .int nx, .int tk, .int pl, .int ln, .long va, .int wr, .ref li]))) (hn_h : T h = none) (hc_al : M al = some (.inl (kA 0, 7506, .inl f))) (hn_al : T al = none) (ht_mt : T mt = some 11) (ht_pa : T pa = some 13) (ht_li : T li = some 14) (hR_f : Rng f) : mCi l yX10_accept cX10_accept 2 (some .int) 3 0 0 D kA M T sz [.ref h, .int bi] (fun r u => ∃ g : Nat → Int32, (Rng g ∧ Ke f g) ∧ (u.1 al = some (.inl (kA 0, 7506, .inl g))) ∧ u.2 = T ∧ (∀ q, FrK T q → q ≠ al → u.1 q = M q)) := by
  unfold mCi
  refine start_W (by decide) (Nat.le_of_ble_eq_true rfl) ?_
  intro p e s m below meth c ls hC hr hlk hnm hK hH hsz hl
  have hx := hC.1
  have hb := hC.2.1
  have hl : lv_has ls 2 [(0, .ref h), (1, .int bi)] := hl
  have hF : ∀ q, FrK T q → q ≠ al → M q = M q := fun q _ _ => rfl
  have n_h_al : h ≠ al := neM hc_h hc_al (by simp)
  have n_al_h : al ≠ h := neM hc_al hc_h (by simp)
  have hK_f : Ke f f := Ke.rf
  refine lv_aload_n hx hb dX10_accept_0 rfl (lv_at hl 0 rfl) ?_
  refine lv_aload_n hx hb dX10_accept_1 rfl (lv_at hl 0 rfl) ?_
  refine lv_iload_n hx hb dX10_accept_2 rfl (lv_at hl 1 rfl) ?_
  refine goI hK hH (runV (As := [.int bi]) (rest := [.ref h]) hC hK hH (c_X10_accepts hc_h hn_h hc_al hn_al ht_mt ht_pa ht_li (by exact hR_f)) mlX10_119 (rcvM hK hH hc_h rfl) ⟨⟨Nat.le_of_ble_eq_true rfl, Nat.le_of_ble_eq_true rfl⟩, Nat.le_of_ble_eq_true rfl, Nat.le_of_ble_eq_true rfl⟩ rfl hl.1 rfl (Nat.le_of_ble_eq_true rfl) dX10_accept_3) (fun rq3_ Mq1_ Tq2_ Hq_ lcq_ hP hz hH => ?_)
  try dsimp only at hP
  obtain ⟨gq4_, h_gq4_, (hx_al), eT, hfr⟩ := hP
  have eT := eT.symm; subst eT
  have hc_h : Mq1_ h = some (.inr (8, [.ref al, .ref mt, .ref ii, .int ta, .int fpm, .ref pa, .int sm, .int nx, .int tk, .int pl, .int ln, .long va, .int wr, .ref li])) := (hfr h (Or.inl hn_h) n_h_al).trans hc_h
  have hc_al : Mq1_ al = some (.inl (kA 0, 7506, .inl gq4_)) := hx_al
  have hF : ∀ q, FrK T q → q ≠ al → Mq1_ q = M q := fun q hq h0 => (hfr q hq  h0).trans (hF q hq h0)
  have hR_gq4_ : Rng gq4_ := h_gq4_.1
  have hK_gq4_ : Ke f gq4_ := hK_f.tr h_gq4_.2
  refine goI hK hH (runV (As := [.int rq3_]) (rest := []) hC hK hH (c_X10_told hc_h hn_h hc_al hn_al ht_mt ht_pa ht_li (by exact hR_gq4_)) mlX10_97 (rcvM hK hH hc_h rfl) ⟨⟨Nat.le_of_ble_eq_true rfl, Nat.le_of_ble_eq_true rfl⟩, Nat.le_of_ble_eq_true rfl, Nat.le_of_ble_eq_true rfl⟩ rfl hl.1 rfl (Nat.le_of_ble_eq_true rfl) dX10_accept_6) (fun rq7_ Mq5_ Tq6_ Hq_ lcq_ hP hz hH => ?_)
  try dsimp only at hP
  obtain ⟨gq8_, h_gq8_, (⟨er_rq7_, hx_al⟩), eT, hfr⟩ := hP
  have eT := eT.symm; subst eT
  have er_rq7_ := er_rq7_.symm; subst er_rq7_
  have hc_h : Mq5_ h = some (.inr (8, [.ref al, .ref mt, .ref ii, .int ta, .int fpm, .ref pa, .int sm, .int nx, .int tk, .int pl, .int ln, .long va, .int wr, .ref li])) := (hfr h (Or.inl hn_h) n_h_al).trans hc_h
  have hc_al : Mq5_ al = some (.inl (kA 0, 7506, .inl gq8_)) := hx_al
  have hF : ∀ q, FrK T q → q ≠ al → Mq5_ q = M q := fun q hq h0 => (hfr q hq  h0).trans (hF q hq h0)
  have hR_gq8_ : Rng gq8_ := h_gq8_.1
  have hK_gq8_ : Ke f gq8_ := hK_gq4_.tr h_gq8_.2
  exact ret_i hC hr hlk hK hH (⟨gq8_, ⟨hR_gq8_, hK_gq8_⟩, hc_al, rfl, hF⟩) (Nat.le_of_ble_eq_true rfl) (Nat.le_of_ble_eq_true rfl) dX10_accept_9
set_option maxHeartbeats 4000000 in
set_option maxRecDepth 100000 in
theorem c_X10_pass {l : Launch} {D : va_G} {kA : Nat → ClassId} {M : mM} {T : mT} {sz : Nat} {h al mt ii pa li : Nat} {ta fpm sm nx tk pl ln wr : Int32} {va : Int64} {f : Nat → Int32} {bi so to va_ no : Int32} (hc_h : M h = some (.inr (8, [.ref al, .ref mt, .ref ii, .int ta, .int fpm, .ref pa, .int sm, .int nx, .int tk, .int pl, .int ln, .long va, .int wr, .ref li]))) (hn_h : T h = none) (hc_al : M al = some (.inl (kA 0, 7506, .inl f))) (hn_al : T al = none) (ht_mt : T mt = some 11) (ht_pa : T pa = some 13) (ht_li : T li = some 14) (hR_f : Rng f) : mCi l yX10_pass cX10_pass 6 (some .int) 6 0 0 D kA M T sz [.ref h, .int bi, .int so, .int to, .int va_, .int no] (fun r u => ∃ g : Nat → Int32, (Rng g ∧ Ke f g) ∧ (u.1 al = some (.inl (kA 0, 7506, .inl g))) ∧ u.2 = T ∧ (∀ q, FrK T q → q ≠ al → u.1 q = M q)) := by
  unfold mCi
  refine start_W (by decide) (Nat.le_of_ble_eq_true rfl) ?_
  intro p e s m below meth c ls hC hr hlk hnm hK hH hsz hl
  have hx := hC.1
  have hb := hC.2.1
  have hl : lv_has ls 6 [(0, .ref h), (1, .int bi), (2, .int so), (3, .int to), (4, .int va_), (5, .int no)] := hl
  have hF : ∀ q, FrK T q → q ≠ al → M q = M q := fun q _ _ => rfl
  have n_h_al : h ≠ al := neM hc_h hc_al (by simp)
  have n_al_h : al ≠ h := neM hc_al hc_h (by simp)
  have hK_f : Ke f f := Ke.rf
  refine lv_aload_n hx hb dX10_pass_0 rfl (lv_at hl 0 rfl) ?_
  refine lv_aload_n hx hb dX10_pass_1 rfl (lv_at hl 0 rfl) ?_
  refine lv_iload_n hx hb dX10_pass_2 rfl (lv_at hl 1 rfl) ?_
  refine lv_iload_n hx hb dX10_pass_3 rfl (lv_at hl 2 rfl) ?_
  refine lv_bipush (v := 9) hx hb dX10_pass_4 (by decide) ?_
  refine jic_le (tgt := 16) hx hb dX10_pass_6 (by decide) (fun cq1_ => ?_) (fun cq1_ => ?_)
  · skip
    have cq1_ : so.toInt ≤ 9 := cq1_
    refine lv_iload_n hx hb dX10_pass_16 rfl (lv_at hl 2 rfl) ?_
    refine lv_iload_n hx hb dX10_pass_17 rfl (lv_at hl 2 rfl) ?_
    refine lv_bipush (v := 9) hx hb dX10_pass_18 (by decide) ?_
    refine jic_le (tgt := 27) hx hb dX10_pass_20 (by decide) (fun cq2_ => ?_) (fun cq2_ => absurd cq2_ (by have := iRg so; have : (9 : Int32).toInt = 9 := rfl; omega))
    have cq2_ : so.toInt ≤ 9 := cq2_
    refine lv_iconst (v := 0) hx hb dX10_pass_27 (by decide) ?_
    refine lv_iload_n hx hb dX10_pass_28 rfl (lv_at hl 3 rfl) ?_
    refine lv_iload hx hb dX10_pass_29 (lv_at hl 4 rfl) ?_
    refine lv_iload hx hb dX10_pass_31 (lv_at hl 5 rfl) ?_
    refine goI hK hH (runV (As := [.int bi, .int so, .int 0, .int to, .int va_, .int no]) (rest := [.ref h]) hC hK hH (c_X10_passes hc_h hn_h hc_al hn_al ht_mt ht_pa ht_li (by exact hR_f)) mlX10_129 (rcvM hK hH hc_h rfl) ⟨⟨Nat.le_of_ble_eq_true rfl, Nat.le_of_ble_eq_true rfl⟩, Nat.le_of_ble_eq_true rfl, Nat.le_of_ble_eq_true rfl⟩ rfl hl.1 rfl (Nat.le_of_ble_eq_true rfl) dX10_pass_33) (fun rq5_ Mq3_ Tq4_ Hq_ lcq_ hP hz hH => ?_)
    try dsimp only at hP
    obtain ⟨gq6_, h_gq6_, (hx_al), eT, hfr⟩ := hP
    have eT := eT.symm; subst eT
    have hc_h : Mq3_ h = some (.inr (8, [.ref al, .ref mt, .ref ii, .int ta, .int fpm, .ref pa, .int sm, .int nx, .int tk, .int pl, .int ln, .long va, .int wr, .ref li])) := (hfr h (Or.inl hn_h) n_h_al).trans hc_h
    have hc_al : Mq3_ al = some (.inl (kA 0, 7506, .inl gq6_)) := hx_al
    have hF : ∀ q, FrK T q → q ≠ al → Mq3_ q = M q := fun q hq h0 => (hfr q hq  h0).trans (hF q hq h0)
    have hR_gq6_ : Rng gq6_ := h_gq6_.1
    have hK_gq6_ : Ke f gq6_ := hK_f.tr h_gq6_.2
    refine goI hK hH (runV (As := [.int rq5_]) (rest := []) hC hK hH (c_X10_told hc_h hn_h hc_al hn_al ht_mt ht_pa ht_li (by exact hR_gq6_)) mlX10_97 (rcvM hK hH hc_h rfl) ⟨⟨Nat.le_of_ble_eq_true rfl, Nat.le_of_ble_eq_true rfl⟩, Nat.le_of_ble_eq_true rfl, Nat.le_of_ble_eq_true rfl⟩ rfl hl.1 rfl (Nat.le_of_ble_eq_true rfl) dX10_pass_36) (fun rq9_ Mq7_ Tq8_ Hq_ lcq_ hP hz hH => ?_)
    try dsimp only at hP
    obtain ⟨gq10_, h_gq10_, (⟨er_rq9_, hx_al⟩), eT, hfr⟩ := hP
    have eT := eT.symm; subst eT
    have er_rq9_ := er_rq9_.symm; subst er_rq9_
    have hc_h : Mq7_ h = some (.inr (8, [.ref al, .ref mt, .ref ii, .int ta, .int fpm, .ref pa, .int sm, .int nx, .int tk, .int pl, .int ln, .long va, .int wr, .ref li])) := (hfr h (Or.inl hn_h) n_h_al).trans hc_h
    have hc_al : Mq7_ al = some (.inl (kA 0, 7506, .inl gq10_)) := hx_al
    have hF : ∀ q, FrK T q → q ≠ al → Mq7_ q = M q := fun q hq h0 => (hfr q hq  h0).trans (hF q hq h0)
    have hR_gq10_ : Rng gq10_ := h_gq10_.1
    have hK_gq10_ : Ke f gq10_ := hK_gq6_.tr h_gq10_.2
    exact ret_i hC hr hlk hK hH (⟨gq10_, ⟨hR_gq10_, hK_gq10_⟩, hc_al, rfl, hF⟩) (Nat.le_of_ble_eq_true rfl) (Nat.le_of_ble_eq_true rfl) dX10_pass_39
  · skip
    have cq1_ : 9 < so.toInt := cq1_
    refine lv_iload_n hx hb dX10_pass_9 rfl (lv_at hl 2 rfl) ?_
    refine lv_bipush (v := 10) hx hb dX10_pass_10 (by decide) ?_
    refine lv_isub hx hb dX10_pass_12 ?_
    refine lv_topi (fun zq11_ e_zq11_ => ?_)
    have h_zq11_ : zq11_.toInt = so.toInt - 10 := by rw [e_zq11_, iSub (by have := iRg so; have : (10 : Int32).toInt = 10 := rfl; omega) (by have := iRg so; have : (10 : Int32).toInt = 10 := rfl; omega)]; rfl
    refine lv_goto (tgt := 17) hx hb dX10_pass_13 (by decide) ?_
    refine lv_iload_n hx hb dX10_pass_17 rfl (lv_at hl 2 rfl) ?_
    refine lv_bipush (v := 9) hx hb dX10_pass_18 (by decide) ?_
    refine jic_le (tgt := 27) hx hb dX10_pass_20 (by decide) (fun cq12_ => absurd cq12_ (by have := iRg so; have : (9 : Int32).toInt = 9 := rfl; omega)) (fun cq12_ => ?_)
    have cq12_ : 9 < so.toInt := cq12_
    refine lv_iconst (v := 1) hx hb dX10_pass_23 (by decide) ?_
    refine lv_goto (tgt := 28) hx hb dX10_pass_24 (by decide) ?_
    refine lv_iload_n hx hb dX10_pass_28 rfl (lv_at hl 3 rfl) ?_
    refine lv_iload hx hb dX10_pass_29 (lv_at hl 4 rfl) ?_
    refine lv_iload hx hb dX10_pass_31 (lv_at hl 5 rfl) ?_
    refine goI hK hH (runV (As := [.int bi, .int zq11_, .int 1, .int to, .int va_, .int no]) (rest := [.ref h]) hC hK hH (c_X10_passes hc_h hn_h hc_al hn_al ht_mt ht_pa ht_li (by exact hR_f)) mlX10_129 (rcvM hK hH hc_h rfl) ⟨⟨Nat.le_of_ble_eq_true rfl, Nat.le_of_ble_eq_true rfl⟩, Nat.le_of_ble_eq_true rfl, Nat.le_of_ble_eq_true rfl⟩ rfl hl.1 rfl (Nat.le_of_ble_eq_true rfl) dX10_pass_33) (fun rq15_ Mq13_ Tq14_ Hq_ lcq_ hP hz hH => ?_)
    try dsimp only at hP
    obtain ⟨gq16_, h_gq16_, (hx_al), eT, hfr⟩ := hP
    have eT := eT.symm; subst eT
    have hc_h : Mq13_ h = some (.inr (8, [.ref al, .ref mt, .ref ii, .int ta, .int fpm, .ref pa, .int sm, .int nx, .int tk, .int pl, .int ln, .long va, .int wr, .ref li])) := (hfr h (Or.inl hn_h) n_h_al).trans hc_h
    have hc_al : Mq13_ al = some (.inl (kA 0, 7506, .inl gq16_)) := hx_al
    have hF : ∀ q, FrK T q → q ≠ al → Mq13_ q = M q := fun q hq h0 => (hfr q hq  h0).trans (hF q hq h0)
    have hR_gq16_ : Rng gq16_ := h_gq16_.1
    have hK_gq16_ : Ke f gq16_ := hK_f.tr h_gq16_.2
    refine goI hK hH (runV (As := [.int rq15_]) (rest := []) hC hK hH (c_X10_told hc_h hn_h hc_al hn_al ht_mt ht_pa ht_li (by exact hR_gq16_)) mlX10_97 (rcvM hK hH hc_h rfl) ⟨⟨Nat.le_of_ble_eq_true rfl, Nat.le_of_ble_eq_true rfl⟩, Nat.le_of_ble_eq_true rfl, Nat.le_of_ble_eq_true rfl⟩ rfl hl.1 rfl (Nat.le_of_ble_eq_true rfl) dX10_pass_36) (fun rq19_ Mq17_ Tq18_ Hq_ lcq_ hP hz hH => ?_)
    try dsimp only at hP
    obtain ⟨gq20_, h_gq20_, (⟨er_rq19_, hx_al⟩), eT, hfr⟩ := hP
    have eT := eT.symm; subst eT
    have er_rq19_ := er_rq19_.symm; subst er_rq19_
    have hc_h : Mq17_ h = some (.inr (8, [.ref al, .ref mt, .ref ii, .int ta, .int fpm, .ref pa, .int sm, .int nx, .int tk, .int pl, .int ln, .long va, .int wr, .ref li])) := (hfr h (Or.inl hn_h) n_h_al).trans hc_h
    have hc_al : Mq17_ al = some (.inl (kA 0, 7506, .inl gq20_)) := hx_al
    have hF : ∀ q, FrK T q → q ≠ al → Mq17_ q = M q := fun q hq h0 => (hfr q hq  h0).trans (hF q hq h0)
    have hR_gq20_ : Rng gq20_ := h_gq20_.1
    have hK_gq20_ : Ke f gq20_ := hK_gq16_.tr h_gq20_.2
    exact ret_i hC hr hlk hK hH (⟨gq20_, ⟨hR_gq20_, hK_gq20_⟩, hc_al, rfl, hF⟩) (Nat.le_of_ble_eq_true rfl) (Nat.le_of_ble_eq_true rfl) dX10_pass_39
set_option maxHeartbeats 4000000 in
set_option maxRecDepth 100000 in
theorem c_X10_forge {l : Launch} {D : va_G} {kA : Nat → ClassId} {M : mM} {T : mT} {sz : Nat} {h al mt ii pa li : Nat} {ta fpm sm nx tk pl ln wr : Int32} {va : Int64} {f : Nat → Int32} {bi nm to va_ no : Int32} (hc_h : M h = some (.inr (8, [.ref al, .ref mt, .ref ii, .int ta, .int fpm, .ref pa, .int sm, .int nx, .int tk, .int pl, .int ln, .long va, .int wr, .ref li]))) (hn_h : T h = none) (hc_al : M al = some (.inl (kA 0, 7506, .inl f))) (hn_al : T al = none) (ht_mt : T mt = some 11) (ht_pa : T pa = some 13) (ht_li : T li = some 14) (hR_f : Rng f) : mCi l yX10_forge cX10_forge 6 (some .int) 6 0 0 D kA M T sz [.ref h, .int bi, .int nm, .int to, .int va_, .int no] (fun r u => ∃ g : Nat → Int32, (Rng g ∧ Ke f g) ∧ (u.1 al = some (.inl (kA 0, 7506, .inl g))) ∧ u.2 = T ∧ (∀ q, FrK T q → q ≠ al → u.1 q = M q)) := by
  unfold mCi
  refine start_W (by decide) (Nat.le_of_ble_eq_true rfl) ?_
  intro p e s m below meth c ls hC hr hlk hnm hK hH hsz hl
  have hx := hC.1
  have hb := hC.2.1
  have hl : lv_has ls 6 [(0, .ref h), (1, .int bi), (2, .int nm), (3, .int to), (4, .int va_), (5, .int no)] := hl
  have hF : ∀ q, FrK T q → q ≠ al → M q = M q := fun q _ _ => rfl
  have n_h_al : h ≠ al := neM hc_h hc_al (by simp)
  have n_al_h : al ≠ h := neM hc_al hc_h (by simp)
  have hK_f : Ke f f := Ke.rf
  refine lv_aload_n hx hb dX10_forge_0 rfl (lv_at hl 0 rfl) ?_
  refine lv_aload_n hx hb dX10_forge_1 rfl (lv_at hl 0 rfl) ?_
  refine lv_iload_n hx hb dX10_forge_2 rfl (lv_at hl 1 rfl) ?_
  refine lv_iload_n hx hb dX10_forge_3 rfl (lv_at hl 2 rfl) ?_
  refine lv_iload_n hx hb dX10_forge_4 rfl (lv_at hl 3 rfl) ?_
  refine lv_iload hx hb dX10_forge_5 (lv_at hl 4 rfl) ?_
  refine lv_iload hx hb dX10_forge_7 (lv_at hl 5 rfl) ?_
  refine goI hK hH (runV (As := [.int bi, .int nm, .int to, .int va_, .int no]) (rest := [.ref h]) hC hK hH (c_X10_forges hc_h hn_h hc_al hn_al ht_mt ht_pa ht_li (by exact hR_f)) mlX10_133 (rcvM hK hH hc_h rfl) ⟨⟨Nat.le_of_ble_eq_true rfl, Nat.le_of_ble_eq_true rfl⟩, Nat.le_of_ble_eq_true rfl, Nat.le_of_ble_eq_true rfl⟩ rfl hl.1 rfl (Nat.le_of_ble_eq_true rfl) dX10_forge_9) (fun rq3_ Mq1_ Tq2_ Hq_ lcq_ hP hz hH => ?_)
  try dsimp only at hP
  obtain ⟨gq4_, h_gq4_, (hx_al), eT, hfr⟩ := hP
  have eT := eT.symm; subst eT
  have hc_h : Mq1_ h = some (.inr (8, [.ref al, .ref mt, .ref ii, .int ta, .int fpm, .ref pa, .int sm, .int nx, .int tk, .int pl, .int ln, .long va, .int wr, .ref li])) := (hfr h (Or.inl hn_h) n_h_al).trans hc_h
  have hc_al : Mq1_ al = some (.inl (kA 0, 7506, .inl gq4_)) := hx_al
  have hF : ∀ q, FrK T q → q ≠ al → Mq1_ q = M q := fun q hq h0 => (hfr q hq  h0).trans (hF q hq h0)
  have hR_gq4_ : Rng gq4_ := h_gq4_.1
  have hK_gq4_ : Ke f gq4_ := hK_f.tr h_gq4_.2
  refine goI hK hH (runV (As := [.int rq3_]) (rest := []) hC hK hH (c_X10_told hc_h hn_h hc_al hn_al ht_mt ht_pa ht_li (by exact hR_gq4_)) mlX10_97 (rcvM hK hH hc_h rfl) ⟨⟨Nat.le_of_ble_eq_true rfl, Nat.le_of_ble_eq_true rfl⟩, Nat.le_of_ble_eq_true rfl, Nat.le_of_ble_eq_true rfl⟩ rfl hl.1 rfl (Nat.le_of_ble_eq_true rfl) dX10_forge_12) (fun rq7_ Mq5_ Tq6_ Hq_ lcq_ hP hz hH => ?_)
  try dsimp only at hP
  obtain ⟨gq8_, h_gq8_, (⟨er_rq7_, hx_al⟩), eT, hfr⟩ := hP
  have eT := eT.symm; subst eT
  have er_rq7_ := er_rq7_.symm; subst er_rq7_
  have hc_h : Mq5_ h = some (.inr (8, [.ref al, .ref mt, .ref ii, .int ta, .int fpm, .ref pa, .int sm, .int nx, .int tk, .int pl, .int ln, .long va, .int wr, .ref li])) := (hfr h (Or.inl hn_h) n_h_al).trans hc_h
  have hc_al : Mq5_ al = some (.inl (kA 0, 7506, .inl gq8_)) := hx_al
  have hF : ∀ q, FrK T q → q ≠ al → Mq5_ q = M q := fun q hq h0 => (hfr q hq  h0).trans (hF q hq h0)
  have hR_gq8_ : Rng gq8_ := h_gq8_.1
  have hK_gq8_ : Ke f gq8_ := hK_gq4_.tr h_gq8_.2
  exact ret_i hC hr hlk hK hH (⟨gq8_, ⟨hR_gq8_, hK_gq8_⟩, hc_al, rfl, hF⟩) (Nat.le_of_ble_eq_true rfl) (Nat.le_of_ble_eq_true rfl) dX10_forge_15
set_option maxHeartbeats 4000000 in
set_option maxRecDepth 100000 in
theorem c_X10_find {l : Launch} {D : va_G} {kA : Nat → ClassId} {M : mM} {T : mT} {sz : Nat} {h al mt ii pa li : Nat} {ta fpm sm nx tk pl ln wr : Int32} {va : Int64} {f : Nat → Int32} {bi to : Int32} (hc_h : M h = some (.inr (8, [.ref al, .ref mt, .ref ii, .int ta, .int fpm, .ref pa, .int sm, .int nx, .int tk, .int pl, .int ln, .long va, .int wr, .ref li]))) (hn_h : T h = none) (hc_al : M al = some (.inl (kA 0, 7506, .inl f))) (hn_al : T al = none) (ht_mt : T mt = some 11) (ht_pa : T pa = some 13) (ht_li : T li = some 14) (hR_f : Rng f) : mCi l yX10_find cX10_find 3 (some .int) 6 0 0 D kA M T sz [.ref h, .int bi, .int to] (fun r u => ∃ g : Nat → Int32, (Rng g ∧ Ke f g) ∧ (u.1 al = some (.inl (kA 0, 7506, .inl g))) ∧ u.2 = T ∧ (∀ q, FrK T q → q ≠ al → u.1 q = M q)) := by
  unfold mCi
  refine start_W (by decide) (Nat.le_of_ble_eq_true rfl) ?_
  intro p e s m below meth c ls hC hr hlk hnm hK hH hsz hl
  have hx := hC.1
  have hb := hC.2.1
  have hl : lv_has ls 3 [(0, .ref h), (1, .int bi), (2, .int to)] := hl
  have hF : ∀ q, FrK T q → q ≠ al → M q = M q := fun q _ _ => rfl
  have n_h_al : h ≠ al := neM hc_h hc_al (by simp)
  have n_al_h : al ≠ h := neM hc_al hc_h (by simp)
  have hK_f : Ke f f := Ke.rf
  refine lv_aload_n hx hb dX10_find_0 rfl (lv_at hl 0 rfl) ?_
  refine lv_aload_n hx hb dX10_find_1 rfl (lv_at hl 0 rfl) ?_
  refine lv_iload_n hx hb dX10_find_2 rfl (lv_at hl 1 rfl) ?_
  refine lv_iload_n hx hb dX10_find_3 rfl (lv_at hl 2 rfl) ?_
  refine goI hK hH (runV (As := [.int bi, .int to]) (rest := [.ref h]) hC hK hH (c_X10_finds hc_h hn_h hc_al hn_al ht_mt ht_pa ht_li (by exact hR_f)) mlX10_137 (rcvM hK hH hc_h rfl) ⟨⟨Nat.le_of_ble_eq_true rfl, Nat.le_of_ble_eq_true rfl⟩, Nat.le_of_ble_eq_true rfl, Nat.le_of_ble_eq_true rfl⟩ rfl hl.1 rfl (Nat.le_of_ble_eq_true rfl) dX10_find_4) (fun rq3_ Mq1_ Tq2_ Hq_ lcq_ hP hz hH => ?_)
  try dsimp only at hP
  obtain ⟨gq4_, h_gq4_, (hx_al), eT, hfr⟩ := hP
  have eT := eT.symm; subst eT
  have hc_h : Mq1_ h = some (.inr (8, [.ref al, .ref mt, .ref ii, .int ta, .int fpm, .ref pa, .int sm, .int nx, .int tk, .int pl, .int ln, .long va, .int wr, .ref li])) := (hfr h (Or.inl hn_h) n_h_al).trans hc_h
  have hc_al : Mq1_ al = some (.inl (kA 0, 7506, .inl gq4_)) := hx_al
  have hF : ∀ q, FrK T q → q ≠ al → Mq1_ q = M q := fun q hq h0 => (hfr q hq  h0).trans (hF q hq h0)
  have hR_gq4_ : Rng gq4_ := h_gq4_.1
  have hK_gq4_ : Ke f gq4_ := hK_f.tr h_gq4_.2
  refine goI hK hH (runV (As := [.int rq3_]) (rest := []) hC hK hH (c_X10_told hc_h hn_h hc_al hn_al ht_mt ht_pa ht_li (by exact hR_gq4_)) mlX10_97 (rcvM hK hH hc_h rfl) ⟨⟨Nat.le_of_ble_eq_true rfl, Nat.le_of_ble_eq_true rfl⟩, Nat.le_of_ble_eq_true rfl, Nat.le_of_ble_eq_true rfl⟩ rfl hl.1 rfl (Nat.le_of_ble_eq_true rfl) dX10_find_7) (fun rq7_ Mq5_ Tq6_ Hq_ lcq_ hP hz hH => ?_)
  try dsimp only at hP
  obtain ⟨gq8_, h_gq8_, (⟨er_rq7_, hx_al⟩), eT, hfr⟩ := hP
  have eT := eT.symm; subst eT
  have er_rq7_ := er_rq7_.symm; subst er_rq7_
  have hc_h : Mq5_ h = some (.inr (8, [.ref al, .ref mt, .ref ii, .int ta, .int fpm, .ref pa, .int sm, .int nx, .int tk, .int pl, .int ln, .long va, .int wr, .ref li])) := (hfr h (Or.inl hn_h) n_h_al).trans hc_h
  have hc_al : Mq5_ al = some (.inl (kA 0, 7506, .inl gq8_)) := hx_al
  have hF : ∀ q, FrK T q → q ≠ al → Mq5_ q = M q := fun q hq h0 => (hfr q hq  h0).trans (hF q hq h0)
  have hR_gq8_ : Rng gq8_ := h_gq8_.1
  have hK_gq8_ : Ke f gq8_ := hK_gq4_.tr h_gq8_.2
  exact ret_i hC hr hlk hK hH (⟨gq8_, ⟨hR_gq8_, hK_gq8_⟩, hc_al, rfl, hF⟩) (Nat.le_of_ble_eq_true rfl) (Nat.le_of_ble_eq_true rfl) dX10_find_10
set_option maxHeartbeats 4000000 in
set_option maxRecDepth 100000 in
theorem c_X10_defend {l : Launch} {D : va_G} {kA : Nat → ClassId} {M : mM} {T : mT} {sz : Nat} {h al mt ii pa li : Nat} {ta fpm sm nx tk pl ln wr : Int32} {va : Int64} {f : Nat → Int32} {bi pt re : Int32} (hc_h : M h = some (.inr (8, [.ref al, .ref mt, .ref ii, .int ta, .int fpm, .ref pa, .int sm, .int nx, .int tk, .int pl, .int ln, .long va, .int wr, .ref li]))) (hn_h : T h = none) (hc_al : M al = some (.inl (kA 0, 7506, .inl f))) (hn_al : T al = none) (ht_mt : T mt = some 11) (ht_pa : T pa = some 13) (ht_li : T li = some 14) (hR_f : Rng f) : mCi l yX10_defend cX10_defend 4 (some .int) 5 0 0 D kA M T sz [.ref h, .int bi, .int pt, .int re] (fun r u => ∃ g : Nat → Int32, (Rng g ∧ Ke f g) ∧ (u.1 al = some (.inl (kA 0, 7506, .inl g))) ∧ u.2 = T ∧ (∀ q, FrK T q → q ≠ al → u.1 q = M q)) := by
  unfold mCi
  refine start_W (by decide) (Nat.le_of_ble_eq_true rfl) ?_
  intro p e s m below meth c ls hC hr hlk hnm hK hH hsz hl
  have hx := hC.1
  have hb := hC.2.1
  have hl : lv_has ls 4 [(0, .ref h), (1, .int bi), (2, .int pt), (3, .int re)] := hl
  have hF : ∀ q, FrK T q → q ≠ al → M q = M q := fun q _ _ => rfl
  have n_h_al : h ≠ al := neM hc_h hc_al (by simp)
  have n_al_h : al ≠ h := neM hc_al hc_h (by simp)
  have hK_f : Ke f f := Ke.rf
  refine lv_aload_n hx hb dX10_defend_0 rfl (lv_at hl 0 rfl) ?_
  refine lv_aload_n hx hb dX10_defend_1 rfl (lv_at hl 0 rfl) ?_
  refine lv_iload_n hx hb dX10_defend_2 rfl (lv_at hl 1 rfl) ?_
  refine lv_iload_n hx hb dX10_defend_3 rfl (lv_at hl 2 rfl) ?_
  refine lv_iload_n hx hb dX10_defend_4 rfl (lv_at hl 3 rfl) ?_
  refine goI hK hH (runV (As := [.int bi, .int pt, .int re]) (rest := [.ref h]) hC hK hH (c_X10_defends hc_h hn_h hc_al hn_al ht_mt ht_pa ht_li (by exact hR_f)) mlX10_146 (rcvM hK hH hc_h rfl) ⟨⟨Nat.le_of_ble_eq_true rfl, Nat.le_of_ble_eq_true rfl⟩, Nat.le_of_ble_eq_true rfl, Nat.le_of_ble_eq_true rfl⟩ rfl hl.1 rfl (Nat.le_of_ble_eq_true rfl) dX10_defend_5) (fun rq3_ Mq1_ Tq2_ Hq_ lcq_ hP hz hH => ?_)
  try dsimp only at hP
  obtain ⟨gq4_, h_gq4_, (hx_al), eT, hfr⟩ := hP
  have eT := eT.symm; subst eT
  have hc_h : Mq1_ h = some (.inr (8, [.ref al, .ref mt, .ref ii, .int ta, .int fpm, .ref pa, .int sm, .int nx, .int tk, .int pl, .int ln, .long va, .int wr, .ref li])) := (hfr h (Or.inl hn_h) n_h_al).trans hc_h
  have hc_al : Mq1_ al = some (.inl (kA 0, 7506, .inl gq4_)) := hx_al
  have hF : ∀ q, FrK T q → q ≠ al → Mq1_ q = M q := fun q hq h0 => (hfr q hq  h0).trans (hF q hq h0)
  have hR_gq4_ : Rng gq4_ := h_gq4_.1
  have hK_gq4_ : Ke f gq4_ := hK_f.tr h_gq4_.2
  refine goI hK hH (runV (As := [.int rq3_]) (rest := []) hC hK hH (c_X10_told hc_h hn_h hc_al hn_al ht_mt ht_pa ht_li (by exact hR_gq4_)) mlX10_97 (rcvM hK hH hc_h rfl) ⟨⟨Nat.le_of_ble_eq_true rfl, Nat.le_of_ble_eq_true rfl⟩, Nat.le_of_ble_eq_true rfl, Nat.le_of_ble_eq_true rfl⟩ rfl hl.1 rfl (Nat.le_of_ble_eq_true rfl) dX10_defend_8) (fun rq7_ Mq5_ Tq6_ Hq_ lcq_ hP hz hH => ?_)
  try dsimp only at hP
  obtain ⟨gq8_, h_gq8_, (⟨er_rq7_, hx_al⟩), eT, hfr⟩ := hP
  have eT := eT.symm; subst eT
  have er_rq7_ := er_rq7_.symm; subst er_rq7_
  have hc_h : Mq5_ h = some (.inr (8, [.ref al, .ref mt, .ref ii, .int ta, .int fpm, .ref pa, .int sm, .int nx, .int tk, .int pl, .int ln, .long va, .int wr, .ref li])) := (hfr h (Or.inl hn_h) n_h_al).trans hc_h
  have hc_al : Mq5_ al = some (.inl (kA 0, 7506, .inl gq8_)) := hx_al
  have hF : ∀ q, FrK T q → q ≠ al → Mq5_ q = M q := fun q hq h0 => (hfr q hq  h0).trans (hF q hq h0)
  have hR_gq8_ : Rng gq8_ := h_gq8_.1
  have hK_gq8_ : Ke f gq8_ := hK_gq4_.tr h_gq8_.2
  exact ret_i hC hr hlk hK hH (⟨gq8_, ⟨hR_gq8_, hK_gq8_⟩, hc_al, rfl, hF⟩) (Nat.le_of_ble_eq_true rfl) (Nat.le_of_ble_eq_true rfl) dX10_defend_11
set_option maxHeartbeats 4000000 in
set_option maxRecDepth 100000 in
theorem c_X10_present {l : Launch} {D : va_G} {kA : Nat → ClassId} {M : mM} {T : mT} {sz : Nat} {h al mt ii pa li : Nat} {ta fpm sm nx tk pl ln wr : Int32} {va : Int64} {f : Nat → Int32} {bi : Int32} (hc_h : M h = some (.inr (8, [.ref al, .ref mt, .ref ii, .int ta, .int fpm, .ref pa, .int sm, .int nx, .int tk, .int pl, .int ln, .long va, .int wr, .ref li]))) (hn_h : T h = none) (hc_al : M al = some (.inl (kA 0, 7506, .inl f))) (hn_al : T al = none) (ht_mt : T mt = some 11) (ht_pa : T pa = some 13) (ht_li : T li = some 14) (hR_f : Rng f) : mCi l yX10_present cX10_present 4 (some .int) 7 0 0 D kA M T sz [.ref h, .int bi] (fun r u => ∃ g : Nat → Int32, (Rng g ∧ Ke f g) ∧ (u.1 al = some (.inl (kA 0, 7506, .inl g))) ∧ u.2 = T ∧ (∀ q, FrK T q → q ≠ al → u.1 q = M q)) := by
  unfold mCi
  refine start_W (by decide) (Nat.le_of_ble_eq_true rfl) ?_
  intro p e s m below meth c ls hC hr hlk hnm hK hH hsz hl
  have hx := hC.1
  have hb := hC.2.1
  have hl : lv_has ls 4 [(0, .ref h), (1, .int bi)] := hl
  have hF : ∀ q, FrK T q → q ≠ al → M q = M q := fun q _ _ => rfl
  have n_h_al : h ≠ al := neM hc_h hc_al (by simp)
  have n_al_h : al ≠ h := neM hc_al hc_h (by simp)
  have hK_f : Ke f f := Ke.rf
  refine lv_aload_n hx hb dX10_present_0 rfl (lv_at hl 0 rfl) ?_
  refine lv_iload_n hx hb dX10_present_1 rfl (lv_at hl 1 rfl) ?_
  refine goI hK hH (runV (As := [.int bi]) (rest := []) hC hK hH (c_X10_presents hc_h hn_h hc_al hn_al ht_mt ht_pa ht_li (by exact hR_f)) mlX10_153 (rcvM hK hH hc_h rfl) ⟨⟨Nat.le_of_ble_eq_true rfl, Nat.le_of_ble_eq_true rfl⟩, Nat.le_of_ble_eq_true rfl, Nat.le_of_ble_eq_true rfl⟩ rfl hl.1 rfl (Nat.le_of_ble_eq_true rfl) dX10_present_2) (fun rq3_ Mq1_ Tq2_ Hq_ lcq_ hP hz hH => ?_)
  try dsimp only at hP
  obtain ⟨gq4_, h_gq4_, (hx_al), eT, hfr⟩ := hP
  have eT := eT.symm; subst eT
  have hc_h : Mq1_ h = some (.inr (8, [.ref al, .ref mt, .ref ii, .int ta, .int fpm, .ref pa, .int sm, .int nx, .int tk, .int pl, .int ln, .long va, .int wr, .ref li])) := (hfr h (Or.inl hn_h) n_h_al).trans hc_h
  have hc_al : Mq1_ al = some (.inl (kA 0, 7506, .inl gq4_)) := hx_al
  have hF : ∀ q, FrK T q → q ≠ al → Mq1_ q = M q := fun q hq h0 => (hfr q hq  h0).trans (hF q hq h0)
  have hR_gq4_ : Rng gq4_ := h_gq4_.1
  have hK_gq4_ : Ke f gq4_ := hK_f.tr h_gq4_.2
  refine lv_istore_n (lv' := [(2, .int rq3_), (0, .ref h), (1, .int bi)]) hx hb dX10_present_5 rfl hl (by decide) rfl (fun ls hl => ?_)
  refine lv_aload_n hx hb dX10_present_6 rfl (lv_at hl 1 rfl) ?_
  refine lv_iload_n hx hb dX10_present_7 rfl (lv_at hl 0 rfl) ?_
  refine lv_iconst (v := 1) hx hb dX10_present_8 (by decide) ?_
  refine jic_le (tgt := 16) hx hb dX10_present_9 (by decide) (fun cq5_ => ?_) (fun cq5_ => ?_)
  · skip
    have cq5_ : rq3_.toInt ≤ 1 := cq5_
    refine lv_iconst (v := 0) hx hb dX10_present_16 (by decide) ?_
    refine goI hK hH (runV (As := [.int 0]) (rest := []) hC hK hH (c_X10_told hc_h hn_h hc_al hn_al ht_mt ht_pa ht_li (by exact hR_gq4_)) mlX10_97 (rcvM hK hH hc_h rfl) ⟨⟨Nat.le_of_ble_eq_true rfl, Nat.le_of_ble_eq_true rfl⟩, Nat.le_of_ble_eq_true rfl, Nat.le_of_ble_eq_true rfl⟩ rfl hl.1 rfl (Nat.le_of_ble_eq_true rfl) dX10_present_17) (fun rq8_ Mq6_ Tq7_ Hq_ lcq_ hP hz hH => ?_)
    try dsimp only at hP
    obtain ⟨gq9_, h_gq9_, (⟨er_rq8_, hx_al⟩), eT, hfr⟩ := hP
    have eT := eT.symm; subst eT
    have er_rq8_ := er_rq8_.symm; subst er_rq8_
    have hc_h : Mq6_ h = some (.inr (8, [.ref al, .ref mt, .ref ii, .int ta, .int fpm, .ref pa, .int sm, .int nx, .int tk, .int pl, .int ln, .long va, .int wr, .ref li])) := (hfr h (Or.inl hn_h) n_h_al).trans hc_h
    have hc_al : Mq6_ al = some (.inl (kA 0, 7506, .inl gq9_)) := hx_al
    have hF : ∀ q, FrK T q → q ≠ al → Mq6_ q = M q := fun q hq h0 => (hfr q hq  h0).trans (hF q hq h0)
    have hR_gq9_ : Rng gq9_ := h_gq9_.1
    have hK_gq9_ : Ke f gq9_ := hK_gq4_.tr h_gq9_.2
    refine lv_istore_n (lv' := [(3, .int 0), (2, .int rq3_), (0, .ref h), (1, .int bi)]) hx hb dX10_present_20 rfl hl (by decide) rfl (fun ls hl => ?_)
    refine lv_iload_n hx hb dX10_present_21 rfl (lv_at hl 1 rfl) ?_
    exact ret_i hC hr hlk hK hH (⟨gq9_, ⟨hR_gq9_, hK_gq9_⟩, hc_al, rfl, hF⟩) (Nat.le_of_ble_eq_true rfl) (Nat.le_of_ble_eq_true rfl) dX10_present_22
  · skip
    have cq5_ : 1 < rq3_.toInt := cq5_
    refine lv_iload_n hx hb dX10_present_12 rfl (lv_at hl 0 rfl) ?_
    refine lv_goto (tgt := 17) hx hb dX10_present_13 (by decide) ?_
    refine goI hK hH (runV (As := [.int rq3_]) (rest := []) hC hK hH (c_X10_told hc_h hn_h hc_al hn_al ht_mt ht_pa ht_li (by exact hR_gq4_)) mlX10_97 (rcvM hK hH hc_h rfl) ⟨⟨Nat.le_of_ble_eq_true rfl, Nat.le_of_ble_eq_true rfl⟩, Nat.le_of_ble_eq_true rfl, Nat.le_of_ble_eq_true rfl⟩ rfl hl.1 rfl (Nat.le_of_ble_eq_true rfl) dX10_present_17) (fun rq12_ Mq10_ Tq11_ Hq_ lcq_ hP hz hH => ?_)
    try dsimp only at hP
    obtain ⟨gq13_, h_gq13_, (⟨er_rq12_, hx_al⟩), eT, hfr⟩ := hP
    have eT := eT.symm; subst eT
    have er_rq12_ := er_rq12_.symm; subst er_rq12_
    have hc_h : Mq10_ h = some (.inr (8, [.ref al, .ref mt, .ref ii, .int ta, .int fpm, .ref pa, .int sm, .int nx, .int tk, .int pl, .int ln, .long va, .int wr, .ref li])) := (hfr h (Or.inl hn_h) n_h_al).trans hc_h
    have hc_al : Mq10_ al = some (.inl (kA 0, 7506, .inl gq13_)) := hx_al
    have hF : ∀ q, FrK T q → q ≠ al → Mq10_ q = M q := fun q hq h0 => (hfr q hq  h0).trans (hF q hq h0)
    have hR_gq13_ : Rng gq13_ := h_gq13_.1
    have hK_gq13_ : Ke f gq13_ := hK_gq4_.tr h_gq13_.2
    refine lv_istore_n (lv' := [(3, .int rq3_), (2, .int rq3_), (0, .ref h), (1, .int bi)]) hx hb dX10_present_20 rfl hl (by decide) rfl (fun ls hl => ?_)
    refine lv_iload_n hx hb dX10_present_21 rfl (lv_at hl 1 rfl) ?_
    exact ret_i hC hr hlk hK hH (⟨gq13_, ⟨hR_gq13_, hK_gq13_⟩, hc_al, rfl, hF⟩) (Nat.le_of_ble_eq_true rfl) (Nat.le_of_ble_eq_true rfl) dX10_present_22
set_option maxHeartbeats 4000000 in
set_option maxRecDepth 100000 in
theorem c_X10_tell {l : Launch} {D : va_G} {kA : Nat → ClassId} {M : mM} {T : mT} {sz : Nat} {h al mt ii pa li : Nat} {ta fpm sm nx tk pl ln wr : Int32} {va : Int64} {f : Nat → Int32} {bi fr to : Int32} (hc_h : M h = some (.inr (8, [.ref al, .ref mt, .ref ii, .int ta, .int fpm, .ref pa, .int sm, .int nx, .int tk, .int pl, .int ln, .long va, .int wr, .ref li]))) (hn_h : T h = none) (hc_al : M al = some (.inl (kA 0, 7506, .inl f))) (hn_al : T al = none) (ht_mt : T mt = some 11) (ht_pa : T pa = some 13) (ht_li : T li = some 14) (hR_f : Rng f) : mCi l yX10_tell cX10_tell 4 (some .int) 5 0 0 D kA M T sz [.ref h, .int bi, .int fr, .int to] (fun r u => ∃ g : Nat → Int32, (Rng g ∧ Ke f g) ∧ (u.1 al = some (.inl (kA 0, 7506, .inl g))) ∧ u.2 = T ∧ (∀ q, FrK T q → q ≠ al → u.1 q = M q)) := by
  unfold mCi
  refine start_W (by decide) (Nat.le_of_ble_eq_true rfl) ?_
  intro p e s m below meth c ls hC hr hlk hnm hK hH hsz hl
  have hx := hC.1
  have hb := hC.2.1
  have hl : lv_has ls 4 [(0, .ref h), (1, .int bi), (2, .int fr), (3, .int to)] := hl
  have hF : ∀ q, FrK T q → q ≠ al → M q = M q := fun q _ _ => rfl
  have n_h_al : h ≠ al := neM hc_h hc_al (by simp)
  have n_al_h : al ≠ h := neM hc_al hc_h (by simp)
  have hK_f : Ke f f := Ke.rf
  refine lv_aload_n hx hb dX10_tell_0 rfl (lv_at hl 0 rfl) ?_
  refine lv_aload_n hx hb dX10_tell_1 rfl (lv_at hl 0 rfl) ?_
  refine lv_iload_n hx hb dX10_tell_2 rfl (lv_at hl 1 rfl) ?_
  refine lv_iload_n hx hb dX10_tell_3 rfl (lv_at hl 2 rfl) ?_
  refine lv_iload_n hx hb dX10_tell_4 rfl (lv_at hl 3 rfl) ?_
  refine goI hK hH (runV (As := [.int bi, .int fr, .int to]) (rest := [.ref h]) hC hK hH (c_X10_notifies hc_h hn_h hc_al hn_al ht_mt ht_pa ht_li (by exact hR_f)) mlX10_156 (rcvM hK hH hc_h rfl) ⟨⟨Nat.le_of_ble_eq_true rfl, Nat.le_of_ble_eq_true rfl⟩, Nat.le_of_ble_eq_true rfl, Nat.le_of_ble_eq_true rfl⟩ rfl hl.1 rfl (Nat.le_of_ble_eq_true rfl) dX10_tell_5) (fun rq3_ Mq1_ Tq2_ Hq_ lcq_ hP hz hH => ?_)
  try dsimp only at hP
  obtain ⟨gq4_, h_gq4_, (hx_al), eT, hfr⟩ := hP
  have eT := eT.symm; subst eT
  have hc_h : Mq1_ h = some (.inr (8, [.ref al, .ref mt, .ref ii, .int ta, .int fpm, .ref pa, .int sm, .int nx, .int tk, .int pl, .int ln, .long va, .int wr, .ref li])) := (hfr h (Or.inl hn_h) n_h_al).trans hc_h
  have hc_al : Mq1_ al = some (.inl (kA 0, 7506, .inl gq4_)) := hx_al
  have hF : ∀ q, FrK T q → q ≠ al → Mq1_ q = M q := fun q hq h0 => (hfr q hq  h0).trans (hF q hq h0)
  have hR_gq4_ : Rng gq4_ := h_gq4_.1
  have hK_gq4_ : Ke f gq4_ := hK_f.tr h_gq4_.2
  refine goI hK hH (runV (As := [.int rq3_]) (rest := []) hC hK hH (c_X10_told hc_h hn_h hc_al hn_al ht_mt ht_pa ht_li (by exact hR_gq4_)) mlX10_97 (rcvM hK hH hc_h rfl) ⟨⟨Nat.le_of_ble_eq_true rfl, Nat.le_of_ble_eq_true rfl⟩, Nat.le_of_ble_eq_true rfl, Nat.le_of_ble_eq_true rfl⟩ rfl hl.1 rfl (Nat.le_of_ble_eq_true rfl) dX10_tell_8) (fun rq7_ Mq5_ Tq6_ Hq_ lcq_ hP hz hH => ?_)
  try dsimp only at hP
  obtain ⟨gq8_, h_gq8_, (⟨er_rq7_, hx_al⟩), eT, hfr⟩ := hP
  have eT := eT.symm; subst eT
  have er_rq7_ := er_rq7_.symm; subst er_rq7_
  have hc_h : Mq5_ h = some (.inr (8, [.ref al, .ref mt, .ref ii, .int ta, .int fpm, .ref pa, .int sm, .int nx, .int tk, .int pl, .int ln, .long va, .int wr, .ref li])) := (hfr h (Or.inl hn_h) n_h_al).trans hc_h
  have hc_al : Mq5_ al = some (.inl (kA 0, 7506, .inl gq8_)) := hx_al
  have hF : ∀ q, FrK T q → q ≠ al → Mq5_ q = M q := fun q hq h0 => (hfr q hq  h0).trans (hF q hq h0)
  have hR_gq8_ : Rng gq8_ := h_gq8_.1
  have hK_gq8_ : Ke f gq8_ := hK_gq4_.tr h_gq8_.2
  exact ret_i hC hr hlk hK hH (⟨gq8_, ⟨hR_gq8_, hK_gq8_⟩, hc_al, rfl, hF⟩) (Nat.le_of_ble_eq_true rfl) (Nat.le_of_ble_eq_true rfl) dX10_tell_11
set_option maxHeartbeats 4000000 in
set_option maxRecDepth 100000 in
theorem c_X10_release {l : Launch} {D : va_G} {kA : Nat → ClassId} {M : mM} {T : mT} {sz : Nat} {h al mt ii pa li : Nat} {ta fpm sm nx tk pl ln wr : Int32} {va : Int64} {f : Nat → Int32} {bi pt : Int32} (hc_h : M h = some (.inr (8, [.ref al, .ref mt, .ref ii, .int ta, .int fpm, .ref pa, .int sm, .int nx, .int tk, .int pl, .int ln, .long va, .int wr, .ref li]))) (hn_h : T h = none) (hc_al : M al = some (.inl (kA 0, 7506, .inl f))) (hn_al : T al = none) (ht_mt : T mt = some 11) (ht_pa : T pa = some 13) (ht_li : T li = some 14) (hR_f : Rng f) : mCi l yX10_release cX10_release 3 (some .int) 5 0 0 D kA M T sz [.ref h, .int bi, .int pt] (fun r u => ∃ g : Nat → Int32, (Rng g ∧ Ke f g) ∧ (u.1 al = some (.inl (kA 0, 7506, .inl g))) ∧ u.2 = T ∧ (∀ q, FrK T q → q ≠ al → u.1 q = M q)) := by
  unfold mCi
  refine start_W (by decide) (Nat.le_of_ble_eq_true rfl) ?_
  intro p e s m below meth c ls hC hr hlk hnm hK hH hsz hl
  have hx := hC.1
  have hb := hC.2.1
  have hl : lv_has ls 3 [(0, .ref h), (1, .int bi), (2, .int pt)] := hl
  have hF : ∀ q, FrK T q → q ≠ al → M q = M q := fun q _ _ => rfl
  have n_h_al : h ≠ al := neM hc_h hc_al (by simp)
  have n_al_h : al ≠ h := neM hc_al hc_h (by simp)
  have hK_f : Ke f f := Ke.rf
  refine lv_aload_n hx hb dX10_release_0 rfl (lv_at hl 0 rfl) ?_
  refine lv_aload_n hx hb dX10_release_1 rfl (lv_at hl 0 rfl) ?_
  refine lv_iload_n hx hb dX10_release_2 rfl (lv_at hl 1 rfl) ?_
  refine lv_iload_n hx hb dX10_release_3 rfl (lv_at hl 2 rfl) ?_
  refine goI hK hH (runV (As := [.int bi, .int pt]) (rest := [.ref h]) hC hK hH (c_X10_releases hc_h hn_h hc_al hn_al ht_mt ht_pa ht_li (by exact hR_f)) mlX10_159 (rcvM hK hH hc_h rfl) ⟨⟨Nat.le_of_ble_eq_true rfl, Nat.le_of_ble_eq_true rfl⟩, Nat.le_of_ble_eq_true rfl, Nat.le_of_ble_eq_true rfl⟩ rfl hl.1 rfl (Nat.le_of_ble_eq_true rfl) dX10_release_4) (fun rq3_ Mq1_ Tq2_ Hq_ lcq_ hP hz hH => ?_)
  try dsimp only at hP
  obtain ⟨gq4_, h_gq4_, (hx_al), eT, hfr⟩ := hP
  have eT := eT.symm; subst eT
  have hc_h : Mq1_ h = some (.inr (8, [.ref al, .ref mt, .ref ii, .int ta, .int fpm, .ref pa, .int sm, .int nx, .int tk, .int pl, .int ln, .long va, .int wr, .ref li])) := (hfr h (Or.inl hn_h) n_h_al).trans hc_h
  have hc_al : Mq1_ al = some (.inl (kA 0, 7506, .inl gq4_)) := hx_al
  have hF : ∀ q, FrK T q → q ≠ al → Mq1_ q = M q := fun q hq h0 => (hfr q hq  h0).trans (hF q hq h0)
  have hR_gq4_ : Rng gq4_ := h_gq4_.1
  have hK_gq4_ : Ke f gq4_ := hK_f.tr h_gq4_.2
  refine goI hK hH (runV (As := [.int rq3_]) (rest := []) hC hK hH (c_X10_told hc_h hn_h hc_al hn_al ht_mt ht_pa ht_li (by exact hR_gq4_)) mlX10_97 (rcvM hK hH hc_h rfl) ⟨⟨Nat.le_of_ble_eq_true rfl, Nat.le_of_ble_eq_true rfl⟩, Nat.le_of_ble_eq_true rfl, Nat.le_of_ble_eq_true rfl⟩ rfl hl.1 rfl (Nat.le_of_ble_eq_true rfl) dX10_release_7) (fun rq7_ Mq5_ Tq6_ Hq_ lcq_ hP hz hH => ?_)
  try dsimp only at hP
  obtain ⟨gq8_, h_gq8_, (⟨er_rq7_, hx_al⟩), eT, hfr⟩ := hP
  have eT := eT.symm; subst eT
  have er_rq7_ := er_rq7_.symm; subst er_rq7_
  have hc_h : Mq5_ h = some (.inr (8, [.ref al, .ref mt, .ref ii, .int ta, .int fpm, .ref pa, .int sm, .int nx, .int tk, .int pl, .int ln, .long va, .int wr, .ref li])) := (hfr h (Or.inl hn_h) n_h_al).trans hc_h
  have hc_al : Mq5_ al = some (.inl (kA 0, 7506, .inl gq8_)) := hx_al
  have hF : ∀ q, FrK T q → q ≠ al → Mq5_ q = M q := fun q hq h0 => (hfr q hq  h0).trans (hF q hq h0)
  have hR_gq8_ : Rng gq8_ := h_gq8_.1
  have hK_gq8_ : Ke f gq8_ := hK_gq4_.tr h_gq8_.2
  exact ret_i hC hr hlk hK hH (⟨gq8_, ⟨hR_gq8_, hK_gq8_⟩, hc_al, rfl, hF⟩) (Nat.le_of_ble_eq_true rfl) (Nat.le_of_ble_eq_true rfl) dX10_release_10
set_option maxHeartbeats 4000000 in
set_option maxRecDepth 100000 in
theorem c_X10_pay {l : Launch} {D : va_G} {kA : Nat → ClassId} {M : mM} {T : mT} {sz : Nat} {h al mt ii pa li : Nat} {ta fpm sm nx tk pl ln wr : Int32} {va : Int64} {f : Nat → Int32} {bi pt : Int32} (hc_h : M h = some (.inr (8, [.ref al, .ref mt, .ref ii, .int ta, .int fpm, .ref pa, .int sm, .int nx, .int tk, .int pl, .int ln, .long va, .int wr, .ref li]))) (hn_h : T h = none) (hc_al : M al = some (.inl (kA 0, 7506, .inl f))) (hn_al : T al = none) (ht_mt : T mt = some 11) (ht_pa : T pa = some 13) (ht_li : T li = some 14) (hR_f : Rng f) : mCi l yX10_pay cX10_pay 3 (some .int) 7 0 0 D kA M T sz [.ref h, .int bi, .int pt] (fun r u => ∃ g : Nat → Int32, (Rng g ∧ Ke f g) ∧ (u.1 al = some (.inl (kA 0, 7506, .inl g))) ∧ u.2 = T ∧ (∀ q, FrK T q → q ≠ al → u.1 q = M q)) := by
  unfold mCi
  refine start_W (by decide) (Nat.le_of_ble_eq_true rfl) ?_
  intro p e s m below meth c ls hC hr hlk hnm hK hH hsz hl
  have hx := hC.1
  have hb := hC.2.1
  have hl : lv_has ls 3 [(0, .ref h), (1, .int bi), (2, .int pt)] := hl
  have hF : ∀ q, FrK T q → q ≠ al → M q = M q := fun q _ _ => rfl
  have n_h_al : h ≠ al := neM hc_h hc_al (by simp)
  have n_al_h : al ≠ h := neM hc_al hc_h (by simp)
  have hK_f : Ke f f := Ke.rf
  refine lv_aload_n hx hb dX10_pay_0 rfl (lv_at hl 0 rfl) ?_
  refine lv_aload_n hx hb dX10_pay_1 rfl (lv_at hl 0 rfl) ?_
  refine lv_iload_n hx hb dX10_pay_2 rfl (lv_at hl 1 rfl) ?_
  refine lv_iload_n hx hb dX10_pay_3 rfl (lv_at hl 2 rfl) ?_
  refine goI hK hH (runV (As := [.int bi, .int pt]) (rest := [.ref h]) hC hK hH (c_X10_paysNow hc_h hn_h hc_al hn_al ht_mt ht_pa ht_li (by exact hR_f)) mlX10_162 (rcvM hK hH hc_h rfl) ⟨⟨Nat.le_of_ble_eq_true rfl, Nat.le_of_ble_eq_true rfl⟩, Nat.le_of_ble_eq_true rfl, Nat.le_of_ble_eq_true rfl⟩ rfl hl.1 rfl (Nat.le_of_ble_eq_true rfl) dX10_pay_4) (fun rq3_ Mq1_ Tq2_ Hq_ lcq_ hP hz hH => ?_)
  try dsimp only at hP
  obtain ⟨gq4_, h_gq4_, (hx_al), eT, hfr⟩ := hP
  have eT := eT.symm; subst eT
  have hc_h : Mq1_ h = some (.inr (8, [.ref al, .ref mt, .ref ii, .int ta, .int fpm, .ref pa, .int sm, .int nx, .int tk, .int pl, .int ln, .long va, .int wr, .ref li])) := (hfr h (Or.inl hn_h) n_h_al).trans hc_h
  have hc_al : Mq1_ al = some (.inl (kA 0, 7506, .inl gq4_)) := hx_al
  have hF : ∀ q, FrK T q → q ≠ al → Mq1_ q = M q := fun q hq h0 => (hfr q hq  h0).trans (hF q hq h0)
  have hR_gq4_ : Rng gq4_ := h_gq4_.1
  have hK_gq4_ : Ke f gq4_ := hK_f.tr h_gq4_.2
  refine goI hK hH (runV (As := [.int rq3_]) (rest := []) hC hK hH (c_X10_told hc_h hn_h hc_al hn_al ht_mt ht_pa ht_li (by exact hR_gq4_)) mlX10_97 (rcvM hK hH hc_h rfl) ⟨⟨Nat.le_of_ble_eq_true rfl, Nat.le_of_ble_eq_true rfl⟩, Nat.le_of_ble_eq_true rfl, Nat.le_of_ble_eq_true rfl⟩ rfl hl.1 rfl (Nat.le_of_ble_eq_true rfl) dX10_pay_7) (fun rq7_ Mq5_ Tq6_ Hq_ lcq_ hP hz hH => ?_)
  try dsimp only at hP
  obtain ⟨gq8_, h_gq8_, (⟨er_rq7_, hx_al⟩), eT, hfr⟩ := hP
  have eT := eT.symm; subst eT
  have er_rq7_ := er_rq7_.symm; subst er_rq7_
  have hc_h : Mq5_ h = some (.inr (8, [.ref al, .ref mt, .ref ii, .int ta, .int fpm, .ref pa, .int sm, .int nx, .int tk, .int pl, .int ln, .long va, .int wr, .ref li])) := (hfr h (Or.inl hn_h) n_h_al).trans hc_h
  have hc_al : Mq5_ al = some (.inl (kA 0, 7506, .inl gq8_)) := hx_al
  have hF : ∀ q, FrK T q → q ≠ al → Mq5_ q = M q := fun q hq h0 => (hfr q hq  h0).trans (hF q hq h0)
  have hR_gq8_ : Rng gq8_ := h_gq8_.1
  have hK_gq8_ : Ke f gq8_ := hK_gq4_.tr h_gq8_.2
  exact ret_i hC hr hlk hK hH (⟨gq8_, ⟨hR_gq8_, hK_gq8_⟩, hc_al, rfl, hF⟩) (Nat.le_of_ble_eq_true rfl) (Nat.le_of_ble_eq_true rfl) dX10_pay_10
