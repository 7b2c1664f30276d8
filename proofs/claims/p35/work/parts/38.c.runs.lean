set_option maxHeartbeats 4000000 in
set_option maxRecDepth 100000 in
theorem c_X10_copies {l : Launch} {D : va_G} {kA : Nat → ClassId} {M : mM} {T : mT} {sz : Nat} {h al mt ii pa li : Nat} {ta fpm sm nx tk pl ln wr : Int32} {va : Int64} {f : Nat → Int32} {fr to : Int32} {frn ton : Nat} (hc_h : M h = some (.inr (8, [.ref al, .ref mt, .ref ii, .int ta, .int fpm, .ref pa, .int sm, .int nx, .int tk, .int pl, .int ln, .long va, .int wr, .ref li]))) (hn_h : T h = none) (hc_al : M al = some (.inl (kA 0, 7506, .inl f))) (hn_al : T al = none) (ht_mt : T mt = some 11) (ht_pa : T pa = some 13) (ht_li : T li = some 14) (hR_f : Rng f) (hfr1 : fr.toInt = (frn : Int)) (hto1 : to.toInt = (ton : Int)) (hfr2 : frn = 0 ∨ frn = 1140 ∨ frn = 2280 ∨ frn = 4022 ∨ frn = 5764) (hto2 : ton = 0 ∨ ton = 1140 ∨ ton = 2280 ∨ ton = 4022 ∨ ton = 5764) : mCv l yX10_copies cX10_copies 4 0 0 0 D kA M T sz [.ref h, .int fr, .int to] (fun u => ∃ g : Nat → Int32, (Rng g ∧ KeR f g ton (ton + 1140)) ∧ (u.1 al = some (.inl (kA 0, 7506, .inl g))) ∧ u.2 = T ∧ (∀ q, FrK T q → q ≠ al → u.1 q = M q)) := by
  unfold mCv
  refine start_W (by decide) (Nat.le_of_ble_eq_true rfl) ?_
  intro p e s m below meth c ls hC hr hlk hnm hK hH hsz hl
  have hx := hC.1
  have hb := hC.2.1
  have hl : lv_has ls 4 [(0, .ref h), (1, .int fr), (2, .int to)] := hl
  have hF : ∀ q, FrK T q → q ≠ al → M q = M q := fun q _ _ => rfl
  have n_h_al : h ≠ al := neM hc_h hc_al (by simp)
  have n_al_h : al ≠ h := neM hc_al hc_h (by simp)
  have hK_f : KeR f f ton (ton + 1140) := KeR.rf
  refine lv_iconst (v := 0) hx hb dX10_copies_0 (by decide) ?_
  refine lv_istore_n (lv' := [(3, .int 0), (0, .ref h), (1, .int fr), (2, .int to)]) hx hb dX10_copies_1 rfl hl (by decide) rfl (fun ls hl => ?_)
  have loop : ∀ (n : Nat) (yq1_ : Int32) (Fq3_ : Nat → Int32) (Hq_ : Heap) (lcq_ : List Loc) (Mq2_ : mM) (ls : Array Slot), 1141 - yq1_.toInt ≤ (n : Int) → (0 : Int) ≤ yq1_.toInt → yq1_.toInt ≤ 1140 → Rng Fq3_ → KeR f Fq3_ ton (ton + 1140) → Mq2_ h = some (.inr (8, [.ref al, .ref mt, .ref ii, .int ta, .int fpm, .ref pa, .int sm, .int nx, .int tk, .int pl, .int ln, .long va, .int wr, .ref li])) → Mq2_ al = some (.inl (kA 0, 7506, .inl Fq3_)) → (∀ q, FrK T q → q ≠ al → Mq2_ q = M q) → mS D kA Mq2_ T (mA M T sz) s.heap Hq_ lcq_ → lv_has ls 4 [(3, .int yq1_), (0, .ref h), (1, .int fr), (2, .int to)] → W p l e (rmL 0 0 0) s m ([.ref h, .int fr, .int to] : List Value).toArray below meth c Hq_ lcq_ 0 0 (MQ below (va_Qv (fun u => ∃ g : Nat → Int32, (Rng g ∧ KeR f g ton (ton + 1140)) ∧ (u.1 al = some (.inl (kA 0, 7506, .inl g))) ∧ u.2 = T ∧ (∀ q, FrK T q → q ≠ al → u.1 q = M q)) (mB D kA M T sz) (mA M T sz)) ([.ref h, .int fr, .int to] : List Value).toArray s 0 0 (mA M T sz)) (F0 m 2 ls []) := by
    intro n
    induction n with
    | zero =>
      intro yq1_ Fq3_ Hq_ lcq_ Mq2_ ls hme l_yq1_ g_yq1_ hR_Fq3_ hK_Fq3_ hc_h hc_al hF hH hl
      exfalso; omega
    | succ n ih =>
      intro yq1_ Fq3_ Hq_ lcq_ Mq2_ ls hme l_yq1_ g_yq1_ hR_Fq3_ hK_Fq3_ hc_h hc_al hF hH hl
      refine lv_iload_n hx hb dX10_copies_2 rfl (lv_at hl 0 rfl) ?_
      refine lv_sipush (v := 1140) hx hb dX10_copies_3 (by decide) ?_
      refine jic_ge (tgt := 31) hx hb dX10_copies_6 (by decide) (fun cq4_ => ?_) (fun cq4_ => ?_)
      · skip
        have cq4_ : 1140 ≤ yq1_.toInt := cq4_
        exact ret_v hC hr hlk hK hH (⟨Fq3_, ⟨hR_Fq3_, hK_Fq3_⟩, hc_al, rfl, hF⟩) (Nat.le_of_ble_eq_true rfl) (Nat.le_of_ble_eq_true rfl) dX10_copies_31
      · skip
        have cq4_ : yq1_.toInt < 1140 := cq4_
        refine lv_aload_n hx hb dX10_copies_9 rfl (lv_at hl 1 rfl) ?_
        refine xg hC hK hH flX10_7 hc_h rfl dX10_copies_10 ?_
        refine lv_iload_n hx hb dX10_copies_13 rfl (lv_at hl 3 rfl) ?_
        refine lv_iload_n hx hb dX10_copies_14 rfl (lv_at hl 0 rfl) ?_
        refine lv_iadd hx hb dX10_copies_15 ?_
        refine lv_topi (fun zq5_ e_zq5_ => ?_)
        have h_zq5_ : zq5_.toInt = to.toInt + yq1_.toInt := by rw [e_zq5_, iAdd (by have := iRg to; have := iRg yq1_; omega) (by have := iRg to; have := iRg yq1_; omega)]
        refine lv_aload_n hx hb dX10_copies_16 rfl (lv_at hl 1 rfl) ?_
        refine xg hC hK hH flX10_7 hc_h rfl dX10_copies_17 ?_
        refine lv_iload_n hx hb dX10_copies_20 rfl (lv_at hl 2 rfl) ?_
        refine lv_iload_n hx hb dX10_copies_21 rfl (lv_at hl 0 rfl) ?_
        refine lv_iadd hx hb dX10_copies_22 ?_
        refine lv_topi (fun zq6_ e_zq6_ => ?_)
        have h_zq6_ : zq6_.toInt = fr.toInt + yq1_.toInt := by rw [e_zq6_, iAdd (by have := iRg fr; have := iRg yq1_; omega) (by have := iRg fr; have := iRg yq1_; omega)]
        refine xild hC hK hH hc_al (iIn (by omega) (by omega)) dX10_copies_23 ?_
        refine lv_topi (fun xq7_ e_xq7_ => ?_)
        refine yist (x := xq7_) hC hK hH hc_al (noT hn_al) (iIn (by omega) (by omega)) dX10_copies_24 (fun Hq_ lcq_ Mq8_ hc_al hfr hH => ?_)
        have hc_al : Mq8_ al = some (.inl (kA 0, 7506, .inl (upd Fq3_ (Int32.toNatClampNeg zq5_) xq7_))) := hc_al
        have hc_h : Mq8_ h = some (.inr (8, [.ref al, .ref mt, .ref ii, .int ta, .int fpm, .ref pa, .int sm, .int nx, .int tk, .int pl, .int ln, .long va, .int wr, .ref li])) := (hfr h n_h_al).trans hc_h
        have hF : ∀ q, FrK T q → q ≠ al → Mq8_ q = M q := fun q hq h0 => (hfr q h0).trans (hF q hq h0)
        obtain ⟨gq9_, e_gq9_⟩ : ∃ g : Nat → Int32, g = upd Fq3_ (Int32.toNatClampNeg zq5_) xq7_ := ⟨_, rfl⟩
        rw [← e_gq9_] at hc_al
        obtain ⟨nq10_, hn_nq10_⟩ : ∃ n : Nat, yq1_.toInt = (n : Int) := ⟨(yq1_.toInt).toNat, by omega⟩
        have hR_gq9_ : Rng gq9_ := by rw [e_gq9_]; exact hR_Fq3_.uC (j := frn + nq10_) (by rw [e_xq7_, clE (n := frn + nq10_) (by omega)]) (by omega) (by rw [clE (n := ton + nq10_) (by omega), rgRB hto2 (by omega), rgRB hfr2 (by omega)])
        have hK_gq9_ : KeR f gq9_ ton (ton + 1140) := by rw [e_gq9_]; exact hK_Fq3_.up (by have := iCl (x := zq5_) (by omega); omega) (by have := iCl (x := zq5_) (by omega); omega)
        obtain ⟨zq11_, e_zq11_⟩ : ∃ y : Int32, y = yq1_ + 1 := ⟨_, rfl⟩
        refine lv_iinc (v := zq11_) (lv' := [(3, .int zq11_), (0, .ref h), (1, .int fr), (2, .int to)]) hx hb dX10_copies_25 hl (k := 0) rfl (by rw [e_zq11_]; rfl) (by decide) rfl (fun ls hl => ?_)
        have h_zq11_ : zq11_.toInt = yq1_.toInt + 1 := by rw [e_zq11_, iAdd (by have : (1 : Int32).toInt = 1 := rfl; omega) (by have : (1 : Int32).toInt = 1 := rfl; omega)]; rfl
        refine lv_goto (tgt := 2) hx hb dX10_copies_28 (by decide) ?_
        exact ih zq11_ gq9_ _ _ _ ls (by have := iRg zq11_; omega) (by have := iRg zq11_; omega) (by have := iRg zq11_; omega) hR_gq9_ hK_gq9_ hc_h hc_al hF hH (lv_sub hl [0, 1, 2, 3] rfl)
  exact loop (Int.toNat (1141 - 0)) 0 f _ _ _ ls (by have : (0 : Int32).toInt = 0 := rfl; omega) (by have : (0 : Int32).toInt = 0 := rfl; omega) (by have : (0 : Int32).toInt = 0 := rfl; omega) hR_f hK_f hc_h hc_al hF hH hl
set_option maxHeartbeats 4000000 in
set_option maxRecDepth 100000 in
theorem c_X10_runs {l : Launch} {D : va_G} {kA : Nat → ClassId} {M : mM} {T : mT} {sz : Nat} {h al mt ii pa li : Nat} {ta fpm sm nx tk pl ln wr : Int32} {va : Int64} {f : Nat → Int32} {bi : Int32} (hc_h : M h = some (.inr (8, [.ref al, .ref mt, .ref ii, .int ta, .int fpm, .ref pa, .int sm, .int nx, .int tk, .int pl, .int ln, .long va, .int wr, .ref li]))) (hn_h : T h = none) (hc_al : M al = some (.inl (kA 0, 7506, .inl f))) (hn_al : T al = none) (ht_mt : T mt = some 11) (ht_pa : T pa = some 13) (ht_li : T li = some 14) (hR_f : Rng f) (hbi : 0 ≤ bi.toInt ∧ bi.toInt ≤ 3) : mCi l yX10_runs cX10_runs 6 (some .int) 7 0 0 D kA M T sz [.ref h, .int bi] (fun r u => ∃ g : Nat → Int32, (Rng g ∧ Ke f g) ∧ ((((0 : Int) ≤ r.toInt ∧ r.toInt ≤ 14)) ∧ u.1 al = some (.inl (kA 0, 7506, .inl g))) ∧ u.2 = T ∧ (∀ q, FrK T q → q ≠ al → u.1 q = M q)) := by
  unfold mCi
  refine start_W (by decide) (Nat.le_of_ble_eq_true rfl) ?_
  intro p e s m below meth c ls hC hr hlk hnm hK hH hsz hl
  have hx := hC.1
  have hb := hC.2.1
  have hl : lv_has ls 6 [(0, .ref h), (1, .int bi)] := hl
  have hF : ∀ q, FrK T q → q ≠ al → M q = M q := fun q _ _ => rfl
  have n_h_al : h ≠ al := neM hc_h hc_al (by simp)
  have n_al_h : al ≠ h := neM hc_al hc_h (by simp)
  have hK_f : Ke f f := Ke.rf
  refine lv_aload_n hx hb dX10_runs_0 rfl (lv_at hl 0 rfl) ?_
  refine lv_iconst (v := 0) hx hb dX10_runs_1 (by decide) ?_
  refine lv_sipush (v := 1140) hx hb dX10_runs_2 (by decide) ?_
  refine goV hK hH (runV (As := [.int 0, .int 1140]) (rest := []) hC hK hH (c_X10_copies (frn := 0) (ton := 1140) hc_h hn_h hc_al hn_al ht_mt ht_pa ht_li (by exact hR_f) (by decide) (by decide) (by decide) (by decide)) mlX10_165 (rcvM hK hH hc_h rfl) ⟨⟨Nat.le_of_ble_eq_true rfl, Nat.le_of_ble_eq_true rfl⟩, Nat.le_of_ble_eq_true rfl, Nat.le_of_ble_eq_true rfl⟩ rfl hl.1 rfl (Nat.le_of_ble_eq_true rfl) dX10_runs_5) (fun Mq1_ Tq2_ Hq_ lcq_ hP hz hH => ?_)
  try dsimp only at hP
  obtain ⟨gq4_, h_gq4_, (hx_al), eT, hfr⟩ := hP
  have eT := eT.symm; subst eT
  have hc_h : Mq1_ h = some (.inr (8, [.ref al, .ref mt, .ref ii, .int ta, .int fpm, .ref pa, .int sm, .int nx, .int tk, .int pl, .int ln, .long va, .int wr, .ref li])) := (hfr h (Or.inl hn_h) n_h_al).trans hc_h
  have hc_al : Mq1_ al = some (.inl (kA 0, 7506, .inl gq4_)) := hx_al
  have hF : ∀ q, FrK T q → q ≠ al → Mq1_ q = M q := fun q hq h0 => (hfr q hq  h0).trans (hF q hq h0)
  have hR_gq4_ : Rng gq4_ := h_gq4_.1
  have hK_gq4_ : Ke f gq4_ := hK_f.tr (KeR.ke h_gq4_.2 (by omega))
  refine lv_sipush (v := 1140) hx hb dX10_runs_8 (by decide) ?_
  refine lv_iload_n hx hb dX10_runs_11 rfl (lv_at hl 1 rfl) ?_
  obtain ⟨nq5_, hn_nq5_⟩ : ∃ n : Nat, bi.toInt = (n : Int) := ⟨(bi.toInt).toNat, by omega⟩
  refine goI hK hH (runS (As := [.int 1140, .int bi]) (rest := []) hC hK hH (c_X10_at (by decide) (by omega)) mlX10_109 ⟨⟨Nat.le_of_ble_eq_true rfl, Nat.le_of_ble_eq_true rfl⟩, Nat.le_of_ble_eq_true rfl, Nat.le_of_ble_eq_true rfl⟩ rfl hl.1 rfl (Nat.le_of_ble_eq_true rfl) dX10_runs_12) (fun rq8_ Mq6_ Tq7_ Hq_ lcq_ hP hz hH => ?_)
  try dsimp only at hP
  obtain ⟨(⟨cq9_, ⟨l_rq8_, g_rq8_⟩⟩), eT, eM⟩ := hP
  have eT := eT.symm; subst eT
  have eM := eM.symm; subst eM
  have cq9_ : rq8_.toInt = (1140 : Int) + 20 + 280 * bi.toInt := cq9_
  obtain ⟨nq10_, hn_nq10_⟩ : ∃ n : Nat, n = 1140 * 1 + 20 + 280 * nq5_ := ⟨_, rfl⟩
  have hx_rq8_ : rq8_.toInt = (nq10_ : Int) := by have : (1140 : Int32).toInt = 1140 := rfl; omega
  refine lv_istore_n (lv' := [(2, .int rq8_), (0, .ref h), (1, .int bi)]) hx hb dX10_runs_15 rfl hl (by decide) rfl (fun ls hl => ?_)
  refine lv_iconst (v := 0) hx hb dX10_runs_16 (by decide) ?_
  refine lv_istore_n (lv' := [(3, .int 0), (2, .int rq8_), (0, .ref h), (1, .int bi)]) hx hb dX10_runs_17 rfl hl (by decide) rfl (fun ls hl => ?_)
  refine lv_aload_n hx hb dX10_runs_18 rfl (lv_at hl 2 rfl) ?_
  refine lv_sipush (v := 1140) hx hb dX10_runs_19 (by decide) ?_
  refine lv_iload_n hx hb dX10_runs_22 rfl (lv_at hl 1 rfl) ?_
  refine goI hK hH (runV (As := [.int 1140, .int rq8_]) (rest := []) hC hK hH (c_X10_payer (xn := nq10_) (t := 1) (b := nq5_) hc_h hn_h hc_al hn_al ht_mt ht_pa ht_li (by exact hR_gq4_) (by decide) (by omega) (by have : (1 : Int32).toInt = 1 := rfl; omega) (by omega) (by decide)) mlX10_168 (rcvM hK hH hc_h rfl) ⟨⟨Nat.le_of_ble_eq_true rfl, Nat.le_of_ble_eq_true rfl⟩, Nat.le_of_ble_eq_true rfl, Nat.le_of_ble_eq_true rfl⟩ rfl hl.1 rfl (Nat.le_of_ble_eq_true rfl) dX10_runs_23) (fun rq13_ Mq11_ Tq12_ Hq_ lcq_ hP hz hH => ?_)
  try dsimp only at hP
  obtain ⟨(er_rq13_ | ⟨cq14_, ⟨l_rq13_, g_rq13_⟩⟩), eT, eM⟩ := hP
  · skip
    have eT := eT.symm; subst eT
    have er_rq13_ := er_rq13_.symm; subst er_rq13_
    have eM := eM.symm; subst eM
    refine lv_istore (lv' := [(4, .int (-1)), (3, .int 0), (2, .int rq8_), (0, .ref h), (1, .int bi)]) hx hb dX10_runs_26 hl (by decide) rfl (fun ls hl => ?_)
    have loop : ∀ (n : Nat) (yq15_ : Int32) (yq16_ : Int32) (Fq18_ : Nat → Int32) (Hq_ : Heap) (lcq_ : List Loc) (Mq17_ : mM) (ls : Array Slot), yq16_.toInt + 2 ≤ (n : Int) → (0 : Int) ≤ yq15_.toInt → yq15_.toInt ≤ 14 → (-1 : Int) ≤ yq16_.toInt → yq16_.toInt ≤ 13 → (yq15_.toInt + yq16_.toInt ≤ 13) → Rng Fq18_ → Ke f Fq18_ → (yq16_.toInt = -1 ∨ (Lia Fq18_ 1 nq10_ (yq16_.toInt).toNat ∧ CshF Fq18_ 1 nq10_ (yq16_.toInt).toNat ∧ yq16_.toInt ≤ 1 + (Fq18_ (nq10_ + 8)).toInt)) → Mq17_ h = some (.inr (8, [.ref al, .ref mt, .ref ii, .int ta, .int fpm, .ref pa, .int sm, .int nx, .int tk, .int pl, .int ln, .long va, .int wr, .ref li])) → Mq17_ al = some (.inl (kA 0, 7506, .inl Fq18_)) → (∀ q, FrK T q → q ≠ al → Mq17_ q = M q) → mS D kA Mq17_ T (mA M T sz) s.heap Hq_ lcq_ → lv_has ls 6 [(4, .int yq16_), (3, .int yq15_), (2, .int rq8_), (0, .ref h), (1, .int bi)] → W p l e (rmL 7 0 0) s m ([.ref h, .int bi] : List Value).toArray below meth c Hq_ lcq_ 0 0 (MQ below (va_Qi (fun r u => ∃ g : Nat → Int32, (Rng g ∧ Ke f g) ∧ ((((0 : Int) ≤ r.toInt ∧ r.toInt ≤ 14)) ∧ u.1 al = some (.inl (kA 0, 7506, .inl g))) ∧ u.2 = T ∧ (∀ q, FrK T q → q ≠ al → u.1 q = M q)) (mB D kA M T sz) (mA M T sz)) ([.ref h, .int bi] : List Value).toArray s 0 0 (mA M T sz)) (F0 m 28 ls []) := by
      intro n
      induction n with
      | zero =>
        intro yq15_ yq16_ Fq18_ Hq_ lcq_ Mq17_ ls hme l_yq15_ g_yq15_ l_yq16_ g_yq16_ hv0_yq15_ hR_Fq18_ hK_Fq18_ hw0_yq15_ hc_h hc_al hF hH hl
        exfalso; omega
      | succ n ih =>
        intro yq15_ yq16_ Fq18_ Hq_ lcq_ Mq17_ ls hme l_yq15_ g_yq15_ l_yq16_ g_yq16_ hv0_yq15_ hR_Fq18_ hK_Fq18_ hw0_yq15_ hc_h hc_al hF hH hl
        refine lv_iload hx hb dX10_runs_28 (lv_at hl 0 rfl) ?_
        refine jif_lt (tgt := 69) hx hb dX10_runs_30 (by decide) (fun cq19_ => ?_) (fun cq19_ => ?_)
        · skip
          have cq19_ : yq16_.toInt < 0 := cq19_
          refine lv_iload_n hx hb dX10_runs_69 rfl (lv_at hl 1 rfl) ?_
          exact ret_i hC hr hlk hK hH (⟨Fq18_, ⟨hR_Fq18_, hK_Fq18_⟩, ⟨⟨by omega, by omega⟩, hc_al⟩, rfl, hF⟩) (Nat.le_of_ble_eq_true rfl) (Nat.le_of_ble_eq_true rfl) dX10_runs_70
        · skip
          have cq19_ : 0 ≤ yq16_.toInt := cq19_
          refine lv_aload_n hx hb dX10_runs_33 rfl (lv_at hl 3 rfl) ?_
          refine lv_sipush (v := 1140) hx hb dX10_runs_34 (by decide) ?_
          refine lv_iload_n hx hb dX10_runs_37 rfl (lv_at hl 2 rfl) ?_
          refine lv_iload hx hb dX10_runs_38 (lv_at hl 0 rfl) ?_
          obtain ⟨nq20_, hn_nq20_⟩ : ∃ n : Nat, yq16_.toInt = (n : Int) := ⟨(yq16_.toInt).toNat, by omega⟩
          have hLC : Lia Fq18_ 1 nq10_ nq20_ ∧ CshF Fq18_ 1 nq10_ nq20_ := by rcases hw0_yq15_ with z | z; (exfalso; omega); (rw [show (yq16_.toInt).toNat = nq20_ from by omega] at z; exact ⟨z.1, z.2.1⟩)
          refine goI hK hH (runV (As := [.int 1140, .int rq8_, .int yq16_]) (rest := []) hC hK hH (c_X10_pays (xn := nq10_) (t := 1) (b := nq5_) (ptn := nq20_) hc_h hn_h hc_al hn_al ht_mt ht_pa ht_li (by exact hR_Fq18_) (by decide) (by omega) (by have : (1 : Int32).toInt = 1 := rfl; omega) (by omega) (by decide) (by omega) (by omega)) mlX10_150 (rcvM hK hH hc_h rfl) ⟨⟨Nat.le_of_ble_eq_true rfl, Nat.le_of_ble_eq_true rfl⟩, Nat.le_of_ble_eq_true rfl, Nat.le_of_ble_eq_true rfl⟩ rfl hl.1 rfl (Nat.le_of_ble_eq_true rfl) dX10_runs_40) (fun rq23_ Mq21_ Tq22_ Hq_ lcq_ hP hz hH => ?_)
          try dsimp only at hP
          obtain ⟨gq26_, h_gq26_, (⟨cq24_, er_rq23_, hx_al⟩ | ⟨cq25_, ⟨l_rq23_, g_rq23_⟩, hx_al⟩), eT, hfr⟩ := hP
          · skip
            have eT := eT.symm; subst eT
            have er_rq23_ := er_rq23_.symm; subst er_rq23_
            have hc_h : Mq21_ h = some (.inr (8, [.ref al, .ref mt, .ref ii, .int ta, .int fpm, .ref pa, .int sm, .int nx, .int tk, .int pl, .int ln, .long va, .int wr, .ref li])) := (hfr h (Or.inl hn_h) n_h_al).trans hc_h
            have hc_al : Mq21_ al = some (.inl (kA 0, 7506, .inl gq26_)) := hx_al
            have hF : ∀ q, FrK T q → q ≠ al → Mq21_ q = M q := fun q hq h0 => (hfr q hq  h0).trans (hF q hq h0)
            have hR_gq26_ : Rng gq26_ := h_gq26_.1
            have hK_gq26_ : Ke f gq26_ := hK_Fq18_.tr h_gq26_.2.1
            have hE_gq26_ : (Lia Fq18_ 1 nq10_ nq20_ → CshF Fq18_ 1 nq10_ nq20_ → PayP Fq18_ gq26_ nq10_ nq20_) := h_gq26_.2.2
            have cq24_ : Lia Fq18_ 1 nq10_ nq20_ ∧ CshF Fq18_ 1 nq10_ nq20_ := cq24_
            have hPP : PayP Fq18_ gq26_ nq10_ nq20_ := hE_gq26_ hLC.1 hLC.2
            refine lv_istore (lv' := [(5, .int 0), (4, .int yq16_), (3, .int yq15_), (2, .int rq8_), (0, .ref h), (1, .int bi)]) hx hb dX10_runs_43 hl (by decide) rfl (fun ls hl => ?_)
            refine lv_aload_n hx hb dX10_runs_45 rfl (lv_at hl 4 rfl) ?_
            refine xg hC hK hH flX10_24 hc_h rfl dX10_runs_46 ?_
            refine lv_iload_n hx hb dX10_runs_49 rfl (lv_at hl 2 rfl) ?_
            refine lv_iload hx hb dX10_runs_50 (lv_at hl 1 rfl) ?_
            refine tist (x := yq16_) hC hK hH ht_pa rfl (iIn (by omega) (by omega)) (iRg _).1 (iRg _).2 dX10_runs_52 (fun Hq_ lcq_ Mq27_ _ hfr hH => ?_)
            have hc_h : Mq27_ h = some (.inr (8, [.ref al, .ref mt, .ref ii, .int ta, .int fpm, .ref pa, .int sm, .int nx, .int tk, .int pl, .int ln, .long va, .int wr, .ref li])) := (hfr h (neF (Or.inl hn_h) ht_pa (by decide))).trans hc_h
            have hc_al : Mq27_ al = some (.inl (kA 0, 7506, .inl gq26_)) := (hfr al (neF (Or.inl hn_al) ht_pa (by decide))).trans hc_al
            have hF : ∀ q, FrK T q → q ≠ al → Mq27_ q = M q := fun q hq h0 => (hfr q (neF hq ht_pa (by decide))).trans (hF q hq h0)
            obtain ⟨zq28_, e_zq28_⟩ : ∃ y : Int32, y = yq15_ + 1 := ⟨_, rfl⟩
            refine lv_iinc (v := zq28_) (lv' := [(3, .int zq28_), (5, .int 0), (4, .int yq16_), (2, .int rq8_), (0, .ref h), (1, .int bi)]) hx hb dX10_runs_53 hl (k := 2) rfl (by rw [e_zq28_]; rfl) (by decide) rfl (fun ls hl => ?_)
            have h_zq28_ : zq28_.toInt = yq15_.toInt + 1 := by rw [e_zq28_, iAdd (by have : (1 : Int32).toInt = 1 := rfl; omega) (by have : (1 : Int32).toInt = 1 := rfl; omega)]; rfl
            refine lv_aload_n hx hb dX10_runs_56 rfl (lv_at hl 4 rfl) ?_
            refine lv_sipush (v := 1140) hx hb dX10_runs_57 (by decide) ?_
            refine lv_iload_n hx hb dX10_runs_60 rfl (lv_at hl 3 rfl) ?_
            refine goI hK hH (runV (As := [.int 1140, .int rq8_]) (rest := []) hC hK hH (c_X10_payer (xn := nq10_) (t := 1) (b := nq5_) hc_h hn_h hc_al hn_al ht_mt ht_pa ht_li (by exact hR_gq26_) (by decide) (by omega) (by have : (1 : Int32).toInt = 1 := rfl; omega) (by omega) (by decide)) mlX10_168 (rcvM hK hH hc_h rfl) ⟨⟨Nat.le_of_ble_eq_true rfl, Nat.le_of_ble_eq_true rfl⟩, Nat.le_of_ble_eq_true rfl, Nat.le_of_ble_eq_true rfl⟩ rfl hl.1 rfl (Nat.le_of_ble_eq_true rfl) dX10_runs_61) (fun rq31_ Mq29_ Tq30_ Hq_ lcq_ hP hz hH => ?_)
            try dsimp only at hP
            obtain ⟨(er_rq31_ | ⟨cq32_, ⟨l_rq31_, g_rq31_⟩⟩), eT, eM⟩ := hP
            · skip
              have eT := eT.symm; subst eT
              have er_rq31_ := er_rq31_.symm; subst er_rq31_
              have eM := eM.symm; subst eM
              refine lv_istore (lv' := [(4, .int (-1)), (3, .int zq28_), (5, .int 0), (2, .int rq8_), (0, .ref h), (1, .int bi)]) hx hb dX10_runs_64 hl (by decide) rfl (fun ls hl => ?_)
              refine lv_goto (tgt := 28) hx hb dX10_runs_66 (by decide) ?_
              exact ih zq28_ (-1) gq26_ _ _ _ ls (by have := iRg zq28_; have : (-1 : Int32).toInt = -1 := rfl; omega) (by have := iRg zq28_; have : (-1 : Int32).toInt = -1 := rfl; omega) (by have := iRg zq28_; have : (-1 : Int32).toInt = -1 := rfl; omega) (by have := iRg zq28_; have : (-1 : Int32).toInt = -1 := rfl; omega) (by have := iRg zq28_; have : (-1 : Int32).toInt = -1 := rfl; omega) (by have := iRg zq28_; have : (-1 : Int32).toInt = -1 := rfl; omega) hR_gq26_ hK_gq26_ (Or.inl rfl) hc_h hc_al hF hH (lv_sub hl [0, 1, 3, 4, 5] rfl)
            · skip
              have eT := eT.symm; subst eT
              have eM := eM.symm; subst eM
              have cq32_ : 0 ≤ rq31_.toInt ∧ rq31_.toInt ≤ 1 + (gq26_ (nq10_ + 8)).toInt ∧ Lia gq26_ 1 nq10_ (rq31_.toInt).toNat ∧ CshF gq26_ 1 nq10_ (rq31_.toInt).toNat := cq32_
              have hlt : rq31_.toInt < yq16_.toInt := by
                apply Int.not_le.mp
                intro hge
                have hL := cq32_.2.2.1
                have h88 : (gq26_ (nq10_ + 8)).toInt = (Fq18_ (nq10_ + 8)).toInt := congrArg Int32.toInt hPP.1
                by_cases h0 : nq20_ = 0
                · have h1 := hPP.2.1 h0
                  have h2 := hL.2.1
                  omega
                · have h1 := hPP.2.2 (by omega) (rq31_.toInt).toNat (by omega) (by omega)
                  have h2 := hL.2.2.2.2.1
                  omega
              refine lv_istore (lv' := [(4, .int rq31_), (3, .int zq28_), (5, .int 0), (2, .int rq8_), (0, .ref h), (1, .int bi)]) hx hb dX10_runs_64 hl (by decide) rfl (fun ls hl => ?_)
              refine lv_goto (tgt := 28) hx hb dX10_runs_66 (by decide) ?_
              exact ih zq28_ rq31_ gq26_ _ _ _ ls (by have := iRg zq28_; have := iRg rq31_; omega) (by have := iRg zq28_; have := iRg rq31_; omega) (by have := iRg zq28_; have := iRg rq31_; omega) (by have := iRg zq28_; have := iRg rq31_; omega) (by have := iRg zq28_; have := iRg rq31_; omega) (by have := iRg zq28_; have := iRg rq31_; omega) hR_gq26_ hK_gq26_ (Or.inr ⟨cq32_.2.2.1, cq32_.2.2.2, cq32_.2.1⟩) hc_h hc_al hF hH (lv_sub hl [0, 1, 3, 4, 5] rfl)
          · skip
            have eT := eT.symm; subst eT
            have hc_h : Mq21_ h = some (.inr (8, [.ref al, .ref mt, .ref ii, .int ta, .int fpm, .ref pa, .int sm, .int nx, .int tk, .int pl, .int ln, .long va, .int wr, .ref li])) := (hfr h (Or.inl hn_h) n_h_al).trans hc_h
            have hc_al : Mq21_ al = some (.inl (kA 0, 7506, .inl gq26_)) := hx_al
            have hF : ∀ q, FrK T q → q ≠ al → Mq21_ q = M q := fun q hq h0 => (hfr q hq  h0).trans (hF q hq h0)
            have hR_gq26_ : Rng gq26_ := h_gq26_.1
            have hK_gq26_ : Ke f gq26_ := hK_Fq18_.tr h_gq26_.2.1
            have hE_gq26_ : (Lia Fq18_ 1 nq10_ nq20_ → CshF Fq18_ 1 nq10_ nq20_ → PayP Fq18_ gq26_ nq10_ nq20_) := h_gq26_.2.2
            have cq25_ : ¬ (Lia Fq18_ 1 nq10_ nq20_ ∧ CshF Fq18_ 1 nq10_ nq20_) := cq25_
            exact absurd hLC cq25_
    exact loop (Int.toNat ((-1) + 2)) 0 (-1) gq4_ _ _ _ ls (by have : (0 : Int32).toInt = 0 := rfl; have : (-1 : Int32).toInt = -1 := rfl; omega) (by have : (0 : Int32).toInt = 0 := rfl; have : (-1 : Int32).toInt = -1 := rfl; omega) (by have : (0 : Int32).toInt = 0 := rfl; have : (-1 : Int32).toInt = -1 := rfl; omega) (by have : (0 : Int32).toInt = 0 := rfl; have : (-1 : Int32).toInt = -1 := rfl; omega) (by have : (0 : Int32).toInt = 0 := rfl; have : (-1 : Int32).toInt = -1 := rfl; omega) (by have : (0 : Int32).toInt = 0 := rfl; have : (-1 : Int32).toInt = -1 := rfl; omega) hR_gq4_ hK_gq4_ (Or.inl rfl) hc_h hc_al hF hH hl
  · skip
    have eT := eT.symm; subst eT
    have eM := eM.symm; subst eM
    have cq14_ : 0 ≤ rq13_.toInt ∧ rq13_.toInt ≤ 1 + (gq4_ (nq10_ + 8)).toInt ∧ Lia gq4_ 1 nq10_ (rq13_.toInt).toNat ∧ CshF gq4_ 1 nq10_ (rq13_.toInt).toNat := cq14_
    refine lv_istore (lv' := [(4, .int rq13_), (3, .int 0), (2, .int rq8_), (0, .ref h), (1, .int bi)]) hx hb dX10_runs_26 hl (by decide) rfl (fun ls hl => ?_)
    have loop : ∀ (n : Nat) (yq33_ : Int32) (yq34_ : Int32) (Fq36_ : Nat → Int32) (Hq_ : Heap) (lcq_ : List Loc) (Mq35_ : mM) (ls : Array Slot), yq34_.toInt + 2 ≤ (n : Int) → (0 : Int) ≤ yq33_.toInt → yq33_.toInt ≤ 14 → (-1 : Int) ≤ yq34_.toInt → yq34_.toInt ≤ 13 → (yq33_.toInt + yq34_.toInt ≤ 13) → Rng Fq36_ → Ke f Fq36_ → (yq34_.toInt = -1 ∨ (Lia Fq36_ 1 nq10_ (yq34_.toInt).toNat ∧ CshF Fq36_ 1 nq10_ (yq34_.toInt).toNat ∧ yq34_.toInt ≤ 1 + (Fq36_ (nq10_ + 8)).toInt)) → Mq35_ h = some (.inr (8, [.ref al, .ref mt, .ref ii, .int ta, .int fpm, .ref pa, .int sm, .int nx, .int tk, .int pl, .int ln, .long va, .int wr, .ref li])) → Mq35_ al = some (.inl (kA 0, 7506, .inl Fq36_)) → (∀ q, FrK T q → q ≠ al → Mq35_ q = M q) → mS D kA Mq35_ T (mA M T sz) s.heap Hq_ lcq_ → lv_has ls 6 [(4, .int yq34_), (3, .int yq33_), (2, .int rq8_), (0, .ref h), (1, .int bi)] → W p l e (rmL 7 0 0) s m ([.ref h, .int bi] : List Value).toArray below meth c Hq_ lcq_ 0 0 (MQ below (va_Qi (fun r u => ∃ g : Nat → Int32, (Rng g ∧ Ke f g) ∧ ((((0 : Int) ≤ r.toInt ∧ r.toInt ≤ 14)) ∧ u.1 al = some (.inl (kA 0, 7506, .inl g))) ∧ u.2 = T ∧ (∀ q, FrK T q → q ≠ al → u.1 q = M q)) (mB D kA M T sz) (mA M T sz)) ([.ref h, .int bi] : List Value).toArray s 0 0 (mA M T sz)) (F0 m 28 ls []) := by
      intro n
      induction n with
      | zero =>
        intro yq33_ yq34_ Fq36_ Hq_ lcq_ Mq35_ ls hme l_yq33_ g_yq33_ l_yq34_ g_yq34_ hv0_yq33_ hR_Fq36_ hK_Fq36_ hw0_yq33_ hc_h hc_al hF hH hl
        exfalso; omega
      | succ n ih =>
        intro yq33_ yq34_ Fq36_ Hq_ lcq_ Mq35_ ls hme l_yq33_ g_yq33_ l_yq34_ g_yq34_ hv0_yq33_ hR_Fq36_ hK_Fq36_ hw0_yq33_ hc_h hc_al hF hH hl
        refine lv_iload hx hb dX10_runs_28 (lv_at hl 0 rfl) ?_
        refine jif_lt (tgt := 69) hx hb dX10_runs_30 (by decide) (fun cq37_ => ?_) (fun cq37_ => ?_)
        · skip
          have cq37_ : yq34_.toInt < 0 := cq37_
          refine lv_iload_n hx hb dX10_runs_69 rfl (lv_at hl 1 rfl) ?_
          exact ret_i hC hr hlk hK hH (⟨Fq36_, ⟨hR_Fq36_, hK_Fq36_⟩, ⟨⟨by omega, by omega⟩, hc_al⟩, rfl, hF⟩) (Nat.le_of_ble_eq_true rfl) (Nat.le_of_ble_eq_true rfl) dX10_runs_70
        · skip
          have cq37_ : 0 ≤ yq34_.toInt := cq37_
          refine lv_aload_n hx hb dX10_runs_33 rfl (lv_at hl 3 rfl) ?_
          refine lv_sipush (v := 1140) hx hb dX10_runs_34 (by decide) ?_
          refine lv_iload_n hx hb dX10_runs_37 rfl (lv_at hl 2 rfl) ?_
          refine lv_iload hx hb dX10_runs_38 (lv_at hl 0 rfl) ?_
          obtain ⟨nq38_, hn_nq38_⟩ : ∃ n : Nat, yq34_.toInt = (n : Int) := ⟨(yq34_.toInt).toNat, by omega⟩
          have hLC : Lia Fq36_ 1 nq10_ nq38_ ∧ CshF Fq36_ 1 nq10_ nq38_ := by rcases hw0_yq33_ with z | z; (exfalso; omega); (rw [show (yq34_.toInt).toNat = nq38_ from by omega] at z; exact ⟨z.1, z.2.1⟩)
          refine goI hK hH (runV (As := [.int 1140, .int rq8_, .int yq34_]) (rest := []) hC hK hH (c_X10_pays (xn := nq10_) (t := 1) (b := nq5_) (ptn := nq38_) hc_h hn_h hc_al hn_al ht_mt ht_pa ht_li (by exact hR_Fq36_) (by decide) (by omega) (by have : (1 : Int32).toInt = 1 := rfl; omega) (by omega) (by decide) (by omega) (by omega)) mlX10_150 (rcvM hK hH hc_h rfl) ⟨⟨Nat.le_of_ble_eq_true rfl, Nat.le_of_ble_eq_true rfl⟩, Nat.le_of_ble_eq_true rfl, Nat.le_of_ble_eq_true rfl⟩ rfl hl.1 rfl (Nat.le_of_ble_eq_true rfl) dX10_runs_40) (fun rq41_ Mq39_ Tq40_ Hq_ lcq_ hP hz hH => ?_)
          try dsimp only at hP
          obtain ⟨gq44_, h_gq44_, (⟨cq42_, er_rq41_, hx_al⟩ | ⟨cq43_, ⟨l_rq41_, g_rq41_⟩, hx_al⟩), eT, hfr⟩ := hP
          · skip
            have eT := eT.symm; subst eT
            have er_rq41_ := er_rq41_.symm; subst er_rq41_
            have hc_h : Mq39_ h = some (.inr (8, [.ref al, .ref mt, .ref ii, .int ta, .int fpm, .ref pa, .int sm, .int nx, .int tk, .int pl, .int ln, .long va, .int wr, .ref li])) := (hfr h (Or.inl hn_h) n_h_al).trans hc_h
            have hc_al : Mq39_ al = some (.inl (kA 0, 7506, .inl gq44_)) := hx_al
            have hF : ∀ q, FrK T q → q ≠ al → Mq39_ q = M q := fun q hq h0 => (hfr q hq  h0).trans (hF q hq h0)
            have hR_gq44_ : Rng gq44_ := h_gq44_.1
            have hK_gq44_ : Ke f gq44_ := hK_Fq36_.tr h_gq44_.2.1
            have hE_gq44_ : (Lia Fq36_ 1 nq10_ nq38_ → CshF Fq36_ 1 nq10_ nq38_ → PayP Fq36_ gq44_ nq10_ nq38_) := h_gq44_.2.2
            have cq42_ : Lia Fq36_ 1 nq10_ nq38_ ∧ CshF Fq36_ 1 nq10_ nq38_ := cq42_
            have hPP : PayP Fq36_ gq44_ nq10_ nq38_ := hE_gq44_ hLC.1 hLC.2
            refine lv_istore (lv' := [(5, .int 0), (4, .int yq34_), (3, .int yq33_), (2, .int rq8_), (0, .ref h), (1, .int bi)]) hx hb dX10_runs_43 hl (by decide) rfl (fun ls hl => ?_)
            refine lv_aload_n hx hb dX10_runs_45 rfl (lv_at hl 4 rfl) ?_
            refine xg hC hK hH flX10_24 hc_h rfl dX10_runs_46 ?_
            refine lv_iload_n hx hb dX10_runs_49 rfl (lv_at hl 2 rfl) ?_
            refine lv_iload hx hb dX10_runs_50 (lv_at hl 1 rfl) ?_
            refine tist (x := yq34_) hC hK hH ht_pa rfl (iIn (by omega) (by omega)) (iRg _).1 (iRg _).2 dX10_runs_52 (fun Hq_ lcq_ Mq45_ _ hfr hH => ?_)
            have hc_h : Mq45_ h = some (.inr (8, [.ref al, .ref mt, .ref ii, .int ta, .int fpm, .ref pa, .int sm, .int nx, .int tk, .int pl, .int ln, .long va, .int wr, .ref li])) := (hfr h (neF (Or.inl hn_h) ht_pa (by decide))).trans hc_h
            have hc_al : Mq45_ al = some (.inl (kA 0, 7506, .inl gq44_)) := (hfr al (neF (Or.inl hn_al) ht_pa (by decide))).trans hc_al
            have hF : ∀ q, FrK T q → q ≠ al → Mq45_ q = M q := fun q hq h0 => (hfr q (neF hq ht_pa (by decide))).trans (hF q hq h0)
            obtain ⟨zq46_, e_zq46_⟩ : ∃ y : Int32, y = yq33_ + 1 := ⟨_, rfl⟩
            refine lv_iinc (v := zq46_) (lv' := [(3, .int zq46_), (5, .int 0), (4, .int yq34_), (2, .int rq8_), (0, .ref h), (1, .int bi)]) hx hb dX10_runs_53 hl (k := 2) rfl (by rw [e_zq46_]; rfl) (by decide) rfl (fun ls hl => ?_)
            have h_zq46_ : zq46_.toInt = yq33_.toInt + 1 := by rw [e_zq46_, iAdd (by have : (1 : Int32).toInt = 1 := rfl; omega) (by have : (1 : Int32).toInt = 1 := rfl; omega)]; rfl
            refine lv_aload_n hx hb dX10_runs_56 rfl (lv_at hl 4 rfl) ?_
            refine lv_sipush (v := 1140) hx hb dX10_runs_57 (by decide) ?_
            refine lv_iload_n hx hb dX10_runs_60 rfl (lv_at hl 3 rfl) ?_
            refine goI hK hH (runV (As := [.int 1140, .int rq8_]) (rest := []) hC hK hH (c_X10_payer (xn := nq10_) (t := 1) (b := nq5_) hc_h hn_h hc_al hn_al ht_mt ht_pa ht_li (by exact hR_gq44_) (by decide) (by omega) (by have : (1 : Int32).toInt = 1 := rfl; omega) (by omega) (by decide)) mlX10_168 (rcvM hK hH hc_h rfl) ⟨⟨Nat.le_of_ble_eq_true rfl, Nat.le_of_ble_eq_true rfl⟩, Nat.le_of_ble_eq_true rfl, Nat.le_of_ble_eq_true rfl⟩ rfl hl.1 rfl (Nat.le_of_ble_eq_true rfl) dX10_runs_61) (fun rq49_ Mq47_ Tq48_ Hq_ lcq_ hP hz hH => ?_)
            try dsimp only at hP
            obtain ⟨(er_rq49_ | ⟨cq50_, ⟨l_rq49_, g_rq49_⟩⟩), eT, eM⟩ := hP
            · skip
              have eT := eT.symm; subst eT
              have er_rq49_ := er_rq49_.symm; subst er_rq49_
              have eM := eM.symm; subst eM
              refine lv_istore (lv' := [(4, .int (-1)), (3, .int zq46_), (5, .int 0), (2, .int rq8_), (0, .ref h), (1, .int bi)]) hx hb dX10_runs_64 hl (by decide) rfl (fun ls hl => ?_)
              refine lv_goto (tgt := 28) hx hb dX10_runs_66 (by decide) ?_
              exact ih zq46_ (-1) gq44_ _ _ _ ls (by have := iRg zq46_; have : (-1 : Int32).toInt = -1 := rfl; omega) (by have := iRg zq46_; have : (-1 : Int32).toInt = -1 := rfl; omega) (by have := iRg zq46_; have : (-1 : Int32).toInt = -1 := rfl; omega) (by have := iRg zq46_; have : (-1 : Int32).toInt = -1 := rfl; omega) (by have := iRg zq46_; have : (-1 : Int32).toInt = -1 := rfl; omega) (by have := iRg zq46_; have : (-1 : Int32).toInt = -1 := rfl; omega) hR_gq44_ hK_gq44_ (Or.inl rfl) hc_h hc_al hF hH (lv_sub hl [0, 1, 3, 4, 5] rfl)
            · skip
              have eT := eT.symm; subst eT
              have eM := eM.symm; subst eM
              have cq50_ : 0 ≤ rq49_.toInt ∧ rq49_.toInt ≤ 1 + (gq44_ (nq10_ + 8)).toInt ∧ Lia gq44_ 1 nq10_ (rq49_.toInt).toNat ∧ CshF gq44_ 1 nq10_ (rq49_.toInt).toNat := cq50_
              have hlt : rq49_.toInt < yq34_.toInt := by
                apply Int.not_le.mp
                intro hge
                have hL := cq50_.2.2.1
                have h88 : (gq44_ (nq10_ + 8)).toInt = (Fq36_ (nq10_ + 8)).toInt := congrArg Int32.toInt hPP.1
                by_cases h0 : nq38_ = 0
                · have h1 := hPP.2.1 h0
                  have h2 := hL.2.1
                  omega
                · have h1 := hPP.2.2 (by omega) (rq49_.toInt).toNat (by omega) (by omega)
                  have h2 := hL.2.2.2.2.1
                  omega
              refine lv_istore (lv' := [(4, .int rq49_), (3, .int zq46_), (5, .int 0), (2, .int rq8_), (0, .ref h), (1, .int bi)]) hx hb dX10_runs_64 hl (by decide) rfl (fun ls hl => ?_)
              refine lv_goto (tgt := 28) hx hb dX10_runs_66 (by decide) ?_
              exact ih zq46_ rq49_ gq44_ _ _ _ ls (by have := iRg zq46_; have := iRg rq49_; omega) (by have := iRg zq46_; have := iRg rq49_; omega) (by have := iRg zq46_; have := iRg rq49_; omega) (by have := iRg zq46_; have := iRg rq49_; omega) (by have := iRg zq46_; have := iRg rq49_; omega) (by have := iRg zq46_; have := iRg rq49_; omega) hR_gq44_ hK_gq44_ (Or.inr ⟨cq50_.2.2.1, cq50_.2.2.2, cq50_.2.1⟩) hc_h hc_al hF hH (lv_sub hl [0, 1, 3, 4, 5] rfl)
          · skip
            have eT := eT.symm; subst eT
            have hc_h : Mq39_ h = some (.inr (8, [.ref al, .ref mt, .ref ii, .int ta, .int fpm, .ref pa, .int sm, .int nx, .int tk, .int pl, .int ln, .long va, .int wr, .ref li])) := (hfr h (Or.inl hn_h) n_h_al).trans hc_h
            have hc_al : Mq39_ al = some (.inl (kA 0, 7506, .inl gq44_)) := hx_al
            have hF : ∀ q, FrK T q → q ≠ al → Mq39_ q = M q := fun q hq h0 => (hfr q hq  h0).trans (hF q hq h0)
            have hR_gq44_ : Rng gq44_ := h_gq44_.1
            have hK_gq44_ : Ke f gq44_ := hK_Fq36_.tr h_gq44_.2.1
            have hE_gq44_ : (Lia Fq36_ 1 nq10_ nq38_ → CshF Fq36_ 1 nq10_ nq38_ → PayP Fq36_ gq44_ nq10_ nq38_) := h_gq44_.2.2
            have cq43_ : ¬ (Lia Fq36_ 1 nq10_ nq38_ ∧ CshF Fq36_ 1 nq10_ nq38_) := cq43_
            exact absurd hLC cq43_
    exact loop (Int.toNat (rq13_.toInt + 2)) 0 rq13_ gq4_ _ _ _ ls (by have : (0 : Int32).toInt = 0 := rfl; have := iRg rq13_; omega) (by have : (0 : Int32).toInt = 0 := rfl; have := iRg rq13_; omega) (by have : (0 : Int32).toInt = 0 := rfl; have := iRg rq13_; omega) (by have : (0 : Int32).toInt = 0 := rfl; have := iRg rq13_; omega) (by have : (0 : Int32).toInt = 0 := rfl; have := iRg rq13_; omega) (by have : (0 : Int32).toInt = 0 := rfl; have := iRg rq13_; omega) hR_gq4_ hK_gq4_ (Or.inr ⟨cq14_.2.2.1, cq14_.2.2.2, cq14_.2.1⟩) hc_h hc_al hF hH hl
set_option maxHeartbeats 4000000 in
set_option maxRecDepth 100000 in
theorem c_X10_bitsOf {l : Launch} {D : va_G} {kA : Nat → ClassId} {M : mM} {T : mT} {sz : Nat} {se : Int32} (hse : 0 ≤ se.toInt ∧ se.toInt ≤ 4095) : mCi l yX10_bitsOf cX10_bitsOf 3 (some .int) 0 0 0 D kA M T sz [.int se] (fun r u => (True) ∧ u.2 = T ∧ u.1 = M) := by
  unfold mCi
  refine start_W (by decide) (Nat.le_of_ble_eq_true rfl) ?_
  intro p e s m below meth c ls hC hr hlk hnm hK hH hsz hl
  have hx := hC.1
  have hb := hC.2.1
  have hl : lv_has ls 3 [(0, .int se)] := hl
  refine lv_iconst (v := 0) hx hb dX10_bitsOf_0 (by decide) ?_
  refine lv_istore_n (lv' := [(1, .int 0), (0, .int se)]) hx hb dX10_bitsOf_1 rfl hl (by decide) rfl (fun ls hl => ?_)
  refine lv_iload_n hx hb dX10_bitsOf_2 rfl (lv_at hl 1 rfl) ?_
  refine lv_istore_n (lv' := [(2, .int se), (1, .int 0), (0, .int se)]) hx hb dX10_bitsOf_3 rfl hl (by decide) rfl (fun ls hl => ?_)
  have loop : ∀ (n : Nat) (yq1_ : Int32) (yq2_ : Int32) (Hq_ : Heap) (lcq_ : List Loc) (ls : Array Slot), yq2_.toInt + 1 ≤ (n : Int) → (0 : Int) ≤ yq2_.toInt → yq2_.toInt ≤ 4095 → mS D kA M T (mA M T sz) s.heap Hq_ lcq_ → lv_has ls 3 [(2, .int yq2_), (1, .int yq1_), (0, .int se)] → W p l e (rmL 0 0 0) s m ([.int se] : List Value).toArray below meth c Hq_ lcq_ 0 0 (MQ below (va_Qi (fun r u => (True) ∧ u.2 = T ∧ u.1 = M) (mB D kA M T sz) (mA M T sz)) ([.int se] : List Value).toArray s 0 0 (mA M T sz)) (F0 m 4 ls []) := by
    intro n
    induction n with
    | zero =>
      intro yq1_ yq2_ Hq_ lcq_ ls hme l_yq2_ g_yq2_ hH hl
      exfalso; omega
    | succ n ih =>
      intro yq1_ yq2_ Hq_ lcq_ ls hme l_yq2_ g_yq2_ hH hl
      refine lv_iload_n hx hb dX10_bitsOf_4 rfl (lv_at hl 0 rfl) ?_
      refine jif_eq (tgt := 20) hx hb dX10_bitsOf_5 (by decide) (fun cq3_ => ?_) (fun cq3_ => ?_)
      · skip
        have cq3_ : yq2_.toInt = 0 := cq3_
        refine lv_iload_n hx hb dX10_bitsOf_20 rfl (lv_at hl 1 rfl) ?_
        exact ret_i hC hr hlk hK hH (⟨trivial, rfl, rfl⟩) (Nat.le_of_ble_eq_true rfl) (Nat.le_of_ble_eq_true rfl) dX10_bitsOf_21
      · skip
        have cq3_ : yq2_.toInt ≠ 0 := cq3_
        obtain ⟨zq4_, e_zq4_⟩ : ∃ y : Int32, y = yq1_ + 1 := ⟨_, rfl⟩
        refine lv_iinc (v := zq4_) (lv' := [(1, .int zq4_), (2, .int yq2_), (0, .int se)]) hx hb dX10_bitsOf_8 hl (k := 1) rfl (by rw [e_zq4_]; rfl) (by decide) rfl (fun ls hl => ?_)
        refine lv_iload_n hx hb dX10_bitsOf_11 rfl (lv_at hl 1 rfl) ?_
        refine lv_iload_n hx hb dX10_bitsOf_12 rfl (lv_at hl 1 rfl) ?_
        refine lv_iconst (v := 1) hx hb dX10_bitsOf_13 (by decide) ?_
        refine lv_isub hx hb dX10_bitsOf_14 ?_
        refine lv_topi (fun zq5_ e_zq5_ => ?_)
        have h_zq5_ : zq5_.toInt = yq2_.toInt - 1 := by rw [e_zq5_, iSub (by have := iRg yq2_; have : (1 : Int32).toInt = 1 := rfl; omega) (by have := iRg yq2_; have : (1 : Int32).toInt = 1 := rfl; omega)]; rfl
        refine lv_iand hx hb dX10_bitsOf_15 ?_
        refine lv_topi (fun zq6_ e_zq6_ => ?_)
        have ha_zq6_ := andm1 (y := yq2_) (z := zq5_) (by omega) (by omega)
        rw [← e_zq6_] at ha_zq6_
        refine lv_istore_n (lv' := [(2, .int zq6_), (1, .int zq4_), (0, .int se)]) hx hb dX10_bitsOf_16 rfl hl (by decide) rfl (fun ls hl => ?_)
        refine lv_goto (tgt := 4) hx hb dX10_bitsOf_17 (by decide) ?_
        exact ih zq4_ zq6_ _ _ ls (by have := iRg zq4_; have := iRg zq6_; omega) (by have := iRg zq4_; have := iRg zq6_; omega) (by have := iRg zq4_; have := iRg zq6_; omega) hH (lv_sub hl [0, 1, 2] rfl)
  exact loop (Int.toNat (se.toInt + 1)) 0 se _ _ ls (by have : (0 : Int32).toInt = 0 := rfl; have := iRg se; omega) (by have : (0 : Int32).toInt = 0 := rfl; have := iRg se; omega) (by have : (0 : Int32).toInt = 0 := rfl; have := iRg se; omega) hH hl
set_option maxHeartbeats 4000000 in
set_option maxRecDepth 100000 in
theorem c_X10_isCured {l : Launch} {D : va_G} {kA : Nat → ClassId} {M : mM} {T : mT} {sz : Nat} {h al mt ii pa li : Nat} {ta fpm sm nx tk pl ln wr : Int32} {va : Int64} {f : Nat → Int32} {bi se : Int32} (hc_h : M h = some (.inr (8, [.ref al, .ref mt, .ref ii, .int ta, .int fpm, .ref pa, .int sm, .int nx, .int tk, .int pl, .int ln, .long va, .int wr, .ref li]))) (hn_h : T h = none) (hc_al : M al = some (.inl (kA 0, 7506, .inl f))) (hn_al : T al = none) (ht_mt : T mt = some 11) (ht_pa : T pa = some 13) (ht_li : T li = some 14) (hR_f : Rng f) (hbi : 0 ≤ bi.toInt ∧ bi.toInt ≤ 3) : mCi l yX10_isCured cX10_isCured 5 (some .boolean) 4 0 0 D kA M T sz [.ref h, .int bi, .int se] (fun r u => ∃ g : Nat → Int32, (Rng g ∧ Ke f g) ∧ ((r = 1 ∧ u.1 al = some (.inl (kA 0, 7506, .inl g))) ∨ (r = 0 ∧ u.1 al = some (.inl (kA 0, 7506, .inl g)))) ∧ u.2 = T ∧ (∀ q, FrK T q → q ≠ al → u.1 q = M q)) := by
  unfold mCi
  refine start_W (by decide) (Nat.le_of_ble_eq_true rfl) ?_
  intro p e s m below meth c ls hC hr hlk hnm hK hH hsz hl
  have hx := hC.1
  have hb := hC.2.1
  have hl : lv_has ls 5 [(0, .ref h), (1, .int bi), (2, .int se)] := hl
  have hF : ∀ q, FrK T q → q ≠ al → M q = M q := fun q _ _ => rfl
  have n_h_al : h ≠ al := neM hc_h hc_al (by simp)
  have n_al_h : al ≠ h := neM hc_al hc_h (by simp)
  have hK_f : Ke f f := Ke.rf
  refine lv_sipush (v := 1140) hx hb dX10_isCured_0 (by decide) ?_
  refine lv_iload_n hx hb dX10_isCured_3 rfl (lv_at hl 1 rfl) ?_
  obtain ⟨nq1_, hn_nq1_⟩ : ∃ n : Nat, bi.toInt = (n : Int) := ⟨(bi.toInt).toNat, by omega⟩
  refine goI hK hH (runS (As := [.int 1140, .int bi]) (rest := []) hC hK hH (c_X10_at (by decide) (by omega)) mlX10_109 ⟨⟨Nat.le_of_ble_eq_true rfl, Nat.le_of_ble_eq_true rfl⟩, Nat.le_of_ble_eq_true rfl, Nat.le_of_ble_eq_true rfl⟩ rfl hl.1 rfl (Nat.le_of_ble_eq_true rfl) dX10_isCured_4) (fun rq4_ Mq2_ Tq3_ Hq_ lcq_ hP hz hH => ?_)
  try dsimp only at hP
  obtain ⟨(⟨cq5_, ⟨l_rq4_, g_rq4_⟩⟩), eT, eM⟩ := hP
  have eT := eT.symm; subst eT
  have eM := eM.symm; subst eM
  have cq5_ : rq4_.toInt = (1140 : Int) + 20 + 280 * bi.toInt := cq5_
  obtain ⟨nq6_, hn_nq6_⟩ : ∃ n : Nat, n = 1140 * 1 + 20 + 280 * nq1_ := ⟨_, rfl⟩
  have hx_rq4_ : rq4_.toInt = (nq6_ : Int) := by have : (1140 : Int32).toInt = 1140 := rfl; omega
  refine lv_istore_n (lv' := [(3, .int rq4_), (0, .ref h), (1, .int bi), (2, .int se)]) hx hb dX10_isCured_7 rfl hl (by decide) rfl (fun ls hl => ?_)
  refine lv_iconst (v := 0) hx hb dX10_isCured_8 (by decide) ?_
  refine lv_istore (lv' := [(4, .int 0), (3, .int rq4_), (0, .ref h), (1, .int bi), (2, .int se)]) hx hb dX10_isCured_9 hl (by decide) rfl (fun ls hl => ?_)
  have loop : ∀ (n : Nat) (yq7_ : Int32) (Fq9_ : Nat → Int32) (Hq_ : Heap) (lcq_ : List Loc) (Mq8_ : mM) (ls : Array Slot), 281 - yq7_.toInt ≤ (n : Int) → (0 : Int) ≤ yq7_.toInt → yq7_.toInt ≤ 280 → Rng Fq9_ → Ke f Fq9_ → Mq8_ h = some (.inr (8, [.ref al, .ref mt, .ref ii, .int ta, .int fpm, .ref pa, .int sm, .int nx, .int tk, .int pl, .int ln, .long va, .int wr, .ref li])) → Mq8_ al = some (.inl (kA 0, 7506, .inl Fq9_)) → (∀ q, FrK T q → q ≠ al → Mq8_ q = M q) → mS D kA Mq8_ T (mA M T sz) s.heap Hq_ lcq_ → lv_has ls 5 [(4, .int yq7_), (3, .int rq4_), (0, .ref h), (1, .int bi), (2, .int se)] → W p l e (rmL 4 0 0) s m ([.ref h, .int bi, .int se] : List Value).toArray below meth c Hq_ lcq_ 0 0 (MQ below (va_Qi (fun r u => ∃ g : Nat → Int32, (Rng g ∧ Ke f g) ∧ ((r = 1 ∧ u.1 al = some (.inl (kA 0, 7506, .inl g))) ∨ (r = 0 ∧ u.1 al = some (.inl (kA 0, 7506, .inl g)))) ∧ u.2 = T ∧ (∀ q, FrK T q → q ≠ al → u.1 q = M q)) (mB D kA M T sz) (mA M T sz)) ([.ref h, .int bi, .int se] : List Value).toArray s 0 0 (mA M T sz)) (F0 m 11 ls []) := by
    intro n
    induction n with
    | zero =>
      intro yq7_ Fq9_ Hq_ lcq_ Mq8_ ls hme l_yq7_ g_yq7_ hR_Fq9_ hK_Fq9_ hc_h hc_al hF hH hl
      exfalso; omega
    | succ n ih =>
      intro yq7_ Fq9_ Hq_ lcq_ Mq8_ ls hme l_yq7_ g_yq7_ hR_Fq9_ hK_Fq9_ hc_h hc_al hF hH hl
      refine lv_iload hx hb dX10_isCured_11 (lv_at hl 0 rfl) ?_
      refine lv_sipush (v := 280) hx hb dX10_isCured_13 (by decide) ?_
      refine jic_ge (tgt := 47) hx hb dX10_isCured_16 (by decide) (fun cq10_ => ?_) (fun cq10_ => ?_)
      · skip
        have cq10_ : 280 ≤ yq7_.toInt := cq10_
        refine lv_aload_n hx hb dX10_isCured_47 rfl (lv_at hl 2 rfl) ?_
        refine lv_iload_n hx hb dX10_isCured_48 rfl (lv_at hl 1 rfl) ?_
        refine goV hK hH (runV (As := [.int rq4_]) (rest := []) hC hK hH (c_X10_startsChain (xn := nq6_) (t := 1) (b := nq1_) hc_h hn_h hc_al hn_al ht_mt ht_pa ht_li (by exact hR_Fq9_) (by decide) (by omega) (by have : (1 : Int32).toInt = 1 := rfl; omega) (by omega)) mlX10_91 (rcvM hK hH hc_h rfl) ⟨⟨Nat.le_of_ble_eq_true rfl, Nat.le_of_ble_eq_true rfl⟩, Nat.le_of_ble_eq_true rfl, Nat.le_of_ble_eq_true rfl⟩ rfl hl.1 rfl (Nat.le_of_ble_eq_true rfl) dX10_isCured_49) (fun Mq11_ Tq12_ Hq_ lcq_ hP hz hH => ?_)
        try dsimp only at hP
        obtain ⟨gq14_, h_gq14_, (hx_al), eT, hfr⟩ := hP
        have eT := eT.symm; subst eT
        have hc_h : Mq11_ h = some (.inr (8, [.ref al, .ref mt, .ref ii, .int ta, .int fpm, .ref pa, .int sm, .int nx, .int tk, .int pl, .int ln, .long va, .int wr, .ref li])) := (hfr h (Or.inl hn_h) n_h_al).trans hc_h
        have hc_al : Mq11_ al = some (.inl (kA 0, 7506, .inl gq14_)) := hx_al
        have hF : ∀ q, FrK T q → q ≠ al → Mq11_ q = M q := fun q hq h0 => (hfr q hq  h0).trans (hF q hq h0)
        have hR_gq14_ : Rng gq14_ := h_gq14_.1
        have hK_gq14_ : Ke f gq14_ := hK_Fq9_.tr h_gq14_.2.1
        have hE_gq14_ : (Kp Fq9_ gq14_ nq6_ ∧ gq14_ 1 = Fq9_ 1) := h_gq14_.2.2
        refine lv_aload_n hx hb dX10_isCured_52 rfl (lv_at hl 2 rfl) ?_
        refine xg hC hK hH flX10_7 hc_h rfl dX10_isCured_53 ?_
        refine lv_iload_n hx hb dX10_isCured_56 rfl (lv_at hl 1 rfl) ?_
        refine lv_bipush (v := 18) hx hb dX10_isCured_57 (by decide) ?_
        refine lv_iadd hx hb dX10_isCured_59 ?_
        refine lv_topi (fun zq15_ e_zq15_ => ?_)
        have h_zq15_ : zq15_.toInt = rq4_.toInt + 18 := by rw [e_zq15_, iAdd (by have := iRg rq4_; have : (18 : Int32).toInt = 18 := rfl; omega) (by have := iRg rq4_; have : (18 : Int32).toInt = 18 := rfl; omega)]; rfl
        refine xild hC hK hH hc_al (iIn (by omega) (by omega)) dX10_isCured_60 ?_
        refine lv_topi (fun xq16_ e_xq16_ => ?_)
        have k_xq16_ : xq16_ = gq14_ (nq6_ + 18) := by rw [e_xq16_, clE (n := nq6_ + 18) (by omega)]
        have kt_xq16_ : xq16_.toInt = (gq14_ (nq6_ + 18)).toInt := by rw [k_xq16_]
        have rr_xq16_ : (0 : Int) ≤ (gq14_ (nq6_ + 18)).toInt ∧ (gq14_ (nq6_ + 18)).toInt ≤ 12 := hR_gq14_.rO 18 (t := 1) (b := nq1_) (xn := nq6_) (by omega) (by omega) (by omega) (by decide) rfl
        have l_xq16_ : (0 : Int) ≤ xq16_.toInt := by rw [kt_xq16_, show nq6_ + 18 = nq6_ + 18 from by omega]; exact rr_xq16_.1
        have g_xq16_ : xq16_.toInt ≤ 12 := by rw [kt_xq16_, show nq6_ + 18 = nq6_ + 18 from by omega]; exact rr_xq16_.2
        refine lv_istore (lv' := [(4, .int xq16_), (3, .int rq4_), (0, .ref h), (1, .int bi), (2, .int se)]) hx hb dX10_isCured_61 hl (by decide) rfl (fun ls hl => ?_)
        have loop : ∀ (n : Nat) (yq17_ : Int32) (Fq19_ : Nat → Int32) (Hq_ : Heap) (lcq_ : List Loc) (Mq18_ : mM) (ls : Array Slot), 13 - yq17_.toInt ≤ (n : Int) → (0 : Int) ≤ yq17_.toInt → yq17_.toInt ≤ 12 → Rng Fq19_ → Ke f Fq19_ → Mq18_ h = some (.inr (8, [.ref al, .ref mt, .ref ii, .int ta, .int fpm, .ref pa, .int sm, .int nx, .int tk, .int pl, .int ln, .long va, .int wr, .ref li])) → Mq18_ al = some (.inl (kA 0, 7506, .inl Fq19_)) → (∀ q, FrK T q → q ≠ al → Mq18_ q = M q) → mS D kA Mq18_ T (mA M T sz) s.heap Hq_ lcq_ → lv_has ls 5 [(4, .int yq17_), (3, .int rq4_), (0, .ref h), (1, .int bi), (2, .int se)] → W p l e (rmL 4 0 0) s m ([.ref h, .int bi, .int se] : List Value).toArray below meth c Hq_ lcq_ 0 0 (MQ below (va_Qi (fun r u => ∃ g : Nat → Int32, (Rng g ∧ Ke f g) ∧ ((r = 1 ∧ u.1 al = some (.inl (kA 0, 7506, .inl g))) ∨ (r = 0 ∧ u.1 al = some (.inl (kA 0, 7506, .inl g)))) ∧ u.2 = T ∧ (∀ q, FrK T q → q ≠ al → u.1 q = M q)) (mB D kA M T sz) (mA M T sz)) ([.ref h, .int bi, .int se] : List Value).toArray s 0 0 (mA M T sz)) (F0 m 63 ls []) := by
          intro n
          induction n with
          | zero =>
            intro yq17_ Fq19_ Hq_ lcq_ Mq18_ ls hme l_yq17_ g_yq17_ hR_Fq19_ hK_Fq19_ hc_h hc_al hF hH hl
            exfalso; omega
          | succ n ih =>
            intro yq17_ Fq19_ Hq_ lcq_ Mq18_ ls hme l_yq17_ g_yq17_ hR_Fq19_ hK_Fq19_ hc_h hc_al hF hH hl
            refine lv_iload hx hb dX10_isCured_63 (lv_at hl 0 rfl) ?_
            refine lv_aload_n hx hb dX10_isCured_65 rfl (lv_at hl 2 rfl) ?_
            refine xg hC hK hH flX10_7 hc_h rfl dX10_isCured_66 ?_
            refine lv_iload_n hx hb dX10_isCured_69 rfl (lv_at hl 1 rfl) ?_
            refine lv_bipush (v := 8) hx hb dX10_isCured_70 (by decide) ?_
            refine lv_iadd hx hb dX10_isCured_72 ?_
            refine lv_topi (fun zq20_ e_zq20_ => ?_)
            have h_zq20_ : zq20_.toInt = rq4_.toInt + 8 := by rw [e_zq20_, iAdd (by have := iRg rq4_; have : (8 : Int32).toInt = 8 := rfl; omega) (by have := iRg rq4_; have : (8 : Int32).toInt = 8 := rfl; omega)]; rfl
            refine xild hC hK hH hc_al (iIn (by omega) (by omega)) dX10_isCured_73 ?_
            refine lv_topi (fun xq21_ e_xq21_ => ?_)
            have k_xq21_ : xq21_ = Fq19_ (nq6_ + 8) := by rw [e_xq21_, clE (n := nq6_ + 8) (by omega)]
            have kt_xq21_ : xq21_.toInt = (Fq19_ (nq6_ + 8)).toInt := by rw [k_xq21_]
            have rr_xq21_ : (0 : Int) ≤ (Fq19_ (nq6_ + 8)).toInt ∧ (Fq19_ (nq6_ + 8)).toInt ≤ 12 := hR_Fq19_.rO 8 (t := 1) (b := nq1_) (xn := nq6_) (by omega) (by omega) (by omega) (by decide) rfl
            have l_xq21_ : (0 : Int) ≤ xq21_.toInt := by rw [kt_xq21_, show nq6_ + 8 = nq6_ + 8 from by omega]; exact rr_xq21_.1
            have g_xq21_ : xq21_.toInt ≤ 12 := by rw [kt_xq21_, show nq6_ + 8 = nq6_ + 8 from by omega]; exact rr_xq21_.2
            refine jic_ge (tgt := 105) hx hb dX10_isCured_74 (by decide) (fun cq22_ => ?_) (fun cq22_ => ?_)
            · skip
              have cq22_ : xq21_.toInt ≤ yq17_.toInt := cq22_
              refine lv_aload_n hx hb dX10_isCured_105 rfl (lv_at hl 2 rfl) ?_
              refine lv_iload_n hx hb dX10_isCured_106 rfl (lv_at hl 1 rfl) ?_
              refine goI hK hH (runV (As := [.int rq4_]) (rest := []) hC hK hH (c_X10_hasTitle (xn := nq6_) (t := 1) (b := nq1_) hc_h hn_h hc_al hn_al ht_mt ht_pa ht_li (by exact hR_Fq19_) (by decide) (by omega) (by have : (1 : Int32).toInt = 1 := rfl; omega) (by omega)) mlX10_70 (rcvM hK hH hc_h rfl) ⟨⟨Nat.le_of_ble_eq_true rfl, Nat.le_of_ble_eq_true rfl⟩, Nat.le_of_ble_eq_true rfl, Nat.le_of_ble_eq_true rfl⟩ rfl hl.1 rfl (Nat.le_of_ble_eq_true rfl) dX10_isCured_107) (fun rq25_ Mq23_ Tq24_ Hq_ lcq_ hP hz hH => ?_)
              try dsimp only at hP
              obtain ⟨(⟨cq26_, er_rq25_⟩ | ⟨cq27_, er_rq25_⟩), eT, eM⟩ := hP
              · skip
                have eT := eT.symm; subst eT
                have er_rq25_ := er_rq25_.symm; subst er_rq25_
                have eM := eM.symm; subst eM
                have cq26_ : titF Fq19_ nq6_ := cq26_
                exact ret_z hC hr hlk hK hH (by first | exact Or.inl rfl | exact Or.inr rfl | assumption) (⟨Fq19_, ⟨hR_Fq19_, hK_Fq19_⟩, Or.inl (⟨rfl, hc_al⟩), rfl, hF⟩) (Nat.le_of_ble_eq_true rfl) (Nat.le_of_ble_eq_true rfl) dX10_isCured_110
              · skip
                have eT := eT.symm; subst eT
                have er_rq25_ := er_rq25_.symm; subst er_rq25_
                have eM := eM.symm; subst eM
                have cq27_ : ¬ titF Fq19_ nq6_ := cq27_
                exact ret_z hC hr hlk hK hH (by first | exact Or.inl rfl | exact Or.inr rfl | assumption) (⟨Fq19_, ⟨hR_Fq19_, hK_Fq19_⟩, Or.inr (⟨rfl, hc_al⟩), rfl, hF⟩) (Nat.le_of_ble_eq_true rfl) (Nat.le_of_ble_eq_true rfl) dX10_isCured_110
            · skip
              have cq22_ : yq17_.toInt < xq21_.toInt := cq22_
              refine lv_aload_n hx hb dX10_isCured_77 rfl (lv_at hl 2 rfl) ?_
              refine lv_iload_n hx hb dX10_isCured_78 rfl (lv_at hl 1 rfl) ?_
              refine lv_iload hx hb dX10_isCured_79 (lv_at hl 0 rfl) ?_
              have Jq29_ : ∀ vq28_ : Int32, (0 : Int) ≤ vq28_.toInt → vq28_.toInt ≤ 1 → W p l e (rmL 4 0 0) s m ([.ref h, .int bi, .int se] : List Value).toArray below meth c Hq_ lcq_ 0 0 (MQ below (va_Qi (fun r u => ∃ g : Nat → Int32, (Rng g ∧ Ke f g) ∧ ((r = 1 ∧ u.1 al = some (.inl (kA 0, 7506, .inl g))) ∨ (r = 0 ∧ u.1 al = some (.inl (kA 0, 7506, .inl g)))) ∧ u.2 = T ∧ (∀ q, FrK T q → q ≠ al → u.1 q = M q)) (mB D kA M T sz) (mA M T sz)) ([.ref h, .int bi, .int se] : List Value).toArray s 0 0 (mA M T sz)) (F0 m 96 ls [.int vq28_, .int yq17_, .int rq4_, .ref h]) := by
                intro vq28_ l_vq28_ g_vq28_
                obtain ⟨nq30_, hn_nq30_⟩ : ∃ n : Nat, yq17_.toInt = (n : Int) := ⟨(yq17_.toInt).toNat, by omega⟩
                refine goV hK hH (runV (As := [.int rq4_, .int yq17_, .int vq28_]) (rest := []) hC hK hH (c_X10_goes (xn := nq6_) (t := 1) (b := nq1_) (kn := nq30_) hc_h hn_h hc_al hn_al ht_mt ht_pa ht_li (by exact hR_Fq19_) (by decide) (by omega) (by have : (1 : Int32).toInt = 1 := rfl; omega) (by omega) (by omega) (by omega)) mlX10_63 (rcvM hK hH hc_h rfl) ⟨⟨Nat.le_of_ble_eq_true rfl, Nat.le_of_ble_eq_true rfl⟩, Nat.le_of_ble_eq_true rfl, Nat.le_of_ble_eq_true rfl⟩ rfl hl.1 rfl (Nat.le_of_ble_eq_true rfl) dX10_isCured_96) (fun Mq31_ Tq32_ Hq_ lcq_ hP hz hH => ?_)
                try dsimp only at hP
                obtain ⟨gq34_, h_gq34_, (hx_al), eT, hfr⟩ := hP
                have eT := eT.symm; subst eT
                have hc_h : Mq31_ h = some (.inr (8, [.ref al, .ref mt, .ref ii, .int ta, .int fpm, .ref pa, .int sm, .int nx, .int tk, .int pl, .int ln, .long va, .int wr, .ref li])) := (hfr h (Or.inl hn_h) n_h_al).trans hc_h
                have hc_al : Mq31_ al = some (.inl (kA 0, 7506, .inl gq34_)) := hx_al
                have hF : ∀ q, FrK T q → q ≠ al → Mq31_ q = M q := fun q hq h0 => (hfr q hq  h0).trans (hF q hq h0)
                have hR_gq34_ : Rng gq34_ := h_gq34_.1
                have hK_gq34_ : Ke f gq34_ := hK_Fq19_.tr h_gq34_.2
                obtain ⟨zq35_, e_zq35_⟩ : ∃ y : Int32, y = yq17_ + 1 := ⟨_, rfl⟩
                refine lv_iinc (v := zq35_) (lv' := [(4, .int zq35_), (3, .int rq4_), (0, .ref h), (1, .int bi), (2, .int se)]) hx hb dX10_isCured_99 hl (k := 0) rfl (by rw [e_zq35_]; rfl) (by decide) rfl (fun ls hl => ?_)
                have h_zq35_ : zq35_.toInt = yq17_.toInt + 1 := by rw [e_zq35_, iAdd (by have : (1 : Int32).toInt = 1 := rfl; omega) (by have : (1 : Int32).toInt = 1 := rfl; omega)]; rfl
                refine lv_goto (tgt := 63) hx hb dX10_isCured_102 (by decide) ?_
                exact ih zq35_ gq34_ _ _ _ ls (by have := iRg zq35_; omega) (by have := iRg zq35_; omega) (by have := iRg zq35_; omega) hR_gq34_ hK_gq34_ hc_h hc_al hF hH (lv_sub hl [0, 1, 2, 3, 4] rfl)
              refine lv_iload_n hx hb dX10_isCured_81 rfl (lv_at hl 4 rfl) ?_
              refine lv_iload hx hb dX10_isCured_82 (lv_at hl 0 rfl) ?_
              refine lv_ishr hx hb dX10_isCured_84 ?_
              refine lv_topi (fun zq36_ e_zq36_ => ?_)
              refine lv_iconst (v := 1) hx hb dX10_isCured_85 (by decide) ?_
              refine lv_iand hx hb dX10_isCured_86 ?_
              refine lv_topi (fun zq37_ e_zq37_ => ?_)
              refine lv_iconst (v := 1) hx hb dX10_isCured_87 (by decide) ?_
              refine jic_ne (tgt := 95) hx hb dX10_isCured_88 (by decide) (fun cq38_ => ?_) (fun cq38_ => ?_)
              · skip
                have cq38_ : zq37_.toInt ≠ 1 := cq38_
                refine lv_iconst (v := 0) hx hb dX10_isCured_95 (by decide) ?_
                exact Jq29_ 0 (by decide) (by decide)
              · skip
                have cq38_ : zq37_.toInt = 1 := cq38_
                refine lv_iconst (v := 1) hx hb dX10_isCured_91 (by decide) ?_
                refine lv_goto (tgt := 96) hx hb dX10_isCured_92 (by decide) ?_
                exact Jq29_ 1 (by decide) (by decide)
        exact loop (Int.toNat (13 - xq16_.toInt)) xq16_ gq14_ _ _ _ ls (by have := iRg xq16_; omega) (by have := iRg xq16_; omega) (by have := iRg xq16_; omega) hR_gq14_ hK_gq14_ hc_h hc_al hF hH hl
      · skip
        have cq10_ : yq7_.toInt < 280 := cq10_
        refine lv_aload_n hx hb dX10_isCured_19 rfl (lv_at hl 2 rfl) ?_
        refine xg hC hK hH flX10_7 hc_h rfl dX10_isCured_20 ?_
        refine lv_iload_n hx hb dX10_isCured_23 rfl (lv_at hl 1 rfl) ?_
        refine lv_iload hx hb dX10_isCured_24 (lv_at hl 0 rfl) ?_
        refine lv_iadd hx hb dX10_isCured_26 ?_
        refine lv_topi (fun zq39_ e_zq39_ => ?_)
        have h_zq39_ : zq39_.toInt = rq4_.toInt + yq7_.toInt := by rw [e_zq39_, iAdd (by have := iRg rq4_; have := iRg yq7_; omega) (by have := iRg rq4_; have := iRg yq7_; omega)]
        refine lv_aload_n hx hb dX10_isCured_27 rfl (lv_at hl 2 rfl) ?_
        refine xg hC hK hH flX10_7 hc_h rfl dX10_isCured_28 ?_
        refine lv_iconst (v := 0) hx hb dX10_isCured_31 (by decide) ?_
        refine lv_iload_n hx hb dX10_isCured_32 rfl (lv_at hl 3 rfl) ?_
        refine goI hK hH (runS (As := [.int 0, .int bi]) (rest := [.ref al, .int zq39_, .ref al]) hC hK hH (c_X10_at (by decide) (by omega)) mlX10_109 ⟨⟨Nat.le_of_ble_eq_true rfl, Nat.le_of_ble_eq_true rfl⟩, Nat.le_of_ble_eq_true rfl, Nat.le_of_ble_eq_true rfl⟩ rfl hl.1 rfl (Nat.le_of_ble_eq_true rfl) dX10_isCured_33) (fun rq42_ Mq40_ Tq41_ Hq_ lcq_ hP hz hH => ?_)
        try dsimp only at hP
        obtain ⟨(⟨cq43_, ⟨l_rq42_, g_rq42_⟩⟩), eT, eM⟩ := hP
        have eT := eT.symm; subst eT
        have eM := eM.symm; subst eM
        have cq43_ : rq42_.toInt = (0 : Int) + 20 + 280 * bi.toInt := cq43_
        obtain ⟨nq44_, hn_nq44_⟩ : ∃ n : Nat, n = 1140 * 0 + 20 + 280 * nq1_ := ⟨_, rfl⟩
        have hx_rq42_ : rq42_.toInt = (nq44_ : Int) := by have : (0 : Int32).toInt = 0 := rfl; omega
        refine lv_iload hx hb dX10_isCured_36 (lv_at hl 0 rfl) ?_
        refine lv_iadd hx hb dX10_isCured_38 ?_
        refine lv_topi (fun zq45_ e_zq45_ => ?_)
        have h_zq45_ : zq45_.toInt = rq42_.toInt + yq7_.toInt := by rw [e_zq45_, iAdd (by have := iRg rq42_; have := iRg yq7_; omega) (by have := iRg rq42_; have := iRg yq7_; omega)]
        refine xild hC hK hH hc_al (iIn (by omega) (by omega)) dX10_isCured_39 ?_
        refine lv_topi (fun xq46_ e_xq46_ => ?_)
        refine yist (x := xq46_) hC hK hH hc_al (noT hn_al) (iIn (by omega) (by omega)) dX10_isCured_40 (fun Hq_ lcq_ Mq47_ hc_al hfr hH => ?_)
        have hc_al : Mq47_ al = some (.inl (kA 0, 7506, .inl (upd Fq9_ (Int32.toNatClampNeg zq39_) xq46_))) := hc_al
        have hc_h : Mq47_ h = some (.inr (8, [.ref al, .ref mt, .ref ii, .int ta, .int fpm, .ref pa, .int sm, .int nx, .int tk, .int pl, .int ln, .long va, .int wr, .ref li])) := (hfr h n_h_al).trans hc_h
        have hF : ∀ q, FrK T q → q ≠ al → Mq47_ q = M q := fun q hq h0 => (hfr q h0).trans (hF q hq h0)
        obtain ⟨gq48_, e_gq48_⟩ : ∃ g : Nat → Int32, g = upd Fq9_ (Int32.toNatClampNeg zq39_) xq46_ := ⟨_, rfl⟩
        rw [← e_gq48_] at hc_al
        obtain ⟨nq49_, hn_nq49_⟩ : ∃ n : Nat, yq7_.toInt = (n : Int) := ⟨(yq7_.toInt).toNat, by omega⟩
        have hR_gq48_ : Rng gq48_ := by rw [e_gq48_]; exact hR_Fq9_.uC (j := nq44_ + nq49_) (by rw [e_xq46_, clE (n := nq44_ + nq49_) (by omega)]) (by omega) (by rw [clE (n := nq6_ + nq49_) (by omega), rgX (t := 1) (b := nq1_) (xn := nq6_) (by omega) (by omega) (by omega) (by omega), rgX (t := 0) (b := nq1_) (xn := nq44_) (by omega) (by omega) (by omega) (by omega)])
        have hK_gq48_ : Ke f gq48_ := by rw [e_gq48_]; exact hK_Fq9_.up (by have := iCl (x := zq39_) (by omega); omega)
        obtain ⟨zq50_, e_zq50_⟩ : ∃ y : Int32, y = yq7_ + 1 := ⟨_, rfl⟩
        refine lv_iinc (v := zq50_) (lv' := [(4, .int zq50_), (3, .int rq4_), (0, .ref h), (1, .int bi), (2, .int se)]) hx hb dX10_isCured_41 hl (k := 0) rfl (by rw [e_zq50_]; rfl) (by decide) rfl (fun ls hl => ?_)
        have h_zq50_ : zq50_.toInt = yq7_.toInt + 1 := by rw [e_zq50_, iAdd (by have : (1 : Int32).toInt = 1 := rfl; omega) (by have : (1 : Int32).toInt = 1 := rfl; omega)]; rfl
        refine lv_goto (tgt := 11) hx hb dX10_isCured_44 (by decide) ?_
        exact ih zq50_ gq48_ _ _ _ ls (by have := iRg zq50_; omega) (by have := iRg zq50_; omega) (by have := iRg zq50_; omega) hR_gq48_ hK_gq48_ hc_h hc_al hF hH (lv_sub hl [0, 1, 2, 3, 4] rfl)
  exact loop (Int.toNat (281 - 0)) 0 f _ _ _ ls (by have : (0 : Int32).toInt = 0 := rfl; omega) (by have : (0 : Int32).toInt = 0 := rfl; omega) (by have : (0 : Int32).toInt = 0 := rfl; omega) hR_f hK_f hc_h hc_al hF hH hl
set_option maxHeartbeats 4000000 in
set_option maxRecDepth 100000 in
theorem c_X10_cure {l : Launch} {D : va_G} {kA : Nat → ClassId} {M : mM} {T : mT} {sz : Nat} {h al mt ii pa li : Nat} {ta fpm sm nx tk pl ln wr : Int32} {va : Int64} {f : Nat → Int32} {bi : Int32} (hc_h : M h = some (.inr (8, [.ref al, .ref mt, .ref ii, .int ta, .int fpm, .ref pa, .int sm, .int nx, .int tk, .int pl, .int ln, .long va, .int wr, .ref li]))) (hn_h : T h = none) (hc_al : M al = some (.inl (kA 0, 7506, .inl f))) (hn_al : T al = none) (ht_mt : T mt = some 11) (ht_pa : T pa = some 13) (ht_li : T li = some 14) (hR_f : Rng f) (hbi : 0 ≤ bi.toInt ∧ bi.toInt ≤ 3) : mCi l yX10_cure cX10_cure 6 (some .int) 5 0 0 D kA M T sz [.ref h, .int bi] (fun r u => ∃ g : Nat → Int32, (Rng g ∧ Ke f g) ∧ (u.1 al = some (.inl (kA 0, 7506, .inl g))) ∧ u.2 = T ∧ (∀ q, FrK T q → q ≠ al → u.1 q = M q)) := by
  unfold mCi
  refine start_W (by decide) (Nat.le_of_ble_eq_true rfl) ?_
  intro p e s m below meth c ls hC hr hlk hnm hK hH hsz hl
  have hx := hC.1
  have hb := hC.2.1
  have hl : lv_has ls 6 [(0, .ref h), (1, .int bi)] := hl
  have hF : ∀ q, FrK T q → q ≠ al → M q = M q := fun q _ _ => rfl
  have n_h_al : h ≠ al := neM hc_h hc_al (by simp)
  have n_al_h : al ≠ h := neM hc_al hc_h (by simp)
  have hK_f : Ke f f := Ke.rf
  refine lv_iconst (v := 0) hx hb dX10_cure_0 (by decide) ?_
  refine lv_iload_n hx hb dX10_cure_1 rfl (lv_at hl 1 rfl) ?_
  obtain ⟨nq1_, hn_nq1_⟩ : ∃ n : Nat, bi.toInt = (n : Int) := ⟨(bi.toInt).toNat, by omega⟩
  refine goI hK hH (runS (As := [.int 0, .int bi]) (rest := []) hC hK hH (c_X10_at (by decide) (by omega)) mlX10_109 ⟨⟨Nat.le_of_ble_eq_true rfl, Nat.le_of_ble_eq_true rfl⟩, Nat.le_of_ble_eq_true rfl, Nat.le_of_ble_eq_true rfl⟩ rfl hl.1 rfl (Nat.le_of_ble_eq_true rfl) dX10_cure_2) (fun rq4_ Mq2_ Tq3_ Hq_ lcq_ hP hz hH => ?_)
  try dsimp only at hP
  obtain ⟨(⟨cq5_, ⟨l_rq4_, g_rq4_⟩⟩), eT, eM⟩ := hP
  have eT := eT.symm; subst eT
  have eM := eM.symm; subst eM
  have cq5_ : rq4_.toInt = (0 : Int) + 20 + 280 * bi.toInt := cq5_
  obtain ⟨nq6_, hn_nq6_⟩ : ∃ n : Nat, n = 1140 * 0 + 20 + 280 * nq1_ := ⟨_, rfl⟩
  have hx_rq4_ : rq4_.toInt = (nq6_ : Int) := by have : (0 : Int32).toInt = 0 := rfl; omega
  refine lv_istore_n (lv' := [(2, .int rq4_), (0, .ref h), (1, .int bi)]) hx hb dX10_cure_5 rfl hl (by decide) rfl (fun ls hl => ?_)
  refine lv_iconst (v := 0) hx hb dX10_cure_6 (by decide) ?_
  refine lv_istore_n (lv' := [(3, .int 0), (2, .int rq4_), (0, .ref h), (1, .int bi)]) hx hb dX10_cure_7 rfl hl (by decide) rfl (fun ls hl => ?_)
  refine lv_aload_n hx hb dX10_cure_8 rfl (lv_at hl 2 rfl) ?_
  refine xg hC hK hH flX10_7 hc_h rfl dX10_cure_9 ?_
  refine lv_iload_n hx hb dX10_cure_12 rfl (lv_at hl 1 rfl) ?_
  refine lv_bipush (v := 18) hx hb dX10_cure_13 (by decide) ?_
  refine lv_iadd hx hb dX10_cure_15 ?_
  refine lv_topi (fun zq7_ e_zq7_ => ?_)
  have h_zq7_ : zq7_.toInt = rq4_.toInt + 18 := by rw [e_zq7_, iAdd (by have := iRg rq4_; have : (18 : Int32).toInt = 18 := rfl; omega) (by have := iRg rq4_; have : (18 : Int32).toInt = 18 := rfl; omega)]; rfl
  refine xild hC hK hH hc_al (iIn (by omega) (by omega)) dX10_cure_16 ?_
  refine lv_topi (fun xq8_ e_xq8_ => ?_)
  have k_xq8_ : xq8_ = f (nq6_ + 18) := by rw [e_xq8_, clE (n := nq6_ + 18) (by omega)]
  have kt_xq8_ : xq8_.toInt = (f (nq6_ + 18)).toInt := by rw [k_xq8_]
  have rr_xq8_ : (0 : Int) ≤ (f (nq6_ + 18)).toInt ∧ (f (nq6_ + 18)).toInt ≤ 12 := hR_f.rO 18 (t := 0) (b := nq1_) (xn := nq6_) (by omega) (by omega) (by omega) (by decide) rfl
  have l_xq8_ : (0 : Int) ≤ xq8_.toInt := by rw [kt_xq8_, show nq6_ + 18 = nq6_ + 18 from by omega]; exact rr_xq8_.1
  have g_xq8_ : xq8_.toInt ≤ 12 := by rw [kt_xq8_, show nq6_ + 18 = nq6_ + 18 from by omega]; exact rr_xq8_.2
  refine lv_istore (lv' := [(4, .int xq8_), (3, .int 0), (2, .int rq4_), (0, .ref h), (1, .int bi)]) hx hb dX10_cure_17 hl (by decide) rfl (fun ls hl => ?_)
  have loop : ∀ (n : Nat) (yq9_ : Int32) (yq10_ : Int32) (Fq12_ : Nat → Int32) (Hq_ : Heap) (lcq_ : List Loc) (Mq11_ : mM) (ls : Array Slot), 13 - yq10_.toInt ≤ (n : Int) → (0 : Int) ≤ yq10_.toInt → yq10_.toInt ≤ 12 → Rng Fq12_ → Ke f Fq12_ → Mq11_ h = some (.inr (8, [.ref al, .ref mt, .ref ii, .int ta, .int fpm, .ref pa, .int sm, .int nx, .int tk, .int pl, .int ln, .long va, .int wr, .ref li])) → Mq11_ al = some (.inl (kA 0, 7506, .inl Fq12_)) → (∀ q, FrK T q → q ≠ al → Mq11_ q = M q) → mS D kA Mq11_ T (mA M T sz) s.heap Hq_ lcq_ → lv_has ls 6 [(4, .int yq10_), (3, .int yq9_), (2, .int rq4_), (0, .ref h), (1, .int bi)] → W p l e (rmL 5 0 0) s m ([.ref h, .int bi] : List Value).toArray below meth c Hq_ lcq_ 0 0 (MQ below (va_Qi (fun r u => ∃ g : Nat → Int32, (Rng g ∧ Ke f g) ∧ (u.1 al = some (.inl (kA 0, 7506, .inl g))) ∧ u.2 = T ∧ (∀ q, FrK T q → q ≠ al → u.1 q = M q)) (mB D kA M T sz) (mA M T sz)) ([.ref h, .int bi] : List Value).toArray s 0 0 (mA M T sz)) (F0 m 19 ls []) := by
    intro n
    induction n with
    | zero =>
      intro yq9_ yq10_ Fq12_ Hq_ lcq_ Mq11_ ls hme l_yq10_ g_yq10_ hR_Fq12_ hK_Fq12_ hc_h hc_al hF hH hl
      exfalso; omega
    | succ n ih =>
      intro yq9_ yq10_ Fq12_ Hq_ lcq_ Mq11_ ls hme l_yq10_ g_yq10_ hR_Fq12_ hK_Fq12_ hc_h hc_al hF hH hl
      refine lv_iload hx hb dX10_cure_19 (lv_at hl 0 rfl) ?_
      refine lv_aload_n hx hb dX10_cure_21 rfl (lv_at hl 3 rfl) ?_
      refine xg hC hK hH flX10_7 hc_h rfl dX10_cure_22 ?_
      refine lv_iload_n hx hb dX10_cure_25 rfl (lv_at hl 2 rfl) ?_
      refine lv_bipush (v := 8) hx hb dX10_cure_26 (by decide) ?_
      refine lv_iadd hx hb dX10_cure_28 ?_
      refine lv_topi (fun zq13_ e_zq13_ => ?_)
      have h_zq13_ : zq13_.toInt = rq4_.toInt + 8 := by rw [e_zq13_, iAdd (by have := iRg rq4_; have : (8 : Int32).toInt = 8 := rfl; omega) (by have := iRg rq4_; have : (8 : Int32).toInt = 8 := rfl; omega)]; rfl
      refine xild hC hK hH hc_al (iIn (by omega) (by omega)) dX10_cure_29 ?_
      refine lv_topi (fun xq14_ e_xq14_ => ?_)
      have k_xq14_ : xq14_ = Fq12_ (nq6_ + 8) := by rw [e_xq14_, clE (n := nq6_ + 8) (by omega)]
      have kt_xq14_ : xq14_.toInt = (Fq12_ (nq6_ + 8)).toInt := by rw [k_xq14_]
      have rr_xq14_ : (0 : Int) ≤ (Fq12_ (nq6_ + 8)).toInt ∧ (Fq12_ (nq6_ + 8)).toInt ≤ 12 := hR_Fq12_.rO 8 (t := 0) (b := nq1_) (xn := nq6_) (by omega) (by omega) (by omega) (by decide) rfl
      have l_xq14_ : (0 : Int) ≤ xq14_.toInt := by rw [kt_xq14_, show nq6_ + 8 = nq6_ + 8 from by omega]; exact rr_xq14_.1
      have g_xq14_ : xq14_.toInt ≤ 12 := by rw [kt_xq14_, show nq6_ + 8 = nq6_ + 8 from by omega]; exact rr_xq14_.2
      refine jic_ge (tgt := 59) hx hb dX10_cure_30 (by decide) (fun cq15_ => ?_) (fun cq15_ => ?_)
      · skip
        have cq15_ : xq14_.toInt ≤ yq10_.toInt := cq15_
        refine lv_iconst (v := -1) hx hb dX10_cure_59 (by decide) ?_
        refine lv_istore (lv' := [(4, .int (-1)), (3, .int yq9_), (2, .int rq4_), (0, .ref h), (1, .int bi)]) hx hb dX10_cure_60 hl (by decide) rfl (fun ls hl => ?_)
        refine lv_iconst (v := 0) hx hb dX10_cure_62 (by decide) ?_
        refine lv_istore (lv' := [(5, .int 0), (4, .int (-1)), (3, .int yq9_), (2, .int rq4_), (0, .ref h), (1, .int bi)]) hx hb dX10_cure_63 hl (by decide) rfl (fun ls hl => ?_)
        have loop : ∀ (n : Nat) (yq16_ : Int32) (yq17_ : Int32) (Fq19_ : Nat → Int32) (Hq_ : Heap) (lcq_ : List Loc) (Mq18_ : mM) (ls : Array Slot), 4097 - yq17_.toInt ≤ (n : Int) → (0 : Int) ≤ yq17_.toInt → yq17_.toInt ≤ 4096 → Rng Fq19_ → Ke f Fq19_ → Mq18_ h = some (.inr (8, [.ref al, .ref mt, .ref ii, .int ta, .int fpm, .ref pa, .int sm, .int nx, .int tk, .int pl, .int ln, .long va, .int wr, .ref li])) → Mq18_ al = some (.inl (kA 0, 7506, .inl Fq19_)) → (∀ q, FrK T q → q ≠ al → Mq18_ q = M q) → mS D kA Mq18_ T (mA M T sz) s.heap Hq_ lcq_ → lv_has ls 6 [(5, .int yq17_), (4, .int yq16_), (3, .int yq9_), (2, .int rq4_), (0, .ref h), (1, .int bi)] → W p l e (rmL 5 0 0) s m ([.ref h, .int bi] : List Value).toArray below meth c Hq_ lcq_ 0 0 (MQ below (va_Qi (fun r u => ∃ g : Nat → Int32, (Rng g ∧ Ke f g) ∧ (u.1 al = some (.inl (kA 0, 7506, .inl g))) ∧ u.2 = T ∧ (∀ q, FrK T q → q ≠ al → u.1 q = M q)) (mB D kA M T sz) (mA M T sz)) ([.ref h, .int bi] : List Value).toArray s 0 0 (mA M T sz)) (F0 m 65 ls []) := by
          intro n
          induction n with
          | zero =>
            intro yq16_ yq17_ Fq19_ Hq_ lcq_ Mq18_ ls hme l_yq17_ g_yq17_ hR_Fq19_ hK_Fq19_ hc_h hc_al hF hH hl
            exfalso; omega
          | succ n ih =>
            intro yq16_ yq17_ Fq19_ Hq_ lcq_ Mq18_ ls hme l_yq17_ g_yq17_ hR_Fq19_ hK_Fq19_ hc_h hc_al hF hH hl
            refine lv_iload hx hb dX10_cure_65 (lv_at hl 0 rfl) ?_
            refine lv_sipush (v := 4096) hx hb dX10_cure_67 (by decide) ?_
            refine jic_ge (tgt := 123) hx hb dX10_cure_70 (by decide) (fun cq20_ => ?_) (fun cq20_ => ?_)
            · skip
              have cq20_ : 4096 ≤ yq17_.toInt := cq20_
              refine lv_iload hx hb dX10_cure_123 (lv_at hl 1 rfl) ?_
              exact ret_i hC hr hlk hK hH (⟨Fq19_, ⟨hR_Fq19_, hK_Fq19_⟩, hc_al, rfl, hF⟩) (Nat.le_of_ble_eq_true rfl) (Nat.le_of_ble_eq_true rfl) dX10_cure_125
            · skip
              have cq20_ : yq17_.toInt < 4096 := cq20_
              refine lv_iload hx hb dX10_cure_73 (lv_at hl 0 rfl) ?_
              refine lv_iload_n hx hb dX10_cure_75 rfl (lv_at hl 2 rfl) ?_
              refine lv_iconst (v := -1) hx hb dX10_cure_76 (by decide) ?_
              refine lv_ixor hx hb dX10_cure_77 ?_
              refine lv_topi (fun zq21_ e_zq21_ => ?_)
              refine lv_iand hx hb dX10_cure_78 ?_
              refine lv_topi (fun zq22_ e_zq22_ => ?_)
              refine jif_ne (tgt := 117) hx hb dX10_cure_79 (by decide) (fun cq23_ => ?_) (fun cq23_ => ?_)
              · skip
                have cq23_ : zq22_.toInt ≠ 0 := cq23_
                obtain ⟨zq24_, e_zq24_⟩ : ∃ y : Int32, y = yq17_ + 1 := ⟨_, rfl⟩
                refine lv_iinc (v := zq24_) (lv' := [(5, .int zq24_), (4, .int yq16_), (3, .int yq9_), (2, .int rq4_), (0, .ref h), (1, .int bi)]) hx hb dX10_cure_117 hl (k := 0) rfl (by rw [e_zq24_]; rfl) (by decide) rfl (fun ls hl => ?_)
                have h_zq24_ : zq24_.toInt = yq17_.toInt + 1 := by rw [e_zq24_, iAdd (by have : (1 : Int32).toInt = 1 := rfl; omega) (by have : (1 : Int32).toInt = 1 := rfl; omega)]; rfl
                refine lv_goto (tgt := 65) hx hb dX10_cure_120 (by decide) ?_
                exact ih yq16_ zq24_ Fq19_ _ _ _ ls (by have := iRg yq16_; have := iRg zq24_; omega) (by have := iRg yq16_; have := iRg zq24_; omega) (by have := iRg yq16_; have := iRg zq24_; omega) hR_Fq19_ hK_Fq19_ hc_h hc_al hF hH (lv_sub hl [0, 1, 2, 3, 4, 5] rfl)
              · skip
                have cq23_ : zq22_.toInt = 0 := cq23_
                refine lv_iload hx hb dX10_cure_82 (lv_at hl 1 rfl) ?_
                refine jif_lt (tgt := 100) hx hb dX10_cure_84 (by decide) (fun cq25_ => ?_) (fun cq25_ => ?_)
                · skip
                  have cq25_ : yq16_.toInt < 0 := cq25_
                  refine lv_aload_n hx hb dX10_cure_100 rfl (lv_at hl 4 rfl) ?_
                  refine lv_iload_n hx hb dX10_cure_101 rfl (lv_at hl 5 rfl) ?_
                  refine lv_iload hx hb dX10_cure_102 (lv_at hl 0 rfl) ?_
                  refine goI hK hH (runV (As := [.int bi, .int yq17_]) (rest := []) hC hK hH (c_X10_isCured hc_h hn_h hc_al hn_al ht_mt ht_pa ht_li (by exact hR_Fq19_) (by omega)) mlX10_174 (rcvM hK hH hc_h rfl) ⟨⟨Nat.le_of_ble_eq_true rfl, Nat.le_of_ble_eq_true rfl⟩, Nat.le_of_ble_eq_true rfl, Nat.le_of_ble_eq_true rfl⟩ rfl hl.1 rfl (Nat.le_of_ble_eq_true rfl) dX10_cure_104) (fun rq28_ Mq26_ Tq27_ Hq_ lcq_ hP hz hH => ?_)
                  try dsimp only at hP
                  obtain ⟨gq29_, h_gq29_, (⟨er_rq28_, hx_al⟩ | ⟨er_rq28_, hx_al⟩), eT, hfr⟩ := hP
                  · skip
                    have eT := eT.symm; subst eT
                    have er_rq28_ := er_rq28_.symm; subst er_rq28_
                    have hc_h : Mq26_ h = some (.inr (8, [.ref al, .ref mt, .ref ii, .int ta, .int fpm, .ref pa, .int sm, .int nx, .int tk, .int pl, .int ln, .long va, .int wr, .ref li])) := (hfr h (Or.inl hn_h) n_h_al).trans hc_h
                    have hc_al : Mq26_ al = some (.inl (kA 0, 7506, .inl gq29_)) := hx_al
                    have hF : ∀ q, FrK T q → q ≠ al → Mq26_ q = M q := fun q hq h0 => (hfr q hq  h0).trans (hF q hq h0)
                    have hR_gq29_ : Rng gq29_ := h_gq29_.1
                    have hK_gq29_ : Ke f gq29_ := hK_Fq19_.tr h_gq29_.2
                    refine jif_eq (tgt := 117) hx hb dX10_cure_107 (by decide) (fun cq30_ => absurd cq30_ (by decide)) (fun cq30_ => ?_)
                    refine lv_iload hx hb dX10_cure_110 (lv_at hl 0 rfl) ?_
                    refine goI hK hH (runS (As := [.int yq17_]) (rest := []) hC hK hH (c_X10_bitsOf (by omega)) mlX10_171 ⟨⟨Nat.le_of_ble_eq_true rfl, Nat.le_of_ble_eq_true rfl⟩, Nat.le_of_ble_eq_true rfl, Nat.le_of_ble_eq_true rfl⟩ rfl hl.1 rfl (Nat.le_of_ble_eq_true rfl) dX10_cure_112) (fun rq33_ Mq31_ Tq32_ Hq_ lcq_ hP hz hH => ?_)
                    try dsimp only at hP
                    obtain ⟨(-), eT, eM⟩ := hP
                    have eT := eT.symm; subst eT
                    have eM := eM.symm; subst eM
                    refine lv_istore (lv' := [(4, .int rq33_), (5, .int yq17_), (3, .int yq9_), (2, .int rq4_), (0, .ref h), (1, .int bi)]) hx hb dX10_cure_115 hl (by decide) rfl (fun ls hl => ?_)
                    obtain ⟨zq34_, e_zq34_⟩ : ∃ y : Int32, y = yq17_ + 1 := ⟨_, rfl⟩
                    refine lv_iinc (v := zq34_) (lv' := [(5, .int zq34_), (4, .int rq33_), (3, .int yq9_), (2, .int rq4_), (0, .ref h), (1, .int bi)]) hx hb dX10_cure_117 hl (k := 1) rfl (by rw [e_zq34_]; rfl) (by decide) rfl (fun ls hl => ?_)
                    have h_zq34_ : zq34_.toInt = yq17_.toInt + 1 := by rw [e_zq34_, iAdd (by have : (1 : Int32).toInt = 1 := rfl; omega) (by have : (1 : Int32).toInt = 1 := rfl; omega)]; rfl
                    refine lv_goto (tgt := 65) hx hb dX10_cure_120 (by decide) ?_
                    exact ih rq33_ zq34_ gq29_ _ _ _ ls (by have := iRg rq33_; have := iRg zq34_; omega) (by have := iRg rq33_; have := iRg zq34_; omega) (by have := iRg rq33_; have := iRg zq34_; omega) hR_gq29_ hK_gq29_ hc_h hc_al hF hH (lv_sub hl [0, 1, 2, 3, 4, 5] rfl)
                  · skip
                    have eT := eT.symm; subst eT
                    have er_rq28_ := er_rq28_.symm; subst er_rq28_
                    have hc_h : Mq26_ h = some (.inr (8, [.ref al, .ref mt, .ref ii, .int ta, .int fpm, .ref pa, .int sm, .int nx, .int tk, .int pl, .int ln, .long va, .int wr, .ref li])) := (hfr h (Or.inl hn_h) n_h_al).trans hc_h
                    have hc_al : Mq26_ al = some (.inl (kA 0, 7506, .inl gq29_)) := hx_al
                    have hF : ∀ q, FrK T q → q ≠ al → Mq26_ q = M q := fun q hq h0 => (hfr q hq  h0).trans (hF q hq h0)
                    have hR_gq29_ : Rng gq29_ := h_gq29_.1
                    have hK_gq29_ : Ke f gq29_ := hK_Fq19_.tr h_gq29_.2
                    refine jif_eq (tgt := 117) hx hb dX10_cure_107 (by decide) (fun cq35_ => ?_) (fun cq35_ => absurd cq35_ (by decide))
                    obtain ⟨zq36_, e_zq36_⟩ : ∃ y : Int32, y = yq17_ + 1 := ⟨_, rfl⟩
                    refine lv_iinc (v := zq36_) (lv' := [(5, .int zq36_), (4, .int yq16_), (3, .int yq9_), (2, .int rq4_), (0, .ref h), (1, .int bi)]) hx hb dX10_cure_117 hl (k := 0) rfl (by rw [e_zq36_]; rfl) (by decide) rfl (fun ls hl => ?_)
                    have h_zq36_ : zq36_.toInt = yq17_.toInt + 1 := by rw [e_zq36_, iAdd (by have : (1 : Int32).toInt = 1 := rfl; omega) (by have : (1 : Int32).toInt = 1 := rfl; omega)]; rfl
                    refine lv_goto (tgt := 65) hx hb dX10_cure_120 (by decide) ?_
                    exact ih yq16_ zq36_ gq29_ _ _ _ ls (by have := iRg yq16_; have := iRg zq36_; omega) (by have := iRg yq16_; have := iRg zq36_; omega) (by have := iRg yq16_; have := iRg zq36_; omega) hR_gq29_ hK_gq29_ hc_h hc_al hF hH (lv_sub hl [0, 1, 2, 3, 4, 5] rfl)
                · skip
                  have cq25_ : 0 ≤ yq16_.toInt := cq25_
                  refine lv_iload hx hb dX10_cure_87 (lv_at hl 0 rfl) ?_
                  refine goI hK hH (runS (As := [.int yq17_]) (rest := []) hC hK hH (c_X10_bitsOf (by omega)) mlX10_171 ⟨⟨Nat.le_of_ble_eq_true rfl, Nat.le_of_ble_eq_true rfl⟩, Nat.le_of_ble_eq_true rfl, Nat.le_of_ble_eq_true rfl⟩ rfl hl.1 rfl (Nat.le_of_ble_eq_true rfl) dX10_cure_89) (fun rq39_ Mq37_ Tq38_ Hq_ lcq_ hP hz hH => ?_)
                  try dsimp only at hP
                  obtain ⟨(-), eT, eM⟩ := hP
                  have eT := eT.symm; subst eT
                  have eM := eM.symm; subst eM
                  refine lv_iload hx hb dX10_cure_92 (lv_at hl 1 rfl) ?_
                  refine jic_lt (tgt := 100) hx hb dX10_cure_94 (by decide) (fun cq40_ => ?_) (fun cq40_ => ?_)
                  · skip
                    have cq40_ : rq39_.toInt < yq16_.toInt := cq40_
                    refine lv_aload_n hx hb dX10_cure_100 rfl (lv_at hl 4 rfl) ?_
                    refine lv_iload_n hx hb dX10_cure_101 rfl (lv_at hl 5 rfl) ?_
                    refine lv_iload hx hb dX10_cure_102 (lv_at hl 0 rfl) ?_
                    refine goI hK hH (runV (As := [.int bi, .int yq17_]) (rest := []) hC hK hH (c_X10_isCured hc_h hn_h hc_al hn_al ht_mt ht_pa ht_li (by exact hR_Fq19_) (by omega)) mlX10_174 (rcvM hK hH hc_h rfl) ⟨⟨Nat.le_of_ble_eq_true rfl, Nat.le_of_ble_eq_true rfl⟩, Nat.le_of_ble_eq_true rfl, Nat.le_of_ble_eq_true rfl⟩ rfl hl.1 rfl (Nat.le_of_ble_eq_true rfl) dX10_cure_104) (fun rq43_ Mq41_ Tq42_ Hq_ lcq_ hP hz hH => ?_)
                    try dsimp only at hP
                    obtain ⟨gq44_, h_gq44_, (⟨er_rq43_, hx_al⟩ | ⟨er_rq43_, hx_al⟩), eT, hfr⟩ := hP
                    · skip
                      have eT := eT.symm; subst eT
                      have er_rq43_ := er_rq43_.symm; subst er_rq43_
                      have hc_h : Mq41_ h = some (.inr (8, [.ref al, .ref mt, .ref ii, .int ta, .int fpm, .ref pa, .int sm, .int nx, .int tk, .int pl, .int ln, .long va, .int wr, .ref li])) := (hfr h (Or.inl hn_h) n_h_al).trans hc_h
                      have hc_al : Mq41_ al = some (.inl (kA 0, 7506, .inl gq44_)) := hx_al
                      have hF : ∀ q, FrK T q → q ≠ al → Mq41_ q = M q := fun q hq h0 => (hfr q hq  h0).trans (hF q hq h0)
                      have hR_gq44_ : Rng gq44_ := h_gq44_.1
                      have hK_gq44_ : Ke f gq44_ := hK_Fq19_.tr h_gq44_.2
                      refine jif_eq (tgt := 117) hx hb dX10_cure_107 (by decide) (fun cq45_ => absurd cq45_ (by decide)) (fun cq45_ => ?_)
                      refine lv_iload hx hb dX10_cure_110 (lv_at hl 0 rfl) ?_
                      refine goI hK hH (runS (As := [.int yq17_]) (rest := []) hC hK hH (c_X10_bitsOf (by omega)) mlX10_171 ⟨⟨Nat.le_of_ble_eq_true rfl, Nat.le_of_ble_eq_true rfl⟩, Nat.le_of_ble_eq_true rfl, Nat.le_of_ble_eq_true rfl⟩ rfl hl.1 rfl (Nat.le_of_ble_eq_true rfl) dX10_cure_112) (fun rq48_ Mq46_ Tq47_ Hq_ lcq_ hP hz hH => ?_)
                      try dsimp only at hP
                      obtain ⟨(-), eT, eM⟩ := hP
                      have eT := eT.symm; subst eT
                      have eM := eM.symm; subst eM
                      refine lv_istore (lv' := [(4, .int rq48_), (5, .int yq17_), (3, .int yq9_), (2, .int rq4_), (0, .ref h), (1, .int bi)]) hx hb dX10_cure_115 hl (by decide) rfl (fun ls hl => ?_)
                      obtain ⟨zq49_, e_zq49_⟩ : ∃ y : Int32, y = yq17_ + 1 := ⟨_, rfl⟩
                      refine lv_iinc (v := zq49_) (lv' := [(5, .int zq49_), (4, .int rq48_), (3, .int yq9_), (2, .int rq4_), (0, .ref h), (1, .int bi)]) hx hb dX10_cure_117 hl (k := 1) rfl (by rw [e_zq49_]; rfl) (by decide) rfl (fun ls hl => ?_)
                      have h_zq49_ : zq49_.toInt = yq17_.toInt + 1 := by rw [e_zq49_, iAdd (by have : (1 : Int32).toInt = 1 := rfl; omega) (by have : (1 : Int32).toInt = 1 := rfl; omega)]; rfl
                      refine lv_goto (tgt := 65) hx hb dX10_cure_120 (by decide) ?_
                      exact ih rq48_ zq49_ gq44_ _ _ _ ls (by have := iRg rq48_; have := iRg zq49_; omega) (by have := iRg rq48_; have := iRg zq49_; omega) (by have := iRg rq48_; have := iRg zq49_; omega) hR_gq44_ hK_gq44_ hc_h hc_al hF hH (lv_sub hl [0, 1, 2, 3, 4, 5] rfl)
                    · skip
                      have eT := eT.symm; subst eT
                      have er_rq43_ := er_rq43_.symm; subst er_rq43_
                      have hc_h : Mq41_ h = some (.inr (8, [.ref al, .ref mt, .ref ii, .int ta, .int fpm, .ref pa, .int sm, .int nx, .int tk, .int pl, .int ln, .long va, .int wr, .ref li])) := (hfr h (Or.inl hn_h) n_h_al).trans hc_h
                      have hc_al : Mq41_ al = some (.inl (kA 0, 7506, .inl gq44_)) := hx_al
                      have hF : ∀ q, FrK T q → q ≠ al → Mq41_ q = M q := fun q hq h0 => (hfr q hq  h0).trans (hF q hq h0)
                      have hR_gq44_ : Rng gq44_ := h_gq44_.1
                      have hK_gq44_ : Ke f gq44_ := hK_Fq19_.tr h_gq44_.2
                      refine jif_eq (tgt := 117) hx hb dX10_cure_107 (by decide) (fun cq50_ => ?_) (fun cq50_ => absurd cq50_ (by decide))
                      obtain ⟨zq51_, e_zq51_⟩ : ∃ y : Int32, y = yq17_ + 1 := ⟨_, rfl⟩
                      refine lv_iinc (v := zq51_) (lv' := [(5, .int zq51_), (4, .int yq16_), (3, .int yq9_), (2, .int rq4_), (0, .ref h), (1, .int bi)]) hx hb dX10_cure_117 hl (k := 0) rfl (by rw [e_zq51_]; rfl) (by decide) rfl (fun ls hl => ?_)
                      have h_zq51_ : zq51_.toInt = yq17_.toInt + 1 := by rw [e_zq51_, iAdd (by have : (1 : Int32).toInt = 1 := rfl; omega) (by have : (1 : Int32).toInt = 1 := rfl; omega)]; rfl
                      refine lv_goto (tgt := 65) hx hb dX10_cure_120 (by decide) ?_
                      exact ih yq16_ zq51_ gq44_ _ _ _ ls (by have := iRg yq16_; have := iRg zq51_; omega) (by have := iRg yq16_; have := iRg zq51_; omega) (by have := iRg yq16_; have := iRg zq51_; omega) hR_gq44_ hK_gq44_ hc_h hc_al hF hH (lv_sub hl [0, 1, 2, 3, 4, 5] rfl)
                  · skip
                    have cq40_ : yq16_.toInt ≤ rq39_.toInt := cq40_
                    refine lv_goto (tgt := 117) hx hb dX10_cure_97 (by decide) ?_
                    obtain ⟨zq52_, e_zq52_⟩ : ∃ y : Int32, y = yq17_ + 1 := ⟨_, rfl⟩
                    refine lv_iinc (v := zq52_) (lv' := [(5, .int zq52_), (4, .int yq16_), (3, .int yq9_), (2, .int rq4_), (0, .ref h), (1, .int bi)]) hx hb dX10_cure_117 hl (k := 0) rfl (by rw [e_zq52_]; rfl) (by decide) rfl (fun ls hl => ?_)
                    have h_zq52_ : zq52_.toInt = yq17_.toInt + 1 := by rw [e_zq52_, iAdd (by have : (1 : Int32).toInt = 1 := rfl; omega) (by have : (1 : Int32).toInt = 1 := rfl; omega)]; rfl
                    refine lv_goto (tgt := 65) hx hb dX10_cure_120 (by decide) ?_
                    exact ih yq16_ zq52_ Fq19_ _ _ _ ls (by have := iRg yq16_; have := iRg zq52_; omega) (by have := iRg yq16_; have := iRg zq52_; omega) (by have := iRg yq16_; have := iRg zq52_; omega) hR_Fq19_ hK_Fq19_ hc_h hc_al hF hH (lv_sub hl [0, 1, 2, 3, 4, 5] rfl)
        exact loop (Int.toNat (4097 - 0)) (-1) 0 Fq12_ _ _ _ ls (by have : (-1 : Int32).toInt = -1 := rfl; have : (0 : Int32).toInt = 0 := rfl; omega) (by have : (-1 : Int32).toInt = -1 := rfl; have : (0 : Int32).toInt = 0 := rfl; omega) (by have : (-1 : Int32).toInt = -1 := rfl; have : (0 : Int32).toInt = 0 := rfl; omega) hR_Fq12_ hK_Fq12_ hc_h hc_al hF hH hl
      · skip
        have cq15_ : yq10_.toInt < xq14_.toInt := cq15_
        refine lv_iload_n hx hb dX10_cure_33 rfl (lv_at hl 1 rfl) ?_
        refine lv_aload_n hx hb dX10_cure_34 rfl (lv_at hl 3 rfl) ?_
        refine xg hC hK hH flX10_7 hc_h rfl dX10_cure_35 ?_
        refine lv_iload_n hx hb dX10_cure_38 rfl (lv_at hl 2 rfl) ?_
        refine lv_iload hx hb dX10_cure_39 (lv_at hl 0 rfl) ?_
        obtain ⟨nq53_, hn_nq53_⟩ : ∃ n : Nat, yq10_.toInt = (n : Int) := ⟨(yq10_.toInt).toNat, by omega⟩
        refine goI hK hH (runS (As := [.int rq4_, .int yq10_]) (rest := [.ref al, .int yq9_]) hC hK hH (c_X10_stepAt (by omega) (by omega)) mlX10_37 ⟨⟨Nat.le_of_ble_eq_true rfl, Nat.le_of_ble_eq_true rfl⟩, Nat.le_of_ble_eq_true rfl, Nat.le_of_ble_eq_true rfl⟩ rfl hl.1 rfl (Nat.le_of_ble_eq_true rfl) dX10_cure_41) (fun rq56_ Mq54_ Tq55_ Hq_ lcq_ hP hz hH => ?_)
        try dsimp only at hP
        obtain ⟨(⟨cq57_, ⟨l_rq56_, g_rq56_⟩⟩), eT, eM⟩ := hP
        have eT := eT.symm; subst eT
        have eM := eM.symm; subst eM
        have cq57_ : rq56_.toInt = rq4_.toInt + 40 + 12 * yq10_.toInt := cq57_
        have hx_rq56_ : rq56_.toInt = ((nq6_ + 40 + 12 * nq53_ : Nat) : Int) := by omega
        refine lv_bipush (v := 11) hx hb dX10_cure_44 (by decide) ?_
        refine lv_iadd hx hb dX10_cure_46 ?_
        refine lv_topi (fun zq58_ e_zq58_ => ?_)
        have h_zq58_ : zq58_.toInt = rq56_.toInt + 11 := by rw [e_zq58_, iAdd (by have := iRg rq56_; have : (11 : Int32).toInt = 11 := rfl; omega) (by have := iRg rq56_; have : (11 : Int32).toInt = 11 := rfl; omega)]; rfl
        refine xild hC hK hH hc_al (iIn (by omega) (by omega)) dX10_cure_47 ?_
        refine lv_topi (fun xq59_ e_xq59_ => ?_)
        have k_xq59_ : xq59_ = Fq12_ (nq6_ + 40 + 12 * nq53_ + 11) := by rw [e_xq59_, clE (n := nq6_ + 40 + 12 * nq53_ + 11) (by omega)]
        have kt_xq59_ : xq59_.toInt = (Fq12_ (nq6_ + 40 + 12 * nq53_ + 11)).toInt := by rw [k_xq59_]
        refine lv_iload hx hb dX10_cure_48 (lv_at hl 0 rfl) ?_
        refine lv_ishl hx hb dX10_cure_50 ?_
        refine lv_topi (fun zq60_ e_zq60_ => ?_)
        refine lv_ior hx hb dX10_cure_51 ?_
        refine lv_topi (fun zq61_ e_zq61_ => ?_)
        refine lv_istore_n (lv' := [(3, .int zq61_), (4, .int yq10_), (2, .int rq4_), (0, .ref h), (1, .int bi)]) hx hb dX10_cure_52 rfl hl (by decide) rfl (fun ls hl => ?_)
        obtain ⟨zq62_, e_zq62_⟩ : ∃ y : Int32, y = yq10_ + 1 := ⟨_, rfl⟩
        refine lv_iinc (v := zq62_) (lv' := [(4, .int zq62_), (3, .int zq61_), (2, .int rq4_), (0, .ref h), (1, .int bi)]) hx hb dX10_cure_53 hl (k := 1) rfl (by rw [e_zq62_]; rfl) (by decide) rfl (fun ls hl => ?_)
        have h_zq62_ : zq62_.toInt = yq10_.toInt + 1 := by rw [e_zq62_, iAdd (by have : (1 : Int32).toInt = 1 := rfl; omega) (by have : (1 : Int32).toInt = 1 := rfl; omega)]; rfl
        refine lv_goto (tgt := 19) hx hb dX10_cure_56 (by decide) ?_
        exact ih zq61_ zq62_ Fq12_ _ _ _ ls (by have := iRg zq61_; have := iRg zq62_; omega) (by have := iRg zq61_; have := iRg zq62_; omega) (by have := iRg zq61_; have := iRg zq62_; omega) hR_Fq12_ hK_Fq12_ hc_h hc_al hF hH (lv_sub hl [0, 1, 2, 3, 4] rfl)
  exact loop (Int.toNat (13 - xq8_.toInt)) 0 xq8_ f _ _ _ ls (by have : (0 : Int32).toInt = 0 := rfl; have := iRg xq8_; omega) (by have : (0 : Int32).toInt = 0 := rfl; have := iRg xq8_; omega) (by have : (0 : Int32).toInt = 0 := rfl; have := iRg xq8_; omega) hR_f hK_f hc_h hc_al hF hH hl
