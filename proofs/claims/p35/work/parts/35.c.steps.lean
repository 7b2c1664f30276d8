set_option maxHeartbeats 4000000 in
set_option maxRecDepth 100000 in
theorem c_X10_clears {l : Launch} {D : va_G} {kA : Nat → ClassId} {M : mM} {T : mT} {sz : Nat} {h al mt ii pa li : Nat} {ta fpm sm nx tk pl ln wr : Int32} {va : Int64} {f : Nat → Int32} {q : Int32} {xn t b ptn : Nat} (hc_h : M h = some (.inr (8, [.ref al, .ref mt, .ref ii, .int ta, .int fpm, .ref pa, .int sm, .int nx, .int tk, .int pl, .int ln, .long va, .int wr, .ref li]))) (hn_h : T h = none) (hc_al : M al = some (.inl (kA 0, 7506, .inl f))) (hn_al : T al = none) (ht_mt : T mt = some 11) (ht_pa : T pa = some 13) (ht_li : T li = some 14) (hR_f : Rng f) (hxt : t < 2) (hxb : b < 4) (hxn : xn = 1140 * t + 20 + 280 * b) (hpp : ptn ≤ 13) (hq : q.toInt = ((xn + 184 + 6 * ptn : Nat) : Int)) : mCv l yX10_clears cX10_clears 3 0 0 0 D kA M T sz [.ref h, .int q] (fun u => ∃ g : Nat → Int32, (Rng g ∧ Ke f g ∧ g 1 = f 1) ∧ (u.1 al = some (.inl (kA 0, 7506, .inl g))) ∧ u.2 = T ∧ (∀ q, FrK T q → q ≠ al → u.1 q = M q)) := by
  unfold mCv
  refine start_W (by decide) (Nat.le_of_ble_eq_true rfl) ?_
  intro p e s m below meth c ls hC hr hlk hnm hK hH hsz hl
  have hx := hC.1
  have hb := hC.2.1
  have hl : lv_has ls 3 [(0, .ref h), (1, .int q)] := hl
  have hF : ∀ q, FrK T q → q ≠ al → M q = M q := fun q _ _ => rfl
  have n_h_al : h ≠ al := neM hc_h hc_al (by simp)
  have n_al_h : al ≠ h := neM hc_al hc_h (by simp)
  have hK_f : Ke f f := Ke.rf
  have h1_f : f 1 = f 1 := rfl
  refine lv_iconst (v := 0) hx hb dX10_clears_0 (by decide) ?_
  refine lv_istore_n (lv' := [(2, .int 0), (0, .ref h), (1, .int q)]) hx hb dX10_clears_1 rfl hl (by decide) rfl (fun ls hl => ?_)
  have loop : ∀ (n : Nat) (yq1_ : Int32) (Fq3_ : Nat → Int32) (Hq_ : Heap) (lcq_ : List Loc) (Mq2_ : mM) (ls : Array Slot), 7 - yq1_.toInt ≤ (n : Int) → (0 : Int) ≤ yq1_.toInt → yq1_.toInt ≤ 6 → Rng Fq3_ → Ke f Fq3_ → Fq3_ 1 = f 1 → Mq2_ h = some (.inr (8, [.ref al, .ref mt, .ref ii, .int ta, .int fpm, .ref pa, .int sm, .int nx, .int tk, .int pl, .int ln, .long va, .int wr, .ref li])) → Mq2_ al = some (.inl (kA 0, 7506, .inl Fq3_)) → (∀ q, FrK T q → q ≠ al → Mq2_ q = M q) → mS D kA Mq2_ T (mA M T sz) s.heap Hq_ lcq_ → lv_has ls 3 [(2, .int yq1_), (0, .ref h), (1, .int q)] → W p l e (rmL 0 0 0) s m ([.ref h, .int q] : List Value).toArray below meth c Hq_ lcq_ 0 0 (MQ below (va_Qv (fun u => ∃ g : Nat → Int32, (Rng g ∧ Ke f g ∧ g 1 = f 1) ∧ (u.1 al = some (.inl (kA 0, 7506, .inl g))) ∧ u.2 = T ∧ (∀ q, FrK T q → q ≠ al → u.1 q = M q)) (mB D kA M T sz) (mA M T sz)) ([.ref h, .int q] : List Value).toArray s 0 0 (mA M T sz)) (F0 m 2 ls []) := by
    intro n
    induction n with
    | zero =>
      intro yq1_ Fq3_ Hq_ lcq_ Mq2_ ls hme l_yq1_ g_yq1_ hR_Fq3_ hK_Fq3_ h1_Fq3_ hc_h hc_al hF hH hl
      exfalso; omega
    | succ n ih =>
      intro yq1_ Fq3_ Hq_ lcq_ Mq2_ ls hme l_yq1_ g_yq1_ hR_Fq3_ hK_Fq3_ h1_Fq3_ hc_h hc_al hF hH hl
      refine lv_iload_n hx hb dX10_clears_2 rfl (lv_at hl 0 rfl) ?_
      refine lv_bipush (v := 6) hx hb dX10_clears_3 (by decide) ?_
      refine jic_ge (tgt := 23) hx hb dX10_clears_5 (by decide) (fun cq4_ => ?_) (fun cq4_ => ?_)
      · skip
        have cq4_ : 6 ≤ yq1_.toInt := cq4_
        refine lv_aload_n hx hb dX10_clears_23 rfl (lv_at hl 1 rfl) ?_
        refine xg hC hK hH flX10_7 hc_h rfl dX10_clears_24 ?_
        refine lv_iload_n hx hb dX10_clears_27 rfl (lv_at hl 2 rfl) ?_
        refine lv_iconst (v := 0) hx hb dX10_clears_28 (by decide) ?_
        refine lv_iadd hx hb dX10_clears_29 ?_
        refine lv_topi (fun zq5_ e_zq5_ => ?_)
        have h_zq5_ : zq5_.toInt = q.toInt + 0 := by rw [e_zq5_, iAdd (by have := iRg q; have : (0 : Int32).toInt = 0 := rfl; omega) (by have := iRg q; have : (0 : Int32).toInt = 0 := rfl; omega)]; rfl
        refine lv_iconst (v := -1) hx hb dX10_clears_30 (by decide) ?_
        refine yist (x := -1) hC hK hH hc_al (noT hn_al) (iIn (by omega) (by omega)) dX10_clears_31 (fun Hq_ lcq_ Mq6_ hc_al hfr hH => ?_)
        have hc_al : Mq6_ al = some (.inl (kA 0, 7506, .inl (upd Fq3_ (Int32.toNatClampNeg zq5_) (-1)))) := hc_al
        have hc_h : Mq6_ h = some (.inr (8, [.ref al, .ref mt, .ref ii, .int ta, .int fpm, .ref pa, .int sm, .int nx, .int tk, .int pl, .int ln, .long va, .int wr, .ref li])) := (hfr h n_h_al).trans hc_h
        have hF : ∀ q, FrK T q → q ≠ al → Mq6_ q = M q := fun q hq h0 => (hfr q h0).trans (hF q hq h0)
        obtain ⟨gq7_, e_gq7_⟩ : ∃ g : Nat → Int32, g = upd Fq3_ (Int32.toNatClampNeg zq5_) (-1) := ⟨_, rfl⟩
        rw [← e_gq7_] at hc_al
        have hR_gq7_ : Rng gq7_ := by rw [e_gq7_]; exact hR_Fq3_.uX (t := t) (b := b) (xn := xn) (by omega) (by omega) (by omega) (by have := iCl (x := zq5_) (by omega); omega) (by have := iCl (x := zq5_) (by omega); omega) (by have := iCl (x := zq5_) (by omega); omega)
        have hK_gq7_ : Ke f gq7_ := by rw [e_gq7_]; exact hK_Fq3_.up (by have := iCl (x := zq5_) (by omega); omega)
        have h1_gq7_ : gq7_ 1 = f 1 := by rw [e_gq7_]; exact (pk_un (by have := iCl (x := zq5_) (by omega); omega)).trans h1_Fq3_
        exact ret_v hC hr hlk hK hH (⟨gq7_, ⟨hR_gq7_, hK_gq7_, h1_gq7_⟩, hc_al, rfl, hF⟩) (Nat.le_of_ble_eq_true rfl) (Nat.le_of_ble_eq_true rfl) dX10_clears_32
      · skip
        have cq4_ : yq1_.toInt < 6 := cq4_
        refine lv_aload_n hx hb dX10_clears_8 rfl (lv_at hl 1 rfl) ?_
        refine xg hC hK hH flX10_7 hc_h rfl dX10_clears_9 ?_
        refine lv_iload_n hx hb dX10_clears_12 rfl (lv_at hl 2 rfl) ?_
        refine lv_iload_n hx hb dX10_clears_13 rfl (lv_at hl 0 rfl) ?_
        refine lv_iadd hx hb dX10_clears_14 ?_
        refine lv_topi (fun zq8_ e_zq8_ => ?_)
        have h_zq8_ : zq8_.toInt = q.toInt + yq1_.toInt := by rw [e_zq8_, iAdd (by have := iRg q; have := iRg yq1_; omega) (by have := iRg q; have := iRg yq1_; omega)]
        refine lv_iconst (v := 0) hx hb dX10_clears_15 (by decide) ?_
        refine yist (x := 0) hC hK hH hc_al (noT hn_al) (iIn (by omega) (by omega)) dX10_clears_16 (fun Hq_ lcq_ Mq9_ hc_al hfr hH => ?_)
        have hc_al : Mq9_ al = some (.inl (kA 0, 7506, .inl (upd Fq3_ (Int32.toNatClampNeg zq8_) 0))) := hc_al
        have hc_h : Mq9_ h = some (.inr (8, [.ref al, .ref mt, .ref ii, .int ta, .int fpm, .ref pa, .int sm, .int nx, .int tk, .int pl, .int ln, .long va, .int wr, .ref li])) := (hfr h n_h_al).trans hc_h
        have hF : ∀ q, FrK T q → q ≠ al → Mq9_ q = M q := fun q hq h0 => (hfr q h0).trans (hF q hq h0)
        obtain ⟨gq10_, e_gq10_⟩ : ∃ g : Nat → Int32, g = upd Fq3_ (Int32.toNatClampNeg zq8_) 0 := ⟨_, rfl⟩
        rw [← e_gq10_] at hc_al
        have hR_gq10_ : Rng gq10_ := by rw [e_gq10_]; exact hR_Fq3_.u0
        have hK_gq10_ : Ke f gq10_ := by rw [e_gq10_]; exact hK_Fq3_.up (by have := iCl (x := zq8_) (by omega); omega)
        have h1_gq10_ : gq10_ 1 = f 1 := by rw [e_gq10_]; exact (pk_un (by have := iCl (x := zq8_) (by omega); omega)).trans h1_Fq3_
        obtain ⟨zq11_, e_zq11_⟩ : ∃ y : Int32, y = yq1_ + 1 := ⟨_, rfl⟩
        refine lv_iinc (v := zq11_) (lv' := [(2, .int zq11_), (0, .ref h), (1, .int q)]) hx hb dX10_clears_17 hl (k := 0) rfl (by rw [e_zq11_]; rfl) (by decide) rfl (fun ls hl => ?_)
        have h_zq11_ : zq11_.toInt = yq1_.toInt + 1 := by rw [e_zq11_, iAdd (by have : (1 : Int32).toInt = 1 := rfl; omega) (by have : (1 : Int32).toInt = 1 := rfl; omega)]; rfl
        refine lv_goto (tgt := 2) hx hb dX10_clears_20 (by decide) ?_
        exact ih zq11_ gq10_ _ _ _ ls (by have := iRg zq11_; omega) (by have := iRg zq11_; omega) (by have := iRg zq11_; omega) hR_gq10_ hK_gq10_ h1_gq10_ hc_h hc_al hF hH (lv_sub hl [0, 1, 2] rfl)
  exact loop (Int.toNat (7 - 0)) 0 f _ _ _ ls (by have : (0 : Int32).toInt = 0 := rfl; omega) (by have : (0 : Int32).toInt = 0 := rfl; omega) (by have : (0 : Int32).toInt = 0 := rfl; omega) hR_f hK_f h1_f hc_h hc_al hF hH hl
set_option maxHeartbeats 4000000 in
set_option maxRecDepth 100000 in
theorem c_X10_frees {l : Launch} {D : va_G} {kA : Nat → ClassId} {M : mM} {T : mT} {sz : Nat} {h al mt ii pa li : Nat} {ta fpm sm nx tk pl ln wr : Int32} {va : Int64} {f : Nat → Int32} {x : Int32} {xn t b : Nat} {pt how : Int32} {ptn : Nat} (hc_h : M h = some (.inr (8, [.ref al, .ref mt, .ref ii, .int ta, .int fpm, .ref pa, .int sm, .int nx, .int tk, .int pl, .int ln, .long va, .int wr, .ref li]))) (hn_h : T h = none) (hc_al : M al = some (.inl (kA 0, 7506, .inl f))) (hn_al : T al = none) (ht_mt : T mt = some 11) (ht_pa : T pa = some 13) (ht_li : T li = some 14) (hR_f : Rng f) (hxt : t < 2) (hxb : b < 4) (hxn : xn = 1140 * t + 20 + 280 * b) (hxx : x.toInt = (xn : Int)) (hptn : pt.toInt = (ptn : Int)) (hp13 : ptn ≤ 13) (hhow : 0 < how.toInt) : mCv l yX10_frees cX10_frees 5 1 0 0 D kA M T sz [.ref h, .int x, .int pt, .int how] (fun u => ∃ g : Nat → Int32, (Rng g ∧ Ke f g ∧ (g (xn + 8) = f (xn + 8) ∧ ∀ q, ptn ≤ q → (q : Int) ≤ 1 + (f (xn + 8)).toInt → 0 < (g (xn + 184 + 6 * q + 1)).toInt)) ∧ (u.1 al = some (.inl (kA 0, 7506, .inl g))) ∧ u.2 = T ∧ (∀ q, FrK T q → q ≠ al → u.1 q = M q)) := by
  unfold mCv
  refine start_W (by decide) (Nat.le_of_ble_eq_true rfl) ?_
  intro p e s m below meth c ls hC hr hlk hnm hK hH hsz hl
  have hx := hC.1
  have hb := hC.2.1
  have hl : lv_has ls 5 [(0, .ref h), (1, .int x), (2, .int pt), (3, .int how)] := hl
  have hF : ∀ q, FrK T q → q ≠ al → M q = M q := fun q _ _ => rfl
  have n_h_al : h ≠ al := neM hc_h hc_al (by simp)
  have n_al_h : al ≠ h := neM hc_al hc_h (by simp)
  have hK_f : Ke f f := Ke.rf
  refine lv_iload_n hx hb dX10_frees_0 rfl (lv_at hl 2 rfl) ?_
  refine lv_istore (lv' := [(4, .int pt), (0, .ref h), (1, .int x), (2, .int pt), (3, .int how)]) hx hb dX10_frees_1 hl (by decide) rfl (fun ls hl => ?_)
  have loop : ∀ (n : Nat) (yq1_ : Int32) (Fq3_ : Nat → Int32) (Hq_ : Heap) (lcq_ : List Loc) (Mq2_ : mM) (ls : Array Slot), 15 - yq1_.toInt ≤ (n : Int) → (0 : Int) ≤ yq1_.toInt → yq1_.toInt ≤ 14 → ((ptn : Int) ≤ yq1_.toInt) → Rng Fq3_ → Ke f Fq3_ → (Fq3_ (xn + 8) = f (xn + 8)) → (∀ q, ptn ≤ q → (q : Int) < yq1_.toInt → 0 < (Fq3_ (xn + 184 + 6 * q + 1)).toInt) → Mq2_ h = some (.inr (8, [.ref al, .ref mt, .ref ii, .int ta, .int fpm, .ref pa, .int sm, .int nx, .int tk, .int pl, .int ln, .long va, .int wr, .ref li])) → Mq2_ al = some (.inl (kA 0, 7506, .inl Fq3_)) → (∀ q, FrK T q → q ≠ al → Mq2_ q = M q) → mS D kA Mq2_ T (mA M T sz) s.heap Hq_ lcq_ → lv_has ls 5 [(4, .int yq1_), (0, .ref h), (1, .int x), (2, .int pt), (3, .int how)] → W p l e (rmL 1 0 0) s m ([.ref h, .int x, .int pt, .int how] : List Value).toArray below meth c Hq_ lcq_ 0 0 (MQ below (va_Qv (fun u => ∃ g : Nat → Int32, (Rng g ∧ Ke f g ∧ (g (xn + 8) = f (xn + 8) ∧ ∀ q, ptn ≤ q → (q : Int) ≤ 1 + (f (xn + 8)).toInt → 0 < (g (xn + 184 + 6 * q + 1)).toInt)) ∧ (u.1 al = some (.inl (kA 0, 7506, .inl g))) ∧ u.2 = T ∧ (∀ q, FrK T q → q ≠ al → u.1 q = M q)) (mB D kA M T sz) (mA M T sz)) ([.ref h, .int x, .int pt, .int how] : List Value).toArray s 0 0 (mA M T sz)) (F0 m 3 ls []) := by
    intro n
    induction n with
    | zero =>
      intro yq1_ Fq3_ Hq_ lcq_ Mq2_ ls hme l_yq1_ g_yq1_ hv0_yq1_ hR_Fq3_ hK_Fq3_ hw0_yq1_ hw1_yq1_ hc_h hc_al hF hH hl
      exfalso; omega
    | succ n ih =>
      intro yq1_ Fq3_ Hq_ lcq_ Mq2_ ls hme l_yq1_ g_yq1_ hv0_yq1_ hR_Fq3_ hK_Fq3_ hw0_yq1_ hw1_yq1_ hc_h hc_al hF hH hl
      refine lv_iload hx hb dX10_frees_3 (lv_at hl 0 rfl) ?_
      refine lv_iconst (v := 1) hx hb dX10_frees_5 (by decide) ?_
      refine lv_aload_n hx hb dX10_frees_6 rfl (lv_at hl 1 rfl) ?_
      refine xg hC hK hH flX10_7 hc_h rfl dX10_frees_7 ?_
      refine lv_iload_n hx hb dX10_frees_10 rfl (lv_at hl 2 rfl) ?_
      refine lv_bipush (v := 8) hx hb dX10_frees_11 (by decide) ?_
      refine lv_iadd hx hb dX10_frees_13 ?_
      refine lv_topi (fun zq4_ e_zq4_ => ?_)
      have h_zq4_ : zq4_.toInt = x.toInt + 8 := by rw [e_zq4_, iAdd (by have := iRg x; have : (8 : Int32).toInt = 8 := rfl; omega) (by have := iRg x; have : (8 : Int32).toInt = 8 := rfl; omega)]; rfl
      refine xild hC hK hH hc_al (iIn (by omega) (by omega)) dX10_frees_14 ?_
      refine lv_topi (fun xq5_ e_xq5_ => ?_)
      have k_xq5_ : xq5_ = Fq3_ (xn + 8) := by rw [e_xq5_, clE (n := xn + 8) (by omega)]
      have kt_xq5_ : xq5_.toInt = (Fq3_ (xn + 8)).toInt := by rw [k_xq5_]
      have rr_xq5_ : (0 : Int) ≤ (Fq3_ (xn + 8)).toInt ∧ (Fq3_ (xn + 8)).toInt ≤ 12 := hR_Fq3_.rO 8 (t := t) (b := b) (xn := xn) (by omega) (by omega) (by omega) (by decide) rfl
      have l_xq5_ : (0 : Int) ≤ xq5_.toInt := by rw [kt_xq5_, show xn + 8 = xn + 8 from by omega]; exact rr_xq5_.1
      have g_xq5_ : xq5_.toInt ≤ 12 := by rw [kt_xq5_, show xn + 8 = xn + 8 from by omega]; exact rr_xq5_.2
      refine lv_iadd hx hb dX10_frees_15 ?_
      refine lv_topi (fun zq6_ e_zq6_ => ?_)
      have h_zq6_ : zq6_.toInt = 1 + xq5_.toInt := by rw [e_zq6_, iAdd (by have : (1 : Int32).toInt = 1 := rfl; have := iRg xq5_; omega) (by have : (1 : Int32).toInt = 1 := rfl; have := iRg xq5_; omega)]; rfl
      refine jic_gt (tgt := 72) hx hb dX10_frees_16 (by decide) (fun cq7_ => ?_) (fun cq7_ => ?_)
      · skip
        have cq7_ : zq6_.toInt < yq1_.toInt := cq7_
        exact ret_v hC hr hlk hK hH (⟨Fq3_, ⟨hR_Fq3_, hK_Fq3_, ⟨hw0_yq1_, fun q h1 h2 => hw1_yq1_ q h1 (by have h9 : (Fq3_ (xn + 8)).toInt = (f (xn + 8)).toInt := congrArg Int32.toInt hw0_yq1_; omega)⟩⟩, hc_al, rfl, hF⟩) (Nat.le_of_ble_eq_true rfl) (Nat.le_of_ble_eq_true rfl) dX10_frees_72
      · skip
        have cq7_ : yq1_.toInt ≤ zq6_.toInt := cq7_
        refine lv_aload_n hx hb dX10_frees_19 rfl (lv_at hl 1 rfl) ?_
        refine xg hC hK hH flX10_7 hc_h rfl dX10_frees_20 ?_
        refine lv_iload_n hx hb dX10_frees_23 rfl (lv_at hl 2 rfl) ?_
        refine lv_iload hx hb dX10_frees_24 (lv_at hl 0 rfl) ?_
        obtain ⟨nq8_, hn_nq8_⟩ : ∃ n : Nat, yq1_.toInt = (n : Int) := ⟨(yq1_.toInt).toNat, by omega⟩
        refine goI hK hH (runS (As := [.int x, .int yq1_]) (rest := [.ref al]) hC hK hH (c_X10_partyAt (by omega) (by omega)) mlX10_56 ⟨⟨Nat.le_of_ble_eq_true rfl, Nat.le_of_ble_eq_true rfl⟩, Nat.le_of_ble_eq_true rfl, Nat.le_of_ble_eq_true rfl⟩ rfl hl.1 rfl (Nat.le_of_ble_eq_true rfl) dX10_frees_26) (fun rq11_ Mq9_ Tq10_ Hq_ lcq_ hP hz hH => ?_)
        try dsimp only at hP
        obtain ⟨(⟨cq12_, ⟨l_rq11_, g_rq11_⟩⟩), eT, eM⟩ := hP
        have eT := eT.symm; subst eT
        have eM := eM.symm; subst eM
        have cq12_ : rq11_.toInt = x.toInt + 184 + 6 * yq1_.toInt := cq12_
        have hx_rq11_ : rq11_.toInt = ((xn + 184 + 6 * nq8_ : Nat) : Int) := by omega
        refine lv_iconst (v := 1) hx hb dX10_frees_29 (by decide) ?_
        refine lv_iadd hx hb dX10_frees_30 ?_
        refine lv_topi (fun zq13_ e_zq13_ => ?_)
        have h_zq13_ : zq13_.toInt = rq11_.toInt + 1 := by rw [e_zq13_, iAdd (by have := iRg rq11_; have : (1 : Int32).toInt = 1 := rfl; omega) (by have := iRg rq11_; have : (1 : Int32).toInt = 1 := rfl; omega)]; rfl
        refine xild hC hK hH hc_al (iIn (by omega) (by omega)) dX10_frees_31 ?_
        refine lv_topi (fun xq14_ e_xq14_ => ?_)
        have k_xq14_ : xq14_ = Fq3_ (xn + 184 + 6 * nq8_ + 1) := by rw [e_xq14_, clE (n := xn + 184 + 6 * nq8_ + 1) (by omega)]
        have kt_xq14_ : xq14_.toInt = (Fq3_ (xn + 184 + 6 * nq8_ + 1)).toInt := by rw [k_xq14_]
        refine jif_le (tgt := 38) hx hb dX10_frees_32 (by decide) (fun cq15_ => ?_) (fun cq15_ => ?_)
        · skip
          have cq15_ : xq14_.toInt ≤ 0 := cq15_
          refine lv_aload_n hx hb dX10_frees_38 rfl (lv_at hl 1 rfl) ?_
          refine xg hC hK hH flX10_7 hc_h rfl dX10_frees_39 ?_
          refine lv_iload_n hx hb dX10_frees_42 rfl (lv_at hl 2 rfl) ?_
          refine lv_iload hx hb dX10_frees_43 (lv_at hl 0 rfl) ?_
          refine goI hK hH (runS (As := [.int x, .int yq1_]) (rest := [.ref al]) hC hK hH (c_X10_partyAt (by omega) (by omega)) mlX10_56 ⟨⟨Nat.le_of_ble_eq_true rfl, Nat.le_of_ble_eq_true rfl⟩, Nat.le_of_ble_eq_true rfl, Nat.le_of_ble_eq_true rfl⟩ rfl hl.1 rfl (Nat.le_of_ble_eq_true rfl) dX10_frees_45) (fun rq18_ Mq16_ Tq17_ Hq_ lcq_ hP hz hH => ?_)
          try dsimp only at hP
          obtain ⟨(⟨cq19_, ⟨l_rq18_, g_rq18_⟩⟩), eT, eM⟩ := hP
          have eT := eT.symm; subst eT
          have eM := eM.symm; subst eM
          have cq19_ : rq18_.toInt = x.toInt + 184 + 6 * yq1_.toInt := cq19_
          have hx_rq18_ : rq18_.toInt = ((xn + 184 + 6 * nq8_ : Nat) : Int) := by omega
          refine lv_iconst (v := 1) hx hb dX10_frees_48 (by decide) ?_
          refine lv_iadd hx hb dX10_frees_49 ?_
          refine lv_topi (fun zq20_ e_zq20_ => ?_)
          have h_zq20_ : zq20_.toInt = rq18_.toInt + 1 := by rw [e_zq20_, iAdd (by have := iRg rq18_; have : (1 : Int32).toInt = 1 := rfl; omega) (by have := iRg rq18_; have : (1 : Int32).toInt = 1 := rfl; omega)]; rfl
          refine lv_iload_n hx hb dX10_frees_50 rfl (lv_at hl 4 rfl) ?_
          refine yist (x := how) hC hK hH hc_al (noT hn_al) (iIn (by omega) (by omega)) dX10_frees_51 (fun Hq_ lcq_ Mq21_ hc_al hfr hH => ?_)
          have hc_al : Mq21_ al = some (.inl (kA 0, 7506, .inl (upd Fq3_ (Int32.toNatClampNeg zq20_) how))) := hc_al
          have hc_h : Mq21_ h = some (.inr (8, [.ref al, .ref mt, .ref ii, .int ta, .int fpm, .ref pa, .int sm, .int nx, .int tk, .int pl, .int ln, .long va, .int wr, .ref li])) := (hfr h n_h_al).trans hc_h
          have hF : ∀ q, FrK T q → q ≠ al → Mq21_ q = M q := fun q hq h0 => (hfr q h0).trans (hF q hq h0)
          obtain ⟨gq22_, e_gq22_⟩ : ∃ g : Nat → Int32, g = upd Fq3_ (Int32.toNatClampNeg zq20_) how := ⟨_, rfl⟩
          rw [← e_gq22_] at hc_al
          have hR_gq22_ : Rng gq22_ := by rw [e_gq22_]; exact hR_Fq3_.uX (t := t) (b := b) (xn := xn) (by omega) (by omega) (by omega) (by have := iCl (x := zq20_) (by omega); omega) (by have := iCl (x := zq20_) (by omega); omega) (by have := iCl (x := zq20_) (by omega); omega)
          have hK_gq22_ : Ke f gq22_ := by rw [e_gq22_]; exact hK_Fq3_.up (by have := iCl (x := zq20_) (by omega); omega)
          refine lv_aload_n hx hb dX10_frees_52 rfl (lv_at hl 1 rfl) ?_
          refine xg hC hK hH flX10_7 hc_h rfl dX10_frees_53 ?_
          refine lv_iload_n hx hb dX10_frees_56 rfl (lv_at hl 2 rfl) ?_
          refine lv_iload hx hb dX10_frees_57 (lv_at hl 0 rfl) ?_
          refine goI hK hH (runS (As := [.int x, .int yq1_]) (rest := [.ref al]) hC hK hH (c_X10_partyAt (by omega) (by omega)) mlX10_56 ⟨⟨Nat.le_of_ble_eq_true rfl, Nat.le_of_ble_eq_true rfl⟩, Nat.le_of_ble_eq_true rfl, Nat.le_of_ble_eq_true rfl⟩ rfl hl.1 rfl (Nat.le_of_ble_eq_true rfl) dX10_frees_59) (fun rq25_ Mq23_ Tq24_ Hq_ lcq_ hP hz hH => ?_)
          try dsimp only at hP
          obtain ⟨(⟨cq26_, ⟨l_rq25_, g_rq25_⟩⟩), eT, eM⟩ := hP
          have eT := eT.symm; subst eT
          have eM := eM.symm; subst eM
          have cq26_ : rq25_.toInt = x.toInt + 184 + 6 * yq1_.toInt := cq26_
          have hx_rq25_ : rq25_.toInt = ((xn + 184 + 6 * nq8_ : Nat) : Int) := by omega
          refine lv_iconst (v := 2) hx hb dX10_frees_62 (by decide) ?_
          refine lv_iadd hx hb dX10_frees_63 ?_
          refine lv_topi (fun zq27_ e_zq27_ => ?_)
          have h_zq27_ : zq27_.toInt = rq25_.toInt + 2 := by rw [e_zq27_, iAdd (by have := iRg rq25_; have : (2 : Int32).toInt = 2 := rfl; omega) (by have := iRg rq25_; have : (2 : Int32).toInt = 2 := rfl; omega)]; rfl
          refine lv_iload_n hx hb dX10_frees_64 rfl (lv_at hl 3 rfl) ?_
          refine yist (x := pt) hC hK hH hc_al (noT hn_al) (iIn (by omega) (by omega)) dX10_frees_65 (fun Hq_ lcq_ Mq28_ hc_al hfr hH => ?_)
          have hc_al : Mq28_ al = some (.inl (kA 0, 7506, .inl (upd gq22_ (Int32.toNatClampNeg zq27_) pt))) := hc_al
          have hc_h : Mq28_ h = some (.inr (8, [.ref al, .ref mt, .ref ii, .int ta, .int fpm, .ref pa, .int sm, .int nx, .int tk, .int pl, .int ln, .long va, .int wr, .ref li])) := (hfr h n_h_al).trans hc_h
          have hF : ∀ q, FrK T q → q ≠ al → Mq28_ q = M q := fun q hq h0 => (hfr q h0).trans (hF q hq h0)
          obtain ⟨gq29_, e_gq29_⟩ : ∃ g : Nat → Int32, g = upd gq22_ (Int32.toNatClampNeg zq27_) pt := ⟨_, rfl⟩
          rw [← e_gq29_] at hc_al
          have hR_gq29_ : Rng gq29_ := by rw [e_gq29_]; exact hR_gq22_.uX (t := t) (b := b) (xn := xn) (by omega) (by omega) (by omega) (by have := iCl (x := zq27_) (by omega); omega) (by have := iCl (x := zq27_) (by omega); omega) (by have := iCl (x := zq27_) (by omega); omega)
          have hK_gq29_ : Ke f gq29_ := by rw [e_gq29_]; exact hK_gq22_.up (by have := iCl (x := zq27_) (by omega); omega)
          obtain ⟨zq30_, e_zq30_⟩ : ∃ y : Int32, y = yq1_ + 1 := ⟨_, rfl⟩
          refine lv_iinc (v := zq30_) (lv' := [(4, .int zq30_), (0, .ref h), (1, .int x), (2, .int pt), (3, .int how)]) hx hb dX10_frees_66 hl (k := 0) rfl (by rw [e_zq30_]; rfl) (by decide) rfl (fun ls hl => ?_)
          have h_zq30_ : zq30_.toInt = yq1_.toInt + 1 := by rw [e_zq30_, iAdd (by have : (1 : Int32).toInt = 1 := rfl; omega) (by have : (1 : Int32).toInt = 1 := rfl; omega)]; rfl
          refine lv_goto (tgt := 3) hx hb dX10_frees_69 (by decide) ?_
          exact ih zq30_ gq29_ _ _ _ ls (by have := iRg zq30_; omega) (by have := iRg zq30_; omega) (by have := iRg zq30_; omega) (by have := iRg zq30_; omega) hR_gq29_ hK_gq29_ (by rw [e_gq29_, e_gq22_, pk_un (by have := iCl (x := zq27_) (by omega); omega), pk_un (by have := iCl (x := zq20_) (by omega); omega)]; exact hw0_yq1_) (fun q h1 h2 => by (rw [e_gq29_, pk_un (by have := iCl (x := zq27_) (by omega); omega), e_gq22_]; by_cases hq : q = nq8_; (rw [show xn + 184 + 6 * q + 1 = Int32.toNatClampNeg zq20_ from by have := iCl (x := zq20_) (by omega); omega, pk_us]; omega); (rw [pk_un (by have := iCl (x := zq20_) (by omega); omega)]; exact hw1_yq1_ q h1 (by omega)))) hc_h hc_al hF hH (lv_sub hl [0, 1, 2, 3, 4] rfl)
        · skip
          have cq15_ : 0 < xq14_.toInt := cq15_
          refine lv_goto (tgt := 66) hx hb dX10_frees_35 (by decide) ?_
          obtain ⟨zq31_, e_zq31_⟩ : ∃ y : Int32, y = yq1_ + 1 := ⟨_, rfl⟩
          refine lv_iinc (v := zq31_) (lv' := [(4, .int zq31_), (0, .ref h), (1, .int x), (2, .int pt), (3, .int how)]) hx hb dX10_frees_66 hl (k := 0) rfl (by rw [e_zq31_]; rfl) (by decide) rfl (fun ls hl => ?_)
          have h_zq31_ : zq31_.toInt = yq1_.toInt + 1 := by rw [e_zq31_, iAdd (by have : (1 : Int32).toInt = 1 := rfl; omega) (by have : (1 : Int32).toInt = 1 := rfl; omega)]; rfl
          refine lv_goto (tgt := 3) hx hb dX10_frees_69 (by decide) ?_
          exact ih zq31_ Fq3_ _ _ _ ls (by have := iRg zq31_; omega) (by have := iRg zq31_; omega) (by have := iRg zq31_; omega) (by have := iRg zq31_; omega) hR_Fq3_ hK_Fq3_ (hw0_yq1_) (fun q h1 h2 => by by_cases hq : q = nq8_; (rw [hq]; omega); exact hw1_yq1_ q h1 (by omega)) hc_h hc_al hF hH (lv_sub hl [0, 1, 2, 3, 4] rfl)
  exact loop (Int.toNat (15 - pt.toInt)) pt f _ _ _ ls (by have := iRg pt; omega) (by have := iRg pt; omega) (by have := iRg pt; omega) (by have := iRg pt; omega) hR_f hK_f (rfl) (fun q h1 h2 => by omega) hc_h hc_al hF hH hl
set_option maxHeartbeats 4000000 in
set_option maxRecDepth 100000 in
theorem c_X10_steps {l : Launch} {D : va_G} {kA : Nat → ClassId} {M : mM} {T : mT} {sz : Nat} {h al mt ii pa li : Nat} {ta fpm sm nx tk pl ln wr : Int32} {va : Int64} {f : Nat → Int32} {x : Int32} {xn t b : Nat} {bb so by_ nm to va_ no wi : Int32} (hc_h : M h = some (.inr (8, [.ref al, .ref mt, .ref ii, .int ta, .int fpm, .ref pa, .int sm, .int nx, .int tk, .int pl, .int ln, .long va, .int wr, .ref li]))) (hn_h : T h = none) (hc_al : M al = some (.inl (kA 0, 7506, .inl f))) (hn_al : T al = none) (ht_mt : T mt = some 11) (ht_pa : T pa = some 13) (ht_li : T li = some 14) (hR_f : Rng f) (hxt : t < 2) (hxb : b < 4) (hxn : xn = 1140 * t + 20 + 280 * b) (hxx : x.toInt = (xn : Int)) (hbb : bb.toInt = 1140 * (t : Int)) (hnm : -1 ≤ nm.toInt ∧ nm.toInt ≤ 7) (hto : 0 ≤ to.toInt ∧ to.toInt ≤ 7) (h11 : (f (xn + 8)).toInt ≤ 11) : mCi l yX10_steps cX10_steps 12 (some .int) 4 0 0 D kA M T sz [.ref h, .int bb, .int x, .int so, .int by_, .int nm, .int to, .int va_, .int no, .int wi] (fun r u => ∃ g : Nat → Int32, (Rng g ∧ Ke f g) ∧ (r = 0 ∧ u.1 al = some (.inl (kA 0, 7506, .inl g))) ∧ u.2 = T ∧ (∀ q, FrK T q → q ≠ al → u.1 q = M q)) := by
  unfold mCi
  refine start_W (by decide) (Nat.le_of_ble_eq_true rfl) ?_
  intro p e s m below meth c ls hC hr hlk hnm hK hH hsz hl
  have hx := hC.1
  have hb := hC.2.1
  have hl : lv_has ls 12 [(0, .ref h), (1, .int bb), (2, .int x), (3, .int so), (4, .int by_), (5, .int nm), (6, .int to), (7, .int va_), (8, .int no), (9, .int wi)] := hl
  have hF : ∀ q, FrK T q → q ≠ al → M q = M q := fun q _ _ => rfl
  have n_h_al : h ≠ al := neM hc_h hc_al (by simp)
  have n_al_h : al ≠ h := neM hc_al hc_h (by simp)
  have hK_f : Ke f f := Ke.rf
  have hp_f : Kp f f xn := Kp.rf
  refine lv_aload_n hx hb dX10_steps_0 rfl (lv_at hl 0 rfl) ?_
  refine xg hC hK hH flX10_7 hc_h rfl dX10_steps_1 ?_
  refine lv_iload_n hx hb dX10_steps_4 rfl (lv_at hl 2 rfl) ?_
  refine lv_bipush (v := 8) hx hb dX10_steps_5 (by decide) ?_
  refine lv_iadd hx hb dX10_steps_7 ?_
  refine lv_topi (fun zq1_ e_zq1_ => ?_)
  have h_zq1_ : zq1_.toInt = x.toInt + 8 := by rw [e_zq1_, iAdd (by have := iRg x; have : (8 : Int32).toInt = 8 := rfl; omega) (by have := iRg x; have : (8 : Int32).toInt = 8 := rfl; omega)]; rfl
  refine xild hC hK hH hc_al (iIn (by omega) (by omega)) dX10_steps_8 ?_
  refine lv_topi (fun xq2_ e_xq2_ => ?_)
  have k_xq2_ : xq2_ = f (xn + 8) := by rw [e_xq2_, clE (n := xn + 8) (by omega)]
  have kt_xq2_ : xq2_.toInt = (f (xn + 8)).toInt := by rw [k_xq2_]
  have rr_xq2_ : (0 : Int) ≤ (f (xn + 8)).toInt ∧ (f (xn + 8)).toInt ≤ 12 := hR_f.rO 8 (t := t) (b := b) (xn := xn) (by omega) (by omega) (by omega) (by decide) rfl
  have l_xq2_ : (0 : Int) ≤ xq2_.toInt := by rw [kt_xq2_, show xn + 8 = xn + 8 from by omega]; exact rr_xq2_.1
  have g_xq2_ : xq2_.toInt ≤ 12 := by rw [kt_xq2_, show xn + 8 = xn + 8 from by omega]; exact rr_xq2_.2
  have g_xq2_ : xq2_.toInt ≤ 11 := by omega
  refine lv_istore (lv' := [(10, .int xq2_), (0, .ref h), (1, .int bb), (2, .int x), (3, .int so), (4, .int by_), (5, .int nm), (6, .int to), (7, .int va_), (8, .int no), (9, .int wi)]) hx hb dX10_steps_9 hl (by decide) rfl (fun ls hl => ?_)
  refine lv_iload_n hx hb dX10_steps_11 rfl (lv_at hl 3 rfl) ?_
  refine lv_iload hx hb dX10_steps_12 (lv_at hl 0 rfl) ?_
  obtain ⟨nq3_, hn_nq3_⟩ : ∃ n : Nat, xq2_.toInt = (n : Int) := ⟨(xq2_.toInt).toNat, by omega⟩
  refine goI hK hH (runS (As := [.int x, .int xq2_]) (rest := []) hC hK hH (c_X10_stepAt (by omega) (by omega)) mlX10_37 ⟨⟨Nat.le_of_ble_eq_true rfl, Nat.le_of_ble_eq_true rfl⟩, Nat.le_of_ble_eq_true rfl, Nat.le_of_ble_eq_true rfl⟩ rfl hl.1 rfl (Nat.le_of_ble_eq_true rfl) dX10_steps_14) (fun rq6_ Mq4_ Tq5_ Hq_ lcq_ hP hz hH => ?_)
  try dsimp only at hP
  obtain ⟨(⟨cq7_, ⟨l_rq6_, g_rq6_⟩⟩), eT, eM⟩ := hP
  have eT := eT.symm; subst eT
  have eM := eM.symm; subst eM
  have cq7_ : rq6_.toInt = x.toInt + 40 + 12 * xq2_.toInt := cq7_
  have hx_rq6_ : rq6_.toInt = ((xn + 40 + 12 * nq3_ : Nat) : Int) := by omega
  refine lv_istore (lv' := [(11, .int rq6_), (10, .int xq2_), (0, .ref h), (1, .int bb), (2, .int x), (3, .int so), (4, .int by_), (5, .int nm), (6, .int to), (7, .int va_), (8, .int no), (9, .int wi)]) hx hb dX10_steps_17 hl (by decide) rfl (fun ls hl => ?_)
  refine lv_aload_n hx hb dX10_steps_19 rfl (lv_at hl 2 rfl) ?_
  refine xg hC hK hH flX10_7 hc_h rfl dX10_steps_20 ?_
  refine lv_iload hx hb dX10_steps_23 (lv_at hl 0 rfl) ?_
  refine lv_iconst (v := 0) hx hb dX10_steps_25 (by decide) ?_
  refine lv_iadd hx hb dX10_steps_26 ?_
  refine lv_topi (fun zq8_ e_zq8_ => ?_)
  have h_zq8_ : zq8_.toInt = rq6_.toInt + 0 := by rw [e_zq8_, iAdd (by have := iRg rq6_; have : (0 : Int32).toInt = 0 := rfl; omega) (by have := iRg rq6_; have : (0 : Int32).toInt = 0 := rfl; omega)]; rfl
  refine lv_iload_n hx hb dX10_steps_27 rfl (lv_at hl 5 rfl) ?_
  refine yist (x := so) hC hK hH hc_al (noT hn_al) (iIn (by omega) (by omega)) dX10_steps_28 (fun Hq_ lcq_ Mq9_ hc_al hfr hH => ?_)
  have hc_al : Mq9_ al = some (.inl (kA 0, 7506, .inl (upd f (Int32.toNatClampNeg zq8_) so))) := hc_al
  have hc_h : Mq9_ h = some (.inr (8, [.ref al, .ref mt, .ref ii, .int ta, .int fpm, .ref pa, .int sm, .int nx, .int tk, .int pl, .int ln, .long va, .int wr, .ref li])) := (hfr h n_h_al).trans hc_h
  have hF : ∀ q, FrK T q → q ≠ al → Mq9_ q = M q := fun q hq h0 => (hfr q h0).trans (hF q hq h0)
  obtain ⟨gq10_, e_gq10_⟩ : ∃ g : Nat → Int32, g = upd f (Int32.toNatClampNeg zq8_) so := ⟨_, rfl⟩
  rw [← e_gq10_] at hc_al
  have hR_gq10_ : Rng gq10_ := by rw [e_gq10_]; exact hR_f.uX (t := t) (b := b) (xn := xn) (by omega) (by omega) (by omega) (by have := iCl (x := zq8_) (by omega); omega) (by have := iCl (x := zq8_) (by omega); omega) (by have := iCl (x := zq8_) (by omega); omega)
  have hK_gq10_ : Ke f gq10_ := by rw [e_gq10_]; exact hK_f.up (by have := iCl (x := zq8_) (by omega); omega)
  have hp_gq10_ : Kp f gq10_ xn := by rw [e_gq10_]; exact hp_f.up (by have := iCl (x := zq8_) (by omega); omega) (by have := iCl (x := zq8_) (by omega); omega)
  refine lv_aload_n hx hb dX10_steps_29 rfl (lv_at hl 2 rfl) ?_
  refine xg hC hK hH flX10_7 hc_h rfl dX10_steps_30 ?_
  refine lv_iload hx hb dX10_steps_33 (lv_at hl 0 rfl) ?_
  refine lv_iconst (v := 1) hx hb dX10_steps_35 (by decide) ?_
  refine lv_iadd hx hb dX10_steps_36 ?_
  refine lv_topi (fun zq11_ e_zq11_ => ?_)
  have h_zq11_ : zq11_.toInt = rq6_.toInt + 1 := by rw [e_zq11_, iAdd (by have := iRg rq6_; have : (1 : Int32).toInt = 1 := rfl; omega) (by have := iRg rq6_; have : (1 : Int32).toInt = 1 := rfl; omega)]; rfl
  refine lv_iload hx hb dX10_steps_37 (lv_at hl 6 rfl) ?_
  refine yist (x := by_) hC hK hH hc_al (noT hn_al) (iIn (by omega) (by omega)) dX10_steps_39 (fun Hq_ lcq_ Mq12_ hc_al hfr hH => ?_)
  have hc_al : Mq12_ al = some (.inl (kA 0, 7506, .inl (upd gq10_ (Int32.toNatClampNeg zq11_) by_))) := hc_al
  have hc_h : Mq12_ h = some (.inr (8, [.ref al, .ref mt, .ref ii, .int ta, .int fpm, .ref pa, .int sm, .int nx, .int tk, .int pl, .int ln, .long va, .int wr, .ref li])) := (hfr h n_h_al).trans hc_h
  have hF : ∀ q, FrK T q → q ≠ al → Mq12_ q = M q := fun q hq h0 => (hfr q h0).trans (hF q hq h0)
  obtain ⟨gq13_, e_gq13_⟩ : ∃ g : Nat → Int32, g = upd gq10_ (Int32.toNatClampNeg zq11_) by_ := ⟨_, rfl⟩
  rw [← e_gq13_] at hc_al
  have hR_gq13_ : Rng gq13_ := by rw [e_gq13_]; exact hR_gq10_.uX (t := t) (b := b) (xn := xn) (by omega) (by omega) (by omega) (by have := iCl (x := zq11_) (by omega); omega) (by have := iCl (x := zq11_) (by omega); omega) (by have := iCl (x := zq11_) (by omega); omega)
  have hK_gq13_ : Ke f gq13_ := by rw [e_gq13_]; exact hK_gq10_.up (by have := iCl (x := zq11_) (by omega); omega)
  have hp_gq13_ : Kp f gq13_ xn := by rw [e_gq13_]; exact hp_gq10_.up (by have := iCl (x := zq11_) (by omega); omega) (by have := iCl (x := zq11_) (by omega); omega)
  refine lv_aload_n hx hb dX10_steps_40 rfl (lv_at hl 2 rfl) ?_
  refine xg hC hK hH flX10_7 hc_h rfl dX10_steps_41 ?_
  refine lv_iload hx hb dX10_steps_44 (lv_at hl 0 rfl) ?_
  refine lv_iconst (v := 2) hx hb dX10_steps_46 (by decide) ?_
  refine lv_iadd hx hb dX10_steps_47 ?_
  refine lv_topi (fun zq14_ e_zq14_ => ?_)
  have h_zq14_ : zq14_.toInt = rq6_.toInt + 2 := by rw [e_zq14_, iAdd (by have := iRg rq6_; have : (2 : Int32).toInt = 2 := rfl; omega) (by have := iRg rq6_; have : (2 : Int32).toInt = 2 := rfl; omega)]; rfl
  refine lv_iload hx hb dX10_steps_48 (lv_at hl 7 rfl) ?_
  refine yist (x := nm) hC hK hH hc_al (noT hn_al) (iIn (by omega) (by omega)) dX10_steps_50 (fun Hq_ lcq_ Mq15_ hc_al hfr hH => ?_)
  have hc_al : Mq15_ al = some (.inl (kA 0, 7506, .inl (upd gq13_ (Int32.toNatClampNeg zq14_) nm))) := hc_al
  have hc_h : Mq15_ h = some (.inr (8, [.ref al, .ref mt, .ref ii, .int ta, .int fpm, .ref pa, .int sm, .int nx, .int tk, .int pl, .int ln, .long va, .int wr, .ref li])) := (hfr h n_h_al).trans hc_h
  have hF : ∀ q, FrK T q → q ≠ al → Mq15_ q = M q := fun q hq h0 => (hfr q h0).trans (hF q hq h0)
  obtain ⟨gq16_, e_gq16_⟩ : ∃ g : Nat → Int32, g = upd gq13_ (Int32.toNatClampNeg zq14_) nm := ⟨_, rfl⟩
  rw [← e_gq16_] at hc_al
  have hR_gq16_ : Rng gq16_ := by rw [e_gq16_]; exact hR_gq13_.uO (40 + 12 * nq3_ + 2) (t := t) (b := b) (xn := xn) (by omega) (by omega) (by omega) (by omega) (rgS2 (by omega)) (clE (by omega)) (by omega) (by omega)
  have hK_gq16_ : Ke f gq16_ := by rw [e_gq16_]; exact hK_gq13_.up (by have := iCl (x := zq14_) (by omega); omega)
  have hp_gq16_ : Kp f gq16_ xn := by rw [e_gq16_]; exact hp_gq13_.up (by have := iCl (x := zq14_) (by omega); omega) (by have := iCl (x := zq14_) (by omega); omega)
  refine lv_aload_n hx hb dX10_steps_51 rfl (lv_at hl 2 rfl) ?_
  refine xg hC hK hH flX10_7 hc_h rfl dX10_steps_52 ?_
  refine lv_iload hx hb dX10_steps_55 (lv_at hl 0 rfl) ?_
  refine lv_iconst (v := 3) hx hb dX10_steps_57 (by decide) ?_
  refine lv_iadd hx hb dX10_steps_58 ?_
  refine lv_topi (fun zq17_ e_zq17_ => ?_)
  have h_zq17_ : zq17_.toInt = rq6_.toInt + 3 := by rw [e_zq17_, iAdd (by have := iRg rq6_; have : (3 : Int32).toInt = 3 := rfl; omega) (by have := iRg rq6_; have : (3 : Int32).toInt = 3 := rfl; omega)]; rfl
  refine lv_iload hx hb dX10_steps_59 (lv_at hl 8 rfl) ?_
  refine yist (x := to) hC hK hH hc_al (noT hn_al) (iIn (by omega) (by omega)) dX10_steps_61 (fun Hq_ lcq_ Mq18_ hc_al hfr hH => ?_)
  have hc_al : Mq18_ al = some (.inl (kA 0, 7506, .inl (upd gq16_ (Int32.toNatClampNeg zq17_) to))) := hc_al
  have hc_h : Mq18_ h = some (.inr (8, [.ref al, .ref mt, .ref ii, .int ta, .int fpm, .ref pa, .int sm, .int nx, .int tk, .int pl, .int ln, .long va, .int wr, .ref li])) := (hfr h n_h_al).trans hc_h
  have hF : ∀ q, FrK T q → q ≠ al → Mq18_ q = M q := fun q hq h0 => (hfr q h0).trans (hF q hq h0)
  obtain ⟨gq19_, e_gq19_⟩ : ∃ g : Nat → Int32, g = upd gq16_ (Int32.toNatClampNeg zq17_) to := ⟨_, rfl⟩
  rw [← e_gq19_] at hc_al
  have hR_gq19_ : Rng gq19_ := by rw [e_gq19_]; exact hR_gq16_.uO (40 + 12 * nq3_ + 3) (t := t) (b := b) (xn := xn) (by omega) (by omega) (by omega) (by omega) (rgS3 (by omega)) (clE (by omega)) (by omega) (by omega)
  have hK_gq19_ : Ke f gq19_ := by rw [e_gq19_]; exact hK_gq16_.up (by have := iCl (x := zq17_) (by omega); omega)
  have hp_gq19_ : Kp f gq19_ xn := by rw [e_gq19_]; exact hp_gq16_.up (by have := iCl (x := zq17_) (by omega); omega) (by have := iCl (x := zq17_) (by omega); omega)
  refine lv_aload_n hx hb dX10_steps_62 rfl (lv_at hl 2 rfl) ?_
  refine xg hC hK hH flX10_7 hc_h rfl dX10_steps_63 ?_
  refine lv_iload hx hb dX10_steps_66 (lv_at hl 0 rfl) ?_
  refine lv_iconst (v := 4) hx hb dX10_steps_68 (by decide) ?_
  refine lv_iadd hx hb dX10_steps_69 ?_
  refine lv_topi (fun zq20_ e_zq20_ => ?_)
  have h_zq20_ : zq20_.toInt = rq6_.toInt + 4 := by rw [e_zq20_, iAdd (by have := iRg rq6_; have : (4 : Int32).toInt = 4 := rfl; omega) (by have := iRg rq6_; have : (4 : Int32).toInt = 4 := rfl; omega)]; rfl
  refine lv_iload hx hb dX10_steps_70 (lv_at hl 9 rfl) ?_
  refine yist (x := va_) hC hK hH hc_al (noT hn_al) (iIn (by omega) (by omega)) dX10_steps_72 (fun Hq_ lcq_ Mq21_ hc_al hfr hH => ?_)
  have hc_al : Mq21_ al = some (.inl (kA 0, 7506, .inl (upd gq19_ (Int32.toNatClampNeg zq20_) va_))) := hc_al
  have hc_h : Mq21_ h = some (.inr (8, [.ref al, .ref mt, .ref ii, .int ta, .int fpm, .ref pa, .int sm, .int nx, .int tk, .int pl, .int ln, .long va, .int wr, .ref li])) := (hfr h n_h_al).trans hc_h
  have hF : ∀ q, FrK T q → q ≠ al → Mq21_ q = M q := fun q hq h0 => (hfr q h0).trans (hF q hq h0)
  obtain ⟨gq22_, e_gq22_⟩ : ∃ g : Nat → Int32, g = upd gq19_ (Int32.toNatClampNeg zq20_) va_ := ⟨_, rfl⟩
  rw [← e_gq22_] at hc_al
  have hR_gq22_ : Rng gq22_ := by rw [e_gq22_]; exact hR_gq19_.uX (t := t) (b := b) (xn := xn) (by omega) (by omega) (by omega) (by have := iCl (x := zq20_) (by omega); omega) (by have := iCl (x := zq20_) (by omega); omega) (by have := iCl (x := zq20_) (by omega); omega)
  have hK_gq22_ : Ke f gq22_ := by rw [e_gq22_]; exact hK_gq19_.up (by have := iCl (x := zq20_) (by omega); omega)
  have hp_gq22_ : Kp f gq22_ xn := by rw [e_gq22_]; exact hp_gq19_.up (by have := iCl (x := zq20_) (by omega); omega) (by have := iCl (x := zq20_) (by omega); omega)
  refine lv_aload_n hx hb dX10_steps_73 rfl (lv_at hl 2 rfl) ?_
  refine xg hC hK hH flX10_7 hc_h rfl dX10_steps_74 ?_
  refine lv_iload hx hb dX10_steps_77 (lv_at hl 0 rfl) ?_
  refine lv_iconst (v := 5) hx hb dX10_steps_79 (by decide) ?_
  refine lv_iadd hx hb dX10_steps_80 ?_
  refine lv_topi (fun zq23_ e_zq23_ => ?_)
  have h_zq23_ : zq23_.toInt = rq6_.toInt + 5 := by rw [e_zq23_, iAdd (by have := iRg rq6_; have : (5 : Int32).toInt = 5 := rfl; omega) (by have := iRg rq6_; have : (5 : Int32).toInt = 5 := rfl; omega)]; rfl
  have Jq25_ : ∀ vq24_ : Int32, (0 : Int) ≤ vq24_.toInt → vq24_.toInt ≤ 1 → W p l e (rmL 4 0 0) s m ([.ref h, .int bb, .int x, .int so, .int by_, .int nm, .int to, .int va_, .int no, .int wi] : List Value).toArray below meth c Hq_ lcq_ 0 0 (MQ below (va_Qi (fun r u => ∃ g : Nat → Int32, (Rng g ∧ Ke f g) ∧ (r = 0 ∧ u.1 al = some (.inl (kA 0, 7506, .inl g))) ∧ u.2 = T ∧ (∀ q, FrK T q → q ≠ al → u.1 q = M q)) (mB D kA M T sz) (mA M T sz)) ([.ref h, .int bb, .int x, .int so, .int by_, .int nm, .int to, .int va_, .int no, .int wi] : List Value).toArray s 0 0 (mA M T sz)) (F0 m 91 ls [.int vq24_, .int zq23_, .ref al]) := by
    intro vq24_ l_vq24_ g_vq24_
    refine yist (x := vq24_) hC hK hH hc_al (noT hn_al) (iIn (by omega) (by omega)) dX10_steps_91 (fun Hq_ lcq_ Mq26_ hc_al hfr hH => ?_)
    have hc_al : Mq26_ al = some (.inl (kA 0, 7506, .inl (upd gq22_ (Int32.toNatClampNeg zq23_) vq24_))) := hc_al
    have hc_h : Mq26_ h = some (.inr (8, [.ref al, .ref mt, .ref ii, .int ta, .int fpm, .ref pa, .int sm, .int nx, .int tk, .int pl, .int ln, .long va, .int wr, .ref li])) := (hfr h n_h_al).trans hc_h
    have hF : ∀ q, FrK T q → q ≠ al → Mq26_ q = M q := fun q hq h0 => (hfr q h0).trans (hF q hq h0)
    obtain ⟨gq27_, e_gq27_⟩ : ∃ g : Nat → Int32, g = upd gq22_ (Int32.toNatClampNeg zq23_) vq24_ := ⟨_, rfl⟩
    rw [← e_gq27_] at hc_al
    have hR_gq27_ : Rng gq27_ := by rw [e_gq27_]; exact hR_gq22_.uX (t := t) (b := b) (xn := xn) (by omega) (by omega) (by omega) (by have := iCl (x := zq23_) (by omega); omega) (by have := iCl (x := zq23_) (by omega); omega) (by have := iCl (x := zq23_) (by omega); omega)
    have hK_gq27_ : Ke f gq27_ := by rw [e_gq27_]; exact hK_gq22_.up (by have := iCl (x := zq23_) (by omega); omega)
    have hp_gq27_ : Kp f gq27_ xn := by rw [e_gq27_]; exact hp_gq22_.up (by have := iCl (x := zq23_) (by omega); omega) (by have := iCl (x := zq23_) (by omega); omega)
    refine lv_aload_n hx hb dX10_steps_92 rfl (lv_at hl 2 rfl) ?_
    refine xg hC hK hH flX10_7 hc_h rfl dX10_steps_93 ?_
    refine lv_iload hx hb dX10_steps_96 (lv_at hl 0 rfl) ?_
    refine lv_bipush (v := 6) hx hb dX10_steps_98 (by decide) ?_
    refine lv_iadd hx hb dX10_steps_100 ?_
    refine lv_topi (fun zq28_ e_zq28_ => ?_)
    have h_zq28_ : zq28_.toInt = rq6_.toInt + 6 := by rw [e_zq28_, iAdd (by have := iRg rq6_; have : (6 : Int32).toInt = 6 := rfl; omega) (by have := iRg rq6_; have : (6 : Int32).toInt = 6 := rfl; omega)]; rfl
    have Jq30_ : ∀ vq29_ : Int32, (0 : Int) ≤ vq29_.toInt → vq29_.toInt ≤ 1 → W p l e (rmL 4 0 0) s m ([.ref h, .int bb, .int x, .int so, .int by_, .int nm, .int to, .int va_, .int no, .int wi] : List Value).toArray below meth c Hq_ lcq_ 0 0 (MQ below (va_Qi (fun r u => ∃ g : Nat → Int32, (Rng g ∧ Ke f g) ∧ (r = 0 ∧ u.1 al = some (.inl (kA 0, 7506, .inl g))) ∧ u.2 = T ∧ (∀ q, FrK T q → q ≠ al → u.1 q = M q)) (mB D kA M T sz) (mA M T sz)) ([.ref h, .int bb, .int x, .int so, .int by_, .int nm, .int to, .int va_, .int no, .int wi] : List Value).toArray s 0 0 (mA M T sz)) (F0 m 111 ls [.int vq29_, .int zq28_, .ref al]) := by
      intro vq29_ l_vq29_ g_vq29_
      refine yist (x := vq29_) hC hK hH hc_al (noT hn_al) (iIn (by omega) (by omega)) dX10_steps_111 (fun Hq_ lcq_ Mq31_ hc_al hfr hH => ?_)
      have hc_al : Mq31_ al = some (.inl (kA 0, 7506, .inl (upd gq27_ (Int32.toNatClampNeg zq28_) vq29_))) := hc_al
      have hc_h : Mq31_ h = some (.inr (8, [.ref al, .ref mt, .ref ii, .int ta, .int fpm, .ref pa, .int sm, .int nx, .int tk, .int pl, .int ln, .long va, .int wr, .ref li])) := (hfr h n_h_al).trans hc_h
      have hF : ∀ q, FrK T q → q ≠ al → Mq31_ q = M q := fun q hq h0 => (hfr q h0).trans (hF q hq h0)
      obtain ⟨gq32_, e_gq32_⟩ : ∃ g : Nat → Int32, g = upd gq27_ (Int32.toNatClampNeg zq28_) vq29_ := ⟨_, rfl⟩
      rw [← e_gq32_] at hc_al
      have hR_gq32_ : Rng gq32_ := by rw [e_gq32_]; exact hR_gq27_.uX (t := t) (b := b) (xn := xn) (by omega) (by omega) (by omega) (by have := iCl (x := zq28_) (by omega); omega) (by have := iCl (x := zq28_) (by omega); omega) (by have := iCl (x := zq28_) (by omega); omega)
      have hK_gq32_ : Ke f gq32_ := by rw [e_gq32_]; exact hK_gq27_.up (by have := iCl (x := zq28_) (by omega); omega)
      have hp_gq32_ : Kp f gq32_ xn := by rw [e_gq32_]; exact hp_gq27_.up (by have := iCl (x := zq28_) (by omega); omega) (by have := iCl (x := zq28_) (by omega); omega)
      refine lv_aload_n hx hb dX10_steps_112 rfl (lv_at hl 2 rfl) ?_
      refine xg hC hK hH flX10_7 hc_h rfl dX10_steps_113 ?_
      refine lv_iload hx hb dX10_steps_116 (lv_at hl 0 rfl) ?_
      refine lv_bipush (v := 7) hx hb dX10_steps_118 (by decide) ?_
      refine lv_iadd hx hb dX10_steps_120 ?_
      refine lv_topi (fun zq33_ e_zq33_ => ?_)
      have h_zq33_ : zq33_.toInt = rq6_.toInt + 7 := by rw [e_zq33_, iAdd (by have := iRg rq6_; have : (7 : Int32).toInt = 7 := rfl; omega) (by have := iRg rq6_; have : (7 : Int32).toInt = 7 := rfl; omega)]; rfl
      refine lv_aload_n hx hb dX10_steps_121 rfl (lv_at hl 2 rfl) ?_
      refine xg hC hK hH flX10_7 hc_h rfl dX10_steps_122 ?_
      refine lv_iload_n hx hb dX10_steps_125 rfl (lv_at hl 3 rfl) ?_
      refine lv_iconst (v := 0) hx hb dX10_steps_126 (by decide) ?_
      refine lv_iadd hx hb dX10_steps_127 ?_
      refine lv_topi (fun zq34_ e_zq34_ => ?_)
      have h_zq34_ : zq34_.toInt = bb.toInt + 0 := by rw [e_zq34_, iAdd (by have := iRg bb; have : (0 : Int32).toInt = 0 := rfl; omega) (by have := iRg bb; have : (0 : Int32).toInt = 0 := rfl; omega)]; rfl
      refine xild hC hK hH hc_al (iIn (by omega) (by omega)) dX10_steps_128 ?_
      refine lv_topi (fun xq35_ e_xq35_ => ?_)
      have k_xq35_ : xq35_ = gq32_ (1140 * t) := by rw [e_xq35_, clE (n := 1140 * t) (by omega)]
      have kt_xq35_ : xq35_.toInt = (gq32_ (1140 * t)).toInt := by rw [k_xq35_]
      refine yist (x := xq35_) hC hK hH hc_al (noT hn_al) (iIn (by omega) (by omega)) dX10_steps_129 (fun Hq_ lcq_ Mq36_ hc_al hfr hH => ?_)
      have hc_al : Mq36_ al = some (.inl (kA 0, 7506, .inl (upd gq32_ (Int32.toNatClampNeg zq33_) xq35_))) := hc_al
      have hc_h : Mq36_ h = some (.inr (8, [.ref al, .ref mt, .ref ii, .int ta, .int fpm, .ref pa, .int sm, .int nx, .int tk, .int pl, .int ln, .long va, .int wr, .ref li])) := (hfr h n_h_al).trans hc_h
      have hF : ∀ q, FrK T q → q ≠ al → Mq36_ q = M q := fun q hq h0 => (hfr q h0).trans (hF q hq h0)
      obtain ⟨gq37_, e_gq37_⟩ : ∃ g : Nat → Int32, g = upd gq32_ (Int32.toNatClampNeg zq33_) xq35_ := ⟨_, rfl⟩
      rw [← e_gq37_] at hc_al
      have hR_gq37_ : Rng gq37_ := by rw [e_gq37_]; exact hR_gq32_.uX (t := t) (b := b) (xn := xn) (by omega) (by omega) (by omega) (by have := iCl (x := zq33_) (by omega); omega) (by have := iCl (x := zq33_) (by omega); omega) (by have := iCl (x := zq33_) (by omega); omega)
      have hK_gq37_ : Ke f gq37_ := by rw [e_gq37_]; exact hK_gq32_.up (by have := iCl (x := zq33_) (by omega); omega)
      have hp_gq37_ : Kp f gq37_ xn := by rw [e_gq37_]; exact hp_gq32_.up (by have := iCl (x := zq33_) (by omega); omega) (by have := iCl (x := zq33_) (by omega); omega)
      refine lv_aload_n hx hb dX10_steps_130 rfl (lv_at hl 2 rfl) ?_
      refine xg hC hK hH flX10_7 hc_h rfl dX10_steps_131 ?_
      refine lv_iload hx hb dX10_steps_134 (lv_at hl 0 rfl) ?_
      refine lv_bipush (v := 10) hx hb dX10_steps_136 (by decide) ?_
      refine lv_iadd hx hb dX10_steps_138 ?_
      refine lv_topi (fun zq38_ e_zq38_ => ?_)
      have h_zq38_ : zq38_.toInt = rq6_.toInt + 10 := by rw [e_zq38_, iAdd (by have := iRg rq6_; have : (10 : Int32).toInt = 10 := rfl; omega) (by have := iRg rq6_; have : (10 : Int32).toInt = 10 := rfl; omega)]; rfl
      have Jq40_ : ∀ vq39_ : Int32, (0 : Int) ≤ vq39_.toInt → vq39_.toInt ≤ 1 → W p l e (rmL 4 0 0) s m ([.ref h, .int bb, .int x, .int so, .int by_, .int nm, .int to, .int va_, .int no, .int wi] : List Value).toArray below meth c Hq_ lcq_ 0 0 (MQ below (va_Qi (fun r u => ∃ g : Nat → Int32, (Rng g ∧ Ke f g) ∧ (r = 0 ∧ u.1 al = some (.inl (kA 0, 7506, .inl g))) ∧ u.2 = T ∧ (∀ q, FrK T q → q ≠ al → u.1 q = M q)) (mB D kA M T sz) (mA M T sz)) ([.ref h, .int bb, .int x, .int so, .int by_, .int nm, .int to, .int va_, .int no, .int wi] : List Value).toArray s 0 0 (mA M T sz)) (F0 m 186 ls [.int vq39_, .int zq38_, .ref al]) := by
        intro vq39_ l_vq39_ g_vq39_
        refine yist (x := vq39_) hC hK hH hc_al (noT hn_al) (iIn (by omega) (by omega)) dX10_steps_186 (fun Hq_ lcq_ Mq41_ hc_al hfr hH => ?_)
        have hc_al : Mq41_ al = some (.inl (kA 0, 7506, .inl (upd gq37_ (Int32.toNatClampNeg zq38_) vq39_))) := hc_al
        have hc_h : Mq41_ h = some (.inr (8, [.ref al, .ref mt, .ref ii, .int ta, .int fpm, .ref pa, .int sm, .int nx, .int tk, .int pl, .int ln, .long va, .int wr, .ref li])) := (hfr h n_h_al).trans hc_h
        have hF : ∀ q, FrK T q → q ≠ al → Mq41_ q = M q := fun q hq h0 => (hfr q h0).trans (hF q hq h0)
        obtain ⟨gq42_, e_gq42_⟩ : ∃ g : Nat → Int32, g = upd gq37_ (Int32.toNatClampNeg zq38_) vq39_ := ⟨_, rfl⟩
        rw [← e_gq42_] at hc_al
        have hR_gq42_ : Rng gq42_ := by rw [e_gq42_]; exact hR_gq37_.uX (t := t) (b := b) (xn := xn) (by omega) (by omega) (by omega) (by have := iCl (x := zq38_) (by omega); omega) (by have := iCl (x := zq38_) (by omega); omega) (by have := iCl (x := zq38_) (by omega); omega)
        have hK_gq42_ : Ke f gq42_ := by rw [e_gq42_]; exact hK_gq37_.up (by have := iCl (x := zq38_) (by omega); omega)
        have hp_gq42_ : Kp f gq42_ xn := by rw [e_gq42_]; exact hp_gq37_.up (by have := iCl (x := zq38_) (by omega); omega) (by have := iCl (x := zq38_) (by omega); omega)
        refine lv_aload_n hx hb dX10_steps_187 rfl (lv_at hl 2 rfl) ?_
        refine xg hC hK hH flX10_7 hc_h rfl dX10_steps_188 ?_
        refine lv_iload hx hb dX10_steps_191 (lv_at hl 0 rfl) ?_
        refine lv_bipush (v := 11) hx hb dX10_steps_193 (by decide) ?_
        refine lv_iadd hx hb dX10_steps_195 ?_
        refine lv_topi (fun zq43_ e_zq43_ => ?_)
        have h_zq43_ : zq43_.toInt = rq6_.toInt + 11 := by rw [e_zq43_, iAdd (by have := iRg rq6_; have : (11 : Int32).toInt = 11 := rfl; omega) (by have := iRg rq6_; have : (11 : Int32).toInt = 11 := rfl; omega)]; rfl
        have Jq45_ : ∀ vq44_ : Int32, (0 : Int) ≤ vq44_.toInt → vq44_.toInt ≤ 1 → W p l e (rmL 4 0 0) s m ([.ref h, .int bb, .int x, .int so, .int by_, .int nm, .int to, .int va_, .int no, .int wi] : List Value).toArray below meth c Hq_ lcq_ 0 0 (MQ below (va_Qi (fun r u => ∃ g : Nat → Int32, (Rng g ∧ Ke f g) ∧ (r = 0 ∧ u.1 al = some (.inl (kA 0, 7506, .inl g))) ∧ u.2 = T ∧ (∀ q, FrK T q → q ≠ al → u.1 q = M q)) (mB D kA M T sz) (mA M T sz)) ([.ref h, .int bb, .int x, .int so, .int by_, .int nm, .int to, .int va_, .int no, .int wi] : List Value).toArray s 0 0 (mA M T sz)) (F0 m 213 ls [.int vq44_, .int zq43_, .ref al]) := by
          intro vq44_ l_vq44_ g_vq44_
          refine yist (x := vq44_) hC hK hH hc_al (noT hn_al) (iIn (by omega) (by omega)) dX10_steps_213 (fun Hq_ lcq_ Mq46_ hc_al hfr hH => ?_)
          have hc_al : Mq46_ al = some (.inl (kA 0, 7506, .inl (upd gq42_ (Int32.toNatClampNeg zq43_) vq44_))) := hc_al
          have hc_h : Mq46_ h = some (.inr (8, [.ref al, .ref mt, .ref ii, .int ta, .int fpm, .ref pa, .int sm, .int nx, .int tk, .int pl, .int ln, .long va, .int wr, .ref li])) := (hfr h n_h_al).trans hc_h
          have hF : ∀ q, FrK T q → q ≠ al → Mq46_ q = M q := fun q hq h0 => (hfr q h0).trans (hF q hq h0)
          obtain ⟨gq47_, e_gq47_⟩ : ∃ g : Nat → Int32, g = upd gq42_ (Int32.toNatClampNeg zq43_) vq44_ := ⟨_, rfl⟩
          rw [← e_gq47_] at hc_al
          have hR_gq47_ : Rng gq47_ := by rw [e_gq47_]; exact hR_gq42_.uX (t := t) (b := b) (xn := xn) (by omega) (by omega) (by omega) (by have := iCl (x := zq43_) (by omega); omega) (by have := iCl (x := zq43_) (by omega); omega) (by have := iCl (x := zq43_) (by omega); omega)
          have hK_gq47_ : Ke f gq47_ := by rw [e_gq47_]; exact hK_gq42_.up (by have := iCl (x := zq43_) (by omega); omega)
          have hp_gq47_ : Kp f gq47_ xn := by rw [e_gq47_]; exact hp_gq42_.up (by have := iCl (x := zq43_) (by omega); omega) (by have := iCl (x := zq43_) (by omega); omega)
          refine lv_aload_n hx hb dX10_steps_214 rfl (lv_at hl 2 rfl) ?_
          refine xg hC hK hH flX10_7 hc_h rfl dX10_steps_215 ?_
          refine lv_iload_n hx hb dX10_steps_218 rfl (lv_at hl 4 rfl) ?_
          refine lv_bipush (v := 8) hx hb dX10_steps_219 (by decide) ?_
          refine lv_iadd hx hb dX10_steps_221 ?_
          refine lv_cst (v := zq1_) e_zq1_.symm ?_
          refine lv_dup2_11 hx hb dX10_steps_222 rfl rfl ?_
          refine xild hC hK hH hc_al (iIn (by omega) (by omega)) dX10_steps_223 ?_
          refine lv_topi (fun xq48_ e_xq48_ => ?_)
          have k_xq48_ : xq48_ = gq47_ (xn + 8) := by rw [e_xq48_, clE (n := xn + 8) (by omega)]
          have kt_xq48_ : xq48_.toInt = (gq47_ (xn + 8)).toInt := by rw [k_xq48_]
          have rr_xq48_ : (0 : Int) ≤ (gq47_ (xn + 8)).toInt ∧ (gq47_ (xn + 8)).toInt ≤ 12 := hR_gq47_.rO 8 (t := t) (b := b) (xn := xn) (by omega) (by omega) (by omega) (by decide) rfl
          have l_xq48_ : (0 : Int) ≤ xq48_.toInt := by rw [kt_xq48_, show xn + 8 = xn + 8 from by omega]; exact rr_xq48_.1
          have g_xq48_ : xq48_.toInt ≤ 12 := by rw [kt_xq48_, show xn + 8 = xn + 8 from by omega]; exact rr_xq48_.2
          have k8_xq48_ : (gq47_ (xn + 8)).toInt = (f (xn + 8)).toInt := congrArg Int32.toInt hp_gq47_.1
          have g_xq48_ : xq48_.toInt ≤ 11 := by omega
          refine lv_iconst (v := 1) hx hb dX10_steps_224 (by decide) ?_
          refine lv_iadd hx hb dX10_steps_225 ?_
          refine lv_topi (fun zq49_ e_zq49_ => ?_)
          have h_zq49_ : zq49_.toInt = xq48_.toInt + 1 := by rw [e_zq49_, iAdd (by have := iRg xq48_; have : (1 : Int32).toInt = 1 := rfl; omega) (by have := iRg xq48_; have : (1 : Int32).toInt = 1 := rfl; omega)]; rfl
          refine yist (x := zq49_) hC hK hH hc_al (noT hn_al) (iIn (by omega) (by omega)) dX10_steps_226 (fun Hq_ lcq_ Mq50_ hc_al hfr hH => ?_)
          have hc_al : Mq50_ al = some (.inl (kA 0, 7506, .inl (upd gq47_ (Int32.toNatClampNeg zq1_) zq49_))) := hc_al
          have hc_h : Mq50_ h = some (.inr (8, [.ref al, .ref mt, .ref ii, .int ta, .int fpm, .ref pa, .int sm, .int nx, .int tk, .int pl, .int ln, .long va, .int wr, .ref li])) := (hfr h n_h_al).trans hc_h
          have hF : ∀ q, FrK T q → q ≠ al → Mq50_ q = M q := fun q hq h0 => (hfr q h0).trans (hF q hq h0)
          obtain ⟨gq51_, e_gq51_⟩ : ∃ g : Nat → Int32, g = upd gq47_ (Int32.toNatClampNeg zq1_) zq49_ := ⟨_, rfl⟩
          rw [← e_gq51_] at hc_al
          have hR_gq51_ : Rng gq51_ := by rw [e_gq51_]; exact hR_gq47_.uO 8 (t := t) (b := b) (xn := xn) (by omega) (by omega) (by omega) (by decide) rfl (clE (by omega)) (by omega) (by omega)
          have hK_gq51_ : Ke f gq51_ := by rw [e_gq51_]; exact hK_gq47_.up (by have := iCl (x := zq1_) (by omega); omega)
          have hp_gq51_ : Kp gq51_ gq51_ xn := Kp.rf
          refine lv_aload_n hx hb dX10_steps_227 rfl (lv_at hl 2 rfl) ?_
          refine xg hC hK hH flX10_7 hc_h rfl dX10_steps_228 ?_
          refine lv_iload_n hx hb dX10_steps_231 rfl (lv_at hl 4 rfl) ?_
          refine lv_bipush (v := 7) hx hb dX10_steps_232 (by decide) ?_
          refine lv_iadd hx hb dX10_steps_234 ?_
          refine lv_topi (fun zq52_ e_zq52_ => ?_)
          have h_zq52_ : zq52_.toInt = x.toInt + 7 := by rw [e_zq52_, iAdd (by have := iRg x; have : (7 : Int32).toInt = 7 := rfl; omega) (by have := iRg x; have : (7 : Int32).toInt = 7 := rfl; omega)]; rfl
          refine lv_iload hx hb dX10_steps_235 (lv_at hl 8 rfl) ?_
          refine yist (x := to) hC hK hH hc_al (noT hn_al) (iIn (by omega) (by omega)) dX10_steps_237 (fun Hq_ lcq_ Mq53_ hc_al hfr hH => ?_)
          have hc_al : Mq53_ al = some (.inl (kA 0, 7506, .inl (upd gq51_ (Int32.toNatClampNeg zq52_) to))) := hc_al
          have hc_h : Mq53_ h = some (.inr (8, [.ref al, .ref mt, .ref ii, .int ta, .int fpm, .ref pa, .int sm, .int nx, .int tk, .int pl, .int ln, .long va, .int wr, .ref li])) := (hfr h n_h_al).trans hc_h
          have hF : ∀ q, FrK T q → q ≠ al → Mq53_ q = M q := fun q hq h0 => (hfr q h0).trans (hF q hq h0)
          obtain ⟨gq54_, e_gq54_⟩ : ∃ g : Nat → Int32, g = upd gq51_ (Int32.toNatClampNeg zq52_) to := ⟨_, rfl⟩
          rw [← e_gq54_] at hc_al
          have hR_gq54_ : Rng gq54_ := by rw [e_gq54_]; exact hR_gq51_.uO 7 (t := t) (b := b) (xn := xn) (by omega) (by omega) (by omega) (by decide) rfl (clE (by omega)) (by omega) (by omega)
          have hK_gq54_ : Ke f gq54_ := by rw [e_gq54_]; exact hK_gq51_.up (by have := iCl (x := zq52_) (by omega); omega)
          have hp_gq54_ : Kp gq51_ gq54_ xn := by rw [e_gq54_]; exact hp_gq51_.up (by have := iCl (x := zq52_) (by omega); omega) (by have := iCl (x := zq52_) (by omega); omega)
          refine lv_aload_n hx hb dX10_steps_238 rfl (lv_at hl 2 rfl) ?_
          refine lv_iload_n hx hb dX10_steps_239 rfl (lv_at hl 4 rfl) ?_
          refine lv_iload hx hb dX10_steps_240 (lv_at hl 1 rfl) ?_
          refine lv_iconst (v := 2) hx hb dX10_steps_242 (by decide) ?_
          refine lv_iadd hx hb dX10_steps_243 ?_
          refine lv_topi (fun zq55_ e_zq55_ => ?_)
          have h_zq55_ : zq55_.toInt = xq2_.toInt + 2 := by rw [e_zq55_, iAdd (by have := iRg xq2_; have : (2 : Int32).toInt = 2 := rfl; omega) (by have := iRg xq2_; have : (2 : Int32).toInt = 2 := rfl; omega)]; rfl
          obtain ⟨nq56_, hn_nq56_⟩ : ∃ n : Nat, zq55_.toInt = (n : Int) := ⟨(zq55_.toInt).toNat, by omega⟩
          refine goI hK hH (runS (As := [.int x, .int zq55_]) (rest := [.ref h]) hC hK hH (c_X10_partyAt (by omega) (by omega)) mlX10_56 ⟨⟨Nat.le_of_ble_eq_true rfl, Nat.le_of_ble_eq_true rfl⟩, Nat.le_of_ble_eq_true rfl, Nat.le_of_ble_eq_true rfl⟩ rfl hl.1 rfl (Nat.le_of_ble_eq_true rfl) dX10_steps_244) (fun rq59_ Mq57_ Tq58_ Hq_ lcq_ hP hz hH => ?_)
          try dsimp only at hP
          obtain ⟨(⟨cq60_, ⟨l_rq59_, g_rq59_⟩⟩), eT, eM⟩ := hP
          have eT := eT.symm; subst eT
          have eM := eM.symm; subst eM
          have cq60_ : rq59_.toInt = x.toInt + 184 + 6 * zq55_.toInt := cq60_
          have hx_rq59_ : rq59_.toInt = ((xn + 184 + 6 * nq56_ : Nat) : Int) := by omega
          refine goV hK hH (runV (As := [.int rq59_]) (rest := []) hC hK hH (c_X10_clears (xn := xn) (t := t) (b := b) (ptn := nq56_) hc_h hn_h hc_al hn_al ht_mt ht_pa ht_li (by exact hR_gq54_) (by omega) (by omega) (by omega) (by omega) (by omega)) mlX10_59 (rcvM hK hH hc_h rfl) ⟨⟨Nat.le_of_ble_eq_true rfl, Nat.le_of_ble_eq_true rfl⟩, Nat.le_of_ble_eq_true rfl, Nat.le_of_ble_eq_true rfl⟩ rfl hl.1 rfl (Nat.le_of_ble_eq_true rfl) dX10_steps_247) (fun Mq61_ Tq62_ Hq_ lcq_ hP hz hH => ?_)
          try dsimp only at hP
          obtain ⟨gq64_, h_gq64_, (hx_al), eT, hfr⟩ := hP
          have eT := eT.symm; subst eT
          have hc_h : Mq61_ h = some (.inr (8, [.ref al, .ref mt, .ref ii, .int ta, .int fpm, .ref pa, .int sm, .int nx, .int tk, .int pl, .int ln, .long va, .int wr, .ref li])) := (hfr h (Or.inl hn_h) n_h_al).trans hc_h
          have hc_al : Mq61_ al = some (.inl (kA 0, 7506, .inl gq64_)) := hx_al
          have hF : ∀ q, FrK T q → q ≠ al → Mq61_ q = M q := fun q hq h0 => (hfr q hq  h0).trans (hF q hq h0)
          have hR_gq64_ : Rng gq64_ := h_gq64_.1
          have hK_gq64_ : Ke f gq64_ := hK_gq54_.tr h_gq64_.2.1
          have hE_gq64_ : gq64_ 1 = gq54_ 1 := h_gq64_.2.2
          have hp_gq64_ : Kp gq64_ gq64_ xn := Kp.rf
          refine lv_aload_n hx hb dX10_steps_250 rfl (lv_at hl 2 rfl) ?_
          refine lv_iload_n hx hb dX10_steps_251 rfl (lv_at hl 4 rfl) ?_
          refine lv_iload hx hb dX10_steps_252 (lv_at hl 1 rfl) ?_
          refine lv_iconst (v := 0) hx hb dX10_steps_254 (by decide) ?_
          refine goV hK hH (runV (As := [.int x, .int xq2_, .int 0]) (rest := []) hC hK hH (c_X10_goes (xn := xn) (t := t) (b := b) (kn := nq3_) hc_h hn_h hc_al hn_al ht_mt ht_pa ht_li (by exact hR_gq64_) (by omega) (by omega) (by omega) (by omega) (by omega) (by omega)) mlX10_63 (rcvM hK hH hc_h rfl) ⟨⟨Nat.le_of_ble_eq_true rfl, Nat.le_of_ble_eq_true rfl⟩, Nat.le_of_ble_eq_true rfl, Nat.le_of_ble_eq_true rfl⟩ rfl hl.1 rfl (Nat.le_of_ble_eq_true rfl) dX10_steps_255) (fun Mq65_ Tq66_ Hq_ lcq_ hP hz hH => ?_)
          try dsimp only at hP
          obtain ⟨gq68_, h_gq68_, (hx_al), eT, hfr⟩ := hP
          have eT := eT.symm; subst eT
          have hc_h : Mq65_ h = some (.inr (8, [.ref al, .ref mt, .ref ii, .int ta, .int fpm, .ref pa, .int sm, .int nx, .int tk, .int pl, .int ln, .long va, .int wr, .ref li])) := (hfr h (Or.inl hn_h) n_h_al).trans hc_h
          have hc_al : Mq65_ al = some (.inl (kA 0, 7506, .inl gq68_)) := hx_al
          have hF : ∀ q, FrK T q → q ≠ al → Mq65_ q = M q := fun q hq h0 => (hfr q hq  h0).trans (hF q hq h0)
          have hR_gq68_ : Rng gq68_ := h_gq68_.1
          have hK_gq68_ : Ke f gq68_ := hK_gq64_.tr h_gq68_.2
          have hp_gq68_ : Kp gq68_ gq68_ xn := Kp.rf
          refine lv_aload_n hx hb dX10_steps_258 rfl (lv_at hl 2 rfl) ?_
          refine xg hC hK hH flX10_7 hc_h rfl dX10_steps_259 ?_
          refine lv_iload hx hb dX10_steps_262 (lv_at hl 0 rfl) ?_
          refine lv_bipush (v := 8) hx hb dX10_steps_264 (by decide) ?_
          refine lv_iadd hx hb dX10_steps_266 ?_
          refine lv_topi (fun zq69_ e_zq69_ => ?_)
          have h_zq69_ : zq69_.toInt = rq6_.toInt + 8 := by rw [e_zq69_, iAdd (by have := iRg rq6_; have : (8 : Int32).toInt = 8 := rfl; omega) (by have := iRg rq6_; have : (8 : Int32).toInt = 8 := rfl; omega)]; rfl
          refine lv_aload_n hx hb dX10_steps_267 rfl (lv_at hl 2 rfl) ?_
          refine xg hC hK hH flX10_7 hc_h rfl dX10_steps_268 ?_
          refine lv_iload_n hx hb dX10_steps_271 rfl (lv_at hl 4 rfl) ?_
          refine lv_bipush (v := 13) hx hb dX10_steps_272 (by decide) ?_
          refine lv_iadd hx hb dX10_steps_274 ?_
          refine lv_topi (fun zq70_ e_zq70_ => ?_)
          have h_zq70_ : zq70_.toInt = x.toInt + 13 := by rw [e_zq70_, iAdd (by have := iRg x; have : (13 : Int32).toInt = 13 := rfl; omega) (by have := iRg x; have : (13 : Int32).toInt = 13 := rfl; omega)]; rfl
          refine xild hC hK hH hc_al (iIn (by omega) (by omega)) dX10_steps_275 ?_
          refine lv_topi (fun xq71_ e_xq71_ => ?_)
          have k_xq71_ : xq71_ = gq68_ (xn + 13) := by rw [e_xq71_, clE (n := xn + 13) (by omega)]
          have kt_xq71_ : xq71_.toInt = (gq68_ (xn + 13)).toInt := by rw [k_xq71_]
          refine yist (x := xq71_) hC hK hH hc_al (noT hn_al) (iIn (by omega) (by omega)) dX10_steps_276 (fun Hq_ lcq_ Mq72_ hc_al hfr hH => ?_)
          have hc_al : Mq72_ al = some (.inl (kA 0, 7506, .inl (upd gq68_ (Int32.toNatClampNeg zq69_) xq71_))) := hc_al
          have hc_h : Mq72_ h = some (.inr (8, [.ref al, .ref mt, .ref ii, .int ta, .int fpm, .ref pa, .int sm, .int nx, .int tk, .int pl, .int ln, .long va, .int wr, .ref li])) := (hfr h n_h_al).trans hc_h
          have hF : ∀ q, FrK T q → q ≠ al → Mq72_ q = M q := fun q hq h0 => (hfr q h0).trans (hF q hq h0)
          obtain ⟨gq73_, e_gq73_⟩ : ∃ g : Nat → Int32, g = upd gq68_ (Int32.toNatClampNeg zq69_) xq71_ := ⟨_, rfl⟩
          rw [← e_gq73_] at hc_al
          have hR_gq73_ : Rng gq73_ := by rw [e_gq73_]; exact hR_gq68_.uX (t := t) (b := b) (xn := xn) (by omega) (by omega) (by omega) (by have := iCl (x := zq69_) (by omega); omega) (by have := iCl (x := zq69_) (by omega); omega) (by have := iCl (x := zq69_) (by omega); omega)
          have hK_gq73_ : Ke f gq73_ := by rw [e_gq73_]; exact hK_gq68_.up (by have := iCl (x := zq69_) (by omega); omega)
          have hp_gq73_ : Kp gq68_ gq73_ xn := by rw [e_gq73_]; exact hp_gq68_.up (by have := iCl (x := zq69_) (by omega); omega) (by have := iCl (x := zq69_) (by omega); omega)
          refine lv_aload_n hx hb dX10_steps_277 rfl (lv_at hl 2 rfl) ?_
          refine xg hC hK hH flX10_7 hc_h rfl dX10_steps_278 ?_
          refine lv_iload hx hb dX10_steps_281 (lv_at hl 0 rfl) ?_
          refine lv_bipush (v := 9) hx hb dX10_steps_283 (by decide) ?_
          refine lv_iadd hx hb dX10_steps_285 ?_
          refine lv_topi (fun zq74_ e_zq74_ => ?_)
          have h_zq74_ : zq74_.toInt = rq6_.toInt + 9 := by rw [e_zq74_, iAdd (by have := iRg rq6_; have : (9 : Int32).toInt = 9 := rfl; omega) (by have := iRg rq6_; have : (9 : Int32).toInt = 9 := rfl; omega)]; rfl
          refine lv_aload_n hx hb dX10_steps_286 rfl (lv_at hl 2 rfl) ?_
          refine xg hC hK hH flX10_7 hc_h rfl dX10_steps_287 ?_
          refine lv_iload_n hx hb dX10_steps_290 rfl (lv_at hl 4 rfl) ?_
          refine lv_bipush (v := 14) hx hb dX10_steps_291 (by decide) ?_
          refine lv_iadd hx hb dX10_steps_293 ?_
          refine lv_topi (fun zq75_ e_zq75_ => ?_)
          have h_zq75_ : zq75_.toInt = x.toInt + 14 := by rw [e_zq75_, iAdd (by have := iRg x; have : (14 : Int32).toInt = 14 := rfl; omega) (by have := iRg x; have : (14 : Int32).toInt = 14 := rfl; omega)]; rfl
          refine xild hC hK hH hc_al (iIn (by omega) (by omega)) dX10_steps_294 ?_
          refine lv_topi (fun xq76_ e_xq76_ => ?_)
          have k_xq76_ : xq76_ = gq73_ (xn + 14) := by rw [e_xq76_, clE (n := xn + 14) (by omega)]
          have kt_xq76_ : xq76_.toInt = (gq73_ (xn + 14)).toInt := by rw [k_xq76_]
          refine yist (x := xq76_) hC hK hH hc_al (noT hn_al) (iIn (by omega) (by omega)) dX10_steps_295 (fun Hq_ lcq_ Mq77_ hc_al hfr hH => ?_)
          have hc_al : Mq77_ al = some (.inl (kA 0, 7506, .inl (upd gq73_ (Int32.toNatClampNeg zq74_) xq76_))) := hc_al
          have hc_h : Mq77_ h = some (.inr (8, [.ref al, .ref mt, .ref ii, .int ta, .int fpm, .ref pa, .int sm, .int nx, .int tk, .int pl, .int ln, .long va, .int wr, .ref li])) := (hfr h n_h_al).trans hc_h
          have hF : ∀ q, FrK T q → q ≠ al → Mq77_ q = M q := fun q hq h0 => (hfr q h0).trans (hF q hq h0)
          obtain ⟨gq78_, e_gq78_⟩ : ∃ g : Nat → Int32, g = upd gq73_ (Int32.toNatClampNeg zq74_) xq76_ := ⟨_, rfl⟩
          rw [← e_gq78_] at hc_al
          have hR_gq78_ : Rng gq78_ := by rw [e_gq78_]; exact hR_gq73_.uX (t := t) (b := b) (xn := xn) (by omega) (by omega) (by omega) (by have := iCl (x := zq74_) (by omega); omega) (by have := iCl (x := zq74_) (by omega); omega) (by have := iCl (x := zq74_) (by omega); omega)
          have hK_gq78_ : Ke f gq78_ := by rw [e_gq78_]; exact hK_gq73_.up (by have := iCl (x := zq74_) (by omega); omega)
          have hp_gq78_ : Kp gq68_ gq78_ xn := by rw [e_gq78_]; exact hp_gq73_.up (by have := iCl (x := zq74_) (by omega); omega) (by have := iCl (x := zq74_) (by omega); omega)
          refine lv_iconst (v := 0) hx hb dX10_steps_296 (by decide) ?_
          exact ret_i hC hr hlk hK hH (⟨gq78_, ⟨hR_gq78_, hK_gq78_⟩, ⟨rfl, hc_al⟩, rfl, hF⟩) (Nat.le_of_ble_eq_true rfl) (Nat.le_of_ble_eq_true rfl) dX10_steps_297
        refine lv_iload_n hx hb dX10_steps_196 rfl (lv_at hl 5 rfl) ?_
        refine lv_iconst (v := 3) hx hb dX10_steps_197 (by decide) ?_
        refine jic_ge (tgt := 212) hx hb dX10_steps_198 (by decide) (fun cq79_ => ?_) (fun cq79_ => ?_)
        · skip
          have cq79_ : 3 ≤ so.toInt := cq79_
          refine lv_iconst (v := 0) hx hb dX10_steps_212 (by decide) ?_
          exact Jq45_ 0 (by decide) (by decide)
        · skip
          have cq79_ : so.toInt < 3 := cq79_
          refine lv_iload hx hb dX10_steps_201 (lv_at hl 6 rfl) ?_
          refine lv_iload hx hb dX10_steps_203 (lv_at hl 7 rfl) ?_
          refine jic_eq (tgt := 212) hx hb dX10_steps_205 (by decide) (fun cq80_ => ?_) (fun cq80_ => ?_)
          · skip
            have cq80_ : by_.toInt = nm.toInt := cq80_
            refine lv_iconst (v := 0) hx hb dX10_steps_212 (by decide) ?_
            exact Jq45_ 0 (by decide) (by decide)
          · skip
            have cq80_ : by_.toInt ≠ nm.toInt := cq80_
            refine lv_iconst (v := 1) hx hb dX10_steps_208 (by decide) ?_
            refine lv_goto (tgt := 213) hx hb dX10_steps_209 (by decide) ?_
            exact Jq45_ 1 (by decide) (by decide)
      refine lv_iload hx hb dX10_steps_139 (lv_at hl 9 rfl) ?_
      refine jif_le (tgt := 185) hx hb dX10_steps_141 (by decide) (fun cq81_ => ?_) (fun cq81_ => ?_)
      · skip
        have cq81_ : va_.toInt ≤ 0 := cq81_
        refine lv_iconst (v := 0) hx hb dX10_steps_185 (by decide) ?_
        exact Jq40_ 0 (by decide) (by decide)
      · skip
        have cq81_ : 0 < va_.toInt := cq81_
        refine lv_iload hx hb dX10_steps_144 (lv_at hl 10 rfl) ?_
        refine jif_ne (tgt := 185) hx hb dX10_steps_146 (by decide) (fun cq82_ => ?_) (fun cq82_ => ?_)
        · skip
          have cq82_ : no.toInt ≠ 0 := cq82_
          refine lv_iconst (v := 0) hx hb dX10_steps_185 (by decide) ?_
          exact Jq40_ 0 (by decide) (by decide)
        · skip
          have cq82_ : no.toInt = 0 := cq82_
          refine lv_aload_n hx hb dX10_steps_149 rfl (lv_at hl 2 rfl) ?_
          refine xg hC hK hH flX10_7 hc_h rfl dX10_steps_150 ?_
          refine lv_iload_n hx hb dX10_steps_153 rfl (lv_at hl 3 rfl) ?_
          refine lv_iconst (v := 0) hx hb dX10_steps_154 (by decide) ?_
          refine lv_iadd hx hb dX10_steps_155 ?_
          refine lv_cst (v := zq34_) e_zq34_.symm ?_
          refine xild hC hK hH hc_al (iIn (by omega) (by omega)) dX10_steps_156 ?_
          refine lv_topi (fun xq83_ e_xq83_ => ?_)
          have k_xq83_ : xq83_ = gq37_ (1140 * t) := by rw [e_xq83_, clE (n := 1140 * t) (by omega)]
          have kt_xq83_ : xq83_.toInt = (gq37_ (1140 * t)).toInt := by rw [k_xq83_]
          refine lv_aload_n hx hb dX10_steps_157 rfl (lv_at hl 2 rfl) ?_
          refine xg hC hK hH flX10_7 hc_h rfl dX10_steps_158 ?_
          refine lv_iload_n hx hb dX10_steps_161 rfl (lv_at hl 4 rfl) ?_
          refine lv_iconst (v := 4) hx hb dX10_steps_162 (by decide) ?_
          refine lv_iadd hx hb dX10_steps_163 ?_
          refine lv_topi (fun zq84_ e_zq84_ => ?_)
          have h_zq84_ : zq84_.toInt = x.toInt + 4 := by rw [e_zq84_, iAdd (by have := iRg x; have : (4 : Int32).toInt = 4 := rfl; omega) (by have := iRg x; have : (4 : Int32).toInt = 4 := rfl; omega)]; rfl
          refine xild hC hK hH hc_al (iIn (by omega) (by omega)) dX10_steps_164 ?_
          refine lv_topi (fun xq85_ e_xq85_ => ?_)
          have k_xq85_ : xq85_ = gq37_ (xn + 4) := by rw [e_xq85_, clE (n := xn + 4) (by omega)]
          have kt_xq85_ : xq85_.toInt = (gq37_ (xn + 4)).toInt := by rw [k_xq85_]
          refine jic_gt (tgt := 185) hx hb dX10_steps_165 (by decide) (fun cq86_ => ?_) (fun cq86_ => ?_)
          · skip
            have cq86_ : xq85_.toInt < xq83_.toInt := cq86_
            refine lv_iconst (v := 0) hx hb dX10_steps_185 (by decide) ?_
            exact Jq40_ 0 (by decide) (by decide)
          · skip
            have cq86_ : xq83_.toInt ≤ xq85_.toInt := cq86_
            refine lv_aload_n hx hb dX10_steps_168 rfl (lv_at hl 2 rfl) ?_
            refine xg hC hK hH flX10_7 hc_h rfl dX10_steps_169 ?_
            refine lv_iload_n hx hb dX10_steps_172 rfl (lv_at hl 4 rfl) ?_
            refine lv_bipush (v := 9) hx hb dX10_steps_173 (by decide) ?_
            refine lv_iadd hx hb dX10_steps_175 ?_
            refine lv_topi (fun zq87_ e_zq87_ => ?_)
            have h_zq87_ : zq87_.toInt = x.toInt + 9 := by rw [e_zq87_, iAdd (by have := iRg x; have : (9 : Int32).toInt = 9 := rfl; omega) (by have := iRg x; have : (9 : Int32).toInt = 9 := rfl; omega)]; rfl
            refine xild hC hK hH hc_al (iIn (by omega) (by omega)) dX10_steps_176 ?_
            refine lv_topi (fun xq88_ e_xq88_ => ?_)
            have k_xq88_ : xq88_ = gq37_ (xn + 9) := by rw [e_xq88_, clE (n := xn + 9) (by omega)]
            have kt_xq88_ : xq88_.toInt = (gq37_ (xn + 9)).toInt := by rw [k_xq88_]
            refine lv_iconst (v := -1) hx hb dX10_steps_177 (by decide) ?_
            refine jic_ne (tgt := 185) hx hb dX10_steps_178 (by decide) (fun cq89_ => ?_) (fun cq89_ => ?_)
            · skip
              have cq89_ : xq88_.toInt ≠ (-1) := cq89_
              refine lv_iconst (v := 0) hx hb dX10_steps_185 (by decide) ?_
              exact Jq40_ 0 (by decide) (by decide)
            · skip
              have cq89_ : xq88_.toInt = (-1) := cq89_
              refine lv_iconst (v := 1) hx hb dX10_steps_181 (by decide) ?_
              refine lv_goto (tgt := 186) hx hb dX10_steps_182 (by decide) ?_
              exact Jq40_ 1 (by decide) (by decide)
    refine lv_iload hx hb dX10_steps_101 (lv_at hl 11 rfl) ?_
    refine jif_eq (tgt := 110) hx hb dX10_steps_103 (by decide) (fun cq90_ => ?_) (fun cq90_ => ?_)
    · skip
      have cq90_ : wi.toInt = 0 := cq90_
      refine lv_iconst (v := 0) hx hb dX10_steps_110 (by decide) ?_
      exact Jq30_ 0 (by decide) (by decide)
    · skip
      have cq90_ : wi.toInt ≠ 0 := cq90_
      refine lv_iconst (v := 1) hx hb dX10_steps_106 (by decide) ?_
      refine lv_goto (tgt := 111) hx hb dX10_steps_107 (by decide) ?_
      exact Jq30_ 1 (by decide) (by decide)
  refine lv_iload hx hb dX10_steps_81 (lv_at hl 10 rfl) ?_
  refine jif_eq (tgt := 90) hx hb dX10_steps_83 (by decide) (fun cq91_ => ?_) (fun cq91_ => ?_)
  · skip
    have cq91_ : no.toInt = 0 := cq91_
    refine lv_iconst (v := 0) hx hb dX10_steps_90 (by decide) ?_
    exact Jq25_ 0 (by decide) (by decide)
  · skip
    have cq91_ : no.toInt ≠ 0 := cq91_
    refine lv_iconst (v := 1) hx hb dX10_steps_86 (by decide) ?_
    refine lv_goto (tgt := 91) hx hb dX10_steps_87 (by decide) ?_
    exact Jq25_ 1 (by decide) (by decide)
