theorem cpX5_29 : CPL RX5 29 := ⟨TB_t 898 (by decide +kernel) rfl, TB_t 562 (by decide +kernel) rfl, TB_t 561 (by decide +kernel) rfl, TB_t 19 (by decide +kernel) rfl⟩
set_option maxHeartbeats 4000000 in
set_option maxRecDepth 100000 in
theorem c_X5_play {l : Launch} {D : va_G} {kA : Nat → ClassId} {M : mM} {T : mT} {sz : Nat} {rc rb rs rp : Nat} {pm : Int32} {fb_ cs : Nat} {td : Int32} (hc_rc : M rc = some (.inr (4, [.ref rb, .ref rs, .ref rp, .int pm]))) (hn_rc : T rc = none) (ht_rb : T rb = some 2) (ht_rs : T rs = some 3) (ht_rp : T rp = some 5) (ht_fb_ : T fb_ = some 2) (ht_cs : T cs = some 3) : mCv l yX5_play cX5_play 6 5 0 0 D kA M T sz [.ref rc, .ref fb_, .ref cs, .int td] (fun u => ∃ pm2 : Int32, ((0 : Int) ≤ pm2.toInt ∧ pm2.toInt ≤ 14) ∧ (u.1 rc = some (.inr (4, [.ref rb, .ref rs, .ref rp, .int pm2]))) ∧ u.2 = T ∧ (∀ q, FrA T q → q ≠ rc → u.1 q = M q)) := by
  unfold mCv
  refine start_W (by decide) (Nat.le_of_ble_eq_true rfl) ?_
  intro p e s m below meth c ls hC hr hlk hnm hK hH hsz hl
  have hx := hC.1
  have hb := hC.2.1
  have hl : lv_has ls 6 [(0, .ref rc), (1, .ref fb_), (2, .ref cs), (3, .int td)] := hl
  have hF : ∀ q, FrA T q → q ≠ rc → M q = M q := fun q _ _ => rfl
  refine lv_aload_n hx hb dX5_play_0 rfl (lv_at hl 0 rfl) ?_
  refine xg hC hK hH flX5_12 hc_rc rfl dX5_play_1 ?_
  refine lv_aload_n hx hb dX5_play_4 rfl (lv_at hl 1 rfl) ?_
  refine goV hK hH (runV (As := [.ref fb_]) (rest := []) hC hK hH (c_X1_copy ht_rb ht_fb_) mlX5_25 (rcvT hK hH ht_rb rfl rfl) ⟨⟨Nat.le_of_ble_eq_true rfl, Nat.le_of_ble_eq_true rfl⟩, Nat.le_of_ble_eq_true rfl, Nat.le_of_ble_eq_true rfl⟩ rfl hl.1 rfl (Nat.le_of_ble_eq_true rfl) dX5_play_5) (fun Mq1_ Tq2_ Hq_ lcq_ hP hz hH => ?_)
  try dsimp only at hP
  obtain ⟨(-), eT, hfr⟩ := hP
  have eT := eT.symm; subst eT
  have hc_rc : Mq1_ rc = some (.inr (4, [.ref rb, .ref rs, .ref rp, .int pm])) := (hfr rc (Or.inl hn_rc) ).trans hc_rc
  have hF : ∀ q, FrA T q → q ≠ rc → Mq1_ q = M q := fun q hq h0 => (hfr q hq ).trans (hF q hq h0)
  refine lv_aload_n hx hb dX5_play_8 rfl (lv_at hl 2 rfl) ?_
  refine lv_iconst (v := 0) hx hb dX5_play_9 (by decide) ?_
  refine lv_aload_n hx hb dX5_play_10 rfl (lv_at hl 0 rfl) ?_
  refine xg hC hK hH flX5_18 hc_rc rfl dX5_play_11 ?_
  refine lv_iconst (v := 0) hx hb dX5_play_14 (by decide) ?_
  refine lv_bipush (v := 8) hx hb dX5_play_15 (by decide) ?_
  refine tcpy hC hK hH hl.1 cpX5_29 ht_cs ht_rs rfl rfl rfl (fun _ _ _ => rfl) (by decide) (by decide) (by decide) (Nat.le_of_ble_eq_true rfl) (Nat.le_of_ble_eq_true rfl) (Nat.le_of_ble_eq_true rfl) (Nat.le_of_ble_eq_true rfl) dX5_play_17 (fun Hq_ lcq_ Mq4_ _ hfr hH => ?_)
  have hc_rc : Mq4_ rc = some (.inr (4, [.ref rb, .ref rs, .ref rp, .int pm])) := (hfr rc (neF (Or.inl hn_rc) ht_rs (by decide))).trans hc_rc
  have hF : ∀ q, FrA T q → q ≠ rc → Mq4_ q = M q := fun q hq h0 => (hfr q (neA hq ht_rs (by decide))).trans (hF q hq h0)
  refine lv_aload_n hx hb dX5_play_20 rfl (lv_at hl 0 rfl) ?_
  refine lv_iconst (v := 0) hx hb dX5_play_21 (by decide) ?_
  refine yp (v := .int 0) hC hK hH flX5_35 hc_rc (noT hn_rc) rfl rfl (Nat.le_of_ble_eq_true rfl) dX5_play_22 (fun Hq_ lcq_ Mq5_ hc_rc hfr hH => ?_)
  have hc_rc : Mq5_ rc = some (.inr (4, [.ref rb, .ref rs, .ref rp, .int 0])) := hc_rc
  have hF : ∀ q, FrA T q → q ≠ rc → Mq5_ q = M q := fun q hq h0 => (hfr q h0).trans (hF q hq h0)
  refine lv_iconst (v := 0) hx hb dX5_play_25 (by decide) ?_
  refine lv_istore (lv' := [(4, .int 0), (0, .ref rc), (1, .ref fb_), (2, .ref cs), (3, .int td)]) hx hb dX5_play_26 hl (by decide) rfl (fun ls hl => ?_)
  have loop : ∀ (n : Nat) (iq6_ : Int32) (Hq_ : Heap) (lcq_ : List Loc) (Mq7_ : mM) (ls : Array Slot), iq6_.toInt + (n : Int) = 14 → (0 : Int) ≤ iq6_.toInt → iq6_.toInt ≤ 14 → Mq7_ rc = some (.inr (4, [.ref rb, .ref rs, .ref rp, .int iq6_])) → (∀ q, FrA T q → q ≠ rc → Mq7_ q = M q) → mS D kA Mq7_ T (mA M T sz) s.heap Hq_ lcq_ → lv_has ls 6 [(4, .int iq6_), (0, .ref rc), (1, .ref fb_), (2, .ref cs), (3, .int td)] → W p l e (rmL 5 0 0) s m ([.ref rc, .ref fb_, .ref cs, .int td] : List Value).toArray below meth c Hq_ lcq_ 0 0 (MQ below (va_Qv (fun u => ∃ pm2 : Int32, ((0 : Int) ≤ pm2.toInt ∧ pm2.toInt ≤ 14) ∧ (u.1 rc = some (.inr (4, [.ref rb, .ref rs, .ref rp, .int pm2]))) ∧ u.2 = T ∧ (∀ q, FrA T q → q ≠ rc → u.1 q = M q)) (mB D kA M T sz) (mA M T sz)) ([.ref rc, .ref fb_, .ref cs, .int td] : List Value).toArray s 0 0 (mA M T sz)) (F0 m 28 ls []) := by
    intro n
    induction n with
    | zero =>
      intro iq6_ Hq_ lcq_ Mq7_ ls hi_iq6_ h0_iq6_ h9_iq6_ hc_rc hF hH hl
      have hi2_iq6_ : iq6_.toInt = 14 := by omega
      refine lv_iload hx hb dX5_play_28 (lv_at hl 0 rfl) ?_
      refine lv_bipush (v := 14) hx hb dX5_play_30 (by decide) ?_
      refine jic_ge (tgt := 96) hx hb dX5_play_32 (by decide) (fun cq8_ => ?_) (fun cq8_ => absurd cq8_ (by have := iRg iq6_; have : (14 : Int32).toInt = 14 := rfl; omega))
      have cq8_ : 14 ≤ iq6_.toInt := cq8_
      exact ret_v hC hr hlk hK hH (⟨iq6_, ⟨by omega, by omega⟩, hc_rc, rfl, hF⟩) (Nat.le_of_ble_eq_true rfl) (Nat.le_of_ble_eq_true rfl) dX5_play_96
    | succ n ih =>
      intro iq6_ Hq_ lcq_ Mq7_ ls hi_iq6_ h0_iq6_ h9_iq6_ hc_rc hF hH hl
      have hi2_iq6_ : iq6_.toInt ≤ 13 := by omega
      refine lv_iload hx hb dX5_play_28 (lv_at hl 0 rfl) ?_
      refine lv_bipush (v := 14) hx hb dX5_play_30 (by decide) ?_
      refine jic_ge (tgt := 96) hx hb dX5_play_32 (by decide) (fun cq9_ => absurd cq9_ (by have := iRg iq6_; have : (14 : Int32).toInt = 14 := rfl; omega)) (fun cq9_ => ?_)
      have cq9_ : iq6_.toInt < 14 := cq9_
      refine lv_aload_n hx hb dX5_play_35 rfl (lv_at hl 1 rfl) ?_
      refine xg hC hK hH flX5_12 hc_rc rfl dX5_play_36 ?_
      refine lv_aload_n hx hb dX5_play_39 rfl (lv_at hl 1 rfl) ?_
      refine xg hC hK hH flX5_18 hc_rc rfl dX5_play_40 ?_
      refine lv_iload_n hx hb dX5_play_43 rfl (lv_at hl 4 rfl) ?_
      refine goI hK hH (runV (As := [.ref rs, .int td]) (rest := []) hC hK hH (c_X1_greatestPayer ht_rb ht_rs) mlX5_39 (rcvT hK hH ht_rb rfl rfl) ⟨⟨Nat.le_of_ble_eq_true rfl, Nat.le_of_ble_eq_true rfl⟩, Nat.le_of_ble_eq_true rfl, Nat.le_of_ble_eq_true rfl⟩ rfl hl.1 rfl (Nat.le_of_ble_eq_true rfl) dX5_play_44) (fun rq12_ Mq10_ Tq11_ Hq_ lcq_ hP hz hH => ?_)
      try dsimp only at hP
      obtain ⟨(⟨l_rq12_, g_rq12_⟩), eT, eM⟩ := hP
      have eT := eT.symm; subst eT
      have eM := eM.symm; subst eM
      refine lv_istore (lv' := [(5, .int rq12_), (4, .int iq6_), (0, .ref rc), (1, .ref fb_), (2, .ref cs), (3, .int td)]) hx hb dX5_play_47 hl (by decide) rfl (fun ls hl => ?_)
      refine lv_iload hx hb dX5_play_49 (lv_at hl 0 rfl) ?_
      refine lv_iconst (v := -1) hx hb dX5_play_51 (by decide) ?_
      refine jic_ne (tgt := 56) hx hb dX5_play_52 (by decide) (fun cq13_ => ?_) (fun cq13_ => ?_)
      · skip
        have cq13_ : rq12_.toInt ≠ (-1) := cq13_
        refine lv_aload_n hx hb dX5_play_56 rfl (lv_at hl 2 rfl) ?_
        refine xg hC hK hH flX5_12 hc_rc rfl dX5_play_57 ?_
        refine lv_iload hx hb dX5_play_60 (lv_at hl 0 rfl) ?_
        refine lv_aload_n hx hb dX5_play_62 rfl (lv_at hl 2 rfl) ?_
        refine xg hC hK hH flX5_18 hc_rc rfl dX5_play_63 ?_
        refine goV hK hH (runV (As := [.int rq12_, .ref rs]) (rest := []) hC hK hH (c_X1_settle ht_rb ht_rs (by omega)) mlX5_43 (rcvT hK hH ht_rb rfl rfl) ⟨⟨Nat.le_of_ble_eq_true rfl, Nat.le_of_ble_eq_true rfl⟩, Nat.le_of_ble_eq_true rfl, Nat.le_of_ble_eq_true rfl⟩ rfl hl.1 rfl (Nat.le_of_ble_eq_true rfl) dX5_play_66) (fun Mq14_ Tq15_ Hq_ lcq_ hP hz hH => ?_)
        try dsimp only at hP
        obtain ⟨(-), eT, hfr⟩ := hP
        have eT := eT.symm; subst eT
        have hc_rc : Mq14_ rc = some (.inr (4, [.ref rb, .ref rs, .ref rp, .int iq6_])) := (hfr rc (Or.inl hn_rc) ).trans hc_rc
        have hF : ∀ q, FrA T q → q ≠ rc → Mq14_ q = M q := fun q hq h0 => (hfr q hq ).trans (hF q hq h0)
        refine lv_aload_n hx hb dX5_play_69 rfl (lv_at hl 2 rfl) ?_
        refine xg hC hK hH flX5_22 hc_rc rfl dX5_play_70 ?_
        refine lv_aload_n hx hb dX5_play_73 rfl (lv_at hl 2 rfl) ?_
        refine xg hC hK hH flX5_35 hc_rc rfl dX5_play_74 ?_
        refine lv_iload hx hb dX5_play_77 (lv_at hl 0 rfl) ?_
        refine tist (x := rq12_) hC hK hH ht_rp rfl (iIn (by omega) (by omega)) (iRg _).1 (iRg _).2 dX5_play_79 (fun Hq_ lcq_ Mq17_ _ hfr hH => ?_)
        have hc_rc : Mq17_ rc = some (.inr (4, [.ref rb, .ref rs, .ref rp, .int iq6_])) := (hfr rc (neF (Or.inl hn_rc) ht_rp (by decide))).trans hc_rc
        have hF : ∀ q, FrA T q → q ≠ rc → Mq17_ q = M q := fun q hq h0 => (hfr q (neA hq ht_rp (by decide))).trans (hF q hq h0)
        refine lv_aload_n hx hb dX5_play_80 rfl (lv_at hl 2 rfl) ?_
        refine lv_dup hx hb dX5_play_81 rfl ?_
        refine xg hC hK hH flX5_35 hc_rc rfl dX5_play_82 ?_
        refine lv_iconst (v := 1) hx hb dX5_play_85 (by decide) ?_
        refine lv_iadd hx hb dX5_play_86 ?_
        refine lv_topi (fun zq18_ e_zq18_ => ?_)
        have h_zq18_ : zq18_.toInt = iq6_.toInt + 1 := by rw [e_zq18_, iAdd (by have := iRg iq6_; have : (1 : Int32).toInt = 1 := rfl; omega) (by have := iRg iq6_; have : (1 : Int32).toInt = 1 := rfl; omega)]; rfl
        refine yp (v := .int zq18_) hC hK hH flX5_35 hc_rc (noT hn_rc) rfl rfl (Nat.le_of_ble_eq_true rfl) dX5_play_87 (fun Hq_ lcq_ Mq19_ hc_rc hfr hH => ?_)
        have hc_rc : Mq19_ rc = some (.inr (4, [.ref rb, .ref rs, .ref rp, .int zq18_])) := hc_rc
        have hF : ∀ q, FrA T q → q ≠ rc → Mq19_ q = M q := fun q hq h0 => (hfr q h0).trans (hF q hq h0)
        refine lv_iinc (v := zq18_) (lv' := [(4, .int zq18_), (5, .int rq12_), (0, .ref rc), (1, .ref fb_), (2, .ref cs), (3, .int td)]) hx hb dX5_play_90 hl (k := 1) rfl (by rw [e_zq18_]; rfl) (by decide) rfl (fun ls hl => ?_)
        refine lv_goto (tgt := 28) hx hb dX5_play_93 (by decide) ?_
        exact ih zq18_ _ _ _ ls (by omega) (by omega) (by omega) hc_rc hF hH (lv_sub hl [0, 2, 3, 4, 5] rfl)
      · skip
        have cq13_ : rq12_.toInt = (-1) := cq13_
        exact ret_v hC hr hlk hK hH (⟨iq6_, ⟨by omega, by omega⟩, hc_rc, rfl, hF⟩) (Nat.le_of_ble_eq_true rfl) (Nat.le_of_ble_eq_true rfl) dX5_play_55
  exact loop (Int.toNat (14 - 0)) 0 _ _ _ ls (by have : (0 : Int32).toInt = 0 := rfl; omega) (by have : (0 : Int32).toInt = 0 := rfl; omega) (by have : (0 : Int32).toInt = 0 := rfl; omega) hc_rc hF hH hl
