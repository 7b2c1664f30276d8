set_option maxHeartbeats 4000000 in
set_option maxRecDepth 100000 in
theorem whole_start {p : Program} {e : Env} {s : State} {m : MethodId} {below : List Frame} {meth : Method} {c : Code} (l : Launch) (hflags : l.flags = flags0) {b L : Nat} {xs : Nat → Int32} (hL : L ≤ 6) (C0 : lw_At p s m meth c b L xs) : W p l e room_1 s m #[Value.ref b] below meth c s.heap [] 0 0 (lw_Z below #[Value.ref b] s) (entryFrame m ([Value.ref b] : List Value).toArray 4) := by
  obtain ⟨hx, hb, hr, hml, hown, hts, hX, hbl, hlocks, hgv⟩ := id C0
  obtain ⟨D, kA, hK⟩ := law_K hts
  have hC : CallFix p m c cL_law 4 s #[Value.ref b] TB RL := ⟨hx, hb, hml, hown, fun w h => hts w (TB_in h)⟩
  obtain ⟨sz, hsz⟩ : ∃ sz, s.heap.size = sz := ⟨_, rfl⟩
  obtain ⟨M, eM0⟩ : ∃ M : mM, M = (fun _ => none) := ⟨_, rfl⟩
  obtain ⟨T, eT0⟩ : ∃ T : mT, T = (fun _ => none) := ⟨_, rfl⟩
  have hAq : ∀ q, mA M T sz q → s.heap.size ≤ q := by
    intro q h
    rcases h with h | h | h
    · rw [eM0] at h; exact absurd rfl h
    · rw [eT0] at h; exact absurd rfl h
    · rw [hsz]; exact h
  have hbA : ¬ mA M T sz b := fun h => absurd (hAq b h) (Nat.not_le.mpr hbl)
  have hH : mS D kA M T (mA M T sz) s.heap s.heap [] := by
    rw [← hsz]
    exact mS_start ⟨(fun a e h => (by rw [eM0] at h; cases h)), (fun a t h => (by rw [eT0] at h; cases h))⟩
  obtain ⟨vb, hZ⟩ := law_Z (A := mA M T sz) hts hgv (fun a h1 h2 => absurd (hAq a h2) (Nat.not_le.mpr h1))
  have hTT : ∀ a t, T a = some t → T a = some t := fun _ _ h => h
  have hl := lv_entry ([.ref b]) (n := 4) (Nat.le_of_ble_eq_true rfl)
  rw [lg_entry_eq]
  generalize (lg_sl ([.ref b]) ++ List.replicate (4 - (lg_sl ([.ref b])).length) Slot.unset).toArray = ls at hl ⊢
  have hl : lv_has ls 4 [(0, .ref b)] := hl
  refine ynew hC hK hH nlL_7 (Nat.le_of_ble_eq_true rfl) (Nat.le_of_ble_eq_true rfl) dL_law_0 (fun qq1_ Hq_ Mq2_ e_qq1_ hz nM_qq1_ nT_qq1_ hc_qq1_ hfr hN => ?_)
  have g_qq1_ : sz ≤ qq1_ := by rw [← hsz, e_qq1_]; exact hH.2.1.1
  have hH := hN
  have hc_qq1_ : Mq2_ qq1_ = some (.inr (7, [.null, .null, .null, .null, .null])) := hc_qq1_
  refine lv_dup hx hb dL_law_3 rfl ?_
  have lt_qq1_ : qq1_ < Array.size Hq_ := hH.1.ltM (by rw [hc_qq1_]; simp)
  have gH : sz ≤ Array.size Hq_ := by rw [← hsz]; exact hH.2.1.1
  have lt_qq1_ : qq1_ < Array.size Hq_ := hH.1.ltM (by rw [hc_qq1_]; simp)
  refine goV hK hH (runIZ (As := []) (rest := [.ref qq1_]) hC hK hH hZ (c_X9_init hc_qq1_ lt_qq1_) mlL_9 ⟨⟨Nat.le_of_ble_eq_true rfl, Nat.le_of_ble_eq_true rfl⟩, Nat.le_of_ble_eq_true rfl, Nat.le_of_ble_eq_true rfl⟩ rfl hl.1 rfl (Nat.le_of_ble_eq_true rfl) dL_law_4) (fun Mq3_ Tq4_ Hq_ lcq_ hP hz hH => ?_)
  try dsimp only at hP
  obtain ⟨wq5_, imq6_, rdq7_, rcq8_, cuq9_, csq10_, bsq11_, tpq12_, nbq13_, by_q14_, hc_qq1_, hc_wq5_, hc_imq6_, hc_rdq7_, hc_csq10_, t_bsq11_, t_tpq12_, g_wq5_, g_imq6_, g_rdq7_, g_rcq8_, g_cuq9_, g_csq10_, g_bsq11_, g_tpq12_, g_nbq13_, g_by_q14_, hsub, hfr⟩ := hP
  have n_qq1__wq5_ : qq1_ ≠ wq5_ := Nat.ne_of_lt (Nat.lt_of_lt_of_le lt_qq1_ g_wq5_)
  have n_wq5__qq1_ : wq5_ ≠ qq1_ := Ne.symm n_qq1__wq5_
  have n_qq1__imq6_ : qq1_ ≠ imq6_ := Nat.ne_of_lt (Nat.lt_of_lt_of_le lt_qq1_ g_imq6_)
  have n_imq6__qq1_ : imq6_ ≠ qq1_ := Ne.symm n_qq1__imq6_
  have n_qq1__rdq7_ : qq1_ ≠ rdq7_ := Nat.ne_of_lt (Nat.lt_of_lt_of_le lt_qq1_ g_rdq7_)
  have n_rdq7__qq1_ : rdq7_ ≠ qq1_ := Ne.symm n_qq1__rdq7_
  have n_qq1__rcq8_ : qq1_ ≠ rcq8_ := Nat.ne_of_lt (Nat.lt_of_lt_of_le lt_qq1_ g_rcq8_)
  have n_rcq8__qq1_ : rcq8_ ≠ qq1_ := Ne.symm n_qq1__rcq8_
  have n_qq1__cuq9_ : qq1_ ≠ cuq9_ := Nat.ne_of_lt (Nat.lt_of_lt_of_le lt_qq1_ g_cuq9_)
  have n_cuq9__qq1_ : cuq9_ ≠ qq1_ := Ne.symm n_qq1__cuq9_
  have n_qq1__csq10_ : qq1_ ≠ csq10_ := Nat.ne_of_lt (Nat.lt_of_lt_of_le lt_qq1_ g_csq10_)
  have n_csq10__qq1_ : csq10_ ≠ qq1_ := Ne.symm n_qq1__csq10_
  have n_qq1__bsq11_ : qq1_ ≠ bsq11_ := Nat.ne_of_lt (Nat.lt_of_lt_of_le lt_qq1_ g_bsq11_)
  have n_bsq11__qq1_ : bsq11_ ≠ qq1_ := Ne.symm n_qq1__bsq11_
  have n_qq1__tpq12_ : qq1_ ≠ tpq12_ := Nat.ne_of_lt (Nat.lt_of_lt_of_le lt_qq1_ g_tpq12_)
  have n_tpq12__qq1_ : tpq12_ ≠ qq1_ := Ne.symm n_qq1__tpq12_
  have n_qq1__nbq13_ : qq1_ ≠ nbq13_ := Nat.ne_of_lt (Nat.lt_of_lt_of_le lt_qq1_ g_nbq13_)
  have n_nbq13__qq1_ : nbq13_ ≠ qq1_ := Ne.symm n_qq1__nbq13_
  have n_qq1__by_q14_ : qq1_ ≠ by_q14_ := Nat.ne_of_lt (Nat.lt_of_lt_of_le lt_qq1_ g_by_q14_)
  have n_by_q14__qq1_ : by_q14_ ≠ qq1_ := Ne.symm n_qq1__by_q14_
  have g_wq5_ : sz ≤ wq5_ := Nat.le_trans gH g_wq5_
  have g_imq6_ : sz ≤ imq6_ := Nat.le_trans gH g_imq6_
  have g_rdq7_ : sz ≤ rdq7_ := Nat.le_trans gH g_rdq7_
  have g_rcq8_ : sz ≤ rcq8_ := Nat.le_trans gH g_rcq8_
  have g_cuq9_ : sz ≤ cuq9_ := Nat.le_trans gH g_cuq9_
  have g_csq10_ : sz ≤ csq10_ := Nat.le_trans gH g_csq10_
  have g_bsq11_ : sz ≤ bsq11_ := Nat.le_trans gH g_bsq11_
  have g_tpq12_ : sz ≤ tpq12_ := Nat.le_trans gH g_tpq12_
  have g_nbq13_ : sz ≤ nbq13_ := Nat.le_trans gH g_nbq13_
  have g_by_q14_ : sz ≤ by_q14_ := Nat.le_trans gH g_by_q14_
  have hTT : ∀ a t, T a = some t → Tq4_ a = some t := fun a t h => hsub _ _ (hTT a t h)
  have n_wq5__imq6_ : wq5_ ≠ imq6_ := neM hc_wq5_ hc_imq6_ (by simp)
  have n_wq5__rdq7_ : wq5_ ≠ rdq7_ := neM hc_wq5_ hc_rdq7_ (by simp)
  have n_wq5__csq10_ : wq5_ ≠ csq10_ := neM hc_wq5_ hc_csq10_ (by simp)
  have n_imq6__wq5_ : imq6_ ≠ wq5_ := neM hc_imq6_ hc_wq5_ (by simp)
  have n_imq6__rdq7_ : imq6_ ≠ rdq7_ := neM hc_imq6_ hc_rdq7_ (by simp)
  have n_imq6__csq10_ : imq6_ ≠ csq10_ := neM hc_imq6_ hc_csq10_ (by simp)
  have n_rdq7__wq5_ : rdq7_ ≠ wq5_ := neM hc_rdq7_ hc_wq5_ (by simp)
  have n_rdq7__imq6_ : rdq7_ ≠ imq6_ := neM hc_rdq7_ hc_imq6_ (by simp)
  have n_rdq7__csq10_ : rdq7_ ≠ csq10_ := neM hc_rdq7_ hc_csq10_ (by simp)
  have n_csq10__wq5_ : csq10_ ≠ wq5_ := neM hc_csq10_ hc_wq5_ (by simp)
  have n_csq10__imq6_ : csq10_ ≠ imq6_ := neM hc_csq10_ hc_imq6_ (by simp)
  have n_csq10__rdq7_ : csq10_ ≠ rdq7_ := neM hc_csq10_ hc_rdq7_ (by simp)
  refine lv_astore_n (lv' := [(1, .ref qq1_), (0, .ref b)]) hx hb dL_law_7 rfl hl (by decide) rfl (fun ls hl => ?_)
  refine ynew hC hK hH nlL_10 (Nat.le_of_ble_eq_true rfl) (Nat.le_of_ble_eq_true rfl) dL_law_8 (fun qq15_ Hq_ Mq16_ e_qq15_ hz nM_qq15_ nT_qq15_ hc_qq15_ hfr hN => ?_)
  have g_qq15_ : sz ≤ qq15_ := by rw [← hsz, e_qq15_]; exact hH.2.1.1
  have n_qq1__qq15_ : qq1_ ≠ qq15_ := neN hc_qq1_ nM_qq15_
  have n_qq15__qq1_ : qq15_ ≠ qq1_ := Ne.symm n_qq1__qq15_
  have n_wq5__qq15_ : wq5_ ≠ qq15_ := neN hc_wq5_ nM_qq15_
  have n_qq15__wq5_ : qq15_ ≠ wq5_ := Ne.symm n_wq5__qq15_
  have n_imq6__qq15_ : imq6_ ≠ qq15_ := neN hc_imq6_ nM_qq15_
  have n_qq15__imq6_ : qq15_ ≠ imq6_ := Ne.symm n_imq6__qq15_
  have n_rdq7__qq15_ : rdq7_ ≠ qq15_ := neN hc_rdq7_ nM_qq15_
  have n_qq15__rdq7_ : qq15_ ≠ rdq7_ := Ne.symm n_rdq7__qq15_
  have n_csq10__qq15_ : csq10_ ≠ qq15_ := neN hc_csq10_ nM_qq15_
  have n_qq15__csq10_ : qq15_ ≠ csq10_ := Ne.symm n_csq10__qq15_
  have hH := hN
  have hc_qq15_ : Mq16_ qq15_ = some (.inr (8, [.null, .null, .null, .int 0, .int 0, .null, .int 0, .int 0, .int 0, .int 0, .int 0, .long 0, .int 0, .null])) := hc_qq15_
  have hc_qq1_ : Mq16_ qq1_ = some (.inr (7, [.ref wq5_, .ref imq6_, .ref rdq7_, .ref rcq8_, .ref cuq9_])) := (hfr qq1_ n_qq1__qq15_).trans hc_qq1_
  have hc_wq5_ : Mq16_ wq5_ = some (.inr (6, [.int 0, .int 2, .int 0, .int 0, .int 0, .int 0, .int 0, .int (-1), .ref csq10_, .ref bsq11_, .ref tpq12_])) := (hfr wq5_ n_wq5__qq15_).trans hc_wq5_
  have hc_imq6_ : Mq16_ imq6_ = some (.inl (kA 6, 3, .inr (.inr (.inr (.inr (fun _ => none)))))) := (hfr imq6_ n_imq6__qq15_).trans hc_imq6_
  have hc_rdq7_ : Mq16_ rdq7_ = some (.inr (3, [.ref nbq13_, .ref vb, .int 0, .int 0, .ref by_q14_, .int 0, .int 0, .int 0, .int 0, .int 0])) := (hfr rdq7_ n_rdq7__qq15_).trans hc_rdq7_
  have hc_csq10_ : Mq16_ csq10_ = some (.inl (kA 0, 8, .inl (c100 (fun _ => 0)))) := (hfr csq10_ n_csq10__qq15_).trans hc_csq10_
  refine lv_dup hx hb dL_law_11 rfl ?_
  have lt_qq15_ : qq15_ < Array.size Hq_ := hH.1.ltM (by rw [hc_qq15_]; simp)
  have gH : sz ≤ Array.size Hq_ := by rw [← hsz]; exact hH.2.1.1
  have lt_qq1_ : qq1_ < Array.size Hq_ := hH.1.ltM (by rw [hc_qq1_]; simp)
  have lt_wq5_ : wq5_ < Array.size Hq_ := hH.1.ltM (by rw [hc_wq5_]; simp)
  have lt_imq6_ : imq6_ < Array.size Hq_ := hH.1.ltM (by rw [hc_imq6_]; simp)
  have lt_rdq7_ : rdq7_ < Array.size Hq_ := hH.1.ltM (by rw [hc_rdq7_]; simp)
  have lt_csq10_ : csq10_ < Array.size Hq_ := hH.1.ltM (by rw [hc_csq10_]; simp)
  have lt_qq15_ : qq15_ < Array.size Hq_ := hH.1.ltM (by rw [hc_qq15_]; simp)
  refine goV hK hH (runI (As := []) (rest := [.ref qq15_]) hC hK hH (c_X10_init hc_qq15_ lt_qq15_) mlL_12 ⟨⟨Nat.le_of_ble_eq_true rfl, Nat.le_of_ble_eq_true rfl⟩, Nat.le_of_ble_eq_true rfl, Nat.le_of_ble_eq_true rfl⟩ rfl hl.1 rfl (Nat.le_of_ble_eq_true rfl) dL_law_12) (fun Mq17_ Tq18_ Hq_ lcq_ hP hz hH => ?_)
  try dsimp only at hP
  obtain ⟨alq19_, mtq20_, iiq21_, paq22_, liq23_, Fq24_, hc_qq15_, hc_alq19_, hc_iiq21_, t_mtq20_, g_alq19_, g_mtq20_, g_iiq21_, g_paq22_, g_liq23_, hpq25_, hsub, hfr⟩ := hP
  have n_qq1__alq19_ : qq1_ ≠ alq19_ := Nat.ne_of_lt (Nat.lt_of_lt_of_le lt_qq1_ g_alq19_)
  have n_alq19__qq1_ : alq19_ ≠ qq1_ := Ne.symm n_qq1__alq19_
  have n_wq5__alq19_ : wq5_ ≠ alq19_ := Nat.ne_of_lt (Nat.lt_of_lt_of_le lt_wq5_ g_alq19_)
  have n_alq19__wq5_ : alq19_ ≠ wq5_ := Ne.symm n_wq5__alq19_
  have n_imq6__alq19_ : imq6_ ≠ alq19_ := Nat.ne_of_lt (Nat.lt_of_lt_of_le lt_imq6_ g_alq19_)
  have n_alq19__imq6_ : alq19_ ≠ imq6_ := Ne.symm n_imq6__alq19_
  have n_rdq7__alq19_ : rdq7_ ≠ alq19_ := Nat.ne_of_lt (Nat.lt_of_lt_of_le lt_rdq7_ g_alq19_)
  have n_alq19__rdq7_ : alq19_ ≠ rdq7_ := Ne.symm n_rdq7__alq19_
  have n_csq10__alq19_ : csq10_ ≠ alq19_ := Nat.ne_of_lt (Nat.lt_of_lt_of_le lt_csq10_ g_alq19_)
  have n_alq19__csq10_ : alq19_ ≠ csq10_ := Ne.symm n_csq10__alq19_
  have n_qq15__alq19_ : qq15_ ≠ alq19_ := Nat.ne_of_lt (Nat.lt_of_lt_of_le lt_qq15_ g_alq19_)
  have n_alq19__qq15_ : alq19_ ≠ qq15_ := Ne.symm n_qq15__alq19_
  have n_qq1__mtq20_ : qq1_ ≠ mtq20_ := Nat.ne_of_lt (Nat.lt_of_lt_of_le lt_qq1_ g_mtq20_)
  have n_mtq20__qq1_ : mtq20_ ≠ qq1_ := Ne.symm n_qq1__mtq20_
  have n_wq5__mtq20_ : wq5_ ≠ mtq20_ := Nat.ne_of_lt (Nat.lt_of_lt_of_le lt_wq5_ g_mtq20_)
  have n_mtq20__wq5_ : mtq20_ ≠ wq5_ := Ne.symm n_wq5__mtq20_
  have n_imq6__mtq20_ : imq6_ ≠ mtq20_ := Nat.ne_of_lt (Nat.lt_of_lt_of_le lt_imq6_ g_mtq20_)
  have n_mtq20__imq6_ : mtq20_ ≠ imq6_ := Ne.symm n_imq6__mtq20_
  have n_rdq7__mtq20_ : rdq7_ ≠ mtq20_ := Nat.ne_of_lt (Nat.lt_of_lt_of_le lt_rdq7_ g_mtq20_)
  have n_mtq20__rdq7_ : mtq20_ ≠ rdq7_ := Ne.symm n_rdq7__mtq20_
  have n_csq10__mtq20_ : csq10_ ≠ mtq20_ := Nat.ne_of_lt (Nat.lt_of_lt_of_le lt_csq10_ g_mtq20_)
  have n_mtq20__csq10_ : mtq20_ ≠ csq10_ := Ne.symm n_csq10__mtq20_
  have n_qq15__mtq20_ : qq15_ ≠ mtq20_ := Nat.ne_of_lt (Nat.lt_of_lt_of_le lt_qq15_ g_mtq20_)
  have n_mtq20__qq15_ : mtq20_ ≠ qq15_ := Ne.symm n_qq15__mtq20_
  have n_qq1__iiq21_ : qq1_ ≠ iiq21_ := Nat.ne_of_lt (Nat.lt_of_lt_of_le lt_qq1_ g_iiq21_)
  have n_iiq21__qq1_ : iiq21_ ≠ qq1_ := Ne.symm n_qq1__iiq21_
  have n_wq5__iiq21_ : wq5_ ≠ iiq21_ := Nat.ne_of_lt (Nat.lt_of_lt_of_le lt_wq5_ g_iiq21_)
  have n_iiq21__wq5_ : iiq21_ ≠ wq5_ := Ne.symm n_wq5__iiq21_
  have n_imq6__iiq21_ : imq6_ ≠ iiq21_ := Nat.ne_of_lt (Nat.lt_of_lt_of_le lt_imq6_ g_iiq21_)
  have n_iiq21__imq6_ : iiq21_ ≠ imq6_ := Ne.symm n_imq6__iiq21_
  have n_rdq7__iiq21_ : rdq7_ ≠ iiq21_ := Nat.ne_of_lt (Nat.lt_of_lt_of_le lt_rdq7_ g_iiq21_)
  have n_iiq21__rdq7_ : iiq21_ ≠ rdq7_ := Ne.symm n_rdq7__iiq21_
  have n_csq10__iiq21_ : csq10_ ≠ iiq21_ := Nat.ne_of_lt (Nat.lt_of_lt_of_le lt_csq10_ g_iiq21_)
  have n_iiq21__csq10_ : iiq21_ ≠ csq10_ := Ne.symm n_csq10__iiq21_
  have n_qq15__iiq21_ : qq15_ ≠ iiq21_ := Nat.ne_of_lt (Nat.lt_of_lt_of_le lt_qq15_ g_iiq21_)
  have n_iiq21__qq15_ : iiq21_ ≠ qq15_ := Ne.symm n_qq15__iiq21_
  have n_qq1__paq22_ : qq1_ ≠ paq22_ := Nat.ne_of_lt (Nat.lt_of_lt_of_le lt_qq1_ g_paq22_)
  have n_paq22__qq1_ : paq22_ ≠ qq1_ := Ne.symm n_qq1__paq22_
  have n_wq5__paq22_ : wq5_ ≠ paq22_ := Nat.ne_of_lt (Nat.lt_of_lt_of_le lt_wq5_ g_paq22_)
  have n_paq22__wq5_ : paq22_ ≠ wq5_ := Ne.symm n_wq5__paq22_
  have n_imq6__paq22_ : imq6_ ≠ paq22_ := Nat.ne_of_lt (Nat.lt_of_lt_of_le lt_imq6_ g_paq22_)
  have n_paq22__imq6_ : paq22_ ≠ imq6_ := Ne.symm n_imq6__paq22_
  have n_rdq7__paq22_ : rdq7_ ≠ paq22_ := Nat.ne_of_lt (Nat.lt_of_lt_of_le lt_rdq7_ g_paq22_)
  have n_paq22__rdq7_ : paq22_ ≠ rdq7_ := Ne.symm n_rdq7__paq22_
  have n_csq10__paq22_ : csq10_ ≠ paq22_ := Nat.ne_of_lt (Nat.lt_of_lt_of_le lt_csq10_ g_paq22_)
  have n_paq22__csq10_ : paq22_ ≠ csq10_ := Ne.symm n_csq10__paq22_
  have n_qq15__paq22_ : qq15_ ≠ paq22_ := Nat.ne_of_lt (Nat.lt_of_lt_of_le lt_qq15_ g_paq22_)
  have n_paq22__qq15_ : paq22_ ≠ qq15_ := Ne.symm n_qq15__paq22_
  have n_qq1__liq23_ : qq1_ ≠ liq23_ := Nat.ne_of_lt (Nat.lt_of_lt_of_le lt_qq1_ g_liq23_)
  have n_liq23__qq1_ : liq23_ ≠ qq1_ := Ne.symm n_qq1__liq23_
  have n_wq5__liq23_ : wq5_ ≠ liq23_ := Nat.ne_of_lt (Nat.lt_of_lt_of_le lt_wq5_ g_liq23_)
  have n_liq23__wq5_ : liq23_ ≠ wq5_ := Ne.symm n_wq5__liq23_
  have n_imq6__liq23_ : imq6_ ≠ liq23_ := Nat.ne_of_lt (Nat.lt_of_lt_of_le lt_imq6_ g_liq23_)
  have n_liq23__imq6_ : liq23_ ≠ imq6_ := Ne.symm n_imq6__liq23_
  have n_rdq7__liq23_ : rdq7_ ≠ liq23_ := Nat.ne_of_lt (Nat.lt_of_lt_of_le lt_rdq7_ g_liq23_)
  have n_liq23__rdq7_ : liq23_ ≠ rdq7_ := Ne.symm n_rdq7__liq23_
  have n_csq10__liq23_ : csq10_ ≠ liq23_ := Nat.ne_of_lt (Nat.lt_of_lt_of_le lt_csq10_ g_liq23_)
  have n_liq23__csq10_ : liq23_ ≠ csq10_ := Ne.symm n_csq10__liq23_
  have n_qq15__liq23_ : qq15_ ≠ liq23_ := Nat.ne_of_lt (Nat.lt_of_lt_of_le lt_qq15_ g_liq23_)
  have n_liq23__qq15_ : liq23_ ≠ qq15_ := Ne.symm n_qq15__liq23_
  have hc_qq1_ : Mq17_ qq1_ = some (.inr (7, [.ref wq5_, .ref imq6_, .ref rdq7_, .ref rcq8_, .ref cuq9_])) := (hfr qq1_ n_qq1__qq15_ lt_qq1_).trans hc_qq1_
  have hc_wq5_ : Mq17_ wq5_ = some (.inr (6, [.int 0, .int 2, .int 0, .int 0, .int 0, .int 0, .int 0, .int (-1), .ref csq10_, .ref bsq11_, .ref tpq12_])) := (hfr wq5_ n_wq5__qq15_ lt_wq5_).trans hc_wq5_
  have hc_imq6_ : Mq17_ imq6_ = some (.inl (kA 6, 3, .inr (.inr (.inr (.inr (fun _ => none)))))) := (hfr imq6_ n_imq6__qq15_ lt_imq6_).trans hc_imq6_
  have hc_rdq7_ : Mq17_ rdq7_ = some (.inr (3, [.ref nbq13_, .ref vb, .int 0, .int 0, .ref by_q14_, .int 0, .int 0, .int 0, .int 0, .int 0])) := (hfr rdq7_ n_rdq7__qq15_ lt_rdq7_).trans hc_rdq7_
  have hc_csq10_ : Mq17_ csq10_ = some (.inl (kA 0, 8, .inl (c100 (fun _ => 0)))) := (hfr csq10_ n_csq10__qq15_ lt_csq10_).trans hc_csq10_
  have t_bsq11_ : Tq18_ bsq11_ = some 6 := hsub _ _ t_bsq11_
  have t_tpq12_ : Tq18_ tpq12_ = some 7 := hsub _ _ t_tpq12_
  have g_alq19_ : sz ≤ alq19_ := Nat.le_trans gH g_alq19_
  have g_mtq20_ : sz ≤ mtq20_ := Nat.le_trans gH g_mtq20_
  have g_iiq21_ : sz ≤ iiq21_ := Nat.le_trans gH g_iiq21_
  have g_paq22_ : sz ≤ paq22_ := Nat.le_trans gH g_paq22_
  have g_liq23_ : sz ≤ liq23_ := Nat.le_trans gH g_liq23_
  have hTT : ∀ a t, T a = some t → Tq18_ a = some t := fun a t h => hsub _ _ (hTT a t h)
  have n_alq19__iiq21_ : alq19_ ≠ iiq21_ := neM hc_alq19_ hc_iiq21_ (by simp)
  have n_iiq21__alq19_ : iiq21_ ≠ alq19_ := neM hc_iiq21_ hc_alq19_ (by simp)
  refine lv_astore_n (lv' := [(2, .ref qq15_), (1, .ref qq1_), (0, .ref b)]) hx hb dL_law_15 rfl hl (by decide) rfl (fun ls hl => ?_)
  refine lv_iconst (v := 0) hx hb dL_law_16 (by decide) ?_
  refine lv_istore_n (lv' := [(3, .int 0), (2, .ref qq15_), (1, .ref qq1_), (0, .ref b)]) hx hb dL_law_17 rfl hl (by decide) rfl (fun ls hl => ?_)
  refine W.widen (k := 156) (n := 11688) (Nat.le_of_ble_eq_true rfl) (Nat.le_of_ble_eq_true rfl) ?_
  refine lv_iload_n hx hb dL_law_18 rfl (lv_at hl 0 rfl) ?_
  refine lv_aload_n hx hb dL_law_19 rfl (lv_at hl 3 rfl) ?_
  refine va_slen hx hb hX hbl hbA hH.2.1 dL_law_20 ?_
  refine lv_topi (fun vL e_vL => ?_)
  have h_vL : vL.toInt = (L : Int) := by rw [e_vL]; exact nI_toInt (by omega)
  refine lv_bipush (v := 6) hx hb dL_law_21 (by decide) ?_
  refine lv_isub hx hb dL_law_23 ?_
  refine lv_topi (fun zq26_ e_zq26_ => ?_)
  have h_zq26_ : zq26_.toInt = vL.toInt - 6 := by rw [e_zq26_, iSub (by have := iRg vL; have : (6 : Int32).toInt = 6 := rfl; omega) (by have := iRg vL; have : (6 : Int32).toInt = 6 := rfl; omega)]; rfl
  refine jic_gt (tgt := 1376) hx hb dL_law_24 (by decide) (fun c1 => ?_) (fun c1 => ?_)
  · exact law_end C0 hAq hH.2.1 (Nat.le_of_ble_eq_true rfl) (Nat.le_of_ble_eq_true rfl)
  have c1 : 0 ≤ zq26_.toInt := c1
  have hL6 : L = 6 := by omega
  subst hL6
  refine lv_aload_n hx hb dL_law_27 rfl (lv_at hl 3 rfl) ?_
  refine lv_iload_n hx hb dL_law_28 rfl (lv_at hl 0 rfl) ?_
  refine va_sld hx hb hX hbl hbA hH.2.1 (iIn (by decide) (by decide)) dL_law_29 ?_
  refine lv_topi (fun vq27_ e_vq27_ => ?_)
  refine lv_bipush (v := 63) hx hb dL_law_30 (by decide) ?_
  refine lv_iand hx hb dL_law_32 ?_
  refine lv_topi (fun vo e_vo => ?_)
  obtain ⟨jo, hjo, ejo⟩ := pk_andE vq27_ (m := 63) 6 (by decide)
  have h_vo : vo.toInt = (jo : Int) := by rw [e_vo, ejo]; exact nI_toInt (by omega)
  rcases (show vo.toInt < 0 ∨ 33 < vo.toInt ∨ vo.toInt = 0 ∨ vo.toInt = 1 ∨ vo.toInt = 2 ∨ vo.toInt = 3 ∨ vo.toInt = 4 ∨ vo.toInt = 5 ∨ vo.toInt = 6 ∨ vo.toInt = 7 ∨ vo.toInt = 8 ∨ vo.toInt = 9 ∨ vo.toInt = 10 ∨ vo.toInt = 11 ∨ vo.toInt = 12 ∨ vo.toInt = 13 ∨ vo.toInt = 14 ∨ vo.toInt = 15 ∨ vo.toInt = 16 ∨ vo.toInt = 17 ∨ vo.toInt = 18 ∨ vo.toInt = 19 ∨ vo.toInt = 20 ∨ vo.toInt = 21 ∨ vo.toInt = 22 ∨ vo.toInt = 23 ∨ vo.toInt = 24 ∨ vo.toInt = 25 ∨ vo.toInt = 26 ∨ vo.toInt = 27 ∨ vo.toInt = 28 ∨ vo.toInt = 29 ∨ vo.toInt = 30 ∨ vo.toInt = 31 ∨ vo.toInt = 32 ∨ vo.toInt = 33 by omega) with cq28_ | cq28_ | cq28_ | cq28_ | cq28_ | cq28_ | cq28_ | cq28_ | cq28_ | cq28_ | cq28_ | cq28_ | cq28_ | cq28_ | cq28_ | cq28_ | cq28_ | cq28_ | cq28_ | cq28_ | cq28_ | cq28_ | cq28_ | cq28_ | cq28_ | cq28_ | cq28_ | cq28_ | cq28_ | cq28_ | cq28_ | cq28_ | cq28_ | cq28_ | cq28_ | cq28_
  · skip
    exfalso; omega
  · skip
    refine lv_tableOut (tgt := 1370) hx hb dL_law_33 (Or.inr cq28_) (by decide) ?_
    exact law_tail C0 hAq hH.2.1 (lv_sub hl [0, 3] rfl) (Nat.le_of_ble_eq_true rfl) (Nat.le_of_ble_eq_true rfl)
  · skip
    refine lv_tableIn (off := 151) (tgt := 184) hx hb dL_law_33 (by omega) (by omega) (by rw [cq28_]; rfl) (by decide) ?_
    exact law_case_0 C0 hK hAq hc_qq1_ hc_wq5_ hc_csq10_ hc_imq6_ hc_rdq7_ hc_qq15_ hc_alq19_ hc_iiq21_ t_bsq11_ t_tpq12_ t_mtq20_ hpq25_ hH (lv_sub hl [0, 1, 2, 3] rfl)
  · skip
    refine lv_tableIn (off := 214) (tgt := 247) hx hb dL_law_33 (by omega) (by omega) (by rw [cq28_]; rfl) (by decide) ?_
    exact law_case_1 C0 hK hAq hc_qq1_ hc_wq5_ hc_csq10_ hc_imq6_ hc_rdq7_ hc_qq15_ hc_alq19_ hc_iiq21_ t_bsq11_ t_tpq12_ t_mtq20_ hpq25_ hH (lv_sub hl [0, 1, 2, 3] rfl)
  · skip
    refine lv_tableIn (off := 237) (tgt := 270) hx hb dL_law_33 (by omega) (by omega) (by rw [cq28_]; rfl) (by decide) ?_
    exact law_case_2 C0 hK hAq hc_qq1_ hc_wq5_ hc_csq10_ hc_imq6_ hc_rdq7_ hc_qq15_ hc_alq19_ hc_iiq21_ t_bsq11_ t_tpq12_ t_mtq20_ hpq25_ hH (lv_sub hl [0, 1, 2, 3] rfl)
  · skip
    refine lv_tableIn (off := 276) (tgt := 309) hx hb dL_law_33 (by omega) (by omega) (by rw [cq28_]; rfl) (by decide) ?_
    exact law_case_3 C0 hK hAq hc_qq1_ hc_wq5_ hc_csq10_ hc_imq6_ hc_rdq7_ hc_qq15_ hc_alq19_ hc_iiq21_ t_bsq11_ t_tpq12_ t_mtq20_ hpq25_ hH (lv_sub hl [0, 1, 2, 3] rfl)
  · skip
    refine lv_tableIn (off := 289) (tgt := 322) hx hb dL_law_33 (by omega) (by omega) (by rw [cq28_]; rfl) (by decide) ?_
    exact law_case_4 C0 hK hAq hc_qq1_ hc_wq5_ hc_csq10_ hc_imq6_ hc_rdq7_ hc_qq15_ hc_alq19_ hc_iiq21_ t_bsq11_ t_tpq12_ t_mtq20_ hpq25_ hH (lv_sub hl [0, 1, 2, 3] rfl)
  · skip
    refine lv_tableIn (off := 302) (tgt := 335) hx hb dL_law_33 (by omega) (by omega) (by rw [cq28_]; rfl) (by decide) ?_
    exact law_case_5 C0 hK hAq hc_qq1_ hc_wq5_ hc_csq10_ hc_imq6_ hc_rdq7_ hc_qq15_ hc_alq19_ hc_iiq21_ t_bsq11_ t_tpq12_ t_mtq20_ hpq25_ hH (lv_sub hl [0, 1, 2, 3] rfl)
  · skip
    refine lv_tableIn (off := 325) (tgt := 358) hx hb dL_law_33 (by omega) (by omega) (by rw [cq28_]; rfl) (by decide) ?_
    exact law_case_6 C0 hK hAq hc_qq1_ hc_wq5_ hc_csq10_ hc_imq6_ hc_rdq7_ hc_qq15_ hc_alq19_ hc_iiq21_ t_bsq11_ t_tpq12_ t_mtq20_ hpq25_ hH (lv_sub hl [0, 1, 2, 3] rfl)
  · skip
    refine lv_tableIn (off := 358) (tgt := 391) hx hb dL_law_33 (by omega) (by omega) (by rw [cq28_]; rfl) (by decide) ?_
    exact law_case_7 C0 hK hAq hc_qq1_ hc_wq5_ hc_csq10_ hc_imq6_ hc_rdq7_ hc_qq15_ hc_alq19_ hc_iiq21_ t_bsq11_ t_tpq12_ t_mtq20_ hpq25_ hH (lv_sub hl [0, 1, 2, 3] rfl)
  · skip
    refine lv_tableIn (off := 381) (tgt := 414) hx hb dL_law_33 (by omega) (by omega) (by rw [cq28_]; rfl) (by decide) ?_
    exact law_case_8 C0 hK hAq hc_qq1_ hc_wq5_ hc_csq10_ hc_imq6_ hc_rdq7_ hc_qq15_ hc_alq19_ hc_iiq21_ t_bsq11_ t_tpq12_ t_mtq20_ hpq25_ hH (lv_sub hl [0, 1, 2, 3] rfl)
  · skip
    refine lv_tableIn (off := 444) (tgt := 477) hx hb dL_law_33 (by omega) (by omega) (by rw [cq28_]; rfl) (by decide) ?_
    exact law_case_9 C0 hK hAq hc_qq1_ hc_wq5_ hc_csq10_ hc_imq6_ hc_rdq7_ hc_qq15_ hc_alq19_ hc_iiq21_ t_bsq11_ t_tpq12_ t_mtq20_ hpq25_ hH (lv_sub hl [0, 1, 2, 3] rfl)
  · skip
    refine lv_tableIn (off := 467) (tgt := 500) hx hb dL_law_33 (by omega) (by omega) (by rw [cq28_]; rfl) (by decide) ?_
    exact law_case_10 C0 hK hAq hc_qq1_ hc_wq5_ hc_csq10_ hc_imq6_ hc_rdq7_ hc_qq15_ hc_alq19_ hc_iiq21_ t_bsq11_ t_tpq12_ t_mtq20_ hpq25_ hH (lv_sub hl [0, 1, 2, 3] rfl)
  · skip
    refine lv_tableIn (off := 546) (tgt := 579) hx hb dL_law_33 (by omega) (by omega) (by rw [cq28_]; rfl) (by decide) ?_
    exact law_case_11 C0 hK hAq hc_qq1_ hc_wq5_ hc_csq10_ hc_imq6_ hc_rdq7_ hc_qq15_ hc_alq19_ hc_iiq21_ t_bsq11_ t_tpq12_ t_mtq20_ hpq25_ hH (lv_sub hl [0, 1, 2, 3] rfl)
  · skip
    refine lv_tableIn (off := 625) (tgt := 658) hx hb dL_law_33 (by omega) (by omega) (by rw [cq28_]; rfl) (by decide) ?_
    exact law_case_12 C0 hK hAq hc_qq1_ hc_wq5_ hc_csq10_ hc_imq6_ hc_rdq7_ hc_qq15_ hc_alq19_ hc_iiq21_ t_bsq11_ t_tpq12_ t_mtq20_ hpq25_ hH (lv_sub hl [0, 1, 2, 3] rfl)
  · skip
    refine lv_tableIn (off := 658) (tgt := 691) hx hb dL_law_33 (by omega) (by omega) (by rw [cq28_]; rfl) (by decide) ?_
    exact law_case_13 C0 hK hAq hc_qq1_ hc_wq5_ hc_csq10_ hc_imq6_ hc_rdq7_ hc_qq15_ hc_alq19_ hc_iiq21_ t_bsq11_ t_tpq12_ t_mtq20_ hpq25_ hH (lv_sub hl [0, 1, 2, 3] rfl)
  · skip
    refine lv_tableIn (off := 717) (tgt := 750) hx hb dL_law_33 (by omega) (by omega) (by rw [cq28_]; rfl) (by decide) ?_
    exact law_case_14 C0 hK hAq hc_qq1_ hc_wq5_ hc_csq10_ hc_imq6_ hc_rdq7_ hc_qq15_ hc_alq19_ hc_iiq21_ t_bsq11_ t_tpq12_ t_mtq20_ hpq25_ hH (lv_sub hl [0, 1, 2, 3] rfl)
  · skip
    refine lv_tableIn (off := 740) (tgt := 773) hx hb dL_law_33 (by omega) (by omega) (by rw [cq28_]; rfl) (by decide) ?_
    exact law_case_15 C0 hK hAq hc_qq1_ hc_wq5_ hc_csq10_ hc_imq6_ hc_rdq7_ hc_qq15_ hc_alq19_ hc_iiq21_ t_bsq11_ t_tpq12_ t_mtq20_ hpq25_ hH (lv_sub hl [0, 1, 2, 3] rfl)
  · skip
    refine lv_tableIn (off := 783) (tgt := 816) hx hb dL_law_33 (by omega) (by omega) (by rw [cq28_]; rfl) (by decide) ?_
    exact law_case_16 C0 hK hAq hc_qq1_ hc_wq5_ hc_csq10_ hc_imq6_ hc_rdq7_ hc_qq15_ hc_alq19_ hc_iiq21_ t_bsq11_ t_tpq12_ t_mtq20_ hpq25_ hH (lv_sub hl [0, 1, 2, 3] rfl)
  · skip
    refine lv_tableIn (off := 816) (tgt := 849) hx hb dL_law_33 (by omega) (by omega) (by rw [cq28_]; rfl) (by decide) ?_
    exact law_case_17 C0 hK hAq hc_qq1_ hc_wq5_ hc_csq10_ hc_imq6_ hc_rdq7_ hc_qq15_ hc_alq19_ hc_iiq21_ t_bsq11_ t_tpq12_ t_mtq20_ hpq25_ hH (lv_sub hl [0, 1, 2, 3] rfl)
  · skip
    refine lv_tableIn (off := 849) (tgt := 882) hx hb dL_law_33 (by omega) (by omega) (by rw [cq28_]; rfl) (by decide) ?_
    exact law_case_18 C0 hK hAq hc_qq1_ hc_wq5_ hc_csq10_ hc_imq6_ hc_rdq7_ hc_qq15_ hc_alq19_ hc_iiq21_ t_bsq11_ t_tpq12_ t_mtq20_ hpq25_ hH (lv_sub hl [0, 1, 2, 3] rfl)
  · skip
    refine lv_tableIn (off := 872) (tgt := 905) hx hb dL_law_33 (by omega) (by omega) (by rw [cq28_]; rfl) (by decide) ?_
    exact law_case_19 C0 hK hAq hc_qq1_ hc_wq5_ hc_csq10_ hc_imq6_ hc_rdq7_ hc_qq15_ hc_alq19_ hc_iiq21_ t_bsq11_ t_tpq12_ t_mtq20_ hpq25_ hH (lv_sub hl [0, 1, 2, 3] rfl)
  · skip
    refine lv_tableIn (off := 905) (tgt := 938) hx hb dL_law_33 (by omega) (by omega) (by rw [cq28_]; rfl) (by decide) ?_
    exact law_case_20 C0 hK hAq hc_qq1_ hc_wq5_ hc_csq10_ hc_imq6_ hc_rdq7_ hc_qq15_ hc_alq19_ hc_iiq21_ t_bsq11_ t_tpq12_ t_mtq20_ hpq25_ hH (lv_sub hl [0, 1, 2, 3] rfl)
  · skip
    refine lv_tableIn (off := 948) (tgt := 981) hx hb dL_law_33 (by omega) (by omega) (by rw [cq28_]; rfl) (by decide) ?_
    exact law_case_21 C0 hK hAq hc_qq1_ hc_wq5_ hc_csq10_ hc_imq6_ hc_rdq7_ hc_qq15_ hc_alq19_ hc_iiq21_ t_bsq11_ t_tpq12_ t_mtq20_ hpq25_ hH (lv_sub hl [0, 1, 2, 3] rfl)
  · skip
    refine lv_tableIn (off := 991) (tgt := 1024) hx hb dL_law_33 (by omega) (by omega) (by rw [cq28_]; rfl) (by decide) ?_
    exact law_case_22 C0 hK hAq hc_qq1_ hc_wq5_ hc_csq10_ hc_imq6_ hc_rdq7_ hc_qq15_ hc_alq19_ hc_iiq21_ t_bsq11_ t_tpq12_ t_mtq20_ hpq25_ hH (lv_sub hl [0, 1, 2, 3] rfl)
  · skip
    refine lv_tableIn (off := 1044) (tgt := 1077) hx hb dL_law_33 (by omega) (by omega) (by rw [cq28_]; rfl) (by decide) ?_
    exact law_case_23 C0 hK hAq hc_qq1_ hc_wq5_ hc_csq10_ hc_imq6_ hc_rdq7_ hc_qq15_ hc_alq19_ hc_iiq21_ t_bsq11_ t_tpq12_ t_mtq20_ hpq25_ hH (lv_sub hl [0, 1, 2, 3] rfl)
  · skip
    refine lv_tableIn (off := 1067) (tgt := 1100) hx hb dL_law_33 (by omega) (by omega) (by rw [cq28_]; rfl) (by decide) ?_
    exact law_case_24 C0 hK hAq hc_qq1_ hc_wq5_ hc_csq10_ hc_imq6_ hc_rdq7_ hc_qq15_ hc_alq19_ hc_iiq21_ t_bsq11_ t_tpq12_ t_mtq20_ hpq25_ hH (lv_sub hl [0, 1, 2, 3] rfl)
  · skip
    refine lv_tableIn (off := 1090) (tgt := 1123) hx hb dL_law_33 (by omega) (by omega) (by rw [cq28_]; rfl) (by decide) ?_
    exact law_case_25 C0 hK hAq hc_qq1_ hc_wq5_ hc_csq10_ hc_imq6_ hc_rdq7_ hc_qq15_ hc_alq19_ hc_iiq21_ t_bsq11_ t_tpq12_ t_mtq20_ hpq25_ hH (lv_sub hl [0, 1, 2, 3] rfl)
  · skip
    refine lv_tableIn (off := 1123) (tgt := 1156) hx hb dL_law_33 (by omega) (by omega) (by rw [cq28_]; rfl) (by decide) ?_
    exact law_case_26 C0 hK hAq hc_qq1_ hc_wq5_ hc_csq10_ hc_imq6_ hc_rdq7_ hc_qq15_ hc_alq19_ hc_iiq21_ t_bsq11_ t_tpq12_ t_mtq20_ hpq25_ hH (lv_sub hl [0, 1, 2, 3] rfl)
  · skip
    refine lv_tableIn (off := 1156) (tgt := 1189) hx hb dL_law_33 (by omega) (by omega) (by rw [cq28_]; rfl) (by decide) ?_
    exact law_case_27 C0 hK hAq hc_qq1_ hc_wq5_ hc_csq10_ hc_imq6_ hc_rdq7_ hc_qq15_ hc_alq19_ hc_iiq21_ t_bsq11_ t_tpq12_ t_mtq20_ hpq25_ hH (lv_sub hl [0, 1, 2, 3] rfl)
  · skip
    refine lv_tableIn (off := 1179) (tgt := 1212) hx hb dL_law_33 (by omega) (by omega) (by rw [cq28_]; rfl) (by decide) ?_
    exact law_case_28 C0 hK hAq hc_qq1_ hc_wq5_ hc_csq10_ hc_imq6_ hc_rdq7_ hc_qq15_ hc_alq19_ hc_iiq21_ t_bsq11_ t_tpq12_ t_mtq20_ hpq25_ hH (lv_sub hl [0, 1, 2, 3] rfl)
  · skip
    refine lv_tableIn (off := 1202) (tgt := 1235) hx hb dL_law_33 (by omega) (by omega) (by rw [cq28_]; rfl) (by decide) ?_
    exact law_case_29 C0 hK hAq hc_qq1_ hc_wq5_ hc_csq10_ hc_imq6_ hc_rdq7_ hc_qq15_ hc_alq19_ hc_iiq21_ t_bsq11_ t_tpq12_ t_mtq20_ hpq25_ hH (lv_sub hl [0, 1, 2, 3] rfl)
  · skip
    refine lv_tableIn (off := 1225) (tgt := 1258) hx hb dL_law_33 (by omega) (by omega) (by rw [cq28_]; rfl) (by decide) ?_
    exact law_case_30 C0 hK hAq hc_qq1_ hc_wq5_ hc_csq10_ hc_imq6_ hc_rdq7_ hc_qq15_ hc_alq19_ hc_iiq21_ t_bsq11_ t_tpq12_ t_mtq20_ hpq25_ hH (lv_sub hl [0, 1, 2, 3] rfl)
  · skip
    refine lv_tableIn (off := 1258) (tgt := 1291) hx hb dL_law_33 (by omega) (by omega) (by rw [cq28_]; rfl) (by decide) ?_
    exact law_case_31 C0 hK hAq hc_qq1_ hc_wq5_ hc_csq10_ hc_imq6_ hc_rdq7_ hc_qq15_ hc_alq19_ hc_iiq21_ t_bsq11_ t_tpq12_ t_mtq20_ hpq25_ hH (lv_sub hl [0, 1, 2, 3] rfl)
  · skip
    refine lv_tableIn (off := 1291) (tgt := 1324) hx hb dL_law_33 (by omega) (by omega) (by rw [cq28_]; rfl) (by decide) ?_
    exact law_case_32 C0 hK hAq hc_qq1_ hc_wq5_ hc_csq10_ hc_imq6_ hc_rdq7_ hc_qq15_ hc_alq19_ hc_iiq21_ t_bsq11_ t_tpq12_ t_mtq20_ hpq25_ hH (lv_sub hl [0, 1, 2, 3] rfl)
  · skip
    refine lv_tableIn (off := 1314) (tgt := 1347) hx hb dL_law_33 (by omega) (by omega) (by rw [cq28_]; rfl) (by decide) ?_
    exact law_case_33 C0 hK hAq hc_qq1_ hc_wq5_ hc_csq10_ hc_imq6_ hc_rdq7_ hc_qq15_ hc_alq19_ hc_iiq21_ t_bsq11_ t_tpq12_ t_mtq20_ hpq25_ hH (lv_sub hl [0, 1, 2, 3] rfl)
set_option maxHeartbeats 4000000 in
theorem lw_walk (l : Launch) (hflags : l.flags = flags0) (b : Addr) (xs : List Int32) : MetFree l x (headSpec (Jvm.Cond.code x code maxLocals ret :: tables_1) room_1) (lw_P b xs) (fun _ _ _ _ _ => True) lw_Q := by
  refine MetFree.of_bodyS (code := code) (maxLocals := maxLocals) (ret := ret) (by decide) ?_ ?_
  · intro args s m h hn
    obtain ⟨meth, c, h1, h2, h3, h4, h5, h6, -, -⟩ := Cond.code_spec hn (atoms_spec (ws := Jvm.Cond.code x code maxLocals ret :: tables_1) h _ List.mem_cons_self)
    exact ⟨meth, c, h1, h2, h3, h4, h5, h6⟩
  · intro p e s m args below meth c s₁ B hml0 hP _
    obtain ⟨rfl, hx, hbd, hgv⟩ := hP
    obtain ⟨scr, harrAt, hlist, hof, hsmall⟩ := hx
    obtain ⟨hcb, hkn, -, -⟩ := State.arrayAt?_spec harrAt
    have hown : s.vm.findClass R_law = some m.cls := findClass_of_methodNamed B.named
    have hts0 : ∀ c ∈ (Jvm.Cond.code x code maxLocals ret :: tables_1), c.before #[Value.ref b] s = true := atoms_spec (ws := Jvm.Cond.code x code maxLocals ret :: tables_1) B.pre
    have hts : ∀ w ∈ lw_tbl, w.before #[Value.ref b] s = true := k2_hts_sels lw_privs (fun w hw => hts0 w (List.mem_cons_of_mem _ hw)) lw_privs_ok
    have hml : c.maxLocals = 4 := B.maxLocals_eq (hts0 _ List.mem_cons_self)
    have X₀ : Stand p l e room_1 s m #[Value.ref b] below meth c s₁ [] 0 0 := Stand.of_body B
    have hh0 : s₁.heap = s.heap := by rw [B.state]; rfl
    have hsz : scr.slots.size = xs.length := by rw [← Array.length_toList, hlist, List.length_map]
    have hval : ∀ j : Nat, j < xs.length → scr.slots[j]? = some (.int (xs.getD j 0)) := fun j hj => by
      rw [← Array.getElem?_toList, hlist]
      simp [hj]
    have hbl : b < s.heap.size := (Array.getElem?_eq_some_iff.mp hcb).1
    have hX : va_X b xs.length (fun j => xs.getD j 0) s s.heap := ⟨scr, hcb, hof, hkn, hsz, hval⟩
    have K : W p l e room_1 s m #[Value.ref b] below meth c s₁.heap [] 0 0 (lw_Z below #[Value.ref b] s) (entryFrame m ([Value.ref b] : List Value).toArray 4) := by
      rw [hh0]
      exact whole_start l hflags hbd ⟨B.exec, B.bytes, B.returns, hml, hown, hts, hX, hbl, B.notSynchronized, hgv⟩
    obtain ⟨t, a1, o, b1, b2, b3⟩ := K s₁ rfl X₀
    exact ⟨t, o, a1, b1, b2, b3⟩
theorem lw_pre_spec {args : Array Value} {s : State} (h : (Jvm.Cond.and given_1 narrow_1).before args s = true) (hr : rest_1_c.before args s = true) : ∃ (b : Addr) (xs : List Int32), lw_P b xs args s := by
  have hs := flat_of_before _ h
  have hq := flat_of_before _ hr
  have hc : (Cond.count 1).before args s = true := hs _ (by decide +kernel)
  have harr : (Cond.arrayOf (.arg 0) .int).before args s = true := hs _ (by decide +kernel)
  have hle : (Cond.le (.length (.arg 0)) (.int 6)).before args s = true := hs _ (by decide +kernel)
  have hlen : (Cond.isInt (.length (.arg 0))).before args s = true := hq _ (by decide +kernel)
  have hall : (Cond.all (.arg 0) (.isInt (.elem (.arg 0) (.index 0)))).before args s = true := hq _ (by decide +kernel)
  obtain ⟨b, xs, hb, hx⟩ := State.ints_of_pre rfl harr hlen hall
  have hsm : xs.length < 2 ^ 31 := hx.choose_spec.2.2.2
  have hev : (Term.length (.arg 0)).eval args s none [] s = some (.int xs.length.toInt32) := hx.length_eval hb
  have hv := Cond.le_ints hev (show (Term.int 6).eval args s none [] s = some (.int 6) from rfl)
  have hd : xs.length.toInt32 ≤ 6 := by
    simpa [Cond.before, Cond.holds, hv] using hle
  have hN : xs.length ≤ 6 := (Int32.ofNat_le_ofNat hsm (by decide)).mp (show Int32.ofNat xs.length ≤ Int32.ofNat 6 from hd)
  exact ⟨b, xs, Cond.one_arg hc (show args[0]? = some (.ref b) from hb), hx, hN, h⟩
theorem lw_comes (l : Launch) (hflags : l.flags = flags0) : Comes l x (Jvm.Cond.code x code maxLocals ret :: tables_1) room_1 (fun tb e args s => Calls_1 tb e args s ∧ rest_1 tb e args s ∧ Pre_1 tb e args s)
    (fun _ _ args s o t => lw_Q args s o t) := by
  intro p e ha hc hk s m args below hf hfit hheap happ hpre
  obtain ⟨b, xs, hP⟩ := lw_pre_spec hpre.2.2 hpre.2.1
  obtain ⟨k, o, h1, h2, h3, hQ⟩ := lw_walk l hflags b xs p e ha hc hk s m args below hf ((Spec.applies_iff_loose hf).mp happ).1 hP trivial
  exact ⟨k, o, h1, h2, h3, hQ⟩
theorem lw_frame {s t : State} {o : Outcome} {args : Array Value} (h : Framed s o t [] 600000 7302250) :
    Framed s o t (fieldLocs frame_1_writes args s ++ arrayLocs frame_1_arrays args s ++ staticLocs frame_1_statics s) 600000 7302250 := h
theorem lw_limb (L : Cond) (hL : ∀ (args : Array Value) (s t : State), L.after args s (.returned (some (.int 1))) t = true) :
    ArmFor flags0 classFile x code maxLocals ret World_1 tables_1 room_1 Calls_1 rest_1 Pre_1
      (fun tb e a s o t => postC L tb e a s o t ∧ Framed s o t (fieldLocs frame_1_writes a s ++ arrayLocs frame_1_arrays a s ++ staticLocs frame_1_statics s) 600000 7302250) := by
  intro l hflags _ _ p e ha hc hk s m args below hf hfit hheap happ hpre
  obtain ⟨k, o, h1, h2, h3, rfl, hF⟩ := lw_comes l hflags p e ha hc hk s m args below hf hfit hheap happ hpre
  exact ⟨k, _, h1, h2, h3, hL args s _, lw_frame hF⟩
theorem i_vc : Claimed_1_1 ∧ Claimed_1_2 := ⟨lw_limb limb_1_1 (fun args s t => by simp [limb_1_1, Cond.after, Cond.holds, Cond.value]), lw_limb limb_1_2 (fun args s t => Cond.after_iff.mpr (by
  first | (rw [show limb_1_2 = Cond.eq .result (.int 1) from rfl, Cond.eq_ints (x := 1) (y := 1) rfl rfl]; simp; done) | (simp [limb_1_2, Cond.value, Term.eval]; done)))⟩

