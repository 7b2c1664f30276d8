set_option maxHeartbeats 4000000 in
set_option maxRecDepth 100000 in
theorem whole_start {p : Program} {e : Env} {s : State} {m : MethodId} {below : List Frame} {meth : Method} {c : Code} (l : Launch) (hflags : l.flags = flags0) {b L : Nat} {xs : Nat → Int32} (hL : L ≤ 3072) (C0 : lw_At p s m meth c b L xs) : W p l e room_1 s m #[Value.ref b] below meth c s.heap [] 0 0 (lw_Z below #[Value.ref b] s) (entryFrame m ([Value.ref b] : List Value).toArray 4) := by
  obtain ⟨hx, hb, hr, hml, hown, hts, hX, hbl, hlocks, hgv⟩ := id C0
  obtain ⟨D, kA, hK⟩ := law_K hts
  have hC : CallFix p m c cL_law 4 s #[Value.ref b] TB RL := ⟨hx, hb, hml, hown, fun w h => hts w (TB_in h)⟩
  obtain ⟨sz, hsz⟩ : ∃ sz, s.heap.size = sz := ⟨_, rfl⟩
  obtain ⟨M, eM0⟩ : ∃ M : mM, M = (fun _ => none) := ⟨_, rfl⟩
  obtain ⟨T, eT0⟩ : ∃ T : mT, T = (fun _ => none) := ⟨_, rfl⟩
  have hAq : ∀ q, mA M T sz q → s.heap.size ≤ q := by
    intro q h
    rcases h with h | h | h
    · rw [eM0] at h; exact absurd rfl h
    · rw [eT0] at h; exact absurd rfl h
    · rw [hsz]; exact h
  have hbA : ¬ mA M T sz b := fun h => absurd (hAq b h) (Nat.not_le.mpr hbl)
  have hH : mS D kA M T (mA M T sz) s.heap s.heap [] := by
    rw [← hsz]
    exact mS_start ⟨(fun a e h => (by rw [eM0] at h; cases h)), (fun a t h => (by rw [eT0] at h; cases h))⟩
  obtain ⟨z, hZ⟩ := law_B (A := mA M T sz) hts hgv (fun a h1 h2 => absurd (hAq a h2) (Nat.not_le.mpr h1))
  have hTT : ∀ a t, T a = some t → T a = some t := fun _ _ h => h
  have hF : True := trivial
  have hTF : True := trivial
  have hl := lv_entry ([.ref b]) (n := 4) (Nat.le_of_ble_eq_true rfl)
  rw [lg_entry_eq]
  generalize (lg_sl ([.ref b]) ++ List.replicate (4 - (lg_sl ([.ref b])).length) Slot.unset).toArray = ls at hl ⊢
  have hl : lv_has ls 4 [(0, .ref b)] := hl
  refine ynew hC hK hH nlL_7 (Nat.le_of_ble_eq_true rfl) (Nat.le_of_ble_eq_true rfl) dL_law_0 (fun qq1_ Hq_ Mq2_ e_qq1_ hz nM_qq1_ hn_qq1_ hc_qq1_ hfr hN => ?_)
  have g_qq1_ : sz ≤ qq1_ := by rw [← hsz, e_qq1_]; exact hH.2.1.1
  have hH := hN
  have hc_qq1_ : Mq2_ qq1_ = some (.inr (7, [.null, .null, .null, .null, .null])) := hc_qq1_
  refine lv_dup hx hb dL_law_3 rfl ?_
  have gH : sz ≤ Array.size Hq_ := by rw [← hsz]; exact hH.2.1.1
  have lt_qq1_ : qq1_ < Array.size Hq_ := hH.1.ltM (by rw [hc_qq1_]; simp)
  refine goV hK hH (runIB (As := []) (rest := [.ref qq1_]) hC hK hH hZ (c_X9_init hc_qq1_ hn_qq1_ lt_qq1_) mlL_9 ⟨⟨Nat.le_of_ble_eq_true rfl, Nat.le_of_ble_eq_true rfl⟩, Nat.le_of_ble_eq_true rfl, Nat.le_of_ble_eq_true rfl⟩ rfl hl.1 rfl (Nat.le_of_ble_eq_true rfl) dL_law_4) (fun Mq3_ Tq4_ Hq_ lcq_ hP hz hH => ?_)
  try dsimp only at hP
  obtain ⟨wq5_, imq6_, rdq7_, rcq8_, cuq9_, csq10_, bsq11_, tpq12_, nbq13_, by_q14_, rbq15_, rsq16_, rpq17_, Fgq18_, hc_qq1_, hn_qq1_, hc_wq5_, hn_wq5_, hc_bsq11_, hc_imq6_, hn_imq6_, hc_rdq7_, hn_rdq7_, hc_rcq8_, hn_rcq8_, t_cuq9_, t_csq10_, t_bsq11_, t_tpq12_, t_nbq13_, t_rbq15_, t_rsq16_, t_rpq17_, g_wq5_, g_imq6_, g_rdq7_, g_rcq8_, g_cuq9_, g_csq10_, g_bsq11_, g_tpq12_, g_nbq13_, g_by_q14_, g_rbq15_, g_rsq16_, g_rpq17_, h_Fgq18_, hsub, hfT, hfr⟩ := hP
  have n_qq1__wq5_ : qq1_ ≠ wq5_ := Nat.ne_of_lt (Nat.lt_of_lt_of_le lt_qq1_ g_wq5_)
  have n_wq5__qq1_ : wq5_ ≠ qq1_ := Ne.symm n_qq1__wq5_
  have n_qq1__imq6_ : qq1_ ≠ imq6_ := Nat.ne_of_lt (Nat.lt_of_lt_of_le lt_qq1_ g_imq6_)
  have n_imq6__qq1_ : imq6_ ≠ qq1_ := Ne.symm n_qq1__imq6_
  have n_qq1__rdq7_ : qq1_ ≠ rdq7_ := Nat.ne_of_lt (Nat.lt_of_lt_of_le lt_qq1_ g_rdq7_)
  have n_rdq7__qq1_ : rdq7_ ≠ qq1_ := Ne.symm n_qq1__rdq7_
  have n_qq1__rcq8_ : qq1_ ≠ rcq8_ := Nat.ne_of_lt (Nat.lt_of_lt_of_le lt_qq1_ g_rcq8_)
  have n_rcq8__qq1_ : rcq8_ ≠ qq1_ := Ne.symm n_qq1__rcq8_
  have n_qq1__cuq9_ : qq1_ ≠ cuq9_ := Nat.ne_of_lt (Nat.lt_of_lt_of_le lt_qq1_ g_cuq9_)
  have n_cuq9__qq1_ : cuq9_ ≠ qq1_ := Ne.symm n_qq1__cuq9_
  have n_qq1__csq10_ : qq1_ ≠ csq10_ := Nat.ne_of_lt (Nat.lt_of_lt_of_le lt_qq1_ g_csq10_)
  have n_csq10__qq1_ : csq10_ ≠ qq1_ := Ne.symm n_qq1__csq10_
  have n_qq1__bsq11_ : qq1_ ≠ bsq11_ := Nat.ne_of_lt (Nat.lt_of_lt_of_le lt_qq1_ g_bsq11_)
  have n_bsq11__qq1_ : bsq11_ ≠ qq1_ := Ne.symm n_qq1__bsq11_
  have n_qq1__tpq12_ : qq1_ ≠ tpq12_ := Nat.ne_of_lt (Nat.lt_of_lt_of_le lt_qq1_ g_tpq12_)
  have n_tpq12__qq1_ : tpq12_ ≠ qq1_ := Ne.symm n_qq1__tpq12_
  have n_qq1__nbq13_ : qq1_ ≠ nbq13_ := Nat.ne_of_lt (Nat.lt_of_lt_of_le lt_qq1_ g_nbq13_)
  have n_nbq13__qq1_ : nbq13_ ≠ qq1_ := Ne.symm n_qq1__nbq13_
  have n_qq1__by_q14_ : qq1_ ≠ by_q14_ := Nat.ne_of_lt (Nat.lt_of_lt_of_le lt_qq1_ g_by_q14_)
  have n_by_q14__qq1_ : by_q14_ ≠ qq1_ := Ne.symm n_qq1__by_q14_
  have n_qq1__rbq15_ : qq1_ ≠ rbq15_ := Nat.ne_of_lt (Nat.lt_of_lt_of_le lt_qq1_ g_rbq15_)
  have n_rbq15__qq1_ : rbq15_ ≠ qq1_ := Ne.symm n_qq1__rbq15_
  have n_qq1__rsq16_ : qq1_ ≠ rsq16_ := Nat.ne_of_lt (Nat.lt_of_lt_of_le lt_qq1_ g_rsq16_)
  have n_rsq16__qq1_ : rsq16_ ≠ qq1_ := Ne.symm n_qq1__rsq16_
  have n_qq1__rpq17_ : qq1_ ≠ rpq17_ := Nat.ne_of_lt (Nat.lt_of_lt_of_le lt_qq1_ g_rpq17_)
  have n_rpq17__qq1_ : rpq17_ ≠ qq1_ := Ne.symm n_qq1__rpq17_
  have g_wq5_ : sz ≤ wq5_ := Nat.le_trans gH g_wq5_
  have g_imq6_ : sz ≤ imq6_ := Nat.le_trans gH g_imq6_
  have g_rdq7_ : sz ≤ rdq7_ := Nat.le_trans gH g_rdq7_
  have g_rcq8_ : sz ≤ rcq8_ := Nat.le_trans gH g_rcq8_
  have g_cuq9_ : sz ≤ cuq9_ := Nat.le_trans gH g_cuq9_
  have g_csq10_ : sz ≤ csq10_ := Nat.le_trans gH g_csq10_
  have g_bsq11_ : sz ≤ bsq11_ := Nat.le_trans gH g_bsq11_
  have g_tpq12_ : sz ≤ tpq12_ := Nat.le_trans gH g_tpq12_
  have g_nbq13_ : sz ≤ nbq13_ := Nat.le_trans gH g_nbq13_
  have g_by_q14_ : sz ≤ by_q14_ := Nat.le_trans gH g_by_q14_
  have g_rbq15_ : sz ≤ rbq15_ := Nat.le_trans gH g_rbq15_
  have g_rsq16_ : sz ≤ rsq16_ := Nat.le_trans gH g_rsq16_
  have g_rpq17_ : sz ≤ rpq17_ := Nat.le_trans gH g_rpq17_
  have hTT : ∀ a t, T a = some t → Tq4_ a = some t := fun a t h => hsub _ _ (hTT a t h)
  have n_wq5__bsq11_ : wq5_ ≠ bsq11_ := neM hc_wq5_ hc_bsq11_ (by simp)
  have n_wq5__imq6_ : wq5_ ≠ imq6_ := neM hc_wq5_ hc_imq6_ (by simp)
  have n_wq5__rdq7_ : wq5_ ≠ rdq7_ := neM hc_wq5_ hc_rdq7_ (by simp)
  have n_wq5__rcq8_ : wq5_ ≠ rcq8_ := neM hc_wq5_ hc_rcq8_ (by simp)
  have n_bsq11__wq5_ : bsq11_ ≠ wq5_ := neM hc_bsq11_ hc_wq5_ (by simp)
  have n_bsq11__imq6_ : bsq11_ ≠ imq6_ := neM hc_bsq11_ hc_imq6_ (by simp)
  have n_bsq11__rdq7_ : bsq11_ ≠ rdq7_ := neM hc_bsq11_ hc_rdq7_ (by simp)
  have n_bsq11__rcq8_ : bsq11_ ≠ rcq8_ := neM hc_bsq11_ hc_rcq8_ (by simp)
  have n_imq6__wq5_ : imq6_ ≠ wq5_ := neM hc_imq6_ hc_wq5_ (by simp)
  have n_imq6__bsq11_ : imq6_ ≠ bsq11_ := neM hc_imq6_ hc_bsq11_ (by simp)
  have n_imq6__rdq7_ : imq6_ ≠ rdq7_ := neM hc_imq6_ hc_rdq7_ (by simp)
  have n_imq6__rcq8_ : imq6_ ≠ rcq8_ := neM hc_imq6_ hc_rcq8_ (by simp)
  have n_rdq7__wq5_ : rdq7_ ≠ wq5_ := neM hc_rdq7_ hc_wq5_ (by simp)
  have n_rdq7__bsq11_ : rdq7_ ≠ bsq11_ := neM hc_rdq7_ hc_bsq11_ (by simp)
  have n_rdq7__imq6_ : rdq7_ ≠ imq6_ := neM hc_rdq7_ hc_imq6_ (by simp)
  have n_rdq7__rcq8_ : rdq7_ ≠ rcq8_ := neM hc_rdq7_ hc_rcq8_ (by simp)
  have n_rcq8__wq5_ : rcq8_ ≠ wq5_ := neM hc_rcq8_ hc_wq5_ (by simp)
  have n_rcq8__bsq11_ : rcq8_ ≠ bsq11_ := neM hc_rcq8_ hc_bsq11_ (by simp)
  have n_rcq8__imq6_ : rcq8_ ≠ imq6_ := neM hc_rcq8_ hc_imq6_ (by simp)
  have n_rcq8__rdq7_ : rcq8_ ≠ rdq7_ := neM hc_rcq8_ hc_rdq7_ (by simp)
  refine lv_astore_n (lv' := [(1, .ref qq1_), (0, .ref b)]) hx hb dL_law_7 rfl hl (by decide) rfl (fun ls hl => ?_)
  refine ynew hC hK hH nlL_10 (Nat.le_of_ble_eq_true rfl) (Nat.le_of_ble_eq_true rfl) dL_law_8 (fun qq19_ Hq_ Mq20_ e_qq19_ hz nM_qq19_ hn_qq19_ hc_qq19_ hfr hN => ?_)
  have g_qq19_ : sz ≤ qq19_ := by rw [← hsz, e_qq19_]; exact hH.2.1.1
  have n_qq1__qq19_ : qq1_ ≠ qq19_ := neN hc_qq1_ nM_qq19_
  have n_qq19__qq1_ : qq19_ ≠ qq1_ := Ne.symm n_qq1__qq19_
  have n_wq5__qq19_ : wq5_ ≠ qq19_ := neN hc_wq5_ nM_qq19_
  have n_qq19__wq5_ : qq19_ ≠ wq5_ := Ne.symm n_wq5__qq19_
  have n_bsq11__qq19_ : bsq11_ ≠ qq19_ := neN hc_bsq11_ nM_qq19_
  have n_qq19__bsq11_ : qq19_ ≠ bsq11_ := Ne.symm n_bsq11__qq19_
  have n_imq6__qq19_ : imq6_ ≠ qq19_ := neN hc_imq6_ nM_qq19_
  have n_qq19__imq6_ : qq19_ ≠ imq6_ := Ne.symm n_imq6__qq19_
  have n_rdq7__qq19_ : rdq7_ ≠ qq19_ := neN hc_rdq7_ nM_qq19_
  have n_qq19__rdq7_ : qq19_ ≠ rdq7_ := Ne.symm n_rdq7__qq19_
  have n_rcq8__qq19_ : rcq8_ ≠ qq19_ := neN hc_rcq8_ nM_qq19_
  have n_qq19__rcq8_ : qq19_ ≠ rcq8_ := Ne.symm n_rcq8__qq19_
  have hH := hN
  have hc_qq19_ : Mq20_ qq19_ = some (.inr (8, [.null, .null, .null, .int 0, .int 0, .null, .int 0, .int 0, .int 0, .int 0, .int 0, .long 0, .int 0, .null])) := hc_qq19_
  have hc_qq1_ : Mq20_ qq1_ = some (.inr (7, [.ref wq5_, .ref imq6_, .ref rdq7_, .ref rcq8_, .ref cuq9_])) := (hfr qq1_ n_qq1__qq19_).trans hc_qq1_
  have hc_wq5_ : Mq20_ wq5_ = some (.inr (6, [.int 0, .int 2, .int 0, .int 0, .int 0, .int 0, .int 0, .int (-1), .ref csq10_, .ref bsq11_, .ref tpq12_])) := (hfr wq5_ n_wq5__qq19_).trans hc_wq5_
  have hc_bsq11_ : Mq20_ bsq11_ = some (.inl (kA 5, 4, .inr (.inr (.inr (.inr Fgq18_))))) := (hfr bsq11_ n_bsq11__qq19_).trans hc_bsq11_
  have hc_imq6_ : Mq20_ imq6_ = some (.inl (kA 6, 3, .inr (.inr (.inr (.inr (fun _ => none)))))) := (hfr imq6_ n_imq6__qq19_).trans hc_imq6_
  have hc_rdq7_ : Mq20_ rdq7_ = some (.inr (3, [.ref nbq13_, .ref (zv z 0), .int 0, .int 0, .ref by_q14_, .int 0, .int 0, .int 0, .int 0, .int 0])) := (hfr rdq7_ n_rdq7__qq19_).trans hc_rdq7_
  have hc_rcq8_ : Mq20_ rcq8_ = some (.inr (4, [.ref rbq15_, .ref rsq16_, .ref rpq17_, .int 0])) := (hfr rcq8_ n_rcq8__qq19_).trans hc_rcq8_
  refine lv_dup hx hb dL_law_11 rfl ?_
  have gH : sz ≤ Array.size Hq_ := by rw [← hsz]; exact hH.2.1.1
  have lt_qq1_ : qq1_ < Array.size Hq_ := hH.1.ltM (by rw [hc_qq1_]; simp)
  have lt_wq5_ : wq5_ < Array.size Hq_ := hH.1.ltM (by rw [hc_wq5_]; simp)
  have lt_bsq11_ : bsq11_ < Array.size Hq_ := hH.1.ltM (by rw [hc_bsq11_]; simp)
  have lt_imq6_ : imq6_ < Array.size Hq_ := hH.1.ltM (by rw [hc_imq6_]; simp)
  have lt_rdq7_ : rdq7_ < Array.size Hq_ := hH.1.ltM (by rw [hc_rdq7_]; simp)
  have lt_rcq8_ : rcq8_ < Array.size Hq_ := hH.1.ltM (by rw [hc_rcq8_]; simp)
  have lt_qq19_ : qq19_ < Array.size Hq_ := hH.1.ltM (by rw [hc_qq19_]; simp)
  refine goV hK hH (runI (As := []) (rest := [.ref qq19_]) hC hK hH (c_X10_init hc_qq19_ hn_qq19_ lt_qq19_) mlL_12 ⟨⟨Nat.le_of_ble_eq_true rfl, Nat.le_of_ble_eq_true rfl⟩, Nat.le_of_ble_eq_true rfl, Nat.le_of_ble_eq_true rfl⟩ rfl hl.1 rfl (Nat.le_of_ble_eq_true rfl) dL_law_12) (fun Mq21_ Tq22_ Hq_ lcq_ hP hz hH => ?_)
  try dsimp only at hP
  obtain ⟨alq23_, mtq24_, iiq25_, paq26_, liq27_, Fq28_, hc_qq19_, hn_qq19_, hc_alq23_, hn_alq23_, hc_iiq25_, hn_iiq25_, t_mtq24_, t_paq26_, t_liq27_, g_alq23_, g_mtq24_, g_iiq25_, g_paq26_, g_liq27_, hpq29_, hsub, hfT, hfr⟩ := hP
  have n_qq1__alq23_ : qq1_ ≠ alq23_ := Nat.ne_of_lt (Nat.lt_of_lt_of_le lt_qq1_ g_alq23_)
  have n_alq23__qq1_ : alq23_ ≠ qq1_ := Ne.symm n_qq1__alq23_
  have n_wq5__alq23_ : wq5_ ≠ alq23_ := Nat.ne_of_lt (Nat.lt_of_lt_of_le lt_wq5_ g_alq23_)
  have n_alq23__wq5_ : alq23_ ≠ wq5_ := Ne.symm n_wq5__alq23_
  have n_bsq11__alq23_ : bsq11_ ≠ alq23_ := Nat.ne_of_lt (Nat.lt_of_lt_of_le lt_bsq11_ g_alq23_)
  have n_alq23__bsq11_ : alq23_ ≠ bsq11_ := Ne.symm n_bsq11__alq23_
  have n_imq6__alq23_ : imq6_ ≠ alq23_ := Nat.ne_of_lt (Nat.lt_of_lt_of_le lt_imq6_ g_alq23_)
  have n_alq23__imq6_ : alq23_ ≠ imq6_ := Ne.symm n_imq6__alq23_
  have n_rdq7__alq23_ : rdq7_ ≠ alq23_ := Nat.ne_of_lt (Nat.lt_of_lt_of_le lt_rdq7_ g_alq23_)
  have n_alq23__rdq7_ : alq23_ ≠ rdq7_ := Ne.symm n_rdq7__alq23_
  have n_rcq8__alq23_ : rcq8_ ≠ alq23_ := Nat.ne_of_lt (Nat.lt_of_lt_of_le lt_rcq8_ g_alq23_)
  have n_alq23__rcq8_ : alq23_ ≠ rcq8_ := Ne.symm n_rcq8__alq23_
  have n_qq19__alq23_ : qq19_ ≠ alq23_ := Nat.ne_of_lt (Nat.lt_of_lt_of_le lt_qq19_ g_alq23_)
  have n_alq23__qq19_ : alq23_ ≠ qq19_ := Ne.symm n_qq19__alq23_
  have n_qq1__mtq24_ : qq1_ ≠ mtq24_ := Nat.ne_of_lt (Nat.lt_of_lt_of_le lt_qq1_ g_mtq24_)
  have n_mtq24__qq1_ : mtq24_ ≠ qq1_ := Ne.symm n_qq1__mtq24_
  have n_wq5__mtq24_ : wq5_ ≠ mtq24_ := Nat.ne_of_lt (Nat.lt_of_lt_of_le lt_wq5_ g_mtq24_)
  have n_mtq24__wq5_ : mtq24_ ≠ wq5_ := Ne.symm n_wq5__mtq24_
  have n_bsq11__mtq24_ : bsq11_ ≠ mtq24_ := Nat.ne_of_lt (Nat.lt_of_lt_of_le lt_bsq11_ g_mtq24_)
  have n_mtq24__bsq11_ : mtq24_ ≠ bsq11_ := Ne.symm n_bsq11__mtq24_
  have n_imq6__mtq24_ : imq6_ ≠ mtq24_ := Nat.ne_of_lt (Nat.lt_of_lt_of_le lt_imq6_ g_mtq24_)
  have n_mtq24__imq6_ : mtq24_ ≠ imq6_ := Ne.symm n_imq6__mtq24_
  have n_rdq7__mtq24_ : rdq7_ ≠ mtq24_ := Nat.ne_of_lt (Nat.lt_of_lt_of_le lt_rdq7_ g_mtq24_)
  have n_mtq24__rdq7_ : mtq24_ ≠ rdq7_ := Ne.symm n_rdq7__mtq24_
  have n_rcq8__mtq24_ : rcq8_ ≠ mtq24_ := Nat.ne_of_lt (Nat.lt_of_lt_of_le lt_rcq8_ g_mtq24_)
  have n_mtq24__rcq8_ : mtq24_ ≠ rcq8_ := Ne.symm n_rcq8__mtq24_
  have n_qq19__mtq24_ : qq19_ ≠ mtq24_ := Nat.ne_of_lt (Nat.lt_of_lt_of_le lt_qq19_ g_mtq24_)
  have n_mtq24__qq19_ : mtq24_ ≠ qq19_ := Ne.symm n_qq19__mtq24_
  have n_qq1__iiq25_ : qq1_ ≠ iiq25_ := Nat.ne_of_lt (Nat.lt_of_lt_of_le lt_qq1_ g_iiq25_)
  have n_iiq25__qq1_ : iiq25_ ≠ qq1_ := Ne.symm n_qq1__iiq25_
  have n_wq5__iiq25_ : wq5_ ≠ iiq25_ := Nat.ne_of_lt (Nat.lt_of_lt_of_le lt_wq5_ g_iiq25_)
  have n_iiq25__wq5_ : iiq25_ ≠ wq5_ := Ne.symm n_wq5__iiq25_
  have n_bsq11__iiq25_ : bsq11_ ≠ iiq25_ := Nat.ne_of_lt (Nat.lt_of_lt_of_le lt_bsq11_ g_iiq25_)
  have n_iiq25__bsq11_ : iiq25_ ≠ bsq11_ := Ne.symm n_bsq11__iiq25_
  have n_imq6__iiq25_ : imq6_ ≠ iiq25_ := Nat.ne_of_lt (Nat.lt_of_lt_of_le lt_imq6_ g_iiq25_)
  have n_iiq25__imq6_ : iiq25_ ≠ imq6_ := Ne.symm n_imq6__iiq25_
  have n_rdq7__iiq25_ : rdq7_ ≠ iiq25_ := Nat.ne_of_lt (Nat.lt_of_lt_of_le lt_rdq7_ g_iiq25_)
  have n_iiq25__rdq7_ : iiq25_ ≠ rdq7_ := Ne.symm n_rdq7__iiq25_
  have n_rcq8__iiq25_ : rcq8_ ≠ iiq25_ := Nat.ne_of_lt (Nat.lt_of_lt_of_le lt_rcq8_ g_iiq25_)
  have n_iiq25__rcq8_ : iiq25_ ≠ rcq8_ := Ne.symm n_rcq8__iiq25_
  have n_qq19__iiq25_ : qq19_ ≠ iiq25_ := Nat.ne_of_lt (Nat.lt_of_lt_of_le lt_qq19_ g_iiq25_)
  have n_iiq25__qq19_ : iiq25_ ≠ qq19_ := Ne.symm n_qq19__iiq25_
  have n_qq1__paq26_ : qq1_ ≠ paq26_ := Nat.ne_of_lt (Nat.lt_of_lt_of_le lt_qq1_ g_paq26_)
  have n_paq26__qq1_ : paq26_ ≠ qq1_ := Ne.symm n_qq1__paq26_
  have n_wq5__paq26_ : wq5_ ≠ paq26_ := Nat.ne_of_lt (Nat.lt_of_lt_of_le lt_wq5_ g_paq26_)
  have n_paq26__wq5_ : paq26_ ≠ wq5_ := Ne.symm n_wq5__paq26_
  have n_bsq11__paq26_ : bsq11_ ≠ paq26_ := Nat.ne_of_lt (Nat.lt_of_lt_of_le lt_bsq11_ g_paq26_)
  have n_paq26__bsq11_ : paq26_ ≠ bsq11_ := Ne.symm n_bsq11__paq26_
  have n_imq6__paq26_ : imq6_ ≠ paq26_ := Nat.ne_of_lt (Nat.lt_of_lt_of_le lt_imq6_ g_paq26_)
  have n_paq26__imq6_ : paq26_ ≠ imq6_ := Ne.symm n_imq6__paq26_
  have n_rdq7__paq26_ : rdq7_ ≠ paq26_ := Nat.ne_of_lt (Nat.lt_of_lt_of_le lt_rdq7_ g_paq26_)
  have n_paq26__rdq7_ : paq26_ ≠ rdq7_ := Ne.symm n_rdq7__paq26_
  have n_rcq8__paq26_ : rcq8_ ≠ paq26_ := Nat.ne_of_lt (Nat.lt_of_lt_of_le lt_rcq8_ g_paq26_)
  have n_paq26__rcq8_ : paq26_ ≠ rcq8_ := Ne.symm n_rcq8__paq26_
  have n_qq19__paq26_ : qq19_ ≠ paq26_ := Nat.ne_of_lt (Nat.lt_of_lt_of_le lt_qq19_ g_paq26_)
  have n_paq26__qq19_ : paq26_ ≠ qq19_ := Ne.symm n_qq19__paq26_
  have n_qq1__liq27_ : qq1_ ≠ liq27_ := Nat.ne_of_lt (Nat.lt_of_lt_of_le lt_qq1_ g_liq27_)
  have n_liq27__qq1_ : liq27_ ≠ qq1_ := Ne.symm n_qq1__liq27_
  have n_wq5__liq27_ : wq5_ ≠ liq27_ := Nat.ne_of_lt (Nat.lt_of_lt_of_le lt_wq5_ g_liq27_)
  have n_liq27__wq5_ : liq27_ ≠ wq5_ := Ne.symm n_wq5__liq27_
  have n_bsq11__liq27_ : bsq11_ ≠ liq27_ := Nat.ne_of_lt (Nat.lt_of_lt_of_le lt_bsq11_ g_liq27_)
  have n_liq27__bsq11_ : liq27_ ≠ bsq11_ := Ne.symm n_bsq11__liq27_
  have n_imq6__liq27_ : imq6_ ≠ liq27_ := Nat.ne_of_lt (Nat.lt_of_lt_of_le lt_imq6_ g_liq27_)
  have n_liq27__imq6_ : liq27_ ≠ imq6_ := Ne.symm n_imq6__liq27_
  have n_rdq7__liq27_ : rdq7_ ≠ liq27_ := Nat.ne_of_lt (Nat.lt_of_lt_of_le lt_rdq7_ g_liq27_)
  have n_liq27__rdq7_ : liq27_ ≠ rdq7_ := Ne.symm n_rdq7__liq27_
  have n_rcq8__liq27_ : rcq8_ ≠ liq27_ := Nat.ne_of_lt (Nat.lt_of_lt_of_le lt_rcq8_ g_liq27_)
  have n_liq27__rcq8_ : liq27_ ≠ rcq8_ := Ne.symm n_rcq8__liq27_
  have n_qq19__liq27_ : qq19_ ≠ liq27_ := Nat.ne_of_lt (Nat.lt_of_lt_of_le lt_qq19_ g_liq27_)
  have n_liq27__qq19_ : liq27_ ≠ qq19_ := Ne.symm n_qq19__liq27_
  have hc_qq1_ : Mq21_ qq1_ = some (.inr (7, [.ref wq5_, .ref imq6_, .ref rdq7_, .ref rcq8_, .ref cuq9_])) := (hfr qq1_ (Or.inl hn_qq1_) n_qq1__qq19_ lt_qq1_).trans hc_qq1_
  have hn_qq1_ : Tq22_ qq1_ = none := (hfT qq1_ n_qq1__qq19_ lt_qq1_).trans hn_qq1_
  have hc_wq5_ : Mq21_ wq5_ = some (.inr (6, [.int 0, .int 2, .int 0, .int 0, .int 0, .int 0, .int 0, .int (-1), .ref csq10_, .ref bsq11_, .ref tpq12_])) := (hfr wq5_ (Or.inl hn_wq5_) n_wq5__qq19_ lt_wq5_).trans hc_wq5_
  have hn_wq5_ : Tq22_ wq5_ = none := (hfT wq5_ n_wq5__qq19_ lt_wq5_).trans hn_wq5_
  have hc_bsq11_ : Mq21_ bsq11_ = some (.inl (kA 5, 4, .inr (.inr (.inr (.inr Fgq18_))))) := (hfr bsq11_ (Or.inr t_bsq11_) n_bsq11__qq19_ lt_bsq11_).trans hc_bsq11_
  have hc_imq6_ : Mq21_ imq6_ = some (.inl (kA 6, 3, .inr (.inr (.inr (.inr (fun _ => none)))))) := (hfr imq6_ (Or.inl hn_imq6_) n_imq6__qq19_ lt_imq6_).trans hc_imq6_
  have hn_imq6_ : Tq22_ imq6_ = none := (hfT imq6_ n_imq6__qq19_ lt_imq6_).trans hn_imq6_
  have hc_rdq7_ : Mq21_ rdq7_ = some (.inr (3, [.ref nbq13_, .ref (zv z 0), .int 0, .int 0, .ref by_q14_, .int 0, .int 0, .int 0, .int 0, .int 0])) := (hfr rdq7_ (Or.inl hn_rdq7_) n_rdq7__qq19_ lt_rdq7_).trans hc_rdq7_
  have hn_rdq7_ : Tq22_ rdq7_ = none := (hfT rdq7_ n_rdq7__qq19_ lt_rdq7_).trans hn_rdq7_
  have hc_rcq8_ : Mq21_ rcq8_ = some (.inr (4, [.ref rbq15_, .ref rsq16_, .ref rpq17_, .int 0])) := (hfr rcq8_ (Or.inl hn_rcq8_) n_rcq8__qq19_ lt_rcq8_).trans hc_rcq8_
  have hn_rcq8_ : Tq22_ rcq8_ = none := (hfT rcq8_ n_rcq8__qq19_ lt_rcq8_).trans hn_rcq8_
  have t_cuq9_ : Tq22_ cuq9_ = some 9 := hsub _ _ t_cuq9_
  have t_csq10_ : Tq22_ csq10_ = some 3 := hsub _ _ t_csq10_
  have t_bsq11_ : Tq22_ bsq11_ = some 6 := hsub _ _ t_bsq11_
  have t_tpq12_ : Tq22_ tpq12_ = some 7 := hsub _ _ t_tpq12_
  have t_nbq13_ : Tq22_ nbq13_ = some 12 := hsub _ _ t_nbq13_
  have t_rbq15_ : Tq22_ rbq15_ = some 2 := hsub _ _ t_rbq15_
  have t_rsq16_ : Tq22_ rsq16_ = some 3 := hsub _ _ t_rsq16_
  have t_rpq17_ : Tq22_ rpq17_ = some 5 := hsub _ _ t_rpq17_
  have h_Fgq18_ : ∀ j, j < 4 → ∃ q, Fgq18_ j = some q ∧ Tq22_ q = some 2 := fun j hj => (h_Fgq18_ j hj).imp (fun q h => ⟨h.1, hsub _ _ h.2⟩)
  have g_alq23_ : sz ≤ alq23_ := Nat.le_trans gH g_alq23_
  have g_mtq24_ : sz ≤ mtq24_ := Nat.le_trans gH g_mtq24_
  have g_iiq25_ : sz ≤ iiq25_ := Nat.le_trans gH g_iiq25_
  have g_paq26_ : sz ≤ paq26_ := Nat.le_trans gH g_paq26_
  have g_liq27_ : sz ≤ liq27_ := Nat.le_trans gH g_liq27_
  have hTT : ∀ a t, T a = some t → Tq22_ a = some t := fun a t h => hsub _ _ (hTT a t h)
  have n_alq23__iiq25_ : alq23_ ≠ iiq25_ := neM hc_alq23_ hc_iiq25_ (by simp)
  have n_iiq25__alq23_ : iiq25_ ≠ alq23_ := neM hc_iiq25_ hc_alq23_ (by simp)
  refine lv_astore_n (lv' := [(2, .ref qq19_), (1, .ref qq1_), (0, .ref b)]) hx hb dL_law_15 rfl hl (by decide) rfl (fun ls hl => ?_)
  refine lv_iconst (v := 0) hx hb dL_law_16 (by decide) ?_
  refine lv_istore_n (lv' := [(3, .int 0), (2, .ref qq19_), (1, .ref qq1_), (0, .ref b)]) hx hb dL_law_17 rfl hl (by decide) rfl (fun ls hl => ?_)
  exact law_loop C0 hL hK hAq hZ 512 0 _ _ _ _ ls _ _ ⟨wq5_, imq6_, rdq7_, rcq8_, cuq9_, csq10_, bsq11_, tpq12_, nbq13_, by_q14_, 0, rbq15_, rsq16_, rpq17_, alq23_, mtq24_, iiq25_, paq26_, liq27_, 0, 2, 0, 0, 0, 0, 0, (-1), 0, 0, 0, 0, 0, 0, 0, 0, 0, (-1), 0, 0, 0, 0, 0, 0, 0, Fgq18_, (fun _ => none), (fun _ => 0), (fun _ => 0), Fq28_, hc_qq1_, hc_wq5_, hc_bsq11_, hc_imq6_, hc_rdq7_, hc_rcq8_, hc_qq19_, hc_alq23_, hc_iiq25_, hn_qq1_, hn_wq5_, hn_imq6_, hn_rdq7_, hn_rcq8_, hn_qq19_, hn_alq23_, hn_iiq25_, t_cuq9_, t_csq10_, t_bsq11_, t_tpq12_, t_nbq13_, t_rbq15_, t_rsq16_, t_rpq17_, t_mtq24_, t_paq26_, t_liq27_, (by decide), (by decide), (by decide), (by decide), (by decide), (by decide), (by decide), (by decide), (by decide), h_Fgq18_, (fun _ _ => rfl), ⟨fun j q _ h => (by cases h), fun i j q _ _ h => (by cases h)⟩, hpq29_, (fun j _ => Or.inl ⟨rfl, rfl⟩)⟩ (by decide) (by have : (0 : Int32).toInt = 0 := rfl; omega) (by decide) (by decide) hH (lv_sub hl [0, 1, 2, 3] rfl)
set_option maxHeartbeats 4000000 in
theorem lw_walk (l : Launch) (hflags : l.flags = flags0) (b : Addr) (xs : List Int32) : MetFree l x (headSpec (Jvm.Cond.code x code maxLocals ret :: tables_1) room_1) (lw_P b xs) (fun _ _ _ _ _ => True) lw_Q := by
  refine MetFree.of_bodyS (code := code) (maxLocals := maxLocals) (ret := ret) (by decide) ?_ ?_
  · intro args s m h hn
    obtain ⟨meth, c, h1, h2, h3, h4, h5, h6, -, -⟩ := Cond.code_spec hn (atoms_spec (ws := Jvm.Cond.code x code maxLocals ret :: tables_1) h _ List.mem_cons_self)
    exact ⟨meth, c, h1, h2, h3, h4, h5, h6⟩
  · intro p e s m args below meth c s₁ B hml0 hP _
    obtain ⟨rfl, hx, hbd, hgv⟩ := hP
    obtain ⟨scr, harrAt, hlist, hof, hsmall⟩ := hx
    obtain ⟨hcb, hkn, -, -⟩ := State.arrayAt?_spec harrAt
    have hown : s.vm.findClass R_law = some m.cls := findClass_of_methodNamed B.named
    have hts0 : ∀ c ∈ (Jvm.Cond.code x code maxLocals ret :: tables_1), c.before #[Value.ref b] s = true := atoms_spec (ws := Jvm.Cond.code x code maxLocals ret :: tables_1) B.pre
    have hts : ∀ w ∈ lw_tbl, w.before #[Value.ref b] s = true := k2_hts_sels lw_privs (fun w hw => hts0 w (List.mem_cons_of_mem _ hw)) lw_privs_ok
    have hml : c.maxLocals = 4 := B.maxLocals_eq (hts0 _ List.mem_cons_self)
    have X₀ : Stand p l e room_1 s m #[Value.ref b] below meth c s₁ [] 0 0 := Stand.of_body B
    have hh0 : s₁.heap = s.heap := by rw [B.state]; rfl
    have hsz : scr.slots.size = xs.length := by rw [← Array.length_toList, hlist, List.length_map]
    have hval : ∀ j : Nat, j < xs.length → scr.slots[j]? = some (.int (xs.getD j 0)) := fun j hj => by
      rw [← Array.getElem?_toList, hlist]
      simp [hj]
    have hbl : b < s.heap.size := (Array.getElem?_eq_some_iff.mp hcb).1
    have hX : va_X b xs.length (fun j => xs.getD j 0) s s.heap := ⟨scr, hcb, hof, hkn, hsz, hval⟩
    have K : W p l e room_1 s m #[Value.ref b] below meth c s₁.heap [] 0 0 (lw_Z below #[Value.ref b] s) (entryFrame m ([Value.ref b] : List Value).toArray 4) := by
      rw [hh0]
      exact whole_start l hflags hbd ⟨B.exec, B.bytes, B.returns, hml, hown, hts, hX, hbl, B.notSynchronized, hgv⟩
    obtain ⟨t, a1, o, b1, b2, b3⟩ := K s₁ rfl X₀
    exact ⟨t, o, a1, b1, b2, b3⟩
theorem lw_pre_spec {args : Array Value} {s : State} (h : (Jvm.Cond.and given_1 narrow_1).before args s = true) (hr : rest_1_c.before args s = true) : ∃ (b : Addr) (xs : List Int32), lw_P b xs args s := by
  have hs := flat_of_before _ h
  have hq := flat_of_before _ hr
  have hc : (Cond.count 1).before args s = true := hs _ (by decide +kernel)
  have harr : (Cond.arrayOf (.arg 0) .int).before args s = true := hs _ (by decide +kernel)
  have hle : (Cond.le (.length (.arg 0)) (.int 3072)).before args s = true := hs _ (by decide +kernel)
  have hlen : (Cond.isInt (.length (.arg 0))).before args s = true := hq _ (by decide +kernel)
  have hall : (Cond.all (.arg 0) (.isInt (.elem (.arg 0) (.index 0)))).before args s = true := hq _ (by decide +kernel)
  obtain ⟨b, xs, hb, hx⟩ := State.ints_of_pre rfl harr hlen hall
  have hsm : xs.length < 2 ^ 31 := hx.choose_spec.2.2.2
  have hev : (Term.length (.arg 0)).eval args s none [] s = some (.int xs.length.toInt32) := hx.length_eval hb
  have hv := Cond.le_ints hev (show (Term.int 3072).eval args s none [] s = some (.int 3072) from rfl)
  have hd : xs.length.toInt32 ≤ 3072 := by
    simpa [Cond.before, Cond.holds, hv] using hle
  have hN : xs.length ≤ 3072 := (Int32.ofNat_le_ofNat hsm (by decide)).mp (show Int32.ofNat xs.length ≤ Int32.ofNat 3072 from hd)
  exact ⟨b, xs, Cond.one_arg hc (show args[0]? = some (.ref b) from hb), hx, hN, h⟩
theorem lw_comes (l : Launch) (hflags : l.flags = flags0) : Comes l x (Jvm.Cond.code x code maxLocals ret :: tables_1) room_1 (fun tb e args s => Calls_1 tb e args s ∧ rest_1 tb e args s ∧ Pre_1 tb e args s)
    (fun _ _ args s o t => lw_Q args s o t) := by
  intro p e ha hc hk s m args below hf hfit hheap happ hpre
  obtain ⟨b, xs, hP⟩ := lw_pre_spec hpre.2.2 hpre.2.1
  obtain ⟨k, o, h1, h2, h3, hQ⟩ := lw_walk l hflags b xs p e ha hc hk s m args below hf ((Spec.applies_iff_loose hf).mp happ).1 hP trivial
  exact ⟨k, o, h1, h2, h3, hQ⟩
theorem lw_frame {s t : State} {o : Outcome} {args : Array Value} (h : Framed s o t [] 600000 7302250) :
    Framed s o t (fieldLocs frame_1_writes args s ++ arrayLocs frame_1_arrays args s ++ staticLocs frame_1_statics s) 600000 7302250 := h
theorem lw_limb (L : Cond) (hL : ∀ (args : Array Value) (s t : State), L.after args s (.returned (some (.int 1))) t = true) :
    ArmFor flags0 classFile x code maxLocals ret World_1 tables_1 room_1 Calls_1 rest_1 Pre_1
      (fun tb e a s o t => postC L tb e a s o t ∧ Framed s o t (fieldLocs frame_1_writes a s ++ arrayLocs frame_1_arrays a s ++ staticLocs frame_1_statics s) 600000 7302250) := by
  intro l hflags _ _ p e ha hc hk s m args below hf hfit hheap happ hpre
  obtain ⟨k, o, h1, h2, h3, rfl, hF⟩ := lw_comes l hflags p e ha hc hk s m args below hf hfit hheap happ hpre
  exact ⟨k, _, h1, h2, h3, hL args s _, lw_frame hF⟩
theorem i_vc : Claimed_1_1 ∧ Claimed_1_2 := ⟨lw_limb limb_1_1 (fun args s t => by simp [limb_1_1, Cond.after, Cond.holds, Cond.value]), lw_limb limb_1_2 (fun args s t => Cond.after_iff.mpr (by
  first | (rw [show limb_1_2 = Cond.eq .result (.int 1) from rfl, Cond.eq_ints (x := 1) (y := 1) rfl rfl]; simp; done) | (simp [limb_1_2, Cond.value, Term.eval]; done)))⟩

