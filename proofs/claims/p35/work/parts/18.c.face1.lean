set_option maxHeartbeats 4000000 in
set_option maxRecDepth 100000 in
theorem c_X9_fault {l : Launch} {D : va_G} {kA : Nat → ClassId} {M : mM} {T : mT} {sz : Nat} {ro im rd cu : Nat} {w cs bs tp : Nat} {td gd bc py rf lt tl fp : Int32} {g : Nat → Option Nat}{rc : Nat} (hc_ro : M ro = some (.inr (7, [.ref w, .ref im, .ref rd, .ref rc, .ref cu]))) (hn_ro : T ro = none) (hc_w : M w = some (.inr (6, [.int td, .int gd, .int bc, .int py, .int rf, .int lt, .int tl, .int fp, .ref cs, .ref bs, .ref tp]))) (hn_w : T w = none) (hc_bs : M bs = some (.inl (kA 5, 4, .inr (.inr (.inr (.inr g)))))) (ht_cs : T cs = some 3) (ht_bs : T bs = some 6) (ht_tp : T tp = some 7) (htd : 0 ≤ td.toInt ∧ td.toInt ≤ 999) (hbc : 0 ≤ bc.toInt ∧ bc.toInt ≤ 4) (htl : 0 ≤ tl.toInt ∧ tl.toInt ≤ 600) (hg : ∀ j, j < 4 → ∃ q, g j = some q ∧ T q = some 2) : mCi l yX9_fault cX9_fault 1 (some .int) 0 0 0 D kA M T sz [.ref ro] (fun r u => (True) ∧ u.2 = T ∧ u.1 = M) := by
  unfold mCi
  refine start_W (by decide) (Nat.le_of_ble_eq_true rfl) ?_
  intro p e s m below meth c ls hC hr hlk hnm hK hH hsz hl
  have hx := hC.1
  have hb := hC.2.1
  have hl : lv_has ls 1 [(0, .ref ro)] := hl
  have n_ro_w : ro ≠ w := neM hc_ro hc_w (by simp)
  have n_ro_bs : ro ≠ bs := neM hc_ro hc_bs (by simp)
  have n_w_ro : w ≠ ro := neM hc_w hc_ro (by simp)
  have n_w_bs : w ≠ bs := neM hc_w hc_bs (by simp)
  have n_bs_ro : bs ≠ ro := neM hc_bs hc_ro (by simp)
  have n_bs_w : bs ≠ w := neM hc_bs hc_w (by simp)
  refine lv_aload_n hx hb dX9_fault_0 rfl (lv_at hl 0 rfl) ?_
  refine xg hC hK hH flX9_12 hc_ro rfl dX9_fault_1 ?_
  refine xg hC hK hH flX9_64 hc_w rfl dX9_fault_4 ?_
  exact ret_i hC hr hlk hK hH (⟨trivial, rfl, rfl⟩) (Nat.le_of_ble_eq_true rfl) (Nat.le_of_ble_eq_true rfl) dX9_fault_7
set_option maxHeartbeats 4000000 in
set_option maxRecDepth 100000 in
theorem c_X9_refused {l : Launch} {D : va_G} {kA : Nat → ClassId} {M : mM} {T : mT} {sz : Nat} {ro im rd cu : Nat} {w cs bs tp : Nat} {td gd bc py rf lt tl fp : Int32} {g : Nat → Option Nat}{rc : Nat} (hc_ro : M ro = some (.inr (7, [.ref w, .ref im, .ref rd, .ref rc, .ref cu]))) (hn_ro : T ro = none) (hc_w : M w = some (.inr (6, [.int td, .int gd, .int bc, .int py, .int rf, .int lt, .int tl, .int fp, .ref cs, .ref bs, .ref tp]))) (hn_w : T w = none) (hc_bs : M bs = some (.inl (kA 5, 4, .inr (.inr (.inr (.inr g)))))) (ht_cs : T cs = some 3) (ht_bs : T bs = some 6) (ht_tp : T tp = some 7) (htd : 0 ≤ td.toInt ∧ td.toInt ≤ 999) (hbc : 0 ≤ bc.toInt ∧ bc.toInt ≤ 4) (htl : 0 ≤ tl.toInt ∧ tl.toInt ≤ 600) (hg : ∀ j, j < 4 → ∃ q, g j = some q ∧ T q = some 2) : mCi l yX9_refused cX9_refused 1 (some .int) 0 0 0 D kA M T sz [.ref ro] (fun r u => (True) ∧ u.2 = T ∧ u.1 = M) := by
  unfold mCi
  refine start_W (by decide) (Nat.le_of_ble_eq_true rfl) ?_
  intro p e s m below meth c ls hC hr hlk hnm hK hH hsz hl
  have hx := hC.1
  have hb := hC.2.1
  have hl : lv_has ls 1 [(0, .ref ro)] := hl
  have n_ro_w : ro ≠ w := neM hc_ro hc_w (by simp)
  have n_ro_bs : ro ≠ bs := neM hc_ro hc_bs (by simp)
  have n_w_ro : w ≠ ro := neM hc_w hc_ro (by simp)
  have n_w_bs : w ≠ bs := neM hc_w hc_bs (by simp)
  have n_bs_ro : bs ≠ ro := neM hc_bs hc_ro (by simp)
  have n_bs_w : bs ≠ w := neM hc_bs hc_w (by simp)
  refine lv_aload_n hx hb dX9_refused_0 rfl (lv_at hl 0 rfl) ?_
  refine xg hC hK hH flX9_12 hc_ro rfl dX9_refused_1 ?_
  refine xg hC hK hH flX9_80 hc_w rfl dX9_refused_4 ?_
  exact ret_i hC hr hlk hK hH (⟨trivial, rfl, rfl⟩) (Nat.le_of_ble_eq_true rfl) (Nat.le_of_ble_eq_true rfl) dX9_refused_7
set_option maxHeartbeats 4000000 in
set_option maxRecDepth 100000 in
theorem c_X9_refusalOf {l : Launch} {D : va_G} {kA : Nat → ClassId} {M : mM} {T : mT} {sz : Nat} {n : Int32}  : mCi l yX9_refusalOf cX9_refusalOf 1 (some .int) 0 0 0 D kA M T sz [.int n] (fun r u => (True) ∧ u.2 = T ∧ u.1 = M) := by
  unfold mCi
  refine start_W (by decide) (Nat.le_of_ble_eq_true rfl) ?_
  intro p e s m below meth c ls hC hr hlk hnm hK hH hsz hl
  have hx := hC.1
  have hb := hC.2.1
  have hl : lv_has ls 1 [(0, .int n)] := hl
  refine lv_iload_n hx hb dX9_refusalOf_0 rfl (lv_at hl 0 rfl) ?_
  refine lv_iconst (v := 1) hx hb dX9_refusalOf_1 (by decide) ?_
  refine jic_ne (tgt := 9) hx hb dX9_refusalOf_2 (by decide) (fun cq1_ => ?_) (fun cq1_ => ?_)
  · skip
    have cq1_ : n.toInt ≠ 1 := cq1_
    refine lv_iload_n hx hb dX9_refusalOf_9 rfl (lv_at hl 0 rfl) ?_
    exact ret_i hC hr hlk hK hH (⟨trivial, rfl, rfl⟩) (Nat.le_of_ble_eq_true rfl) (Nat.le_of_ble_eq_true rfl) dX9_refusalOf_10
  · skip
    have cq1_ : n.toInt = 1 := cq1_
    refine lv_iconst (v := 0) hx hb dX9_refusalOf_5 (by decide) ?_
    refine lv_goto (tgt := 10) hx hb dX9_refusalOf_6 (by decide) ?_
    exact ret_i hC hr hlk hK hH (⟨trivial, rfl, rfl⟩) (Nat.le_of_ble_eq_true rfl) (Nat.le_of_ble_eq_true rfl) dX9_refusalOf_10
set_option maxHeartbeats 4000000 in
set_option maxRecDepth 100000 in
theorem c_X9_feed {l : Launch} {D : va_G} {kA : Nat → ClassId} {M : mM} {T : mT} {sz : Nat} {ro im rd cu : Nat} {w cs bs tp : Nat} {td gd bc py rf lt tl fp : Int32} {g : Nat → Option Nat}{rc : Nat} {a b c_ d e_ : Int32} (hc_ro : M ro = some (.inr (7, [.ref w, .ref im, .ref rd, .ref rc, .ref cu]))) (hn_ro : T ro = none) (hc_w : M w = some (.inr (6, [.int td, .int gd, .int bc, .int py, .int rf, .int lt, .int tl, .int fp, .ref cs, .ref bs, .ref tp]))) (hn_w : T w = none) (hc_bs : M bs = some (.inl (kA 5, 4, .inr (.inr (.inr (.inr g)))))) (ht_cs : T cs = some 3) (ht_bs : T bs = some 6) (ht_tp : T tp = some 7) (htd : 0 ≤ td.toInt ∧ td.toInt ≤ 999) (hbc : 0 ≤ bc.toInt ∧ bc.toInt ≤ 4) (htl : 0 ≤ tl.toInt ∧ tl.toInt ≤ 600) (hg : ∀ j, j < 4 → ∃ q, g j = some q ∧ T q = some 2) : mCi l yX9_feed cX9_feed 6 (some .int) 2 0 0 D kA M T sz [.ref ro, .int a, .int b, .int c_, .int d, .int e_] (fun r u => ∃ tl2 : Int32, ((0 : Int) ≤ tl2.toInt ∧ tl2.toInt ≤ 600) ∧ (((tl.toInt ≤ 580 ∧ r.toInt = tl.toInt + 20 ∧ tl2.toInt = tl.toInt + 20) ∧ u.1 w = some (.inr (6, [.int td, .int gd, .int bc, .int py, .int rf, .int lt, .int tl2, .int fp, .ref cs, .ref bs, .ref tp]))) ∨ ((580 < tl.toInt ∧ r.toInt = -1 ∧ tl2.toInt = tl.toInt) ∧ u.1 w = some (.inr (6, [.int td, .int gd, .int bc, .int py, .int rf, .int lt, .int tl2, .int fp, .ref cs, .ref bs, .ref tp])))) ∧ u.2 = T ∧ (∀ q, FrK T q → q ≠ w → u.1 q = M q)) := by
  unfold mCi
  refine start_W (by decide) (Nat.le_of_ble_eq_true rfl) ?_
  intro p e s m below meth c ls hC hr hlk hnm hK hH hsz hl
  have hx := hC.1
  have hb := hC.2.1
  have hl : lv_has ls 6 [(0, .ref ro), (1, .int a), (2, .int b), (3, .int c_), (4, .int d), (5, .int e_)] := hl
  have hF : ∀ q, FrK T q → q ≠ w → M q = M q := fun q _ _ => rfl
  have n_ro_w : ro ≠ w := neM hc_ro hc_w (by simp)
  have n_ro_bs : ro ≠ bs := neM hc_ro hc_bs (by simp)
  have n_w_ro : w ≠ ro := neM hc_w hc_ro (by simp)
  have n_w_bs : w ≠ bs := neM hc_w hc_bs (by simp)
  have n_bs_ro : bs ≠ ro := neM hc_bs hc_ro (by simp)
  have n_bs_w : bs ≠ w := neM hc_bs hc_w (by simp)
  refine lv_aload_n hx hb dX9_feed_0 rfl (lv_at hl 0 rfl) ?_
  refine xg hC hK hH flX9_12 hc_ro rfl dX9_feed_1 ?_
  refine lv_iload_n hx hb dX9_feed_4 rfl (lv_at hl 1 rfl) ?_
  refine lv_iload_n hx hb dX9_feed_5 rfl (lv_at hl 2 rfl) ?_
  refine lv_iload_n hx hb dX9_feed_6 rfl (lv_at hl 3 rfl) ?_
  refine lv_iload hx hb dX9_feed_7 (lv_at hl 4 rfl) ?_
  refine lv_iload hx hb dX9_feed_9 (lv_at hl 5 rfl) ?_
  refine goI hK hH (runV (As := [.int a, .int b, .int c_, .int d, .int e_]) (rest := []) hC hK hH (c_X8_addBytes hc_w hn_w hc_bs ht_cs ht_bs ht_tp (by omega) (by omega) (by omega) hg) mlX9_41 (rcvM hK hH hc_w rfl) ⟨⟨Nat.le_of_ble_eq_true rfl, Nat.le_of_ble_eq_true rfl⟩, Nat.le_of_ble_eq_true rfl, Nat.le_of_ble_eq_true rfl⟩ rfl hl.1 rfl (Nat.le_of_ble_eq_true rfl) dX9_feed_11) (fun rq3_ Mq1_ Tq2_ Hq_ lcq_ hP hz hH => ?_)
  try dsimp only at hP
  obtain ⟨xq6_, ⟨l_xq6_, g_xq6_⟩, (⟨cq4_, hx_w⟩ | ⟨cq5_, hx_w⟩), eT, hfr⟩ := hP
  · skip
    have eT := eT.symm; subst eT
    have hc_ro : Mq1_ ro = some (.inr (7, [.ref w, .ref im, .ref rd, .ref rc, .ref cu])) := (hfr ro (Or.inl hn_ro) n_ro_w).trans hc_ro
    have hc_w : Mq1_ w = some (.inr (6, [.int td, .int gd, .int bc, .int py, .int rf, .int lt, .int xq6_, .int fp, .ref cs, .ref bs, .ref tp])) := hx_w
    have hc_bs : Mq1_ bs = some (.inl (kA 5, 4, .inr (.inr (.inr (.inr g))))) := (hfr bs (Or.inr (Or.inl ht_bs)) n_bs_w).trans hc_bs
    have hF : ∀ q, FrK T q → q ≠ w → Mq1_ q = M q := fun q hq h0 => (hfr q hq  h0).trans (hF q hq h0)
    have cq4_ : tl.toInt ≤ 580 ∧ rq3_.toInt = tl.toInt + 20 ∧ xq6_.toInt = tl.toInt + 20 := cq4_
    exact ret_i hC hr hlk hK hH (⟨xq6_, ⟨by omega, by omega⟩, Or.inl (⟨by omega, hc_w⟩), rfl, hF⟩) (Nat.le_of_ble_eq_true rfl) (Nat.le_of_ble_eq_true rfl) dX9_feed_14
  · skip
    have eT := eT.symm; subst eT
    have hc_ro : Mq1_ ro = some (.inr (7, [.ref w, .ref im, .ref rd, .ref rc, .ref cu])) := (hfr ro (Or.inl hn_ro) n_ro_w).trans hc_ro
    have hc_w : Mq1_ w = some (.inr (6, [.int td, .int gd, .int bc, .int py, .int rf, .int lt, .int xq6_, .int fp, .ref cs, .ref bs, .ref tp])) := hx_w
    have hc_bs : Mq1_ bs = some (.inl (kA 5, 4, .inr (.inr (.inr (.inr g))))) := (hfr bs (Or.inr (Or.inl ht_bs)) n_bs_w).trans hc_bs
    have hF : ∀ q, FrK T q → q ≠ w → Mq1_ q = M q := fun q hq h0 => (hfr q hq  h0).trans (hF q hq h0)
    have cq5_ : 580 < tl.toInt ∧ rq3_.toInt = -1 ∧ xq6_.toInt = tl.toInt := cq5_
    exact ret_i hC hr hlk hK hH (⟨xq6_, ⟨by omega, by omega⟩, Or.inr (⟨by omega, hc_w⟩), rfl, hF⟩) (Nat.le_of_ble_eq_true rfl) (Nat.le_of_ble_eq_true rfl) dX9_feed_14
set_option maxHeartbeats 4000000 in
set_option maxRecDepth 100000 in
theorem c_X9_end {l : Launch} {D : va_G} {kA : Nat → ClassId} {M : mM} {T : mT} {sz : Nat} {ro im rd cu : Nat} {w cs bs tp : Nat} {td gd bc py rf lt tl fp : Int32} {g : Nat → Option Nat}{rc : Nat} {n : Int32} (hc_ro : M ro = some (.inr (7, [.ref w, .ref im, .ref rd, .ref rc, .ref cu]))) (hn_ro : T ro = none) (hc_w : M w = some (.inr (6, [.int td, .int gd, .int bc, .int py, .int rf, .int lt, .int tl, .int fp, .ref cs, .ref bs, .ref tp]))) (hn_w : T w = none) (hc_bs : M bs = some (.inl (kA 5, 4, .inr (.inr (.inr (.inr g)))))) (ht_cs : T cs = some 3) (ht_bs : T bs = some 6) (ht_tp : T tp = some 7) (htd : 0 ≤ td.toInt ∧ td.toInt ≤ 999) (hbc : 0 ≤ bc.toInt ∧ bc.toInt ≤ 4) (htl : 0 ≤ tl.toInt ∧ tl.toInt ≤ 600) (hg : ∀ j, j < 4 → ∃ q, g j = some q ∧ T q = some 2) : mCi l yX9_end cX9_end 2 (some .int) 0 0 0 D kA M T sz [.ref ro, .int n] (fun r u => ∃ tl2 : Int32, ((0 : Int) ≤ tl2.toInt ∧ tl2.toInt ≤ 600) ∧ (((0 ≤ n.toInt ∧ n.toInt ≤ tl.toInt ∧ r.toInt = n.toInt ∧ tl2.toInt = n.toInt) ∧ u.1 w = some (.inr (6, [.int td, .int gd, .int bc, .int py, .int rf, .int lt, .int tl2, .int fp, .ref cs, .ref bs, .ref tp]))) ∨ ((¬ (0 ≤ n.toInt ∧ n.toInt ≤ tl.toInt) ∧ r.toInt = -1 ∧ tl2.toInt = tl.toInt) ∧ u.1 w = some (.inr (6, [.int td, .int gd, .int bc, .int py, .int rf, .int lt, .int tl2, .int fp, .ref cs, .ref bs, .ref tp])))) ∧ u.2 = T ∧ (∀ q, FrK T q → q ≠ w → u.1 q = M q)) := by
  unfold mCi
  refine start_W (by decide) (Nat.le_of_ble_eq_true rfl) ?_
  intro p e s m below meth c ls hC hr hlk hnm hK hH hsz hl
  have hx := hC.1
  have hb := hC.2.1
  have hl : lv_has ls 2 [(0, .ref ro), (1, .int n)] := hl
  have hF : ∀ q, FrK T q → q ≠ w → M q = M q := fun q _ _ => rfl
  have n_ro_w : ro ≠ w := neM hc_ro hc_w (by simp)
  have n_ro_bs : ro ≠ bs := neM hc_ro hc_bs (by simp)
  have n_w_ro : w ≠ ro := neM hc_w hc_ro (by simp)
  have n_w_bs : w ≠ bs := neM hc_w hc_bs (by simp)
  have n_bs_ro : bs ≠ ro := neM hc_bs hc_ro (by simp)
  have n_bs_w : bs ≠ w := neM hc_bs hc_w (by simp)
  refine lv_iload_n hx hb dX9_end_0 rfl (lv_at hl 1 rfl) ?_
  refine jif_lt (tgt := 15) hx hb dX9_end_1 (by decide) (fun cq1_ => ?_) (fun cq1_ => ?_)
  · skip
    have cq1_ : n.toInt < 0 := cq1_
    refine lv_iconst (v := -1) hx hb dX9_end_15 (by decide) ?_
    exact ret_i hC hr hlk hK hH (⟨tl, ⟨by omega, by omega⟩, Or.inr (⟨by have : (-1 : Int32).toInt = -1 := rfl; omega, hc_w⟩), rfl, hF⟩) (Nat.le_of_ble_eq_true rfl) (Nat.le_of_ble_eq_true rfl) dX9_end_16
  · skip
    have cq1_ : 0 ≤ n.toInt := cq1_
    refine lv_iload_n hx hb dX9_end_4 rfl (lv_at hl 1 rfl) ?_
    refine lv_aload_n hx hb dX9_end_5 rfl (lv_at hl 0 rfl) ?_
    refine xg hC hK hH flX9_12 hc_ro rfl dX9_end_6 ?_
    refine xg hC hK hH flX9_45 hc_w rfl dX9_end_9 ?_
    refine jic_le (tgt := 17) hx hb dX9_end_12 (by decide) (fun cq2_ => ?_) (fun cq2_ => ?_)
    · skip
      have cq2_ : n.toInt ≤ tl.toInt := cq2_
      refine lv_aload_n hx hb dX9_end_17 rfl (lv_at hl 0 rfl) ?_
      refine xg hC hK hH flX9_12 hc_ro rfl dX9_end_18 ?_
      refine lv_iload_n hx hb dX9_end_21 rfl (lv_at hl 1 rfl) ?_
      refine yp (v := .int n) hC hK hH flX9_45 hc_w (noT hn_w) rfl rfl (Nat.le_of_ble_eq_true rfl) dX9_end_22 (fun Hq_ lcq_ Mq3_ hc_w hfr hH => ?_)
      have hc_w : Mq3_ w = some (.inr (6, [.int td, .int gd, .int bc, .int py, .int rf, .int lt, .int n, .int fp, .ref cs, .ref bs, .ref tp])) := hc_w
      have hc_ro : Mq3_ ro = some (.inr (7, [.ref w, .ref im, .ref rd, .ref rc, .ref cu])) := (hfr ro n_ro_w).trans hc_ro
      have hc_bs : Mq3_ bs = some (.inl (kA 5, 4, .inr (.inr (.inr (.inr g))))) := (hfr bs n_bs_w).trans hc_bs
      have hF : ∀ q, FrK T q → q ≠ w → Mq3_ q = M q := fun q hq h0 => (hfr q h0).trans (hF q hq h0)
      refine lv_iload_n hx hb dX9_end_25 rfl (lv_at hl 1 rfl) ?_
      exact ret_i hC hr hlk hK hH (⟨n, ⟨by omega, by omega⟩, Or.inl (⟨by omega, hc_w⟩), rfl, hF⟩) (Nat.le_of_ble_eq_true rfl) (Nat.le_of_ble_eq_true rfl) dX9_end_26
    · skip
      have cq2_ : tl.toInt < n.toInt := cq2_
      refine lv_iconst (v := -1) hx hb dX9_end_15 (by decide) ?_
      exact ret_i hC hr hlk hK hH (⟨tl, ⟨by omega, by omega⟩, Or.inr (⟨by have : (-1 : Int32).toInt = -1 := rfl; omega, hc_w⟩), rfl, hF⟩) (Nat.le_of_ble_eq_true rfl) (Nat.le_of_ble_eq_true rfl) dX9_end_16
set_option maxHeartbeats 4000000 in
set_option maxRecDepth 100000 in
theorem c_X9_day {l : Launch} {D : va_G} {kA : Nat → ClassId} {M : mM} {T : mT} {sz : Nat} {ro im rd cu : Nat} {w cs bs tp : Nat} {td gd bc py rf lt tl fp : Int32} {g : Nat → Option Nat}{rc : Nat} {n : Int32} (hc_ro : M ro = some (.inr (7, [.ref w, .ref im, .ref rd, .ref rc, .ref cu]))) (hn_ro : T ro = none) (hc_w : M w = some (.inr (6, [.int td, .int gd, .int bc, .int py, .int rf, .int lt, .int tl, .int fp, .ref cs, .ref bs, .ref tp]))) (hn_w : T w = none) (hc_bs : M bs = some (.inl (kA 5, 4, .inr (.inr (.inr (.inr g)))))) (ht_cs : T cs = some 3) (ht_bs : T bs = some 6) (ht_tp : T tp = some 7) (htd : 0 ≤ td.toInt ∧ td.toInt ≤ 999) (hbc : 0 ≤ bc.toInt ∧ bc.toInt ≤ 4) (htl : 0 ≤ tl.toInt ∧ tl.toInt ≤ 600) (hg : ∀ j, j < 4 → ∃ q, g j = some q ∧ T q = some 2) : mCi l yX9_day cX9_day 2 (some .int) 2 0 0 D kA M T sz [.ref ro, .int n] (fun r u => ∃ td2 : Int32, ((0 : Int) ≤ td2.toInt ∧ td2.toInt ≤ 999) ∧ ∃ gd2 : Int32, ((-2147483648 : Int) ≤ gd2.toInt ∧ gd2.toInt ≤ 2147483647) ∧ ∃ bc2 : Int32, ((0 : Int) ≤ bc2.toInt ∧ bc2.toInt ≤ 4) ∧ ∃ py2 : Int32, ((-2147483648 : Int) ≤ py2.toInt ∧ py2.toInt ≤ 2147483647) ∧ ∃ rf2 : Int32, ((-2147483648 : Int) ≤ rf2.toInt ∧ rf2.toInt ≤ 2147483647) ∧ ∃ lt2 : Int32, ((-2147483648 : Int) ≤ lt2.toInt ∧ lt2.toInt ≤ 2147483647) ∧ (u.1 w = some (.inr (6, [.int td2, .int gd2, .int bc2, .int py2, .int rf2, .int lt2, .int tl, .int fp, .ref cs, .ref bs, .ref tp]))) ∧ u.2 = T ∧ (∀ q, FrK T q → q ≠ w → u.1 q = M q)) := by
  unfold mCi
  refine start_W (by decide) (Nat.le_of_ble_eq_true rfl) ?_
  intro p e s m below meth c ls hC hr hlk hnm hK hH hsz hl
  have hx := hC.1
  have hb := hC.2.1
  have hl : lv_has ls 2 [(0, .ref ro), (1, .int n)] := hl
  have hF : ∀ q, FrK T q → q ≠ w → M q = M q := fun q _ _ => rfl
  have n_ro_w : ro ≠ w := neM hc_ro hc_w (by simp)
  have n_ro_bs : ro ≠ bs := neM hc_ro hc_bs (by simp)
  have n_w_ro : w ≠ ro := neM hc_w hc_ro (by simp)
  have n_w_bs : w ≠ bs := neM hc_w hc_bs (by simp)
  have n_bs_ro : bs ≠ ro := neM hc_bs hc_ro (by simp)
  have n_bs_w : bs ≠ w := neM hc_bs hc_w (by simp)
  refine lv_aload_n hx hb dX9_day_0 rfl (lv_at hl 0 rfl) ?_
  refine xg hC hK hH flX9_12 hc_ro rfl dX9_day_1 ?_
  refine lv_aload_n hx hb dX9_day_4 rfl (lv_at hl 0 rfl) ?_
  refine xg hC hK hH flX9_12 hc_ro rfl dX9_day_5 ?_
  refine lv_iload_n hx hb dX9_day_8 rfl (lv_at hl 1 rfl) ?_
  refine goI hK hH (runV (As := [.int n]) (rest := [.ref w]) hC hK hH (c_X8_goOn hc_w hn_w hc_bs ht_cs ht_bs ht_tp (by omega) (by omega) (by omega) hg) mlX9_83 (rcvM hK hH hc_w rfl) ⟨⟨Nat.le_of_ble_eq_true rfl, Nat.le_of_ble_eq_true rfl⟩, Nat.le_of_ble_eq_true rfl, Nat.le_of_ble_eq_true rfl⟩ rfl hl.1 rfl (Nat.le_of_ble_eq_true rfl) dX9_day_9) (fun rq3_ Mq1_ Tq2_ Hq_ lcq_ hP hz hH => ?_)
  try dsimp only at hP
  obtain ⟨xq4_, ⟨l_xq4_, g_xq4_⟩, (hx_w), eT, hfr⟩ := hP
  have eT := eT.symm; subst eT
  have hc_ro : Mq1_ ro = some (.inr (7, [.ref w, .ref im, .ref rd, .ref rc, .ref cu])) := (hfr ro (Or.inl hn_ro) n_ro_w).trans hc_ro
  have hc_w : Mq1_ w = some (.inr (6, [.int xq4_, .int gd, .int bc, .int py, .int rf, .int lt, .int tl, .int fp, .ref cs, .ref bs, .ref tp])) := hx_w
  have hc_bs : Mq1_ bs = some (.inl (kA 5, 4, .inr (.inr (.inr (.inr g))))) := (hfr bs (Or.inr (Or.inl ht_bs)) n_bs_w).trans hc_bs
  have hF : ∀ q, FrK T q → q ≠ w → Mq1_ q = M q := fun q hq h0 => (hfr q hq  h0).trans (hF q hq h0)
  refine goI hK hH (runV (As := [.int rq3_]) (rest := []) hC hK hH (c_X8_note hc_w hn_w hc_bs ht_cs ht_bs ht_tp (by omega) (by omega) (by omega) hg) mlX9_76 (rcvM hK hH hc_w rfl) ⟨⟨Nat.le_of_ble_eq_true rfl, Nat.le_of_ble_eq_true rfl⟩, Nat.le_of_ble_eq_true rfl, Nat.le_of_ble_eq_true rfl⟩ rfl hl.1 rfl (Nat.le_of_ble_eq_true rfl) dX9_day_12) (fun rq7_ Mq5_ Tq6_ Hq_ lcq_ hP hz hH => ?_)
  try dsimp only at hP
  obtain ⟨xq8_, ⟨l_xq8_, g_xq8_⟩, (⟨er_rq7_, hx_w⟩), eT, hfr⟩ := hP
  have eT := eT.symm; subst eT
  have er_rq7_ := er_rq7_.symm; subst er_rq7_
  have hc_ro : Mq5_ ro = some (.inr (7, [.ref w, .ref im, .ref rd, .ref rc, .ref cu])) := (hfr ro (Or.inl hn_ro) n_ro_w).trans hc_ro
  have hc_w : Mq5_ w = some (.inr (6, [.int xq4_, .int gd, .int bc, .int py, .int xq8_, .int rq3_, .int tl, .int fp, .ref cs, .ref bs, .ref tp])) := hx_w
  have hc_bs : Mq5_ bs = some (.inl (kA 5, 4, .inr (.inr (.inr (.inr g))))) := (hfr bs (Or.inr (Or.inl ht_bs)) n_bs_w).trans hc_bs
  have hF : ∀ q, FrK T q → q ≠ w → Mq5_ q = M q := fun q hq h0 => (hfr q hq  h0).trans (hF q hq h0)
  exact ret_i hC hr hlk hK hH (⟨xq4_, ⟨by omega, by omega⟩, gd, iRg _, bc, ⟨by omega, by omega⟩, py, iRg _, xq8_, iRg _, rq3_, iRg _, hc_w, rfl, hF⟩) (Nat.le_of_ble_eq_true rfl) (Nat.le_of_ble_eq_true rfl) dX9_day_15
set_option maxHeartbeats 4000000 in
set_option maxRecDepth 100000 in
theorem c_X9_cash {l : Launch} {D : va_G} {kA : Nat → ClassId} {M : mM} {T : mT} {sz : Nat} {ro im rd cu : Nat} {w cs bs tp : Nat} {td gd bc py rf lt tl fp : Int32} {g : Nat → Option Nat}{rc : Nat} {ps n : Int32} (hc_ro : M ro = some (.inr (7, [.ref w, .ref im, .ref rd, .ref rc, .ref cu]))) (hn_ro : T ro = none) (hc_w : M w = some (.inr (6, [.int td, .int gd, .int bc, .int py, .int rf, .int lt, .int tl, .int fp, .ref cs, .ref bs, .ref tp]))) (hn_w : T w = none) (hc_bs : M bs = some (.inl (kA 5, 4, .inr (.inr (.inr (.inr g)))))) (ht_cs : T cs = some 3) (ht_bs : T bs = some 6) (ht_tp : T tp = some 7) (htd : 0 ≤ td.toInt ∧ td.toInt ≤ 999) (hbc : 0 ≤ bc.toInt ∧ bc.toInt ≤ 4) (htl : 0 ≤ tl.toInt ∧ tl.toInt ≤ 600) (hg : ∀ j, j < 4 → ∃ q, g j = some q ∧ T q = some 2) : mCi l yX9_cash cX9_cash 3 (some .int) 2 0 0 D kA M T sz [.ref ro, .int ps, .int n] (fun r u => ∃ td2 : Int32, ((0 : Int) ≤ td2.toInt ∧ td2.toInt ≤ 999) ∧ ∃ gd2 : Int32, ((-2147483648 : Int) ≤ gd2.toInt ∧ gd2.toInt ≤ 2147483647) ∧ ∃ bc2 : Int32, ((0 : Int) ≤ bc2.toInt ∧ bc2.toInt ≤ 4) ∧ ∃ py2 : Int32, ((-2147483648 : Int) ≤ py2.toInt ∧ py2.toInt ≤ 2147483647) ∧ ∃ rf2 : Int32, ((-2147483648 : Int) ≤ rf2.toInt ∧ rf2.toInt ≤ 2147483647) ∧ ∃ lt2 : Int32, ((-2147483648 : Int) ≤ lt2.toInt ∧ lt2.toInt ≤ 2147483647) ∧ (((0 ≤ ps.toInt ∧ ps.toInt ≤ 7 ∧ 0 ≤ n.toInt ∧ n.toInt ≤ 9999) ∧ r = 0 ∧ u.1 w = some (.inr (6, [.int td2, .int gd2, .int bc2, .int py2, .int rf2, .int lt2, .int tl, .int fp, .ref cs, .ref bs, .ref tp]))) ∨ ((¬ (0 ≤ ps.toInt ∧ ps.toInt ≤ 7 ∧ 0 ≤ n.toInt ∧ n.toInt ≤ 9999)) ∧ r = 30 ∧ u.1 w = some (.inr (6, [.int td2, .int gd2, .int bc2, .int py2, .int rf2, .int lt2, .int tl, .int fp, .ref cs, .ref bs, .ref tp])))) ∧ u.2 = T ∧ (∀ q, FrK T q → q ≠ w → u.1 q = M q)) := by
  unfold mCi
  refine start_W (by decide) (Nat.le_of_ble_eq_true rfl) ?_
  intro p e s m below meth c ls hC hr hlk hnm hK hH hsz hl
  have hx := hC.1
  have hb := hC.2.1
  have hl : lv_has ls 3 [(0, .ref ro), (1, .int ps), (2, .int n)] := hl
  have hF : ∀ q, FrK T q → q ≠ w → M q = M q := fun q _ _ => rfl
  have n_ro_w : ro ≠ w := neM hc_ro hc_w (by simp)
  have n_ro_bs : ro ≠ bs := neM hc_ro hc_bs (by simp)
  have n_w_ro : w ≠ ro := neM hc_w hc_ro (by simp)
  have n_w_bs : w ≠ bs := neM hc_w hc_bs (by simp)
  have n_bs_ro : bs ≠ ro := neM hc_bs hc_ro (by simp)
  have n_bs_w : bs ≠ w := neM hc_bs hc_w (by simp)
  refine lv_aload_n hx hb dX9_cash_0 rfl (lv_at hl 0 rfl) ?_
  refine xg hC hK hH flX9_12 hc_ro rfl dX9_cash_1 ?_
  refine lv_aload_n hx hb dX9_cash_4 rfl (lv_at hl 0 rfl) ?_
  refine xg hC hK hH flX9_12 hc_ro rfl dX9_cash_5 ?_
  refine lv_iload_n hx hb dX9_cash_8 rfl (lv_at hl 1 rfl) ?_
  refine lv_iload_n hx hb dX9_cash_9 rfl (lv_at hl 2 rfl) ?_
  refine goI hK hH (runV (As := [.int ps, .int n]) (rest := [.ref w]) hC hK hH (c_X8_setCash hc_w hn_w hc_bs ht_cs ht_bs ht_tp (by omega) (by omega) (by omega) hg) mlX9_86 (rcvM hK hH hc_w rfl) ⟨⟨Nat.le_of_ble_eq_true rfl, Nat.le_of_ble_eq_true rfl⟩, Nat.le_of_ble_eq_true rfl, Nat.le_of_ble_eq_true rfl⟩ rfl hl.1 rfl (Nat.le_of_ble_eq_true rfl) dX9_cash_10) (fun rq3_ Mq1_ Tq2_ Hq_ lcq_ hP hz hH => ?_)
  try dsimp only at hP
  obtain ⟨(⟨cq4_, er_rq3_⟩ | ⟨cq5_, er_rq3_⟩), eT, hfr⟩ := hP
  · skip
    have eT := eT.symm; subst eT
    have er_rq3_ := er_rq3_.symm; subst er_rq3_
    have hc_ro : Mq1_ ro = some (.inr (7, [.ref w, .ref im, .ref rd, .ref rc, .ref cu])) := (hfr ro (Or.inl hn_ro) ).trans hc_ro
    have hc_w : Mq1_ w = some (.inr (6, [.int td, .int gd, .int bc, .int py, .int rf, .int lt, .int tl, .int fp, .ref cs, .ref bs, .ref tp])) := (hfr w (Or.inl hn_w) ).trans hc_w
    have hc_bs : Mq1_ bs = some (.inl (kA 5, 4, .inr (.inr (.inr (.inr g))))) := (hfr bs (Or.inr (Or.inl ht_bs)) ).trans hc_bs
    have hF : ∀ q, FrK T q → q ≠ w → Mq1_ q = M q := fun q hq h0 => (hfr q hq ).trans (hF q hq h0)
    have cq4_ : 0 ≤ ps.toInt ∧ ps.toInt ≤ 7 ∧ 0 ≤ n.toInt ∧ n.toInt ≤ 9999 := cq4_
    refine goI hK hH (runV (As := [.int 0]) (rest := []) hC hK hH (c_X8_note hc_w hn_w hc_bs ht_cs ht_bs ht_tp (by omega) (by omega) (by omega) hg) mlX9_76 (rcvM hK hH hc_w rfl) ⟨⟨Nat.le_of_ble_eq_true rfl, Nat.le_of_ble_eq_true rfl⟩, Nat.le_of_ble_eq_true rfl, Nat.le_of_ble_eq_true rfl⟩ rfl hl.1 rfl (Nat.le_of_ble_eq_true rfl) dX9_cash_13) (fun rq8_ Mq6_ Tq7_ Hq_ lcq_ hP hz hH => ?_)
    try dsimp only at hP
    obtain ⟨xq9_, ⟨l_xq9_, g_xq9_⟩, (⟨er_rq8_, hx_w⟩), eT, hfr⟩ := hP
    have eT := eT.symm; subst eT
    have er_rq8_ := er_rq8_.symm; subst er_rq8_
    have hc_ro : Mq6_ ro = some (.inr (7, [.ref w, .ref im, .ref rd, .ref rc, .ref cu])) := (hfr ro (Or.inl hn_ro) n_ro_w).trans hc_ro
    have hc_w : Mq6_ w = some (.inr (6, [.int td, .int gd, .int bc, .int py, .int xq9_, .int 0, .int tl, .int fp, .ref cs, .ref bs, .ref tp])) := hx_w
    have hc_bs : Mq6_ bs = some (.inl (kA 5, 4, .inr (.inr (.inr (.inr g))))) := (hfr bs (Or.inr (Or.inl ht_bs)) n_bs_w).trans hc_bs
    have hF : ∀ q, FrK T q → q ≠ w → Mq6_ q = M q := fun q hq h0 => (hfr q hq  h0).trans (hF q hq h0)
    exact ret_i hC hr hlk hK hH (⟨td, ⟨by omega, by omega⟩, gd, iRg _, bc, ⟨by omega, by omega⟩, py, iRg _, xq9_, iRg _, 0, iRg _, Or.inl (⟨by omega, rfl, hc_w⟩), rfl, hF⟩) (Nat.le_of_ble_eq_true rfl) (Nat.le_of_ble_eq_true rfl) dX9_cash_16
  · skip
    have eT := eT.symm; subst eT
    have er_rq3_ := er_rq3_.symm; subst er_rq3_
    have hc_ro : Mq1_ ro = some (.inr (7, [.ref w, .ref im, .ref rd, .ref rc, .ref cu])) := (hfr ro (Or.inl hn_ro) ).trans hc_ro
    have hc_w : Mq1_ w = some (.inr (6, [.int td, .int gd, .int bc, .int py, .int rf, .int lt, .int tl, .int fp, .ref cs, .ref bs, .ref tp])) := (hfr w (Or.inl hn_w) ).trans hc_w
    have hc_bs : Mq1_ bs = some (.inl (kA 5, 4, .inr (.inr (.inr (.inr g))))) := (hfr bs (Or.inr (Or.inl ht_bs)) ).trans hc_bs
    have hF : ∀ q, FrK T q → q ≠ w → Mq1_ q = M q := fun q hq h0 => (hfr q hq ).trans (hF q hq h0)
    have cq5_ : ¬ (0 ≤ ps.toInt ∧ ps.toInt ≤ 7 ∧ 0 ≤ n.toInt ∧ n.toInt ≤ 9999) := cq5_
    refine goI hK hH (runV (As := [.int 30]) (rest := []) hC hK hH (c_X8_note hc_w hn_w hc_bs ht_cs ht_bs ht_tp (by omega) (by omega) (by omega) hg) mlX9_76 (rcvM hK hH hc_w rfl) ⟨⟨Nat.le_of_ble_eq_true rfl, Nat.le_of_ble_eq_true rfl⟩, Nat.le_of_ble_eq_true rfl, Nat.le_of_ble_eq_true rfl⟩ rfl hl.1 rfl (Nat.le_of_ble_eq_true rfl) dX9_cash_13) (fun rq12_ Mq10_ Tq11_ Hq_ lcq_ hP hz hH => ?_)
    try dsimp only at hP
    obtain ⟨xq13_, ⟨l_xq13_, g_xq13_⟩, (⟨er_rq12_, hx_w⟩), eT, hfr⟩ := hP
    have eT := eT.symm; subst eT
    have er_rq12_ := er_rq12_.symm; subst er_rq12_
    have hc_ro : Mq10_ ro = some (.inr (7, [.ref w, .ref im, .ref rd, .ref rc, .ref cu])) := (hfr ro (Or.inl hn_ro) n_ro_w).trans hc_ro
    have hc_w : Mq10_ w = some (.inr (6, [.int td, .int gd, .int bc, .int py, .int xq13_, .int 30, .int tl, .int fp, .ref cs, .ref bs, .ref tp])) := hx_w
    have hc_bs : Mq10_ bs = some (.inl (kA 5, 4, .inr (.inr (.inr (.inr g))))) := (hfr bs (Or.inr (Or.inl ht_bs)) n_bs_w).trans hc_bs
    have hF : ∀ q, FrK T q → q ≠ w → Mq10_ q = M q := fun q hq h0 => (hfr q hq  h0).trans (hF q hq h0)
    exact ret_i hC hr hlk hK hH (⟨td, ⟨by omega, by omega⟩, gd, iRg _, bc, ⟨by omega, by omega⟩, py, iRg _, xq13_, iRg _, 30, iRg _, Or.inr (⟨by omega, rfl, hc_w⟩), rfl, hF⟩) (Nat.le_of_ble_eq_true rfl) (Nat.le_of_ble_eq_true rfl) dX9_cash_16
set_option maxHeartbeats 4000000 in
set_option maxRecDepth 100000 in
theorem c_X9_grace {l : Launch} {D : va_G} {kA : Nat → ClassId} {M : mM} {T : mT} {sz : Nat} {ro im rd cu : Nat} {w cs bs tp : Nat} {td gd bc py rf lt tl fp : Int32} {g : Nat → Option Nat}{rc : Nat} {n : Int32} (hc_ro : M ro = some (.inr (7, [.ref w, .ref im, .ref rd, .ref rc, .ref cu]))) (hn_ro : T ro = none) (hc_w : M w = some (.inr (6, [.int td, .int gd, .int bc, .int py, .int rf, .int lt, .int tl, .int fp, .ref cs, .ref bs, .ref tp]))) (hn_w : T w = none) (hc_bs : M bs = some (.inl (kA 5, 4, .inr (.inr (.inr (.inr g)))))) (ht_cs : T cs = some 3) (ht_bs : T bs = some 6) (ht_tp : T tp = some 7) (htd : 0 ≤ td.toInt ∧ td.toInt ≤ 999) (hbc : 0 ≤ bc.toInt ∧ bc.toInt ≤ 4) (htl : 0 ≤ tl.toInt ∧ tl.toInt ≤ 600) (hg : ∀ j, j < 4 → ∃ q, g j = some q ∧ T q = some 2) : mCi l yX9_grace cX9_grace 2 (some .int) 2 0 0 D kA M T sz [.ref ro, .int n] (fun r u => ∃ td2 : Int32, ((0 : Int) ≤ td2.toInt ∧ td2.toInt ≤ 999) ∧ ∃ gd2 : Int32, ((-2147483648 : Int) ≤ gd2.toInt ∧ gd2.toInt ≤ 2147483647) ∧ ∃ bc2 : Int32, ((0 : Int) ≤ bc2.toInt ∧ bc2.toInt ≤ 4) ∧ ∃ py2 : Int32, ((-2147483648 : Int) ≤ py2.toInt ∧ py2.toInt ≤ 2147483647) ∧ ∃ rf2 : Int32, ((-2147483648 : Int) ≤ rf2.toInt ∧ rf2.toInt ≤ 2147483647) ∧ ∃ lt2 : Int32, ((-2147483648 : Int) ≤ lt2.toInt ∧ lt2.toInt ≤ 2147483647) ∧ (((1 ≤ n.toInt ∧ n.toInt ≤ 9) ∧ r = 0 ∧ u.1 w = some (.inr (6, [.int td2, .int gd2, .int bc2, .int py2, .int rf2, .int lt2, .int tl, .int fp, .ref cs, .ref bs, .ref tp]))) ∨ ((¬ (1 ≤ n.toInt ∧ n.toInt ≤ 9)) ∧ r = 30 ∧ u.1 w = some (.inr (6, [.int td2, .int gd2, .int bc2, .int py2, .int rf2, .int lt2, .int tl, .int fp, .ref cs, .ref bs, .ref tp])))) ∧ u.2 = T ∧ (∀ q, FrK T q → q ≠ w → u.1 q = M q)) := by
  unfold mCi
  refine start_W (by decide) (Nat.le_of_ble_eq_true rfl) ?_
  intro p e s m below meth c ls hC hr hlk hnm hK hH hsz hl
  have hx := hC.1
  have hb := hC.2.1
  have hl : lv_has ls 2 [(0, .ref ro), (1, .int n)] := hl
  have hF : ∀ q, FrK T q → q ≠ w → M q = M q := fun q _ _ => rfl
  have n_ro_w : ro ≠ w := neM hc_ro hc_w (by simp)
  have n_ro_bs : ro ≠ bs := neM hc_ro hc_bs (by simp)
  have n_w_ro : w ≠ ro := neM hc_w hc_ro (by simp)
  have n_w_bs : w ≠ bs := neM hc_w hc_bs (by simp)
  have n_bs_ro : bs ≠ ro := neM hc_bs hc_ro (by simp)
  have n_bs_w : bs ≠ w := neM hc_bs hc_w (by simp)
  refine lv_aload_n hx hb dX9_grace_0 rfl (lv_at hl 0 rfl) ?_
  refine xg hC hK hH flX9_12 hc_ro rfl dX9_grace_1 ?_
  refine lv_aload_n hx hb dX9_grace_4 rfl (lv_at hl 0 rfl) ?_
  refine xg hC hK hH flX9_12 hc_ro rfl dX9_grace_5 ?_
  refine lv_iload_n hx hb dX9_grace_8 rfl (lv_at hl 1 rfl) ?_
  refine goI hK hH (runV (As := [.int n]) (rest := [.ref w]) hC hK hH (c_X8_setGrace hc_w hn_w hc_bs ht_cs ht_bs ht_tp (by omega) (by omega) (by omega) hg) mlX9_90 (rcvM hK hH hc_w rfl) ⟨⟨Nat.le_of_ble_eq_true rfl, Nat.le_of_ble_eq_true rfl⟩, Nat.le_of_ble_eq_true rfl, Nat.le_of_ble_eq_true rfl⟩ rfl hl.1 rfl (Nat.le_of_ble_eq_true rfl) dX9_grace_9) (fun rq3_ Mq1_ Tq2_ Hq_ lcq_ hP hz hH => ?_)
  try dsimp only at hP
  obtain ⟨xq6_, ⟨l_xq6_, g_xq6_⟩, (⟨cq4_, er_rq3_, hx_w⟩ | ⟨cq5_, er_rq3_, hx_w⟩), eT, hfr⟩ := hP
  · skip
    have eT := eT.symm; subst eT
    have er_rq3_ := er_rq3_.symm; subst er_rq3_
    have hc_ro : Mq1_ ro = some (.inr (7, [.ref w, .ref im, .ref rd, .ref rc, .ref cu])) := (hfr ro (Or.inl hn_ro) n_ro_w).trans hc_ro
    have hc_w : Mq1_ w = some (.inr (6, [.int td, .int xq6_, .int bc, .int py, .int rf, .int lt, .int tl, .int fp, .ref cs, .ref bs, .ref tp])) := hx_w
    have hc_bs : Mq1_ bs = some (.inl (kA 5, 4, .inr (.inr (.inr (.inr g))))) := (hfr bs (Or.inr (Or.inl ht_bs)) n_bs_w).trans hc_bs
    have hF : ∀ q, FrK T q → q ≠ w → Mq1_ q = M q := fun q hq h0 => (hfr q hq  h0).trans (hF q hq h0)
    have cq4_ : 1 ≤ n.toInt ∧ n.toInt ≤ 9 := cq4_
    refine goI hK hH (runV (As := [.int 0]) (rest := []) hC hK hH (c_X8_note hc_w hn_w hc_bs ht_cs ht_bs ht_tp (by omega) (by omega) (by omega) hg) mlX9_76 (rcvM hK hH hc_w rfl) ⟨⟨Nat.le_of_ble_eq_true rfl, Nat.le_of_ble_eq_true rfl⟩, Nat.le_of_ble_eq_true rfl, Nat.le_of_ble_eq_true rfl⟩ rfl hl.1 rfl (Nat.le_of_ble_eq_true rfl) dX9_grace_12) (fun rq9_ Mq7_ Tq8_ Hq_ lcq_ hP hz hH => ?_)
    try dsimp only at hP
    obtain ⟨xq10_, ⟨l_xq10_, g_xq10_⟩, (⟨er_rq9_, hx_w⟩), eT, hfr⟩ := hP
    have eT := eT.symm; subst eT
    have er_rq9_ := er_rq9_.symm; subst er_rq9_
    have hc_ro : Mq7_ ro = some (.inr (7, [.ref w, .ref im, .ref rd, .ref rc, .ref cu])) := (hfr ro (Or.inl hn_ro) n_ro_w).trans hc_ro
    have hc_w : Mq7_ w = some (.inr (6, [.int td, .int xq6_, .int bc, .int py, .int xq10_, .int 0, .int tl, .int fp, .ref cs, .ref bs, .ref tp])) := hx_w
    have hc_bs : Mq7_ bs = some (.inl (kA 5, 4, .inr (.inr (.inr (.inr g))))) := (hfr bs (Or.inr (Or.inl ht_bs)) n_bs_w).trans hc_bs
    have hF : ∀ q, FrK T q → q ≠ w → Mq7_ q = M q := fun q hq h0 => (hfr q hq  h0).trans (hF q hq h0)
    exact ret_i hC hr hlk hK hH (⟨td, ⟨by omega, by omega⟩, xq6_, iRg _, bc, ⟨by omega, by omega⟩, py, iRg _, xq10_, iRg _, 0, iRg _, Or.inl (⟨by omega, rfl, hc_w⟩), rfl, hF⟩) (Nat.le_of_ble_eq_true rfl) (Nat.le_of_ble_eq_true rfl) dX9_grace_15
  · skip
    have eT := eT.symm; subst eT
    have er_rq3_ := er_rq3_.symm; subst er_rq3_
    have hc_ro : Mq1_ ro = some (.inr (7, [.ref w, .ref im, .ref rd, .ref rc, .ref cu])) := (hfr ro (Or.inl hn_ro) n_ro_w).trans hc_ro
    have hc_w : Mq1_ w = some (.inr (6, [.int td, .int xq6_, .int bc, .int py, .int rf, .int lt, .int tl, .int fp, .ref cs, .ref bs, .ref tp])) := hx_w
    have hc_bs : Mq1_ bs = some (.inl (kA 5, 4, .inr (.inr (.inr (.inr g))))) := (hfr bs (Or.inr (Or.inl ht_bs)) n_bs_w).trans hc_bs
    have hF : ∀ q, FrK T q → q ≠ w → Mq1_ q = M q := fun q hq h0 => (hfr q hq  h0).trans (hF q hq h0)
    have cq5_ : ¬ (1 ≤ n.toInt ∧ n.toInt ≤ 9) := cq5_
    refine goI hK hH (runV (As := [.int 30]) (rest := []) hC hK hH (c_X8_note hc_w hn_w hc_bs ht_cs ht_bs ht_tp (by omega) (by omega) (by omega) hg) mlX9_76 (rcvM hK hH hc_w rfl) ⟨⟨Nat.le_of_ble_eq_true rfl, Nat.le_of_ble_eq_true rfl⟩, Nat.le_of_ble_eq_true rfl, Nat.le_of_ble_eq_true rfl⟩ rfl hl.1 rfl (Nat.le_of_ble_eq_true rfl) dX9_grace_12) (fun rq13_ Mq11_ Tq12_ Hq_ lcq_ hP hz hH => ?_)
    try dsimp only at hP
    obtain ⟨xq14_, ⟨l_xq14_, g_xq14_⟩, (⟨er_rq13_, hx_w⟩), eT, hfr⟩ := hP
    have eT := eT.symm; subst eT
    have er_rq13_ := er_rq13_.symm; subst er_rq13_
    have hc_ro : Mq11_ ro = some (.inr (7, [.ref w, .ref im, .ref rd, .ref rc, .ref cu])) := (hfr ro (Or.inl hn_ro) n_ro_w).trans hc_ro
    have hc_w : Mq11_ w = some (.inr (6, [.int td, .int xq6_, .int bc, .int py, .int xq14_, .int 30, .int tl, .int fp, .ref cs, .ref bs, .ref tp])) := hx_w
    have hc_bs : Mq11_ bs = some (.inl (kA 5, 4, .inr (.inr (.inr (.inr g))))) := (hfr bs (Or.inr (Or.inl ht_bs)) n_bs_w).trans hc_bs
    have hF : ∀ q, FrK T q → q ≠ w → Mq11_ q = M q := fun q hq h0 => (hfr q hq  h0).trans (hF q hq h0)
    exact ret_i hC hr hlk hK hH (⟨td, ⟨by omega, by omega⟩, xq6_, iRg _, bc, ⟨by omega, by omega⟩, py, iRg _, xq14_, iRg _, 30, iRg _, Or.inr (⟨by omega, rfl, hc_w⟩), rfl, hF⟩) (Nat.le_of_ble_eq_true rfl) (Nat.le_of_ble_eq_true rfl) dX9_grace_15
set_option maxHeartbeats 4000000 in
set_option maxRecDepth 100000 in
theorem c_X9_draw {l : Launch} {D : va_G} {kA : Nat → ClassId} {M : mM} {T : mT} {sz : Nat} {ro im rd cu : Nat} {w cs bs tp : Nat} {td gd bc py rf lt tl fp : Int32} {g : Nat → Option Nat}{rc : Nat} {dr de pe su dy : Int32} (hc_ro : M ro = some (.inr (7, [.ref w, .ref im, .ref rd, .ref rc, .ref cu]))) (hn_ro : T ro = none) (hc_w : M w = some (.inr (6, [.int td, .int gd, .int bc, .int py, .int rf, .int lt, .int tl, .int fp, .ref cs, .ref bs, .ref tp]))) (hn_w : T w = none) (hc_bs : M bs = some (.inl (kA 5, 4, .inr (.inr (.inr (.inr g)))))) (ht_cs : T cs = some 3) (ht_bs : T bs = some 6) (ht_tp : T tp = some 7) (htd : 0 ≤ td.toInt ∧ td.toInt ≤ 999) (hbc : 0 ≤ bc.toInt ∧ bc.toInt ≤ 4) (htl : 0 ≤ tl.toInt ∧ tl.toInt ≤ 600) (hg : ∀ j, j < 4 → ∃ q, g j = some q ∧ T q = some 2) : mCi l yX9_draw cX9_draw 8 (some .int) 4 0 0 D kA M T sz [.ref ro, .int dr, .int de, .int pe, .int su, .int dy] (fun r u => ∃ td2 : Int32, ((0 : Int) ≤ td2.toInt ∧ td2.toInt ≤ 999) ∧ ∃ gd2 : Int32, ((-2147483648 : Int) ≤ gd2.toInt ∧ gd2.toInt ≤ 2147483647) ∧ ∃ bc2 : Int32, ((0 : Int) ≤ bc2.toInt ∧ bc2.toInt ≤ 4) ∧ ∃ py2 : Int32, ((-2147483648 : Int) ≤ py2.toInt ∧ py2.toInt ≤ 2147483647) ∧ ∃ rf2 : Int32, ((-2147483648 : Int) ≤ rf2.toInt ∧ rf2.toInt ≤ 2147483647) ∧ ∃ lt2 : Int32, ((-2147483648 : Int) ≤ lt2.toInt ∧ lt2.toInt ≤ 2147483647) ∧ (u.1 w = some (.inr (6, [.int td2, .int gd2, .int bc2, .int py2, .int rf2, .int lt2, .int tl, .int fp, .ref cs, .ref bs, .ref tp]))) ∧ u.2 = T ∧ (∀ q, FrA T q → q ≠ w → u.1 q = M q)) := by
  unfold mCi
  refine start_W (by decide) (Nat.le_of_ble_eq_true rfl) ?_
  intro p e s m below meth c ls hC hr hlk hnm hK hH hsz hl
  have hx := hC.1
  have hb := hC.2.1
  have hl : lv_has ls 8 [(0, .ref ro), (1, .int dr), (2, .int de), (3, .int pe), (4, .int su), (5, .int dy)] := hl
  have hF : ∀ q, FrA T q → q ≠ w → M q = M q := fun q _ _ => rfl
  have n_ro_w : ro ≠ w := neM hc_ro hc_w (by simp)
  have n_ro_bs : ro ≠ bs := neM hc_ro hc_bs (by simp)
  have n_w_ro : w ≠ ro := neM hc_w hc_ro (by simp)
  have n_w_bs : w ≠ bs := neM hc_w hc_bs (by simp)
  have n_bs_ro : bs ≠ ro := neM hc_bs hc_ro (by simp)
  have n_bs_w : bs ≠ w := neM hc_bs hc_w (by simp)
  refine lv_iload_n hx hb dX9_draw_0 rfl (lv_at hl 3 rfl) ?_
  refine lv_bipush (v := 10) hx hb dX9_draw_1 (by decide) ?_
  refine jic_lt (tgt := 10) hx hb dX9_draw_3 (by decide) (fun cq1_ => ?_) (fun cq1_ => ?_)
  · skip
    have cq1_ : pe.toInt < 10 := cq1_
    refine lv_iconst (v := 0) hx hb dX9_draw_10 (by decide) ?_
    refine lv_istore (lv' := [(6, .int 0), (0, .ref ro), (1, .int dr), (2, .int de), (3, .int pe), (4, .int su), (5, .int dy)]) hx hb dX9_draw_11 hl (by decide) rfl (fun ls hl => ?_)
    refine lv_aload_n hx hb dX9_draw_13 rfl (lv_at hl 1 rfl) ?_
    refine xg hC hK hH flX9_12 hc_ro rfl dX9_draw_14 ?_
    refine lv_aload_n hx hb dX9_draw_17 rfl (lv_at hl 1 rfl) ?_
    refine xg hC hK hH flX9_12 hc_ro rfl dX9_draw_18 ?_
    refine lv_iload_n hx hb dX9_draw_21 rfl (lv_at hl 2 rfl) ?_
    refine lv_iload_n hx hb dX9_draw_22 rfl (lv_at hl 3 rfl) ?_
    refine lv_iload hx hb dX9_draw_23 (lv_at hl 0 rfl) ?_
    refine jif_eq (tgt := 35) hx hb dX9_draw_25 (by decide) (fun cq2_ => ?_) (fun cq2_ => absurd cq2_ (by decide))
    refine lv_iload_n hx hb dX9_draw_35 rfl (lv_at hl 4 rfl) ?_
    refine lv_iload hx hb dX9_draw_36 (lv_at hl 5 rfl) ?_
    refine lv_iload hx hb dX9_draw_38 (lv_at hl 6 rfl) ?_
    refine lv_iload hx hb dX9_draw_40 (lv_at hl 0 rfl) ?_
    refine goI hK hH (runV (As := [.int dr, .int de, .int pe, .int su, .int dy, .int 0]) (rest := [.ref w]) hC hK hH (c_X8_drawOne hc_w hn_w hc_bs ht_cs ht_bs ht_tp (by omega) (by omega) (by omega) (by decide) hg) mlX9_93 (rcvM hK hH hc_w rfl) ⟨⟨Nat.le_of_ble_eq_true rfl, Nat.le_of_ble_eq_true rfl⟩, Nat.le_of_ble_eq_true rfl, Nat.le_of_ble_eq_true rfl⟩ rfl hl.1 rfl (Nat.le_of_ble_eq_true rfl) dX9_draw_42) (fun rq5_ Mq3_ Tq4_ Hq_ lcq_ hP hz hH => ?_)
    try dsimp only at hP
    obtain ⟨xq6_, ⟨l_xq6_, g_xq6_⟩, (hx_w), eT, hfr⟩ := hP
    have eT := eT.symm; subst eT
    have hc_ro : Mq3_ ro = some (.inr (7, [.ref w, .ref im, .ref rd, .ref rc, .ref cu])) := (hfr ro (Or.inl hn_ro) n_ro_w).trans hc_ro
    have hc_w : Mq3_ w = some (.inr (6, [.int td, .int gd, .int xq6_, .int py, .int rf, .int lt, .int tl, .int fp, .ref cs, .ref bs, .ref tp])) := hx_w
    have hc_bs : Mq3_ bs = some (.inl (kA 5, 4, .inr (.inr (.inr (.inr g))))) := (hfr bs (Or.inr ht_bs) n_bs_w).trans hc_bs
    have hF : ∀ q, FrA T q → q ≠ w → Mq3_ q = M q := fun q hq h0 => (hfr q hq  h0).trans (hF q hq h0)
    refine goI hK hH (runV (As := [.int rq5_]) (rest := []) hC hK hH (c_X8_note hc_w hn_w hc_bs ht_cs ht_bs ht_tp (by omega) (by omega) (by omega) hg) mlX9_76 (rcvM hK hH hc_w rfl) ⟨⟨Nat.le_of_ble_eq_true rfl, Nat.le_of_ble_eq_true rfl⟩, Nat.le_of_ble_eq_true rfl, Nat.le_of_ble_eq_true rfl⟩ rfl hl.1 rfl (Nat.le_of_ble_eq_true rfl) dX9_draw_45) (fun rq9_ Mq7_ Tq8_ Hq_ lcq_ hP hz hH => ?_)
    try dsimp only at hP
    obtain ⟨xq10_, ⟨l_xq10_, g_xq10_⟩, (⟨er_rq9_, hx_w⟩), eT, hfr⟩ := hP
    have eT := eT.symm; subst eT
    have er_rq9_ := er_rq9_.symm; subst er_rq9_
    have hc_ro : Mq7_ ro = some (.inr (7, [.ref w, .ref im, .ref rd, .ref rc, .ref cu])) := (hfr ro (Or.inl hn_ro) n_ro_w).trans hc_ro
    have hc_w : Mq7_ w = some (.inr (6, [.int td, .int gd, .int xq6_, .int py, .int xq10_, .int rq5_, .int tl, .int fp, .ref cs, .ref bs, .ref tp])) := hx_w
    have hc_bs : Mq7_ bs = some (.inl (kA 5, 4, .inr (.inr (.inr (.inr g))))) := (hfr bs (Or.inr (Or.inl ht_bs)) n_bs_w).trans hc_bs
    have hF : ∀ q, FrA T q → q ≠ w → Mq7_ q = M q := fun q hq h0 => (hfr q (FrA.k hq)  h0).trans (hF q hq h0)
    refine lv_istore (lv' := [(7, .int rq5_), (6, .int 0), (0, .ref ro), (1, .int dr), (2, .int de), (3, .int pe), (4, .int su), (5, .int dy)]) hx hb dX9_draw_48 hl (by decide) rfl (fun ls hl => ?_)
    refine lv_iload hx hb dX9_draw_50 (lv_at hl 0 rfl) ?_
    refine jif_ne (tgt := 67) hx hb dX9_draw_52 (by decide) (fun cq11_ => ?_) (fun cq11_ => ?_)
    · skip
      have cq11_ : rq5_.toInt ≠ 0 := cq11_
      refine lv_iload hx hb dX9_draw_67 (lv_at hl 0 rfl) ?_
      refine lv_ineg hx hb dX9_draw_69 ?_
      refine lv_topi (fun zq12_ e_zq12_ => ?_)
      exact ret_i hC hr hlk hK hH (⟨td, ⟨by omega, by omega⟩, gd, iRg _, xq6_, ⟨by omega, by omega⟩, py, iRg _, xq10_, iRg _, rq5_, iRg _, hc_w, rfl, hF⟩) (Nat.le_of_ble_eq_true rfl) (Nat.le_of_ble_eq_true rfl) dX9_draw_70
    · skip
      have cq11_ : rq5_.toInt = 0 := cq11_
      refine lv_aload_n hx hb dX9_draw_55 rfl (lv_at hl 2 rfl) ?_
      refine xg hC hK hH flX9_12 hc_ro rfl dX9_draw_56 ?_
      refine xg hC hK hH flX9_97 hc_w rfl dX9_draw_59 ?_
      refine lv_iconst (v := 1) hx hb dX9_draw_62 (by decide) ?_
      refine lv_isub hx hb dX9_draw_63 ?_
      refine lv_topi (fun zq13_ e_zq13_ => ?_)
      have h_zq13_ : zq13_.toInt = xq6_.toInt - 1 := by rw [e_zq13_, iSub (by have := iRg xq6_; have : (1 : Int32).toInt = 1 := rfl; omega) (by have := iRg xq6_; have : (1 : Int32).toInt = 1 := rfl; omega)]; rfl
      refine lv_goto (tgt := 70) hx hb dX9_draw_64 (by decide) ?_
      exact ret_i hC hr hlk hK hH (⟨td, ⟨by omega, by omega⟩, gd, iRg _, xq6_, ⟨by omega, by omega⟩, py, iRg _, xq10_, iRg _, rq5_, iRg _, hc_w, rfl, hF⟩) (Nat.le_of_ble_eq_true rfl) (Nat.le_of_ble_eq_true rfl) dX9_draw_70
  · skip
    have cq1_ : 10 ≤ pe.toInt := cq1_
    refine lv_iconst (v := 1) hx hb dX9_draw_6 (by decide) ?_
    refine lv_goto (tgt := 11) hx hb dX9_draw_7 (by decide) ?_
    refine lv_istore (lv' := [(6, .int 1), (0, .ref ro), (1, .int dr), (2, .int de), (3, .int pe), (4, .int su), (5, .int dy)]) hx hb dX9_draw_11 hl (by decide) rfl (fun ls hl => ?_)
    refine lv_aload_n hx hb dX9_draw_13 rfl (lv_at hl 1 rfl) ?_
    refine xg hC hK hH flX9_12 hc_ro rfl dX9_draw_14 ?_
    refine lv_aload_n hx hb dX9_draw_17 rfl (lv_at hl 1 rfl) ?_
    refine xg hC hK hH flX9_12 hc_ro rfl dX9_draw_18 ?_
    refine lv_iload_n hx hb dX9_draw_21 rfl (lv_at hl 2 rfl) ?_
    refine lv_iload_n hx hb dX9_draw_22 rfl (lv_at hl 3 rfl) ?_
    refine lv_iload hx hb dX9_draw_23 (lv_at hl 0 rfl) ?_
    refine jif_eq (tgt := 35) hx hb dX9_draw_25 (by decide) (fun cq14_ => absurd cq14_ (by decide)) (fun cq14_ => ?_)
    refine lv_iload_n hx hb dX9_draw_28 rfl (lv_at hl 4 rfl) ?_
    refine lv_bipush (v := 10) hx hb dX9_draw_29 (by decide) ?_
    refine lv_isub hx hb dX9_draw_31 ?_
    refine lv_topi (fun zq15_ e_zq15_ => ?_)
    have h_zq15_ : zq15_.toInt = pe.toInt - 10 := by rw [e_zq15_, iSub (by have := iRg pe; have : (10 : Int32).toInt = 10 := rfl; omega) (by have := iRg pe; have : (10 : Int32).toInt = 10 := rfl; omega)]; rfl
    refine lv_goto (tgt := 36) hx hb dX9_draw_32 (by decide) ?_
    refine lv_iload hx hb dX9_draw_36 (lv_at hl 5 rfl) ?_
    refine lv_iload hx hb dX9_draw_38 (lv_at hl 6 rfl) ?_
    refine lv_iload hx hb dX9_draw_40 (lv_at hl 0 rfl) ?_
    refine goI hK hH (runV (As := [.int dr, .int de, .int zq15_, .int su, .int dy, .int 1]) (rest := [.ref w]) hC hK hH (c_X8_drawOne hc_w hn_w hc_bs ht_cs ht_bs ht_tp (by omega) (by omega) (by omega) (by decide) hg) mlX9_93 (rcvM hK hH hc_w rfl) ⟨⟨Nat.le_of_ble_eq_true rfl, Nat.le_of_ble_eq_true rfl⟩, Nat.le_of_ble_eq_true rfl, Nat.le_of_ble_eq_true rfl⟩ rfl hl.1 rfl (Nat.le_of_ble_eq_true rfl) dX9_draw_42) (fun rq18_ Mq16_ Tq17_ Hq_ lcq_ hP hz hH => ?_)
    try dsimp only at hP
    obtain ⟨xq19_, ⟨l_xq19_, g_xq19_⟩, (hx_w), eT, hfr⟩ := hP
    have eT := eT.symm; subst eT
    have hc_ro : Mq16_ ro = some (.inr (7, [.ref w, .ref im, .ref rd, .ref rc, .ref cu])) := (hfr ro (Or.inl hn_ro) n_ro_w).trans hc_ro
    have hc_w : Mq16_ w = some (.inr (6, [.int td, .int gd, .int xq19_, .int py, .int rf, .int lt, .int tl, .int fp, .ref cs, .ref bs, .ref tp])) := hx_w
    have hc_bs : Mq16_ bs = some (.inl (kA 5, 4, .inr (.inr (.inr (.inr g))))) := (hfr bs (Or.inr ht_bs) n_bs_w).trans hc_bs
    have hF : ∀ q, FrA T q → q ≠ w → Mq16_ q = M q := fun q hq h0 => (hfr q hq  h0).trans (hF q hq h0)
    refine goI hK hH (runV (As := [.int rq18_]) (rest := []) hC hK hH (c_X8_note hc_w hn_w hc_bs ht_cs ht_bs ht_tp (by omega) (by omega) (by omega) hg) mlX9_76 (rcvM hK hH hc_w rfl) ⟨⟨Nat.le_of_ble_eq_true rfl, Nat.le_of_ble_eq_true rfl⟩, Nat.le_of_ble_eq_true rfl, Nat.le_of_ble_eq_true rfl⟩ rfl hl.1 rfl (Nat.le_of_ble_eq_true rfl) dX9_draw_45) (fun rq22_ Mq20_ Tq21_ Hq_ lcq_ hP hz hH => ?_)
    try dsimp only at hP
    obtain ⟨xq23_, ⟨l_xq23_, g_xq23_⟩, (⟨er_rq22_, hx_w⟩), eT, hfr⟩ := hP
    have eT := eT.symm; subst eT
    have er_rq22_ := er_rq22_.symm; subst er_rq22_
    have hc_ro : Mq20_ ro = some (.inr (7, [.ref w, .ref im, .ref rd, .ref rc, .ref cu])) := (hfr ro (Or.inl hn_ro) n_ro_w).trans hc_ro
    have hc_w : Mq20_ w = some (.inr (6, [.int td, .int gd, .int xq19_, .int py, .int xq23_, .int rq18_, .int tl, .int fp, .ref cs, .ref bs, .ref tp])) := hx_w
    have hc_bs : Mq20_ bs = some (.inl (kA 5, 4, .inr (.inr (.inr (.inr g))))) := (hfr bs (Or.inr (Or.inl ht_bs)) n_bs_w).trans hc_bs
    have hF : ∀ q, FrA T q → q ≠ w → Mq20_ q = M q := fun q hq h0 => (hfr q (FrA.k hq)  h0).trans (hF q hq h0)
    refine lv_istore (lv' := [(7, .int rq18_), (6, .int 1), (0, .ref ro), (1, .int dr), (2, .int de), (3, .int pe), (4, .int su), (5, .int dy)]) hx hb dX9_draw_48 hl (by decide) rfl (fun ls hl => ?_)
    refine lv_iload hx hb dX9_draw_50 (lv_at hl 0 rfl) ?_
    refine jif_ne (tgt := 67) hx hb dX9_draw_52 (by decide) (fun cq24_ => ?_) (fun cq24_ => ?_)
    · skip
      have cq24_ : rq18_.toInt ≠ 0 := cq24_
      refine lv_iload hx hb dX9_draw_67 (lv_at hl 0 rfl) ?_
      refine lv_ineg hx hb dX9_draw_69 ?_
      refine lv_topi (fun zq25_ e_zq25_ => ?_)
      exact ret_i hC hr hlk hK hH (⟨td, ⟨by omega, by omega⟩, gd, iRg _, xq19_, ⟨by omega, by omega⟩, py, iRg _, xq23_, iRg _, rq18_, iRg _, hc_w, rfl, hF⟩) (Nat.le_of_ble_eq_true rfl) (Nat.le_of_ble_eq_true rfl) dX9_draw_70
    · skip
      have cq24_ : rq18_.toInt = 0 := cq24_
      refine lv_aload_n hx hb dX9_draw_55 rfl (lv_at hl 2 rfl) ?_
      refine xg hC hK hH flX9_12 hc_ro rfl dX9_draw_56 ?_
      refine xg hC hK hH flX9_97 hc_w rfl dX9_draw_59 ?_
      refine lv_iconst (v := 1) hx hb dX9_draw_62 (by decide) ?_
      refine lv_isub hx hb dX9_draw_63 ?_
      refine lv_topi (fun zq26_ e_zq26_ => ?_)
      have h_zq26_ : zq26_.toInt = xq19_.toInt - 1 := by rw [e_zq26_, iSub (by have := iRg xq19_; have : (1 : Int32).toInt = 1 := rfl; omega) (by have := iRg xq19_; have : (1 : Int32).toInt = 1 := rfl; omega)]; rfl
      refine lv_goto (tgt := 70) hx hb dX9_draw_64 (by decide) ?_
      exact ret_i hC hr hlk hK hH (⟨td, ⟨by omega, by omega⟩, gd, iRg _, xq19_, ⟨by omega, by omega⟩, py, iRg _, xq23_, iRg _, rq18_, iRg _, hc_w, rfl, hF⟩) (Nat.le_of_ble_eq_true rfl) (Nat.le_of_ble_eq_true rfl) dX9_draw_70
set_option maxHeartbeats 4000000 in
set_option maxRecDepth 100000 in
theorem c_X9_accept {l : Launch} {D : va_G} {kA : Nat → ClassId} {M : mM} {T : mT} {sz : Nat} {ro im rd cu : Nat} {w cs bs tp : Nat} {td gd bc py rf lt tl fp : Int32} {g : Nat → Option Nat}{rc : Nat} {b : Int32} (hc_ro : M ro = some (.inr (7, [.ref w, .ref im, .ref rd, .ref rc, .ref cu]))) (hn_ro : T ro = none) (hc_w : M w = some (.inr (6, [.int td, .int gd, .int bc, .int py, .int rf, .int lt, .int tl, .int fp, .ref cs, .ref bs, .ref tp]))) (hn_w : T w = none) (hc_bs : M bs = some (.inl (kA 5, 4, .inr (.inr (.inr (.inr g)))))) (ht_cs : T cs = some 3) (ht_bs : T bs = some 6) (ht_tp : T tp = some 7) (htd : 0 ≤ td.toInt ∧ td.toInt ≤ 999) (hbc : 0 ≤ bc.toInt ∧ bc.toInt ≤ 4) (htl : 0 ≤ tl.toInt ∧ tl.toInt ≤ 600) (hg : ∀ j, j < 4 → ∃ q, g j = some q ∧ T q = some 2) : mCi l yX9_accept cX9_accept 2 (some .int) 2 0 0 D kA M T sz [.ref ro, .int b] (fun r u => ∃ td2 : Int32, ((0 : Int) ≤ td2.toInt ∧ td2.toInt ≤ 999) ∧ ∃ gd2 : Int32, ((-2147483648 : Int) ≤ gd2.toInt ∧ gd2.toInt ≤ 2147483647) ∧ ∃ bc2 : Int32, ((0 : Int) ≤ bc2.toInt ∧ bc2.toInt ≤ 4) ∧ ∃ py2 : Int32, ((-2147483648 : Int) ≤ py2.toInt ∧ py2.toInt ≤ 2147483647) ∧ ∃ rf2 : Int32, ((-2147483648 : Int) ≤ rf2.toInt ∧ rf2.toInt ≤ 2147483647) ∧ ∃ lt2 : Int32, ((-2147483648 : Int) ≤ lt2.toInt ∧ lt2.toInt ≤ 2147483647) ∧ (u.1 w = some (.inr (6, [.int td2, .int gd2, .int bc2, .int py2, .int rf2, .int lt2, .int tl, .int fp, .ref cs, .ref bs, .ref tp]))) ∧ u.2 = T ∧ (∀ q, FrA T q → q ≠ w → u.1 q = M q)) := by
  unfold mCi
  refine start_W (by decide) (Nat.le_of_ble_eq_true rfl) ?_
  intro p e s m below meth c ls hC hr hlk hnm hK hH hsz hl
  have hx := hC.1
  have hb := hC.2.1
  have hl : lv_has ls 2 [(0, .ref ro), (1, .int b)] := hl
  have hF : ∀ q, FrA T q → q ≠ w → M q = M q := fun q _ _ => rfl
  have n_ro_w : ro ≠ w := neM hc_ro hc_w (by simp)
  have n_ro_bs : ro ≠ bs := neM hc_ro hc_bs (by simp)
  have n_w_ro : w ≠ ro := neM hc_w hc_ro (by simp)
  have n_w_bs : w ≠ bs := neM hc_w hc_bs (by simp)
  have n_bs_ro : bs ≠ ro := neM hc_bs hc_ro (by simp)
  have n_bs_w : bs ≠ w := neM hc_bs hc_w (by simp)
  refine lv_aload_n hx hb dX9_accept_0 rfl (lv_at hl 0 rfl) ?_
  refine xg hC hK hH flX9_12 hc_ro rfl dX9_accept_1 ?_
  refine lv_aload_n hx hb dX9_accept_4 rfl (lv_at hl 0 rfl) ?_
  refine xg hC hK hH flX9_12 hc_ro rfl dX9_accept_5 ?_
  refine lv_iload_n hx hb dX9_accept_8 rfl (lv_at hl 1 rfl) ?_
  refine goI hK hH (runV (As := [.int b]) (rest := [.ref w]) hC hK hH (c_X8_acceptOne hc_w hn_w hc_bs ht_cs ht_bs ht_tp (by omega) (by omega) (by omega) hg) mlX9_100 (rcvM hK hH hc_w rfl) ⟨⟨Nat.le_of_ble_eq_true rfl, Nat.le_of_ble_eq_true rfl⟩, Nat.le_of_ble_eq_true rfl, Nat.le_of_ble_eq_true rfl⟩ rfl hl.1 rfl (Nat.le_of_ble_eq_true rfl) dX9_accept_9) (fun rq3_ Mq1_ Tq2_ Hq_ lcq_ hP hz hH => ?_)
  try dsimp only at hP
  obtain ⟨(-), eT, hfr⟩ := hP
  have eT := eT.symm; subst eT
  have hc_ro : Mq1_ ro = some (.inr (7, [.ref w, .ref im, .ref rd, .ref rc, .ref cu])) := (hfr ro (Or.inl hn_ro) ).trans hc_ro
  have hc_w : Mq1_ w = some (.inr (6, [.int td, .int gd, .int bc, .int py, .int rf, .int lt, .int tl, .int fp, .ref cs, .ref bs, .ref tp])) := (hfr w (Or.inl hn_w) ).trans hc_w
  have hc_bs : Mq1_ bs = some (.inl (kA 5, 4, .inr (.inr (.inr (.inr g))))) := (hfr bs (Or.inr ht_bs) ).trans hc_bs
  have hF : ∀ q, FrA T q → q ≠ w → Mq1_ q = M q := fun q hq h0 => (hfr q hq ).trans (hF q hq h0)
  refine goI hK hH (runV (As := [.int rq3_]) (rest := []) hC hK hH (c_X8_note hc_w hn_w hc_bs ht_cs ht_bs ht_tp (by omega) (by omega) (by omega) hg) mlX9_76 (rcvM hK hH hc_w rfl) ⟨⟨Nat.le_of_ble_eq_true rfl, Nat.le_of_ble_eq_true rfl⟩, Nat.le_of_ble_eq_true rfl, Nat.le_of_ble_eq_true rfl⟩ rfl hl.1 rfl (Nat.le_of_ble_eq_true rfl) dX9_accept_12) (fun rq6_ Mq4_ Tq5_ Hq_ lcq_ hP hz hH => ?_)
  try dsimp only at hP
  obtain ⟨xq7_, ⟨l_xq7_, g_xq7_⟩, (⟨er_rq6_, hx_w⟩), eT, hfr⟩ := hP
  have eT := eT.symm; subst eT
  have er_rq6_ := er_rq6_.symm; subst er_rq6_
  have hc_ro : Mq4_ ro = some (.inr (7, [.ref w, .ref im, .ref rd, .ref rc, .ref cu])) := (hfr ro (Or.inl hn_ro) n_ro_w).trans hc_ro
  have hc_w : Mq4_ w = some (.inr (6, [.int td, .int gd, .int bc, .int py, .int xq7_, .int rq3_, .int tl, .int fp, .ref cs, .ref bs, .ref tp])) := hx_w
  have hc_bs : Mq4_ bs = some (.inl (kA 5, 4, .inr (.inr (.inr (.inr g))))) := (hfr bs (Or.inr (Or.inl ht_bs)) n_bs_w).trans hc_bs
  have hF : ∀ q, FrA T q → q ≠ w → Mq4_ q = M q := fun q hq h0 => (hfr q (FrA.k hq)  h0).trans (hF q hq h0)
  exact ret_i hC hr hlk hK hH (⟨td, ⟨by omega, by omega⟩, gd, iRg _, bc, ⟨by omega, by omega⟩, py, iRg _, xq7_, iRg _, rq3_, iRg _, hc_w, rfl, hF⟩) (Nat.le_of_ble_eq_true rfl) (Nat.le_of_ble_eq_true rfl) dX9_accept_15
set_option maxHeartbeats 4000000 in
set_option maxRecDepth 100000 in
theorem c_X9_pass {l : Launch} {D : va_G} {kA : Nat → ClassId} {M : mM} {T : mT} {sz : Nat} {ro im rd cu : Nat} {w cs bs tp : Nat} {td gd bc py rf lt tl fp : Int32} {g : Nat → Option Nat}{rc : Nat} {b so to va no : Int32} (hc_ro : M ro = some (.inr (7, [.ref w, .ref im, .ref rd, .ref rc, .ref cu]))) (hn_ro : T ro = none) (hc_w : M w = some (.inr (6, [.int td, .int gd, .int bc, .int py, .int rf, .int lt, .int tl, .int fp, .ref cs, .ref bs, .ref tp]))) (hn_w : T w = none) (hc_bs : M bs = some (.inl (kA 5, 4, .inr (.inr (.inr (.inr g)))))) (ht_cs : T cs = some 3) (ht_bs : T bs = some 6) (ht_tp : T tp = some 7) (htd : 0 ≤ td.toInt ∧ td.toInt ≤ 999) (hbc : 0 ≤ bc.toInt ∧ bc.toInt ≤ 4) (htl : 0 ≤ tl.toInt ∧ tl.toInt ≤ 600) (hno : no = 0 ∨ no = 1) (hg : ∀ j, j < 4 → ∃ q, g j = some q ∧ T q = some 2) : mCi l yX9_pass cX9_pass 7 (some .int) 5 0 0 D kA M T sz [.ref ro, .int b, .int so, .int to, .int va, .int no] (fun r u => ∃ td2 : Int32, ((0 : Int) ≤ td2.toInt ∧ td2.toInt ≤ 999) ∧ ∃ gd2 : Int32, ((-2147483648 : Int) ≤ gd2.toInt ∧ gd2.toInt ≤ 2147483647) ∧ ∃ bc2 : Int32, ((0 : Int) ≤ bc2.toInt ∧ bc2.toInt ≤ 4) ∧ ∃ py2 : Int32, ((-2147483648 : Int) ≤ py2.toInt ∧ py2.toInt ≤ 2147483647) ∧ ∃ rf2 : Int32, ((-2147483648 : Int) ≤ rf2.toInt ∧ rf2.toInt ≤ 2147483647) ∧ ∃ lt2 : Int32, ((-2147483648 : Int) ≤ lt2.toInt ∧ lt2.toInt ≤ 2147483647) ∧ (u.1 w = some (.inr (6, [.int td2, .int gd2, .int bc2, .int py2, .int rf2, .int lt2, .int tl, .int fp, .ref cs, .ref bs, .ref tp]))) ∧ u.2 = T ∧ (∀ q, FrA T q → q ≠ w → u.1 q = M q)) := by
  unfold mCi
  refine start_W (by decide) (Nat.le_of_ble_eq_true rfl) ?_
  intro p e s m below meth c ls hC hr hlk hnm hK hH hsz hl
  have hx := hC.1
  have hb := hC.2.1
  have hl : lv_has ls 7 [(0, .ref ro), (1, .int b), (2, .int so), (3, .int to), (4, .int va), (5, .int no)] := hl
  have hF : ∀ q, FrA T q → q ≠ w → M q = M q := fun q _ _ => rfl
  have n_ro_w : ro ≠ w := neM hc_ro hc_w (by simp)
  have n_ro_bs : ro ≠ bs := neM hc_ro hc_bs (by simp)
  have n_w_ro : w ≠ ro := neM hc_w hc_ro (by simp)
  have n_w_bs : w ≠ bs := neM hc_w hc_bs (by simp)
  have n_bs_ro : bs ≠ ro := neM hc_bs hc_ro (by simp)
  have n_bs_w : bs ≠ w := neM hc_bs hc_w (by simp)
  refine lv_iload_n hx hb dX9_pass_0 rfl (lv_at hl 2 rfl) ?_
  refine lv_bipush (v := 10) hx hb dX9_pass_1 (by decide) ?_
  refine jic_lt (tgt := 10) hx hb dX9_pass_3 (by decide) (fun cq1_ => ?_) (fun cq1_ => ?_)
  · skip
    have cq1_ : so.toInt < 10 := cq1_
    refine lv_iconst (v := 0) hx hb dX9_pass_10 (by decide) ?_
    refine lv_istore (lv' := [(6, .int 0), (0, .ref ro), (1, .int b), (2, .int so), (3, .int to), (4, .int va), (5, .int no)]) hx hb dX9_pass_11 hl (by decide) rfl (fun ls hl => ?_)
    refine lv_aload_n hx hb dX9_pass_13 rfl (lv_at hl 1 rfl) ?_
    refine xg hC hK hH flX9_12 hc_ro rfl dX9_pass_14 ?_
    refine lv_aload_n hx hb dX9_pass_17 rfl (lv_at hl 1 rfl) ?_
    refine xg hC hK hH flX9_12 hc_ro rfl dX9_pass_18 ?_
    refine lv_iload_n hx hb dX9_pass_21 rfl (lv_at hl 2 rfl) ?_
    refine lv_iload hx hb dX9_pass_22 (lv_at hl 0 rfl) ?_
    refine jif_eq (tgt := 34) hx hb dX9_pass_24 (by decide) (fun cq2_ => ?_) (fun cq2_ => absurd cq2_ (by decide))
    refine lv_iload_n hx hb dX9_pass_34 rfl (lv_at hl 3 rfl) ?_
    refine lv_iload_n hx hb dX9_pass_35 rfl (lv_at hl 4 rfl) ?_
    refine lv_iload hx hb dX9_pass_36 (lv_at hl 5 rfl) ?_
    refine lv_iload hx hb dX9_pass_38 (lv_at hl 6 rfl) ?_
    refine lv_iload hx hb dX9_pass_40 (lv_at hl 0 rfl) ?_
    refine goI hK hH (runV (As := [.int b, .int so, .int to, .int va, .int no, .int 0]) (rest := [.ref w]) hC hK hH (c_X8_passOn hc_w hn_w hc_bs ht_cs ht_bs ht_tp (by omega) (by omega) (by omega) (by omega) (by decide) hg) mlX9_103 (rcvM hK hH hc_w rfl) ⟨⟨Nat.le_of_ble_eq_true rfl, Nat.le_of_ble_eq_true rfl⟩, Nat.le_of_ble_eq_true rfl, Nat.le_of_ble_eq_true rfl⟩ rfl hl.1 rfl (Nat.le_of_ble_eq_true rfl) dX9_pass_42) (fun rq5_ Mq3_ Tq4_ Hq_ lcq_ hP hz hH => ?_)
    try dsimp only at hP
    obtain ⟨(-), eT, hfr⟩ := hP
    have eT := eT.symm; subst eT
    have hc_ro : Mq3_ ro = some (.inr (7, [.ref w, .ref im, .ref rd, .ref rc, .ref cu])) := (hfr ro (Or.inl hn_ro) ).trans hc_ro
    have hc_w : Mq3_ w = some (.inr (6, [.int td, .int gd, .int bc, .int py, .int rf, .int lt, .int tl, .int fp, .ref cs, .ref bs, .ref tp])) := (hfr w (Or.inl hn_w) ).trans hc_w
    have hc_bs : Mq3_ bs = some (.inl (kA 5, 4, .inr (.inr (.inr (.inr g))))) := (hfr bs (Or.inr ht_bs) ).trans hc_bs
    have hF : ∀ q, FrA T q → q ≠ w → Mq3_ q = M q := fun q hq h0 => (hfr q hq ).trans (hF q hq h0)
    refine goI hK hH (runV (As := [.int rq5_]) (rest := []) hC hK hH (c_X8_note hc_w hn_w hc_bs ht_cs ht_bs ht_tp (by omega) (by omega) (by omega) hg) mlX9_76 (rcvM hK hH hc_w rfl) ⟨⟨Nat.le_of_ble_eq_true rfl, Nat.le_of_ble_eq_true rfl⟩, Nat.le_of_ble_eq_true rfl, Nat.le_of_ble_eq_true rfl⟩ rfl hl.1 rfl (Nat.le_of_ble_eq_true rfl) dX9_pass_45) (fun rq8_ Mq6_ Tq7_ Hq_ lcq_ hP hz hH => ?_)
    try dsimp only at hP
    obtain ⟨xq9_, ⟨l_xq9_, g_xq9_⟩, (⟨er_rq8_, hx_w⟩), eT, hfr⟩ := hP
    have eT := eT.symm; subst eT
    have er_rq8_ := er_rq8_.symm; subst er_rq8_
    have hc_ro : Mq6_ ro = some (.inr (7, [.ref w, .ref im, .ref rd, .ref rc, .ref cu])) := (hfr ro (Or.inl hn_ro) n_ro_w).trans hc_ro
    have hc_w : Mq6_ w = some (.inr (6, [.int td, .int gd, .int bc, .int py, .int xq9_, .int rq5_, .int tl, .int fp, .ref cs, .ref bs, .ref tp])) := hx_w
    have hc_bs : Mq6_ bs = some (.inl (kA 5, 4, .inr (.inr (.inr (.inr g))))) := (hfr bs (Or.inr (Or.inl ht_bs)) n_bs_w).trans hc_bs
    have hF : ∀ q, FrA T q → q ≠ w → Mq6_ q = M q := fun q hq h0 => (hfr q (FrA.k hq)  h0).trans (hF q hq h0)
    exact ret_i hC hr hlk hK hH (⟨td, ⟨by omega, by omega⟩, gd, iRg _, bc, ⟨by omega, by omega⟩, py, iRg _, xq9_, iRg _, rq5_, iRg _, hc_w, rfl, hF⟩) (Nat.le_of_ble_eq_true rfl) (Nat.le_of_ble_eq_true rfl) dX9_pass_48
  · skip
    have cq1_ : 10 ≤ so.toInt := cq1_
    refine lv_iconst (v := 1) hx hb dX9_pass_6 (by decide) ?_
    refine lv_goto (tgt := 11) hx hb dX9_pass_7 (by decide) ?_
    refine lv_istore (lv' := [(6, .int 1), (0, .ref ro), (1, .int b), (2, .int so), (3, .int to), (4, .int va), (5, .int no)]) hx hb dX9_pass_11 hl (by decide) rfl (fun ls hl => ?_)
    refine lv_aload_n hx hb dX9_pass_13 rfl (lv_at hl 1 rfl) ?_
    refine xg hC hK hH flX9_12 hc_ro rfl dX9_pass_14 ?_
    refine lv_aload_n hx hb dX9_pass_17 rfl (lv_at hl 1 rfl) ?_
    refine xg hC hK hH flX9_12 hc_ro rfl dX9_pass_18 ?_
    refine lv_iload_n hx hb dX9_pass_21 rfl (lv_at hl 2 rfl) ?_
    refine lv_iload hx hb dX9_pass_22 (lv_at hl 0 rfl) ?_
    refine jif_eq (tgt := 34) hx hb dX9_pass_24 (by decide) (fun cq10_ => absurd cq10_ (by decide)) (fun cq10_ => ?_)
    refine lv_iload_n hx hb dX9_pass_27 rfl (lv_at hl 3 rfl) ?_
    refine lv_bipush (v := 10) hx hb dX9_pass_28 (by decide) ?_
    refine lv_isub hx hb dX9_pass_30 ?_
    refine lv_topi (fun zq11_ e_zq11_ => ?_)
    have h_zq11_ : zq11_.toInt = so.toInt - 10 := by rw [e_zq11_, iSub (by have := iRg so; have : (10 : Int32).toInt = 10 := rfl; omega) (by have := iRg so; have : (10 : Int32).toInt = 10 := rfl; omega)]; rfl
    refine lv_goto (tgt := 35) hx hb dX9_pass_31 (by decide) ?_
    refine lv_iload_n hx hb dX9_pass_35 rfl (lv_at hl 4 rfl) ?_
    refine lv_iload hx hb dX9_pass_36 (lv_at hl 5 rfl) ?_
    refine lv_iload hx hb dX9_pass_38 (lv_at hl 6 rfl) ?_
    refine lv_iload hx hb dX9_pass_40 (lv_at hl 0 rfl) ?_
    refine goI hK hH (runV (As := [.int b, .int zq11_, .int to, .int va, .int no, .int 1]) (rest := [.ref w]) hC hK hH (c_X8_passOn hc_w hn_w hc_bs ht_cs ht_bs ht_tp (by omega) (by omega) (by omega) (by omega) (by decide) hg) mlX9_103 (rcvM hK hH hc_w rfl) ⟨⟨Nat.le_of_ble_eq_true rfl, Nat.le_of_ble_eq_true rfl⟩, Nat.le_of_ble_eq_true rfl, Nat.le_of_ble_eq_true rfl⟩ rfl hl.1 rfl (Nat.le_of_ble_eq_true rfl) dX9_pass_42) (fun rq14_ Mq12_ Tq13_ Hq_ lcq_ hP hz hH => ?_)
    try dsimp only at hP
    obtain ⟨(-), eT, hfr⟩ := hP
    have eT := eT.symm; subst eT
    have hc_ro : Mq12_ ro = some (.inr (7, [.ref w, .ref im, .ref rd, .ref rc, .ref cu])) := (hfr ro (Or.inl hn_ro) ).trans hc_ro
    have hc_w : Mq12_ w = some (.inr (6, [.int td, .int gd, .int bc, .int py, .int rf, .int lt, .int tl, .int fp, .ref cs, .ref bs, .ref tp])) := (hfr w (Or.inl hn_w) ).trans hc_w
    have hc_bs : Mq12_ bs = some (.inl (kA 5, 4, .inr (.inr (.inr (.inr g))))) := (hfr bs (Or.inr ht_bs) ).trans hc_bs
    have hF : ∀ q, FrA T q → q ≠ w → Mq12_ q = M q := fun q hq h0 => (hfr q hq ).trans (hF q hq h0)
    refine goI hK hH (runV (As := [.int rq14_]) (rest := []) hC hK hH (c_X8_note hc_w hn_w hc_bs ht_cs ht_bs ht_tp (by omega) (by omega) (by omega) hg) mlX9_76 (rcvM hK hH hc_w rfl) ⟨⟨Nat.le_of_ble_eq_true rfl, Nat.le_of_ble_eq_true rfl⟩, Nat.le_of_ble_eq_true rfl, Nat.le_of_ble_eq_true rfl⟩ rfl hl.1 rfl (Nat.le_of_ble_eq_true rfl) dX9_pass_45) (fun rq17_ Mq15_ Tq16_ Hq_ lcq_ hP hz hH => ?_)
    try dsimp only at hP
    obtain ⟨xq18_, ⟨l_xq18_, g_xq18_⟩, (⟨er_rq17_, hx_w⟩), eT, hfr⟩ := hP
    have eT := eT.symm; subst eT
    have er_rq17_ := er_rq17_.symm; subst er_rq17_
    have hc_ro : Mq15_ ro = some (.inr (7, [.ref w, .ref im, .ref rd, .ref rc, .ref cu])) := (hfr ro (Or.inl hn_ro) n_ro_w).trans hc_ro
    have hc_w : Mq15_ w = some (.inr (6, [.int td, .int gd, .int bc, .int py, .int xq18_, .int rq14_, .int tl, .int fp, .ref cs, .ref bs, .ref tp])) := hx_w
    have hc_bs : Mq15_ bs = some (.inl (kA 5, 4, .inr (.inr (.inr (.inr g))))) := (hfr bs (Or.inr (Or.inl ht_bs)) n_bs_w).trans hc_bs
    have hF : ∀ q, FrA T q → q ≠ w → Mq15_ q = M q := fun q hq h0 => (hfr q (FrA.k hq)  h0).trans (hF q hq h0)
    exact ret_i hC hr hlk hK hH (⟨td, ⟨by omega, by omega⟩, gd, iRg _, bc, ⟨by omega, by omega⟩, py, iRg _, xq18_, iRg _, rq14_, iRg _, hc_w, rfl, hF⟩) (Nat.le_of_ble_eq_true rfl) (Nat.le_of_ble_eq_true rfl) dX9_pass_48
set_option maxHeartbeats 4000000 in
set_option maxRecDepth 100000 in
theorem c_X9_forge {l : Launch} {D : va_G} {kA : Nat → ClassId} {M : mM} {T : mT} {sz : Nat} {ro im rd cu : Nat} {w cs bs tp : Nat} {td gd bc py rf lt tl fp : Int32} {g : Nat → Option Nat}{rc : Nat} {b nm to va no : Int32} (hc_ro : M ro = some (.inr (7, [.ref w, .ref im, .ref rd, .ref rc, .ref cu]))) (hn_ro : T ro = none) (hc_w : M w = some (.inr (6, [.int td, .int gd, .int bc, .int py, .int rf, .int lt, .int tl, .int fp, .ref cs, .ref bs, .ref tp]))) (hn_w : T w = none) (hc_bs : M bs = some (.inl (kA 5, 4, .inr (.inr (.inr (.inr g)))))) (ht_cs : T cs = some 3) (ht_bs : T bs = some 6) (ht_tp : T tp = some 7) (htd : 0 ≤ td.toInt ∧ td.toInt ≤ 999) (hbc : 0 ≤ bc.toInt ∧ bc.toInt ≤ 4) (htl : 0 ≤ tl.toInt ∧ tl.toInt ≤ 600) (hno : no = 0 ∨ no = 1) (hg : ∀ j, j < 4 → ∃ q, g j = some q ∧ T q = some 2) : mCi l yX9_forge cX9_forge 6 (some .int) 5 0 0 D kA M T sz [.ref ro, .int b, .int nm, .int to, .int va, .int no] (fun r u => ∃ td2 : Int32, ((0 : Int) ≤ td2.toInt ∧ td2.toInt ≤ 999) ∧ ∃ gd2 : Int32, ((-2147483648 : Int) ≤ gd2.toInt ∧ gd2.toInt ≤ 2147483647) ∧ ∃ bc2 : Int32, ((0 : Int) ≤ bc2.toInt ∧ bc2.toInt ≤ 4) ∧ ∃ py2 : Int32, ((-2147483648 : Int) ≤ py2.toInt ∧ py2.toInt ≤ 2147483647) ∧ ∃ rf2 : Int32, ((-2147483648 : Int) ≤ rf2.toInt ∧ rf2.toInt ≤ 2147483647) ∧ ∃ lt2 : Int32, ((-2147483648 : Int) ≤ lt2.toInt ∧ lt2.toInt ≤ 2147483647) ∧ (u.1 w = some (.inr (6, [.int td2, .int gd2, .int bc2, .int py2, .int rf2, .int lt2, .int tl, .int fp, .ref cs, .ref bs, .ref tp]))) ∧ u.2 = T ∧ (∀ q, FrA T q → q ≠ w → u.1 q = M q)) := by
  unfold mCi
  refine start_W (by decide) (Nat.le_of_ble_eq_true rfl) ?_
  intro p e s m below meth c ls hC hr hlk hnm hK hH hsz hl
  have hx := hC.1
  have hb := hC.2.1
  have hl : lv_has ls 6 [(0, .ref ro), (1, .int b), (2, .int nm), (3, .int to), (4, .int va), (5, .int no)] := hl
  have hF : ∀ q, FrA T q → q ≠ w → M q = M q := fun q _ _ => rfl
  have n_ro_w : ro ≠ w := neM hc_ro hc_w (by simp)
  have n_ro_bs : ro ≠ bs := neM hc_ro hc_bs (by simp)
  have n_w_ro : w ≠ ro := neM hc_w hc_ro (by simp)
  have n_w_bs : w ≠ bs := neM hc_w hc_bs (by simp)
  have n_bs_ro : bs ≠ ro := neM hc_bs hc_ro (by simp)
  have n_bs_w : bs ≠ w := neM hc_bs hc_w (by simp)
  refine lv_aload_n hx hb dX9_forge_0 rfl (lv_at hl 0 rfl) ?_
  refine xg hC hK hH flX9_12 hc_ro rfl dX9_forge_1 ?_
  refine lv_aload_n hx hb dX9_forge_4 rfl (lv_at hl 0 rfl) ?_
  refine xg hC hK hH flX9_12 hc_ro rfl dX9_forge_5 ?_
  refine lv_iload_n hx hb dX9_forge_8 rfl (lv_at hl 1 rfl) ?_
  refine lv_iload_n hx hb dX9_forge_9 rfl (lv_at hl 2 rfl) ?_
  refine lv_iload_n hx hb dX9_forge_10 rfl (lv_at hl 3 rfl) ?_
  refine lv_iload hx hb dX9_forge_11 (lv_at hl 4 rfl) ?_
  refine lv_iload hx hb dX9_forge_13 (lv_at hl 5 rfl) ?_
  refine goI hK hH (runV (As := [.int b, .int nm, .int to, .int va, .int no]) (rest := [.ref w]) hC hK hH (c_X8_passForged hc_w hn_w hc_bs ht_cs ht_bs ht_tp (by omega) (by omega) (by omega) (by omega) hg) mlX9_107 (rcvM hK hH hc_w rfl) ⟨⟨Nat.le_of_ble_eq_true rfl, Nat.le_of_ble_eq_true rfl⟩, Nat.le_of_ble_eq_true rfl, Nat.le_of_ble_eq_true rfl⟩ rfl hl.1 rfl (Nat.le_of_ble_eq_true rfl) dX9_forge_15) (fun rq3_ Mq1_ Tq2_ Hq_ lcq_ hP hz hH => ?_)
  try dsimp only at hP
  obtain ⟨(-), eT, hfr⟩ := hP
  have eT := eT.symm; subst eT
  have hc_ro : Mq1_ ro = some (.inr (7, [.ref w, .ref im, .ref rd, .ref rc, .ref cu])) := (hfr ro (Or.inl hn_ro) ).trans hc_ro
  have hc_w : Mq1_ w = some (.inr (6, [.int td, .int gd, .int bc, .int py, .int rf, .int lt, .int tl, .int fp, .ref cs, .ref bs, .ref tp])) := (hfr w (Or.inl hn_w) ).trans hc_w
  have hc_bs : Mq1_ bs = some (.inl (kA 5, 4, .inr (.inr (.inr (.inr g))))) := (hfr bs (Or.inr ht_bs) ).trans hc_bs
  have hF : ∀ q, FrA T q → q ≠ w → Mq1_ q = M q := fun q hq h0 => (hfr q hq ).trans (hF q hq h0)
  refine goI hK hH (runV (As := [.int rq3_]) (rest := []) hC hK hH (c_X8_note hc_w hn_w hc_bs ht_cs ht_bs ht_tp (by omega) (by omega) (by omega) hg) mlX9_76 (rcvM hK hH hc_w rfl) ⟨⟨Nat.le_of_ble_eq_true rfl, Nat.le_of_ble_eq_true rfl⟩, Nat.le_of_ble_eq_true rfl, Nat.le_of_ble_eq_true rfl⟩ rfl hl.1 rfl (Nat.le_of_ble_eq_true rfl) dX9_forge_18) (fun rq6_ Mq4_ Tq5_ Hq_ lcq_ hP hz hH => ?_)
  try dsimp only at hP
  obtain ⟨xq7_, ⟨l_xq7_, g_xq7_⟩, (⟨er_rq6_, hx_w⟩), eT, hfr⟩ := hP
  have eT := eT.symm; subst eT
  have er_rq6_ := er_rq6_.symm; subst er_rq6_
  have hc_ro : Mq4_ ro = some (.inr (7, [.ref w, .ref im, .ref rd, .ref rc, .ref cu])) := (hfr ro (Or.inl hn_ro) n_ro_w).trans hc_ro
  have hc_w : Mq4_ w = some (.inr (6, [.int td, .int gd, .int bc, .int py, .int xq7_, .int rq3_, .int tl, .int fp, .ref cs, .ref bs, .ref tp])) := hx_w
  have hc_bs : Mq4_ bs = some (.inl (kA 5, 4, .inr (.inr (.inr (.inr g))))) := (hfr bs (Or.inr (Or.inl ht_bs)) n_bs_w).trans hc_bs
  have hF : ∀ q, FrA T q → q ≠ w → Mq4_ q = M q := fun q hq h0 => (hfr q (FrA.k hq)  h0).trans (hF q hq h0)
  exact ret_i hC hr hlk hK hH (⟨td, ⟨by omega, by omega⟩, gd, iRg _, bc, ⟨by omega, by omega⟩, py, iRg _, xq7_, iRg _, rq3_, iRg _, hc_w, rfl, hF⟩) (Nat.le_of_ble_eq_true rfl) (Nat.le_of_ble_eq_true rfl) dX9_forge_21
set_option maxHeartbeats 4000000 in
set_option maxRecDepth 100000 in
theorem c_X9_find {l : Launch} {D : va_G} {kA : Nat → ClassId} {M : mM} {T : mT} {sz : Nat} {ro im rd cu : Nat} {w cs bs tp : Nat} {td gd bc py rf lt tl fp : Int32} {g : Nat → Option Nat}{rc : Nat} {b to : Int32} (hc_ro : M ro = some (.inr (7, [.ref w, .ref im, .ref rd, .ref rc, .ref cu]))) (hn_ro : T ro = none) (hc_w : M w = some (.inr (6, [.int td, .int gd, .int bc, .int py, .int rf, .int lt, .int tl, .int fp, .ref cs, .ref bs, .ref tp]))) (hn_w : T w = none) (hc_bs : M bs = some (.inl (kA 5, 4, .inr (.inr (.inr (.inr g)))))) (ht_cs : T cs = some 3) (ht_bs : T bs = some 6) (ht_tp : T tp = some 7) (htd : 0 ≤ td.toInt ∧ td.toInt ≤ 999) (hbc : 0 ≤ bc.toInt ∧ bc.toInt ≤ 4) (htl : 0 ≤ tl.toInt ∧ tl.toInt ≤ 600) (hg : ∀ j, j < 4 → ∃ q, g j = some q ∧ T q = some 2) : mCi l yX9_find cX9_find 3 (some .int) 5 0 0 D kA M T sz [.ref ro, .int b, .int to] (fun r u => ∃ td2 : Int32, ((0 : Int) ≤ td2.toInt ∧ td2.toInt ≤ 999) ∧ ∃ gd2 : Int32, ((-2147483648 : Int) ≤ gd2.toInt ∧ gd2.toInt ≤ 2147483647) ∧ ∃ bc2 : Int32, ((0 : Int) ≤ bc2.toInt ∧ bc2.toInt ≤ 4) ∧ ∃ py2 : Int32, ((-2147483648 : Int) ≤ py2.toInt ∧ py2.toInt ≤ 2147483647) ∧ ∃ rf2 : Int32, ((-2147483648 : Int) ≤ rf2.toInt ∧ rf2.toInt ≤ 2147483647) ∧ ∃ lt2 : Int32, ((-2147483648 : Int) ≤ lt2.toInt ∧ lt2.toInt ≤ 2147483647) ∧ (u.1 w = some (.inr (6, [.int td2, .int gd2, .int bc2, .int py2, .int rf2, .int lt2, .int tl, .int fp, .ref cs, .ref bs, .ref tp]))) ∧ u.2 = T ∧ (∀ q, FrA T q → q ≠ w → u.1 q = M q)) := by
  unfold mCi
  refine start_W (by decide) (Nat.le_of_ble_eq_true rfl) ?_
  intro p e s m below meth c ls hC hr hlk hnm hK hH hsz hl
  have hx := hC.1
  have hb := hC.2.1
  have hl : lv_has ls 3 [(0, .ref ro), (1, .int b), (2, .int to)] := hl
  have hF : ∀ q, FrA T q → q ≠ w → M q = M q := fun q _ _ => rfl
  have n_ro_w : ro ≠ w := neM hc_ro hc_w (by simp)
  have n_ro_bs : ro ≠ bs := neM hc_ro hc_bs (by simp)
  have n_w_ro : w ≠ ro := neM hc_w hc_ro (by simp)
  have n_w_bs : w ≠ bs := neM hc_w hc_bs (by simp)
  have n_bs_ro : bs ≠ ro := neM hc_bs hc_ro (by simp)
  have n_bs_w : bs ≠ w := neM hc_bs hc_w (by simp)
  refine lv_aload_n hx hb dX9_find_0 rfl (lv_at hl 0 rfl) ?_
  refine xg hC hK hH flX9_12 hc_ro rfl dX9_find_1 ?_
  refine lv_aload_n hx hb dX9_find_4 rfl (lv_at hl 0 rfl) ?_
  refine xg hC hK hH flX9_12 hc_ro rfl dX9_find_5 ?_
  refine lv_iload_n hx hb dX9_find_8 rfl (lv_at hl 1 rfl) ?_
  refine lv_iload_n hx hb dX9_find_9 rfl (lv_at hl 2 rfl) ?_
  refine goI hK hH (runV (As := [.int b, .int to]) (rest := [.ref w]) hC hK hH (c_X8_findOne hc_w hn_w hc_bs ht_cs ht_bs ht_tp (by omega) (by omega) (by omega) hg) mlX9_111 (rcvM hK hH hc_w rfl) ⟨⟨Nat.le_of_ble_eq_true rfl, Nat.le_of_ble_eq_true rfl⟩, Nat.le_of_ble_eq_true rfl, Nat.le_of_ble_eq_true rfl⟩ rfl hl.1 rfl (Nat.le_of_ble_eq_true rfl) dX9_find_10) (fun rq3_ Mq1_ Tq2_ Hq_ lcq_ hP hz hH => ?_)
  try dsimp only at hP
  obtain ⟨(-), eT, hfr⟩ := hP
  have eT := eT.symm; subst eT
  have hc_ro : Mq1_ ro = some (.inr (7, [.ref w, .ref im, .ref rd, .ref rc, .ref cu])) := (hfr ro (Or.inl hn_ro) ).trans hc_ro
  have hc_w : Mq1_ w = some (.inr (6, [.int td, .int gd, .int bc, .int py, .int rf, .int lt, .int tl, .int fp, .ref cs, .ref bs, .ref tp])) := (hfr w (Or.inl hn_w) ).trans hc_w
  have hc_bs : Mq1_ bs = some (.inl (kA 5, 4, .inr (.inr (.inr (.inr g))))) := (hfr bs (Or.inr ht_bs) ).trans hc_bs
  have hF : ∀ q, FrA T q → q ≠ w → Mq1_ q = M q := fun q hq h0 => (hfr q hq ).trans (hF q hq h0)
  refine goI hK hH (runV (As := [.int rq3_]) (rest := []) hC hK hH (c_X8_note hc_w hn_w hc_bs ht_cs ht_bs ht_tp (by omega) (by omega) (by omega) hg) mlX9_76 (rcvM hK hH hc_w rfl) ⟨⟨Nat.le_of_ble_eq_true rfl, Nat.le_of_ble_eq_true rfl⟩, Nat.le_of_ble_eq_true rfl, Nat.le_of_ble_eq_true rfl⟩ rfl hl.1 rfl (Nat.le_of_ble_eq_true rfl) dX9_find_13) (fun rq6_ Mq4_ Tq5_ Hq_ lcq_ hP hz hH => ?_)
  try dsimp only at hP
  obtain ⟨xq7_, ⟨l_xq7_, g_xq7_⟩, (⟨er_rq6_, hx_w⟩), eT, hfr⟩ := hP
  have eT := eT.symm; subst eT
  have er_rq6_ := er_rq6_.symm; subst er_rq6_
  have hc_ro : Mq4_ ro = some (.inr (7, [.ref w, .ref im, .ref rd, .ref rc, .ref cu])) := (hfr ro (Or.inl hn_ro) n_ro_w).trans hc_ro
  have hc_w : Mq4_ w = some (.inr (6, [.int td, .int gd, .int bc, .int py, .int xq7_, .int rq3_, .int tl, .int fp, .ref cs, .ref bs, .ref tp])) := hx_w
  have hc_bs : Mq4_ bs = some (.inl (kA 5, 4, .inr (.inr (.inr (.inr g))))) := (hfr bs (Or.inr (Or.inl ht_bs)) n_bs_w).trans hc_bs
  have hF : ∀ q, FrA T q → q ≠ w → Mq4_ q = M q := fun q hq h0 => (hfr q (FrA.k hq)  h0).trans (hF q hq h0)
  exact ret_i hC hr hlk hK hH (⟨td, ⟨by omega, by omega⟩, gd, iRg _, bc, ⟨by omega, by omega⟩, py, iRg _, xq7_, iRg _, rq3_, iRg _, hc_w, rfl, hF⟩) (Nat.le_of_ble_eq_true rfl) (Nat.le_of_ble_eq_true rfl) dX9_find_16
set_option maxHeartbeats 4000000 in
set_option maxRecDepth 100000 in
theorem c_X9_defend {l : Launch} {D : va_G} {kA : Nat → ClassId} {M : mM} {T : mT} {sz : Nat} {ro im rd cu : Nat} {w cs bs tp : Nat} {td gd bc py rf lt tl fp : Int32} {g : Nat → Option Nat}{rc : Nat} {b pt re : Int32} (hc_ro : M ro = some (.inr (7, [.ref w, .ref im, .ref rd, .ref rc, .ref cu]))) (hn_ro : T ro = none) (hc_w : M w = some (.inr (6, [.int td, .int gd, .int bc, .int py, .int rf, .int lt, .int tl, .int fp, .ref cs, .ref bs, .ref tp]))) (hn_w : T w = none) (hc_bs : M bs = some (.inl (kA 5, 4, .inr (.inr (.inr (.inr g)))))) (ht_cs : T cs = some 3) (ht_bs : T bs = some 6) (ht_tp : T tp = some 7) (htd : 0 ≤ td.toInt ∧ td.toInt ≤ 999) (hbc : 0 ≤ bc.toInt ∧ bc.toInt ≤ 4) (htl : 0 ≤ tl.toInt ∧ tl.toInt ≤ 600) (hg : ∀ j, j < 4 → ∃ q, g j = some q ∧ T q = some 2) : mCi l yX9_defend cX9_defend 4 (some .int) 4 0 0 D kA M T sz [.ref ro, .int b, .int pt, .int re] (fun r u => ∃ td2 : Int32, ((0 : Int) ≤ td2.toInt ∧ td2.toInt ≤ 999) ∧ ∃ gd2 : Int32, ((-2147483648 : Int) ≤ gd2.toInt ∧ gd2.toInt ≤ 2147483647) ∧ ∃ bc2 : Int32, ((0 : Int) ≤ bc2.toInt ∧ bc2.toInt ≤ 4) ∧ ∃ py2 : Int32, ((-2147483648 : Int) ≤ py2.toInt ∧ py2.toInt ≤ 2147483647) ∧ ∃ rf2 : Int32, ((-2147483648 : Int) ≤ rf2.toInt ∧ rf2.toInt ≤ 2147483647) ∧ ∃ lt2 : Int32, ((-2147483648 : Int) ≤ lt2.toInt ∧ lt2.toInt ≤ 2147483647) ∧ (u.1 w = some (.inr (6, [.int td2, .int gd2, .int bc2, .int py2, .int rf2, .int lt2, .int tl, .int fp, .ref cs, .ref bs, .ref tp]))) ∧ u.2 = T ∧ (∀ q, FrK T q → q ≠ w → u.1 q = M q)) := by
  unfold mCi
  refine start_W (by decide) (Nat.le_of_ble_eq_true rfl) ?_
  intro p e s m below meth c ls hC hr hlk hnm hK hH hsz hl
  have hx := hC.1
  have hb := hC.2.1
  have hl : lv_has ls 4 [(0, .ref ro), (1, .int b), (2, .int pt), (3, .int re)] := hl
  have hF : ∀ q, FrK T q → q ≠ w → M q = M q := fun q _ _ => rfl
  have n_ro_w : ro ≠ w := neM hc_ro hc_w (by simp)
  have n_ro_bs : ro ≠ bs := neM hc_ro hc_bs (by simp)
  have n_w_ro : w ≠ ro := neM hc_w hc_ro (by simp)
  have n_w_bs : w ≠ bs := neM hc_w hc_bs (by simp)
  have n_bs_ro : bs ≠ ro := neM hc_bs hc_ro (by simp)
  have n_bs_w : bs ≠ w := neM hc_bs hc_w (by simp)
  refine lv_aload_n hx hb dX9_defend_0 rfl (lv_at hl 0 rfl) ?_
  refine xg hC hK hH flX9_12 hc_ro rfl dX9_defend_1 ?_
  refine lv_aload_n hx hb dX9_defend_4 rfl (lv_at hl 0 rfl) ?_
  refine xg hC hK hH flX9_12 hc_ro rfl dX9_defend_5 ?_
  refine lv_iload_n hx hb dX9_defend_8 rfl (lv_at hl 1 rfl) ?_
  refine lv_iload_n hx hb dX9_defend_9 rfl (lv_at hl 2 rfl) ?_
  refine lv_iload_n hx hb dX9_defend_10 rfl (lv_at hl 3 rfl) ?_
  refine goI hK hH (runV (As := [.int b, .int pt, .int re]) (rest := [.ref w]) hC hK hH (c_X8_giveDefence hc_w hn_w hc_bs ht_cs ht_bs ht_tp (by omega) (by omega) (by omega) hg) mlX9_114 (rcvM hK hH hc_w rfl) ⟨⟨Nat.le_of_ble_eq_true rfl, Nat.le_of_ble_eq_true rfl⟩, Nat.le_of_ble_eq_true rfl, Nat.le_of_ble_eq_true rfl⟩ rfl hl.1 rfl (Nat.le_of_ble_eq_true rfl) dX9_defend_11) (fun rq3_ Mq1_ Tq2_ Hq_ lcq_ hP hz hH => ?_)
  try dsimp only at hP
  obtain ⟨(-), eT, hfr⟩ := hP
  have eT := eT.symm; subst eT
  have hc_ro : Mq1_ ro = some (.inr (7, [.ref w, .ref im, .ref rd, .ref rc, .ref cu])) := (hfr ro (Or.inl hn_ro) ).trans hc_ro
  have hc_w : Mq1_ w = some (.inr (6, [.int td, .int gd, .int bc, .int py, .int rf, .int lt, .int tl, .int fp, .ref cs, .ref bs, .ref tp])) := (hfr w (Or.inl hn_w) ).trans hc_w
  have hc_bs : Mq1_ bs = some (.inl (kA 5, 4, .inr (.inr (.inr (.inr g))))) := (hfr bs (Or.inr (Or.inl ht_bs)) ).trans hc_bs
  have hF : ∀ q, FrK T q → q ≠ w → Mq1_ q = M q := fun q hq h0 => (hfr q hq ).trans (hF q hq h0)
  refine goI hK hH (runV (As := [.int rq3_]) (rest := []) hC hK hH (c_X8_note hc_w hn_w hc_bs ht_cs ht_bs ht_tp (by omega) (by omega) (by omega) hg) mlX9_76 (rcvM hK hH hc_w rfl) ⟨⟨Nat.le_of_ble_eq_true rfl, Nat.le_of_ble_eq_true rfl⟩, Nat.le_of_ble_eq_true rfl, Nat.le_of_ble_eq_true rfl⟩ rfl hl.1 rfl (Nat.le_of_ble_eq_true rfl) dX9_defend_14) (fun rq6_ Mq4_ Tq5_ Hq_ lcq_ hP hz hH => ?_)
  try dsimp only at hP
  obtain ⟨xq7_, ⟨l_xq7_, g_xq7_⟩, (⟨er_rq6_, hx_w⟩), eT, hfr⟩ := hP
  have eT := eT.symm; subst eT
  have er_rq6_ := er_rq6_.symm; subst er_rq6_
  have hc_ro : Mq4_ ro = some (.inr (7, [.ref w, .ref im, .ref rd, .ref rc, .ref cu])) := (hfr ro (Or.inl hn_ro) n_ro_w).trans hc_ro
  have hc_w : Mq4_ w = some (.inr (6, [.int td, .int gd, .int bc, .int py, .int xq7_, .int rq3_, .int tl, .int fp, .ref cs, .ref bs, .ref tp])) := hx_w
  have hc_bs : Mq4_ bs = some (.inl (kA 5, 4, .inr (.inr (.inr (.inr g))))) := (hfr bs (Or.inr (Or.inl ht_bs)) n_bs_w).trans hc_bs
  have hF : ∀ q, FrK T q → q ≠ w → Mq4_ q = M q := fun q hq h0 => (hfr q hq  h0).trans (hF q hq h0)
  exact ret_i hC hr hlk hK hH (⟨td, ⟨by omega, by omega⟩, gd, iRg _, bc, ⟨by omega, by omega⟩, py, iRg _, xq7_, iRg _, rq3_, iRg _, hc_w, rfl, hF⟩) (Nat.le_of_ble_eq_true rfl) (Nat.le_of_ble_eq_true rfl) dX9_defend_17
set_option maxHeartbeats 4000000 in
set_option maxRecDepth 100000 in
theorem c_X9_present {l : Launch} {D : va_G} {kA : Nat → ClassId} {M : mM} {T : mT} {sz : Nat} {ro im rd cu : Nat} {w cs bs tp : Nat} {td gd bc py rf lt tl fp : Int32} {g : Nat → Option Nat}{rc : Nat} {b : Int32} (hc_ro : M ro = some (.inr (7, [.ref w, .ref im, .ref rd, .ref rc, .ref cu]))) (hn_ro : T ro = none) (hc_w : M w = some (.inr (6, [.int td, .int gd, .int bc, .int py, .int rf, .int lt, .int tl, .int fp, .ref cs, .ref bs, .ref tp]))) (hn_w : T w = none) (hc_bs : M bs = some (.inl (kA 5, 4, .inr (.inr (.inr (.inr g)))))) (ht_cs : T cs = some 3) (ht_bs : T bs = some 6) (ht_tp : T tp = some 7) (htd : 0 ≤ td.toInt ∧ td.toInt ≤ 999) (hbc : 0 ≤ bc.toInt ∧ bc.toInt ≤ 4) (htl : 0 ≤ tl.toInt ∧ tl.toInt ≤ 600) (hg : ∀ j, j < 4 → ∃ q, g j = some q ∧ T q = some 2) : mCi l yX9_present cX9_present 3 (some .int) 5 0 0 D kA M T sz [.ref ro, .int b] (fun r u => ∃ td2 : Int32, ((0 : Int) ≤ td2.toInt ∧ td2.toInt ≤ 999) ∧ ∃ gd2 : Int32, ((-2147483648 : Int) ≤ gd2.toInt ∧ gd2.toInt ≤ 2147483647) ∧ ∃ bc2 : Int32, ((0 : Int) ≤ bc2.toInt ∧ bc2.toInt ≤ 4) ∧ ∃ py2 : Int32, ((-2147483648 : Int) ≤ py2.toInt ∧ py2.toInt ≤ 2147483647) ∧ ∃ rf2 : Int32, ((-2147483648 : Int) ≤ rf2.toInt ∧ rf2.toInt ≤ 2147483647) ∧ ∃ lt2 : Int32, ((-2147483648 : Int) ≤ lt2.toInt ∧ lt2.toInt ≤ 2147483647) ∧ (u.1 w = some (.inr (6, [.int td2, .int gd2, .int bc2, .int py2, .int rf2, .int lt2, .int tl, .int fp, .ref cs, .ref bs, .ref tp]))) ∧ u.2 = T ∧ (∀ q, FrA T q → q ≠ w → u.1 q = M q)) := by
  unfold mCi
  refine start_W (by decide) (Nat.le_of_ble_eq_true rfl) ?_
  intro p e s m below meth c ls hC hr hlk hnm hK hH hsz hl
  have hx := hC.1
  have hb := hC.2.1
  have hl : lv_has ls 3 [(0, .ref ro), (1, .int b)] := hl
  have hF : ∀ q, FrA T q → q ≠ w → M q = M q := fun q _ _ => rfl
  have n_ro_w : ro ≠ w := neM hc_ro hc_w (by simp)
  have n_ro_bs : ro ≠ bs := neM hc_ro hc_bs (by simp)
  have n_w_ro : w ≠ ro := neM hc_w hc_ro (by simp)
  have n_w_bs : w ≠ bs := neM hc_w hc_bs (by simp)
  have n_bs_ro : bs ≠ ro := neM hc_bs hc_ro (by simp)
  have n_bs_w : bs ≠ w := neM hc_bs hc_w (by simp)
  refine lv_aload_n hx hb dX9_present_0 rfl (lv_at hl 0 rfl) ?_
  refine xg hC hK hH flX9_12 hc_ro rfl dX9_present_1 ?_
  refine lv_iload_n hx hb dX9_present_4 rfl (lv_at hl 1 rfl) ?_
  refine goI hK hH (runV (As := [.int b]) (rest := []) hC hK hH (c_X8_presentOne hc_w hn_w hc_bs ht_cs ht_bs ht_tp (by omega) (by omega) (by omega) hg) mlX9_118 (rcvM hK hH hc_w rfl) ⟨⟨Nat.le_of_ble_eq_true rfl, Nat.le_of_ble_eq_true rfl⟩, Nat.le_of_ble_eq_true rfl, Nat.le_of_ble_eq_true rfl⟩ rfl hl.1 rfl (Nat.le_of_ble_eq_true rfl) dX9_present_5) (fun rq3_ Mq1_ Tq2_ Hq_ lcq_ hP hz hH => ?_)
  try dsimp only at hP
  obtain ⟨xq4_, ⟨l_xq4_, g_xq4_⟩, (hx_w), eT, hfr⟩ := hP
  have eT := eT.symm; subst eT
  have hc_ro : Mq1_ ro = some (.inr (7, [.ref w, .ref im, .ref rd, .ref rc, .ref cu])) := (hfr ro (Or.inl hn_ro) n_ro_w).trans hc_ro
  have hc_w : Mq1_ w = some (.inr (6, [.int td, .int gd, .int bc, .int xq4_, .int rf, .int lt, .int tl, .int fp, .ref cs, .ref bs, .ref tp])) := hx_w
  have hc_bs : Mq1_ bs = some (.inl (kA 5, 4, .inr (.inr (.inr (.inr g))))) := (hfr bs (Or.inr ht_bs) n_bs_w).trans hc_bs
  have hF : ∀ q, FrA T q → q ≠ w → Mq1_ q = M q := fun q hq h0 => (hfr q hq  h0).trans (hF q hq h0)
  refine lv_istore_n (lv' := [(2, .int rq3_), (0, .ref ro), (1, .int b)]) hx hb dX9_present_8 rfl hl (by decide) rfl (fun ls hl => ?_)
  refine lv_aload_n hx hb dX9_present_9 rfl (lv_at hl 1 rfl) ?_
  refine xg hC hK hH flX9_12 hc_ro rfl dX9_present_10 ?_
  refine lv_iload_n hx hb dX9_present_13 rfl (lv_at hl 0 rfl) ?_
  refine goI hK hH (runS (As := [.int rq3_]) (rest := [.ref w]) hC hK hH (c_X9_refusalOf) mlX9_121 ⟨⟨Nat.le_of_ble_eq_true rfl, Nat.le_of_ble_eq_true rfl⟩, Nat.le_of_ble_eq_true rfl, Nat.le_of_ble_eq_true rfl⟩ rfl hl.1 rfl (Nat.le_of_ble_eq_true rfl) dX9_present_14) (fun rq7_ Mq5_ Tq6_ Hq_ lcq_ hP hz hH => ?_)
  try dsimp only at hP
  obtain ⟨(-), eT, eM⟩ := hP
  have eT := eT.symm; subst eT
  have eM := eM.symm; subst eM
  refine goI hK hH (runV (As := [.int rq7_]) (rest := []) hC hK hH (c_X8_note hc_w hn_w hc_bs ht_cs ht_bs ht_tp (by omega) (by omega) (by omega) hg) mlX9_76 (rcvM hK hH hc_w rfl) ⟨⟨Nat.le_of_ble_eq_true rfl, Nat.le_of_ble_eq_true rfl⟩, Nat.le_of_ble_eq_true rfl, Nat.le_of_ble_eq_true rfl⟩ rfl hl.1 rfl (Nat.le_of_ble_eq_true rfl) dX9_present_17) (fun rq10_ Mq8_ Tq9_ Hq_ lcq_ hP hz hH => ?_)
  try dsimp only at hP
  obtain ⟨xq11_, ⟨l_xq11_, g_xq11_⟩, (⟨er_rq10_, hx_w⟩), eT, hfr⟩ := hP
  have eT := eT.symm; subst eT
  have er_rq10_ := er_rq10_.symm; subst er_rq10_
  have hc_ro : Mq8_ ro = some (.inr (7, [.ref w, .ref im, .ref rd, .ref rc, .ref cu])) := (hfr ro (Or.inl hn_ro) n_ro_w).trans hc_ro
  have hc_w : Mq8_ w = some (.inr (6, [.int td, .int gd, .int bc, .int xq4_, .int xq11_, .int rq7_, .int tl, .int fp, .ref cs, .ref bs, .ref tp])) := hx_w
  have hc_bs : Mq8_ bs = some (.inl (kA 5, 4, .inr (.inr (.inr (.inr g))))) := (hfr bs (Or.inr (Or.inl ht_bs)) n_bs_w).trans hc_bs
  have hF : ∀ q, FrA T q → q ≠ w → Mq8_ q = M q := fun q hq h0 => (hfr q (FrA.k hq)  h0).trans (hF q hq h0)
  refine lv_pop hx hb dX9_present_20 rfl ?_
  refine lv_iload_n hx hb dX9_present_21 rfl (lv_at hl 0 rfl) ?_
  exact ret_i hC hr hlk hK hH (⟨td, ⟨by omega, by omega⟩, gd, iRg _, bc, ⟨by omega, by omega⟩, xq4_, iRg _, xq11_, iRg _, rq7_, iRg _, hc_w, rfl, hF⟩) (Nat.le_of_ble_eq_true rfl) (Nat.le_of_ble_eq_true rfl) dX9_present_22
set_option maxHeartbeats 4000000 in
set_option maxRecDepth 100000 in
theorem c_X9_tell {l : Launch} {D : va_G} {kA : Nat → ClassId} {M : mM} {T : mT} {sz : Nat} {ro im rd cu : Nat} {w cs bs tp : Nat} {td gd bc py rf lt tl fp : Int32} {g : Nat → Option Nat}{rc : Nat} {b fr to : Int32} (hc_ro : M ro = some (.inr (7, [.ref w, .ref im, .ref rd, .ref rc, .ref cu]))) (hn_ro : T ro = none) (hc_w : M w = some (.inr (6, [.int td, .int gd, .int bc, .int py, .int rf, .int lt, .int tl, .int fp, .ref cs, .ref bs, .ref tp]))) (hn_w : T w = none) (hc_bs : M bs = some (.inl (kA 5, 4, .inr (.inr (.inr (.inr g)))))) (ht_cs : T cs = some 3) (ht_bs : T bs = some 6) (ht_tp : T tp = some 7) (htd : 0 ≤ td.toInt ∧ td.toInt ≤ 999) (hbc : 0 ≤ bc.toInt ∧ bc.toInt ≤ 4) (htl : 0 ≤ tl.toInt ∧ tl.toInt ≤ 600) (hg : ∀ j, j < 4 → ∃ q, g j = some q ∧ T q = some 2) : mCi l yX9_tell cX9_tell 4 (some .int) 4 0 0 D kA M T sz [.ref ro, .int b, .int fr, .int to] (fun r u => ∃ td2 : Int32, ((0 : Int) ≤ td2.toInt ∧ td2.toInt ≤ 999) ∧ ∃ gd2 : Int32, ((-2147483648 : Int) ≤ gd2.toInt ∧ gd2.toInt ≤ 2147483647) ∧ ∃ bc2 : Int32, ((0 : Int) ≤ bc2.toInt ∧ bc2.toInt ≤ 4) ∧ ∃ py2 : Int32, ((-2147483648 : Int) ≤ py2.toInt ∧ py2.toInt ≤ 2147483647) ∧ ∃ rf2 : Int32, ((-2147483648 : Int) ≤ rf2.toInt ∧ rf2.toInt ≤ 2147483647) ∧ ∃ lt2 : Int32, ((-2147483648 : Int) ≤ lt2.toInt ∧ lt2.toInt ≤ 2147483647) ∧ (u.1 w = some (.inr (6, [.int td2, .int gd2, .int bc2, .int py2, .int rf2, .int lt2, .int tl, .int fp, .ref cs, .ref bs, .ref tp]))) ∧ u.2 = T ∧ (∀ q, FrK T q → q ≠ w → u.1 q = M q)) := by
  unfold mCi
  refine start_W (by decide) (Nat.le_of_ble_eq_true rfl) ?_
  intro p e s m below meth c ls hC hr hlk hnm hK hH hsz hl
  have hx := hC.1
  have hb := hC.2.1
  have hl : lv_has ls 4 [(0, .ref ro), (1, .int b), (2, .int fr), (3, .int to)] := hl
  have hF : ∀ q, FrK T q → q ≠ w → M q = M q := fun q _ _ => rfl
  have n_ro_w : ro ≠ w := neM hc_ro hc_w (by simp)
  have n_ro_bs : ro ≠ bs := neM hc_ro hc_bs (by simp)
  have n_w_ro : w ≠ ro := neM hc_w hc_ro (by simp)
  have n_w_bs : w ≠ bs := neM hc_w hc_bs (by simp)
  have n_bs_ro : bs ≠ ro := neM hc_bs hc_ro (by simp)
  have n_bs_w : bs ≠ w := neM hc_bs hc_w (by simp)
  refine lv_aload_n hx hb dX9_tell_0 rfl (lv_at hl 0 rfl) ?_
  refine xg hC hK hH flX9_12 hc_ro rfl dX9_tell_1 ?_
  refine lv_aload_n hx hb dX9_tell_4 rfl (lv_at hl 0 rfl) ?_
  refine xg hC hK hH flX9_12 hc_ro rfl dX9_tell_5 ?_
  refine lv_iload_n hx hb dX9_tell_8 rfl (lv_at hl 1 rfl) ?_
  refine lv_iload_n hx hb dX9_tell_9 rfl (lv_at hl 2 rfl) ?_
  refine lv_iload_n hx hb dX9_tell_10 rfl (lv_at hl 3 rfl) ?_
  refine goI hK hH (runV (As := [.int b, .int fr, .int to]) (rest := [.ref w]) hC hK hH (c_X8_giveNotice hc_w hn_w hc_bs ht_cs ht_bs ht_tp (by omega) (by omega) (by omega) hg) mlX9_124 (rcvM hK hH hc_w rfl) ⟨⟨Nat.le_of_ble_eq_true rfl, Nat.le_of_ble_eq_true rfl⟩, Nat.le_of_ble_eq_true rfl, Nat.le_of_ble_eq_true rfl⟩ rfl hl.1 rfl (Nat.le_of_ble_eq_true rfl) dX9_tell_11) (fun rq3_ Mq1_ Tq2_ Hq_ lcq_ hP hz hH => ?_)
  try dsimp only at hP
  obtain ⟨(-), eT, hfr⟩ := hP
  have eT := eT.symm; subst eT
  have hc_ro : Mq1_ ro = some (.inr (7, [.ref w, .ref im, .ref rd, .ref rc, .ref cu])) := (hfr ro (Or.inl hn_ro) ).trans hc_ro
  have hc_w : Mq1_ w = some (.inr (6, [.int td, .int gd, .int bc, .int py, .int rf, .int lt, .int tl, .int fp, .ref cs, .ref bs, .ref tp])) := (hfr w (Or.inl hn_w) ).trans hc_w
  have hc_bs : Mq1_ bs = some (.inl (kA 5, 4, .inr (.inr (.inr (.inr g))))) := (hfr bs (Or.inr (Or.inl ht_bs)) ).trans hc_bs
  have hF : ∀ q, FrK T q → q ≠ w → Mq1_ q = M q := fun q hq h0 => (hfr q hq ).trans (hF q hq h0)
  refine goI hK hH (runV (As := [.int rq3_]) (rest := []) hC hK hH (c_X8_note hc_w hn_w hc_bs ht_cs ht_bs ht_tp (by omega) (by omega) (by omega) hg) mlX9_76 (rcvM hK hH hc_w rfl) ⟨⟨Nat.le_of_ble_eq_true rfl, Nat.le_of_ble_eq_true rfl⟩, Nat.le_of_ble_eq_true rfl, Nat.le_of_ble_eq_true rfl⟩ rfl hl.1 rfl (Nat.le_of_ble_eq_true rfl) dX9_tell_14) (fun rq6_ Mq4_ Tq5_ Hq_ lcq_ hP hz hH => ?_)
  try dsimp only at hP
  obtain ⟨xq7_, ⟨l_xq7_, g_xq7_⟩, (⟨er_rq6_, hx_w⟩), eT, hfr⟩ := hP
  have eT := eT.symm; subst eT
  have er_rq6_ := er_rq6_.symm; subst er_rq6_
  have hc_ro : Mq4_ ro = some (.inr (7, [.ref w, .ref im, .ref rd, .ref rc, .ref cu])) := (hfr ro (Or.inl hn_ro) n_ro_w).trans hc_ro
  have hc_w : Mq4_ w = some (.inr (6, [.int td, .int gd, .int bc, .int py, .int xq7_, .int rq3_, .int tl, .int fp, .ref cs, .ref bs, .ref tp])) := hx_w
  have hc_bs : Mq4_ bs = some (.inl (kA 5, 4, .inr (.inr (.inr (.inr g))))) := (hfr bs (Or.inr (Or.inl ht_bs)) n_bs_w).trans hc_bs
  have hF : ∀ q, FrK T q → q ≠ w → Mq4_ q = M q := fun q hq h0 => (hfr q hq  h0).trans (hF q hq h0)
  exact ret_i hC hr hlk hK hH (⟨td, ⟨by omega, by omega⟩, gd, iRg _, bc, ⟨by omega, by omega⟩, py, iRg _, xq7_, iRg _, rq3_, iRg _, hc_w, rfl, hF⟩) (Nat.le_of_ble_eq_true rfl) (Nat.le_of_ble_eq_true rfl) dX9_tell_17
set_option maxHeartbeats 4000000 in
set_option maxRecDepth 100000 in
theorem c_X9_release {l : Launch} {D : va_G} {kA : Nat → ClassId} {M : mM} {T : mT} {sz : Nat} {ro im rd cu : Nat} {w cs bs tp : Nat} {td gd bc py rf lt tl fp : Int32} {g : Nat → Option Nat}{rc : Nat} {b pt : Int32} (hc_ro : M ro = some (.inr (7, [.ref w, .ref im, .ref rd, .ref rc, .ref cu]))) (hn_ro : T ro = none) (hc_w : M w = some (.inr (6, [.int td, .int gd, .int bc, .int py, .int rf, .int lt, .int tl, .int fp, .ref cs, .ref bs, .ref tp]))) (hn_w : T w = none) (hc_bs : M bs = some (.inl (kA 5, 4, .inr (.inr (.inr (.inr g)))))) (ht_cs : T cs = some 3) (ht_bs : T bs = some 6) (ht_tp : T tp = some 7) (htd : 0 ≤ td.toInt ∧ td.toInt ≤ 999) (hbc : 0 ≤ bc.toInt ∧ bc.toInt ≤ 4) (htl : 0 ≤ tl.toInt ∧ tl.toInt ≤ 600) (hg : ∀ j, j < 4 → ∃ q, g j = some q ∧ T q = some 2) : mCi l yX9_release cX9_release 3 (some .int) 4 0 0 D kA M T sz [.ref ro, .int b, .int pt] (fun r u => ∃ td2 : Int32, ((0 : Int) ≤ td2.toInt ∧ td2.toInt ≤ 999) ∧ ∃ gd2 : Int32, ((-2147483648 : Int) ≤ gd2.toInt ∧ gd2.toInt ≤ 2147483647) ∧ ∃ bc2 : Int32, ((0 : Int) ≤ bc2.toInt ∧ bc2.toInt ≤ 4) ∧ ∃ py2 : Int32, ((-2147483648 : Int) ≤ py2.toInt ∧ py2.toInt ≤ 2147483647) ∧ ∃ rf2 : Int32, ((-2147483648 : Int) ≤ rf2.toInt ∧ rf2.toInt ≤ 2147483647) ∧ ∃ lt2 : Int32, ((-2147483648 : Int) ≤ lt2.toInt ∧ lt2.toInt ≤ 2147483647) ∧ (u.1 w = some (.inr (6, [.int td2, .int gd2, .int bc2, .int py2, .int rf2, .int lt2, .int tl, .int fp, .ref cs, .ref bs, .ref tp]))) ∧ u.2 = T ∧ (∀ q, FrK T q → q ≠ w → u.1 q = M q)) := by
  unfold mCi
  refine start_W (by decide) (Nat.le_of_ble_eq_true rfl) ?_
  intro p e s m below meth c ls hC hr hlk hnm hK hH hsz hl
  have hx := hC.1
  have hb := hC.2.1
  have hl : lv_has ls 3 [(0, .ref ro), (1, .int b), (2, .int pt)] := hl
  have hF : ∀ q, FrK T q → q ≠ w → M q = M q := fun q _ _ => rfl
  have n_ro_w : ro ≠ w := neM hc_ro hc_w (by simp)
  have n_ro_bs : ro ≠ bs := neM hc_ro hc_bs (by simp)
  have n_w_ro : w ≠ ro := neM hc_w hc_ro (by simp)
  have n_w_bs : w ≠ bs := neM hc_w hc_bs (by simp)
  have n_bs_ro : bs ≠ ro := neM hc_bs hc_ro (by simp)
  have n_bs_w : bs ≠ w := neM hc_bs hc_w (by simp)
  refine lv_aload_n hx hb dX9_release_0 rfl (lv_at hl 0 rfl) ?_
  refine xg hC hK hH flX9_12 hc_ro rfl dX9_release_1 ?_
  refine lv_aload_n hx hb dX9_release_4 rfl (lv_at hl 0 rfl) ?_
  refine xg hC hK hH flX9_12 hc_ro rfl dX9_release_5 ?_
  refine lv_iload_n hx hb dX9_release_8 rfl (lv_at hl 1 rfl) ?_
  refine lv_iload_n hx hb dX9_release_9 rfl (lv_at hl 2 rfl) ?_
  refine goI hK hH (runV (As := [.int b, .int pt]) (rest := [.ref w]) hC hK hH (c_X8_releaseOne hc_w hn_w hc_bs ht_cs ht_bs ht_tp (by omega) (by omega) (by omega) hg) mlX9_128 (rcvM hK hH hc_w rfl) ⟨⟨Nat.le_of_ble_eq_true rfl, Nat.le_of_ble_eq_true rfl⟩, Nat.le_of_ble_eq_true rfl, Nat.le_of_ble_eq_true rfl⟩ rfl hl.1 rfl (Nat.le_of_ble_eq_true rfl) dX9_release_10) (fun rq3_ Mq1_ Tq2_ Hq_ lcq_ hP hz hH => ?_)
  try dsimp only at hP
  obtain ⟨(-), eT, hfr⟩ := hP
  have eT := eT.symm; subst eT
  have hc_ro : Mq1_ ro = some (.inr (7, [.ref w, .ref im, .ref rd, .ref rc, .ref cu])) := (hfr ro (Or.inl hn_ro) ).trans hc_ro
  have hc_w : Mq1_ w = some (.inr (6, [.int td, .int gd, .int bc, .int py, .int rf, .int lt, .int tl, .int fp, .ref cs, .ref bs, .ref tp])) := (hfr w (Or.inl hn_w) ).trans hc_w
  have hc_bs : Mq1_ bs = some (.inl (kA 5, 4, .inr (.inr (.inr (.inr g))))) := (hfr bs (Or.inr (Or.inl ht_bs)) ).trans hc_bs
  have hF : ∀ q, FrK T q → q ≠ w → Mq1_ q = M q := fun q hq h0 => (hfr q hq ).trans (hF q hq h0)
  refine goI hK hH (runV (As := [.int rq3_]) (rest := []) hC hK hH (c_X8_note hc_w hn_w hc_bs ht_cs ht_bs ht_tp (by omega) (by omega) (by omega) hg) mlX9_76 (rcvM hK hH hc_w rfl) ⟨⟨Nat.le_of_ble_eq_true rfl, Nat.le_of_ble_eq_true rfl⟩, Nat.le_of_ble_eq_true rfl, Nat.le_of_ble_eq_true rfl⟩ rfl hl.1 rfl (Nat.le_of_ble_eq_true rfl) dX9_release_13) (fun rq6_ Mq4_ Tq5_ Hq_ lcq_ hP hz hH => ?_)
  try dsimp only at hP
  obtain ⟨xq7_, ⟨l_xq7_, g_xq7_⟩, (⟨er_rq6_, hx_w⟩), eT, hfr⟩ := hP
  have eT := eT.symm; subst eT
  have er_rq6_ := er_rq6_.symm; subst er_rq6_
  have hc_ro : Mq4_ ro = some (.inr (7, [.ref w, .ref im, .ref rd, .ref rc, .ref cu])) := (hfr ro (Or.inl hn_ro) n_ro_w).trans hc_ro
  have hc_w : Mq4_ w = some (.inr (6, [.int td, .int gd, .int bc, .int py, .int xq7_, .int rq3_, .int tl, .int fp, .ref cs, .ref bs, .ref tp])) := hx_w
  have hc_bs : Mq4_ bs = some (.inl (kA 5, 4, .inr (.inr (.inr (.inr g))))) := (hfr bs (Or.inr (Or.inl ht_bs)) n_bs_w).trans hc_bs
  have hF : ∀ q, FrK T q → q ≠ w → Mq4_ q = M q := fun q hq h0 => (hfr q hq  h0).trans (hF q hq h0)
  exact ret_i hC hr hlk hK hH (⟨td, ⟨by omega, by omega⟩, gd, iRg _, bc, ⟨by omega, by omega⟩, py, iRg _, xq7_, iRg _, rq3_, iRg _, hc_w, rfl, hF⟩) (Nat.le_of_ble_eq_true rfl) (Nat.le_of_ble_eq_true rfl) dX9_release_16
set_option maxHeartbeats 4000000 in
set_option maxRecDepth 100000 in
theorem c_X9_pay {l : Launch} {D : va_G} {kA : Nat → ClassId} {M : mM} {T : mT} {sz : Nat} {ro im rd cu : Nat} {w cs bs tp : Nat} {td gd bc py rf lt tl fp : Int32} {g : Nat → Option Nat}{rc : Nat} {b pt : Int32} (hc_ro : M ro = some (.inr (7, [.ref w, .ref im, .ref rd, .ref rc, .ref cu]))) (hn_ro : T ro = none) (hc_w : M w = some (.inr (6, [.int td, .int gd, .int bc, .int py, .int rf, .int lt, .int tl, .int fp, .ref cs, .ref bs, .ref tp]))) (hn_w : T w = none) (hc_bs : M bs = some (.inl (kA 5, 4, .inr (.inr (.inr (.inr g)))))) (ht_cs : T cs = some 3) (ht_bs : T bs = some 6) (ht_tp : T tp = some 7) (htd : 0 ≤ td.toInt ∧ td.toInt ≤ 999) (hbc : 0 ≤ bc.toInt ∧ bc.toInt ≤ 4) (htl : 0 ≤ tl.toInt ∧ tl.toInt ≤ 600) (hg : ∀ j, j < 4 → ∃ q, g j = some q ∧ T q = some 2) : mCi l yX9_pay cX9_pay 3 (some .int) 5 0 0 D kA M T sz [.ref ro, .int b, .int pt] (fun r u => ∃ td2 : Int32, ((0 : Int) ≤ td2.toInt ∧ td2.toInt ≤ 999) ∧ ∃ gd2 : Int32, ((-2147483648 : Int) ≤ gd2.toInt ∧ gd2.toInt ≤ 2147483647) ∧ ∃ bc2 : Int32, ((0 : Int) ≤ bc2.toInt ∧ bc2.toInt ≤ 4) ∧ ∃ py2 : Int32, ((-2147483648 : Int) ≤ py2.toInt ∧ py2.toInt ≤ 2147483647) ∧ ∃ rf2 : Int32, ((-2147483648 : Int) ≤ rf2.toInt ∧ rf2.toInt ≤ 2147483647) ∧ ∃ lt2 : Int32, ((-2147483648 : Int) ≤ lt2.toInt ∧ lt2.toInt ≤ 2147483647) ∧ (u.1 w = some (.inr (6, [.int td2, .int gd2, .int bc2, .int py2, .int rf2, .int lt2, .int tl, .int fp, .ref cs, .ref bs, .ref tp]))) ∧ u.2 = T ∧ (∀ q, FrA T q → q ≠ w → u.1 q = M q)) := by
  unfold mCi
  refine start_W (by decide) (Nat.le_of_ble_eq_true rfl) ?_
  intro p e s m below meth c ls hC hr hlk hnm hK hH hsz hl
  have hx := hC.1
  have hb := hC.2.1
  have hl : lv_has ls 3 [(0, .ref ro), (1, .int b), (2, .int pt)] := hl
  have hF : ∀ q, FrA T q → q ≠ w → M q = M q := fun q _ _ => rfl
  have n_ro_w : ro ≠ w := neM hc_ro hc_w (by simp)
  have n_ro_bs : ro ≠ bs := neM hc_ro hc_bs (by simp)
  have n_w_ro : w ≠ ro := neM hc_w hc_ro (by simp)
  have n_w_bs : w ≠ bs := neM hc_w hc_bs (by simp)
  have n_bs_ro : bs ≠ ro := neM hc_bs hc_ro (by simp)
  have n_bs_w : bs ≠ w := neM hc_bs hc_w (by simp)
  refine lv_aload_n hx hb dX9_pay_0 rfl (lv_at hl 0 rfl) ?_
  refine xg hC hK hH flX9_12 hc_ro rfl dX9_pay_1 ?_
  refine lv_aload_n hx hb dX9_pay_4 rfl (lv_at hl 0 rfl) ?_
  refine xg hC hK hH flX9_12 hc_ro rfl dX9_pay_5 ?_
  refine lv_iload_n hx hb dX9_pay_8 rfl (lv_at hl 1 rfl) ?_
  refine lv_iload_n hx hb dX9_pay_9 rfl (lv_at hl 2 rfl) ?_
  refine goI hK hH (runV (As := [.int b, .int pt]) (rest := [.ref w]) hC hK hH (c_X8_payOne hc_w hn_w hc_bs ht_cs ht_bs ht_tp (by omega) (by omega) (by omega) hg) mlX9_131 (rcvM hK hH hc_w rfl) ⟨⟨Nat.le_of_ble_eq_true rfl, Nat.le_of_ble_eq_true rfl⟩, Nat.le_of_ble_eq_true rfl, Nat.le_of_ble_eq_true rfl⟩ rfl hl.1 rfl (Nat.le_of_ble_eq_true rfl) dX9_pay_10) (fun rq3_ Mq1_ Tq2_ Hq_ lcq_ hP hz hH => ?_)
  try dsimp only at hP
  obtain ⟨xq4_, ⟨l_xq4_, g_xq4_⟩, (hx_w), eT, hfr⟩ := hP
  have eT := eT.symm; subst eT
  have hc_ro : Mq1_ ro = some (.inr (7, [.ref w, .ref im, .ref rd, .ref rc, .ref cu])) := (hfr ro (Or.inl hn_ro) n_ro_w).trans hc_ro
  have hc_w : Mq1_ w = some (.inr (6, [.int td, .int gd, .int bc, .int xq4_, .int rf, .int lt, .int tl, .int fp, .ref cs, .ref bs, .ref tp])) := hx_w
  have hc_bs : Mq1_ bs = some (.inl (kA 5, 4, .inr (.inr (.inr (.inr g))))) := (hfr bs (Or.inr ht_bs) n_bs_w).trans hc_bs
  have hF : ∀ q, FrA T q → q ≠ w → Mq1_ q = M q := fun q hq h0 => (hfr q hq  h0).trans (hF q hq h0)
  refine goI hK hH (runV (As := [.int rq3_]) (rest := []) hC hK hH (c_X8_note hc_w hn_w hc_bs ht_cs ht_bs ht_tp (by omega) (by omega) (by omega) hg) mlX9_76 (rcvM hK hH hc_w rfl) ⟨⟨Nat.le_of_ble_eq_true rfl, Nat.le_of_ble_eq_true rfl⟩, Nat.le_of_ble_eq_true rfl, Nat.le_of_ble_eq_true rfl⟩ rfl hl.1 rfl (Nat.le_of_ble_eq_true rfl) dX9_pay_13) (fun rq7_ Mq5_ Tq6_ Hq_ lcq_ hP hz hH => ?_)
  try dsimp only at hP
  obtain ⟨xq8_, ⟨l_xq8_, g_xq8_⟩, (⟨er_rq7_, hx_w⟩), eT, hfr⟩ := hP
  have eT := eT.symm; subst eT
  have er_rq7_ := er_rq7_.symm; subst er_rq7_
  have hc_ro : Mq5_ ro = some (.inr (7, [.ref w, .ref im, .ref rd, .ref rc, .ref cu])) := (hfr ro (Or.inl hn_ro) n_ro_w).trans hc_ro
  have hc_w : Mq5_ w = some (.inr (6, [.int td, .int gd, .int bc, .int xq4_, .int xq8_, .int rq3_, .int tl, .int fp, .ref cs, .ref bs, .ref tp])) := hx_w
  have hc_bs : Mq5_ bs = some (.inl (kA 5, 4, .inr (.inr (.inr (.inr g))))) := (hfr bs (Or.inr (Or.inl ht_bs)) n_bs_w).trans hc_bs
  have hF : ∀ q, FrA T q → q ≠ w → Mq5_ q = M q := fun q hq h0 => (hfr q (FrA.k hq)  h0).trans (hF q hq h0)
  exact ret_i hC hr hlk hK hH (⟨td, ⟨by omega, by omega⟩, gd, iRg _, bc, ⟨by omega, by omega⟩, xq4_, iRg _, xq8_, iRg _, rq3_, iRg _, hc_w, rfl, hF⟩) (Nat.le_of_ble_eq_true rfl) (Nat.le_of_ble_eq_true rfl) dX9_pay_16
set_option maxHeartbeats 4000000 in
set_option maxRecDepth 100000 in
theorem c_X9_count {l : Launch} {D : va_G} {kA : Nat → ClassId} {M : mM} {T : mT} {sz : Nat} {ro im rd cu : Nat} {w cs bs tp : Nat} {td gd bc py rf lt tl fp : Int32} {g : Nat → Option Nat}{rc : Nat} {wh : Int32} (hc_ro : M ro = some (.inr (7, [.ref w, .ref im, .ref rd, .ref rc, .ref cu]))) (hn_ro : T ro = none) (hc_w : M w = some (.inr (6, [.int td, .int gd, .int bc, .int py, .int rf, .int lt, .int tl, .int fp, .ref cs, .ref bs, .ref tp]))) (hn_w : T w = none) (hc_bs : M bs = some (.inl (kA 5, 4, .inr (.inr (.inr (.inr g)))))) (ht_cs : T cs = some 3) (ht_bs : T bs = some 6) (ht_tp : T tp = some 7) (htd : 0 ≤ td.toInt ∧ td.toInt ≤ 999) (hbc : 0 ≤ bc.toInt ∧ bc.toInt ≤ 4) (htl : 0 ≤ tl.toInt ∧ tl.toInt ≤ 600) (hg : ∀ j, j < 4 → ∃ q, g j = some q ∧ T q = some 2) : mCi l yX9_count cX9_count 2 (some .int) 2 0 0 D kA M T sz [.ref ro, .int wh] (fun r u => (True) ∧ u.2 = T ∧ u.1 = M) := by
  unfold mCi
  refine start_W (by decide) (Nat.le_of_ble_eq_true rfl) ?_
  intro p e s m below meth c ls hC hr hlk hnm hK hH hsz hl
  have hx := hC.1
  have hb := hC.2.1
  have hl : lv_has ls 2 [(0, .ref ro), (1, .int wh)] := hl
  have n_ro_w : ro ≠ w := neM hc_ro hc_w (by simp)
  have n_ro_bs : ro ≠ bs := neM hc_ro hc_bs (by simp)
  have n_w_ro : w ≠ ro := neM hc_w hc_ro (by simp)
  have n_w_bs : w ≠ bs := neM hc_w hc_bs (by simp)
  have n_bs_ro : bs ≠ ro := neM hc_bs hc_ro (by simp)
  have n_bs_w : bs ≠ w := neM hc_bs hc_w (by simp)
  refine lv_iload_n hx hb dX9_count_0 rfl (lv_at hl 1 rfl) ?_
  rcases (show wh.toInt < 0 ∨ 8 < wh.toInt ∨ wh.toInt = 0 ∨ wh.toInt = 1 ∨ wh.toInt = 2 ∨ wh.toInt = 3 ∨ wh.toInt = 4 ∨ wh.toInt = 5 ∨ wh.toInt = 6 ∨ wh.toInt = 7 ∨ wh.toInt = 8 by omega) with cq1_ | cq1_ | cq1_ | cq1_ | cq1_ | cq1_ | cq1_ | cq1_ | cq1_ | cq1_ | cq1_
  · skip
    refine lv_tableOut (tgt := 124) hx hb dX9_count_1 (Or.inl cq1_) (by decide) ?_
    refine lv_iload_n hx hb dX9_count_124 rfl (lv_at hl 1 rfl) ?_
    refine lv_bipush (v := 10) hx hb dX9_count_125 (by decide) ?_
    refine lv_isub hx hb dX9_count_127 ?_
    refine lv_topi (fun zq2_ e_zq2_ => ?_)
    refine goI hK hH (runS (As := [.int zq2_]) (rest := []) hC hK hH (c_X9_isPerson) mlX9_155 ⟨⟨Nat.le_of_ble_eq_true rfl, Nat.le_of_ble_eq_true rfl⟩, Nat.le_of_ble_eq_true rfl, Nat.le_of_ble_eq_true rfl⟩ rfl hl.1 rfl (Nat.le_of_ble_eq_true rfl) dX9_count_128) (fun rq5_ Mq3_ Tq4_ Hq_ lcq_ hP hz hH => ?_)
    try dsimp only at hP
    obtain ⟨(⟨cq6_, er_rq5_⟩ | ⟨cq7_, er_rq5_⟩), eT, eM⟩ := hP
    · skip
      have eT := eT.symm; subst eT
      have er_rq5_ := er_rq5_.symm; subst er_rq5_
      have eM := eM.symm; subst eM
      have cq6_ : 0 ≤ zq2_.toInt ∧ zq2_.toInt ≤ 7 := cq6_
      refine jif_eq (tgt := 149) hx hb dX9_count_131 (by decide) (fun cq8_ => absurd cq8_ (by decide)) (fun cq8_ => ?_)
      refine lv_aload_n hx hb dX9_count_134 rfl (lv_at hl 0 rfl) ?_
      refine xg hC hK hH flX9_12 hc_ro rfl dX9_count_135 ?_
      refine xg hC hK hH flX9_159 hc_w rfl dX9_count_138 ?_
      refine lv_iload_n hx hb dX9_count_141 rfl (lv_at hl 1 rfl) ?_
      refine lv_bipush (v := 10) hx hb dX9_count_142 (by decide) ?_
      refine lv_isub hx hb dX9_count_144 ?_
      refine lv_cst (v := zq2_) e_zq2_.symm ?_
      refine tild hC hK hH ht_cs rfl (iIn (by omega) (by omega)) dX9_count_145 (fun xq9_ l_xq9_ g_xq9_ => ?_)
      refine lv_goto (tgt := 150) hx hb dX9_count_146 (by decide) ?_
      subst e_zq2_
      exact ret_i hC hr hlk hK hH (⟨trivial, rfl, rfl⟩) (Nat.le_of_ble_eq_true rfl) (Nat.le_of_ble_eq_true rfl) dX9_count_150
    · skip
      have eT := eT.symm; subst eT
      have er_rq5_ := er_rq5_.symm; subst er_rq5_
      have eM := eM.symm; subst eM
      have cq7_ : ¬ (0 ≤ zq2_.toInt ∧ zq2_.toInt ≤ 7) := cq7_
      refine jif_eq (tgt := 149) hx hb dX9_count_131 (by decide) (fun cq10_ => ?_) (fun cq10_ => absurd cq10_ (by decide))
      refine lv_iconst (v := -1) hx hb dX9_count_149 (by decide) ?_
      subst e_zq2_
      exact ret_i hC hr hlk hK hH (⟨trivial, rfl, rfl⟩) (Nat.le_of_ble_eq_true rfl) (Nat.le_of_ble_eq_true rfl) dX9_count_150
  · skip
    refine lv_tableOut (tgt := 124) hx hb dX9_count_1 (Or.inr cq1_) (by decide) ?_
    refine lv_iload_n hx hb dX9_count_124 rfl (lv_at hl 1 rfl) ?_
    refine lv_bipush (v := 10) hx hb dX9_count_125 (by decide) ?_
    refine lv_isub hx hb dX9_count_127 ?_
    refine lv_topi (fun zq11_ e_zq11_ => ?_)
    have h_zq11_ : zq11_.toInt = wh.toInt - 10 := by rw [e_zq11_, iSub (by have := iRg wh; have : (10 : Int32).toInt = 10 := rfl; omega) (by have := iRg wh; have : (10 : Int32).toInt = 10 := rfl; omega)]; rfl
    refine goI hK hH (runS (As := [.int zq11_]) (rest := []) hC hK hH (c_X9_isPerson) mlX9_155 ⟨⟨Nat.le_of_ble_eq_true rfl, Nat.le_of_ble_eq_true rfl⟩, Nat.le_of_ble_eq_true rfl, Nat.le_of_ble_eq_true rfl⟩ rfl hl.1 rfl (Nat.le_of_ble_eq_true rfl) dX9_count_128) (fun rq14_ Mq12_ Tq13_ Hq_ lcq_ hP hz hH => ?_)
    try dsimp only at hP
    obtain ⟨(⟨cq15_, er_rq14_⟩ | ⟨cq16_, er_rq14_⟩), eT, eM⟩ := hP
    · skip
      have eT := eT.symm; subst eT
      have er_rq14_ := er_rq14_.symm; subst er_rq14_
      have eM := eM.symm; subst eM
      have cq15_ : 0 ≤ zq11_.toInt ∧ zq11_.toInt ≤ 7 := cq15_
      refine jif_eq (tgt := 149) hx hb dX9_count_131 (by decide) (fun cq17_ => absurd cq17_ (by decide)) (fun cq17_ => ?_)
      refine lv_aload_n hx hb dX9_count_134 rfl (lv_at hl 0 rfl) ?_
      refine xg hC hK hH flX9_12 hc_ro rfl dX9_count_135 ?_
      refine xg hC hK hH flX9_159 hc_w rfl dX9_count_138 ?_
      refine lv_iload_n hx hb dX9_count_141 rfl (lv_at hl 1 rfl) ?_
      refine lv_bipush (v := 10) hx hb dX9_count_142 (by decide) ?_
      refine lv_isub hx hb dX9_count_144 ?_
      refine lv_cst (v := zq11_) e_zq11_.symm ?_
      refine tild hC hK hH ht_cs rfl (iIn (by omega) (by omega)) dX9_count_145 (fun xq18_ l_xq18_ g_xq18_ => ?_)
      refine lv_goto (tgt := 150) hx hb dX9_count_146 (by decide) ?_
      subst e_zq11_
      exact ret_i hC hr hlk hK hH (⟨trivial, rfl, rfl⟩) (Nat.le_of_ble_eq_true rfl) (Nat.le_of_ble_eq_true rfl) dX9_count_150
    · skip
      have eT := eT.symm; subst eT
      have er_rq14_ := er_rq14_.symm; subst er_rq14_
      have eM := eM.symm; subst eM
      have cq16_ : ¬ (0 ≤ zq11_.toInt ∧ zq11_.toInt ≤ 7) := cq16_
      refine jif_eq (tgt := 149) hx hb dX9_count_131 (by decide) (fun cq19_ => ?_) (fun cq19_ => absurd cq19_ (by decide))
      refine lv_iconst (v := -1) hx hb dX9_count_149 (by decide) ?_
      subst e_zq11_
      exact ret_i hC hr hlk hK hH (⟨trivial, rfl, rfl⟩) (Nat.le_of_ble_eq_true rfl) (Nat.le_of_ble_eq_true rfl) dX9_count_150
  · skip
    refine lv_tableIn (off := 51) (tgt := 52) hx hb dX9_count_1 (by omega) (by omega) (by rw [cq1_]; rfl) (by decide) ?_
    refine lv_aload_n hx hb dX9_count_52 rfl (lv_at hl 0 rfl) ?_
    refine xg hC hK hH flX9_12 hc_ro rfl dX9_count_53 ?_
    refine xg hC hK hH flX9_134 hc_w rfl dX9_count_56 ?_
    exact ret_i hC hr hlk hK hH (⟨trivial, rfl, rfl⟩) (Nat.le_of_ble_eq_true rfl) (Nat.le_of_ble_eq_true rfl) dX9_count_59
  · skip
    refine lv_tableIn (off := 59) (tgt := 60) hx hb dX9_count_1 (by omega) (by omega) (by rw [cq1_]; rfl) (by decide) ?_
    refine lv_aload_n hx hb dX9_count_60 rfl (lv_at hl 0 rfl) ?_
    refine xg hC hK hH flX9_12 hc_ro rfl dX9_count_61 ?_
    refine xg hC hK hH flX9_97 hc_w rfl dX9_count_64 ?_
    exact ret_i hC hr hlk hK hH (⟨trivial, rfl, rfl⟩) (Nat.le_of_ble_eq_true rfl) (Nat.le_of_ble_eq_true rfl) dX9_count_67
  · skip
    refine lv_tableIn (off := 67) (tgt := 68) hx hb dX9_count_1 (by omega) (by omega) (by rw [cq1_]; rfl) (by decide) ?_
    refine lv_aload_n hx hb dX9_count_68 rfl (lv_at hl 0 rfl) ?_
    refine xg hC hK hH flX9_12 hc_ro rfl dX9_count_69 ?_
    refine xg hC hK hH flX9_137 hc_w rfl dX9_count_72 ?_
    exact ret_i hC hr hlk hK hH (⟨trivial, rfl, rfl⟩) (Nat.le_of_ble_eq_true rfl) (Nat.le_of_ble_eq_true rfl) dX9_count_75
  · skip
    refine lv_tableIn (off := 75) (tgt := 76) hx hb dX9_count_1 (by omega) (by omega) (by rw [cq1_]; rfl) (by decide) ?_
    refine lv_aload_n hx hb dX9_count_76 rfl (lv_at hl 0 rfl) ?_
    refine xg hC hK hH flX9_12 hc_ro rfl dX9_count_77 ?_
    refine goI hK hH (runV (As := []) (rest := []) hC hK hH (c_X8_cashOfAll hc_w hn_w hc_bs ht_cs ht_bs ht_tp (by omega) (by omega) (by omega) hg) mlX9_140 (rcvM hK hH hc_w rfl) ⟨⟨Nat.le_of_ble_eq_true rfl, Nat.le_of_ble_eq_true rfl⟩, Nat.le_of_ble_eq_true rfl, Nat.le_of_ble_eq_true rfl⟩ rfl hl.1 rfl (Nat.le_of_ble_eq_true rfl) dX9_count_80) (fun rq22_ Mq20_ Tq21_ Hq_ lcq_ hP hz hH => ?_)
    try dsimp only at hP
    obtain ⟨(-), eT, eM⟩ := hP
    have eT := eT.symm; subst eT
    have eM := eM.symm; subst eM
    exact ret_i hC hr hlk hK hH (⟨trivial, rfl, rfl⟩) (Nat.le_of_ble_eq_true rfl) (Nat.le_of_ble_eq_true rfl) dX9_count_83
  · skip
    refine lv_tableIn (off := 83) (tgt := 84) hx hb dX9_count_1 (by omega) (by omega) (by rw [cq1_]; rfl) (by decide) ?_
    refine lv_aload_n hx hb dX9_count_84 rfl (lv_at hl 0 rfl) ?_
    refine xg hC hK hH flX9_12 hc_ro rfl dX9_count_85 ?_
    refine xg hC hK hH flX9_143 hc_w rfl dX9_count_88 ?_
    exact ret_i hC hr hlk hK hH (⟨trivial, rfl, rfl⟩) (Nat.le_of_ble_eq_true rfl) (Nat.le_of_ble_eq_true rfl) dX9_count_91
  · skip
    refine lv_tableIn (off := 91) (tgt := 92) hx hb dX9_count_1 (by omega) (by omega) (by rw [cq1_]; rfl) (by decide) ?_
    refine lv_aload_n hx hb dX9_count_92 rfl (lv_at hl 0 rfl) ?_
    refine xg hC hK hH flX9_12 hc_ro rfl dX9_count_93 ?_
    refine goI hK hH (runV (As := []) (rest := []) hC hK hH (c_X8_dishonouredBills hc_w hn_w hc_bs ht_cs ht_bs ht_tp (by omega) (by omega) (by omega) hg) mlX9_146 (rcvM hK hH hc_w rfl) ⟨⟨Nat.le_of_ble_eq_true rfl, Nat.le_of_ble_eq_true rfl⟩, Nat.le_of_ble_eq_true rfl, Nat.le_of_ble_eq_true rfl⟩ rfl hl.1 rfl (Nat.le_of_ble_eq_true rfl) dX9_count_96) (fun rq25_ Mq23_ Tq24_ Hq_ lcq_ hP hz hH => ?_)
    try dsimp only at hP
    obtain ⟨(-), eT, eM⟩ := hP
    have eT := eT.symm; subst eT
    have eM := eM.symm; subst eM
    exact ret_i hC hr hlk hK hH (⟨trivial, rfl, rfl⟩) (Nat.le_of_ble_eq_true rfl) (Nat.le_of_ble_eq_true rfl) dX9_count_99
  · skip
    refine lv_tableIn (off := 99) (tgt := 100) hx hb dX9_count_1 (by omega) (by omega) (by rw [cq1_]; rfl) (by decide) ?_
    refine lv_aload_n hx hb dX9_count_100 rfl (lv_at hl 0 rfl) ?_
    refine xg hC hK hH flX9_12 hc_ro rfl dX9_count_101 ?_
    refine goI hK hH (runV (As := []) (rest := []) hC hK hH (c_X8_doneBills hc_w hn_w hc_bs ht_cs ht_bs ht_tp (by omega) (by omega) (by omega) hg) mlX9_149 (rcvM hK hH hc_w rfl) ⟨⟨Nat.le_of_ble_eq_true rfl, Nat.le_of_ble_eq_true rfl⟩, Nat.le_of_ble_eq_true rfl, Nat.le_of_ble_eq_true rfl⟩ rfl hl.1 rfl (Nat.le_of_ble_eq_true rfl) dX9_count_104) (fun rq28_ Mq26_ Tq27_ Hq_ lcq_ hP hz hH => ?_)
    try dsimp only at hP
    obtain ⟨(-), eT, eM⟩ := hP
    have eT := eT.symm; subst eT
    have eM := eM.symm; subst eM
    exact ret_i hC hr hlk hK hH (⟨trivial, rfl, rfl⟩) (Nat.le_of_ble_eq_true rfl) (Nat.le_of_ble_eq_true rfl) dX9_count_107
  · skip
    refine lv_tableIn (off := 107) (tgt := 108) hx hb dX9_count_1 (by omega) (by omega) (by rw [cq1_]; rfl) (by decide) ?_
    refine lv_aload_n hx hb dX9_count_108 rfl (lv_at hl 0 rfl) ?_
    refine xg hC hK hH flX9_12 hc_ro rfl dX9_count_109 ?_
    refine xg hC hK hH flX9_152 hc_w rfl dX9_count_112 ?_
    exact ret_i hC hr hlk hK hH (⟨trivial, rfl, rfl⟩) (Nat.le_of_ble_eq_true rfl) (Nat.le_of_ble_eq_true rfl) dX9_count_115
  · skip
    refine lv_tableIn (off := 115) (tgt := 116) hx hb dX9_count_1 (by omega) (by omega) (by rw [cq1_]; rfl) (by decide) ?_
    refine lv_aload_n hx hb dX9_count_116 rfl (lv_at hl 0 rfl) ?_
    refine xg hC hK hH flX9_12 hc_ro rfl dX9_count_117 ?_
    refine xg hC hK hH flX9_45 hc_w rfl dX9_count_120 ?_
    exact ret_i hC hr hlk hK hH (⟨trivial, rfl, rfl⟩) (Nat.le_of_ble_eq_true rfl) (Nat.le_of_ble_eq_true rfl) dX9_count_123
