set_option maxHeartbeats 4000000 in
set_option maxRecDepth 100000 in
theorem c_X9_feed {l : Launch} {D : va_G} {kA : Nat → ClassId} {M : mM} {T : mT} {sz : Nat} {ro im rd rc cu : Nat} {w cs bs tp : Nat} {a b c_ d e_ : Int32} (hc_ro : M ro = some (.inr (7, [.ref w, .ref im, .ref rd, .ref rc, .ref cu]))) (hc_w : M w = some (.inr (6, [.int 0, .int 2, .int 0, .int 0, .int 0, .int 0, .int 0, .int (-1), .ref cs, .ref bs, .ref tp]))) (ht_tp : T tp = some 7) : mCi l yX9_feed cX9_feed 6 (some .int) 2 0 0 D kA M T sz [.ref ro, .int a, .int b, .int c_, .int d, .int e_] (fun r u => (r = 20) ∧ u.2 = T ∧ (∀ q, q ≠ w → u.1 q = M q)) := by
  unfold mCi
  refine start_W (by decide) (Nat.le_of_ble_eq_true rfl) ?_
  intro p e s m below meth c ls hC hr hlk hnm hK hH hsz hl
  have hx := hC.1
  have hb := hC.2.1
  have hl : lv_has ls 6 [(0, .ref ro), (1, .int a), (2, .int b), (3, .int c_), (4, .int d), (5, .int e_)] := hl
  have hF : ∀ q, q ≠ w → M q = M q := fun q _ => rfl
  have n_ro_w : ro ≠ w := neM hc_ro hc_w (by simp)
  have n_w_ro : w ≠ ro := neM hc_w hc_ro (by simp)
  refine lv_aload_n hx hb dX9_feed_0 rfl (lv_at hl 0 rfl) ?_
  refine xg hC hK hH flX9_12 hc_ro rfl dX9_feed_1 ?_
  refine lv_iload_n hx hb dX9_feed_4 rfl (lv_at hl 1 rfl) ?_
  refine lv_iload_n hx hb dX9_feed_5 rfl (lv_at hl 2 rfl) ?_
  refine lv_iload_n hx hb dX9_feed_6 rfl (lv_at hl 3 rfl) ?_
  refine lv_iload hx hb dX9_feed_7 (lv_at hl 4 rfl) ?_
  refine lv_iload hx hb dX9_feed_9 (lv_at hl 5 rfl) ?_
  refine goI hK hH (runV (As := [.int a, .int b, .int c_, .int d, .int e_]) (rest := []) hC hK hH (c_X8_addBytes hc_w ht_tp) mlX9_41 (rcvM hK hH hc_w rfl) ⟨⟨Nat.le_of_ble_eq_true rfl, Nat.le_of_ble_eq_true rfl⟩, Nat.le_of_ble_eq_true rfl, Nat.le_of_ble_eq_true rfl⟩ rfl hl.1 rfl (Nat.le_of_ble_eq_true rfl) dX9_feed_11) (fun rq3_ Mq1_ Tq2_ Hq_ lcq_ hP hz hH => ?_)
  try dsimp only at hP
  obtain ⟨(⟨rfl, hx_w⟩), eT, hfr⟩ := hP
  have eT := eT.symm; subst eT
  have hc_ro : Mq1_ ro = some (.inr (7, [.ref w, .ref im, .ref rd, .ref rc, .ref cu])) := (hfr ro n_ro_w).trans hc_ro
  have hc_w : Mq1_ w = some (.inr (6, [.int 0, .int 2, .int 0, .int 0, .int 0, .int 0, .int 20, .int (-1), .ref cs, .ref bs, .ref tp])) := hx_w
  have hF : ∀ q, q ≠ w → Mq1_ q = M q := fun q h0 => (hfr q h0).trans (hF q h0)
  exact ret_i hC hr hlk hK hH (⟨rfl, rfl, hF⟩) (Nat.le_of_ble_eq_true rfl) (Nat.le_of_ble_eq_true rfl) dX9_feed_14
set_option maxHeartbeats 4000000 in
set_option maxRecDepth 100000 in
theorem c_X9_end {l : Launch} {D : va_G} {kA : Nat → ClassId} {M : mM} {T : mT} {sz : Nat} {ro im rd rc cu : Nat} {w cs bs tp : Nat} {n : Int32} (hc_ro : M ro = some (.inr (7, [.ref w, .ref im, .ref rd, .ref rc, .ref cu]))) (hc_w : M w = some (.inr (6, [.int 0, .int 2, .int 0, .int 0, .int 0, .int 0, .int 0, .int (-1), .ref cs, .ref bs, .ref tp]))) : mCi l yX9_end cX9_end 2 (some .int) 0 0 0 D kA M T sz [.ref ro, .int n] (fun r u => ((n.toInt = 0 ∧ r = 0) ∨ (n.toInt ≠ 0 ∧ r = -1)) ∧ u.2 = T ∧ (∀ q, q ≠ w → u.1 q = M q)) := by
  unfold mCi
  refine start_W (by decide) (Nat.le_of_ble_eq_true rfl) ?_
  intro p e s m below meth c ls hC hr hlk hnm hK hH hsz hl
  have hx := hC.1
  have hb := hC.2.1
  have hl : lv_has ls 2 [(0, .ref ro), (1, .int n)] := hl
  have hF : ∀ q, q ≠ w → M q = M q := fun q _ => rfl
  have n_ro_w : ro ≠ w := neM hc_ro hc_w (by simp)
  have n_w_ro : w ≠ ro := neM hc_w hc_ro (by simp)
  refine lv_iload_n hx hb dX9_end_0 rfl (lv_at hl 1 rfl) ?_
  refine jif_lt (tgt := 15) hx hb dX9_end_1 (by decide) (fun cq1_ => ?_) (fun cq1_ => ?_)
  · skip
    have cq1_ : n.toInt < 0 := cq1_
    refine lv_iconst (v := -1) hx hb dX9_end_15 (by decide) ?_
    exact ret_i hC hr hlk hK hH (⟨Or.inr (⟨by omega, rfl⟩), rfl, hF⟩) (Nat.le_of_ble_eq_true rfl) (Nat.le_of_ble_eq_true rfl) dX9_end_16
  · skip
    have cq1_ : 0 ≤ n.toInt := cq1_
    refine lv_iload_n hx hb dX9_end_4 rfl (lv_at hl 1 rfl) ?_
    refine lv_aload_n hx hb dX9_end_5 rfl (lv_at hl 0 rfl) ?_
    refine xg hC hK hH flX9_12 hc_ro rfl dX9_end_6 ?_
    refine xg hC hK hH flX9_45 hc_w rfl dX9_end_9 ?_
    refine jic_le (tgt := 17) hx hb dX9_end_12 (by decide) (fun cq2_ => ?_) (fun cq2_ => ?_)
    · skip
      have cq2_ : n.toInt ≤ 0 := cq2_
      refine lv_aload_n hx hb dX9_end_17 rfl (lv_at hl 0 rfl) ?_
      refine xg hC hK hH flX9_12 hc_ro rfl dX9_end_18 ?_
      refine lv_iload_n hx hb dX9_end_21 rfl (lv_at hl 1 rfl) ?_
      refine yp (v := .int n) hC hK hH flX9_45 hc_w rfl rfl (Nat.le_of_ble_eq_true rfl) dX9_end_22 (fun Hq_ lcq_ Mq3_ hc_w hfr hH => ?_)
      have hc_w : Mq3_ w = some (.inr (6, [.int 0, .int 2, .int 0, .int 0, .int 0, .int 0, .int n, .int (-1), .ref cs, .ref bs, .ref tp])) := hc_w
      have hc_ro : Mq3_ ro = some (.inr (7, [.ref w, .ref im, .ref rd, .ref rc, .ref cu])) := (hfr ro n_ro_w).trans hc_ro
      have hF : ∀ q, q ≠ w → Mq3_ q = M q := fun q h0 => (hfr q h0).trans (hF q h0)
      refine lv_iload_n hx hb dX9_end_25 rfl (lv_at hl 1 rfl) ?_
      exact ret_i hC hr hlk hK hH (⟨Or.inl (⟨by omega, iEq.mpr (by have : (0 : Int32).toInt = 0 := rfl; omega)⟩), rfl, hF⟩) (Nat.le_of_ble_eq_true rfl) (Nat.le_of_ble_eq_true rfl) dX9_end_26
    · skip
      have cq2_ : 0 < n.toInt := cq2_
      refine lv_iconst (v := -1) hx hb dX9_end_15 (by decide) ?_
      exact ret_i hC hr hlk hK hH (⟨Or.inr (⟨by omega, rfl⟩), rfl, hF⟩) (Nat.le_of_ble_eq_true rfl) (Nat.le_of_ble_eq_true rfl) dX9_end_16
set_option maxHeartbeats 4000000 in
set_option maxRecDepth 100000 in
theorem c_X9_fault {l : Launch} {D : va_G} {kA : Nat → ClassId} {M : mM} {T : mT} {sz : Nat} {ro im rd rc cu : Nat} {w cs bs tp : Nat} (hc_ro : M ro = some (.inr (7, [.ref w, .ref im, .ref rd, .ref rc, .ref cu]))) (hc_w : M w = some (.inr (6, [.int 0, .int 2, .int 0, .int 0, .int 0, .int 0, .int 0, .int (-1), .ref cs, .ref bs, .ref tp]))) : mCi l yX9_fault cX9_fault 1 (some .int) 0 0 0 D kA M T sz [.ref ro] (fun r u => (r = -1) ∧ u.2 = T ∧ u.1 = M) := by
  unfold mCi
  refine start_W (by decide) (Nat.le_of_ble_eq_true rfl) ?_
  intro p e s m below meth c ls hC hr hlk hnm hK hH hsz hl
  have hx := hC.1
  have hb := hC.2.1
  have hl : lv_has ls 1 [(0, .ref ro)] := hl
  have n_ro_w : ro ≠ w := neM hc_ro hc_w (by simp)
  have n_w_ro : w ≠ ro := neM hc_w hc_ro (by simp)
  refine lv_aload_n hx hb dX9_fault_0 rfl (lv_at hl 0 rfl) ?_
  refine xg hC hK hH flX9_12 hc_ro rfl dX9_fault_1 ?_
  refine xg hC hK hH flX9_64 hc_w rfl dX9_fault_4 ?_
  exact ret_i hC hr hlk hK hH (⟨rfl, rfl, rfl⟩) (Nat.le_of_ble_eq_true rfl) (Nat.le_of_ble_eq_true rfl) dX9_fault_7
set_option maxHeartbeats 4000000 in
set_option maxRecDepth 100000 in
theorem c_X9_refused {l : Launch} {D : va_G} {kA : Nat → ClassId} {M : mM} {T : mT} {sz : Nat} {ro im rd rc cu : Nat} {w cs bs tp : Nat} (hc_ro : M ro = some (.inr (7, [.ref w, .ref im, .ref rd, .ref rc, .ref cu]))) (hc_w : M w = some (.inr (6, [.int 0, .int 2, .int 0, .int 0, .int 0, .int 0, .int 0, .int (-1), .ref cs, .ref bs, .ref tp]))) : mCi l yX9_refused cX9_refused 1 (some .int) 0 0 0 D kA M T sz [.ref ro] (fun r u => (r = 0) ∧ u.2 = T ∧ u.1 = M) := by
  unfold mCi
  refine start_W (by decide) (Nat.le_of_ble_eq_true rfl) ?_
  intro p e s m below meth c ls hC hr hlk hnm hK hH hsz hl
  have hx := hC.1
  have hb := hC.2.1
  have hl : lv_has ls 1 [(0, .ref ro)] := hl
  have n_ro_w : ro ≠ w := neM hc_ro hc_w (by simp)
  have n_w_ro : w ≠ ro := neM hc_w hc_ro (by simp)
  refine lv_aload_n hx hb dX9_refused_0 rfl (lv_at hl 0 rfl) ?_
  refine xg hC hK hH flX9_12 hc_ro rfl dX9_refused_1 ?_
  refine xg hC hK hH flX9_80 hc_w rfl dX9_refused_4 ?_
  exact ret_i hC hr hlk hK hH (⟨rfl, rfl, rfl⟩) (Nat.le_of_ble_eq_true rfl) (Nat.le_of_ble_eq_true rfl) dX9_refused_7
set_option maxHeartbeats 4000000 in
set_option maxRecDepth 100000 in
theorem c_X9_day {l : Launch} {D : va_G} {kA : Nat → ClassId} {M : mM} {T : mT} {sz : Nat} {ro im rd rc cu : Nat} {w cs bs tp : Nat} {n : Int32} (hc_ro : M ro = some (.inr (7, [.ref w, .ref im, .ref rd, .ref rc, .ref cu]))) (hc_w : M w = some (.inr (6, [.int 0, .int 2, .int 0, .int 0, .int 0, .int 0, .int 0, .int (-1), .ref cs, .ref bs, .ref tp]))) : mCi l yX9_day cX9_day 2 (some .int) 1 0 0 D kA M T sz [.ref ro, .int n] (fun r u => (((1 ≤ n.toInt ∧ n.toInt ≤ 99) ∧ r = 0) ∨ ((¬ (1 ≤ n.toInt ∧ n.toInt ≤ 99)) ∧ r = 30)) ∧ u.2 = T ∧ (∀ q, q ≠ w → u.1 q = M q)) := by
  unfold mCi
  refine start_W (by decide) (Nat.le_of_ble_eq_true rfl) ?_
  intro p e s m below meth c ls hC hr hlk hnm hK hH hsz hl
  have hx := hC.1
  have hb := hC.2.1
  have hl : lv_has ls 2 [(0, .ref ro), (1, .int n)] := hl
  have hF : ∀ q, q ≠ w → M q = M q := fun q _ => rfl
  have n_ro_w : ro ≠ w := neM hc_ro hc_w (by simp)
  have n_w_ro : w ≠ ro := neM hc_w hc_ro (by simp)
  refine lv_aload_n hx hb dX9_day_0 rfl (lv_at hl 0 rfl) ?_
  refine xg hC hK hH flX9_12 hc_ro rfl dX9_day_1 ?_
  refine lv_aload_n hx hb dX9_day_4 rfl (lv_at hl 0 rfl) ?_
  refine xg hC hK hH flX9_12 hc_ro rfl dX9_day_5 ?_
  refine lv_iload_n hx hb dX9_day_8 rfl (lv_at hl 1 rfl) ?_
  refine goI hK hH (runV (As := [.int n]) (rest := [.ref w]) hC hK hH (c_X8_goOn hc_w) mlX9_83 (rcvM hK hH hc_w rfl) ⟨⟨Nat.le_of_ble_eq_true rfl, Nat.le_of_ble_eq_true rfl⟩, Nat.le_of_ble_eq_true rfl, Nat.le_of_ble_eq_true rfl⟩ rfl hl.1 rfl (Nat.le_of_ble_eq_true rfl) dX9_day_9) (fun rq3_ Mq1_ Tq2_ Hq_ lcq_ hP hz hH => ?_)
  try dsimp only at hP
  obtain ⟨(⟨cq4_, rfl, hx_w⟩ | ⟨cq5_, rfl, hx_w⟩), eT, hfr⟩ := hP
  · skip
    have eT := eT.symm; subst eT
    have hc_ro : Mq1_ ro = some (.inr (7, [.ref w, .ref im, .ref rd, .ref rc, .ref cu])) := (hfr ro n_ro_w).trans hc_ro
    have hc_w : Mq1_ w = some (.inr (6, [.int (0 + n), .int 2, .int 0, .int 0, .int 0, .int 0, .int 0, .int (-1), .ref cs, .ref bs, .ref tp])) := hx_w
    have hF : ∀ q, q ≠ w → Mq1_ q = M q := fun q h0 => (hfr q h0).trans (hF q h0)
    have cq4_ : 1 ≤ n.toInt ∧ n.toInt ≤ 99 := cq4_
    refine goI hK hH (runV (As := [.int 0]) (rest := []) hC hK hH (c_X8_note hc_w) mlX9_76 (rcvM hK hH hc_w rfl) ⟨⟨Nat.le_of_ble_eq_true rfl, Nat.le_of_ble_eq_true rfl⟩, Nat.le_of_ble_eq_true rfl, Nat.le_of_ble_eq_true rfl⟩ rfl hl.1 rfl (Nat.le_of_ble_eq_true rfl) dX9_day_12) (fun rq8_ Mq6_ Tq7_ Hq_ lcq_ hP hz hH => ?_)
    try dsimp only at hP
    obtain ⟨(⟨cq9_, rfl, hx_w⟩ | ⟨cq10_, rfl, hx_w⟩), eT, hfr⟩ := hP
    · skip
      have eT := eT.symm; subst eT
      have hc_ro : Mq6_ ro = some (.inr (7, [.ref w, .ref im, .ref rd, .ref rc, .ref cu])) := (hfr ro n_ro_w).trans hc_ro
      have hc_w : Mq6_ w = some (.inr (6, [.int (0 + n), .int 2, .int 0, .int 0, .int (0 + 1), .int 0, .int 0, .int (-1), .ref cs, .ref bs, .ref tp])) := hx_w
      have hF : ∀ q, q ≠ w → Mq6_ q = M q := fun q h0 => (hfr q h0).trans (hF q h0)
      have cq9_ : (0 : Int) ≠ 0 := cq9_
      exact absurd cq9_ (by omega)
    · skip
      have eT := eT.symm; subst eT
      have hc_ro : Mq6_ ro = some (.inr (7, [.ref w, .ref im, .ref rd, .ref rc, .ref cu])) := (hfr ro n_ro_w).trans hc_ro
      have hc_w : Mq6_ w = some (.inr (6, [.int (0 + n), .int 2, .int 0, .int 0, .int 0, .int 0, .int 0, .int (-1), .ref cs, .ref bs, .ref tp])) := hx_w
      have hF : ∀ q, q ≠ w → Mq6_ q = M q := fun q h0 => (hfr q h0).trans (hF q h0)
      have cq10_ : (0 : Int) = 0 := cq10_
      exact ret_i hC hr hlk hK hH (⟨Or.inl (⟨by omega, rfl⟩), rfl, hF⟩) (Nat.le_of_ble_eq_true rfl) (Nat.le_of_ble_eq_true rfl) dX9_day_15
  · skip
    have eT := eT.symm; subst eT
    have hc_ro : Mq1_ ro = some (.inr (7, [.ref w, .ref im, .ref rd, .ref rc, .ref cu])) := (hfr ro n_ro_w).trans hc_ro
    have hc_w : Mq1_ w = some (.inr (6, [.int 0, .int 2, .int 0, .int 0, .int 0, .int 0, .int 0, .int (-1), .ref cs, .ref bs, .ref tp])) := hx_w
    have hF : ∀ q, q ≠ w → Mq1_ q = M q := fun q h0 => (hfr q h0).trans (hF q h0)
    have cq5_ : ¬ (1 ≤ n.toInt ∧ n.toInt ≤ 99) := cq5_
    refine goI hK hH (runV (As := [.int 30]) (rest := []) hC hK hH (c_X8_note hc_w) mlX9_76 (rcvM hK hH hc_w rfl) ⟨⟨Nat.le_of_ble_eq_true rfl, Nat.le_of_ble_eq_true rfl⟩, Nat.le_of_ble_eq_true rfl, Nat.le_of_ble_eq_true rfl⟩ rfl hl.1 rfl (Nat.le_of_ble_eq_true rfl) dX9_day_12) (fun rq13_ Mq11_ Tq12_ Hq_ lcq_ hP hz hH => ?_)
    try dsimp only at hP
    obtain ⟨(⟨cq14_, rfl, hx_w⟩ | ⟨cq15_, rfl, hx_w⟩), eT, hfr⟩ := hP
    · skip
      have eT := eT.symm; subst eT
      have hc_ro : Mq11_ ro = some (.inr (7, [.ref w, .ref im, .ref rd, .ref rc, .ref cu])) := (hfr ro n_ro_w).trans hc_ro
      have hc_w : Mq11_ w = some (.inr (6, [.int 0, .int 2, .int 0, .int 0, .int (0 + 1), .int 30, .int 0, .int (-1), .ref cs, .ref bs, .ref tp])) := hx_w
      have hF : ∀ q, q ≠ w → Mq11_ q = M q := fun q h0 => (hfr q h0).trans (hF q h0)
      have cq14_ : (30 : Int) ≠ 0 := cq14_
      exact ret_i hC hr hlk hK hH (⟨Or.inr (⟨by omega, rfl⟩), rfl, hF⟩) (Nat.le_of_ble_eq_true rfl) (Nat.le_of_ble_eq_true rfl) dX9_day_15
    · skip
      have eT := eT.symm; subst eT
      have hc_ro : Mq11_ ro = some (.inr (7, [.ref w, .ref im, .ref rd, .ref rc, .ref cu])) := (hfr ro n_ro_w).trans hc_ro
      have hc_w : Mq11_ w = some (.inr (6, [.int 0, .int 2, .int 0, .int 0, .int 0, .int 30, .int 0, .int (-1), .ref cs, .ref bs, .ref tp])) := hx_w
      have hF : ∀ q, q ≠ w → Mq11_ q = M q := fun q h0 => (hfr q h0).trans (hF q h0)
      have cq15_ : (30 : Int) = 0 := cq15_
      exact absurd cq15_ (by omega)
set_option maxHeartbeats 4000000 in
set_option maxRecDepth 100000 in
theorem c_X9_cash {l : Launch} {D : va_G} {kA : Nat → ClassId} {M : mM} {T : mT} {sz : Nat} {ro im rd rc cu : Nat} {w cs bs tp : Nat} {ps n : Int32}{f : Nat → Int32} (hc_ro : M ro = some (.inr (7, [.ref w, .ref im, .ref rd, .ref rc, .ref cu]))) (hc_w : M w = some (.inr (6, [.int 0, .int 2, .int 0, .int 0, .int 0, .int 0, .int 0, .int (-1), .ref cs, .ref bs, .ref tp]))) (hc_cs : M cs = some (.inl (kA 0, 8, .inl (c100 f)))) : mCi l yX9_cash cX9_cash 3 (some .int) 2 0 0 D kA M T sz [.ref ro, .int ps, .int n] (fun r u => (((0 ≤ ps.toInt ∧ ps.toInt ≤ 7 ∧ 0 ≤ n.toInt ∧ n.toInt ≤ 9999) ∧ r = 0) ∨ ((¬ (0 ≤ ps.toInt ∧ ps.toInt ≤ 7 ∧ 0 ≤ n.toInt ∧ n.toInt ≤ 9999)) ∧ r = 30)) ∧ u.2 = T ∧ (∀ q, q ≠ w → q ≠ cs → u.1 q = M q)) := by
  unfold mCi
  refine start_W (by decide) (Nat.le_of_ble_eq_true rfl) ?_
  intro p e s m below meth c ls hC hr hlk hnm hK hH hsz hl
  have hx := hC.1
  have hb := hC.2.1
  have hl : lv_has ls 3 [(0, .ref ro), (1, .int ps), (2, .int n)] := hl
  have hF : ∀ q, q ≠ w → q ≠ cs → M q = M q := fun q _ _ => rfl
  have n_ro_w : ro ≠ w := neM hc_ro hc_w (by simp)
  have n_ro_cs : ro ≠ cs := neM hc_ro hc_cs (by simp)
  have n_w_ro : w ≠ ro := neM hc_w hc_ro (by simp)
  have n_w_cs : w ≠ cs := neM hc_w hc_cs (by simp)
  have n_cs_ro : cs ≠ ro := neM hc_cs hc_ro (by simp)
  have n_cs_w : cs ≠ w := neM hc_cs hc_w (by simp)
  refine lv_aload_n hx hb dX9_cash_0 rfl (lv_at hl 0 rfl) ?_
  refine xg hC hK hH flX9_12 hc_ro rfl dX9_cash_1 ?_
  refine lv_aload_n hx hb dX9_cash_4 rfl (lv_at hl 0 rfl) ?_
  refine xg hC hK hH flX9_12 hc_ro rfl dX9_cash_5 ?_
  refine lv_iload_n hx hb dX9_cash_8 rfl (lv_at hl 1 rfl) ?_
  refine lv_iload_n hx hb dX9_cash_9 rfl (lv_at hl 2 rfl) ?_
  refine goI hK hH (runV (As := [.int ps, .int n]) (rest := [.ref w]) hC hK hH (c_X8_setCash hc_w hc_cs) mlX9_86 (rcvM hK hH hc_w rfl) ⟨⟨Nat.le_of_ble_eq_true rfl, Nat.le_of_ble_eq_true rfl⟩, Nat.le_of_ble_eq_true rfl, Nat.le_of_ble_eq_true rfl⟩ rfl hl.1 rfl (Nat.le_of_ble_eq_true rfl) dX9_cash_10) (fun rq3_ Mq1_ Tq2_ Hq_ lcq_ hP hz hH => ?_)
  try dsimp only at hP
  obtain ⟨(⟨cq4_, rfl, hx_cs⟩ | ⟨cq5_, rfl, hx_cs⟩), eT, hfr⟩ := hP
  · skip
    have eT := eT.symm; subst eT
    have hc_ro : Mq1_ ro = some (.inr (7, [.ref w, .ref im, .ref rd, .ref rc, .ref cu])) := (hfr ro n_ro_cs).trans hc_ro
    have hc_w : Mq1_ w = some (.inr (6, [.int 0, .int 2, .int 0, .int 0, .int 0, .int 0, .int 0, .int (-1), .ref cs, .ref bs, .ref tp])) := (hfr w n_w_cs).trans hc_w
    have hc_cs : Mq1_ cs = some (.inl (kA 0, 8, .inl (upd (c100 f) (Int32.toNatClampNeg ps) n))) := hx_cs
    have hF : ∀ q, q ≠ w → q ≠ cs → Mq1_ q = M q := fun q h0 h1 => (hfr q h1).trans (hF q h0 h1)
    have cq4_ : 0 ≤ ps.toInt ∧ ps.toInt ≤ 7 ∧ 0 ≤ n.toInt ∧ n.toInt ≤ 9999 := cq4_
    refine goI hK hH (runV (As := [.int 0]) (rest := []) hC hK hH (c_X8_note hc_w) mlX9_76 (rcvM hK hH hc_w rfl) ⟨⟨Nat.le_of_ble_eq_true rfl, Nat.le_of_ble_eq_true rfl⟩, Nat.le_of_ble_eq_true rfl, Nat.le_of_ble_eq_true rfl⟩ rfl hl.1 rfl (Nat.le_of_ble_eq_true rfl) dX9_cash_13) (fun rq8_ Mq6_ Tq7_ Hq_ lcq_ hP hz hH => ?_)
    try dsimp only at hP
    obtain ⟨(⟨cq9_, rfl, hx_w⟩ | ⟨cq10_, rfl, hx_w⟩), eT, hfr⟩ := hP
    · skip
      have eT := eT.symm; subst eT
      have hc_ro : Mq6_ ro = some (.inr (7, [.ref w, .ref im, .ref rd, .ref rc, .ref cu])) := (hfr ro n_ro_w).trans hc_ro
      have hc_w : Mq6_ w = some (.inr (6, [.int 0, .int 2, .int 0, .int 0, .int (0 + 1), .int 0, .int 0, .int (-1), .ref cs, .ref bs, .ref tp])) := hx_w
      have hc_cs : Mq6_ cs = some (.inl (kA 0, 8, .inl (upd (c100 f) (Int32.toNatClampNeg ps) n))) := (hfr cs n_cs_w).trans hc_cs
      have hF : ∀ q, q ≠ w → q ≠ cs → Mq6_ q = M q := fun q h0 h1 => (hfr q h0).trans (hF q h0 h1)
      have cq9_ : (0 : Int) ≠ 0 := cq9_
      exact absurd cq9_ (by omega)
    · skip
      have eT := eT.symm; subst eT
      have hc_ro : Mq6_ ro = some (.inr (7, [.ref w, .ref im, .ref rd, .ref rc, .ref cu])) := (hfr ro n_ro_w).trans hc_ro
      have hc_w : Mq6_ w = some (.inr (6, [.int 0, .int 2, .int 0, .int 0, .int 0, .int 0, .int 0, .int (-1), .ref cs, .ref bs, .ref tp])) := hx_w
      have hc_cs : Mq6_ cs = some (.inl (kA 0, 8, .inl (upd (c100 f) (Int32.toNatClampNeg ps) n))) := (hfr cs n_cs_w).trans hc_cs
      have hF : ∀ q, q ≠ w → q ≠ cs → Mq6_ q = M q := fun q h0 h1 => (hfr q h0).trans (hF q h0 h1)
      have cq10_ : (0 : Int) = 0 := cq10_
      exact ret_i hC hr hlk hK hH (⟨Or.inl (⟨by omega, rfl⟩), rfl, hF⟩) (Nat.le_of_ble_eq_true rfl) (Nat.le_of_ble_eq_true rfl) dX9_cash_16
  · skip
    have eT := eT.symm; subst eT
    have hc_ro : Mq1_ ro = some (.inr (7, [.ref w, .ref im, .ref rd, .ref rc, .ref cu])) := (hfr ro n_ro_cs).trans hc_ro
    have hc_w : Mq1_ w = some (.inr (6, [.int 0, .int 2, .int 0, .int 0, .int 0, .int 0, .int 0, .int (-1), .ref cs, .ref bs, .ref tp])) := (hfr w n_w_cs).trans hc_w
    have hc_cs : Mq1_ cs = some (.inl (kA 0, 8, .inl (c100 f))) := hx_cs
    have hF : ∀ q, q ≠ w → q ≠ cs → Mq1_ q = M q := fun q h0 h1 => (hfr q h1).trans (hF q h0 h1)
    have cq5_ : ¬ (0 ≤ ps.toInt ∧ ps.toInt ≤ 7 ∧ 0 ≤ n.toInt ∧ n.toInt ≤ 9999) := cq5_
    refine goI hK hH (runV (As := [.int 30]) (rest := []) hC hK hH (c_X8_note hc_w) mlX9_76 (rcvM hK hH hc_w rfl) ⟨⟨Nat.le_of_ble_eq_true rfl, Nat.le_of_ble_eq_true rfl⟩, Nat.le_of_ble_eq_true rfl, Nat.le_of_ble_eq_true rfl⟩ rfl hl.1 rfl (Nat.le_of_ble_eq_true rfl) dX9_cash_13) (fun rq13_ Mq11_ Tq12_ Hq_ lcq_ hP hz hH => ?_)
    try dsimp only at hP
    obtain ⟨(⟨cq14_, rfl, hx_w⟩ | ⟨cq15_, rfl, hx_w⟩), eT, hfr⟩ := hP
    · skip
      have eT := eT.symm; subst eT
      have hc_ro : Mq11_ ro = some (.inr (7, [.ref w, .ref im, .ref rd, .ref rc, .ref cu])) := (hfr ro n_ro_w).trans hc_ro
      have hc_w : Mq11_ w = some (.inr (6, [.int 0, .int 2, .int 0, .int 0, .int (0 + 1), .int 30, .int 0, .int (-1), .ref cs, .ref bs, .ref tp])) := hx_w
      have hc_cs : Mq11_ cs = some (.inl (kA 0, 8, .inl (c100 f))) := (hfr cs n_cs_w).trans hc_cs
      have hF : ∀ q, q ≠ w → q ≠ cs → Mq11_ q = M q := fun q h0 h1 => (hfr q h0).trans (hF q h0 h1)
      have cq14_ : (30 : Int) ≠ 0 := cq14_
      exact ret_i hC hr hlk hK hH (⟨Or.inr (⟨by omega, rfl⟩), rfl, hF⟩) (Nat.le_of_ble_eq_true rfl) (Nat.le_of_ble_eq_true rfl) dX9_cash_16
    · skip
      have eT := eT.symm; subst eT
      have hc_ro : Mq11_ ro = some (.inr (7, [.ref w, .ref im, .ref rd, .ref rc, .ref cu])) := (hfr ro n_ro_w).trans hc_ro
      have hc_w : Mq11_ w = some (.inr (6, [.int 0, .int 2, .int 0, .int 0, .int 0, .int 30, .int 0, .int (-1), .ref cs, .ref bs, .ref tp])) := hx_w
      have hc_cs : Mq11_ cs = some (.inl (kA 0, 8, .inl (c100 f))) := (hfr cs n_cs_w).trans hc_cs
      have hF : ∀ q, q ≠ w → q ≠ cs → Mq11_ q = M q := fun q h0 h1 => (hfr q h0).trans (hF q h0 h1)
      have cq15_ : (30 : Int) = 0 := cq15_
      exact absurd cq15_ (by omega)
set_option maxHeartbeats 4000000 in
set_option maxRecDepth 100000 in
theorem c_X9_grace {l : Launch} {D : va_G} {kA : Nat → ClassId} {M : mM} {T : mT} {sz : Nat} {ro im rd rc cu : Nat} {w cs bs tp : Nat} {n : Int32} (hc_ro : M ro = some (.inr (7, [.ref w, .ref im, .ref rd, .ref rc, .ref cu]))) (hc_w : M w = some (.inr (6, [.int 0, .int 2, .int 0, .int 0, .int 0, .int 0, .int 0, .int (-1), .ref cs, .ref bs, .ref tp]))) : mCi l yX9_grace cX9_grace 2 (some .int) 1 0 0 D kA M T sz [.ref ro, .int n] (fun r u => (((1 ≤ n.toInt ∧ n.toInt ≤ 9) ∧ r = 0) ∨ ((¬ (1 ≤ n.toInt ∧ n.toInt ≤ 9)) ∧ r = 30)) ∧ u.2 = T ∧ (∀ q, q ≠ w → u.1 q = M q)) := by
  unfold mCi
  refine start_W (by decide) (Nat.le_of_ble_eq_true rfl) ?_
  intro p e s m below meth c ls hC hr hlk hnm hK hH hsz hl
  have hx := hC.1
  have hb := hC.2.1
  have hl : lv_has ls 2 [(0, .ref ro), (1, .int n)] := hl
  have hF : ∀ q, q ≠ w → M q = M q := fun q _ => rfl
  have n_ro_w : ro ≠ w := neM hc_ro hc_w (by simp)
  have n_w_ro : w ≠ ro := neM hc_w hc_ro (by simp)
  refine lv_aload_n hx hb dX9_grace_0 rfl (lv_at hl 0 rfl) ?_
  refine xg hC hK hH flX9_12 hc_ro rfl dX9_grace_1 ?_
  refine lv_aload_n hx hb dX9_grace_4 rfl (lv_at hl 0 rfl) ?_
  refine xg hC hK hH flX9_12 hc_ro rfl dX9_grace_5 ?_
  refine lv_iload_n hx hb dX9_grace_8 rfl (lv_at hl 1 rfl) ?_
  refine goI hK hH (runV (As := [.int n]) (rest := [.ref w]) hC hK hH (c_X8_setGrace hc_w) mlX9_90 (rcvM hK hH hc_w rfl) ⟨⟨Nat.le_of_ble_eq_true rfl, Nat.le_of_ble_eq_true rfl⟩, Nat.le_of_ble_eq_true rfl, Nat.le_of_ble_eq_true rfl⟩ rfl hl.1 rfl (Nat.le_of_ble_eq_true rfl) dX9_grace_9) (fun rq3_ Mq1_ Tq2_ Hq_ lcq_ hP hz hH => ?_)
  try dsimp only at hP
  obtain ⟨(⟨cq4_, rfl, hx_w⟩ | ⟨cq5_, rfl, hx_w⟩), eT, hfr⟩ := hP
  · skip
    have eT := eT.symm; subst eT
    have hc_ro : Mq1_ ro = some (.inr (7, [.ref w, .ref im, .ref rd, .ref rc, .ref cu])) := (hfr ro n_ro_w).trans hc_ro
    have hc_w : Mq1_ w = some (.inr (6, [.int 0, .int n, .int 0, .int 0, .int 0, .int 0, .int 0, .int (-1), .ref cs, .ref bs, .ref tp])) := hx_w
    have hF : ∀ q, q ≠ w → Mq1_ q = M q := fun q h0 => (hfr q h0).trans (hF q h0)
    have cq4_ : 1 ≤ n.toInt ∧ n.toInt ≤ 9 := cq4_
    refine goI hK hH (runV (As := [.int 0]) (rest := []) hC hK hH (c_X8_note hc_w) mlX9_76 (rcvM hK hH hc_w rfl) ⟨⟨Nat.le_of_ble_eq_true rfl, Nat.le_of_ble_eq_true rfl⟩, Nat.le_of_ble_eq_true rfl, Nat.le_of_ble_eq_true rfl⟩ rfl hl.1 rfl (Nat.le_of_ble_eq_true rfl) dX9_grace_12) (fun rq8_ Mq6_ Tq7_ Hq_ lcq_ hP hz hH => ?_)
    try dsimp only at hP
    obtain ⟨(⟨cq9_, rfl, hx_w⟩ | ⟨cq10_, rfl, hx_w⟩), eT, hfr⟩ := hP
    · skip
      have eT := eT.symm; subst eT
      have hc_ro : Mq6_ ro = some (.inr (7, [.ref w, .ref im, .ref rd, .ref rc, .ref cu])) := (hfr ro n_ro_w).trans hc_ro
      have hc_w : Mq6_ w = some (.inr (6, [.int 0, .int n, .int 0, .int 0, .int (0 + 1), .int 0, .int 0, .int (-1), .ref cs, .ref bs, .ref tp])) := hx_w
      have hF : ∀ q, q ≠ w → Mq6_ q = M q := fun q h0 => (hfr q h0).trans (hF q h0)
      have cq9_ : (0 : Int) ≠ 0 := cq9_
      exact absurd cq9_ (by omega)
    · skip
      have eT := eT.symm; subst eT
      have hc_ro : Mq6_ ro = some (.inr (7, [.ref w, .ref im, .ref rd, .ref rc, .ref cu])) := (hfr ro n_ro_w).trans hc_ro
      have hc_w : Mq6_ w = some (.inr (6, [.int 0, .int n, .int 0, .int 0, .int 0, .int 0, .int 0, .int (-1), .ref cs, .ref bs, .ref tp])) := hx_w
      have hF : ∀ q, q ≠ w → Mq6_ q = M q := fun q h0 => (hfr q h0).trans (hF q h0)
      have cq10_ : (0 : Int) = 0 := cq10_
      exact ret_i hC hr hlk hK hH (⟨Or.inl (⟨by omega, rfl⟩), rfl, hF⟩) (Nat.le_of_ble_eq_true rfl) (Nat.le_of_ble_eq_true rfl) dX9_grace_15
  · skip
    have eT := eT.symm; subst eT
    have hc_ro : Mq1_ ro = some (.inr (7, [.ref w, .ref im, .ref rd, .ref rc, .ref cu])) := (hfr ro n_ro_w).trans hc_ro
    have hc_w : Mq1_ w = some (.inr (6, [.int 0, .int 2, .int 0, .int 0, .int 0, .int 0, .int 0, .int (-1), .ref cs, .ref bs, .ref tp])) := hx_w
    have hF : ∀ q, q ≠ w → Mq1_ q = M q := fun q h0 => (hfr q h0).trans (hF q h0)
    have cq5_ : ¬ (1 ≤ n.toInt ∧ n.toInt ≤ 9) := cq5_
    refine goI hK hH (runV (As := [.int 30]) (rest := []) hC hK hH (c_X8_note hc_w) mlX9_76 (rcvM hK hH hc_w rfl) ⟨⟨Nat.le_of_ble_eq_true rfl, Nat.le_of_ble_eq_true rfl⟩, Nat.le_of_ble_eq_true rfl, Nat.le_of_ble_eq_true rfl⟩ rfl hl.1 rfl (Nat.le_of_ble_eq_true rfl) dX9_grace_12) (fun rq13_ Mq11_ Tq12_ Hq_ lcq_ hP hz hH => ?_)
    try dsimp only at hP
    obtain ⟨(⟨cq14_, rfl, hx_w⟩ | ⟨cq15_, rfl, hx_w⟩), eT, hfr⟩ := hP
    · skip
      have eT := eT.symm; subst eT
      have hc_ro : Mq11_ ro = some (.inr (7, [.ref w, .ref im, .ref rd, .ref rc, .ref cu])) := (hfr ro n_ro_w).trans hc_ro
      have hc_w : Mq11_ w = some (.inr (6, [.int 0, .int 2, .int 0, .int 0, .int (0 + 1), .int 30, .int 0, .int (-1), .ref cs, .ref bs, .ref tp])) := hx_w
      have hF : ∀ q, q ≠ w → Mq11_ q = M q := fun q h0 => (hfr q h0).trans (hF q h0)
      have cq14_ : (30 : Int) ≠ 0 := cq14_
      exact ret_i hC hr hlk hK hH (⟨Or.inr (⟨by omega, rfl⟩), rfl, hF⟩) (Nat.le_of_ble_eq_true rfl) (Nat.le_of_ble_eq_true rfl) dX9_grace_15
    · skip
      have eT := eT.symm; subst eT
      have hc_ro : Mq11_ ro = some (.inr (7, [.ref w, .ref im, .ref rd, .ref rc, .ref cu])) := (hfr ro n_ro_w).trans hc_ro
      have hc_w : Mq11_ w = some (.inr (6, [.int 0, .int 2, .int 0, .int 0, .int 0, .int 30, .int 0, .int (-1), .ref cs, .ref bs, .ref tp])) := hx_w
      have hF : ∀ q, q ≠ w → Mq11_ q = M q := fun q h0 => (hfr q h0).trans (hF q h0)
      have cq15_ : (30 : Int) = 0 := cq15_
      exact absurd cq15_ (by omega)
set_option maxHeartbeats 4000000 in
set_option maxRecDepth 100000 in
theorem c_X9_accept {l : Launch} {D : va_G} {kA : Nat → ClassId} {M : mM} {T : mT} {sz : Nat} {ro im rd rc cu : Nat} {w cs bs tp : Nat} {b : Int32} (hc_ro : M ro = some (.inr (7, [.ref w, .ref im, .ref rd, .ref rc, .ref cu]))) (hc_w : M w = some (.inr (6, [.int 0, .int 2, .int 0, .int 0, .int 0, .int 0, .int 0, .int (-1), .ref cs, .ref bs, .ref tp]))) : mCi l yX9_accept cX9_accept 2 (some .int) 2 0 0 D kA M T sz [.ref ro, .int b] (fun r u => (r = 30) ∧ u.2 = T ∧ (∀ q, q ≠ w → u.1 q = M q)) := by
  unfold mCi
  refine start_W (by decide) (Nat.le_of_ble_eq_true rfl) ?_
  intro p e s m below meth c ls hC hr hlk hnm hK hH hsz hl
  have hx := hC.1
  have hb := hC.2.1
  have hl : lv_has ls 2 [(0, .ref ro), (1, .int b)] := hl
  have hF : ∀ q, q ≠ w → M q = M q := fun q _ => rfl
  have n_ro_w : ro ≠ w := neM hc_ro hc_w (by simp)
  have n_w_ro : w ≠ ro := neM hc_w hc_ro (by simp)
  refine lv_aload_n hx hb dX9_accept_0 rfl (lv_at hl 0 rfl) ?_
  refine xg hC hK hH flX9_12 hc_ro rfl dX9_accept_1 ?_
  refine lv_aload_n hx hb dX9_accept_4 rfl (lv_at hl 0 rfl) ?_
  refine xg hC hK hH flX9_12 hc_ro rfl dX9_accept_5 ?_
  refine lv_iload_n hx hb dX9_accept_8 rfl (lv_at hl 1 rfl) ?_
  refine goI hK hH (runV (As := [.int b]) (rest := [.ref w]) hC hK hH (c_X8_acceptOne hc_w) mlX9_100 (rcvM hK hH hc_w rfl) ⟨⟨Nat.le_of_ble_eq_true rfl, Nat.le_of_ble_eq_true rfl⟩, Nat.le_of_ble_eq_true rfl, Nat.le_of_ble_eq_true rfl⟩ rfl hl.1 rfl (Nat.le_of_ble_eq_true rfl) dX9_accept_9) (fun rq3_ Mq1_ Tq2_ Hq_ lcq_ hP hz hH => ?_)
  try dsimp only at hP
  obtain ⟨(rfl), eT, eM⟩ := hP
  have eT := eT.symm; subst eT
  have eM := eM.symm; subst eM
  refine goI hK hH (runV (As := [.int 30]) (rest := []) hC hK hH (c_X8_note hc_w) mlX9_76 (rcvM hK hH hc_w rfl) ⟨⟨Nat.le_of_ble_eq_true rfl, Nat.le_of_ble_eq_true rfl⟩, Nat.le_of_ble_eq_true rfl, Nat.le_of_ble_eq_true rfl⟩ rfl hl.1 rfl (Nat.le_of_ble_eq_true rfl) dX9_accept_12) (fun rq6_ Mq4_ Tq5_ Hq_ lcq_ hP hz hH => ?_)
  try dsimp only at hP
  obtain ⟨(⟨cq7_, rfl, hx_w⟩ | ⟨cq8_, rfl, hx_w⟩), eT, hfr⟩ := hP
  · skip
    have eT := eT.symm; subst eT
    have hc_ro : Mq4_ ro = some (.inr (7, [.ref w, .ref im, .ref rd, .ref rc, .ref cu])) := (hfr ro n_ro_w).trans hc_ro
    have hc_w : Mq4_ w = some (.inr (6, [.int 0, .int 2, .int 0, .int 0, .int (0 + 1), .int 30, .int 0, .int (-1), .ref cs, .ref bs, .ref tp])) := hx_w
    have hF : ∀ q, q ≠ w → Mq4_ q = M q := fun q h0 => (hfr q h0).trans (hF q h0)
    have cq7_ : (30 : Int) ≠ 0 := cq7_
    exact ret_i hC hr hlk hK hH (⟨rfl, rfl, hF⟩) (Nat.le_of_ble_eq_true rfl) (Nat.le_of_ble_eq_true rfl) dX9_accept_15
  · skip
    have eT := eT.symm; subst eT
    have hc_ro : Mq4_ ro = some (.inr (7, [.ref w, .ref im, .ref rd, .ref rc, .ref cu])) := (hfr ro n_ro_w).trans hc_ro
    have hc_w : Mq4_ w = some (.inr (6, [.int 0, .int 2, .int 0, .int 0, .int 0, .int 30, .int 0, .int (-1), .ref cs, .ref bs, .ref tp])) := hx_w
    have hF : ∀ q, q ≠ w → Mq4_ q = M q := fun q h0 => (hfr q h0).trans (hF q h0)
    have cq8_ : (30 : Int) = 0 := cq8_
    exact absurd cq8_ (by omega)
set_option maxHeartbeats 4000000 in
set_option maxRecDepth 100000 in
theorem c_X9_pass {l : Launch} {D : va_G} {kA : Nat → ClassId} {M : mM} {T : mT} {sz : Nat} {ro im rd rc cu : Nat} {w cs bs tp : Nat} {b so to va no : Int32} (hc_ro : M ro = some (.inr (7, [.ref w, .ref im, .ref rd, .ref rc, .ref cu]))) (hc_w : M w = some (.inr (6, [.int 0, .int 2, .int 0, .int 0, .int 0, .int 0, .int 0, .int (-1), .ref cs, .ref bs, .ref tp]))) : mCi l yX9_pass cX9_pass 7 (some .int) 3 0 0 D kA M T sz [.ref ro, .int b, .int so, .int to, .int va, .int no] (fun r u => (r = 30) ∧ u.2 = T ∧ (∀ q, q ≠ w → u.1 q = M q)) := by
  unfold mCi
  refine start_W (by decide) (Nat.le_of_ble_eq_true rfl) ?_
  intro p e s m below meth c ls hC hr hlk hnm hK hH hsz hl
  have hx := hC.1
  have hb := hC.2.1
  have hl : lv_has ls 7 [(0, .ref ro), (1, .int b), (2, .int so), (3, .int to), (4, .int va), (5, .int no)] := hl
  have hF : ∀ q, q ≠ w → M q = M q := fun q _ => rfl
  have n_ro_w : ro ≠ w := neM hc_ro hc_w (by simp)
  have n_w_ro : w ≠ ro := neM hc_w hc_ro (by simp)
  refine lv_iload_n hx hb dX9_pass_0 rfl (lv_at hl 2 rfl) ?_
  refine lv_bipush (v := 10) hx hb dX9_pass_1 (by decide) ?_
  refine jic_lt (tgt := 10) hx hb dX9_pass_3 (by decide) (fun cq1_ => ?_) (fun cq1_ => ?_)
  · skip
    have cq1_ : so.toInt < 10 := cq1_
    refine lv_iconst (v := 0) hx hb dX9_pass_10 (by decide) ?_
    refine lv_istore (lv' := [(6, .int 0), (0, .ref ro), (1, .int b), (2, .int so), (3, .int to), (4, .int va), (5, .int no)]) hx hb dX9_pass_11 hl (by decide) rfl (fun ls hl => ?_)
    refine lv_aload_n hx hb dX9_pass_13 rfl (lv_at hl 1 rfl) ?_
    refine xg hC hK hH flX9_12 hc_ro rfl dX9_pass_14 ?_
    refine lv_aload_n hx hb dX9_pass_17 rfl (lv_at hl 1 rfl) ?_
    refine xg hC hK hH flX9_12 hc_ro rfl dX9_pass_18 ?_
    refine lv_iload_n hx hb dX9_pass_21 rfl (lv_at hl 2 rfl) ?_
    refine lv_iload hx hb dX9_pass_22 (lv_at hl 0 rfl) ?_
    refine jif_eq (tgt := 34) hx hb dX9_pass_24 (by decide) (fun cq2_ => ?_) (fun cq2_ => absurd cq2_ (by decide))
    refine lv_iload_n hx hb dX9_pass_34 rfl (lv_at hl 3 rfl) ?_
    refine lv_iload_n hx hb dX9_pass_35 rfl (lv_at hl 4 rfl) ?_
    refine lv_iload hx hb dX9_pass_36 (lv_at hl 5 rfl) ?_
    refine lv_iload hx hb dX9_pass_38 (lv_at hl 6 rfl) ?_
    refine lv_iload hx hb dX9_pass_40 (lv_at hl 0 rfl) ?_
    refine goI hK hH (runV (As := [.int b, .int so, .int to, .int va, .int no, .int 0]) (rest := [.ref w]) hC hK hH (c_X8_passOn hc_w) mlX9_103 (rcvM hK hH hc_w rfl) ⟨⟨Nat.le_of_ble_eq_true rfl, Nat.le_of_ble_eq_true rfl⟩, Nat.le_of_ble_eq_true rfl, Nat.le_of_ble_eq_true rfl⟩ rfl hl.1 rfl (Nat.le_of_ble_eq_true rfl) dX9_pass_42) (fun rq5_ Mq3_ Tq4_ Hq_ lcq_ hP hz hH => ?_)
    try dsimp only at hP
    obtain ⟨(rfl), eT, eM⟩ := hP
    have eT := eT.symm; subst eT
    have eM := eM.symm; subst eM
    refine goI hK hH (runV (As := [.int 30]) (rest := []) hC hK hH (c_X8_note hc_w) mlX9_76 (rcvM hK hH hc_w rfl) ⟨⟨Nat.le_of_ble_eq_true rfl, Nat.le_of_ble_eq_true rfl⟩, Nat.le_of_ble_eq_true rfl, Nat.le_of_ble_eq_true rfl⟩ rfl hl.1 rfl (Nat.le_of_ble_eq_true rfl) dX9_pass_45) (fun rq8_ Mq6_ Tq7_ Hq_ lcq_ hP hz hH => ?_)
    try dsimp only at hP
    obtain ⟨(⟨cq9_, rfl, hx_w⟩ | ⟨cq10_, rfl, hx_w⟩), eT, hfr⟩ := hP
    · skip
      have eT := eT.symm; subst eT
      have hc_ro : Mq6_ ro = some (.inr (7, [.ref w, .ref im, .ref rd, .ref rc, .ref cu])) := (hfr ro n_ro_w).trans hc_ro
      have hc_w : Mq6_ w = some (.inr (6, [.int 0, .int 2, .int 0, .int 0, .int (0 + 1), .int 30, .int 0, .int (-1), .ref cs, .ref bs, .ref tp])) := hx_w
      have hF : ∀ q, q ≠ w → Mq6_ q = M q := fun q h0 => (hfr q h0).trans (hF q h0)
      have cq9_ : (30 : Int) ≠ 0 := cq9_
      exact ret_i hC hr hlk hK hH (⟨rfl, rfl, hF⟩) (Nat.le_of_ble_eq_true rfl) (Nat.le_of_ble_eq_true rfl) dX9_pass_48
    · skip
      have eT := eT.symm; subst eT
      have hc_ro : Mq6_ ro = some (.inr (7, [.ref w, .ref im, .ref rd, .ref rc, .ref cu])) := (hfr ro n_ro_w).trans hc_ro
      have hc_w : Mq6_ w = some (.inr (6, [.int 0, .int 2, .int 0, .int 0, .int 0, .int 30, .int 0, .int (-1), .ref cs, .ref bs, .ref tp])) := hx_w
      have hF : ∀ q, q ≠ w → Mq6_ q = M q := fun q h0 => (hfr q h0).trans (hF q h0)
      have cq10_ : (30 : Int) = 0 := cq10_
      exact absurd cq10_ (by omega)
  · skip
    have cq1_ : 10 ≤ so.toInt := cq1_
    refine lv_iconst (v := 1) hx hb dX9_pass_6 (by decide) ?_
    refine lv_goto (tgt := 11) hx hb dX9_pass_7 (by decide) ?_
    refine lv_istore (lv' := [(6, .int 1), (0, .ref ro), (1, .int b), (2, .int so), (3, .int to), (4, .int va), (5, .int no)]) hx hb dX9_pass_11 hl (by decide) rfl (fun ls hl => ?_)
    refine lv_aload_n hx hb dX9_pass_13 rfl (lv_at hl 1 rfl) ?_
    refine xg hC hK hH flX9_12 hc_ro rfl dX9_pass_14 ?_
    refine lv_aload_n hx hb dX9_pass_17 rfl (lv_at hl 1 rfl) ?_
    refine xg hC hK hH flX9_12 hc_ro rfl dX9_pass_18 ?_
    refine lv_iload_n hx hb dX9_pass_21 rfl (lv_at hl 2 rfl) ?_
    refine lv_iload hx hb dX9_pass_22 (lv_at hl 0 rfl) ?_
    refine jif_eq (tgt := 34) hx hb dX9_pass_24 (by decide) (fun cq11_ => absurd cq11_ (by decide)) (fun cq11_ => ?_)
    refine lv_iload_n hx hb dX9_pass_27 rfl (lv_at hl 3 rfl) ?_
    refine lv_bipush (v := 10) hx hb dX9_pass_28 (by decide) ?_
    refine lv_isub hx hb dX9_pass_30 ?_
    refine lv_topi (fun zq12_ e_zq12_ => ?_)
    have h_zq12_ : zq12_.toInt = so.toInt - 10 := by rw [e_zq12_, iSub (by have := iRg so; have : (10 : Int32).toInt = 10 := rfl; omega) (by have := iRg so; have : (10 : Int32).toInt = 10 := rfl; omega)]; rfl
    refine lv_goto (tgt := 35) hx hb dX9_pass_31 (by decide) ?_
    refine lv_iload_n hx hb dX9_pass_35 rfl (lv_at hl 4 rfl) ?_
    refine lv_iload hx hb dX9_pass_36 (lv_at hl 5 rfl) ?_
    refine lv_iload hx hb dX9_pass_38 (lv_at hl 6 rfl) ?_
    refine lv_iload hx hb dX9_pass_40 (lv_at hl 0 rfl) ?_
    refine goI hK hH (runV (As := [.int b, .int zq12_, .int to, .int va, .int no, .int 1]) (rest := [.ref w]) hC hK hH (c_X8_passOn hc_w) mlX9_103 (rcvM hK hH hc_w rfl) ⟨⟨Nat.le_of_ble_eq_true rfl, Nat.le_of_ble_eq_true rfl⟩, Nat.le_of_ble_eq_true rfl, Nat.le_of_ble_eq_true rfl⟩ rfl hl.1 rfl (Nat.le_of_ble_eq_true rfl) dX9_pass_42) (fun rq15_ Mq13_ Tq14_ Hq_ lcq_ hP hz hH => ?_)
    try dsimp only at hP
    obtain ⟨(rfl), eT, eM⟩ := hP
    have eT := eT.symm; subst eT
    have eM := eM.symm; subst eM
    refine goI hK hH (runV (As := [.int 30]) (rest := []) hC hK hH (c_X8_note hc_w) mlX9_76 (rcvM hK hH hc_w rfl) ⟨⟨Nat.le_of_ble_eq_true rfl, Nat.le_of_ble_eq_true rfl⟩, Nat.le_of_ble_eq_true rfl, Nat.le_of_ble_eq_true rfl⟩ rfl hl.1 rfl (Nat.le_of_ble_eq_true rfl) dX9_pass_45) (fun rq18_ Mq16_ Tq17_ Hq_ lcq_ hP hz hH => ?_)
    try dsimp only at hP
    obtain ⟨(⟨cq19_, rfl, hx_w⟩ | ⟨cq20_, rfl, hx_w⟩), eT, hfr⟩ := hP
    · skip
      have eT := eT.symm; subst eT
      have hc_ro : Mq16_ ro = some (.inr (7, [.ref w, .ref im, .ref rd, .ref rc, .ref cu])) := (hfr ro n_ro_w).trans hc_ro
      have hc_w : Mq16_ w = some (.inr (6, [.int 0, .int 2, .int 0, .int 0, .int (0 + 1), .int 30, .int 0, .int (-1), .ref cs, .ref bs, .ref tp])) := hx_w
      have hF : ∀ q, q ≠ w → Mq16_ q = M q := fun q h0 => (hfr q h0).trans (hF q h0)
      have cq19_ : (30 : Int) ≠ 0 := cq19_
      subst e_zq12_
      exact ret_i hC hr hlk hK hH (⟨rfl, rfl, hF⟩) (Nat.le_of_ble_eq_true rfl) (Nat.le_of_ble_eq_true rfl) dX9_pass_48
    · skip
      have eT := eT.symm; subst eT
      have hc_ro : Mq16_ ro = some (.inr (7, [.ref w, .ref im, .ref rd, .ref rc, .ref cu])) := (hfr ro n_ro_w).trans hc_ro
      have hc_w : Mq16_ w = some (.inr (6, [.int 0, .int 2, .int 0, .int 0, .int 0, .int 30, .int 0, .int (-1), .ref cs, .ref bs, .ref tp])) := hx_w
      have hF : ∀ q, q ≠ w → Mq16_ q = M q := fun q h0 => (hfr q h0).trans (hF q h0)
      have cq20_ : (30 : Int) = 0 := cq20_
      exact absurd cq20_ (by omega)
set_option maxHeartbeats 4000000 in
set_option maxRecDepth 100000 in
theorem c_X9_forge {l : Launch} {D : va_G} {kA : Nat → ClassId} {M : mM} {T : mT} {sz : Nat} {ro im rd rc cu : Nat} {w cs bs tp : Nat} {b nm to va no : Int32} (hc_ro : M ro = some (.inr (7, [.ref w, .ref im, .ref rd, .ref rc, .ref cu]))) (hc_w : M w = some (.inr (6, [.int 0, .int 2, .int 0, .int 0, .int 0, .int 0, .int 0, .int (-1), .ref cs, .ref bs, .ref tp]))) : mCi l yX9_forge cX9_forge 6 (some .int) 3 0 0 D kA M T sz [.ref ro, .int b, .int nm, .int to, .int va, .int no] (fun r u => (r = 30) ∧ u.2 = T ∧ (∀ q, q ≠ w → u.1 q = M q)) := by
  unfold mCi
  refine start_W (by decide) (Nat.le_of_ble_eq_true rfl) ?_
  intro p e s m below meth c ls hC hr hlk hnm hK hH hsz hl
  have hx := hC.1
  have hb := hC.2.1
  have hl : lv_has ls 6 [(0, .ref ro), (1, .int b), (2, .int nm), (3, .int to), (4, .int va), (5, .int no)] := hl
  have hF : ∀ q, q ≠ w → M q = M q := fun q _ => rfl
  have n_ro_w : ro ≠ w := neM hc_ro hc_w (by simp)
  have n_w_ro : w ≠ ro := neM hc_w hc_ro (by simp)
  refine lv_aload_n hx hb dX9_forge_0 rfl (lv_at hl 0 rfl) ?_
  refine xg hC hK hH flX9_12 hc_ro rfl dX9_forge_1 ?_
  refine lv_aload_n hx hb dX9_forge_4 rfl (lv_at hl 0 rfl) ?_
  refine xg hC hK hH flX9_12 hc_ro rfl dX9_forge_5 ?_
  refine lv_iload_n hx hb dX9_forge_8 rfl (lv_at hl 1 rfl) ?_
  refine lv_iload_n hx hb dX9_forge_9 rfl (lv_at hl 2 rfl) ?_
  refine lv_iload_n hx hb dX9_forge_10 rfl (lv_at hl 3 rfl) ?_
  refine lv_iload hx hb dX9_forge_11 (lv_at hl 4 rfl) ?_
  refine lv_iload hx hb dX9_forge_13 (lv_at hl 5 rfl) ?_
  refine goI hK hH (runV (As := [.int b, .int nm, .int to, .int va, .int no]) (rest := [.ref w]) hC hK hH (c_X8_passForged hc_w) mlX9_107 (rcvM hK hH hc_w rfl) ⟨⟨Nat.le_of_ble_eq_true rfl, Nat.le_of_ble_eq_true rfl⟩, Nat.le_of_ble_eq_true rfl, Nat.le_of_ble_eq_true rfl⟩ rfl hl.1 rfl (Nat.le_of_ble_eq_true rfl) dX9_forge_15) (fun rq3_ Mq1_ Tq2_ Hq_ lcq_ hP hz hH => ?_)
  try dsimp only at hP
  obtain ⟨(rfl), eT, eM⟩ := hP
  have eT := eT.symm; subst eT
  have eM := eM.symm; subst eM
  refine goI hK hH (runV (As := [.int 30]) (rest := []) hC hK hH (c_X8_note hc_w) mlX9_76 (rcvM hK hH hc_w rfl) ⟨⟨Nat.le_of_ble_eq_true rfl, Nat.le_of_ble_eq_true rfl⟩, Nat.le_of_ble_eq_true rfl, Nat.le_of_ble_eq_true rfl⟩ rfl hl.1 rfl (Nat.le_of_ble_eq_true rfl) dX9_forge_18) (fun rq6_ Mq4_ Tq5_ Hq_ lcq_ hP hz hH => ?_)
  try dsimp only at hP
  obtain ⟨(⟨cq7_, rfl, hx_w⟩ | ⟨cq8_, rfl, hx_w⟩), eT, hfr⟩ := hP
  · skip
    have eT := eT.symm; subst eT
    have hc_ro : Mq4_ ro = some (.inr (7, [.ref w, .ref im, .ref rd, .ref rc, .ref cu])) := (hfr ro n_ro_w).trans hc_ro
    have hc_w : Mq4_ w = some (.inr (6, [.int 0, .int 2, .int 0, .int 0, .int (0 + 1), .int 30, .int 0, .int (-1), .ref cs, .ref bs, .ref tp])) := hx_w
    have hF : ∀ q, q ≠ w → Mq4_ q = M q := fun q h0 => (hfr q h0).trans (hF q h0)
    have cq7_ : (30 : Int) ≠ 0 := cq7_
    exact ret_i hC hr hlk hK hH (⟨rfl, rfl, hF⟩) (Nat.le_of_ble_eq_true rfl) (Nat.le_of_ble_eq_true rfl) dX9_forge_21
  · skip
    have eT := eT.symm; subst eT
    have hc_ro : Mq4_ ro = some (.inr (7, [.ref w, .ref im, .ref rd, .ref rc, .ref cu])) := (hfr ro n_ro_w).trans hc_ro
    have hc_w : Mq4_ w = some (.inr (6, [.int 0, .int 2, .int 0, .int 0, .int 0, .int 30, .int 0, .int (-1), .ref cs, .ref bs, .ref tp])) := hx_w
    have hF : ∀ q, q ≠ w → Mq4_ q = M q := fun q h0 => (hfr q h0).trans (hF q h0)
    have cq8_ : (30 : Int) = 0 := cq8_
    exact absurd cq8_ (by omega)
set_option maxHeartbeats 4000000 in
set_option maxRecDepth 100000 in
theorem c_X9_find {l : Launch} {D : va_G} {kA : Nat → ClassId} {M : mM} {T : mT} {sz : Nat} {ro im rd rc cu : Nat} {w cs bs tp : Nat} {b by_ : Int32} (hc_ro : M ro = some (.inr (7, [.ref w, .ref im, .ref rd, .ref rc, .ref cu]))) (hc_w : M w = some (.inr (6, [.int 0, .int 2, .int 0, .int 0, .int 0, .int 0, .int 0, .int (-1), .ref cs, .ref bs, .ref tp]))) : mCi l yX9_find cX9_find 3 (some .int) 3 0 0 D kA M T sz [.ref ro, .int b, .int by_] (fun r u => (r = 30) ∧ u.2 = T ∧ (∀ q, q ≠ w → u.1 q = M q)) := by
  unfold mCi
  refine start_W (by decide) (Nat.le_of_ble_eq_true rfl) ?_
  intro p e s m below meth c ls hC hr hlk hnm hK hH hsz hl
  have hx := hC.1
  have hb := hC.2.1
  have hl : lv_has ls 3 [(0, .ref ro), (1, .int b), (2, .int by_)] := hl
  have hF : ∀ q, q ≠ w → M q = M q := fun q _ => rfl
  have n_ro_w : ro ≠ w := neM hc_ro hc_w (by simp)
  have n_w_ro : w ≠ ro := neM hc_w hc_ro (by simp)
  refine lv_aload_n hx hb dX9_find_0 rfl (lv_at hl 0 rfl) ?_
  refine xg hC hK hH flX9_12 hc_ro rfl dX9_find_1 ?_
  refine lv_aload_n hx hb dX9_find_4 rfl (lv_at hl 0 rfl) ?_
  refine xg hC hK hH flX9_12 hc_ro rfl dX9_find_5 ?_
  refine lv_iload_n hx hb dX9_find_8 rfl (lv_at hl 1 rfl) ?_
  refine lv_iload_n hx hb dX9_find_9 rfl (lv_at hl 2 rfl) ?_
  refine goI hK hH (runV (As := [.int b, .int by_]) (rest := [.ref w]) hC hK hH (c_X8_findOne hc_w) mlX9_111 (rcvM hK hH hc_w rfl) ⟨⟨Nat.le_of_ble_eq_true rfl, Nat.le_of_ble_eq_true rfl⟩, Nat.le_of_ble_eq_true rfl, Nat.le_of_ble_eq_true rfl⟩ rfl hl.1 rfl (Nat.le_of_ble_eq_true rfl) dX9_find_10) (fun rq3_ Mq1_ Tq2_ Hq_ lcq_ hP hz hH => ?_)
  try dsimp only at hP
  obtain ⟨(rfl), eT, eM⟩ := hP
  have eT := eT.symm; subst eT
  have eM := eM.symm; subst eM
  refine goI hK hH (runV (As := [.int 30]) (rest := []) hC hK hH (c_X8_note hc_w) mlX9_76 (rcvM hK hH hc_w rfl) ⟨⟨Nat.le_of_ble_eq_true rfl, Nat.le_of_ble_eq_true rfl⟩, Nat.le_of_ble_eq_true rfl, Nat.le_of_ble_eq_true rfl⟩ rfl hl.1 rfl (Nat.le_of_ble_eq_true rfl) dX9_find_13) (fun rq6_ Mq4_ Tq5_ Hq_ lcq_ hP hz hH => ?_)
  try dsimp only at hP
  obtain ⟨(⟨cq7_, rfl, hx_w⟩ | ⟨cq8_, rfl, hx_w⟩), eT, hfr⟩ := hP
  · skip
    have eT := eT.symm; subst eT
    have hc_ro : Mq4_ ro = some (.inr (7, [.ref w, .ref im, .ref rd, .ref rc, .ref cu])) := (hfr ro n_ro_w).trans hc_ro
    have hc_w : Mq4_ w = some (.inr (6, [.int 0, .int 2, .int 0, .int 0, .int (0 + 1), .int 30, .int 0, .int (-1), .ref cs, .ref bs, .ref tp])) := hx_w
    have hF : ∀ q, q ≠ w → Mq4_ q = M q := fun q h0 => (hfr q h0).trans (hF q h0)
    have cq7_ : (30 : Int) ≠ 0 := cq7_
    exact ret_i hC hr hlk hK hH (⟨rfl, rfl, hF⟩) (Nat.le_of_ble_eq_true rfl) (Nat.le_of_ble_eq_true rfl) dX9_find_16
  · skip
    have eT := eT.symm; subst eT
    have hc_ro : Mq4_ ro = some (.inr (7, [.ref w, .ref im, .ref rd, .ref rc, .ref cu])) := (hfr ro n_ro_w).trans hc_ro
    have hc_w : Mq4_ w = some (.inr (6, [.int 0, .int 2, .int 0, .int 0, .int 0, .int 30, .int 0, .int (-1), .ref cs, .ref bs, .ref tp])) := hx_w
    have hF : ∀ q, q ≠ w → Mq4_ q = M q := fun q h0 => (hfr q h0).trans (hF q h0)
    have cq8_ : (30 : Int) = 0 := cq8_
    exact absurd cq8_ (by omega)
set_option maxHeartbeats 4000000 in
set_option maxRecDepth 100000 in
theorem c_X9_defend {l : Launch} {D : va_G} {kA : Nat → ClassId} {M : mM} {T : mT} {sz : Nat} {ro im rd rc cu : Nat} {w cs bs tp : Nat} {b pt re : Int32} (hc_ro : M ro = some (.inr (7, [.ref w, .ref im, .ref rd, .ref rc, .ref cu]))) (hc_w : M w = some (.inr (6, [.int 0, .int 2, .int 0, .int 0, .int 0, .int 0, .int 0, .int (-1), .ref cs, .ref bs, .ref tp]))) : mCi l yX9_defend cX9_defend 4 (some .int) 4 0 0 D kA M T sz [.ref ro, .int b, .int pt, .int re] (fun r u => (r = 30) ∧ u.2 = T ∧ (∀ q, q ≠ w → u.1 q = M q)) := by
  unfold mCi
  refine start_W (by decide) (Nat.le_of_ble_eq_true rfl) ?_
  intro p e s m below meth c ls hC hr hlk hnm hK hH hsz hl
  have hx := hC.1
  have hb := hC.2.1
  have hl : lv_has ls 4 [(0, .ref ro), (1, .int b), (2, .int pt), (3, .int re)] := hl
  have hF : ∀ q, q ≠ w → M q = M q := fun q _ => rfl
  have n_ro_w : ro ≠ w := neM hc_ro hc_w (by simp)
  have n_w_ro : w ≠ ro := neM hc_w hc_ro (by simp)
  refine lv_aload_n hx hb dX9_defend_0 rfl (lv_at hl 0 rfl) ?_
  refine xg hC hK hH flX9_12 hc_ro rfl dX9_defend_1 ?_
  refine lv_aload_n hx hb dX9_defend_4 rfl (lv_at hl 0 rfl) ?_
  refine xg hC hK hH flX9_12 hc_ro rfl dX9_defend_5 ?_
  refine lv_iload_n hx hb dX9_defend_8 rfl (lv_at hl 1 rfl) ?_
  refine lv_iload_n hx hb dX9_defend_9 rfl (lv_at hl 2 rfl) ?_
  refine lv_iload_n hx hb dX9_defend_10 rfl (lv_at hl 3 rfl) ?_
  refine goI hK hH (runV (As := [.int b, .int pt, .int re]) (rest := [.ref w]) hC hK hH (c_X8_giveDefence hc_w) mlX9_114 (rcvM hK hH hc_w rfl) ⟨⟨Nat.le_of_ble_eq_true rfl, Nat.le_of_ble_eq_true rfl⟩, Nat.le_of_ble_eq_true rfl, Nat.le_of_ble_eq_true rfl⟩ rfl hl.1 rfl (Nat.le_of_ble_eq_true rfl) dX9_defend_11) (fun rq3_ Mq1_ Tq2_ Hq_ lcq_ hP hz hH => ?_)
  try dsimp only at hP
  obtain ⟨(rfl), eT, eM⟩ := hP
  have eT := eT.symm; subst eT
  have eM := eM.symm; subst eM
  refine goI hK hH (runV (As := [.int 30]) (rest := []) hC hK hH (c_X8_note hc_w) mlX9_76 (rcvM hK hH hc_w rfl) ⟨⟨Nat.le_of_ble_eq_true rfl, Nat.le_of_ble_eq_true rfl⟩, Nat.le_of_ble_eq_true rfl, Nat.le_of_ble_eq_true rfl⟩ rfl hl.1 rfl (Nat.le_of_ble_eq_true rfl) dX9_defend_14) (fun rq6_ Mq4_ Tq5_ Hq_ lcq_ hP hz hH => ?_)
  try dsimp only at hP
  obtain ⟨(⟨cq7_, rfl, hx_w⟩ | ⟨cq8_, rfl, hx_w⟩), eT, hfr⟩ := hP
  · skip
    have eT := eT.symm; subst eT
    have hc_ro : Mq4_ ro = some (.inr (7, [.ref w, .ref im, .ref rd, .ref rc, .ref cu])) := (hfr ro n_ro_w).trans hc_ro
    have hc_w : Mq4_ w = some (.inr (6, [.int 0, .int 2, .int 0, .int 0, .int (0 + 1), .int 30, .int 0, .int (-1), .ref cs, .ref bs, .ref tp])) := hx_w
    have hF : ∀ q, q ≠ w → Mq4_ q = M q := fun q h0 => (hfr q h0).trans (hF q h0)
    have cq7_ : (30 : Int) ≠ 0 := cq7_
    exact ret_i hC hr hlk hK hH (⟨rfl, rfl, hF⟩) (Nat.le_of_ble_eq_true rfl) (Nat.le_of_ble_eq_true rfl) dX9_defend_17
  · skip
    have eT := eT.symm; subst eT
    have hc_ro : Mq4_ ro = some (.inr (7, [.ref w, .ref im, .ref rd, .ref rc, .ref cu])) := (hfr ro n_ro_w).trans hc_ro
    have hc_w : Mq4_ w = some (.inr (6, [.int 0, .int 2, .int 0, .int 0, .int 0, .int 30, .int 0, .int (-1), .ref cs, .ref bs, .ref tp])) := hx_w
    have hF : ∀ q, q ≠ w → Mq4_ q = M q := fun q h0 => (hfr q h0).trans (hF q h0)
    have cq8_ : (30 : Int) = 0 := cq8_
    exact absurd cq8_ (by omega)
set_option maxHeartbeats 4000000 in
set_option maxRecDepth 100000 in
theorem c_X9_present {l : Launch} {D : va_G} {kA : Nat → ClassId} {M : mM} {T : mT} {sz : Nat} {ro im rd rc cu : Nat} {w cs bs tp : Nat} {b : Int32} (hc_ro : M ro = some (.inr (7, [.ref w, .ref im, .ref rd, .ref rc, .ref cu]))) (hc_w : M w = some (.inr (6, [.int 0, .int 2, .int 0, .int 0, .int 0, .int 0, .int 0, .int (-1), .ref cs, .ref bs, .ref tp]))) : mCi l yX9_present cX9_present 3 (some .int) 2 0 0 D kA M T sz [.ref ro, .int b] (fun r u => (r = 30) ∧ u.2 = T ∧ (∀ q, q ≠ w → u.1 q = M q)) := by
  unfold mCi
  refine start_W (by decide) (Nat.le_of_ble_eq_true rfl) ?_
  intro p e s m below meth c ls hC hr hlk hnm hK hH hsz hl
  have hx := hC.1
  have hb := hC.2.1
  have hl : lv_has ls 3 [(0, .ref ro), (1, .int b)] := hl
  have hF : ∀ q, q ≠ w → M q = M q := fun q _ => rfl
  have n_ro_w : ro ≠ w := neM hc_ro hc_w (by simp)
  have n_w_ro : w ≠ ro := neM hc_w hc_ro (by simp)
  refine lv_aload_n hx hb dX9_present_0 rfl (lv_at hl 0 rfl) ?_
  refine xg hC hK hH flX9_12 hc_ro rfl dX9_present_1 ?_
  refine lv_iload_n hx hb dX9_present_4 rfl (lv_at hl 1 rfl) ?_
  refine goI hK hH (runV (As := [.int b]) (rest := []) hC hK hH (c_X8_presentOne hc_w) mlX9_118 (rcvM hK hH hc_w rfl) ⟨⟨Nat.le_of_ble_eq_true rfl, Nat.le_of_ble_eq_true rfl⟩, Nat.le_of_ble_eq_true rfl, Nat.le_of_ble_eq_true rfl⟩ rfl hl.1 rfl (Nat.le_of_ble_eq_true rfl) dX9_present_5) (fun rq3_ Mq1_ Tq2_ Hq_ lcq_ hP hz hH => ?_)
  try dsimp only at hP
  obtain ⟨(rfl), eT, eM⟩ := hP
  have eT := eT.symm; subst eT
  have eM := eM.symm; subst eM
  refine lv_istore_n (lv' := [(2, .int 30), (0, .ref ro), (1, .int b)]) hx hb dX9_present_8 rfl hl (by decide) rfl (fun ls hl => ?_)
  refine lv_aload_n hx hb dX9_present_9 rfl (lv_at hl 1 rfl) ?_
  refine xg hC hK hH flX9_12 hc_ro rfl dX9_present_10 ?_
  refine lv_iload_n hx hb dX9_present_13 rfl (lv_at hl 0 rfl) ?_
  refine goI hK hH (runS (As := [.int 30]) (rest := [.ref w]) hC hK hH (c_X9_refusalOf) mlX9_121 ⟨⟨Nat.le_of_ble_eq_true rfl, Nat.le_of_ble_eq_true rfl⟩, Nat.le_of_ble_eq_true rfl, Nat.le_of_ble_eq_true rfl⟩ rfl hl.1 rfl (Nat.le_of_ble_eq_true rfl) dX9_present_14) (fun rq6_ Mq4_ Tq5_ Hq_ lcq_ hP hz hH => ?_)
  try dsimp only at hP
  obtain ⟨(⟨cq7_, rfl⟩ | ⟨cq8_, rfl⟩), eT, eM⟩ := hP
  · skip
    have eT := eT.symm; subst eT
    have eM := eM.symm; subst eM
    have cq7_ : (30 : Int) = 1 := cq7_
    exact absurd cq7_ (by omega)
  · skip
    have eT := eT.symm; subst eT
    have eM := eM.symm; subst eM
    have cq8_ : (30 : Int) ≠ 1 := cq8_
    refine goI hK hH (runV (As := [.int 30]) (rest := []) hC hK hH (c_X8_note hc_w) mlX9_76 (rcvM hK hH hc_w rfl) ⟨⟨Nat.le_of_ble_eq_true rfl, Nat.le_of_ble_eq_true rfl⟩, Nat.le_of_ble_eq_true rfl, Nat.le_of_ble_eq_true rfl⟩ rfl hl.1 rfl (Nat.le_of_ble_eq_true rfl) dX9_present_17) (fun rq11_ Mq9_ Tq10_ Hq_ lcq_ hP hz hH => ?_)
    try dsimp only at hP
    obtain ⟨(⟨cq12_, rfl, hx_w⟩ | ⟨cq13_, rfl, hx_w⟩), eT, hfr⟩ := hP
    · skip
      have eT := eT.symm; subst eT
      have hc_ro : Mq9_ ro = some (.inr (7, [.ref w, .ref im, .ref rd, .ref rc, .ref cu])) := (hfr ro n_ro_w).trans hc_ro
      have hc_w : Mq9_ w = some (.inr (6, [.int 0, .int 2, .int 0, .int 0, .int (0 + 1), .int 30, .int 0, .int (-1), .ref cs, .ref bs, .ref tp])) := hx_w
      have hF : ∀ q, q ≠ w → Mq9_ q = M q := fun q h0 => (hfr q h0).trans (hF q h0)
      have cq12_ : (30 : Int) ≠ 0 := cq12_
      refine lv_pop hx hb dX9_present_20 rfl ?_
      refine lv_iload_n hx hb dX9_present_21 rfl (lv_at hl 0 rfl) ?_
      exact ret_i hC hr hlk hK hH (⟨rfl, rfl, hF⟩) (Nat.le_of_ble_eq_true rfl) (Nat.le_of_ble_eq_true rfl) dX9_present_22
    · skip
      have eT := eT.symm; subst eT
      have hc_ro : Mq9_ ro = some (.inr (7, [.ref w, .ref im, .ref rd, .ref rc, .ref cu])) := (hfr ro n_ro_w).trans hc_ro
      have hc_w : Mq9_ w = some (.inr (6, [.int 0, .int 2, .int 0, .int 0, .int 0, .int 30, .int 0, .int (-1), .ref cs, .ref bs, .ref tp])) := hx_w
      have hF : ∀ q, q ≠ w → Mq9_ q = M q := fun q h0 => (hfr q h0).trans (hF q h0)
      have cq13_ : (30 : Int) = 0 := cq13_
      exact absurd cq13_ (by omega)
set_option maxHeartbeats 4000000 in
set_option maxRecDepth 100000 in
theorem c_X9_tell {l : Launch} {D : va_G} {kA : Nat → ClassId} {M : mM} {T : mT} {sz : Nat} {ro im rd rc cu : Nat} {w cs bs tp : Nat} {b fr to : Int32} (hc_ro : M ro = some (.inr (7, [.ref w, .ref im, .ref rd, .ref rc, .ref cu]))) (hc_w : M w = some (.inr (6, [.int 0, .int 2, .int 0, .int 0, .int 0, .int 0, .int 0, .int (-1), .ref cs, .ref bs, .ref tp]))) : mCi l yX9_tell cX9_tell 4 (some .int) 4 0 0 D kA M T sz [.ref ro, .int b, .int fr, .int to] (fun r u => (r = 30) ∧ u.2 = T ∧ (∀ q, q ≠ w → u.1 q = M q)) := by
  unfold mCi
  refine start_W (by decide) (Nat.le_of_ble_eq_true rfl) ?_
  intro p e s m below meth c ls hC hr hlk hnm hK hH hsz hl
  have hx := hC.1
  have hb := hC.2.1
  have hl : lv_has ls 4 [(0, .ref ro), (1, .int b), (2, .int fr), (3, .int to)] := hl
  have hF : ∀ q, q ≠ w → M q = M q := fun q _ => rfl
  have n_ro_w : ro ≠ w := neM hc_ro hc_w (by simp)
  have n_w_ro : w ≠ ro := neM hc_w hc_ro (by simp)
  refine lv_aload_n hx hb dX9_tell_0 rfl (lv_at hl 0 rfl) ?_
  refine xg hC hK hH flX9_12 hc_ro rfl dX9_tell_1 ?_
  refine lv_aload_n hx hb dX9_tell_4 rfl (lv_at hl 0 rfl) ?_
  refine xg hC hK hH flX9_12 hc_ro rfl dX9_tell_5 ?_
  refine lv_iload_n hx hb dX9_tell_8 rfl (lv_at hl 1 rfl) ?_
  refine lv_iload_n hx hb dX9_tell_9 rfl (lv_at hl 2 rfl) ?_
  refine lv_iload_n hx hb dX9_tell_10 rfl (lv_at hl 3 rfl) ?_
  refine goI hK hH (runV (As := [.int b, .int fr, .int to]) (rest := [.ref w]) hC hK hH (c_X8_giveNotice hc_w) mlX9_124 (rcvM hK hH hc_w rfl) ⟨⟨Nat.le_of_ble_eq_true rfl, Nat.le_of_ble_eq_true rfl⟩, Nat.le_of_ble_eq_true rfl, Nat.le_of_ble_eq_true rfl⟩ rfl hl.1 rfl (Nat.le_of_ble_eq_true rfl) dX9_tell_11) (fun rq3_ Mq1_ Tq2_ Hq_ lcq_ hP hz hH => ?_)
  try dsimp only at hP
  obtain ⟨(rfl), eT, eM⟩ := hP
  have eT := eT.symm; subst eT
  have eM := eM.symm; subst eM
  refine goI hK hH (runV (As := [.int 30]) (rest := []) hC hK hH (c_X8_note hc_w) mlX9_76 (rcvM hK hH hc_w rfl) ⟨⟨Nat.le_of_ble_eq_true rfl, Nat.le_of_ble_eq_true rfl⟩, Nat.le_of_ble_eq_true rfl, Nat.le_of_ble_eq_true rfl⟩ rfl hl.1 rfl (Nat.le_of_ble_eq_true rfl) dX9_tell_14) (fun rq6_ Mq4_ Tq5_ Hq_ lcq_ hP hz hH => ?_)
  try dsimp only at hP
  obtain ⟨(⟨cq7_, rfl, hx_w⟩ | ⟨cq8_, rfl, hx_w⟩), eT, hfr⟩ := hP
  · skip
    have eT := eT.symm; subst eT
    have hc_ro : Mq4_ ro = some (.inr (7, [.ref w, .ref im, .ref rd, .ref rc, .ref cu])) := (hfr ro n_ro_w).trans hc_ro
    have hc_w : Mq4_ w = some (.inr (6, [.int 0, .int 2, .int 0, .int 0, .int (0 + 1), .int 30, .int 0, .int (-1), .ref cs, .ref bs, .ref tp])) := hx_w
    have hF : ∀ q, q ≠ w → Mq4_ q = M q := fun q h0 => (hfr q h0).trans (hF q h0)
    have cq7_ : (30 : Int) ≠ 0 := cq7_
    exact ret_i hC hr hlk hK hH (⟨rfl, rfl, hF⟩) (Nat.le_of_ble_eq_true rfl) (Nat.le_of_ble_eq_true rfl) dX9_tell_17
  · skip
    have eT := eT.symm; subst eT
    have hc_ro : Mq4_ ro = some (.inr (7, [.ref w, .ref im, .ref rd, .ref rc, .ref cu])) := (hfr ro n_ro_w).trans hc_ro
    have hc_w : Mq4_ w = some (.inr (6, [.int 0, .int 2, .int 0, .int 0, .int 0, .int 30, .int 0, .int (-1), .ref cs, .ref bs, .ref tp])) := hx_w
    have hF : ∀ q, q ≠ w → Mq4_ q = M q := fun q h0 => (hfr q h0).trans (hF q h0)
    have cq8_ : (30 : Int) = 0 := cq8_
    exact absurd cq8_ (by omega)
set_option maxHeartbeats 4000000 in
set_option maxRecDepth 100000 in
theorem c_X9_release {l : Launch} {D : va_G} {kA : Nat → ClassId} {M : mM} {T : mT} {sz : Nat} {ro im rd rc cu : Nat} {w cs bs tp : Nat} {b pt : Int32} (hc_ro : M ro = some (.inr (7, [.ref w, .ref im, .ref rd, .ref rc, .ref cu]))) (hc_w : M w = some (.inr (6, [.int 0, .int 2, .int 0, .int 0, .int 0, .int 0, .int 0, .int (-1), .ref cs, .ref bs, .ref tp]))) : mCi l yX9_release cX9_release 3 (some .int) 4 0 0 D kA M T sz [.ref ro, .int b, .int pt] (fun r u => (r = 30) ∧ u.2 = T ∧ (∀ q, q ≠ w → u.1 q = M q)) := by
  unfold mCi
  refine start_W (by decide) (Nat.le_of_ble_eq_true rfl) ?_
  intro p e s m below meth c ls hC hr hlk hnm hK hH hsz hl
  have hx := hC.1
  have hb := hC.2.1
  have hl : lv_has ls 3 [(0, .ref ro), (1, .int b), (2, .int pt)] := hl
  have hF : ∀ q, q ≠ w → M q = M q := fun q _ => rfl
  have n_ro_w : ro ≠ w := neM hc_ro hc_w (by simp)
  have n_w_ro : w ≠ ro := neM hc_w hc_ro (by simp)
  refine lv_aload_n hx hb dX9_release_0 rfl (lv_at hl 0 rfl) ?_
  refine xg hC hK hH flX9_12 hc_ro rfl dX9_release_1 ?_
  refine lv_aload_n hx hb dX9_release_4 rfl (lv_at hl 0 rfl) ?_
  refine xg hC hK hH flX9_12 hc_ro rfl dX9_release_5 ?_
  refine lv_iload_n hx hb dX9_release_8 rfl (lv_at hl 1 rfl) ?_
  refine lv_iload_n hx hb dX9_release_9 rfl (lv_at hl 2 rfl) ?_
  refine goI hK hH (runV (As := [.int b, .int pt]) (rest := [.ref w]) hC hK hH (c_X8_releaseOne hc_w) mlX9_128 (rcvM hK hH hc_w rfl) ⟨⟨Nat.le_of_ble_eq_true rfl, Nat.le_of_ble_eq_true rfl⟩, Nat.le_of_ble_eq_true rfl, Nat.le_of_ble_eq_true rfl⟩ rfl hl.1 rfl (Nat.le_of_ble_eq_true rfl) dX9_release_10) (fun rq3_ Mq1_ Tq2_ Hq_ lcq_ hP hz hH => ?_)
  try dsimp only at hP
  obtain ⟨(rfl), eT, eM⟩ := hP
  have eT := eT.symm; subst eT
  have eM := eM.symm; subst eM
  refine goI hK hH (runV (As := [.int 30]) (rest := []) hC hK hH (c_X8_note hc_w) mlX9_76 (rcvM hK hH hc_w rfl) ⟨⟨Nat.le_of_ble_eq_true rfl, Nat.le_of_ble_eq_true rfl⟩, Nat.le_of_ble_eq_true rfl, Nat.le_of_ble_eq_true rfl⟩ rfl hl.1 rfl (Nat.le_of_ble_eq_true rfl) dX9_release_13) (fun rq6_ Mq4_ Tq5_ Hq_ lcq_ hP hz hH => ?_)
  try dsimp only at hP
  obtain ⟨(⟨cq7_, rfl, hx_w⟩ | ⟨cq8_, rfl, hx_w⟩), eT, hfr⟩ := hP
  · skip
    have eT := eT.symm; subst eT
    have hc_ro : Mq4_ ro = some (.inr (7, [.ref w, .ref im, .ref rd, .ref rc, .ref cu])) := (hfr ro n_ro_w).trans hc_ro
    have hc_w : Mq4_ w = some (.inr (6, [.int 0, .int 2, .int 0, .int 0, .int (0 + 1), .int 30, .int 0, .int (-1), .ref cs, .ref bs, .ref tp])) := hx_w
    have hF : ∀ q, q ≠ w → Mq4_ q = M q := fun q h0 => (hfr q h0).trans (hF q h0)
    have cq7_ : (30 : Int) ≠ 0 := cq7_
    exact ret_i hC hr hlk hK hH (⟨rfl, rfl, hF⟩) (Nat.le_of_ble_eq_true rfl) (Nat.le_of_ble_eq_true rfl) dX9_release_16
  · skip
    have eT := eT.symm; subst eT
    have hc_ro : Mq4_ ro = some (.inr (7, [.ref w, .ref im, .ref rd, .ref rc, .ref cu])) := (hfr ro n_ro_w).trans hc_ro
    have hc_w : Mq4_ w = some (.inr (6, [.int 0, .int 2, .int 0, .int 0, .int 0, .int 30, .int 0, .int (-1), .ref cs, .ref bs, .ref tp])) := hx_w
    have hF : ∀ q, q ≠ w → Mq4_ q = M q := fun q h0 => (hfr q h0).trans (hF q h0)
    have cq8_ : (30 : Int) = 0 := cq8_
    exact absurd cq8_ (by omega)
set_option maxHeartbeats 4000000 in
set_option maxRecDepth 100000 in
theorem c_X9_pay {l : Launch} {D : va_G} {kA : Nat → ClassId} {M : mM} {T : mT} {sz : Nat} {ro im rd rc cu : Nat} {w cs bs tp : Nat} {b pt : Int32} (hc_ro : M ro = some (.inr (7, [.ref w, .ref im, .ref rd, .ref rc, .ref cu]))) (hc_w : M w = some (.inr (6, [.int 0, .int 2, .int 0, .int 0, .int 0, .int 0, .int 0, .int (-1), .ref cs, .ref bs, .ref tp]))) : mCi l yX9_pay cX9_pay 3 (some .int) 3 0 0 D kA M T sz [.ref ro, .int b, .int pt] (fun r u => (r = 30) ∧ u.2 = T ∧ (∀ q, q ≠ w → u.1 q = M q)) := by
  unfold mCi
  refine start_W (by decide) (Nat.le_of_ble_eq_true rfl) ?_
  intro p e s m below meth c ls hC hr hlk hnm hK hH hsz hl
  have hx := hC.1
  have hb := hC.2.1
  have hl : lv_has ls 3 [(0, .ref ro), (1, .int b), (2, .int pt)] := hl
  have hF : ∀ q, q ≠ w → M q = M q := fun q _ => rfl
  have n_ro_w : ro ≠ w := neM hc_ro hc_w (by simp)
  have n_w_ro : w ≠ ro := neM hc_w hc_ro (by simp)
  refine lv_aload_n hx hb dX9_pay_0 rfl (lv_at hl 0 rfl) ?_
  refine xg hC hK hH flX9_12 hc_ro rfl dX9_pay_1 ?_
  refine lv_aload_n hx hb dX9_pay_4 rfl (lv_at hl 0 rfl) ?_
  refine xg hC hK hH flX9_12 hc_ro rfl dX9_pay_5 ?_
  refine lv_iload_n hx hb dX9_pay_8 rfl (lv_at hl 1 rfl) ?_
  refine lv_iload_n hx hb dX9_pay_9 rfl (lv_at hl 2 rfl) ?_
  refine goI hK hH (runV (As := [.int b, .int pt]) (rest := [.ref w]) hC hK hH (c_X8_payOne hc_w) mlX9_131 (rcvM hK hH hc_w rfl) ⟨⟨Nat.le_of_ble_eq_true rfl, Nat.le_of_ble_eq_true rfl⟩, Nat.le_of_ble_eq_true rfl, Nat.le_of_ble_eq_true rfl⟩ rfl hl.1 rfl (Nat.le_of_ble_eq_true rfl) dX9_pay_10) (fun rq3_ Mq1_ Tq2_ Hq_ lcq_ hP hz hH => ?_)
  try dsimp only at hP
  obtain ⟨(rfl), eT, eM⟩ := hP
  have eT := eT.symm; subst eT
  have eM := eM.symm; subst eM
  refine goI hK hH (runV (As := [.int 30]) (rest := []) hC hK hH (c_X8_note hc_w) mlX9_76 (rcvM hK hH hc_w rfl) ⟨⟨Nat.le_of_ble_eq_true rfl, Nat.le_of_ble_eq_true rfl⟩, Nat.le_of_ble_eq_true rfl, Nat.le_of_ble_eq_true rfl⟩ rfl hl.1 rfl (Nat.le_of_ble_eq_true rfl) dX9_pay_13) (fun rq6_ Mq4_ Tq5_ Hq_ lcq_ hP hz hH => ?_)
  try dsimp only at hP
  obtain ⟨(⟨cq7_, rfl, hx_w⟩ | ⟨cq8_, rfl, hx_w⟩), eT, hfr⟩ := hP
  · skip
    have eT := eT.symm; subst eT
    have hc_ro : Mq4_ ro = some (.inr (7, [.ref w, .ref im, .ref rd, .ref rc, .ref cu])) := (hfr ro n_ro_w).trans hc_ro
    have hc_w : Mq4_ w = some (.inr (6, [.int 0, .int 2, .int 0, .int 0, .int (0 + 1), .int 30, .int 0, .int (-1), .ref cs, .ref bs, .ref tp])) := hx_w
    have hF : ∀ q, q ≠ w → Mq4_ q = M q := fun q h0 => (hfr q h0).trans (hF q h0)
    have cq7_ : (30 : Int) ≠ 0 := cq7_
    exact ret_i hC hr hlk hK hH (⟨rfl, rfl, hF⟩) (Nat.le_of_ble_eq_true rfl) (Nat.le_of_ble_eq_true rfl) dX9_pay_16
  · skip
    have eT := eT.symm; subst eT
    have hc_ro : Mq4_ ro = some (.inr (7, [.ref w, .ref im, .ref rd, .ref rc, .ref cu])) := (hfr ro n_ro_w).trans hc_ro
    have hc_w : Mq4_ w = some (.inr (6, [.int 0, .int 2, .int 0, .int 0, .int 0, .int 30, .int 0, .int (-1), .ref cs, .ref bs, .ref tp])) := hx_w
    have hF : ∀ q, q ≠ w → Mq4_ q = M q := fun q h0 => (hfr q h0).trans (hF q h0)
    have cq8_ : (30 : Int) = 0 := cq8_
    exact absurd cq8_ (by omega)
set_option maxHeartbeats 4000000 in
set_option maxRecDepth 100000 in
theorem c_X9_count {l : Launch} {D : va_G} {kA : Nat → ClassId} {M : mM} {T : mT} {sz : Nat} {ro im rd rc cu : Nat} {w cs bs tp : Nat} {wh : Int32}{f : Nat → Int32} (hc_ro : M ro = some (.inr (7, [.ref w, .ref im, .ref rd, .ref rc, .ref cu]))) (hc_w : M w = some (.inr (6, [.int 0, .int 2, .int 0, .int 0, .int 0, .int 0, .int 0, .int (-1), .ref cs, .ref bs, .ref tp]))) (hc_cs : M cs = some (.inl (kA 0, 8, .inl (c100 f)))) : mCi l yX9_count cX9_count 2 (some .int) 1 0 0 D kA M T sz [.ref ro, .int wh] (fun r u => ((wh.toInt = 2 ∧ r = 2) ∨ (wh.toInt = 3 ∧ r = 800) ∨ ((10 ≤ wh.toInt ∧ wh.toInt ≤ 17) ∧ r = 100) ∨ ((0 ≤ wh.toInt ∧ wh.toInt ≤ 8 ∧ wh.toInt ≠ 2 ∧ wh.toInt ≠ 3) ∧ r = 0) ∨ ((¬ (0 ≤ wh.toInt ∧ wh.toInt ≤ 8) ∧ ¬ (10 ≤ wh.toInt ∧ wh.toInt ≤ 17)) ∧ r = -1)) ∧ u.2 = T ∧ u.1 = M) := by
  unfold mCi
  refine start_W (by decide) (Nat.le_of_ble_eq_true rfl) ?_
  intro p e s m below meth c ls hC hr hlk hnm hK hH hsz hl
  have hx := hC.1
  have hb := hC.2.1
  have hl : lv_has ls 2 [(0, .ref ro), (1, .int wh)] := hl
  have n_ro_w : ro ≠ w := neM hc_ro hc_w (by simp)
  have n_ro_cs : ro ≠ cs := neM hc_ro hc_cs (by simp)
  have n_w_ro : w ≠ ro := neM hc_w hc_ro (by simp)
  have n_w_cs : w ≠ cs := neM hc_w hc_cs (by simp)
  have n_cs_ro : cs ≠ ro := neM hc_cs hc_ro (by simp)
  have n_cs_w : cs ≠ w := neM hc_cs hc_w (by simp)
  refine lv_iload_n hx hb dX9_count_0 rfl (lv_at hl 1 rfl) ?_
  rcases (show wh.toInt < 0 ∨ 8 < wh.toInt ∨ wh.toInt = 0 ∨ wh.toInt = 1 ∨ wh.toInt = 2 ∨ wh.toInt = 3 ∨ wh.toInt = 4 ∨ wh.toInt = 5 ∨ wh.toInt = 6 ∨ wh.toInt = 7 ∨ wh.toInt = 8 by omega) with cq1_ | cq1_ | cq1_ | cq1_ | cq1_ | cq1_ | cq1_ | cq1_ | cq1_ | cq1_ | cq1_
  · skip
    refine lv_tableOut (tgt := 124) hx hb dX9_count_1 (Or.inl cq1_) (by decide) ?_
    refine lv_iload_n hx hb dX9_count_124 rfl (lv_at hl 1 rfl) ?_
    refine lv_bipush (v := 10) hx hb dX9_count_125 (by decide) ?_
    refine lv_isub hx hb dX9_count_127 ?_
    refine lv_topi (fun zq2_ e_zq2_ => ?_)
    have rg_wh := iRg wh
    rcases (show -2147483638 ≤ wh.toInt ∨ wh.toInt < -2147483638 by omega) with cq3_ | cq3_
    · skip
      have h_zq2_ : zq2_.toInt = wh.toInt - 10 := by rw [e_zq2_, iSub (by have := iRg wh; have : (10 : Int32).toInt = 10 := rfl; omega) (by have := iRg wh; have : (10 : Int32).toInt = 10 := rfl; omega)]; rfl
      refine goI hK hH (runS (As := [.int zq2_]) (rest := []) hC hK hH (c_X9_isPerson) mlX9_155 ⟨⟨Nat.le_of_ble_eq_true rfl, Nat.le_of_ble_eq_true rfl⟩, Nat.le_of_ble_eq_true rfl, Nat.le_of_ble_eq_true rfl⟩ rfl hl.1 rfl (Nat.le_of_ble_eq_true rfl) dX9_count_128) (fun rq6_ Mq4_ Tq5_ Hq_ lcq_ hP hz hH => ?_)
      try dsimp only at hP
      obtain ⟨(⟨cq7_, rfl⟩ | ⟨cq8_, rfl⟩), eT, eM⟩ := hP
      · skip
        have eT := eT.symm; subst eT
        have eM := eM.symm; subst eM
        have cq7_ : 0 ≤ zq2_.toInt ∧ zq2_.toInt ≤ 7 := cq7_
        exact absurd cq7_ (by omega)
      · skip
        have eT := eT.symm; subst eT
        have eM := eM.symm; subst eM
        have cq8_ : ¬ (0 ≤ zq2_.toInt ∧ zq2_.toInt ≤ 7) := cq8_
        refine jif_eq (tgt := 149) hx hb dX9_count_131 (by decide) (fun cq9_ => ?_) (fun cq9_ => absurd cq9_ (by decide))
        refine lv_iconst (v := -1) hx hb dX9_count_149 (by decide) ?_
        subst e_zq2_
        exact ret_i hC hr hlk hK hH (⟨Or.inr (Or.inr (Or.inr (Or.inr (⟨by omega, rfl⟩)))), rfl, rfl⟩) (Nat.le_of_ble_eq_true rfl) (Nat.le_of_ble_eq_true rfl) dX9_count_150
    · skip
      have h_zq2_ : zq2_.toInt = wh.toInt - 10 + 4294967296 := by rw [e_zq2_, iSubW (by have := iRg wh; have : (10 : Int32).toInt = 10 := rfl; omega)]; rfl
      refine goI hK hH (runS (As := [.int zq2_]) (rest := []) hC hK hH (c_X9_isPerson) mlX9_155 ⟨⟨Nat.le_of_ble_eq_true rfl, Nat.le_of_ble_eq_true rfl⟩, Nat.le_of_ble_eq_true rfl, Nat.le_of_ble_eq_true rfl⟩ rfl hl.1 rfl (Nat.le_of_ble_eq_true rfl) dX9_count_128) (fun rq12_ Mq10_ Tq11_ Hq_ lcq_ hP hz hH => ?_)
      try dsimp only at hP
      obtain ⟨(⟨cq13_, rfl⟩ | ⟨cq14_, rfl⟩), eT, eM⟩ := hP
      · skip
        have eT := eT.symm; subst eT
        have eM := eM.symm; subst eM
        have cq13_ : 0 ≤ zq2_.toInt ∧ zq2_.toInt ≤ 7 := cq13_
        exact absurd cq13_ (by omega)
      · skip
        have eT := eT.symm; subst eT
        have eM := eM.symm; subst eM
        have cq14_ : ¬ (0 ≤ zq2_.toInt ∧ zq2_.toInt ≤ 7) := cq14_
        refine jif_eq (tgt := 149) hx hb dX9_count_131 (by decide) (fun cq15_ => ?_) (fun cq15_ => absurd cq15_ (by decide))
        refine lv_iconst (v := -1) hx hb dX9_count_149 (by decide) ?_
        subst e_zq2_
        exact ret_i hC hr hlk hK hH (⟨Or.inr (Or.inr (Or.inr (Or.inr (⟨by omega, rfl⟩)))), rfl, rfl⟩) (Nat.le_of_ble_eq_true rfl) (Nat.le_of_ble_eq_true rfl) dX9_count_150
  · skip
    refine lv_tableOut (tgt := 124) hx hb dX9_count_1 (Or.inr cq1_) (by decide) ?_
    refine lv_iload_n hx hb dX9_count_124 rfl (lv_at hl 1 rfl) ?_
    refine lv_bipush (v := 10) hx hb dX9_count_125 (by decide) ?_
    refine lv_isub hx hb dX9_count_127 ?_
    refine lv_topi (fun zq16_ e_zq16_ => ?_)
    have h_zq16_ : zq16_.toInt = wh.toInt - 10 := by rw [e_zq16_, iSub (by have := iRg wh; have : (10 : Int32).toInt = 10 := rfl; omega) (by have := iRg wh; have : (10 : Int32).toInt = 10 := rfl; omega)]; rfl
    refine goI hK hH (runS (As := [.int zq16_]) (rest := []) hC hK hH (c_X9_isPerson) mlX9_155 ⟨⟨Nat.le_of_ble_eq_true rfl, Nat.le_of_ble_eq_true rfl⟩, Nat.le_of_ble_eq_true rfl, Nat.le_of_ble_eq_true rfl⟩ rfl hl.1 rfl (Nat.le_of_ble_eq_true rfl) dX9_count_128) (fun rq19_ Mq17_ Tq18_ Hq_ lcq_ hP hz hH => ?_)
    try dsimp only at hP
    obtain ⟨(⟨cq20_, rfl⟩ | ⟨cq21_, rfl⟩), eT, eM⟩ := hP
    · skip
      have eT := eT.symm; subst eT
      have eM := eM.symm; subst eM
      have cq20_ : 0 ≤ zq16_.toInt ∧ zq16_.toInt ≤ 7 := cq20_
      refine jif_eq (tgt := 149) hx hb dX9_count_131 (by decide) (fun cq22_ => absurd cq22_ (by decide)) (fun cq22_ => ?_)
      refine lv_aload_n hx hb dX9_count_134 rfl (lv_at hl 0 rfl) ?_
      refine xg hC hK hH flX9_12 hc_ro rfl dX9_count_135 ?_
      refine xg hC hK hH flX9_159 hc_w rfl dX9_count_138 ?_
      refine lv_iload_n hx hb dX9_count_141 rfl (lv_at hl 1 rfl) ?_
      refine lv_bipush (v := 10) hx hb dX9_count_142 (by decide) ?_
      refine lv_isub hx hb dX9_count_144 ?_
      refine lv_topi (fun zq23_ e_zq23_ => ?_)
      have h_zq23_ : zq23_.toInt = wh.toInt - 10 := by rw [e_zq23_, iSub (by have := iRg wh; have : (10 : Int32).toInt = 10 := rfl; omega) (by have := iRg wh; have : (10 : Int32).toInt = 10 := rfl; omega)]; rfl
      refine xild hC hK hH hc_cs (iIn (by omega) (by omega)) dX9_count_145 ?_
      refine lv_cst (v := 100) (c100_at _ (by have := iCl (x := zq23_) (by omega); omega)) ?_
      refine lv_goto (tgt := 150) hx hb dX9_count_146 (by decide) ?_
      subst e_zq23_
      subst e_zq16_
      exact ret_i hC hr hlk hK hH (⟨Or.inr (Or.inr (Or.inl (⟨by omega, rfl⟩))), rfl, rfl⟩) (Nat.le_of_ble_eq_true rfl) (Nat.le_of_ble_eq_true rfl) dX9_count_150
    · skip
      have eT := eT.symm; subst eT
      have eM := eM.symm; subst eM
      have cq21_ : ¬ (0 ≤ zq16_.toInt ∧ zq16_.toInt ≤ 7) := cq21_
      refine jif_eq (tgt := 149) hx hb dX9_count_131 (by decide) (fun cq24_ => ?_) (fun cq24_ => absurd cq24_ (by decide))
      refine lv_iconst (v := -1) hx hb dX9_count_149 (by decide) ?_
      subst e_zq16_
      exact ret_i hC hr hlk hK hH (⟨Or.inr (Or.inr (Or.inr (Or.inr (⟨by omega, rfl⟩)))), rfl, rfl⟩) (Nat.le_of_ble_eq_true rfl) (Nat.le_of_ble_eq_true rfl) dX9_count_150
  · skip
    refine lv_tableIn (off := 51) (tgt := 52) hx hb dX9_count_1 (by omega) (by omega) (by rw [cq1_]; rfl) (by decide) ?_
    refine lv_aload_n hx hb dX9_count_52 rfl (lv_at hl 0 rfl) ?_
    refine xg hC hK hH flX9_12 hc_ro rfl dX9_count_53 ?_
    refine xg hC hK hH flX9_134 hc_w rfl dX9_count_56 ?_
    exact ret_i hC hr hlk hK hH (⟨Or.inr (Or.inr (Or.inr (Or.inl (⟨by omega, rfl⟩)))), rfl, rfl⟩) (Nat.le_of_ble_eq_true rfl) (Nat.le_of_ble_eq_true rfl) dX9_count_59
  · skip
    refine lv_tableIn (off := 59) (tgt := 60) hx hb dX9_count_1 (by omega) (by omega) (by rw [cq1_]; rfl) (by decide) ?_
    refine lv_aload_n hx hb dX9_count_60 rfl (lv_at hl 0 rfl) ?_
    refine xg hC hK hH flX9_12 hc_ro rfl dX9_count_61 ?_
    refine xg hC hK hH flX9_97 hc_w rfl dX9_count_64 ?_
    exact ret_i hC hr hlk hK hH (⟨Or.inr (Or.inr (Or.inr (Or.inl (⟨by omega, rfl⟩)))), rfl, rfl⟩) (Nat.le_of_ble_eq_true rfl) (Nat.le_of_ble_eq_true rfl) dX9_count_67
  · skip
    refine lv_tableIn (off := 67) (tgt := 68) hx hb dX9_count_1 (by omega) (by omega) (by rw [cq1_]; rfl) (by decide) ?_
    refine lv_aload_n hx hb dX9_count_68 rfl (lv_at hl 0 rfl) ?_
    refine xg hC hK hH flX9_12 hc_ro rfl dX9_count_69 ?_
    refine xg hC hK hH flX9_137 hc_w rfl dX9_count_72 ?_
    exact ret_i hC hr hlk hK hH (⟨Or.inl (⟨by omega, rfl⟩), rfl, rfl⟩) (Nat.le_of_ble_eq_true rfl) (Nat.le_of_ble_eq_true rfl) dX9_count_75
  · skip
    refine lv_tableIn (off := 75) (tgt := 76) hx hb dX9_count_1 (by omega) (by omega) (by rw [cq1_]; rfl) (by decide) ?_
    refine lv_aload_n hx hb dX9_count_76 rfl (lv_at hl 0 rfl) ?_
    refine xg hC hK hH flX9_12 hc_ro rfl dX9_count_77 ?_
    refine goI hK hH (runV (As := []) (rest := []) hC hK hH (c_X8_cashOfAll hc_w hc_cs) mlX9_140 (rcvM hK hH hc_w rfl) ⟨⟨Nat.le_of_ble_eq_true rfl, Nat.le_of_ble_eq_true rfl⟩, Nat.le_of_ble_eq_true rfl, Nat.le_of_ble_eq_true rfl⟩ rfl hl.1 rfl (Nat.le_of_ble_eq_true rfl) dX9_count_80) (fun rq27_ Mq25_ Tq26_ Hq_ lcq_ hP hz hH => ?_)
    try dsimp only at hP
    obtain ⟨(rfl), eT, eM⟩ := hP
    have eT := eT.symm; subst eT
    have eM := eM.symm; subst eM
    exact ret_i hC hr hlk hK hH (⟨Or.inr (Or.inl (⟨by omega, rfl⟩)), rfl, rfl⟩) (Nat.le_of_ble_eq_true rfl) (Nat.le_of_ble_eq_true rfl) dX9_count_83
  · skip
    refine lv_tableIn (off := 83) (tgt := 84) hx hb dX9_count_1 (by omega) (by omega) (by rw [cq1_]; rfl) (by decide) ?_
    refine lv_aload_n hx hb dX9_count_84 rfl (lv_at hl 0 rfl) ?_
    refine xg hC hK hH flX9_12 hc_ro rfl dX9_count_85 ?_
    refine xg hC hK hH flX9_143 hc_w rfl dX9_count_88 ?_
    exact ret_i hC hr hlk hK hH (⟨Or.inr (Or.inr (Or.inr (Or.inl (⟨by omega, rfl⟩)))), rfl, rfl⟩) (Nat.le_of_ble_eq_true rfl) (Nat.le_of_ble_eq_true rfl) dX9_count_91
  · skip
    refine lv_tableIn (off := 91) (tgt := 92) hx hb dX9_count_1 (by omega) (by omega) (by rw [cq1_]; rfl) (by decide) ?_
    refine lv_aload_n hx hb dX9_count_92 rfl (lv_at hl 0 rfl) ?_
    refine xg hC hK hH flX9_12 hc_ro rfl dX9_count_93 ?_
    refine goI hK hH (runV (As := []) (rest := []) hC hK hH (c_X8_dishonouredBills hc_w) mlX9_146 (rcvM hK hH hc_w rfl) ⟨⟨Nat.le_of_ble_eq_true rfl, Nat.le_of_ble_eq_true rfl⟩, Nat.le_of_ble_eq_true rfl, Nat.le_of_ble_eq_true rfl⟩ rfl hl.1 rfl (Nat.le_of_ble_eq_true rfl) dX9_count_96) (fun rq30_ Mq28_ Tq29_ Hq_ lcq_ hP hz hH => ?_)
    try dsimp only at hP
    obtain ⟨(rfl), eT, eM⟩ := hP
    have eT := eT.symm; subst eT
    have eM := eM.symm; subst eM
    exact ret_i hC hr hlk hK hH (⟨Or.inr (Or.inr (Or.inr (Or.inl (⟨by omega, rfl⟩)))), rfl, rfl⟩) (Nat.le_of_ble_eq_true rfl) (Nat.le_of_ble_eq_true rfl) dX9_count_99
  · skip
    refine lv_tableIn (off := 99) (tgt := 100) hx hb dX9_count_1 (by omega) (by omega) (by rw [cq1_]; rfl) (by decide) ?_
    refine lv_aload_n hx hb dX9_count_100 rfl (lv_at hl 0 rfl) ?_
    refine xg hC hK hH flX9_12 hc_ro rfl dX9_count_101 ?_
    refine goI hK hH (runV (As := []) (rest := []) hC hK hH (c_X8_doneBills hc_w) mlX9_149 (rcvM hK hH hc_w rfl) ⟨⟨Nat.le_of_ble_eq_true rfl, Nat.le_of_ble_eq_true rfl⟩, Nat.le_of_ble_eq_true rfl, Nat.le_of_ble_eq_true rfl⟩ rfl hl.1 rfl (Nat.le_of_ble_eq_true rfl) dX9_count_104) (fun rq33_ Mq31_ Tq32_ Hq_ lcq_ hP hz hH => ?_)
    try dsimp only at hP
    obtain ⟨(rfl), eT, eM⟩ := hP
    have eT := eT.symm; subst eT
    have eM := eM.symm; subst eM
    exact ret_i hC hr hlk hK hH (⟨Or.inr (Or.inr (Or.inr (Or.inl (⟨by omega, rfl⟩)))), rfl, rfl⟩) (Nat.le_of_ble_eq_true rfl) (Nat.le_of_ble_eq_true rfl) dX9_count_107
  · skip
    refine lv_tableIn (off := 107) (tgt := 108) hx hb dX9_count_1 (by omega) (by omega) (by rw [cq1_]; rfl) (by decide) ?_
    refine lv_aload_n hx hb dX9_count_108 rfl (lv_at hl 0 rfl) ?_
    refine xg hC hK hH flX9_12 hc_ro rfl dX9_count_109 ?_
    refine xg hC hK hH flX9_152 hc_w rfl dX9_count_112 ?_
    exact ret_i hC hr hlk hK hH (⟨Or.inr (Or.inr (Or.inr (Or.inl (⟨by omega, rfl⟩)))), rfl, rfl⟩) (Nat.le_of_ble_eq_true rfl) (Nat.le_of_ble_eq_true rfl) dX9_count_115
  · skip
    refine lv_tableIn (off := 115) (tgt := 116) hx hb dX9_count_1 (by omega) (by omega) (by rw [cq1_]; rfl) (by decide) ?_
    refine lv_aload_n hx hb dX9_count_116 rfl (lv_at hl 0 rfl) ?_
    refine xg hC hK hH flX9_12 hc_ro rfl dX9_count_117 ?_
    refine xg hC hK hH flX9_45 hc_w rfl dX9_count_120 ?_
    exact ret_i hC hr hlk hK hH (⟨Or.inr (Or.inr (Or.inr (Or.inl (⟨by omega, rfl⟩)))), rfl, rfl⟩) (Nat.le_of_ble_eq_true rfl) (Nat.le_of_ble_eq_true rfl) dX9_count_123
set_option maxHeartbeats 4000000 in
set_option maxRecDepth 100000 in
theorem c_X9_bill {l : Launch} {D : va_G} {kA : Nat → ClassId} {M : mM} {T : mT} {sz : Nat} {ro im rd rc cu : Nat} {w cs bs tp : Nat} {b wh : Int32} (hc_ro : M ro = some (.inr (7, [.ref w, .ref im, .ref rd, .ref rc, .ref cu]))) (hc_w : M w = some (.inr (6, [.int 0, .int 2, .int 0, .int 0, .int 0, .int 0, .int 0, .int (-1), .ref cs, .ref bs, .ref tp]))) : mCi l yX9_bill cX9_bill 4 (some .int) 1 0 0 D kA M T sz [.ref ro, .int b, .int wh] (fun r u => (r = -2) ∧ u.2 = T ∧ u.1 = M) := by
  unfold mCi
  refine start_W (by decide) (Nat.le_of_ble_eq_true rfl) ?_
  intro p e s m below meth c ls hC hr hlk hnm hK hH hsz hl
  have hx := hC.1
  have hb := hC.2.1
  have hl : lv_has ls 4 [(0, .ref ro), (1, .int b), (2, .int wh)] := hl
  have n_ro_w : ro ≠ w := neM hc_ro hc_w (by simp)
  have n_w_ro : w ≠ ro := neM hc_w hc_ro (by simp)
  refine lv_aload_n hx hb dX9_bill_0 rfl (lv_at hl 0 rfl) ?_
  refine xg hC hK hH flX9_12 hc_ro rfl dX9_bill_1 ?_
  refine lv_iload_n hx hb dX9_bill_4 rfl (lv_at hl 1 rfl) ?_
  refine goI hK hH (runV (As := [.int b]) (rest := []) hC hK hH (c_X8_hasBill hc_w) mlX9_163 (rcvM hK hH hc_w rfl) ⟨⟨Nat.le_of_ble_eq_true rfl, Nat.le_of_ble_eq_true rfl⟩, Nat.le_of_ble_eq_true rfl, Nat.le_of_ble_eq_true rfl⟩ rfl hl.1 rfl (Nat.le_of_ble_eq_true rfl) dX9_bill_5) (fun rq3_ Mq1_ Tq2_ Hq_ lcq_ hP hz hH => ?_)
  try dsimp only at hP
  obtain ⟨(⟨cq4_, rfl⟩ | ⟨cq5_, rfl⟩), eT, eM⟩ := hP
  · skip
    have eT := eT.symm; subst eT
    have eM := eM.symm; subst eM
    have cq4_ : 0 ≤ b.toInt ∧ b.toInt < (0 : Int) := cq4_
    exact absurd cq4_ (by omega)
  · skip
    have eT := eT.symm; subst eT
    have eM := eM.symm; subst eM
    have cq5_ : ¬ (0 ≤ b.toInt ∧ b.toInt < (0 : Int)) := cq5_
    refine jif_ne (tgt := 14) hx hb dX9_bill_8 (by decide) (fun cq6_ => absurd cq6_ (by decide)) (fun cq6_ => ?_)
    refine lv_bipush (v := -2) hx hb dX9_bill_11 (by decide) ?_
    exact ret_i hC hr hlk hK hH (⟨rfl, rfl, rfl⟩) (Nat.le_of_ble_eq_true rfl) (Nat.le_of_ble_eq_true rfl) dX9_bill_13
set_option maxHeartbeats 4000000 in
set_option maxRecDepth 100000 in
theorem c_X9_step {l : Launch} {D : va_G} {kA : Nat → ClassId} {M : mM} {T : mT} {sz : Nat} {ro im rd rc cu : Nat} {w cs bs tp : Nat} {b st wh : Int32} (hc_ro : M ro = some (.inr (7, [.ref w, .ref im, .ref rd, .ref rc, .ref cu]))) (hc_w : M w = some (.inr (6, [.int 0, .int 2, .int 0, .int 0, .int 0, .int 0, .int 0, .int (-1), .ref cs, .ref bs, .ref tp]))) : mCi l yX9_step cX9_step 5 (some .int) 1 0 0 D kA M T sz [.ref ro, .int b, .int st, .int wh] (fun r u => (r = -2) ∧ u.2 = T ∧ u.1 = M) := by
  unfold mCi
  refine start_W (by decide) (Nat.le_of_ble_eq_true rfl) ?_
  intro p e s m below meth c ls hC hr hlk hnm hK hH hsz hl
  have hx := hC.1
  have hb := hC.2.1
  have hl : lv_has ls 5 [(0, .ref ro), (1, .int b), (2, .int st), (3, .int wh)] := hl
  have n_ro_w : ro ≠ w := neM hc_ro hc_w (by simp)
  have n_w_ro : w ≠ ro := neM hc_w hc_ro (by simp)
  refine lv_aload_n hx hb dX9_step_0 rfl (lv_at hl 0 rfl) ?_
  refine xg hC hK hH flX9_12 hc_ro rfl dX9_step_1 ?_
  refine lv_iload_n hx hb dX9_step_4 rfl (lv_at hl 1 rfl) ?_
  refine goI hK hH (runV (As := [.int b]) (rest := []) hC hK hH (c_X8_hasBill hc_w) mlX9_163 (rcvM hK hH hc_w rfl) ⟨⟨Nat.le_of_ble_eq_true rfl, Nat.le_of_ble_eq_true rfl⟩, Nat.le_of_ble_eq_true rfl, Nat.le_of_ble_eq_true rfl⟩ rfl hl.1 rfl (Nat.le_of_ble_eq_true rfl) dX9_step_5) (fun rq3_ Mq1_ Tq2_ Hq_ lcq_ hP hz hH => ?_)
  try dsimp only at hP
  obtain ⟨(⟨cq4_, rfl⟩ | ⟨cq5_, rfl⟩), eT, eM⟩ := hP
  · skip
    have eT := eT.symm; subst eT
    have eM := eM.symm; subst eM
    have cq4_ : 0 ≤ b.toInt ∧ b.toInt < (0 : Int) := cq4_
    exact absurd cq4_ (by omega)
  · skip
    have eT := eT.symm; subst eT
    have eM := eM.symm; subst eM
    have cq5_ : ¬ (0 ≤ b.toInt ∧ b.toInt < (0 : Int)) := cq5_
    refine jif_eq (tgt := 27) hx hb dX9_step_8 (by decide) (fun cq6_ => ?_) (fun cq6_ => absurd cq6_ (by decide))
    refine lv_bipush (v := -2) hx hb dX9_step_27 (by decide) ?_
    exact ret_i hC hr hlk hK hH (⟨rfl, rfl, rfl⟩) (Nat.le_of_ble_eq_true rfl) (Nat.le_of_ble_eq_true rfl) dX9_step_29
set_option maxHeartbeats 4000000 in
set_option maxRecDepth 100000 in
theorem c_X9_party {l : Launch} {D : va_G} {kA : Nat → ClassId} {M : mM} {T : mT} {sz : Nat} {ro im rd rc cu : Nat} {w cs bs tp : Nat} {b pt wh : Int32} (hc_ro : M ro = some (.inr (7, [.ref w, .ref im, .ref rd, .ref rc, .ref cu]))) (hc_w : M w = some (.inr (6, [.int 0, .int 2, .int 0, .int 0, .int 0, .int 0, .int 0, .int (-1), .ref cs, .ref bs, .ref tp]))) : mCi l yX9_party cX9_party 5 (some .int) 2 0 0 D kA M T sz [.ref ro, .int b, .int pt, .int wh] (fun r u => (r = -2) ∧ u.2 = T ∧ u.1 = M) := by
  unfold mCi
  refine start_W (by decide) (Nat.le_of_ble_eq_true rfl) ?_
  intro p e s m below meth c ls hC hr hlk hnm hK hH hsz hl
  have hx := hC.1
  have hb := hC.2.1
  have hl : lv_has ls 5 [(0, .ref ro), (1, .int b), (2, .int pt), (3, .int wh)] := hl
  have n_ro_w : ro ≠ w := neM hc_ro hc_w (by simp)
  have n_w_ro : w ≠ ro := neM hc_w hc_ro (by simp)
  refine lv_aload_n hx hb dX9_party_0 rfl (lv_at hl 0 rfl) ?_
  refine xg hC hK hH flX9_12 hc_ro rfl dX9_party_1 ?_
  refine lv_iload_n hx hb dX9_party_4 rfl (lv_at hl 1 rfl) ?_
  refine lv_iload_n hx hb dX9_party_5 rfl (lv_at hl 2 rfl) ?_
  refine goI hK hH (runV (As := [.int b, .int pt]) (rest := []) hC hK hH (c_X8_hasParty hc_w) mlX9_278 (rcvM hK hH hc_w rfl) ⟨⟨Nat.le_of_ble_eq_true rfl, Nat.le_of_ble_eq_true rfl⟩, Nat.le_of_ble_eq_true rfl, Nat.le_of_ble_eq_true rfl⟩ rfl hl.1 rfl (Nat.le_of_ble_eq_true rfl) dX9_party_6) (fun rq3_ Mq1_ Tq2_ Hq_ lcq_ hP hz hH => ?_)
  try dsimp only at hP
  obtain ⟨(rfl), eT, eM⟩ := hP
  have eT := eT.symm; subst eT
  have eM := eM.symm; subst eM
  refine jif_ne (tgt := 15) hx hb dX9_party_9 (by decide) (fun cq4_ => absurd cq4_ (by decide)) (fun cq4_ => ?_)
  refine lv_bipush (v := -2) hx hb dX9_party_12 (by decide) ?_
  exact ret_i hC hr hlk hK hH (⟨rfl, rfl, rfl⟩) (Nat.le_of_ble_eq_true rfl) (Nat.le_of_ble_eq_true rfl) dX9_party_14
set_option maxHeartbeats 4000000 in
set_option maxRecDepth 100000 in
theorem c_X9_why {l : Launch} {D : va_G} {kA : Nat → ClassId} {M : mM} {T : mT} {sz : Nat} {ro im rd rc cu : Nat} {w cs bs tp : Nat} {b pt lv wh : Int32} (hc_ro : M ro = some (.inr (7, [.ref w, .ref im, .ref rd, .ref rc, .ref cu]))) (hc_w : M w = some (.inr (6, [.int 0, .int 2, .int 0, .int 0, .int 0, .int 0, .int 0, .int (-1), .ref cs, .ref bs, .ref tp]))) : mCi l yX9_why cX9_why 7 (some .int) 2 0 0 D kA M T sz [.ref ro, .int b, .int pt, .int lv, .int wh] (fun r u => (r = -2) ∧ u.2 = T ∧ u.1 = M) := by
  unfold mCi
  refine start_W (by decide) (Nat.le_of_ble_eq_true rfl) ?_
  intro p e s m below meth c ls hC hr hlk hnm hK hH hsz hl
  have hx := hC.1
  have hb := hC.2.1
  have hl : lv_has ls 7 [(0, .ref ro), (1, .int b), (2, .int pt), (3, .int lv), (4, .int wh)] := hl
  have n_ro_w : ro ≠ w := neM hc_ro hc_w (by simp)
  have n_w_ro : w ≠ ro := neM hc_w hc_ro (by simp)
  refine lv_aload_n hx hb dX9_why_0 rfl (lv_at hl 0 rfl) ?_
  refine xg hC hK hH flX9_12 hc_ro rfl dX9_why_1 ?_
  refine lv_iload_n hx hb dX9_why_4 rfl (lv_at hl 1 rfl) ?_
  refine lv_iload_n hx hb dX9_why_5 rfl (lv_at hl 2 rfl) ?_
  refine goI hK hH (runV (As := [.int b, .int pt]) (rest := []) hC hK hH (c_X8_hasParty hc_w) mlX9_278 (rcvM hK hH hc_w rfl) ⟨⟨Nat.le_of_ble_eq_true rfl, Nat.le_of_ble_eq_true rfl⟩, Nat.le_of_ble_eq_true rfl, Nat.le_of_ble_eq_true rfl⟩ rfl hl.1 rfl (Nat.le_of_ble_eq_true rfl) dX9_why_6) (fun rq3_ Mq1_ Tq2_ Hq_ lcq_ hP hz hH => ?_)
  try dsimp only at hP
  obtain ⟨(rfl), eT, eM⟩ := hP
  have eT := eT.symm; subst eT
  have eM := eM.symm; subst eM
  refine jif_eq (tgt := 32) hx hb dX9_why_9 (by decide) (fun cq4_ => ?_) (fun cq4_ => absurd cq4_ (by decide))
  refine lv_bipush (v := -2) hx hb dX9_why_32 (by decide) ?_
  exact ret_i hC hr hlk hK hH (⟨rfl, rfl, rfl⟩) (Nat.le_of_ble_eq_true rfl) (Nat.le_of_ble_eq_true rfl) dX9_why_34
set_option maxHeartbeats 4000000 in
set_option maxRecDepth 100000 in
theorem c_X9_liable {l : Launch} {D : va_G} {kA : Nat → ClassId} {M : mM} {T : mT} {sz : Nat} {ro im rd rc cu : Nat} {w cs bs tp : Nat} {b : Int32} (hc_ro : M ro = some (.inr (7, [.ref w, .ref im, .ref rd, .ref rc, .ref cu]))) (hc_w : M w = some (.inr (6, [.int 0, .int 2, .int 0, .int 0, .int 0, .int 0, .int 0, .int (-1), .ref cs, .ref bs, .ref tp]))) : mCi l yX9_liable cX9_liable 5 (some .int) 1 0 0 D kA M T sz [.ref ro, .int b] (fun r u => (r = -2) ∧ u.2 = T ∧ u.1 = M) := by
  unfold mCi
  refine start_W (by decide) (Nat.le_of_ble_eq_true rfl) ?_
  intro p e s m below meth c ls hC hr hlk hnm hK hH hsz hl
  have hx := hC.1
  have hb := hC.2.1
  have hl : lv_has ls 5 [(0, .ref ro), (1, .int b)] := hl
  have n_ro_w : ro ≠ w := neM hc_ro hc_w (by simp)
  have n_w_ro : w ≠ ro := neM hc_w hc_ro (by simp)
  refine lv_aload_n hx hb dX9_liable_0 rfl (lv_at hl 0 rfl) ?_
  refine xg hC hK hH flX9_12 hc_ro rfl dX9_liable_1 ?_
  refine lv_iload_n hx hb dX9_liable_4 rfl (lv_at hl 1 rfl) ?_
  refine goI hK hH (runV (As := [.int b]) (rest := []) hC hK hH (c_X8_hasBill hc_w) mlX9_163 (rcvM hK hH hc_w rfl) ⟨⟨Nat.le_of_ble_eq_true rfl, Nat.le_of_ble_eq_true rfl⟩, Nat.le_of_ble_eq_true rfl, Nat.le_of_ble_eq_true rfl⟩ rfl hl.1 rfl (Nat.le_of_ble_eq_true rfl) dX9_liable_5) (fun rq3_ Mq1_ Tq2_ Hq_ lcq_ hP hz hH => ?_)
  try dsimp only at hP
  obtain ⟨(⟨cq4_, rfl⟩ | ⟨cq5_, rfl⟩), eT, eM⟩ := hP
  · skip
    have eT := eT.symm; subst eT
    have eM := eM.symm; subst eM
    have cq4_ : 0 ≤ b.toInt ∧ b.toInt < (0 : Int) := cq4_
    exact absurd cq4_ (by omega)
  · skip
    have eT := eT.symm; subst eT
    have eM := eM.symm; subst eM
    have cq5_ : ¬ (0 ≤ b.toInt ∧ b.toInt < (0 : Int)) := cq5_
    refine jif_ne (tgt := 14) hx hb dX9_liable_8 (by decide) (fun cq6_ => absurd cq6_ (by decide)) (fun cq6_ => ?_)
    refine lv_bipush (v := -2) hx hb dX9_liable_11 (by decide) ?_
    exact ret_i hC hr hlk hK hH (⟨rfl, rfl, rfl⟩) (Nat.le_of_ble_eq_true rfl) (Nat.le_of_ble_eq_true rfl) dX9_liable_13
set_option maxHeartbeats 4000000 in
set_option maxRecDepth 100000 in
theorem c_X9_reach {l : Launch} {D : va_G} {kA : Nat → ClassId} {M : mM} {T : mT} {sz : Nat} {ro im rd rc cu : Nat} {w cs bs tp : Nat} {b : Int32} (hc_ro : M ro = some (.inr (7, [.ref w, .ref im, .ref rd, .ref rc, .ref cu]))) (hc_w : M w = some (.inr (6, [.int 0, .int 2, .int 0, .int 0, .int 0, .int 0, .int 0, .int (-1), .ref cs, .ref bs, .ref tp]))) : mCi l yX9_reach cX9_reach 5 (some .int) 1 0 0 D kA M T sz [.ref ro, .int b] (fun r u => (r = -2) ∧ u.2 = T ∧ u.1 = M) := by
  unfold mCi
  refine start_W (by decide) (Nat.le_of_ble_eq_true rfl) ?_
  intro p e s m below meth c ls hC hr hlk hnm hK hH hsz hl
  have hx := hC.1
  have hb := hC.2.1
  have hl : lv_has ls 5 [(0, .ref ro), (1, .int b)] := hl
  have n_ro_w : ro ≠ w := neM hc_ro hc_w (by simp)
  have n_w_ro : w ≠ ro := neM hc_w hc_ro (by simp)
  refine lv_aload_n hx hb dX9_reach_0 rfl (lv_at hl 0 rfl) ?_
  refine xg hC hK hH flX9_12 hc_ro rfl dX9_reach_1 ?_
  refine lv_iload_n hx hb dX9_reach_4 rfl (lv_at hl 1 rfl) ?_
  refine goI hK hH (runV (As := [.int b]) (rest := []) hC hK hH (c_X8_hasBill hc_w) mlX9_163 (rcvM hK hH hc_w rfl) ⟨⟨Nat.le_of_ble_eq_true rfl, Nat.le_of_ble_eq_true rfl⟩, Nat.le_of_ble_eq_true rfl, Nat.le_of_ble_eq_true rfl⟩ rfl hl.1 rfl (Nat.le_of_ble_eq_true rfl) dX9_reach_5) (fun rq3_ Mq1_ Tq2_ Hq_ lcq_ hP hz hH => ?_)
  try dsimp only at hP
  obtain ⟨(⟨cq4_, rfl⟩ | ⟨cq5_, rfl⟩), eT, eM⟩ := hP
  · skip
    have eT := eT.symm; subst eT
    have eM := eM.symm; subst eM
    have cq4_ : 0 ≤ b.toInt ∧ b.toInt < (0 : Int) := cq4_
    exact absurd cq4_ (by omega)
  · skip
    have eT := eT.symm; subst eT
    have eM := eM.symm; subst eM
    have cq5_ : ¬ (0 ≤ b.toInt ∧ b.toInt < (0 : Int)) := cq5_
    refine jif_ne (tgt := 14) hx hb dX9_reach_8 (by decide) (fun cq6_ => absurd cq6_ (by decide)) (fun cq6_ => ?_)
    refine lv_bipush (v := -2) hx hb dX9_reach_11 (by decide) ?_
    exact ret_i hC hr hlk hK hH (⟨rfl, rfl, rfl⟩) (Nat.le_of_ble_eq_true rfl) (Nat.le_of_ble_eq_true rfl) dX9_reach_13
set_option maxHeartbeats 4000000 in
set_option maxRecDepth 100000 in
theorem c_X9_run {l : Launch} {D : va_G} {kA : Nat → ClassId} {M : mM} {T : mT} {sz : Nat} {ro im rd rc cu : Nat} {w cs bs tp : Nat} {b k : Int32} (hc_ro : M ro = some (.inr (7, [.ref w, .ref im, .ref rd, .ref rc, .ref cu]))) (hc_w : M w = some (.inr (6, [.int 0, .int 2, .int 0, .int 0, .int 0, .int 0, .int 0, .int (-1), .ref cs, .ref bs, .ref tp]))) : mCi l yX9_run cX9_run 3 (some .int) 1 0 0 D kA M T sz [.ref ro, .int b, .int k] (fun r u => (r = -2) ∧ u.2 = T ∧ u.1 = M) := by
  unfold mCi
  refine start_W (by decide) (Nat.le_of_ble_eq_true rfl) ?_
  intro p e s m below meth c ls hC hr hlk hnm hK hH hsz hl
  have hx := hC.1
  have hb := hC.2.1
  have hl : lv_has ls 3 [(0, .ref ro), (1, .int b), (2, .int k)] := hl
  have n_ro_w : ro ≠ w := neM hc_ro hc_w (by simp)
  have n_w_ro : w ≠ ro := neM hc_w hc_ro (by simp)
  refine lv_aload_n hx hb dX9_run_0 rfl (lv_at hl 0 rfl) ?_
  refine xg hC hK hH flX9_12 hc_ro rfl dX9_run_1 ?_
  refine lv_iload_n hx hb dX9_run_4 rfl (lv_at hl 1 rfl) ?_
  refine goI hK hH (runV (As := [.int b]) (rest := []) hC hK hH (c_X8_hasBill hc_w) mlX9_163 (rcvM hK hH hc_w rfl) ⟨⟨Nat.le_of_ble_eq_true rfl, Nat.le_of_ble_eq_true rfl⟩, Nat.le_of_ble_eq_true rfl, Nat.le_of_ble_eq_true rfl⟩ rfl hl.1 rfl (Nat.le_of_ble_eq_true rfl) dX9_run_5) (fun rq3_ Mq1_ Tq2_ Hq_ lcq_ hP hz hH => ?_)
  try dsimp only at hP
  obtain ⟨(⟨cq4_, rfl⟩ | ⟨cq5_, rfl⟩), eT, eM⟩ := hP
  · skip
    have eT := eT.symm; subst eT
    have eM := eM.symm; subst eM
    have cq4_ : 0 ≤ b.toInt ∧ b.toInt < (0 : Int) := cq4_
    exact absurd cq4_ (by omega)
  · skip
    have eT := eT.symm; subst eT
    have eM := eM.symm; subst eM
    have cq5_ : ¬ (0 ≤ b.toInt ∧ b.toInt < (0 : Int)) := cq5_
    refine jif_ne (tgt := 14) hx hb dX9_run_8 (by decide) (fun cq6_ => absurd cq6_ (by decide)) (fun cq6_ => ?_)
    refine lv_bipush (v := -2) hx hb dX9_run_11 (by decide) ?_
    exact ret_i hC hr hlk hK hH (⟨rfl, rfl, rfl⟩) (Nat.le_of_ble_eq_true rfl) (Nat.le_of_ble_eq_true rfl) dX9_run_13
set_option maxHeartbeats 4000000 in
set_option maxRecDepth 100000 in
theorem c_X9_gains {l : Launch} {D : va_G} {kA : Nat → ClassId} {M : mM} {T : mT} {sz : Nat} {ro im rd rc cu : Nat} {w cs bs tp : Nat} {b ps : Int32} (hc_ro : M ro = some (.inr (7, [.ref w, .ref im, .ref rd, .ref rc, .ref cu]))) (hc_w : M w = some (.inr (6, [.int 0, .int 2, .int 0, .int 0, .int 0, .int 0, .int 0, .int (-1), .ref cs, .ref bs, .ref tp]))) : mCi l yX9_gains cX9_gains 3 (some .int) 1 0 0 D kA M T sz [.ref ro, .int b, .int ps] (fun r u => (r = 0) ∧ u.2 = T ∧ u.1 = M) := by
  unfold mCi
  refine start_W (by decide) (Nat.le_of_ble_eq_true rfl) ?_
  intro p e s m below meth c ls hC hr hlk hnm hK hH hsz hl
  have hx := hC.1
  have hb := hC.2.1
  have hl : lv_has ls 3 [(0, .ref ro), (1, .int b), (2, .int ps)] := hl
  have n_ro_w : ro ≠ w := neM hc_ro hc_w (by simp)
  have n_w_ro : w ≠ ro := neM hc_w hc_ro (by simp)
  refine lv_aload_n hx hb dX9_gains_0 rfl (lv_at hl 0 rfl) ?_
  refine xg hC hK hH flX9_12 hc_ro rfl dX9_gains_1 ?_
  refine lv_iload_n hx hb dX9_gains_4 rfl (lv_at hl 1 rfl) ?_
  refine goI hK hH (runV (As := [.int b]) (rest := []) hC hK hH (c_X8_hasBill hc_w) mlX9_163 (rcvM hK hH hc_w rfl) ⟨⟨Nat.le_of_ble_eq_true rfl, Nat.le_of_ble_eq_true rfl⟩, Nat.le_of_ble_eq_true rfl, Nat.le_of_ble_eq_true rfl⟩ rfl hl.1 rfl (Nat.le_of_ble_eq_true rfl) dX9_gains_5) (fun rq3_ Mq1_ Tq2_ Hq_ lcq_ hP hz hH => ?_)
  try dsimp only at hP
  obtain ⟨(⟨cq4_, rfl⟩ | ⟨cq5_, rfl⟩), eT, eM⟩ := hP
  · skip
    have eT := eT.symm; subst eT
    have eM := eM.symm; subst eM
    have cq4_ : 0 ≤ b.toInt ∧ b.toInt < (0 : Int) := cq4_
    exact absurd cq4_ (by omega)
  · skip
    have eT := eT.symm; subst eT
    have eM := eM.symm; subst eM
    have cq5_ : ¬ (0 ≤ b.toInt ∧ b.toInt < (0 : Int)) := cq5_
    refine jif_eq (tgt := 18) hx hb dX9_gains_8 (by decide) (fun cq6_ => ?_) (fun cq6_ => absurd cq6_ (by decide))
    refine lv_iconst (v := 0) hx hb dX9_gains_18 (by decide) ?_
    exact ret_i hC hr hlk hK hH (⟨rfl, rfl, rfl⟩) (Nat.le_of_ble_eq_true rfl) (Nat.le_of_ble_eq_true rfl) dX9_gains_19
set_option maxHeartbeats 4000000 in
set_option maxRecDepth 100000 in
theorem c_X9_ends {l : Launch} {D : va_G} {kA : Nat → ClassId} {M : mM} {T : mT} {sz : Nat} {ro im rd rc cu : Nat} {w cs bs tp : Nat} {b : Int32} (hc_ro : M ro = some (.inr (7, [.ref w, .ref im, .ref rd, .ref rc, .ref cu]))) (hc_w : M w = some (.inr (6, [.int 0, .int 2, .int 0, .int 0, .int 0, .int 0, .int 0, .int (-1), .ref cs, .ref bs, .ref tp]))) : mCi l yX9_ends cX9_ends 2 (some .int) 1 0 0 D kA M T sz [.ref ro, .int b] (fun r u => (r = -1) ∧ u.2 = T ∧ u.1 = M) := by
  unfold mCi
  refine start_W (by decide) (Nat.le_of_ble_eq_true rfl) ?_
  intro p e s m below meth c ls hC hr hlk hnm hK hH hsz hl
  have hx := hC.1
  have hb := hC.2.1
  have hl : lv_has ls 2 [(0, .ref ro), (1, .int b)] := hl
  have n_ro_w : ro ≠ w := neM hc_ro hc_w (by simp)
  have n_w_ro : w ≠ ro := neM hc_w hc_ro (by simp)
  refine lv_aload_n hx hb dX9_ends_0 rfl (lv_at hl 0 rfl) ?_
  refine xg hC hK hH flX9_12 hc_ro rfl dX9_ends_1 ?_
  refine lv_iload_n hx hb dX9_ends_4 rfl (lv_at hl 1 rfl) ?_
  refine goI hK hH (runV (As := [.int b]) (rest := []) hC hK hH (c_X8_hasBill hc_w) mlX9_163 (rcvM hK hH hc_w rfl) ⟨⟨Nat.le_of_ble_eq_true rfl, Nat.le_of_ble_eq_true rfl⟩, Nat.le_of_ble_eq_true rfl, Nat.le_of_ble_eq_true rfl⟩ rfl hl.1 rfl (Nat.le_of_ble_eq_true rfl) dX9_ends_5) (fun rq3_ Mq1_ Tq2_ Hq_ lcq_ hP hz hH => ?_)
  try dsimp only at hP
  obtain ⟨(⟨cq4_, rfl⟩ | ⟨cq5_, rfl⟩), eT, eM⟩ := hP
  · skip
    have eT := eT.symm; subst eT
    have eM := eM.symm; subst eM
    have cq4_ : 0 ≤ b.toInt ∧ b.toInt < (0 : Int) := cq4_
    exact absurd cq4_ (by omega)
  · skip
    have eT := eT.symm; subst eT
    have eM := eM.symm; subst eM
    have cq5_ : ¬ (0 ≤ b.toInt ∧ b.toInt < (0 : Int)) := cq5_
    refine jif_ne (tgt := 13) hx hb dX9_ends_8 (by decide) (fun cq6_ => absurd cq6_ (by decide)) (fun cq6_ => ?_)
    refine lv_iconst (v := -1) hx hb dX9_ends_11 (by decide) ?_
    exact ret_i hC hr hlk hK hH (⟨rfl, rfl, rfl⟩) (Nat.le_of_ble_eq_true rfl) (Nat.le_of_ble_eq_true rfl) dX9_ends_12
set_option maxHeartbeats 4000000 in
set_option maxRecDepth 100000 in
theorem c_X9_owes {l : Launch} {D : va_G} {kA : Nat → ClassId} {M : mM} {T : mT} {sz : Nat} {ro im rd rc cu : Nat} {w cs bs tp : Nat} {ps : Int32} (hc_ro : M ro = some (.inr (7, [.ref w, .ref im, .ref rd, .ref rc, .ref cu]))) (hc_w : M w = some (.inr (6, [.int 0, .int 2, .int 0, .int 0, .int 0, .int 0, .int 0, .int (-1), .ref cs, .ref bs, .ref tp]))) : mCi l yX9_owes cX9_owes 4 (some .int) 1 0 0 D kA M T sz [.ref ro, .int ps] (fun r u => (((0 ≤ ps.toInt ∧ ps.toInt ≤ 7) ∧ r = 0) ∨ ((¬ (0 ≤ ps.toInt ∧ ps.toInt ≤ 7)) ∧ r = -1)) ∧ u.2 = T ∧ u.1 = M) := by
  unfold mCi
  refine start_W (by decide) (Nat.le_of_ble_eq_true rfl) ?_
  intro p e s m below meth c ls hC hr hlk hnm hK hH hsz hl
  have hx := hC.1
  have hb := hC.2.1
  have hl : lv_has ls 4 [(0, .ref ro), (1, .int ps)] := hl
  have n_ro_w : ro ≠ w := neM hc_ro hc_w (by simp)
  have n_w_ro : w ≠ ro := neM hc_w hc_ro (by simp)
  refine lv_iload_n hx hb dX9_owes_0 rfl (lv_at hl 1 rfl) ?_
  refine goI hK hH (runS (As := [.int ps]) (rest := []) hC hK hH (c_X9_isPerson) mlX9_155 ⟨⟨Nat.le_of_ble_eq_true rfl, Nat.le_of_ble_eq_true rfl⟩, Nat.le_of_ble_eq_true rfl, Nat.le_of_ble_eq_true rfl⟩ rfl hl.1 rfl (Nat.le_of_ble_eq_true rfl) dX9_owes_1) (fun rq3_ Mq1_ Tq2_ Hq_ lcq_ hP hz hH => ?_)
  try dsimp only at hP
  obtain ⟨(⟨cq4_, rfl⟩ | ⟨cq5_, rfl⟩), eT, eM⟩ := hP
  · skip
    have eT := eT.symm; subst eT
    have eM := eM.symm; subst eM
    have cq4_ : 0 ≤ ps.toInt ∧ ps.toInt ≤ 7 := cq4_
    refine jif_ne (tgt := 9) hx hb dX9_owes_4 (by decide) (fun cq6_ => ?_) (fun cq6_ => absurd cq6_ (by decide))
    refine lv_iconst (v := 0) hx hb dX9_owes_9 (by decide) ?_
    refine lv_istore_n (lv' := [(2, .int 0), (0, .ref ro), (1, .int ps)]) hx hb dX9_owes_10 rfl hl (by decide) rfl (fun ls hl => ?_)
    refine lv_iconst (v := 0) hx hb dX9_owes_11 (by decide) ?_
    refine lv_istore_n (lv' := [(3, .int 0), (2, .int 0), (0, .ref ro), (1, .int ps)]) hx hb dX9_owes_12 rfl hl (by decide) rfl (fun ls hl => ?_)
    refine lv_iload_n hx hb dX9_owes_13 rfl (lv_at hl 0 rfl) ?_
    refine lv_aload_n hx hb dX9_owes_14 rfl (lv_at hl 2 rfl) ?_
    refine xg hC hK hH flX9_12 hc_ro rfl dX9_owes_15 ?_
    refine xg hC hK hH flX9_97 hc_w rfl dX9_owes_18 ?_
    refine jic_ge (tgt := 68) hx hb dX9_owes_21 (by decide) (fun cq7_ => ?_) (fun cq7_ => absurd cq7_ (by decide))
    refine lv_iload_n hx hb dX9_owes_68 rfl (lv_at hl 1 rfl) ?_
    exact ret_i hC hr hlk hK hH (⟨Or.inl (⟨by omega, rfl⟩), rfl, rfl⟩) (Nat.le_of_ble_eq_true rfl) (Nat.le_of_ble_eq_true rfl) dX9_owes_69
  · skip
    have eT := eT.symm; subst eT
    have eM := eM.symm; subst eM
    have cq5_ : ¬ (0 ≤ ps.toInt ∧ ps.toInt ≤ 7) := cq5_
    refine jif_ne (tgt := 9) hx hb dX9_owes_4 (by decide) (fun cq8_ => absurd cq8_ (by decide)) (fun cq8_ => ?_)
    refine lv_iconst (v := -1) hx hb dX9_owes_7 (by decide) ?_
    exact ret_i hC hr hlk hK hH (⟨Or.inr (⟨by omega, rfl⟩), rfl, rfl⟩) (Nat.le_of_ble_eq_true rfl) (Nat.le_of_ble_eq_true rfl) dX9_owes_8
set_option maxHeartbeats 4000000 in
set_option maxRecDepth 100000 in
theorem c_X9_worth {l : Launch} {D : va_G} {kA : Nat → ClassId} {M : mM} {T : mT} {sz : Nat} {ro im rd rc cu : Nat} {w cs bs tp : Nat} {ps : Int32} (hc_ro : M ro = some (.inr (7, [.ref w, .ref im, .ref rd, .ref rc, .ref cu]))) (hc_w : M w = some (.inr (6, [.int 0, .int 2, .int 0, .int 0, .int 0, .int 0, .int 0, .int (-1), .ref cs, .ref bs, .ref tp]))) : mCi l yX9_worth cX9_worth 5 (some .int) 1 0 0 D kA M T sz [.ref ro, .int ps] (fun r u => (((0 ≤ ps.toInt ∧ ps.toInt ≤ 7) ∧ r = 0) ∨ ((¬ (0 ≤ ps.toInt ∧ ps.toInt ≤ 7)) ∧ r = -1)) ∧ u.2 = T ∧ u.1 = M) := by
  unfold mCi
  refine start_W (by decide) (Nat.le_of_ble_eq_true rfl) ?_
  intro p e s m below meth c ls hC hr hlk hnm hK hH hsz hl
  have hx := hC.1
  have hb := hC.2.1
  have hl : lv_has ls 5 [(0, .ref ro), (1, .int ps)] := hl
  have n_ro_w : ro ≠ w := neM hc_ro hc_w (by simp)
  have n_w_ro : w ≠ ro := neM hc_w hc_ro (by simp)
  refine lv_iload_n hx hb dX9_worth_0 rfl (lv_at hl 1 rfl) ?_
  refine goI hK hH (runS (As := [.int ps]) (rest := []) hC hK hH (c_X9_isPerson) mlX9_155 ⟨⟨Nat.le_of_ble_eq_true rfl, Nat.le_of_ble_eq_true rfl⟩, Nat.le_of_ble_eq_true rfl, Nat.le_of_ble_eq_true rfl⟩ rfl hl.1 rfl (Nat.le_of_ble_eq_true rfl) dX9_worth_1) (fun rq3_ Mq1_ Tq2_ Hq_ lcq_ hP hz hH => ?_)
  try dsimp only at hP
  obtain ⟨(⟨cq4_, rfl⟩ | ⟨cq5_, rfl⟩), eT, eM⟩ := hP
  · skip
    have eT := eT.symm; subst eT
    have eM := eM.symm; subst eM
    have cq4_ : 0 ≤ ps.toInt ∧ ps.toInt ≤ 7 := cq4_
    refine jif_ne (tgt := 9) hx hb dX9_worth_4 (by decide) (fun cq6_ => ?_) (fun cq6_ => absurd cq6_ (by decide))
    refine lv_iconst (v := 0) hx hb dX9_worth_9 (by decide) ?_
    refine lv_istore_n (lv' := [(2, .int 0), (0, .ref ro), (1, .int ps)]) hx hb dX9_worth_10 rfl hl (by decide) rfl (fun ls hl => ?_)
    refine lv_iconst (v := 0) hx hb dX9_worth_11 (by decide) ?_
    refine lv_istore_n (lv' := [(3, .int 0), (2, .int 0), (0, .ref ro), (1, .int ps)]) hx hb dX9_worth_12 rfl hl (by decide) rfl (fun ls hl => ?_)
    refine lv_iload_n hx hb dX9_worth_13 rfl (lv_at hl 0 rfl) ?_
    refine lv_aload_n hx hb dX9_worth_14 rfl (lv_at hl 2 rfl) ?_
    refine xg hC hK hH flX9_12 hc_ro rfl dX9_worth_15 ?_
    refine xg hC hK hH flX9_97 hc_w rfl dX9_worth_18 ?_
    refine jic_ge (tgt := 81) hx hb dX9_worth_21 (by decide) (fun cq7_ => ?_) (fun cq7_ => absurd cq7_ (by decide))
    refine lv_iload_n hx hb dX9_worth_81 rfl (lv_at hl 1 rfl) ?_
    exact ret_i hC hr hlk hK hH (⟨Or.inl (⟨by omega, rfl⟩), rfl, rfl⟩) (Nat.le_of_ble_eq_true rfl) (Nat.le_of_ble_eq_true rfl) dX9_worth_82
  · skip
    have eT := eT.symm; subst eT
    have eM := eM.symm; subst eM
    have cq5_ : ¬ (0 ≤ ps.toInt ∧ ps.toInt ≤ 7) := cq5_
    refine jif_ne (tgt := 9) hx hb dX9_worth_4 (by decide) (fun cq8_ => absurd cq8_ (by decide)) (fun cq8_ => ?_)
    refine lv_iconst (v := -1) hx hb dX9_worth_7 (by decide) ?_
    exact ret_i hC hr hlk hK hH (⟨Or.inr (⟨by omega, rfl⟩), rfl, rfl⟩) (Nat.le_of_ble_eq_true rfl) (Nat.le_of_ble_eq_true rfl) dX9_worth_8
set_option maxHeartbeats 4000000 in
set_option maxRecDepth 100000 in
theorem c_X9_until {l : Launch} {D : va_G} {kA : Nat → ClassId} {M : mM} {T : mT} {sz : Nat} {ro im rd rc cu : Nat} {w cs bs tp : Nat} {b pt : Int32} (hc_ro : M ro = some (.inr (7, [.ref w, .ref im, .ref rd, .ref rc, .ref cu]))) (hc_w : M w = some (.inr (6, [.int 0, .int 2, .int 0, .int 0, .int 0, .int 0, .int 0, .int (-1), .ref cs, .ref bs, .ref tp]))) : mCi l yX9_until cX9_until 3 (some .int) 2 0 0 D kA M T sz [.ref ro, .int b, .int pt] (fun r u => (r = -1) ∧ u.2 = T ∧ u.1 = M) := by
  unfold mCi
  refine start_W (by decide) (Nat.le_of_ble_eq_true rfl) ?_
  intro p e s m below meth c ls hC hr hlk hnm hK hH hsz hl
  have hx := hC.1
  have hb := hC.2.1
  have hl : lv_has ls 3 [(0, .ref ro), (1, .int b), (2, .int pt)] := hl
  have n_ro_w : ro ≠ w := neM hc_ro hc_w (by simp)
  have n_w_ro : w ≠ ro := neM hc_w hc_ro (by simp)
  refine lv_aload_n hx hb dX9_until_0 rfl (lv_at hl 0 rfl) ?_
  refine xg hC hK hH flX9_12 hc_ro rfl dX9_until_1 ?_
  refine lv_iload_n hx hb dX9_until_4 rfl (lv_at hl 1 rfl) ?_
  refine lv_iload_n hx hb dX9_until_5 rfl (lv_at hl 2 rfl) ?_
  refine goI hK hH (runV (As := [.int b, .int pt]) (rest := []) hC hK hH (c_X8_hasParty hc_w) mlX9_278 (rcvM hK hH hc_w rfl) ⟨⟨Nat.le_of_ble_eq_true rfl, Nat.le_of_ble_eq_true rfl⟩, Nat.le_of_ble_eq_true rfl, Nat.le_of_ble_eq_true rfl⟩ rfl hl.1 rfl (Nat.le_of_ble_eq_true rfl) dX9_until_6) (fun rq3_ Mq1_ Tq2_ Hq_ lcq_ hP hz hH => ?_)
  try dsimp only at hP
  obtain ⟨(rfl), eT, eM⟩ := hP
  have eT := eT.symm; subst eT
  have eM := eM.symm; subst eM
  refine jif_eq (tgt := 35) hx hb dX9_until_9 (by decide) (fun cq4_ => ?_) (fun cq4_ => absurd cq4_ (by decide))
  refine lv_iconst (v := -1) hx hb dX9_until_35 (by decide) ?_
  exact ret_i hC hr hlk hK hH (⟨rfl, rfl, rfl⟩) (Nat.le_of_ble_eq_true rfl) (Nat.le_of_ble_eq_true rfl) dX9_until_36
set_option maxHeartbeats 4000000 in
set_option maxRecDepth 100000 in
theorem c_X9_sorts {l : Launch} {D : va_G} {kA : Nat → ClassId} {M : mM} {T : mT} {sz : Nat} {ro im rd rc cu : Nat} {w cs bs tp : Nat} {b so : Int32} (hc_ro : M ro = some (.inr (7, [.ref w, .ref im, .ref rd, .ref rc, .ref cu]))) (hc_w : M w = some (.inr (6, [.int 0, .int 2, .int 0, .int 0, .int 0, .int 0, .int 0, .int (-1), .ref cs, .ref bs, .ref tp]))) : mCi l yX9_sorts cX9_sorts 7 (some .int) 1 0 0 D kA M T sz [.ref ro, .int b, .int so] (fun r u => (r = -2) ∧ u.2 = T ∧ u.1 = M) := by
  unfold mCi
  refine start_W (by decide) (Nat.le_of_ble_eq_true rfl) ?_
  intro p e s m below meth c ls hC hr hlk hnm hK hH hsz hl
  have hx := hC.1
  have hb := hC.2.1
  have hl : lv_has ls 7 [(0, .ref ro), (1, .int b), (2, .int so)] := hl
  have n_ro_w : ro ≠ w := neM hc_ro hc_w (by simp)
  have n_w_ro : w ≠ ro := neM hc_w hc_ro (by simp)
  refine lv_aload_n hx hb dX9_sorts_0 rfl (lv_at hl 0 rfl) ?_
  refine xg hC hK hH flX9_12 hc_ro rfl dX9_sorts_1 ?_
  refine lv_iload_n hx hb dX9_sorts_4 rfl (lv_at hl 1 rfl) ?_
  refine goI hK hH (runV (As := [.int b]) (rest := []) hC hK hH (c_X8_hasBill hc_w) mlX9_163 (rcvM hK hH hc_w rfl) ⟨⟨Nat.le_of_ble_eq_true rfl, Nat.le_of_ble_eq_true rfl⟩, Nat.le_of_ble_eq_true rfl, Nat.le_of_ble_eq_true rfl⟩ rfl hl.1 rfl (Nat.le_of_ble_eq_true rfl) dX9_sorts_5) (fun rq3_ Mq1_ Tq2_ Hq_ lcq_ hP hz hH => ?_)
  try dsimp only at hP
  obtain ⟨(⟨cq4_, rfl⟩ | ⟨cq5_, rfl⟩), eT, eM⟩ := hP
  · skip
    have eT := eT.symm; subst eT
    have eM := eM.symm; subst eM
    have cq4_ : 0 ≤ b.toInt ∧ b.toInt < (0 : Int) := cq4_
    exact absurd cq4_ (by omega)
  · skip
    have eT := eT.symm; subst eT
    have eM := eM.symm; subst eM
    have cq5_ : ¬ (0 ≤ b.toInt ∧ b.toInt < (0 : Int)) := cq5_
    refine jif_eq (tgt := 20) hx hb dX9_sorts_8 (by decide) (fun cq6_ => ?_) (fun cq6_ => absurd cq6_ (by decide))
    refine lv_bipush (v := -2) hx hb dX9_sorts_20 (by decide) ?_
    exact ret_i hC hr hlk hK hH (⟨rfl, rfl, rfl⟩) (Nat.le_of_ble_eq_true rfl) (Nat.le_of_ble_eq_true rfl) dX9_sorts_22
