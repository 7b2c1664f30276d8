set_option maxHeartbeats 4000000 in
set_option maxRecDepth 100000 in
theorem c_X8_setCash {l : Launch} {D : va_G} {kA : Nat → ClassId} {M : mM} {T : mT} {sz : Nat} {w cs bs tp : Nat} {td gd bc py rf lt tl fp : Int32} {g : Nat → Option Nat} {ps n : Int32} (hc_w : M w = some (.inr (6, [.int td, .int gd, .int bc, .int py, .int rf, .int lt, .int tl, .int fp, .ref cs, .ref bs, .ref tp]))) (hn_w : T w = none) (hc_bs : M bs = some (.inl (kA 5, 4, .inr (.inr (.inr (.inr g)))))) (ht_cs : T cs = some 3) (ht_bs : T bs = some 6) (ht_tp : T tp = some 7) (htd : 0 ≤ td.toInt ∧ td.toInt ≤ 999) (hbc : 0 ≤ bc.toInt ∧ bc.toInt ≤ 4) (htl : 0 ≤ tl.toInt ∧ tl.toInt ≤ 600) (hg : ∀ j, j < 4 → ∃ q, g j = some q ∧ T q = some 2) : mCi l yX8_setCash cX8_setCash 3 (some .int) 1 0 0 D kA M T sz [.ref w, .int ps, .int n] (fun r u => (((0 ≤ ps.toInt ∧ ps.toInt ≤ 7 ∧ 0 ≤ n.toInt ∧ n.toInt ≤ 9999) ∧ r = 0) ∨ ((¬ (0 ≤ ps.toInt ∧ ps.toInt ≤ 7 ∧ 0 ≤ n.toInt ∧ n.toInt ≤ 9999)) ∧ r = 30)) ∧ u.2 = T ∧ (∀ q, FrK T q → u.1 q = M q)) := by
  unfold mCi
  refine start_W (by decide) (Nat.le_of_ble_eq_true rfl) ?_
  intro p e s m below meth c ls hC hr hlk hnm hK hH hsz hl
  have hx := hC.1
  have hb := hC.2.1
  have hl : lv_has ls 3 [(0, .ref w), (1, .int ps), (2, .int n)] := hl
  have hF : ∀ q, FrK T q → M q = M q := fun q _  => rfl
  have n_w_bs : w ≠ bs := neM hc_w hc_bs (by simp)
  have n_bs_w : bs ≠ w := neM hc_bs hc_w (by simp)
  refine lv_iload_n hx hb dX8_setCash_0 rfl (lv_at hl 1 rfl) ?_
  refine goI hK hH (runSN (As := [.int ps]) (rest := []) hC hK hH (c_X9_isPerson) mlX8_94 ⟨⟨Nat.le_of_ble_eq_true rfl, Nat.le_of_ble_eq_true rfl⟩, Nat.le_of_ble_eq_true rfl, Nat.le_of_ble_eq_true rfl⟩ rfl hl.1 rfl (Nat.le_of_ble_eq_true rfl) dX8_setCash_1) (fun rq3_ Mq1_ Tq2_ Hq_ lcq_ hP hz hH => ?_)
  try dsimp only at hP
  obtain ⟨(⟨cq4_, er_rq3_⟩ | ⟨cq5_, er_rq3_⟩), eT, eM⟩ := hP
  · skip
    have eT := eT.symm; subst eT
    have er_rq3_ := er_rq3_.symm; subst er_rq3_
    have eM := eM.symm; subst eM
    have cq4_ : 0 ≤ ps.toInt ∧ ps.toInt ≤ 7 := cq4_
    refine jif_eq (tgt := 18) hx hb dX8_setCash_4 (by decide) (fun cq6_ => absurd cq6_ (by decide)) (fun cq6_ => ?_)
    refine lv_iload_n hx hb dX8_setCash_7 rfl (lv_at hl 2 rfl) ?_
    refine jif_lt (tgt := 18) hx hb dX8_setCash_8 (by decide) (fun cq7_ => ?_) (fun cq7_ => ?_)
    · skip
      have cq7_ : n.toInt < 0 := cq7_
      refine lv_bipush (v := 30) hx hb dX8_setCash_18 (by decide) ?_
      exact ret_i hC hr hlk hK hH (⟨Or.inr (⟨by omega, rfl⟩), rfl, hF⟩) (Nat.le_of_ble_eq_true rfl) (Nat.le_of_ble_eq_true rfl) dX8_setCash_20
    · skip
      have cq7_ : 0 ≤ n.toInt := cq7_
      refine lv_iload_n hx hb dX8_setCash_11 rfl (lv_at hl 2 rfl) ?_
      refine lv_sipush (v := 9999) hx hb dX8_setCash_12 (by decide) ?_
      refine jic_le (tgt := 21) hx hb dX8_setCash_15 (by decide) (fun cq8_ => ?_) (fun cq8_ => ?_)
      · skip
        have cq8_ : n.toInt ≤ 9999 := cq8_
        refine lv_aload_n hx hb dX8_setCash_21 rfl (lv_at hl 0 rfl) ?_
        refine xg hC hK hH flX8_9 hc_w rfl dX8_setCash_22 ?_
        refine lv_iload_n hx hb dX8_setCash_25 rfl (lv_at hl 1 rfl) ?_
        refine lv_iload_n hx hb dX8_setCash_26 rfl (lv_at hl 2 rfl) ?_
        refine tist (x := n) hC hK hH ht_cs rfl (iIn (by omega) (by omega)) (iRg _).1 (iRg _).2 dX8_setCash_27 (fun Hq_ lcq_ Mq9_ _ hfr hH => ?_)
        have hc_w : Mq9_ w = some (.inr (6, [.int td, .int gd, .int bc, .int py, .int rf, .int lt, .int tl, .int fp, .ref cs, .ref bs, .ref tp])) := (hfr w (neF (Or.inl hn_w) ht_cs (by decide))).trans hc_w
        have hc_bs : Mq9_ bs = some (.inl (kA 5, 4, .inr (.inr (.inr (.inr g))))) := (hfr bs (neF (Or.inr (Or.inl ht_bs)) ht_cs (by decide))).trans hc_bs
        have hF : ∀ q, FrK T q → Mq9_ q = M q := fun q hq  => (hfr q (neF hq ht_cs (by decide))).trans (hF q hq )
        refine lv_iconst (v := 0) hx hb dX8_setCash_28 (by decide) ?_
        exact ret_i hC hr hlk hK hH (⟨Or.inl (⟨by omega, rfl⟩), rfl, hF⟩) (Nat.le_of_ble_eq_true rfl) (Nat.le_of_ble_eq_true rfl) dX8_setCash_29
      · skip
        have cq8_ : 9999 < n.toInt := cq8_
        refine lv_bipush (v := 30) hx hb dX8_setCash_18 (by decide) ?_
        exact ret_i hC hr hlk hK hH (⟨Or.inr (⟨by omega, rfl⟩), rfl, hF⟩) (Nat.le_of_ble_eq_true rfl) (Nat.le_of_ble_eq_true rfl) dX8_setCash_20
  · skip
    have eT := eT.symm; subst eT
    have er_rq3_ := er_rq3_.symm; subst er_rq3_
    have eM := eM.symm; subst eM
    have cq5_ : ¬ (0 ≤ ps.toInt ∧ ps.toInt ≤ 7) := cq5_
    refine jif_eq (tgt := 18) hx hb dX8_setCash_4 (by decide) (fun cq10_ => ?_) (fun cq10_ => absurd cq10_ (by decide))
    refine lv_bipush (v := 30) hx hb dX8_setCash_18 (by decide) ?_
    exact ret_i hC hr hlk hK hH (⟨Or.inr (⟨by omega, rfl⟩), rfl, hF⟩) (Nat.le_of_ble_eq_true rfl) (Nat.le_of_ble_eq_true rfl) dX8_setCash_20
set_option maxHeartbeats 4000000 in
set_option maxRecDepth 100000 in
theorem c_X8_begin {l : Launch} {D : va_G} {kA : Nat → ClassId} {M : mM} {T : mT} {sz : Nat} {w cs bs tp : Nat} {td gd bc py rf lt tl fp : Int32} {g : Nat → Option Nat} (hc_w : M w = some (.inr (6, [.int td, .int gd, .int bc, .int py, .int rf, .int lt, .int tl, .int fp, .ref cs, .ref bs, .ref tp]))) (hn_w : T w = none) (hc_bs : M bs = some (.inl (kA 5, 4, .inr (.inr (.inr (.inr g)))))) (ht_cs : T cs = some 3) (ht_bs : T bs = some 6) (ht_tp : T tp = some 7) (htd : 0 ≤ td.toInt ∧ td.toInt ≤ 999) (hbc : 0 ≤ bc.toInt ∧ bc.toInt ≤ 4) (htl : 0 ≤ tl.toInt ∧ tl.toInt ≤ 600) (hg : ∀ j, j < 4 → ∃ q, g j = some q ∧ T q = some 2) : mCv l yX8_begin cX8_begin 2 0 0 0 D kA M T sz [.ref w] (fun u => (u.1 w = some (.inr (6, [.int 0, .int 2, .int 0, .int 0, .int 0, .int 0, .int 0, .int (-1), .ref cs, .ref bs, .ref tp]))) ∧ u.2 = T ∧ (∀ q, FrK T q → q ≠ w → u.1 q = M q)) := by
  unfold mCv
  refine start_W (by decide) (Nat.le_of_ble_eq_true rfl) ?_
  intro p e s m below meth c ls hC hr hlk hnm hK hH hsz hl
  have hx := hC.1
  have hb := hC.2.1
  have hl : lv_has ls 2 [(0, .ref w)] := hl
  have hF : ∀ q, FrK T q → q ≠ w → M q = M q := fun q _ _ => rfl
  have n_w_bs : w ≠ bs := neM hc_w hc_bs (by simp)
  have n_bs_w : bs ≠ w := neM hc_bs hc_w (by simp)
  refine lv_aload_n hx hb dX8_begin_0 rfl (lv_at hl 0 rfl) ?_
  refine lv_iconst (v := 0) hx hb dX8_begin_1 (by decide) ?_
  refine yp (v := .int 0) hC hK hH flX8_29 hc_w (noT hn_w) rfl rfl (Nat.le_of_ble_eq_true rfl) dX8_begin_2 (fun Hq_ lcq_ Mq1_ hc_w hfr hH => ?_)
  have hc_w : Mq1_ w = some (.inr (6, [.int 0, .int gd, .int bc, .int py, .int rf, .int lt, .int tl, .int fp, .ref cs, .ref bs, .ref tp])) := hc_w
  have hc_bs : Mq1_ bs = some (.inl (kA 5, 4, .inr (.inr (.inr (.inr g))))) := (hfr bs n_bs_w).trans hc_bs
  have hF : ∀ q, FrK T q → q ≠ w → Mq1_ q = M q := fun q hq h0 => (hfr q h0).trans (hF q hq h0)
  refine lv_aload_n hx hb dX8_begin_5 rfl (lv_at hl 0 rfl) ?_
  refine lv_iconst (v := 2) hx hb dX8_begin_6 (by decide) ?_
  refine yp (v := .int 2) hC hK hH flX8_33 hc_w (noT hn_w) rfl rfl (Nat.le_of_ble_eq_true rfl) dX8_begin_7 (fun Hq_ lcq_ Mq2_ hc_w hfr hH => ?_)
  have hc_w : Mq2_ w = some (.inr (6, [.int 0, .int 2, .int bc, .int py, .int rf, .int lt, .int tl, .int fp, .ref cs, .ref bs, .ref tp])) := hc_w
  have hc_bs : Mq2_ bs = some (.inl (kA 5, 4, .inr (.inr (.inr (.inr g))))) := (hfr bs n_bs_w).trans hc_bs
  have hF : ∀ q, FrK T q → q ≠ w → Mq2_ q = M q := fun q hq h0 => (hfr q h0).trans (hF q hq h0)
  refine lv_aload_n hx hb dX8_begin_10 rfl (lv_at hl 0 rfl) ?_
  refine lv_iconst (v := 0) hx hb dX8_begin_11 (by decide) ?_
  refine yp (v := .int 0) hC hK hH flX8_36 hc_w (noT hn_w) rfl rfl (Nat.le_of_ble_eq_true rfl) dX8_begin_12 (fun Hq_ lcq_ Mq3_ hc_w hfr hH => ?_)
  have hc_w : Mq3_ w = some (.inr (6, [.int 0, .int 2, .int 0, .int py, .int rf, .int lt, .int tl, .int fp, .ref cs, .ref bs, .ref tp])) := hc_w
  have hc_bs : Mq3_ bs = some (.inl (kA 5, 4, .inr (.inr (.inr (.inr g))))) := (hfr bs n_bs_w).trans hc_bs
  have hF : ∀ q, FrK T q → q ≠ w → Mq3_ q = M q := fun q hq h0 => (hfr q h0).trans (hF q hq h0)
  refine lv_aload_n hx hb dX8_begin_15 rfl (lv_at hl 0 rfl) ?_
  refine lv_iconst (v := 0) hx hb dX8_begin_16 (by decide) ?_
  refine yp (v := .int 0) hC hK hH flX8_39 hc_w (noT hn_w) rfl rfl (Nat.le_of_ble_eq_true rfl) dX8_begin_17 (fun Hq_ lcq_ Mq4_ hc_w hfr hH => ?_)
  have hc_w : Mq4_ w = some (.inr (6, [.int 0, .int 2, .int 0, .int 0, .int rf, .int lt, .int tl, .int fp, .ref cs, .ref bs, .ref tp])) := hc_w
  have hc_bs : Mq4_ bs = some (.inl (kA 5, 4, .inr (.inr (.inr (.inr g))))) := (hfr bs n_bs_w).trans hc_bs
  have hF : ∀ q, FrK T q → q ≠ w → Mq4_ q = M q := fun q hq h0 => (hfr q h0).trans (hF q hq h0)
  refine lv_aload_n hx hb dX8_begin_20 rfl (lv_at hl 0 rfl) ?_
  refine lv_iconst (v := 0) hx hb dX8_begin_21 (by decide) ?_
  refine yp (v := .int 0) hC hK hH flX8_42 hc_w (noT hn_w) rfl rfl (Nat.le_of_ble_eq_true rfl) dX8_begin_22 (fun Hq_ lcq_ Mq5_ hc_w hfr hH => ?_)
  have hc_w : Mq5_ w = some (.inr (6, [.int 0, .int 2, .int 0, .int 0, .int 0, .int lt, .int tl, .int fp, .ref cs, .ref bs, .ref tp])) := hc_w
  have hc_bs : Mq5_ bs = some (.inl (kA 5, 4, .inr (.inr (.inr (.inr g))))) := (hfr bs n_bs_w).trans hc_bs
  have hF : ∀ q, FrK T q → q ≠ w → Mq5_ q = M q := fun q hq h0 => (hfr q h0).trans (hF q hq h0)
  refine lv_aload_n hx hb dX8_begin_25 rfl (lv_at hl 0 rfl) ?_
  refine lv_iconst (v := 0) hx hb dX8_begin_26 (by decide) ?_
  refine yp (v := .int 0) hC hK hH flX8_45 hc_w (noT hn_w) rfl rfl (Nat.le_of_ble_eq_true rfl) dX8_begin_27 (fun Hq_ lcq_ Mq6_ hc_w hfr hH => ?_)
  have hc_w : Mq6_ w = some (.inr (6, [.int 0, .int 2, .int 0, .int 0, .int 0, .int 0, .int tl, .int fp, .ref cs, .ref bs, .ref tp])) := hc_w
  have hc_bs : Mq6_ bs = some (.inl (kA 5, 4, .inr (.inr (.inr (.inr g))))) := (hfr bs n_bs_w).trans hc_bs
  have hF : ∀ q, FrK T q → q ≠ w → Mq6_ q = M q := fun q hq h0 => (hfr q h0).trans (hF q hq h0)
  refine lv_aload_n hx hb dX8_begin_30 rfl (lv_at hl 0 rfl) ?_
  refine lv_iconst (v := 0) hx hb dX8_begin_31 (by decide) ?_
  refine yp (v := .int 0) hC hK hH flX8_48 hc_w (noT hn_w) rfl rfl (Nat.le_of_ble_eq_true rfl) dX8_begin_32 (fun Hq_ lcq_ Mq7_ hc_w hfr hH => ?_)
  have hc_w : Mq7_ w = some (.inr (6, [.int 0, .int 2, .int 0, .int 0, .int 0, .int 0, .int 0, .int fp, .ref cs, .ref bs, .ref tp])) := hc_w
  have hc_bs : Mq7_ bs = some (.inl (kA 5, 4, .inr (.inr (.inr (.inr g))))) := (hfr bs n_bs_w).trans hc_bs
  have hF : ∀ q, FrK T q → q ≠ w → Mq7_ q = M q := fun q hq h0 => (hfr q h0).trans (hF q hq h0)
  refine lv_aload_n hx hb dX8_begin_35 rfl (lv_at hl 0 rfl) ?_
  refine lv_iconst (v := -1) hx hb dX8_begin_36 (by decide) ?_
  refine yp (v := .int (-1)) hC hK hH flX8_51 hc_w (noT hn_w) rfl rfl (Nat.le_of_ble_eq_true rfl) dX8_begin_37 (fun Hq_ lcq_ Mq8_ hc_w hfr hH => ?_)
  have hc_w : Mq8_ w = some (.inr (6, [.int 0, .int 2, .int 0, .int 0, .int 0, .int 0, .int 0, .int (-1), .ref cs, .ref bs, .ref tp])) := hc_w
  have hc_bs : Mq8_ bs = some (.inl (kA 5, 4, .inr (.inr (.inr (.inr g))))) := (hfr bs n_bs_w).trans hc_bs
  have hF : ∀ q, FrK T q → q ≠ w → Mq8_ q = M q := fun q hq h0 => (hfr q h0).trans (hF q hq h0)
  refine lv_iconst (v := 0) hx hb dX8_begin_40 (by decide) ?_
  refine lv_istore_n (lv' := [(1, .int 0), (0, .ref w)]) hx hb dX8_begin_41 rfl hl (by decide) rfl (fun ls hl => ?_)
  refine lv_iload_n hx hb dX8_begin_42 rfl (lv_at hl 0 rfl) ?_
  refine lv_bipush (v := 8) hx hb dX8_begin_43 (by decide) ?_
  refine jic_ge (tgt := 62) hx hb dX8_begin_45 (by decide) (fun cq9_ => absurd cq9_ (by decide)) (fun cq9_ => ?_)
  refine lv_aload_n hx hb dX8_begin_48 rfl (lv_at hl 1 rfl) ?_
  refine xg hC hK hH flX8_9 hc_w rfl dX8_begin_49 ?_
  refine lv_iload_n hx hb dX8_begin_52 rfl (lv_at hl 0 rfl) ?_
  refine lv_bipush (v := 100) hx hb dX8_begin_53 (by decide) ?_
  refine tist (x := 100) hC hK hH ht_cs rfl (iIn (by decide) (by decide)) (iRg _).1 (iRg _).2 dX8_begin_55 (fun Hq_ lcq_ Mq10_ _ hfr hH => ?_)
  have hc_w : Mq10_ w = some (.inr (6, [.int 0, .int 2, .int 0, .int 0, .int 0, .int 0, .int 0, .int (-1), .ref cs, .ref bs, .ref tp])) := (hfr w (neF (Or.inl hn_w) ht_cs (by decide))).trans hc_w
  have hc_bs : Mq10_ bs = some (.inl (kA 5, 4, .inr (.inr (.inr (.inr g))))) := (hfr bs (neF (Or.inr (Or.inl ht_bs)) ht_cs (by decide))).trans hc_bs
  have hF : ∀ q, FrK T q → q ≠ w → Mq10_ q = M q := fun q hq h0 => (hfr q (neF hq ht_cs (by decide))).trans (hF q hq h0)
  refine lv_iinc (v := 1) (lv' := [(1, .int 1), (0, .ref w)]) hx hb dX8_begin_56 hl (k := 0) rfl (by decide) (by decide) rfl (fun ls hl => ?_)
  refine lv_goto (tgt := 42) hx hb dX8_begin_59 (by decide) ?_
  refine lv_iload_n hx hb dX8_begin_42 rfl (lv_at hl 0 rfl) ?_
  refine lv_bipush (v := 8) hx hb dX8_begin_43 (by decide) ?_
  refine jic_ge (tgt := 62) hx hb dX8_begin_45 (by decide) (fun cq11_ => absurd cq11_ (by decide)) (fun cq11_ => ?_)
  refine lv_aload_n hx hb dX8_begin_48 rfl (lv_at hl 1 rfl) ?_
  refine xg hC hK hH flX8_9 hc_w rfl dX8_begin_49 ?_
  refine lv_iload_n hx hb dX8_begin_52 rfl (lv_at hl 0 rfl) ?_
  refine lv_bipush (v := 100) hx hb dX8_begin_53 (by decide) ?_
  refine tist (x := 100) hC hK hH ht_cs rfl (iIn (by decide) (by decide)) (iRg _).1 (iRg _).2 dX8_begin_55 (fun Hq_ lcq_ Mq12_ _ hfr hH => ?_)
  have hc_w : Mq12_ w = some (.inr (6, [.int 0, .int 2, .int 0, .int 0, .int 0, .int 0, .int 0, .int (-1), .ref cs, .ref bs, .ref tp])) := (hfr w (neF (Or.inl hn_w) ht_cs (by decide))).trans hc_w
  have hc_bs : Mq12_ bs = some (.inl (kA 5, 4, .inr (.inr (.inr (.inr g))))) := (hfr bs (neF (Or.inr (Or.inl ht_bs)) ht_cs (by decide))).trans hc_bs
  have hF : ∀ q, FrK T q → q ≠ w → Mq12_ q = M q := fun q hq h0 => (hfr q (neF hq ht_cs (by decide))).trans (hF q hq h0)
  refine lv_iinc (v := 2) (lv' := [(1, .int 2), (0, .ref w)]) hx hb dX8_begin_56 hl (k := 0) rfl (by decide) (by decide) rfl (fun ls hl => ?_)
  refine lv_goto (tgt := 42) hx hb dX8_begin_59 (by decide) ?_
  refine lv_iload_n hx hb dX8_begin_42 rfl (lv_at hl 0 rfl) ?_
  refine lv_bipush (v := 8) hx hb dX8_begin_43 (by decide) ?_
  refine jic_ge (tgt := 62) hx hb dX8_begin_45 (by decide) (fun cq13_ => absurd cq13_ (by decide)) (fun cq13_ => ?_)
  refine lv_aload_n hx hb dX8_begin_48 rfl (lv_at hl 1 rfl) ?_
  refine xg hC hK hH flX8_9 hc_w rfl dX8_begin_49 ?_
  refine lv_iload_n hx hb dX8_begin_52 rfl (lv_at hl 0 rfl) ?_
  refine lv_bipush (v := 100) hx hb dX8_begin_53 (by decide) ?_
  refine tist (x := 100) hC hK hH ht_cs rfl (iIn (by decide) (by decide)) (iRg _).1 (iRg _).2 dX8_begin_55 (fun Hq_ lcq_ Mq14_ _ hfr hH => ?_)
  have hc_w : Mq14_ w = some (.inr (6, [.int 0, .int 2, .int 0, .int 0, .int 0, .int 0, .int 0, .int (-1), .ref cs, .ref bs, .ref tp])) := (hfr w (neF (Or.inl hn_w) ht_cs (by decide))).trans hc_w
  have hc_bs : Mq14_ bs = some (.inl (kA 5, 4, .inr (.inr (.inr (.inr g))))) := (hfr bs (neF (Or.inr (Or.inl ht_bs)) ht_cs (by decide))).trans hc_bs
  have hF : ∀ q, FrK T q → q ≠ w → Mq14_ q = M q := fun q hq h0 => (hfr q (neF hq ht_cs (by decide))).trans (hF q hq h0)
  refine lv_iinc (v := 3) (lv' := [(1, .int 3), (0, .ref w)]) hx hb dX8_begin_56 hl (k := 0) rfl (by decide) (by decide) rfl (fun ls hl => ?_)
  refine lv_goto (tgt := 42) hx hb dX8_begin_59 (by decide) ?_
  refine lv_iload_n hx hb dX8_begin_42 rfl (lv_at hl 0 rfl) ?_
  refine lv_bipush (v := 8) hx hb dX8_begin_43 (by decide) ?_
  refine jic_ge (tgt := 62) hx hb dX8_begin_45 (by decide) (fun cq15_ => absurd cq15_ (by decide)) (fun cq15_ => ?_)
  refine lv_aload_n hx hb dX8_begin_48 rfl (lv_at hl 1 rfl) ?_
  refine xg hC hK hH flX8_9 hc_w rfl dX8_begin_49 ?_
  refine lv_iload_n hx hb dX8_begin_52 rfl (lv_at hl 0 rfl) ?_
  refine lv_bipush (v := 100) hx hb dX8_begin_53 (by decide) ?_
  refine tist (x := 100) hC hK hH ht_cs rfl (iIn (by decide) (by decide)) (iRg _).1 (iRg _).2 dX8_begin_55 (fun Hq_ lcq_ Mq16_ _ hfr hH => ?_)
  have hc_w : Mq16_ w = some (.inr (6, [.int 0, .int 2, .int 0, .int 0, .int 0, .int 0, .int 0, .int (-1), .ref cs, .ref bs, .ref tp])) := (hfr w (neF (Or.inl hn_w) ht_cs (by decide))).trans hc_w
  have hc_bs : Mq16_ bs = some (.inl (kA 5, 4, .inr (.inr (.inr (.inr g))))) := (hfr bs (neF (Or.inr (Or.inl ht_bs)) ht_cs (by decide))).trans hc_bs
  have hF : ∀ q, FrK T q → q ≠ w → Mq16_ q = M q := fun q hq h0 => (hfr q (neF hq ht_cs (by decide))).trans (hF q hq h0)
  refine lv_iinc (v := 4) (lv' := [(1, .int 4), (0, .ref w)]) hx hb dX8_begin_56 hl (k := 0) rfl (by decide) (by decide) rfl (fun ls hl => ?_)
  refine lv_goto (tgt := 42) hx hb dX8_begin_59 (by decide) ?_
  refine lv_iload_n hx hb dX8_begin_42 rfl (lv_at hl 0 rfl) ?_
  refine lv_bipush (v := 8) hx hb dX8_begin_43 (by decide) ?_
  refine jic_ge (tgt := 62) hx hb dX8_begin_45 (by decide) (fun cq17_ => absurd cq17_ (by decide)) (fun cq17_ => ?_)
  refine lv_aload_n hx hb dX8_begin_48 rfl (lv_at hl 1 rfl) ?_
  refine xg hC hK hH flX8_9 hc_w rfl dX8_begin_49 ?_
  refine lv_iload_n hx hb dX8_begin_52 rfl (lv_at hl 0 rfl) ?_
  refine lv_bipush (v := 100) hx hb dX8_begin_53 (by decide) ?_
  refine tist (x := 100) hC hK hH ht_cs rfl (iIn (by decide) (by decide)) (iRg _).1 (iRg _).2 dX8_begin_55 (fun Hq_ lcq_ Mq18_ _ hfr hH => ?_)
  have hc_w : Mq18_ w = some (.inr (6, [.int 0, .int 2, .int 0, .int 0, .int 0, .int 0, .int 0, .int (-1), .ref cs, .ref bs, .ref tp])) := (hfr w (neF (Or.inl hn_w) ht_cs (by decide))).trans hc_w
  have hc_bs : Mq18_ bs = some (.inl (kA 5, 4, .inr (.inr (.inr (.inr g))))) := (hfr bs (neF (Or.inr (Or.inl ht_bs)) ht_cs (by decide))).trans hc_bs
  have hF : ∀ q, FrK T q → q ≠ w → Mq18_ q = M q := fun q hq h0 => (hfr q (neF hq ht_cs (by decide))).trans (hF q hq h0)
  refine lv_iinc (v := 5) (lv' := [(1, .int 5), (0, .ref w)]) hx hb dX8_begin_56 hl (k := 0) rfl (by decide) (by decide) rfl (fun ls hl => ?_)
  refine lv_goto (tgt := 42) hx hb dX8_begin_59 (by decide) ?_
  refine lv_iload_n hx hb dX8_begin_42 rfl (lv_at hl 0 rfl) ?_
  refine lv_bipush (v := 8) hx hb dX8_begin_43 (by decide) ?_
  refine jic_ge (tgt := 62) hx hb dX8_begin_45 (by decide) (fun cq19_ => absurd cq19_ (by decide)) (fun cq19_ => ?_)
  refine lv_aload_n hx hb dX8_begin_48 rfl (lv_at hl 1 rfl) ?_
  refine xg hC hK hH flX8_9 hc_w rfl dX8_begin_49 ?_
  refine lv_iload_n hx hb dX8_begin_52 rfl (lv_at hl 0 rfl) ?_
  refine lv_bipush (v := 100) hx hb dX8_begin_53 (by decide) ?_
  refine tist (x := 100) hC hK hH ht_cs rfl (iIn (by decide) (by decide)) (iRg _).1 (iRg _).2 dX8_begin_55 (fun Hq_ lcq_ Mq20_ _ hfr hH => ?_)
  have hc_w : Mq20_ w = some (.inr (6, [.int 0, .int 2, .int 0, .int 0, .int 0, .int 0, .int 0, .int (-1), .ref cs, .ref bs, .ref tp])) := (hfr w (neF (Or.inl hn_w) ht_cs (by decide))).trans hc_w
  have hc_bs : Mq20_ bs = some (.inl (kA 5, 4, .inr (.inr (.inr (.inr g))))) := (hfr bs (neF (Or.inr (Or.inl ht_bs)) ht_cs (by decide))).trans hc_bs
  have hF : ∀ q, FrK T q → q ≠ w → Mq20_ q = M q := fun q hq h0 => (hfr q (neF hq ht_cs (by decide))).trans (hF q hq h0)
  refine lv_iinc (v := 6) (lv' := [(1, .int 6), (0, .ref w)]) hx hb dX8_begin_56 hl (k := 0) rfl (by decide) (by decide) rfl (fun ls hl => ?_)
  refine lv_goto (tgt := 42) hx hb dX8_begin_59 (by decide) ?_
  refine lv_iload_n hx hb dX8_begin_42 rfl (lv_at hl 0 rfl) ?_
  refine lv_bipush (v := 8) hx hb dX8_begin_43 (by decide) ?_
  refine jic_ge (tgt := 62) hx hb dX8_begin_45 (by decide) (fun cq21_ => absurd cq21_ (by decide)) (fun cq21_ => ?_)
  refine lv_aload_n hx hb dX8_begin_48 rfl (lv_at hl 1 rfl) ?_
  refine xg hC hK hH flX8_9 hc_w rfl dX8_begin_49 ?_
  refine lv_iload_n hx hb dX8_begin_52 rfl (lv_at hl 0 rfl) ?_
  refine lv_bipush (v := 100) hx hb dX8_begin_53 (by decide) ?_
  refine tist (x := 100) hC hK hH ht_cs rfl (iIn (by decide) (by decide)) (iRg _).1 (iRg _).2 dX8_begin_55 (fun Hq_ lcq_ Mq22_ _ hfr hH => ?_)
  have hc_w : Mq22_ w = some (.inr (6, [.int 0, .int 2, .int 0, .int 0, .int 0, .int 0, .int 0, .int (-1), .ref cs, .ref bs, .ref tp])) := (hfr w (neF (Or.inl hn_w) ht_cs (by decide))).trans hc_w
  have hc_bs : Mq22_ bs = some (.inl (kA 5, 4, .inr (.inr (.inr (.inr g))))) := (hfr bs (neF (Or.inr (Or.inl ht_bs)) ht_cs (by decide))).trans hc_bs
  have hF : ∀ q, FrK T q → q ≠ w → Mq22_ q = M q := fun q hq h0 => (hfr q (neF hq ht_cs (by decide))).trans (hF q hq h0)
  refine lv_iinc (v := 7) (lv' := [(1, .int 7), (0, .ref w)]) hx hb dX8_begin_56 hl (k := 0) rfl (by decide) (by decide) rfl (fun ls hl => ?_)
  refine lv_goto (tgt := 42) hx hb dX8_begin_59 (by decide) ?_
  refine lv_iload_n hx hb dX8_begin_42 rfl (lv_at hl 0 rfl) ?_
  refine lv_bipush (v := 8) hx hb dX8_begin_43 (by decide) ?_
  refine jic_ge (tgt := 62) hx hb dX8_begin_45 (by decide) (fun cq23_ => absurd cq23_ (by decide)) (fun cq23_ => ?_)
  refine lv_aload_n hx hb dX8_begin_48 rfl (lv_at hl 1 rfl) ?_
  refine xg hC hK hH flX8_9 hc_w rfl dX8_begin_49 ?_
  refine lv_iload_n hx hb dX8_begin_52 rfl (lv_at hl 0 rfl) ?_
  refine lv_bipush (v := 100) hx hb dX8_begin_53 (by decide) ?_
  refine tist (x := 100) hC hK hH ht_cs rfl (iIn (by decide) (by decide)) (iRg _).1 (iRg _).2 dX8_begin_55 (fun Hq_ lcq_ Mq24_ _ hfr hH => ?_)
  have hc_w : Mq24_ w = some (.inr (6, [.int 0, .int 2, .int 0, .int 0, .int 0, .int 0, .int 0, .int (-1), .ref cs, .ref bs, .ref tp])) := (hfr w (neF (Or.inl hn_w) ht_cs (by decide))).trans hc_w
  have hc_bs : Mq24_ bs = some (.inl (kA 5, 4, .inr (.inr (.inr (.inr g))))) := (hfr bs (neF (Or.inr (Or.inl ht_bs)) ht_cs (by decide))).trans hc_bs
  have hF : ∀ q, FrK T q → q ≠ w → Mq24_ q = M q := fun q hq h0 => (hfr q (neF hq ht_cs (by decide))).trans (hF q hq h0)
  refine lv_iinc (v := 8) (lv' := [(1, .int 8), (0, .ref w)]) hx hb dX8_begin_56 hl (k := 0) rfl (by decide) (by decide) rfl (fun ls hl => ?_)
  refine lv_goto (tgt := 42) hx hb dX8_begin_59 (by decide) ?_
  refine lv_iload_n hx hb dX8_begin_42 rfl (lv_at hl 0 rfl) ?_
  refine lv_bipush (v := 8) hx hb dX8_begin_43 (by decide) ?_
  refine jic_ge (tgt := 62) hx hb dX8_begin_45 (by decide) (fun cq25_ => ?_) (fun cq25_ => absurd cq25_ (by decide))
  exact ret_v hC hr hlk hK hH (⟨hc_w, rfl, hF⟩) (Nat.le_of_ble_eq_true rfl) (Nat.le_of_ble_eq_true rfl) dX8_begin_62
set_option maxHeartbeats 4000000 in
set_option maxRecDepth 100000 in
theorem c_X8_cashOfAll {l : Launch} {D : va_G} {kA : Nat → ClassId} {M : mM} {T : mT} {sz : Nat} {w cs bs tp : Nat} {td gd bc py rf lt tl fp : Int32} {g : Nat → Option Nat} (hc_w : M w = some (.inr (6, [.int td, .int gd, .int bc, .int py, .int rf, .int lt, .int tl, .int fp, .ref cs, .ref bs, .ref tp]))) (hn_w : T w = none) (hc_bs : M bs = some (.inl (kA 5, 4, .inr (.inr (.inr (.inr g)))))) (ht_cs : T cs = some 3) (ht_bs : T bs = some 6) (ht_tp : T tp = some 7) (htd : 0 ≤ td.toInt ∧ td.toInt ≤ 999) (hbc : 0 ≤ bc.toInt ∧ bc.toInt ≤ 4) (htl : 0 ≤ tl.toInt ∧ tl.toInt ≤ 600) (hg : ∀ j, j < 4 → ∃ q, g j = some q ∧ T q = some 2) : mCi l yX8_cashOfAll cX8_cashOfAll 3 (some .int) 0 0 0 D kA M T sz [.ref w] (fun r u => (True) ∧ u.2 = T ∧ u.1 = M) := by
  unfold mCi
  refine start_W (by decide) (Nat.le_of_ble_eq_true rfl) ?_
  intro p e s m below meth c ls hC hr hlk hnm hK hH hsz hl
  have hx := hC.1
  have hb := hC.2.1
  have hl : lv_has ls 3 [(0, .ref w)] := hl
  have n_w_bs : w ≠ bs := neM hc_w hc_bs (by simp)
  have n_bs_w : bs ≠ w := neM hc_bs hc_w (by simp)
  refine lv_iconst (v := 0) hx hb dX8_cashOfAll_0 (by decide) ?_
  refine lv_istore_n (lv' := [(1, .int 0), (0, .ref w)]) hx hb dX8_cashOfAll_1 rfl hl (by decide) rfl (fun ls hl => ?_)
  refine lv_iconst (v := 0) hx hb dX8_cashOfAll_2 (by decide) ?_
  refine lv_istore_n (lv' := [(2, .int 0), (1, .int 0), (0, .ref w)]) hx hb dX8_cashOfAll_3 rfl hl (by decide) rfl (fun ls hl => ?_)
  have loop : ∀ (n : Nat) (iq1_ : Int32) (yq2_ : Int32) (Hq_ : Heap) (lcq_ : List Loc) (ls : Array Slot), iq1_.toInt + (n : Int) = 8 → (0 : Int) ≤ iq1_.toInt → iq1_.toInt ≤ 8 → M w = some (.inr (6, [.int td, .int gd, .int bc, .int py, .int rf, .int lt, .int tl, .int fp, .ref cs, .ref bs, .ref tp])) → M bs = some (.inl (kA 5, 4, .inr (.inr (.inr (.inr g))))) → mS D kA M T (mA M T sz) s.heap Hq_ lcq_ → lv_has ls 3 [(2, .int iq1_), (1, .int yq2_), (0, .ref w)] → W p l e (rmL 0 0 0) s m ([.ref w] : List Value).toArray below meth c Hq_ lcq_ 0 0 (MQ below (va_Qi (fun r u => (True) ∧ u.2 = T ∧ u.1 = M) (mB D kA M T sz) (mA M T sz)) ([.ref w] : List Value).toArray s 0 0 (mA M T sz)) (F0 m 4 ls []) := by
    intro n
    induction n with
    | zero =>
      intro iq1_ yq2_ Hq_ lcq_ ls hi_iq1_ h0_iq1_ h9_iq1_ hc_w hc_bs hH hl
      have hi2_iq1_ : iq1_.toInt = 8 := by omega
      refine lv_iload_n hx hb dX8_cashOfAll_4 rfl (lv_at hl 0 rfl) ?_
      refine lv_bipush (v := 8) hx hb dX8_cashOfAll_5 (by decide) ?_
      refine jic_ge (tgt := 25) hx hb dX8_cashOfAll_7 (by decide) (fun cq3_ => ?_) (fun cq3_ => absurd cq3_ (by have := iRg iq1_; have : (8 : Int32).toInt = 8 := rfl; omega))
      have cq3_ : 8 ≤ iq1_.toInt := cq3_
      refine lv_iload_n hx hb dX8_cashOfAll_25 rfl (lv_at hl 1 rfl) ?_
      exact ret_i hC hr hlk hK hH (⟨trivial, rfl, rfl⟩) (Nat.le_of_ble_eq_true rfl) (Nat.le_of_ble_eq_true rfl) dX8_cashOfAll_26
    | succ n ih =>
      intro iq1_ yq2_ Hq_ lcq_ ls hi_iq1_ h0_iq1_ h9_iq1_ hc_w hc_bs hH hl
      have hi2_iq1_ : iq1_.toInt ≤ 7 := by omega
      refine lv_iload_n hx hb dX8_cashOfAll_4 rfl (lv_at hl 0 rfl) ?_
      refine lv_bipush (v := 8) hx hb dX8_cashOfAll_5 (by decide) ?_
      refine jic_ge (tgt := 25) hx hb dX8_cashOfAll_7 (by decide) (fun cq4_ => absurd cq4_ (by have := iRg iq1_; have : (8 : Int32).toInt = 8 := rfl; omega)) (fun cq4_ => ?_)
      have cq4_ : iq1_.toInt < 8 := cq4_
      refine lv_iload_n hx hb dX8_cashOfAll_10 rfl (lv_at hl 1 rfl) ?_
      refine lv_aload_n hx hb dX8_cashOfAll_11 rfl (lv_at hl 2 rfl) ?_
      refine xg hC hK hH flX8_9 hc_w rfl dX8_cashOfAll_12 ?_
      refine lv_iload_n hx hb dX8_cashOfAll_15 rfl (lv_at hl 0 rfl) ?_
      refine tild hC hK hH ht_cs rfl (iIn (by omega) (by omega)) dX8_cashOfAll_16 (fun xq5_ l_xq5_ g_xq5_ => ?_)
      refine lv_iadd hx hb dX8_cashOfAll_17 ?_
      refine lv_topi (fun zq6_ e_zq6_ => ?_)
      refine lv_istore_n (lv' := [(1, .int zq6_), (2, .int iq1_), (0, .ref w)]) hx hb dX8_cashOfAll_18 rfl hl (by decide) rfl (fun ls hl => ?_)
      obtain ⟨zq7_, e_zq7_⟩ : ∃ y : Int32, y = iq1_ + 1 := ⟨_, rfl⟩
      refine lv_iinc (v := zq7_) (lv' := [(2, .int zq7_), (1, .int zq6_), (0, .ref w)]) hx hb dX8_cashOfAll_19 hl (k := 1) rfl (by rw [e_zq7_]; rfl) (by decide) rfl (fun ls hl => ?_)
      have h_zq7_ : zq7_.toInt = iq1_.toInt + 1 := by rw [e_zq7_, iAdd (by have : (1 : Int32).toInt = 1 := rfl; omega) (by have : (1 : Int32).toInt = 1 := rfl; omega)]; rfl
      refine lv_goto (tgt := 4) hx hb dX8_cashOfAll_22 (by decide) ?_
      exact ih zq7_ zq6_ _ _ ls (by omega) (by omega) (by omega) hc_w hc_bs hH (lv_sub hl [0, 1, 2] rfl)
  exact loop (Int.toNat (8 - 0)) 0 0 _ _ ls (by have : (0 : Int32).toInt = 0 := rfl; omega) (by have : (0 : Int32).toInt = 0 := rfl; omega) (by have : (0 : Int32).toInt = 0 := rfl; omega) hc_w hc_bs hH hl
set_option maxHeartbeats 4000000 in
set_option maxRecDepth 100000 in
theorem c_X8_dishonouredBills {l : Launch} {D : va_G} {kA : Nat → ClassId} {M : mM} {T : mT} {sz : Nat} {w cs bs tp : Nat} {td gd bc py rf lt tl fp : Int32} {g : Nat → Option Nat} (hc_w : M w = some (.inr (6, [.int td, .int gd, .int bc, .int py, .int rf, .int lt, .int tl, .int fp, .ref cs, .ref bs, .ref tp]))) (hn_w : T w = none) (hc_bs : M bs = some (.inl (kA 5, 4, .inr (.inr (.inr (.inr g)))))) (ht_cs : T cs = some 3) (ht_bs : T bs = some 6) (ht_tp : T tp = some 7) (htd : 0 ≤ td.toInt ∧ td.toInt ≤ 999) (hbc : 0 ≤ bc.toInt ∧ bc.toInt ≤ 4) (htl : 0 ≤ tl.toInt ∧ tl.toInt ≤ 600) (hg : ∀ j, j < 4 → ∃ q, g j = some q ∧ T q = some 2) : mCi l yX8_dishonouredBills cX8_dishonouredBills 3 (some .int) 1 0 0 D kA M T sz [.ref w] (fun r u => (True) ∧ u.2 = T ∧ u.1 = M) := by
  unfold mCi
  refine start_W (by decide) (Nat.le_of_ble_eq_true rfl) ?_
  intro p e s m below meth c ls hC hr hlk hnm hK hH hsz hl
  have hx := hC.1
  have hb := hC.2.1
  have hl : lv_has ls 3 [(0, .ref w)] := hl
  have n_w_bs : w ≠ bs := neM hc_w hc_bs (by simp)
  have n_bs_w : bs ≠ w := neM hc_bs hc_w (by simp)
  refine lv_iconst (v := 0) hx hb dX8_dishonouredBills_0 (by decide) ?_
  refine lv_istore_n (lv' := [(1, .int 0), (0, .ref w)]) hx hb dX8_dishonouredBills_1 rfl hl (by decide) rfl (fun ls hl => ?_)
  refine lv_iconst (v := 0) hx hb dX8_dishonouredBills_2 (by decide) ?_
  refine lv_istore_n (lv' := [(2, .int 0), (1, .int 0), (0, .ref w)]) hx hb dX8_dishonouredBills_3 rfl hl (by decide) rfl (fun ls hl => ?_)
  have loop : ∀ (n : Nat) (iq1_ : Int32) (yq2_ : Int32) (Hq_ : Heap) (lcq_ : List Loc) (ls : Array Slot), iq1_.toInt + (n : Int) = 4 → (0 : Int) ≤ iq1_.toInt → iq1_.toInt ≤ 4 → M w = some (.inr (6, [.int td, .int gd, .int bc, .int py, .int rf, .int lt, .int tl, .int fp, .ref cs, .ref bs, .ref tp])) → M bs = some (.inl (kA 5, 4, .inr (.inr (.inr (.inr g))))) → mS D kA M T (mA M T sz) s.heap Hq_ lcq_ → lv_has ls 3 [(2, .int iq1_), (1, .int yq2_), (0, .ref w)] → W p l e (rmL 1 0 0) s m ([.ref w] : List Value).toArray below meth c Hq_ lcq_ 0 0 (MQ below (va_Qi (fun r u => (True) ∧ u.2 = T ∧ u.1 = M) (mB D kA M T sz) (mA M T sz)) ([.ref w] : List Value).toArray s 0 0 (mA M T sz)) (F0 m 4 ls []) := by
    intro n
    induction n with
    | zero =>
      intro iq1_ yq2_ Hq_ lcq_ ls hi_iq1_ h0_iq1_ h9_iq1_ hc_w hc_bs hH hl
      have hi2_iq1_ : iq1_.toInt = 4 := by omega
      refine lv_iload_n hx hb dX8_dishonouredBills_4 rfl (lv_at hl 0 rfl) ?_
      refine lv_aload_n hx hb dX8_dishonouredBills_5 rfl (lv_at hl 2 rfl) ?_
      refine xg hC hK hH flX8_36 hc_w rfl dX8_dishonouredBills_6 ?_
      refine jic_ge (tgt := 42) hx hb dX8_dishonouredBills_9 (by decide) (fun cq3_ => ?_) (fun cq3_ => absurd cq3_ (by have := iRg iq1_; have := iRg bc; omega))
      have cq3_ : bc.toInt ≤ iq1_.toInt := cq3_
      refine lv_iload_n hx hb dX8_dishonouredBills_42 rfl (lv_at hl 1 rfl) ?_
      exact ret_i hC hr hlk hK hH (⟨trivial, rfl, rfl⟩) (Nat.le_of_ble_eq_true rfl) (Nat.le_of_ble_eq_true rfl) dX8_dishonouredBills_43
    | succ n ih =>
      intro iq1_ yq2_ Hq_ lcq_ ls hi_iq1_ h0_iq1_ h9_iq1_ hc_w hc_bs hH hl
      have hi2_iq1_ : iq1_.toInt ≤ 3 := by omega
      refine lv_iload_n hx hb dX8_dishonouredBills_4 rfl (lv_at hl 0 rfl) ?_
      refine lv_aload_n hx hb dX8_dishonouredBills_5 rfl (lv_at hl 2 rfl) ?_
      refine xg hC hK hH flX8_36 hc_w rfl dX8_dishonouredBills_6 ?_
      refine jic_ge (tgt := 42) hx hb dX8_dishonouredBills_9 (by decide) (fun cq4_ => ?_) (fun cq4_ => ?_)
      · skip
        have cq4_ : bc.toInt ≤ iq1_.toInt := cq4_
        refine lv_iload_n hx hb dX8_dishonouredBills_42 rfl (lv_at hl 1 rfl) ?_
        exact ret_i hC hr hlk hK hH (⟨trivial, rfl, rfl⟩) (Nat.le_of_ble_eq_true rfl) (Nat.le_of_ble_eq_true rfl) dX8_dishonouredBills_43
      · skip
        have cq4_ : iq1_.toInt < bc.toInt := cq4_
        refine lv_iload_n hx hb dX8_dishonouredBills_12 rfl (lv_at hl 1 rfl) ?_
        refine lv_aload_n hx hb dX8_dishonouredBills_13 rfl (lv_at hl 2 rfl) ?_
        refine xg hC hK hH flX8_17 hc_w rfl dX8_dishonouredBills_14 ?_
        refine lv_iload_n hx hb dX8_dishonouredBills_17 rfl (lv_at hl 0 rfl) ?_
        refine xqld (ck := 5) hC hK hH rfl hc_bs (iIn (by omega) (by omega)) dX8_dishonouredBills_18 ?_
        obtain ⟨qq5_, e_qq5_, t_qq5_⟩ := hg (Int32.toNatClampNeg iq1_) (by have := iCl (x := iq1_) (by omega); omega)
        refine lv_qr e_qq5_ ?_
        refine tg hC hK hH flX8_83 t_qq5_ rfl rfl dX8_dishonouredBills_19 (fun xq6_ l_xq6_ g_xq6_ => ?_)
        refine lv_iconst (v := -1) hx hb dX8_dishonouredBills_22 (by decide) ?_
        refine jic_eq (tgt := 30) hx hb dX8_dishonouredBills_23 (by decide) (fun cq7_ => ?_) (fun cq7_ => ?_)
        · skip
          have cq7_ : xq6_.toInt = (-1) := cq7_
          refine lv_iconst (v := 0) hx hb dX8_dishonouredBills_30 (by decide) ?_
          refine goI hK hH (runSN (As := [.int 0]) (rest := [.int yq2_]) hC hK hH (c_X9_bit) mlX8_86 ⟨⟨Nat.le_of_ble_eq_true rfl, Nat.le_of_ble_eq_true rfl⟩, Nat.le_of_ble_eq_true rfl, Nat.le_of_ble_eq_true rfl⟩ rfl hl.1 rfl (Nat.le_of_ble_eq_true rfl) dX8_dishonouredBills_31) (fun rq10_ Mq8_ Tq9_ Hq_ lcq_ hP hz hH => ?_)
          try dsimp only at hP
          obtain ⟨(er_rq10_ | er_rq10_), eT, eM⟩ := hP
          · skip
            have eT := eT.symm; subst eT
            have er_rq10_ := er_rq10_.symm; subst er_rq10_
            have eM := eM.symm; subst eM
            refine lv_iadd hx hb dX8_dishonouredBills_34 ?_
            refine lv_topi (fun zq11_ e_zq11_ => ?_)
            refine lv_istore_n (lv' := [(1, .int zq11_), (2, .int iq1_), (0, .ref w)]) hx hb dX8_dishonouredBills_35 rfl hl (by decide) rfl (fun ls hl => ?_)
            obtain ⟨zq12_, e_zq12_⟩ : ∃ y : Int32, y = iq1_ + 1 := ⟨_, rfl⟩
            refine lv_iinc (v := zq12_) (lv' := [(2, .int zq12_), (1, .int zq11_), (0, .ref w)]) hx hb dX8_dishonouredBills_36 hl (k := 1) rfl (by rw [e_zq12_]; rfl) (by decide) rfl (fun ls hl => ?_)
            have h_zq12_ : zq12_.toInt = iq1_.toInt + 1 := by rw [e_zq12_, iAdd (by have : (1 : Int32).toInt = 1 := rfl; omega) (by have : (1 : Int32).toInt = 1 := rfl; omega)]; rfl
            refine lv_goto (tgt := 4) hx hb dX8_dishonouredBills_39 (by decide) ?_
            exact ih zq12_ zq11_ _ _ ls (by omega) (by omega) (by omega) hc_w hc_bs hH (lv_sub hl [0, 1, 2] rfl)
          · skip
            have eT := eT.symm; subst eT
            have er_rq10_ := er_rq10_.symm; subst er_rq10_
            have eM := eM.symm; subst eM
            refine lv_iadd hx hb dX8_dishonouredBills_34 ?_
            refine lv_topi (fun zq13_ e_zq13_ => ?_)
            have h_zq13_ : zq13_.toInt = yq2_.toInt + 0 := by rw [e_zq13_, iAdd (by have := iRg yq2_; have : (0 : Int32).toInt = 0 := rfl; omega) (by have := iRg yq2_; have : (0 : Int32).toInt = 0 := rfl; omega)]; rfl
            refine lv_istore_n (lv' := [(1, .int zq13_), (2, .int iq1_), (0, .ref w)]) hx hb dX8_dishonouredBills_35 rfl hl (by decide) rfl (fun ls hl => ?_)
            obtain ⟨zq14_, e_zq14_⟩ : ∃ y : Int32, y = iq1_ + 1 := ⟨_, rfl⟩
            refine lv_iinc (v := zq14_) (lv' := [(2, .int zq14_), (1, .int zq13_), (0, .ref w)]) hx hb dX8_dishonouredBills_36 hl (k := 1) rfl (by rw [e_zq14_]; rfl) (by decide) rfl (fun ls hl => ?_)
            have h_zq14_ : zq14_.toInt = iq1_.toInt + 1 := by rw [e_zq14_, iAdd (by have : (1 : Int32).toInt = 1 := rfl; omega) (by have : (1 : Int32).toInt = 1 := rfl; omega)]; rfl
            refine lv_goto (tgt := 4) hx hb dX8_dishonouredBills_39 (by decide) ?_
            exact ih zq14_ zq13_ _ _ ls (by omega) (by omega) (by omega) hc_w hc_bs hH (lv_sub hl [0, 1, 2] rfl)
        · skip
          have cq7_ : xq6_.toInt ≠ (-1) := cq7_
          refine lv_iconst (v := 1) hx hb dX8_dishonouredBills_26 (by decide) ?_
          refine lv_goto (tgt := 31) hx hb dX8_dishonouredBills_27 (by decide) ?_
          refine goI hK hH (runSN (As := [.int 1]) (rest := [.int yq2_]) hC hK hH (c_X9_bit) mlX8_86 ⟨⟨Nat.le_of_ble_eq_true rfl, Nat.le_of_ble_eq_true rfl⟩, Nat.le_of_ble_eq_true rfl, Nat.le_of_ble_eq_true rfl⟩ rfl hl.1 rfl (Nat.le_of_ble_eq_true rfl) dX8_dishonouredBills_31) (fun rq17_ Mq15_ Tq16_ Hq_ lcq_ hP hz hH => ?_)
          try dsimp only at hP
          obtain ⟨(er_rq17_ | er_rq17_), eT, eM⟩ := hP
          · skip
            have eT := eT.symm; subst eT
            have er_rq17_ := er_rq17_.symm; subst er_rq17_
            have eM := eM.symm; subst eM
            refine lv_iadd hx hb dX8_dishonouredBills_34 ?_
            refine lv_topi (fun zq18_ e_zq18_ => ?_)
            refine lv_istore_n (lv' := [(1, .int zq18_), (2, .int iq1_), (0, .ref w)]) hx hb dX8_dishonouredBills_35 rfl hl (by decide) rfl (fun ls hl => ?_)
            obtain ⟨zq19_, e_zq19_⟩ : ∃ y : Int32, y = iq1_ + 1 := ⟨_, rfl⟩
            refine lv_iinc (v := zq19_) (lv' := [(2, .int zq19_), (1, .int zq18_), (0, .ref w)]) hx hb dX8_dishonouredBills_36 hl (k := 1) rfl (by rw [e_zq19_]; rfl) (by decide) rfl (fun ls hl => ?_)
            have h_zq19_ : zq19_.toInt = iq1_.toInt + 1 := by rw [e_zq19_, iAdd (by have : (1 : Int32).toInt = 1 := rfl; omega) (by have : (1 : Int32).toInt = 1 := rfl; omega)]; rfl
            refine lv_goto (tgt := 4) hx hb dX8_dishonouredBills_39 (by decide) ?_
            exact ih zq19_ zq18_ _ _ ls (by omega) (by omega) (by omega) hc_w hc_bs hH (lv_sub hl [0, 1, 2] rfl)
          · skip
            have eT := eT.symm; subst eT
            have er_rq17_ := er_rq17_.symm; subst er_rq17_
            have eM := eM.symm; subst eM
            refine lv_iadd hx hb dX8_dishonouredBills_34 ?_
            refine lv_topi (fun zq20_ e_zq20_ => ?_)
            have h_zq20_ : zq20_.toInt = yq2_.toInt + 0 := by rw [e_zq20_, iAdd (by have := iRg yq2_; have : (0 : Int32).toInt = 0 := rfl; omega) (by have := iRg yq2_; have : (0 : Int32).toInt = 0 := rfl; omega)]; rfl
            refine lv_istore_n (lv' := [(1, .int zq20_), (2, .int iq1_), (0, .ref w)]) hx hb dX8_dishonouredBills_35 rfl hl (by decide) rfl (fun ls hl => ?_)
            obtain ⟨zq21_, e_zq21_⟩ : ∃ y : Int32, y = iq1_ + 1 := ⟨_, rfl⟩
            refine lv_iinc (v := zq21_) (lv' := [(2, .int zq21_), (1, .int zq20_), (0, .ref w)]) hx hb dX8_dishonouredBills_36 hl (k := 1) rfl (by rw [e_zq21_]; rfl) (by decide) rfl (fun ls hl => ?_)
            have h_zq21_ : zq21_.toInt = iq1_.toInt + 1 := by rw [e_zq21_, iAdd (by have : (1 : Int32).toInt = 1 := rfl; omega) (by have : (1 : Int32).toInt = 1 := rfl; omega)]; rfl
            refine lv_goto (tgt := 4) hx hb dX8_dishonouredBills_39 (by decide) ?_
            exact ih zq21_ zq20_ _ _ ls (by omega) (by omega) (by omega) hc_w hc_bs hH (lv_sub hl [0, 1, 2] rfl)
  exact loop (Int.toNat (4 - 0)) 0 0 _ _ ls (by have : (0 : Int32).toInt = 0 := rfl; omega) (by have : (0 : Int32).toInt = 0 := rfl; omega) (by have : (0 : Int32).toInt = 0 := rfl; omega) hc_w hc_bs hH hl
set_option maxHeartbeats 4000000 in
set_option maxRecDepth 100000 in
theorem c_X8_doneBills {l : Launch} {D : va_G} {kA : Nat → ClassId} {M : mM} {T : mT} {sz : Nat} {w cs bs tp : Nat} {td gd bc py rf lt tl fp : Int32} {g : Nat → Option Nat} (hc_w : M w = some (.inr (6, [.int td, .int gd, .int bc, .int py, .int rf, .int lt, .int tl, .int fp, .ref cs, .ref bs, .ref tp]))) (hn_w : T w = none) (hc_bs : M bs = some (.inl (kA 5, 4, .inr (.inr (.inr (.inr g)))))) (ht_cs : T cs = some 3) (ht_bs : T bs = some 6) (ht_tp : T tp = some 7) (htd : 0 ≤ td.toInt ∧ td.toInt ≤ 999) (hbc : 0 ≤ bc.toInt ∧ bc.toInt ≤ 4) (htl : 0 ≤ tl.toInt ∧ tl.toInt ≤ 600) (hg : ∀ j, j < 4 → ∃ q, g j = some q ∧ T q = some 2) : mCi l yX8_doneBills cX8_doneBills 3 (some .int) 1 0 0 D kA M T sz [.ref w] (fun r u => (True) ∧ u.2 = T ∧ u.1 = M) := by
  unfold mCi
  refine start_W (by decide) (Nat.le_of_ble_eq_true rfl) ?_
  intro p e s m below meth c ls hC hr hlk hnm hK hH hsz hl
  have hx := hC.1
  have hb := hC.2.1
  have hl : lv_has ls 3 [(0, .ref w)] := hl
  have n_w_bs : w ≠ bs := neM hc_w hc_bs (by simp)
  have n_bs_w : bs ≠ w := neM hc_bs hc_w (by simp)
  refine lv_iconst (v := 0) hx hb dX8_doneBills_0 (by decide) ?_
  refine lv_istore_n (lv' := [(1, .int 0), (0, .ref w)]) hx hb dX8_doneBills_1 rfl hl (by decide) rfl (fun ls hl => ?_)
  refine lv_iconst (v := 0) hx hb dX8_doneBills_2 (by decide) ?_
  refine lv_istore_n (lv' := [(2, .int 0), (1, .int 0), (0, .ref w)]) hx hb dX8_doneBills_3 rfl hl (by decide) rfl (fun ls hl => ?_)
  have loop : ∀ (n : Nat) (iq1_ : Int32) (yq2_ : Int32) (Hq_ : Heap) (lcq_ : List Loc) (ls : Array Slot), iq1_.toInt + (n : Int) = 4 → (0 : Int) ≤ iq1_.toInt → iq1_.toInt ≤ 4 → M w = some (.inr (6, [.int td, .int gd, .int bc, .int py, .int rf, .int lt, .int tl, .int fp, .ref cs, .ref bs, .ref tp])) → M bs = some (.inl (kA 5, 4, .inr (.inr (.inr (.inr g))))) → mS D kA M T (mA M T sz) s.heap Hq_ lcq_ → lv_has ls 3 [(2, .int iq1_), (1, .int yq2_), (0, .ref w)] → W p l e (rmL 1 0 0) s m ([.ref w] : List Value).toArray below meth c Hq_ lcq_ 0 0 (MQ below (va_Qi (fun r u => (True) ∧ u.2 = T ∧ u.1 = M) (mB D kA M T sz) (mA M T sz)) ([.ref w] : List Value).toArray s 0 0 (mA M T sz)) (F0 m 4 ls []) := by
    intro n
    induction n with
    | zero =>
      intro iq1_ yq2_ Hq_ lcq_ ls hi_iq1_ h0_iq1_ h9_iq1_ hc_w hc_bs hH hl
      have hi2_iq1_ : iq1_.toInt = 4 := by omega
      refine lv_iload_n hx hb dX8_doneBills_4 rfl (lv_at hl 0 rfl) ?_
      refine lv_aload_n hx hb dX8_doneBills_5 rfl (lv_at hl 2 rfl) ?_
      refine xg hC hK hH flX8_36 hc_w rfl dX8_doneBills_6 ?_
      refine jic_ge (tgt := 33) hx hb dX8_doneBills_9 (by decide) (fun cq3_ => ?_) (fun cq3_ => absurd cq3_ (by have := iRg iq1_; have := iRg bc; omega))
      have cq3_ : bc.toInt ≤ iq1_.toInt := cq3_
      refine lv_iload_n hx hb dX8_doneBills_33 rfl (lv_at hl 1 rfl) ?_
      exact ret_i hC hr hlk hK hH (⟨trivial, rfl, rfl⟩) (Nat.le_of_ble_eq_true rfl) (Nat.le_of_ble_eq_true rfl) dX8_doneBills_34
    | succ n ih =>
      intro iq1_ yq2_ Hq_ lcq_ ls hi_iq1_ h0_iq1_ h9_iq1_ hc_w hc_bs hH hl
      have hi2_iq1_ : iq1_.toInt ≤ 3 := by omega
      refine lv_iload_n hx hb dX8_doneBills_4 rfl (lv_at hl 0 rfl) ?_
      refine lv_aload_n hx hb dX8_doneBills_5 rfl (lv_at hl 2 rfl) ?_
      refine xg hC hK hH flX8_36 hc_w rfl dX8_doneBills_6 ?_
      refine jic_ge (tgt := 33) hx hb dX8_doneBills_9 (by decide) (fun cq4_ => ?_) (fun cq4_ => ?_)
      · skip
        have cq4_ : bc.toInt ≤ iq1_.toInt := cq4_
        refine lv_iload_n hx hb dX8_doneBills_33 rfl (lv_at hl 1 rfl) ?_
        exact ret_i hC hr hlk hK hH (⟨trivial, rfl, rfl⟩) (Nat.le_of_ble_eq_true rfl) (Nat.le_of_ble_eq_true rfl) dX8_doneBills_34
      · skip
        have cq4_ : iq1_.toInt < bc.toInt := cq4_
        refine lv_iload_n hx hb dX8_doneBills_12 rfl (lv_at hl 1 rfl) ?_
        refine lv_aload_n hx hb dX8_doneBills_13 rfl (lv_at hl 2 rfl) ?_
        refine xg hC hK hH flX8_17 hc_w rfl dX8_doneBills_14 ?_
        refine lv_iload_n hx hb dX8_doneBills_17 rfl (lv_at hl 0 rfl) ?_
        refine xqld (ck := 5) hC hK hH rfl hc_bs (iIn (by omega) (by omega)) dX8_doneBills_18 ?_
        obtain ⟨qq5_, e_qq5_, t_qq5_⟩ := hg (Int32.toNatClampNeg iq1_) (by have := iCl (x := iq1_) (by omega); omega)
        refine lv_qr e_qq5_ ?_
        refine tg hC hK hH flX8_90 t_qq5_ rfl rfl dX8_doneBills_19 (fun xq6_ l_xq6_ g_xq6_ => ?_)
        have l_xq6_ : (0 : Int) ≤ xq6_.toInt := l_xq6_
        have g_xq6_ : xq6_.toInt ≤ 1 := g_xq6_
        refine goI hK hH (runSN (As := [.int xq6_]) (rest := [.int yq2_]) hC hK hH (c_X9_bit) mlX8_86 ⟨⟨Nat.le_of_ble_eq_true rfl, Nat.le_of_ble_eq_true rfl⟩, Nat.le_of_ble_eq_true rfl, Nat.le_of_ble_eq_true rfl⟩ rfl hl.1 rfl (Nat.le_of_ble_eq_true rfl) dX8_doneBills_22) (fun rq9_ Mq7_ Tq8_ Hq_ lcq_ hP hz hH => ?_)
        try dsimp only at hP
        obtain ⟨(er_rq9_ | er_rq9_), eT, eM⟩ := hP
        · skip
          have eT := eT.symm; subst eT
          have er_rq9_ := er_rq9_.symm; subst er_rq9_
          have eM := eM.symm; subst eM
          refine lv_iadd hx hb dX8_doneBills_25 ?_
          refine lv_topi (fun zq10_ e_zq10_ => ?_)
          refine lv_istore_n (lv' := [(1, .int zq10_), (2, .int iq1_), (0, .ref w)]) hx hb dX8_doneBills_26 rfl hl (by decide) rfl (fun ls hl => ?_)
          obtain ⟨zq11_, e_zq11_⟩ : ∃ y : Int32, y = iq1_ + 1 := ⟨_, rfl⟩
          refine lv_iinc (v := zq11_) (lv' := [(2, .int zq11_), (1, .int zq10_), (0, .ref w)]) hx hb dX8_doneBills_27 hl (k := 1) rfl (by rw [e_zq11_]; rfl) (by decide) rfl (fun ls hl => ?_)
          have h_zq11_ : zq11_.toInt = iq1_.toInt + 1 := by rw [e_zq11_, iAdd (by have : (1 : Int32).toInt = 1 := rfl; omega) (by have : (1 : Int32).toInt = 1 := rfl; omega)]; rfl
          refine lv_goto (tgt := 4) hx hb dX8_doneBills_30 (by decide) ?_
          exact ih zq11_ zq10_ _ _ ls (by omega) (by omega) (by omega) hc_w hc_bs hH (lv_sub hl [0, 1, 2] rfl)
        · skip
          have eT := eT.symm; subst eT
          have er_rq9_ := er_rq9_.symm; subst er_rq9_
          have eM := eM.symm; subst eM
          refine lv_iadd hx hb dX8_doneBills_25 ?_
          refine lv_topi (fun zq12_ e_zq12_ => ?_)
          have h_zq12_ : zq12_.toInt = yq2_.toInt + 0 := by rw [e_zq12_, iAdd (by have := iRg yq2_; have : (0 : Int32).toInt = 0 := rfl; omega) (by have := iRg yq2_; have : (0 : Int32).toInt = 0 := rfl; omega)]; rfl
          refine lv_istore_n (lv' := [(1, .int zq12_), (2, .int iq1_), (0, .ref w)]) hx hb dX8_doneBills_26 rfl hl (by decide) rfl (fun ls hl => ?_)
          obtain ⟨zq13_, e_zq13_⟩ : ∃ y : Int32, y = iq1_ + 1 := ⟨_, rfl⟩
          refine lv_iinc (v := zq13_) (lv' := [(2, .int zq13_), (1, .int zq12_), (0, .ref w)]) hx hb dX8_doneBills_27 hl (k := 1) rfl (by rw [e_zq13_]; rfl) (by decide) rfl (fun ls hl => ?_)
          have h_zq13_ : zq13_.toInt = iq1_.toInt + 1 := by rw [e_zq13_, iAdd (by have : (1 : Int32).toInt = 1 := rfl; omega) (by have : (1 : Int32).toInt = 1 := rfl; omega)]; rfl
          refine lv_goto (tgt := 4) hx hb dX8_doneBills_30 (by decide) ?_
          exact ih zq13_ zq12_ _ _ ls (by omega) (by omega) (by omega) hc_w hc_bs hH (lv_sub hl [0, 1, 2] rfl)
  exact loop (Int.toNat (4 - 0)) 0 0 _ _ ls (by have : (0 : Int32).toInt = 0 := rfl; omega) (by have : (0 : Int32).toInt = 0 := rfl; omega) (by have : (0 : Int32).toInt = 0 := rfl; omega) hc_w hc_bs hH hl
set_option maxHeartbeats 4000000 in
set_option maxRecDepth 100000 in
theorem c_X8_addNumber {l : Launch} {D : va_G} {kA : Nat → ClassId} {M : mM} {T : mT} {sz : Nat} {w cs bs tp : Nat} {td gd bc py rf lt tl fp : Int32} {g : Nat → Option Nat} {n : Int32} (hc_w : M w = some (.inr (6, [.int td, .int gd, .int bc, .int py, .int rf, .int lt, .int tl, .int fp, .ref cs, .ref bs, .ref tp]))) (hn_w : T w = none) (hc_bs : M bs = some (.inl (kA 5, 4, .inr (.inr (.inr (.inr g)))))) (ht_cs : T cs = some 3) (ht_bs : T bs = some 6) (ht_tp : T tp = some 7) (htd : 0 ≤ td.toInt ∧ td.toInt ≤ 999) (hbc : 0 ≤ bc.toInt ∧ bc.toInt ≤ 4) (htl : 0 ≤ tl.toInt ∧ tl.toInt ≤ 600) (h596 : tl.toInt ≤ 596) (hg : ∀ j, j < 4 → ∃ q, g j = some q ∧ T q = some 2) : mCv l yX8_addNumber cX8_addNumber 3 0 0 0 D kA M T sz [.ref w, .int n] (fun u => ∃ tl2 : Int32, ((0 : Int) ≤ tl2.toInt ∧ tl2.toInt ≤ 600) ∧ (tl2.toInt = tl.toInt + 4 ∧ u.1 w = some (.inr (6, [.int td, .int gd, .int bc, .int py, .int rf, .int lt, .int tl2, .int fp, .ref cs, .ref bs, .ref tp]))) ∧ u.2 = T ∧ (∀ q, FrK T q → q ≠ w → u.1 q = M q)) := by
  unfold mCv
  refine start_W (by decide) (Nat.le_of_ble_eq_true rfl) ?_
  intro p e s m below meth c ls hC hr hlk hnm hK hH hsz hl
  have hx := hC.1
  have hb := hC.2.1
  have hl : lv_has ls 3 [(0, .ref w), (1, .int n)] := hl
  have hF : ∀ q, FrK T q → q ≠ w → M q = M q := fun q _ _ => rfl
  have n_w_bs : w ≠ bs := neM hc_w hc_bs (by simp)
  have n_bs_w : bs ≠ w := neM hc_bs hc_w (by simp)
  refine lv_bipush (v := 24) hx hb dX8_addNumber_0 (by decide) ?_
  refine lv_istore_n (lv' := [(2, .int 24), (0, .ref w), (1, .int n)]) hx hb dX8_addNumber_2 rfl hl (by decide) rfl (fun ls hl => ?_)
  refine lv_iload_n hx hb dX8_addNumber_3 rfl (lv_at hl 0 rfl) ?_
  refine jif_lt (tgt := 36) hx hb dX8_addNumber_4 (by decide) (fun cq1_ => absurd cq1_ (by decide)) (fun cq1_ => ?_)
  refine lv_aload_n hx hb dX8_addNumber_7 rfl (lv_at hl 1 rfl) ?_
  refine xg hC hK hH flX8_21 hc_w rfl dX8_addNumber_8 ?_
  refine lv_aload_n hx hb dX8_addNumber_11 rfl (lv_at hl 1 rfl) ?_
  refine xg hC hK hH flX8_48 hc_w rfl dX8_addNumber_12 ?_
  refine lv_iload_n hx hb dX8_addNumber_15 rfl (lv_at hl 2 rfl) ?_
  refine lv_iload_n hx hb dX8_addNumber_16 rfl (lv_at hl 0 rfl) ?_
  refine lv_ishr hx hb dX8_addNumber_17 ?_
  refine lv_topi (fun zq2_ e_zq2_ => ?_)
  refine lv_i2b (v := zq2_.toInt8.toInt32) hx hb dX8_addNumber_18 rfl ?_
  refine tbst (x := zq2_.toInt8.toInt32) hC hK hH ht_tp rfl (iIn (by omega) (by omega)) (nbl _) (nbh _) dX8_addNumber_19 (fun Hq_ lcq_ Mq4_ _ hfr hH => ?_)
  have hc_w : Mq4_ w = some (.inr (6, [.int td, .int gd, .int bc, .int py, .int rf, .int lt, .int tl, .int fp, .ref cs, .ref bs, .ref tp])) := (hfr w (neF (Or.inl hn_w) ht_tp (by decide))).trans hc_w
  have hc_bs : Mq4_ bs = some (.inl (kA 5, 4, .inr (.inr (.inr (.inr g))))) := (hfr bs (neF (Or.inr (Or.inl ht_bs)) ht_tp (by decide))).trans hc_bs
  have hF : ∀ q, FrK T q → q ≠ w → Mq4_ q = M q := fun q hq h0 => (hfr q (neF hq ht_tp (by decide))).trans (hF q hq h0)
  refine lv_aload_n hx hb dX8_addNumber_20 rfl (lv_at hl 1 rfl) ?_
  refine lv_dup hx hb dX8_addNumber_21 rfl ?_
  refine xg hC hK hH flX8_48 hc_w rfl dX8_addNumber_22 ?_
  refine lv_iconst (v := 1) hx hb dX8_addNumber_25 (by decide) ?_
  refine lv_iadd hx hb dX8_addNumber_26 ?_
  refine lv_topi (fun zq5_ e_zq5_ => ?_)
  have h_zq5_ : zq5_.toInt = tl.toInt + 1 := by rw [e_zq5_, iAdd (by have := iRg tl; have : (1 : Int32).toInt = 1 := rfl; omega) (by have := iRg tl; have : (1 : Int32).toInt = 1 := rfl; omega)]; rfl
  refine yp (v := .int zq5_) hC hK hH flX8_48 hc_w (noT hn_w) rfl rfl (Nat.le_of_ble_eq_true rfl) dX8_addNumber_27 (fun Hq_ lcq_ Mq6_ hc_w hfr hH => ?_)
  have hc_w : Mq6_ w = some (.inr (6, [.int td, .int gd, .int bc, .int py, .int rf, .int lt, .int zq5_, .int fp, .ref cs, .ref bs, .ref tp])) := hc_w
  have hc_bs : Mq6_ bs = some (.inl (kA 5, 4, .inr (.inr (.inr (.inr g))))) := (hfr bs n_bs_w).trans hc_bs
  have hF : ∀ q, FrK T q → q ≠ w → Mq6_ q = M q := fun q hq h0 => (hfr q h0).trans (hF q hq h0)
  refine lv_iinc (v := 16) (lv' := [(2, .int 16), (0, .ref w), (1, .int n)]) hx hb dX8_addNumber_30 hl (k := 0) rfl (by decide) (by decide) rfl (fun ls hl => ?_)
  refine lv_goto (tgt := 3) hx hb dX8_addNumber_33 (by decide) ?_
  refine lv_iload_n hx hb dX8_addNumber_3 rfl (lv_at hl 0 rfl) ?_
  refine jif_lt (tgt := 36) hx hb dX8_addNumber_4 (by decide) (fun cq7_ => absurd cq7_ (by decide)) (fun cq7_ => ?_)
  refine lv_aload_n hx hb dX8_addNumber_7 rfl (lv_at hl 1 rfl) ?_
  refine xg hC hK hH flX8_21 hc_w rfl dX8_addNumber_8 ?_
  refine lv_aload_n hx hb dX8_addNumber_11 rfl (lv_at hl 1 rfl) ?_
  refine xg hC hK hH flX8_48 hc_w rfl dX8_addNumber_12 ?_
  refine lv_iload_n hx hb dX8_addNumber_15 rfl (lv_at hl 2 rfl) ?_
  refine lv_iload_n hx hb dX8_addNumber_16 rfl (lv_at hl 0 rfl) ?_
  refine lv_ishr hx hb dX8_addNumber_17 ?_
  refine lv_topi (fun zq8_ e_zq8_ => ?_)
  refine lv_i2b (v := zq8_.toInt8.toInt32) hx hb dX8_addNumber_18 rfl ?_
  refine tbst (x := zq8_.toInt8.toInt32) hC hK hH ht_tp rfl (iIn (by omega) (by omega)) (nbl _) (nbh _) dX8_addNumber_19 (fun Hq_ lcq_ Mq10_ _ hfr hH => ?_)
  have hc_w : Mq10_ w = some (.inr (6, [.int td, .int gd, .int bc, .int py, .int rf, .int lt, .int zq5_, .int fp, .ref cs, .ref bs, .ref tp])) := (hfr w (neF (Or.inl hn_w) ht_tp (by decide))).trans hc_w
  have hc_bs : Mq10_ bs = some (.inl (kA 5, 4, .inr (.inr (.inr (.inr g))))) := (hfr bs (neF (Or.inr (Or.inl ht_bs)) ht_tp (by decide))).trans hc_bs
  have hF : ∀ q, FrK T q → q ≠ w → Mq10_ q = M q := fun q hq h0 => (hfr q (neF hq ht_tp (by decide))).trans (hF q hq h0)
  refine lv_aload_n hx hb dX8_addNumber_20 rfl (lv_at hl 1 rfl) ?_
  refine lv_dup hx hb dX8_addNumber_21 rfl ?_
  refine xg hC hK hH flX8_48 hc_w rfl dX8_addNumber_22 ?_
  refine lv_iconst (v := 1) hx hb dX8_addNumber_25 (by decide) ?_
  refine lv_iadd hx hb dX8_addNumber_26 ?_
  refine lv_topi (fun zq11_ e_zq11_ => ?_)
  have h_zq11_ : zq11_.toInt = zq5_.toInt + 1 := by rw [e_zq11_, iAdd (by have := iRg zq5_; have : (1 : Int32).toInt = 1 := rfl; omega) (by have := iRg zq5_; have : (1 : Int32).toInt = 1 := rfl; omega)]; rfl
  refine yp (v := .int zq11_) hC hK hH flX8_48 hc_w (noT hn_w) rfl rfl (Nat.le_of_ble_eq_true rfl) dX8_addNumber_27 (fun Hq_ lcq_ Mq12_ hc_w hfr hH => ?_)
  have hc_w : Mq12_ w = some (.inr (6, [.int td, .int gd, .int bc, .int py, .int rf, .int lt, .int zq11_, .int fp, .ref cs, .ref bs, .ref tp])) := hc_w
  have hc_bs : Mq12_ bs = some (.inl (kA 5, 4, .inr (.inr (.inr (.inr g))))) := (hfr bs n_bs_w).trans hc_bs
  have hF : ∀ q, FrK T q → q ≠ w → Mq12_ q = M q := fun q hq h0 => (hfr q h0).trans (hF q hq h0)
  refine lv_iinc (v := 8) (lv' := [(2, .int 8), (0, .ref w), (1, .int n)]) hx hb dX8_addNumber_30 hl (k := 0) rfl (by decide) (by decide) rfl (fun ls hl => ?_)
  refine lv_goto (tgt := 3) hx hb dX8_addNumber_33 (by decide) ?_
  refine lv_iload_n hx hb dX8_addNumber_3 rfl (lv_at hl 0 rfl) ?_
  refine jif_lt (tgt := 36) hx hb dX8_addNumber_4 (by decide) (fun cq13_ => absurd cq13_ (by decide)) (fun cq13_ => ?_)
  refine lv_aload_n hx hb dX8_addNumber_7 rfl (lv_at hl 1 rfl) ?_
  refine xg hC hK hH flX8_21 hc_w rfl dX8_addNumber_8 ?_
  refine lv_aload_n hx hb dX8_addNumber_11 rfl (lv_at hl 1 rfl) ?_
  refine xg hC hK hH flX8_48 hc_w rfl dX8_addNumber_12 ?_
  refine lv_iload_n hx hb dX8_addNumber_15 rfl (lv_at hl 2 rfl) ?_
  refine lv_iload_n hx hb dX8_addNumber_16 rfl (lv_at hl 0 rfl) ?_
  refine lv_ishr hx hb dX8_addNumber_17 ?_
  refine lv_topi (fun zq14_ e_zq14_ => ?_)
  refine lv_i2b (v := zq14_.toInt8.toInt32) hx hb dX8_addNumber_18 rfl ?_
  refine tbst (x := zq14_.toInt8.toInt32) hC hK hH ht_tp rfl (iIn (by omega) (by omega)) (nbl _) (nbh _) dX8_addNumber_19 (fun Hq_ lcq_ Mq16_ _ hfr hH => ?_)
  have hc_w : Mq16_ w = some (.inr (6, [.int td, .int gd, .int bc, .int py, .int rf, .int lt, .int zq11_, .int fp, .ref cs, .ref bs, .ref tp])) := (hfr w (neF (Or.inl hn_w) ht_tp (by decide))).trans hc_w
  have hc_bs : Mq16_ bs = some (.inl (kA 5, 4, .inr (.inr (.inr (.inr g))))) := (hfr bs (neF (Or.inr (Or.inl ht_bs)) ht_tp (by decide))).trans hc_bs
  have hF : ∀ q, FrK T q → q ≠ w → Mq16_ q = M q := fun q hq h0 => (hfr q (neF hq ht_tp (by decide))).trans (hF q hq h0)
  refine lv_aload_n hx hb dX8_addNumber_20 rfl (lv_at hl 1 rfl) ?_
  refine lv_dup hx hb dX8_addNumber_21 rfl ?_
  refine xg hC hK hH flX8_48 hc_w rfl dX8_addNumber_22 ?_
  refine lv_iconst (v := 1) hx hb dX8_addNumber_25 (by decide) ?_
  refine lv_iadd hx hb dX8_addNumber_26 ?_
  refine lv_topi (fun zq17_ e_zq17_ => ?_)
  have h_zq17_ : zq17_.toInt = zq11_.toInt + 1 := by rw [e_zq17_, iAdd (by have := iRg zq11_; have : (1 : Int32).toInt = 1 := rfl; omega) (by have := iRg zq11_; have : (1 : Int32).toInt = 1 := rfl; omega)]; rfl
  refine yp (v := .int zq17_) hC hK hH flX8_48 hc_w (noT hn_w) rfl rfl (Nat.le_of_ble_eq_true rfl) dX8_addNumber_27 (fun Hq_ lcq_ Mq18_ hc_w hfr hH => ?_)
  have hc_w : Mq18_ w = some (.inr (6, [.int td, .int gd, .int bc, .int py, .int rf, .int lt, .int zq17_, .int fp, .ref cs, .ref bs, .ref tp])) := hc_w
  have hc_bs : Mq18_ bs = some (.inl (kA 5, 4, .inr (.inr (.inr (.inr g))))) := (hfr bs n_bs_w).trans hc_bs
  have hF : ∀ q, FrK T q → q ≠ w → Mq18_ q = M q := fun q hq h0 => (hfr q h0).trans (hF q hq h0)
  refine lv_iinc (v := 0) (lv' := [(2, .int 0), (0, .ref w), (1, .int n)]) hx hb dX8_addNumber_30 hl (k := 0) rfl (by decide) (by decide) rfl (fun ls hl => ?_)
  refine lv_goto (tgt := 3) hx hb dX8_addNumber_33 (by decide) ?_
  refine lv_iload_n hx hb dX8_addNumber_3 rfl (lv_at hl 0 rfl) ?_
  refine jif_lt (tgt := 36) hx hb dX8_addNumber_4 (by decide) (fun cq19_ => absurd cq19_ (by decide)) (fun cq19_ => ?_)
  refine lv_aload_n hx hb dX8_addNumber_7 rfl (lv_at hl 1 rfl) ?_
  refine xg hC hK hH flX8_21 hc_w rfl dX8_addNumber_8 ?_
  refine lv_aload_n hx hb dX8_addNumber_11 rfl (lv_at hl 1 rfl) ?_
  refine xg hC hK hH flX8_48 hc_w rfl dX8_addNumber_12 ?_
  refine lv_iload_n hx hb dX8_addNumber_15 rfl (lv_at hl 2 rfl) ?_
  refine lv_iload_n hx hb dX8_addNumber_16 rfl (lv_at hl 0 rfl) ?_
  refine lv_ishr hx hb dX8_addNumber_17 ?_
  refine lv_topi (fun zq20_ e_zq20_ => ?_)
  refine lv_i2b (v := zq20_.toInt8.toInt32) hx hb dX8_addNumber_18 rfl ?_
  refine tbst (x := zq20_.toInt8.toInt32) hC hK hH ht_tp rfl (iIn (by omega) (by omega)) (nbl _) (nbh _) dX8_addNumber_19 (fun Hq_ lcq_ Mq22_ _ hfr hH => ?_)
  have hc_w : Mq22_ w = some (.inr (6, [.int td, .int gd, .int bc, .int py, .int rf, .int lt, .int zq17_, .int fp, .ref cs, .ref bs, .ref tp])) := (hfr w (neF (Or.inl hn_w) ht_tp (by decide))).trans hc_w
  have hc_bs : Mq22_ bs = some (.inl (kA 5, 4, .inr (.inr (.inr (.inr g))))) := (hfr bs (neF (Or.inr (Or.inl ht_bs)) ht_tp (by decide))).trans hc_bs
  have hF : ∀ q, FrK T q → q ≠ w → Mq22_ q = M q := fun q hq h0 => (hfr q (neF hq ht_tp (by decide))).trans (hF q hq h0)
  refine lv_aload_n hx hb dX8_addNumber_20 rfl (lv_at hl 1 rfl) ?_
  refine lv_dup hx hb dX8_addNumber_21 rfl ?_
  refine xg hC hK hH flX8_48 hc_w rfl dX8_addNumber_22 ?_
  refine lv_iconst (v := 1) hx hb dX8_addNumber_25 (by decide) ?_
  refine lv_iadd hx hb dX8_addNumber_26 ?_
  refine lv_topi (fun zq23_ e_zq23_ => ?_)
  have h_zq23_ : zq23_.toInt = zq17_.toInt + 1 := by rw [e_zq23_, iAdd (by have := iRg zq17_; have : (1 : Int32).toInt = 1 := rfl; omega) (by have := iRg zq17_; have : (1 : Int32).toInt = 1 := rfl; omega)]; rfl
  refine yp (v := .int zq23_) hC hK hH flX8_48 hc_w (noT hn_w) rfl rfl (Nat.le_of_ble_eq_true rfl) dX8_addNumber_27 (fun Hq_ lcq_ Mq24_ hc_w hfr hH => ?_)
  have hc_w : Mq24_ w = some (.inr (6, [.int td, .int gd, .int bc, .int py, .int rf, .int lt, .int zq23_, .int fp, .ref cs, .ref bs, .ref tp])) := hc_w
  have hc_bs : Mq24_ bs = some (.inl (kA 5, 4, .inr (.inr (.inr (.inr g))))) := (hfr bs n_bs_w).trans hc_bs
  have hF : ∀ q, FrK T q → q ≠ w → Mq24_ q = M q := fun q hq h0 => (hfr q h0).trans (hF q hq h0)
  refine lv_iinc (v := -8) (lv' := [(2, .int (-8)), (0, .ref w), (1, .int n)]) hx hb dX8_addNumber_30 hl (k := 0) rfl (by decide) (by decide) rfl (fun ls hl => ?_)
  refine lv_goto (tgt := 3) hx hb dX8_addNumber_33 (by decide) ?_
  refine lv_iload_n hx hb dX8_addNumber_3 rfl (lv_at hl 0 rfl) ?_
  refine jif_lt (tgt := 36) hx hb dX8_addNumber_4 (by decide) (fun cq25_ => ?_) (fun cq25_ => absurd cq25_ (by decide))
  exact ret_v hC hr hlk hK hH (⟨zq23_, ⟨by omega, by omega⟩, ⟨by omega, hc_w⟩, rfl, hF⟩) (Nat.le_of_ble_eq_true rfl) (Nat.le_of_ble_eq_true rfl) dX8_addNumber_36
set_option maxHeartbeats 4000000 in
set_option maxRecDepth 100000 in
theorem c_X8_addBytes {l : Launch} {D : va_G} {kA : Nat → ClassId} {M : mM} {T : mT} {sz : Nat} {w cs bs tp : Nat} {td gd bc py rf lt tl fp : Int32} {g : Nat → Option Nat} {a b c_ d e_ : Int32} (hc_w : M w = some (.inr (6, [.int td, .int gd, .int bc, .int py, .int rf, .int lt, .int tl, .int fp, .ref cs, .ref bs, .ref tp]))) (hn_w : T w = none) (hc_bs : M bs = some (.inl (kA 5, 4, .inr (.inr (.inr (.inr g)))))) (ht_cs : T cs = some 3) (ht_bs : T bs = some 6) (ht_tp : T tp = some 7) (htd : 0 ≤ td.toInt ∧ td.toInt ≤ 999) (hbc : 0 ≤ bc.toInt ∧ bc.toInt ≤ 4) (htl : 0 ≤ tl.toInt ∧ tl.toInt ≤ 600) (hg : ∀ j, j < 4 → ∃ q, g j = some q ∧ T q = some 2) : mCi l yX8_addBytes cX8_addBytes 6 (some .int) 1 0 0 D kA M T sz [.ref w, .int a, .int b, .int c_, .int d, .int e_] (fun r u => ∃ tl2 : Int32, ((0 : Int) ≤ tl2.toInt ∧ tl2.toInt ≤ 600) ∧ (((tl.toInt ≤ 580 ∧ r.toInt = tl.toInt + 20 ∧ tl2.toInt = tl.toInt + 20) ∧ u.1 w = some (.inr (6, [.int td, .int gd, .int bc, .int py, .int rf, .int lt, .int tl2, .int fp, .ref cs, .ref bs, .ref tp]))) ∨ ((580 < tl.toInt ∧ r.toInt = -1 ∧ tl2.toInt = tl.toInt) ∧ u.1 w = some (.inr (6, [.int td, .int gd, .int bc, .int py, .int rf, .int lt, .int tl2, .int fp, .ref cs, .ref bs, .ref tp])))) ∧ u.2 = T ∧ (∀ q, FrK T q → q ≠ w → u.1 q = M q)) := by
  unfold mCi
  refine start_W (by decide) (Nat.le_of_ble_eq_true rfl) ?_
  intro p e s m below meth c ls hC hr hlk hnm hK hH hsz hl
  have hx := hC.1
  have hb := hC.2.1
  have hl : lv_has ls 6 [(0, .ref w), (1, .int a), (2, .int b), (3, .int c_), (4, .int d), (5, .int e_)] := hl
  have hF : ∀ q, FrK T q → q ≠ w → M q = M q := fun q _ _ => rfl
  have n_w_bs : w ≠ bs := neM hc_w hc_bs (by simp)
  have n_bs_w : bs ≠ w := neM hc_bs hc_w (by simp)
  refine lv_aload_n hx hb dX8_addBytes_0 rfl (lv_at hl 0 rfl) ?_
  refine xg hC hK hH flX8_48 hc_w rfl dX8_addBytes_1 ?_
  refine lv_sipush (v := 580) hx hb dX8_addBytes_4 (by decide) ?_
  refine jic_le (tgt := 12) hx hb dX8_addBytes_7 (by decide) (fun cq1_ => ?_) (fun cq1_ => ?_)
  · skip
    have cq1_ : tl.toInt ≤ 580 := cq1_
    refine lv_aload_n hx hb dX8_addBytes_12 rfl (lv_at hl 0 rfl) ?_
    refine lv_iload_n hx hb dX8_addBytes_13 rfl (lv_at hl 1 rfl) ?_
    refine goV hK hH (runV (As := [.int a]) (rest := []) hC hK hH (c_X8_addNumber hc_w hn_w hc_bs ht_cs ht_bs ht_tp (by omega) (by omega) (by omega) (by omega) hg) mlX8_64 (rcvM hK hH hc_w rfl) ⟨⟨Nat.le_of_ble_eq_true rfl, Nat.le_of_ble_eq_true rfl⟩, Nat.le_of_ble_eq_true rfl, Nat.le_of_ble_eq_true rfl⟩ rfl hl.1 rfl (Nat.le_of_ble_eq_true rfl) dX8_addBytes_14) (fun Mq2_ Tq3_ Hq_ lcq_ hP hz hH => ?_)
    try dsimp only at hP
    obtain ⟨xq6_, ⟨l_xq6_, g_xq6_⟩, (⟨cq5_, hx_w⟩), eT, hfr⟩ := hP
    have eT := eT.symm; subst eT
    have hc_w : Mq2_ w = some (.inr (6, [.int td, .int gd, .int bc, .int py, .int rf, .int lt, .int xq6_, .int fp, .ref cs, .ref bs, .ref tp])) := hx_w
    have hc_bs : Mq2_ bs = some (.inl (kA 5, 4, .inr (.inr (.inr (.inr g))))) := (hfr bs (Or.inr (Or.inl ht_bs)) n_bs_w).trans hc_bs
    have hF : ∀ q, FrK T q → q ≠ w → Mq2_ q = M q := fun q hq h0 => (hfr q hq  h0).trans (hF q hq h0)
    have cq5_ : xq6_.toInt = tl.toInt + 4 := cq5_
    refine lv_aload_n hx hb dX8_addBytes_17 rfl (lv_at hl 0 rfl) ?_
    refine lv_iload_n hx hb dX8_addBytes_18 rfl (lv_at hl 2 rfl) ?_
    refine goV hK hH (runV (As := [.int b]) (rest := []) hC hK hH (c_X8_addNumber hc_w hn_w hc_bs ht_cs ht_bs ht_tp (by omega) (by omega) (by omega) (by omega) hg) mlX8_64 (rcvM hK hH hc_w rfl) ⟨⟨Nat.le_of_ble_eq_true rfl, Nat.le_of_ble_eq_true rfl⟩, Nat.le_of_ble_eq_true rfl, Nat.le_of_ble_eq_true rfl⟩ rfl hl.1 rfl (Nat.le_of_ble_eq_true rfl) dX8_addBytes_19) (fun Mq7_ Tq8_ Hq_ lcq_ hP hz hH => ?_)
    try dsimp only at hP
    obtain ⟨xq11_, ⟨l_xq11_, g_xq11_⟩, (⟨cq10_, hx_w⟩), eT, hfr⟩ := hP
    have eT := eT.symm; subst eT
    have hc_w : Mq7_ w = some (.inr (6, [.int td, .int gd, .int bc, .int py, .int rf, .int lt, .int xq11_, .int fp, .ref cs, .ref bs, .ref tp])) := hx_w
    have hc_bs : Mq7_ bs = some (.inl (kA 5, 4, .inr (.inr (.inr (.inr g))))) := (hfr bs (Or.inr (Or.inl ht_bs)) n_bs_w).trans hc_bs
    have hF : ∀ q, FrK T q → q ≠ w → Mq7_ q = M q := fun q hq h0 => (hfr q hq  h0).trans (hF q hq h0)
    have cq10_ : xq11_.toInt = xq6_.toInt + 4 := cq10_
    refine lv_aload_n hx hb dX8_addBytes_22 rfl (lv_at hl 0 rfl) ?_
    refine lv_iload_n hx hb dX8_addBytes_23 rfl (lv_at hl 3 rfl) ?_
    refine goV hK hH (runV (As := [.int c_]) (rest := []) hC hK hH (c_X8_addNumber hc_w hn_w hc_bs ht_cs ht_bs ht_tp (by omega) (by omega) (by omega) (by omega) hg) mlX8_64 (rcvM hK hH hc_w rfl) ⟨⟨Nat.le_of_ble_eq_true rfl, Nat.le_of_ble_eq_true rfl⟩, Nat.le_of_ble_eq_true rfl, Nat.le_of_ble_eq_true rfl⟩ rfl hl.1 rfl (Nat.le_of_ble_eq_true rfl) dX8_addBytes_24) (fun Mq12_ Tq13_ Hq_ lcq_ hP hz hH => ?_)
    try dsimp only at hP
    obtain ⟨xq16_, ⟨l_xq16_, g_xq16_⟩, (⟨cq15_, hx_w⟩), eT, hfr⟩ := hP
    have eT := eT.symm; subst eT
    have hc_w : Mq12_ w = some (.inr (6, [.int td, .int gd, .int bc, .int py, .int rf, .int lt, .int xq16_, .int fp, .ref cs, .ref bs, .ref tp])) := hx_w
    have hc_bs : Mq12_ bs = some (.inl (kA 5, 4, .inr (.inr (.inr (.inr g))))) := (hfr bs (Or.inr (Or.inl ht_bs)) n_bs_w).trans hc_bs
    have hF : ∀ q, FrK T q → q ≠ w → Mq12_ q = M q := fun q hq h0 => (hfr q hq  h0).trans (hF q hq h0)
    have cq15_ : xq16_.toInt = xq11_.toInt + 4 := cq15_
    refine lv_aload_n hx hb dX8_addBytes_27 rfl (lv_at hl 0 rfl) ?_
    refine lv_iload hx hb dX8_addBytes_28 (lv_at hl 4 rfl) ?_
    refine goV hK hH (runV (As := [.int d]) (rest := []) hC hK hH (c_X8_addNumber hc_w hn_w hc_bs ht_cs ht_bs ht_tp (by omega) (by omega) (by omega) (by omega) hg) mlX8_64 (rcvM hK hH hc_w rfl) ⟨⟨Nat.le_of_ble_eq_true rfl, Nat.le_of_ble_eq_true rfl⟩, Nat.le_of_ble_eq_true rfl, Nat.le_of_ble_eq_true rfl⟩ rfl hl.1 rfl (Nat.le_of_ble_eq_true rfl) dX8_addBytes_30) (fun Mq17_ Tq18_ Hq_ lcq_ hP hz hH => ?_)
    try dsimp only at hP
    obtain ⟨xq21_, ⟨l_xq21_, g_xq21_⟩, (⟨cq20_, hx_w⟩), eT, hfr⟩ := hP
    have eT := eT.symm; subst eT
    have hc_w : Mq17_ w = some (.inr (6, [.int td, .int gd, .int bc, .int py, .int rf, .int lt, .int xq21_, .int fp, .ref cs, .ref bs, .ref tp])) := hx_w
    have hc_bs : Mq17_ bs = some (.inl (kA 5, 4, .inr (.inr (.inr (.inr g))))) := (hfr bs (Or.inr (Or.inl ht_bs)) n_bs_w).trans hc_bs
    have hF : ∀ q, FrK T q → q ≠ w → Mq17_ q = M q := fun q hq h0 => (hfr q hq  h0).trans (hF q hq h0)
    have cq20_ : xq21_.toInt = xq16_.toInt + 4 := cq20_
    refine lv_aload_n hx hb dX8_addBytes_33 rfl (lv_at hl 0 rfl) ?_
    refine lv_iload hx hb dX8_addBytes_34 (lv_at hl 5 rfl) ?_
    refine goV hK hH (runV (As := [.int e_]) (rest := []) hC hK hH (c_X8_addNumber hc_w hn_w hc_bs ht_cs ht_bs ht_tp (by omega) (by omega) (by omega) (by omega) hg) mlX8_64 (rcvM hK hH hc_w rfl) ⟨⟨Nat.le_of_ble_eq_true rfl, Nat.le_of_ble_eq_true rfl⟩, Nat.le_of_ble_eq_true rfl, Nat.le_of_ble_eq_true rfl⟩ rfl hl.1 rfl (Nat.le_of_ble_eq_true rfl) dX8_addBytes_36) (fun Mq22_ Tq23_ Hq_ lcq_ hP hz hH => ?_)
    try dsimp only at hP
    obtain ⟨xq26_, ⟨l_xq26_, g_xq26_⟩, (⟨cq25_, hx_w⟩), eT, hfr⟩ := hP
    have eT := eT.symm; subst eT
    have hc_w : Mq22_ w = some (.inr (6, [.int td, .int gd, .int bc, .int py, .int rf, .int lt, .int xq26_, .int fp, .ref cs, .ref bs, .ref tp])) := hx_w
    have hc_bs : Mq22_ bs = some (.inl (kA 5, 4, .inr (.inr (.inr (.inr g))))) := (hfr bs (Or.inr (Or.inl ht_bs)) n_bs_w).trans hc_bs
    have hF : ∀ q, FrK T q → q ≠ w → Mq22_ q = M q := fun q hq h0 => (hfr q hq  h0).trans (hF q hq h0)
    have cq25_ : xq26_.toInt = xq21_.toInt + 4 := cq25_
    refine lv_aload_n hx hb dX8_addBytes_39 rfl (lv_at hl 0 rfl) ?_
    refine xg hC hK hH flX8_48 hc_w rfl dX8_addBytes_40 ?_
    exact ret_i hC hr hlk hK hH (⟨xq26_, ⟨by omega, by omega⟩, Or.inl (⟨by omega, hc_w⟩), rfl, hF⟩) (Nat.le_of_ble_eq_true rfl) (Nat.le_of_ble_eq_true rfl) dX8_addBytes_43
  · skip
    have cq1_ : 580 < tl.toInt := cq1_
    refine lv_iconst (v := -1) hx hb dX8_addBytes_10 (by decide) ?_
    exact ret_i hC hr hlk hK hH (⟨tl, ⟨by omega, by omega⟩, Or.inr (⟨by have : (-1 : Int32).toInt = -1 := rfl; omega, hc_w⟩), rfl, hF⟩) (Nat.le_of_ble_eq_true rfl) (Nat.le_of_ble_eq_true rfl) dX8_addBytes_11
set_option maxHeartbeats 4000000 in
set_option maxRecDepth 100000 in
theorem c_X8_acceptOne {l : Launch} {D : va_G} {kA : Nat → ClassId} {M : mM} {T : mT} {sz : Nat} {w cs bs tp : Nat} {td gd bc py rf lt tl fp : Int32} {g : Nat → Option Nat} {b : Int32} (hc_w : M w = some (.inr (6, [.int td, .int gd, .int bc, .int py, .int rf, .int lt, .int tl, .int fp, .ref cs, .ref bs, .ref tp]))) (hn_w : T w = none) (hc_bs : M bs = some (.inl (kA 5, 4, .inr (.inr (.inr (.inr g)))))) (ht_cs : T cs = some 3) (ht_bs : T bs = some 6) (ht_tp : T tp = some 7) (htd : 0 ≤ td.toInt ∧ td.toInt ≤ 999) (hbc : 0 ≤ bc.toInt ∧ bc.toInt ≤ 4) (htl : 0 ≤ tl.toInt ∧ tl.toInt ≤ 600) (hg : ∀ j, j < 4 → ∃ q, g j = some q ∧ T q = some 2) : mCi l yX8_acceptOne cX8_acceptOne 3 (some .int) 1 0 0 D kA M T sz [.ref w, .int b] (fun r u => (True) ∧ u.2 = T ∧ (∀ q, FrA T q → u.1 q = M q)) := by
  unfold mCi
  refine start_W (by decide) (Nat.le_of_ble_eq_true rfl) ?_
  intro p e s m below meth c ls hC hr hlk hnm hK hH hsz hl
  have hx := hC.1
  have hb := hC.2.1
  have hl : lv_has ls 3 [(0, .ref w), (1, .int b)] := hl
  have hF : ∀ q, FrA T q → M q = M q := fun q _  => rfl
  have n_w_bs : w ≠ bs := neM hc_w hc_bs (by simp)
  have n_bs_w : bs ≠ w := neM hc_bs hc_w (by simp)
  refine lv_aload_n hx hb dX8_acceptOne_0 rfl (lv_at hl 0 rfl) ?_
  refine lv_iload_n hx hb dX8_acceptOne_1 rfl (lv_at hl 1 rfl) ?_
  refine goI hK hH (runV (As := [.int b]) (rest := []) hC hK hH (c_X8_hasBill hc_w hn_w hc_bs ht_cs ht_bs ht_tp (by omega) (by omega) (by omega) hg) mlX8_68 (rcvM hK hH hc_w rfl) ⟨⟨Nat.le_of_ble_eq_true rfl, Nat.le_of_ble_eq_true rfl⟩, Nat.le_of_ble_eq_true rfl, Nat.le_of_ble_eq_true rfl⟩ rfl hl.1 rfl (Nat.le_of_ble_eq_true rfl) dX8_acceptOne_2) (fun rq3_ Mq1_ Tq2_ Hq_ lcq_ hP hz hH => ?_)
  try dsimp only at hP
  obtain ⟨(⟨cq4_, er_rq3_⟩ | er_rq3_), eT, eM⟩ := hP
  · skip
    have eT := eT.symm; subst eT
    have er_rq3_ := er_rq3_.symm; subst er_rq3_
    have eM := eM.symm; subst eM
    have cq4_ : 0 ≤ b.toInt ∧ b.toInt ≤ 3 := cq4_
    refine jif_ne (tgt := 11) hx hb dX8_acceptOne_5 (by decide) (fun cq5_ => ?_) (fun cq5_ => absurd cq5_ (by decide))
    refine lv_aload_n hx hb dX8_acceptOne_11 rfl (lv_at hl 0 rfl) ?_
    refine xg hC hK hH flX8_17 hc_w rfl dX8_acceptOne_12 ?_
    refine lv_iload_n hx hb dX8_acceptOne_15 rfl (lv_at hl 1 rfl) ?_
    refine xqld (ck := 5) hC hK hH rfl hc_bs (iIn (by omega) (by omega)) dX8_acceptOne_16 ?_
    obtain ⟨qq6_, e_qq6_, t_qq6_⟩ := hg (Int32.toNatClampNeg b) (by have := iCl (x := b) (by omega); omega)
    refine lv_qr e_qq6_ ?_
    refine lv_astore_n (lv' := [(2, .ref qq6_), (0, .ref w), (1, .int b)]) hx hb dX8_acceptOne_17 rfl hl (by decide) rfl (fun ls hl => ?_)
    refine lv_aload_n hx hb dX8_acceptOne_18 rfl (lv_at hl 0 rfl) ?_
    refine tg hC hK hH flX8_106 t_qq6_ rfl rfl dX8_acceptOne_19 (fun xq7_ l_xq7_ g_xq7_ => ?_)
    have l_xq7_ : (0 : Int) ≤ xq7_.toInt := l_xq7_
    have g_xq7_ : xq7_.toInt ≤ 1 := g_xq7_
    refine jif_ne (tgt := 40) hx hb dX8_acceptOne_22 (by decide) (fun cq8_ => ?_) (fun cq8_ => ?_)
    · skip
      have cq8_ : xq7_.toInt ≠ 0 := cq8_
      refine lv_bipush (v := 31) hx hb dX8_acceptOne_40 (by decide) ?_
      exact ret_i hC hr hlk hK hH (⟨trivial, rfl, hF⟩) (Nat.le_of_ble_eq_true rfl) (Nat.le_of_ble_eq_true rfl) dX8_acceptOne_42
    · skip
      have cq8_ : xq7_.toInt = 0 := cq8_
      refine lv_aload_n hx hb dX8_acceptOne_25 rfl (lv_at hl 0 rfl) ?_
      refine tg hC hK hH flX8_83 t_qq6_ rfl rfl dX8_acceptOne_26 (fun xq9_ l_xq9_ g_xq9_ => ?_)
      refine lv_iconst (v := -1) hx hb dX8_acceptOne_29 (by decide) ?_
      refine jic_ne (tgt := 40) hx hb dX8_acceptOne_30 (by decide) (fun cq10_ => ?_) (fun cq10_ => ?_)
      · skip
        have cq10_ : xq9_.toInt ≠ (-1) := cq10_
        refine lv_bipush (v := 31) hx hb dX8_acceptOne_40 (by decide) ?_
        exact ret_i hC hr hlk hK hH (⟨trivial, rfl, hF⟩) (Nat.le_of_ble_eq_true rfl) (Nat.le_of_ble_eq_true rfl) dX8_acceptOne_42
      · skip
        have cq10_ : xq9_.toInt = (-1) := cq10_
        refine lv_aload_n hx hb dX8_acceptOne_33 rfl (lv_at hl 0 rfl) ?_
        refine tg hC hK hH flX8_90 t_qq6_ rfl rfl dX8_acceptOne_34 (fun xq11_ l_xq11_ g_xq11_ => ?_)
        have l_xq11_ : (0 : Int) ≤ xq11_.toInt := l_xq11_
        have g_xq11_ : xq11_.toInt ≤ 1 := g_xq11_
        refine jif_eq (tgt := 43) hx hb dX8_acceptOne_37 (by decide) (fun cq12_ => ?_) (fun cq12_ => ?_)
        · skip
          have cq12_ : xq11_.toInt = 0 := cq12_
          refine lv_aload_n hx hb dX8_acceptOne_43 rfl (lv_at hl 0 rfl) ?_
          refine lv_iconst (v := 1) hx hb dX8_acceptOne_44 (by decide) ?_
          obtain ⟨Mq13_, fsq14_, hc_qq6_, hfr, ho_qq6_, hH⟩ := hH.unt t_qq6_ rfl
          obtain ⟨xq15_, hl_xq15_, xq16_, hl_xq16_, xq17_, hl_xq17_, xq18_, hl_xq18_, xq19_, hl_xq19_, xq20_, hl_xq20_, xq21_, hl_xq21_, xq22_, hl_xq22_, xq23_, hl_xq23_, xq24_, hl_xq24_, xq25_, hl_xq25_, xq26_, hl_xq26_, qq27_, hl_qq27_, qq28_, hl_qq28_, qq29_, hl_qq29_, qq30_, hl_qq30_, qq31_, hl_qq31_, qq32_, hl_qq32_, qq33_, hl_qq33_, e_fsq14_⟩ := op2  ho_qq6_
          subst e_fsq14_
          have l_xq15_ : (-2147483648 : Int) ≤ xq15_.toInt := hl_xq15_.1
          have g_xq15_ : xq15_.toInt ≤ 2147483647 := hl_xq15_.2
          have l_xq16_ : (-2147483648 : Int) ≤ xq16_.toInt := hl_xq16_.1
          have g_xq16_ : xq16_.toInt ≤ 2147483647 := hl_xq16_.2
          have l_xq17_ : (-2147483648 : Int) ≤ xq17_.toInt := hl_xq17_.1
          have g_xq17_ : xq17_.toInt ≤ 2147483647 := hl_xq17_.2
          have l_xq18_ : (-2147483648 : Int) ≤ xq18_.toInt := hl_xq18_.1
          have g_xq18_ : xq18_.toInt ≤ 2147483647 := hl_xq18_.2
          have l_xq19_ : (-2147483648 : Int) ≤ xq19_.toInt := hl_xq19_.1
          have g_xq19_ : xq19_.toInt ≤ 2147483647 := hl_xq19_.2
          have l_xq20_ : (0 : Int) ≤ xq20_.toInt := hl_xq20_.1
          have g_xq20_ : xq20_.toInt ≤ 7 := hl_xq20_.2
          have l_xq21_ : (-2147483648 : Int) ≤ xq21_.toInt := hl_xq21_.1
          have g_xq21_ : xq21_.toInt ≤ 2147483647 := hl_xq21_.2
          have l_xq22_ : (0 : Int) ≤ xq22_.toInt := hl_xq22_.1
          have g_xq22_ : xq22_.toInt ≤ 12 := hl_xq22_.2
          have l_xq23_ : (0 : Int) ≤ xq23_.toInt := hl_xq23_.1
          have g_xq23_ : xq23_.toInt ≤ 12 := hl_xq23_.2
          have l_xq24_ : (0 : Int) ≤ xq24_.toInt := hl_xq24_.1
          have g_xq24_ : xq24_.toInt ≤ 1 := hl_xq24_.2
          have l_xq25_ : (0 : Int) ≤ xq25_.toInt := hl_xq25_.1
          have g_xq25_ : xq25_.toInt ≤ 1 := hl_xq25_.2
          have l_xq26_ : (0 : Int) ≤ xq26_.toInt := hl_xq26_.1
          have g_xq26_ : xq26_.toInt ≤ 1 := hl_xq26_.2
          have t_qq27_ := hl_qq27_
          have t_qq28_ := hl_qq28_
          have t_qq29_ := hl_qq29_
          have t_qq30_ := hl_qq30_
          have t_qq31_ := hl_qq31_
          have t_qq32_ := hl_qq32_
          have t_qq33_ := hl_qq33_
          have hc_w : Mq13_ w = some (.inr (6, [.int td, .int gd, .int bc, .int py, .int rf, .int lt, .int tl, .int fp, .ref cs, .ref bs, .ref tp])) := (hfr w (neA (Or.inl hn_w) t_qq6_ (by decide))).trans hc_w
          have hc_bs : Mq13_ bs = some (.inl (kA 5, 4, .inr (.inr (.inr (.inr g))))) := (hfr bs (neA (Or.inr ht_bs) t_qq6_ (by decide))).trans hc_bs
          have n_w_qq6_ : w ≠ qq6_ := (neA (Or.inl hn_w) t_qq6_ (by decide))
          have n_qq6__w : qq6_ ≠ w := Ne.symm n_w_qq6_
          have n_bs_qq6_ : bs ≠ qq6_ := (neA (Or.inr ht_bs) t_qq6_ (by decide))
          have n_qq6__bs : qq6_ ≠ bs := Ne.symm n_bs_qq6_
          have hc_qq6_ : Mq13_ qq6_ = some (.inr (0, [.int xq15_, .int xq16_, .int xq17_, .int xq18_, .int xq19_, .int xq20_, .int xq21_, .int xq22_, .int xq23_, .int xq24_, .int xq25_, .int xq26_, .ref qq27_, .ref qq28_, .ref qq29_, .ref qq30_, .ref qq31_, .ref qq32_, .ref qq33_])) := hc_qq6_
          have hF : ∀ q, FrA T q → Mq13_ q = M q := fun q hq  => (hfr q (neA hq t_qq6_ (by decide))).trans (hF q hq )
          refine yp (v := .int 1) hC hK hH flX8_106 hc_qq6_ (hasT t_qq6_ (conf_set rfl ho_qq6_ (show (_ : List fS)[10]? = some _ from rfl) (okI (by decide) (by decide)))) rfl rfl (Nat.le_of_ble_eq_true rfl) dX8_acceptOne_45 (fun Hq_ lcq_ Mq34_ hc_qq6_ hfr hH => ?_)
          have ho_qq6_ : conf kA T 2 (.inr (0, [.int xq15_, .int xq16_, .int xq17_, .int xq18_, .int xq19_, .int xq20_, .int xq21_, .int xq22_, .int xq23_, .int xq24_, .int 1, .int xq26_, .ref qq27_, .ref qq28_, .ref qq29_, .ref qq30_, .ref qq31_, .ref qq32_, .ref qq33_])) := conf_set rfl ho_qq6_ (show (_ : List fS)[10]? = some _ from rfl) (okI (by decide) (by decide))
          have hc_qq6_ : Mq34_ qq6_ = some (.inr (0, [.int xq15_, .int xq16_, .int xq17_, .int xq18_, .int xq19_, .int xq20_, .int xq21_, .int xq22_, .int xq23_, .int xq24_, .int 1, .int xq26_, .ref qq27_, .ref qq28_, .ref qq29_, .ref qq30_, .ref qq31_, .ref qq32_, .ref qq33_])) := hc_qq6_
          have hc_w : Mq34_ w = some (.inr (6, [.int td, .int gd, .int bc, .int py, .int rf, .int lt, .int tl, .int fp, .ref cs, .ref bs, .ref tp])) := (hfr w n_w_qq6_).trans hc_w
          have hc_bs : Mq34_ bs = some (.inl (kA 5, 4, .inr (.inr (.inr (.inr g))))) := (hfr bs n_bs_qq6_).trans hc_bs
          have hF : ∀ q, FrA T q → Mq34_ q = M q := fun q hq  => (hfr q (neA hq t_qq6_ (by decide))).trans (hF q hq )
          refine lv_iconst (v := 0) hx hb dX8_acceptOne_48 (by decide) ?_
          exact ret_i hC hr hlk hK hH (⟨trivial, rfl, hF⟩) (Nat.le_of_ble_eq_true rfl) (Nat.le_of_ble_eq_true rfl) dX8_acceptOne_49
        · skip
          have cq12_ : xq11_.toInt ≠ 0 := cq12_
          refine lv_bipush (v := 31) hx hb dX8_acceptOne_40 (by decide) ?_
          exact ret_i hC hr hlk hK hH (⟨trivial, rfl, hF⟩) (Nat.le_of_ble_eq_true rfl) (Nat.le_of_ble_eq_true rfl) dX8_acceptOne_42
  · skip
    have eT := eT.symm; subst eT
    have er_rq3_ := er_rq3_.symm; subst er_rq3_
    have eM := eM.symm; subst eM
    refine jif_ne (tgt := 11) hx hb dX8_acceptOne_5 (by decide) (fun cq35_ => absurd cq35_ (by decide)) (fun cq35_ => ?_)
    refine lv_bipush (v := 30) hx hb dX8_acceptOne_8 (by decide) ?_
    exact ret_i hC hr hlk hK hH (⟨trivial, rfl, hF⟩) (Nat.le_of_ble_eq_true rfl) (Nat.le_of_ble_eq_true rfl) dX8_acceptOne_10
set_option maxHeartbeats 4000000 in
set_option maxRecDepth 100000 in
theorem c_X8_giveDefence {l : Launch} {D : va_G} {kA : Nat → ClassId} {M : mM} {T : mT} {sz : Nat} {w cs bs tp : Nat} {td gd bc py rf lt tl fp : Int32} {g : Nat → Option Nat} {b pt re : Int32} (hc_w : M w = some (.inr (6, [.int td, .int gd, .int bc, .int py, .int rf, .int lt, .int tl, .int fp, .ref cs, .ref bs, .ref tp]))) (hn_w : T w = none) (hc_bs : M bs = some (.inl (kA 5, 4, .inr (.inr (.inr (.inr g)))))) (ht_cs : T cs = some 3) (ht_bs : T bs = some 6) (ht_tp : T tp = some 7) (htd : 0 ≤ td.toInt ∧ td.toInt ≤ 999) (hbc : 0 ≤ bc.toInt ∧ bc.toInt ≤ 4) (htl : 0 ≤ tl.toInt ∧ tl.toInt ≤ 600) (hg : ∀ j, j < 4 → ∃ q, g j = some q ∧ T q = some 2) : mCi l yX8_giveDefence cX8_giveDefence 6 (some .int) 3 0 0 D kA M T sz [.ref w, .int b, .int pt, .int re] (fun r u => (True) ∧ u.2 = T ∧ (∀ q, FrK T q → u.1 q = M q)) := by
  unfold mCi
  refine start_W (by decide) (Nat.le_of_ble_eq_true rfl) ?_
  intro p e s m below meth c ls hC hr hlk hnm hK hH hsz hl
  have hx := hC.1
  have hb := hC.2.1
  have hl : lv_has ls 6 [(0, .ref w), (1, .int b), (2, .int pt), (3, .int re)] := hl
  have hF : ∀ q, FrK T q → M q = M q := fun q _  => rfl
  have n_w_bs : w ≠ bs := neM hc_w hc_bs (by simp)
  have n_bs_w : bs ≠ w := neM hc_bs hc_w (by simp)
  refine lv_aload_n hx hb dX8_giveDefence_0 rfl (lv_at hl 0 rfl) ?_
  refine lv_iload_n hx hb dX8_giveDefence_1 rfl (lv_at hl 1 rfl) ?_
  refine lv_iload_n hx hb dX8_giveDefence_2 rfl (lv_at hl 2 rfl) ?_
  refine goI hK hH (runV (As := [.int b, .int pt]) (rest := []) hC hK hH (c_X8_hasSigner hc_w hn_w hc_bs ht_cs ht_bs ht_tp (by omega) (by omega) (by omega) hg) mlX8_138 (rcvM hK hH hc_w rfl) ⟨⟨Nat.le_of_ble_eq_true rfl, Nat.le_of_ble_eq_true rfl⟩, Nat.le_of_ble_eq_true rfl, Nat.le_of_ble_eq_true rfl⟩ rfl hl.1 rfl (Nat.le_of_ble_eq_true rfl) dX8_giveDefence_3) (fun rq3_ Mq1_ Tq2_ Hq_ lcq_ hP hz hH => ?_)
  try dsimp only at hP
  obtain ⟨(⟨cq4_, er_rq3_⟩ | er_rq3_), eT, eM⟩ := hP
  · skip
    have eT := eT.symm; subst eT
    have er_rq3_ := er_rq3_.symm; subst er_rq3_
    have eM := eM.symm; subst eM
    have cq4_ : 0 ≤ b.toInt ∧ b.toInt ≤ 3 ∧ 0 ≤ pt.toInt ∧ pt.toInt ≤ 13 := cq4_
    refine jif_ne (tgt := 12) hx hb dX8_giveDefence_6 (by decide) (fun cq5_ => ?_) (fun cq5_ => absurd cq5_ (by decide))
    refine lv_aload_n hx hb dX8_giveDefence_12 rfl (lv_at hl 0 rfl) ?_
    refine xg hC hK hH flX8_17 hc_w rfl dX8_giveDefence_13 ?_
    refine lv_iload_n hx hb dX8_giveDefence_16 rfl (lv_at hl 1 rfl) ?_
    refine xqld (ck := 5) hC hK hH rfl hc_bs (iIn (by omega) (by omega)) dX8_giveDefence_17 ?_
    obtain ⟨qq6_, e_qq6_, t_qq6_⟩ := hg (Int32.toNatClampNeg b) (by have := iCl (x := b) (by omega); omega)
    refine lv_qr e_qq6_ ?_
    refine tgr hC hK hH flX8_141 t_qq6_ rfl rfl dX8_giveDefence_18 (fun qq7_ t_qq7_ => ?_)
    refine lv_astore (lv' := [(4, .ref qq7_), (0, .ref w), (1, .int b), (2, .int pt), (3, .int re)]) hx hb dX8_giveDefence_21 hl (by decide) rfl (fun ls hl => ?_)
    refine lv_iload_n hx hb dX8_giveDefence_23 rfl (lv_at hl 4 rfl) ?_
    refine jif_eq (tgt := 31) hx hb dX8_giveDefence_24 (by decide) (fun cq8_ => ?_) (fun cq8_ => ?_)
    · skip
      have cq8_ : re.toInt = 0 := cq8_
      refine lv_iconst (v := 2) hx hb dX8_giveDefence_31 (by decide) ?_
      refine lv_istore (lv' := [(5, .int 2), (4, .ref qq7_), (0, .ref w), (1, .int b), (2, .int pt), (3, .int re)]) hx hb dX8_giveDefence_32 hl (by decide) rfl (fun ls hl => ?_)
      refine lv_aload hx hb dX8_giveDefence_34 (lv_at hl 1 rfl) ?_
      refine lv_iload_n hx hb dX8_giveDefence_36 rfl (lv_at hl 4 rfl) ?_
      refine tild hC hK hH t_qq7_ rfl (iIn (by omega) (by omega)) dX8_giveDefence_37 (fun xq9_ l_xq9_ g_xq9_ => ?_)
      refine lv_iload hx hb dX8_giveDefence_38 (lv_at hl 0 rfl) ?_
      refine lv_iand hx hb dX8_giveDefence_40 ?_
      refine lv_topi (fun zq10_ e_zq10_ => ?_)
      refine jif_eq (tgt := 47) hx hb dX8_giveDefence_41 (by decide) (fun cq11_ => ?_) (fun cq11_ => ?_)
      · skip
        have cq11_ : zq10_.toInt = 0 := cq11_
        refine lv_aload hx hb dX8_giveDefence_47 (lv_at hl 1 rfl) ?_
        refine lv_iload_n hx hb dX8_giveDefence_49 rfl (lv_at hl 4 rfl) ?_
        refine lv_dup2_11 hx hb dX8_giveDefence_50 rfl rfl ?_
        refine tild hC hK hH t_qq7_ rfl (iIn (by omega) (by omega)) dX8_giveDefence_51 (fun xq12_ l_xq12_ g_xq12_ => ?_)
        refine lv_iload hx hb dX8_giveDefence_52 (lv_at hl 0 rfl) ?_
        refine lv_ior hx hb dX8_giveDefence_54 ?_
        refine lv_topi (fun zq13_ e_zq13_ => ?_)
        refine tist (x := zq13_) hC hK hH t_qq7_ rfl (iIn (by omega) (by omega)) (iRg _).1 (iRg _).2 dX8_giveDefence_55 (fun Hq_ lcq_ Mq14_ _ hfr hH => ?_)
        have hc_w : Mq14_ w = some (.inr (6, [.int td, .int gd, .int bc, .int py, .int rf, .int lt, .int tl, .int fp, .ref cs, .ref bs, .ref tp])) := (hfr w (neF (Or.inl hn_w) t_qq7_ (by decide))).trans hc_w
        have hc_bs : Mq14_ bs = some (.inl (kA 5, 4, .inr (.inr (.inr (.inr g))))) := (hfr bs (neF (Or.inr (Or.inl ht_bs)) t_qq7_ (by decide))).trans hc_bs
        have hF : ∀ q, FrK T q → Mq14_ q = M q := fun q hq  => (hfr q (neF hq t_qq7_ (by decide))).trans (hF q hq )
        refine lv_iconst (v := 0) hx hb dX8_giveDefence_56 (by decide) ?_
        exact ret_i hC hr hlk hK hH (⟨trivial, rfl, hF⟩) (Nat.le_of_ble_eq_true rfl) (Nat.le_of_ble_eq_true rfl) dX8_giveDefence_57
      · skip
        have cq11_ : zq10_.toInt ≠ 0 := cq11_
        refine lv_bipush (v := 31) hx hb dX8_giveDefence_44 (by decide) ?_
        exact ret_i hC hr hlk hK hH (⟨trivial, rfl, hF⟩) (Nat.le_of_ble_eq_true rfl) (Nat.le_of_ble_eq_true rfl) dX8_giveDefence_46
    · skip
      have cq8_ : re.toInt ≠ 0 := cq8_
      refine lv_iconst (v := 1) hx hb dX8_giveDefence_27 (by decide) ?_
      refine lv_goto (tgt := 32) hx hb dX8_giveDefence_28 (by decide) ?_
      refine lv_istore (lv' := [(5, .int 1), (4, .ref qq7_), (0, .ref w), (1, .int b), (2, .int pt), (3, .int re)]) hx hb dX8_giveDefence_32 hl (by decide) rfl (fun ls hl => ?_)
      refine lv_aload hx hb dX8_giveDefence_34 (lv_at hl 1 rfl) ?_
      refine lv_iload_n hx hb dX8_giveDefence_36 rfl (lv_at hl 4 rfl) ?_
      refine tild hC hK hH t_qq7_ rfl (iIn (by omega) (by omega)) dX8_giveDefence_37 (fun xq15_ l_xq15_ g_xq15_ => ?_)
      refine lv_iload hx hb dX8_giveDefence_38 (lv_at hl 0 rfl) ?_
      refine lv_iand hx hb dX8_giveDefence_40 ?_
      refine lv_topi (fun zq16_ e_zq16_ => ?_)
      refine jif_eq (tgt := 47) hx hb dX8_giveDefence_41 (by decide) (fun cq17_ => ?_) (fun cq17_ => ?_)
      · skip
        have cq17_ : zq16_.toInt = 0 := cq17_
        refine lv_aload hx hb dX8_giveDefence_47 (lv_at hl 1 rfl) ?_
        refine lv_iload_n hx hb dX8_giveDefence_49 rfl (lv_at hl 4 rfl) ?_
        refine lv_dup2_11 hx hb dX8_giveDefence_50 rfl rfl ?_
        refine tild hC hK hH t_qq7_ rfl (iIn (by omega) (by omega)) dX8_giveDefence_51 (fun xq18_ l_xq18_ g_xq18_ => ?_)
        refine lv_iload hx hb dX8_giveDefence_52 (lv_at hl 0 rfl) ?_
        refine lv_ior hx hb dX8_giveDefence_54 ?_
        refine lv_topi (fun zq19_ e_zq19_ => ?_)
        refine tist (x := zq19_) hC hK hH t_qq7_ rfl (iIn (by omega) (by omega)) (iRg _).1 (iRg _).2 dX8_giveDefence_55 (fun Hq_ lcq_ Mq20_ _ hfr hH => ?_)
        have hc_w : Mq20_ w = some (.inr (6, [.int td, .int gd, .int bc, .int py, .int rf, .int lt, .int tl, .int fp, .ref cs, .ref bs, .ref tp])) := (hfr w (neF (Or.inl hn_w) t_qq7_ (by decide))).trans hc_w
        have hc_bs : Mq20_ bs = some (.inl (kA 5, 4, .inr (.inr (.inr (.inr g))))) := (hfr bs (neF (Or.inr (Or.inl ht_bs)) t_qq7_ (by decide))).trans hc_bs
        have hF : ∀ q, FrK T q → Mq20_ q = M q := fun q hq  => (hfr q (neF hq t_qq7_ (by decide))).trans (hF q hq )
        refine lv_iconst (v := 0) hx hb dX8_giveDefence_56 (by decide) ?_
        exact ret_i hC hr hlk hK hH (⟨trivial, rfl, hF⟩) (Nat.le_of_ble_eq_true rfl) (Nat.le_of_ble_eq_true rfl) dX8_giveDefence_57
      · skip
        have cq17_ : zq16_.toInt ≠ 0 := cq17_
        refine lv_bipush (v := 31) hx hb dX8_giveDefence_44 (by decide) ?_
        exact ret_i hC hr hlk hK hH (⟨trivial, rfl, hF⟩) (Nat.le_of_ble_eq_true rfl) (Nat.le_of_ble_eq_true rfl) dX8_giveDefence_46
  · skip
    have eT := eT.symm; subst eT
    have er_rq3_ := er_rq3_.symm; subst er_rq3_
    have eM := eM.symm; subst eM
    refine jif_ne (tgt := 12) hx hb dX8_giveDefence_6 (by decide) (fun cq21_ => absurd cq21_ (by decide)) (fun cq21_ => ?_)
    refine lv_bipush (v := 30) hx hb dX8_giveDefence_9 (by decide) ?_
    exact ret_i hC hr hlk hK hH (⟨trivial, rfl, hF⟩) (Nat.le_of_ble_eq_true rfl) (Nat.le_of_ble_eq_true rfl) dX8_giveDefence_11
set_option maxHeartbeats 4000000 in
set_option maxRecDepth 100000 in
theorem c_X8_presentOne {l : Launch} {D : va_G} {kA : Nat → ClassId} {M : mM} {T : mT} {sz : Nat} {w cs bs tp : Nat} {td gd bc py rf lt tl fp : Int32} {g : Nat → Option Nat} {b : Int32} (hc_w : M w = some (.inr (6, [.int td, .int gd, .int bc, .int py, .int rf, .int lt, .int tl, .int fp, .ref cs, .ref bs, .ref tp]))) (hn_w : T w = none) (hc_bs : M bs = some (.inl (kA 5, 4, .inr (.inr (.inr (.inr g)))))) (ht_cs : T cs = some 3) (ht_bs : T bs = some 6) (ht_tp : T tp = some 7) (htd : 0 ≤ td.toInt ∧ td.toInt ≤ 999) (hbc : 0 ≤ bc.toInt ∧ bc.toInt ≤ 4) (htl : 0 ≤ tl.toInt ∧ tl.toInt ≤ 600) (hg : ∀ j, j < 4 → ∃ q, g j = some q ∧ T q = some 2) : mCi l yX8_presentOne cX8_presentOne 3 (some .int) 4 0 0 D kA M T sz [.ref w, .int b] (fun r u => ∃ py2 : Int32, ((-2147483648 : Int) ≤ py2.toInt ∧ py2.toInt ≤ 2147483647) ∧ (u.1 w = some (.inr (6, [.int td, .int gd, .int bc, .int py2, .int rf, .int lt, .int tl, .int fp, .ref cs, .ref bs, .ref tp]))) ∧ u.2 = T ∧ (∀ q, FrA T q → q ≠ w → u.1 q = M q)) := by
  unfold mCi
  refine start_W (by decide) (Nat.le_of_ble_eq_true rfl) ?_
  intro p e s m below meth c ls hC hr hlk hnm hK hH hsz hl
  have hx := hC.1
  have hb := hC.2.1
  have hl : lv_has ls 3 [(0, .ref w), (1, .int b)] := hl
  have hF : ∀ q, FrA T q → q ≠ w → M q = M q := fun q _ _ => rfl
  have n_w_bs : w ≠ bs := neM hc_w hc_bs (by simp)
  have n_bs_w : bs ≠ w := neM hc_bs hc_w (by simp)
  refine lv_aload_n hx hb dX8_presentOne_0 rfl (lv_at hl 0 rfl) ?_
  refine lv_iload_n hx hb dX8_presentOne_1 rfl (lv_at hl 1 rfl) ?_
  refine goI hK hH (runV (As := [.int b]) (rest := []) hC hK hH (c_X8_hasBill hc_w hn_w hc_bs ht_cs ht_bs ht_tp (by omega) (by omega) (by omega) hg) mlX8_68 (rcvM hK hH hc_w rfl) ⟨⟨Nat.le_of_ble_eq_true rfl, Nat.le_of_ble_eq_true rfl⟩, Nat.le_of_ble_eq_true rfl, Nat.le_of_ble_eq_true rfl⟩ rfl hl.1 rfl (Nat.le_of_ble_eq_true rfl) dX8_presentOne_2) (fun rq3_ Mq1_ Tq2_ Hq_ lcq_ hP hz hH => ?_)
  try dsimp only at hP
  obtain ⟨(⟨cq4_, er_rq3_⟩ | er_rq3_), eT, eM⟩ := hP
  · skip
    have eT := eT.symm; subst eT
    have er_rq3_ := er_rq3_.symm; subst er_rq3_
    have eM := eM.symm; subst eM
    have cq4_ : 0 ≤ b.toInt ∧ b.toInt ≤ 3 := cq4_
    refine jif_ne (tgt := 11) hx hb dX8_presentOne_5 (by decide) (fun cq5_ => ?_) (fun cq5_ => absurd cq5_ (by decide))
    refine lv_aload_n hx hb dX8_presentOne_11 rfl (lv_at hl 0 rfl) ?_
    refine xg hC hK hH flX8_17 hc_w rfl dX8_presentOne_12 ?_
    refine lv_iload_n hx hb dX8_presentOne_15 rfl (lv_at hl 1 rfl) ?_
    refine xqld (ck := 5) hC hK hH rfl hc_bs (iIn (by omega) (by omega)) dX8_presentOne_16 ?_
    obtain ⟨qq6_, e_qq6_, t_qq6_⟩ := hg (Int32.toNatClampNeg b) (by have := iCl (x := b) (by omega); omega)
    refine lv_qr e_qq6_ ?_
    refine lv_astore_n (lv' := [(2, .ref qq6_), (0, .ref w), (1, .int b)]) hx hb dX8_presentOne_17 rfl hl (by decide) rfl (fun ls hl => ?_)
    refine lv_aload_n hx hb dX8_presentOne_18 rfl (lv_at hl 1 rfl) ?_
    refine xg hC hK hH flX8_29 hc_w rfl dX8_presentOne_19 ?_
    refine lv_aload_n hx hb dX8_presentOne_22 rfl (lv_at hl 0 rfl) ?_
    refine tg hC hK hH flX8_103 t_qq6_ rfl rfl dX8_presentOne_23 (fun xq7_ l_xq7_ g_xq7_ => ?_)
    refine jic_lt (tgt := 51) hx hb dX8_presentOne_26 (by decide) (fun cq8_ => ?_) (fun cq8_ => ?_)
    · skip
      have cq8_ : td.toInt < xq7_.toInt := cq8_
      refine lv_bipush (v := 31) hx hb dX8_presentOne_51 (by decide) ?_
      exact ret_i hC hr hlk hK hH (⟨py, iRg _, hc_w, rfl, hF⟩) (Nat.le_of_ble_eq_true rfl) (Nat.le_of_ble_eq_true rfl) dX8_presentOne_53
    · skip
      have cq8_ : xq7_.toInt ≤ td.toInt := cq8_
      refine lv_aload_n hx hb dX8_presentOne_29 rfl (lv_at hl 0 rfl) ?_
      refine tg hC hK hH flX8_90 t_qq6_ rfl rfl dX8_presentOne_30 (fun xq9_ l_xq9_ g_xq9_ => ?_)
      have l_xq9_ : (0 : Int) ≤ xq9_.toInt := l_xq9_
      have g_xq9_ : xq9_.toInt ≤ 1 := g_xq9_
      refine jif_ne (tgt := 51) hx hb dX8_presentOne_33 (by decide) (fun cq10_ => ?_) (fun cq10_ => ?_)
      · skip
        have cq10_ : xq9_.toInt ≠ 0 := cq10_
        refine lv_bipush (v := 31) hx hb dX8_presentOne_51 (by decide) ?_
        exact ret_i hC hr hlk hK hH (⟨py, iRg _, hc_w, rfl, hF⟩) (Nat.le_of_ble_eq_true rfl) (Nat.le_of_ble_eq_true rfl) dX8_presentOne_53
      · skip
        have cq10_ : xq9_.toInt = 0 := cq10_
        refine lv_aload_n hx hb dX8_presentOne_36 rfl (lv_at hl 0 rfl) ?_
        refine tg hC hK hH flX8_83 t_qq6_ rfl rfl dX8_presentOne_37 (fun xq11_ l_xq11_ g_xq11_ => ?_)
        refine lv_iconst (v := -1) hx hb dX8_presentOne_40 (by decide) ?_
        refine jic_ne (tgt := 51) hx hb dX8_presentOne_41 (by decide) (fun cq12_ => ?_) (fun cq12_ => ?_)
        · skip
          have cq12_ : xq11_.toInt ≠ (-1) := cq12_
          refine lv_bipush (v := 31) hx hb dX8_presentOne_51 (by decide) ?_
          exact ret_i hC hr hlk hK hH (⟨py, iRg _, hc_w, rfl, hF⟩) (Nat.le_of_ble_eq_true rfl) (Nat.le_of_ble_eq_true rfl) dX8_presentOne_53
        · skip
          have cq12_ : xq11_.toInt = (-1) := cq12_
          refine lv_aload_n hx hb dX8_presentOne_44 rfl (lv_at hl 0 rfl) ?_
          refine goI hK hH (runV (As := []) (rest := []) hC hK hH (c_X1_hasTitle t_qq6_) mlX8_144 (rcvT hK hH t_qq6_ rfl rfl) ⟨⟨Nat.le_of_ble_eq_true rfl, Nat.le_of_ble_eq_true rfl⟩, Nat.le_of_ble_eq_true rfl, Nat.le_of_ble_eq_true rfl⟩ rfl hl.1 rfl (Nat.le_of_ble_eq_true rfl) dX8_presentOne_45) (fun rq15_ Mq13_ Tq14_ Hq_ lcq_ hP hz hH => ?_)
          try dsimp only at hP
          obtain ⟨(er_rq15_ | er_rq15_), eT, eM⟩ := hP
          · skip
            have eT := eT.symm; subst eT
            have er_rq15_ := er_rq15_.symm; subst er_rq15_
            have eM := eM.symm; subst eM
            refine jif_ne (tgt := 54) hx hb dX8_presentOne_48 (by decide) (fun cq16_ => ?_) (fun cq16_ => absurd cq16_ (by decide))
            refine lv_aload_n hx hb dX8_presentOne_54 rfl (lv_at hl 0 rfl) ?_
            refine lv_iconst (v := 0) hx hb dX8_presentOne_55 (by decide) ?_
            refine lv_aload_n hx hb dX8_presentOne_56 rfl (lv_at hl 1 rfl) ?_
            refine xg hC hK hH flX8_9 hc_w rfl dX8_presentOne_57 ?_
            refine goI hK hH (runV (As := [.int 0, .ref cs]) (rest := []) hC hK hH (c_X1_hasCash t_qq6_ ht_cs) mlX8_148 (rcvT hK hH t_qq6_ rfl rfl) ⟨⟨Nat.le_of_ble_eq_true rfl, Nat.le_of_ble_eq_true rfl⟩, Nat.le_of_ble_eq_true rfl, Nat.le_of_ble_eq_true rfl⟩ rfl hl.1 rfl (Nat.le_of_ble_eq_true rfl) dX8_presentOne_60) (fun rq19_ Mq17_ Tq18_ Hq_ lcq_ hP hz hH => ?_)
            try dsimp only at hP
            obtain ⟨(er_rq19_ | er_rq19_), eT, eM⟩ := hP
            · skip
              have eT := eT.symm; subst eT
              have er_rq19_ := er_rq19_.symm; subst er_rq19_
              have eM := eM.symm; subst eM
              refine jif_eq (tgt := 99) hx hb dX8_presentOne_63 (by decide) (fun cq20_ => absurd cq20_ (by decide)) (fun cq20_ => ?_)
              refine lv_aload_n hx hb dX8_presentOne_66 rfl (lv_at hl 0 rfl) ?_
              refine lv_iconst (v := 0) hx hb dX8_presentOne_67 (by decide) ?_
              refine lv_aload_n hx hb dX8_presentOne_68 rfl (lv_at hl 1 rfl) ?_
              refine xg hC hK hH flX8_29 hc_w rfl dX8_presentOne_69 ?_
              refine goI hK hH (runV (As := [.int 0, .int td]) (rest := []) hC hK hH (c_X1_whyNot t_qq6_ (by decide)) mlX8_152 (rcvT hK hH t_qq6_ rfl rfl) ⟨⟨Nat.le_of_ble_eq_true rfl, Nat.le_of_ble_eq_true rfl⟩, Nat.le_of_ble_eq_true rfl, Nat.le_of_ble_eq_true rfl⟩ rfl hl.1 rfl (Nat.le_of_ble_eq_true rfl) dX8_presentOne_72) (fun rq23_ Mq21_ Tq22_ Hq_ lcq_ hP hz hH => ?_)
              try dsimp only at hP
              obtain ⟨(-), eT, eM⟩ := hP
              have eT := eT.symm; subst eT
              have eM := eM.symm; subst eM
              refine jif_ne (tgt := 99) hx hb dX8_presentOne_75 (by decide) (fun cq24_ => ?_) (fun cq24_ => ?_)
              · skip
                have cq24_ : rq23_.toInt ≠ 0 := cq24_
                refine lv_aload_n hx hb dX8_presentOne_99 rfl (lv_at hl 0 rfl) ?_
                refine lv_aload_n hx hb dX8_presentOne_100 rfl (lv_at hl 1 rfl) ?_
                refine xg hC hK hH flX8_29 hc_w rfl dX8_presentOne_101 ?_
                obtain ⟨Mq25_, fsq26_, hc_qq6_, hfr, ho_qq6_, hH⟩ := hH.unt t_qq6_ rfl
                obtain ⟨xq27_, hl_xq27_, xq28_, hl_xq28_, xq29_, hl_xq29_, xq30_, hl_xq30_, xq31_, hl_xq31_, xq32_, hl_xq32_, xq33_, hl_xq33_, xq34_, hl_xq34_, xq35_, hl_xq35_, xq36_, hl_xq36_, xq37_, hl_xq37_, xq38_, hl_xq38_, qq39_, hl_qq39_, qq40_, hl_qq40_, qq41_, hl_qq41_, qq42_, hl_qq42_, qq43_, hl_qq43_, qq44_, hl_qq44_, qq45_, hl_qq45_, e_fsq26_⟩ := op2  ho_qq6_
                subst e_fsq26_
                have l_xq27_ : (-2147483648 : Int) ≤ xq27_.toInt := hl_xq27_.1
                have g_xq27_ : xq27_.toInt ≤ 2147483647 := hl_xq27_.2
                have l_xq28_ : (-2147483648 : Int) ≤ xq28_.toInt := hl_xq28_.1
                have g_xq28_ : xq28_.toInt ≤ 2147483647 := hl_xq28_.2
                have l_xq29_ : (-2147483648 : Int) ≤ xq29_.toInt := hl_xq29_.1
                have g_xq29_ : xq29_.toInt ≤ 2147483647 := hl_xq29_.2
                have l_xq30_ : (-2147483648 : Int) ≤ xq30_.toInt := hl_xq30_.1
                have g_xq30_ : xq30_.toInt ≤ 2147483647 := hl_xq30_.2
                have l_xq31_ : (-2147483648 : Int) ≤ xq31_.toInt := hl_xq31_.1
                have g_xq31_ : xq31_.toInt ≤ 2147483647 := hl_xq31_.2
                have l_xq32_ : (0 : Int) ≤ xq32_.toInt := hl_xq32_.1
                have g_xq32_ : xq32_.toInt ≤ 7 := hl_xq32_.2
                have l_xq33_ : (-2147483648 : Int) ≤ xq33_.toInt := hl_xq33_.1
                have g_xq33_ : xq33_.toInt ≤ 2147483647 := hl_xq33_.2
                have l_xq34_ : (0 : Int) ≤ xq34_.toInt := hl_xq34_.1
                have g_xq34_ : xq34_.toInt ≤ 12 := hl_xq34_.2
                have l_xq35_ : (0 : Int) ≤ xq35_.toInt := hl_xq35_.1
                have g_xq35_ : xq35_.toInt ≤ 12 := hl_xq35_.2
                have l_xq36_ : (0 : Int) ≤ xq36_.toInt := hl_xq36_.1
                have g_xq36_ : xq36_.toInt ≤ 1 := hl_xq36_.2
                have l_xq37_ : (0 : Int) ≤ xq37_.toInt := hl_xq37_.1
                have g_xq37_ : xq37_.toInt ≤ 1 := hl_xq37_.2
                have l_xq38_ : (0 : Int) ≤ xq38_.toInt := hl_xq38_.1
                have g_xq38_ : xq38_.toInt ≤ 1 := hl_xq38_.2
                have t_qq39_ := hl_qq39_
                have t_qq40_ := hl_qq40_
                have t_qq41_ := hl_qq41_
                have t_qq42_ := hl_qq42_
                have t_qq43_ := hl_qq43_
                have t_qq44_ := hl_qq44_
                have t_qq45_ := hl_qq45_
                have hc_w : Mq25_ w = some (.inr (6, [.int td, .int gd, .int bc, .int py, .int rf, .int lt, .int tl, .int fp, .ref cs, .ref bs, .ref tp])) := (hfr w (neA (Or.inl hn_w) t_qq6_ (by decide))).trans hc_w
                have hc_bs : Mq25_ bs = some (.inl (kA 5, 4, .inr (.inr (.inr (.inr g))))) := (hfr bs (neA (Or.inr ht_bs) t_qq6_ (by decide))).trans hc_bs
                have n_w_qq6_ : w ≠ qq6_ := (neA (Or.inl hn_w) t_qq6_ (by decide))
                have n_qq6__w : qq6_ ≠ w := Ne.symm n_w_qq6_
                have n_bs_qq6_ : bs ≠ qq6_ := (neA (Or.inr ht_bs) t_qq6_ (by decide))
                have n_qq6__bs : qq6_ ≠ bs := Ne.symm n_bs_qq6_
                have hc_qq6_ : Mq25_ qq6_ = some (.inr (0, [.int xq27_, .int xq28_, .int xq29_, .int xq30_, .int xq31_, .int xq32_, .int xq33_, .int xq34_, .int xq35_, .int xq36_, .int xq37_, .int xq38_, .ref qq39_, .ref qq40_, .ref qq41_, .ref qq42_, .ref qq43_, .ref qq44_, .ref qq45_])) := hc_qq6_
                have hF : ∀ q, FrA T q → q ≠ w → Mq25_ q = M q := fun q hq h0 => (hfr q (neA hq t_qq6_ (by decide))).trans (hF q hq h0)
                refine yp (v := .int td) hC hK hH flX8_83 hc_qq6_ (hasT t_qq6_ (conf_set rfl ho_qq6_ (show (_ : List fS)[6]? = some _ from rfl) (okI (iRg _).1 (iRg _).2))) rfl rfl (Nat.le_of_ble_eq_true rfl) dX8_presentOne_104 (fun Hq_ lcq_ Mq46_ hc_qq6_ hfr hH => ?_)
                have ho_qq6_ : conf kA T 2 (.inr (0, [.int xq27_, .int xq28_, .int xq29_, .int xq30_, .int xq31_, .int xq32_, .int td, .int xq34_, .int xq35_, .int xq36_, .int xq37_, .int xq38_, .ref qq39_, .ref qq40_, .ref qq41_, .ref qq42_, .ref qq43_, .ref qq44_, .ref qq45_])) := conf_set rfl ho_qq6_ (show (_ : List fS)[6]? = some _ from rfl) (okI (iRg _).1 (iRg _).2)
                have hc_qq6_ : Mq46_ qq6_ = some (.inr (0, [.int xq27_, .int xq28_, .int xq29_, .int xq30_, .int xq31_, .int xq32_, .int td, .int xq34_, .int xq35_, .int xq36_, .int xq37_, .int xq38_, .ref qq39_, .ref qq40_, .ref qq41_, .ref qq42_, .ref qq43_, .ref qq44_, .ref qq45_])) := hc_qq6_
                have hc_w : Mq46_ w = some (.inr (6, [.int td, .int gd, .int bc, .int py, .int rf, .int lt, .int tl, .int fp, .ref cs, .ref bs, .ref tp])) := (hfr w n_w_qq6_).trans hc_w
                have hc_bs : Mq46_ bs = some (.inl (kA 5, 4, .inr (.inr (.inr (.inr g))))) := (hfr bs n_bs_qq6_).trans hc_bs
                have hF : ∀ q, FrA T q → q ≠ w → Mq46_ q = M q := fun q hq h0 => (hfr q (neA hq t_qq6_ (by decide))).trans (hF q hq h0)
                refine lv_iconst (v := 1) hx hb dX8_presentOne_107 (by decide) ?_
                exact ret_i hC hr hlk hK hH (⟨py, iRg _, hc_w, rfl, hF⟩) (Nat.le_of_ble_eq_true rfl) (Nat.le_of_ble_eq_true rfl) dX8_presentOne_108
              · skip
                have cq24_ : rq23_.toInt = 0 := cq24_
                refine lv_aload_n hx hb dX8_presentOne_78 rfl (lv_at hl 0 rfl) ?_
                refine lv_iconst (v := 0) hx hb dX8_presentOne_79 (by decide) ?_
                refine lv_aload_n hx hb dX8_presentOne_80 rfl (lv_at hl 1 rfl) ?_
                refine xg hC hK hH flX8_9 hc_w rfl dX8_presentOne_81 ?_
                refine goV hK hH (runV (As := [.int 0, .ref cs]) (rest := []) hC hK hH (c_X1_settle t_qq6_ ht_cs (by decide)) mlX8_156 (rcvT hK hH t_qq6_ rfl rfl) ⟨⟨Nat.le_of_ble_eq_true rfl, Nat.le_of_ble_eq_true rfl⟩, Nat.le_of_ble_eq_true rfl, Nat.le_of_ble_eq_true rfl⟩ rfl hl.1 rfl (Nat.le_of_ble_eq_true rfl) dX8_presentOne_84) (fun Mq47_ Tq48_ Hq_ lcq_ hP hz hH => ?_)
                try dsimp only at hP
                obtain ⟨(-), eT, hfr⟩ := hP
                have eT := eT.symm; subst eT
                have hc_w : Mq47_ w = some (.inr (6, [.int td, .int gd, .int bc, .int py, .int rf, .int lt, .int tl, .int fp, .ref cs, .ref bs, .ref tp])) := (hfr w (Or.inl hn_w) ).trans hc_w
                have hc_bs : Mq47_ bs = some (.inl (kA 5, 4, .inr (.inr (.inr (.inr g))))) := (hfr bs (Or.inr ht_bs) ).trans hc_bs
                have hF : ∀ q, FrA T q → q ≠ w → Mq47_ q = M q := fun q hq h0 => (hfr q hq ).trans (hF q hq h0)
                refine lv_aload_n hx hb dX8_presentOne_87 rfl (lv_at hl 1 rfl) ?_
                refine lv_dup hx hb dX8_presentOne_88 rfl ?_
                refine xg hC hK hH flX8_39 hc_w rfl dX8_presentOne_89 ?_
                refine lv_iconst (v := 1) hx hb dX8_presentOne_92 (by decide) ?_
                refine lv_iadd hx hb dX8_presentOne_93 ?_
                refine lv_topi (fun zq50_ e_zq50_ => ?_)
                refine yp (v := .int zq50_) hC hK hH flX8_39 hc_w (noT hn_w) rfl rfl (Nat.le_of_ble_eq_true rfl) dX8_presentOne_94 (fun Hq_ lcq_ Mq51_ hc_w hfr hH => ?_)
                have hc_w : Mq51_ w = some (.inr (6, [.int td, .int gd, .int bc, .int zq50_, .int rf, .int lt, .int tl, .int fp, .ref cs, .ref bs, .ref tp])) := hc_w
                have hc_bs : Mq51_ bs = some (.inl (kA 5, 4, .inr (.inr (.inr (.inr g))))) := (hfr bs n_bs_w).trans hc_bs
                have hF : ∀ q, FrA T q → q ≠ w → Mq51_ q = M q := fun q hq h0 => (hfr q h0).trans (hF q hq h0)
                refine lv_iconst (v := 0) hx hb dX8_presentOne_97 (by decide) ?_
                exact ret_i hC hr hlk hK hH (⟨zq50_, iRg _, hc_w, rfl, hF⟩) (Nat.le_of_ble_eq_true rfl) (Nat.le_of_ble_eq_true rfl) dX8_presentOne_98
            · skip
              have eT := eT.symm; subst eT
              have er_rq19_ := er_rq19_.symm; subst er_rq19_
              have eM := eM.symm; subst eM
              refine jif_eq (tgt := 99) hx hb dX8_presentOne_63 (by decide) (fun cq52_ => ?_) (fun cq52_ => absurd cq52_ (by decide))
              refine lv_aload_n hx hb dX8_presentOne_99 rfl (lv_at hl 0 rfl) ?_
              refine lv_aload_n hx hb dX8_presentOne_100 rfl (lv_at hl 1 rfl) ?_
              refine xg hC hK hH flX8_29 hc_w rfl dX8_presentOne_101 ?_
              obtain ⟨Mq53_, fsq54_, hc_qq6_, hfr, ho_qq6_, hH⟩ := hH.unt t_qq6_ rfl
              obtain ⟨xq55_, hl_xq55_, xq56_, hl_xq56_, xq57_, hl_xq57_, xq58_, hl_xq58_, xq59_, hl_xq59_, xq60_, hl_xq60_, xq61_, hl_xq61_, xq62_, hl_xq62_, xq63_, hl_xq63_, xq64_, hl_xq64_, xq65_, hl_xq65_, xq66_, hl_xq66_, qq67_, hl_qq67_, qq68_, hl_qq68_, qq69_, hl_qq69_, qq70_, hl_qq70_, qq71_, hl_qq71_, qq72_, hl_qq72_, qq73_, hl_qq73_, e_fsq54_⟩ := op2  ho_qq6_
              subst e_fsq54_
              have l_xq55_ : (-2147483648 : Int) ≤ xq55_.toInt := hl_xq55_.1
              have g_xq55_ : xq55_.toInt ≤ 2147483647 := hl_xq55_.2
              have l_xq56_ : (-2147483648 : Int) ≤ xq56_.toInt := hl_xq56_.1
              have g_xq56_ : xq56_.toInt ≤ 2147483647 := hl_xq56_.2
              have l_xq57_ : (-2147483648 : Int) ≤ xq57_.toInt := hl_xq57_.1
              have g_xq57_ : xq57_.toInt ≤ 2147483647 := hl_xq57_.2
              have l_xq58_ : (-2147483648 : Int) ≤ xq58_.toInt := hl_xq58_.1
              have g_xq58_ : xq58_.toInt ≤ 2147483647 := hl_xq58_.2
              have l_xq59_ : (-2147483648 : Int) ≤ xq59_.toInt := hl_xq59_.1
              have g_xq59_ : xq59_.toInt ≤ 2147483647 := hl_xq59_.2
              have l_xq60_ : (0 : Int) ≤ xq60_.toInt := hl_xq60_.1
              have g_xq60_ : xq60_.toInt ≤ 7 := hl_xq60_.2
              have l_xq61_ : (-2147483648 : Int) ≤ xq61_.toInt := hl_xq61_.1
              have g_xq61_ : xq61_.toInt ≤ 2147483647 := hl_xq61_.2
              have l_xq62_ : (0 : Int) ≤ xq62_.toInt := hl_xq62_.1
              have g_xq62_ : xq62_.toInt ≤ 12 := hl_xq62_.2
              have l_xq63_ : (0 : Int) ≤ xq63_.toInt := hl_xq63_.1
              have g_xq63_ : xq63_.toInt ≤ 12 := hl_xq63_.2
              have l_xq64_ : (0 : Int) ≤ xq64_.toInt := hl_xq64_.1
              have g_xq64_ : xq64_.toInt ≤ 1 := hl_xq64_.2
              have l_xq65_ : (0 : Int) ≤ xq65_.toInt := hl_xq65_.1
              have g_xq65_ : xq65_.toInt ≤ 1 := hl_xq65_.2
              have l_xq66_ : (0 : Int) ≤ xq66_.toInt := hl_xq66_.1
              have g_xq66_ : xq66_.toInt ≤ 1 := hl_xq66_.2
              have t_qq67_ := hl_qq67_
              have t_qq68_ := hl_qq68_
              have t_qq69_ := hl_qq69_
              have t_qq70_ := hl_qq70_
              have t_qq71_ := hl_qq71_
              have t_qq72_ := hl_qq72_
              have t_qq73_ := hl_qq73_
              have hc_w : Mq53_ w = some (.inr (6, [.int td, .int gd, .int bc, .int py, .int rf, .int lt, .int tl, .int fp, .ref cs, .ref bs, .ref tp])) := (hfr w (neA (Or.inl hn_w) t_qq6_ (by decide))).trans hc_w
              have hc_bs : Mq53_ bs = some (.inl (kA 5, 4, .inr (.inr (.inr (.inr g))))) := (hfr bs (neA (Or.inr ht_bs) t_qq6_ (by decide))).trans hc_bs
              have n_w_qq6_ : w ≠ qq6_ := (neA (Or.inl hn_w) t_qq6_ (by decide))
              have n_qq6__w : qq6_ ≠ w := Ne.symm n_w_qq6_
              have n_bs_qq6_ : bs ≠ qq6_ := (neA (Or.inr ht_bs) t_qq6_ (by decide))
              have n_qq6__bs : qq6_ ≠ bs := Ne.symm n_bs_qq6_
              have hc_qq6_ : Mq53_ qq6_ = some (.inr (0, [.int xq55_, .int xq56_, .int xq57_, .int xq58_, .int xq59_, .int xq60_, .int xq61_, .int xq62_, .int xq63_, .int xq64_, .int xq65_, .int xq66_, .ref qq67_, .ref qq68_, .ref qq69_, .ref qq70_, .ref qq71_, .ref qq72_, .ref qq73_])) := hc_qq6_
              have hF : ∀ q, FrA T q → q ≠ w → Mq53_ q = M q := fun q hq h0 => (hfr q (neA hq t_qq6_ (by decide))).trans (hF q hq h0)
              refine yp (v := .int td) hC hK hH flX8_83 hc_qq6_ (hasT t_qq6_ (conf_set rfl ho_qq6_ (show (_ : List fS)[6]? = some _ from rfl) (okI (iRg _).1 (iRg _).2))) rfl rfl (Nat.le_of_ble_eq_true rfl) dX8_presentOne_104 (fun Hq_ lcq_ Mq74_ hc_qq6_ hfr hH => ?_)
              have ho_qq6_ : conf kA T 2 (.inr (0, [.int xq55_, .int xq56_, .int xq57_, .int xq58_, .int xq59_, .int xq60_, .int td, .int xq62_, .int xq63_, .int xq64_, .int xq65_, .int xq66_, .ref qq67_, .ref qq68_, .ref qq69_, .ref qq70_, .ref qq71_, .ref qq72_, .ref qq73_])) := conf_set rfl ho_qq6_ (show (_ : List fS)[6]? = some _ from rfl) (okI (iRg _).1 (iRg _).2)
              have hc_qq6_ : Mq74_ qq6_ = some (.inr (0, [.int xq55_, .int xq56_, .int xq57_, .int xq58_, .int xq59_, .int xq60_, .int td, .int xq62_, .int xq63_, .int xq64_, .int xq65_, .int xq66_, .ref qq67_, .ref qq68_, .ref qq69_, .ref qq70_, .ref qq71_, .ref qq72_, .ref qq73_])) := hc_qq6_
              have hc_w : Mq74_ w = some (.inr (6, [.int td, .int gd, .int bc, .int py, .int rf, .int lt, .int tl, .int fp, .ref cs, .ref bs, .ref tp])) := (hfr w n_w_qq6_).trans hc_w
              have hc_bs : Mq74_ bs = some (.inl (kA 5, 4, .inr (.inr (.inr (.inr g))))) := (hfr bs n_bs_qq6_).trans hc_bs
              have hF : ∀ q, FrA T q → q ≠ w → Mq74_ q = M q := fun q hq h0 => (hfr q (neA hq t_qq6_ (by decide))).trans (hF q hq h0)
              refine lv_iconst (v := 1) hx hb dX8_presentOne_107 (by decide) ?_
              exact ret_i hC hr hlk hK hH (⟨py, iRg _, hc_w, rfl, hF⟩) (Nat.le_of_ble_eq_true rfl) (Nat.le_of_ble_eq_true rfl) dX8_presentOne_108
          · skip
            have eT := eT.symm; subst eT
            have er_rq15_ := er_rq15_.symm; subst er_rq15_
            have eM := eM.symm; subst eM
            refine jif_ne (tgt := 54) hx hb dX8_presentOne_48 (by decide) (fun cq75_ => absurd cq75_ (by decide)) (fun cq75_ => ?_)
            refine lv_bipush (v := 31) hx hb dX8_presentOne_51 (by decide) ?_
            exact ret_i hC hr hlk hK hH (⟨py, iRg _, hc_w, rfl, hF⟩) (Nat.le_of_ble_eq_true rfl) (Nat.le_of_ble_eq_true rfl) dX8_presentOne_53
  · skip
    have eT := eT.symm; subst eT
    have er_rq3_ := er_rq3_.symm; subst er_rq3_
    have eM := eM.symm; subst eM
    refine jif_ne (tgt := 11) hx hb dX8_presentOne_5 (by decide) (fun cq76_ => absurd cq76_ (by decide)) (fun cq76_ => ?_)
    refine lv_bipush (v := 30) hx hb dX8_presentOne_8 (by decide) ?_
    exact ret_i hC hr hlk hK hH (⟨py, iRg _, hc_w, rfl, hF⟩) (Nat.le_of_ble_eq_true rfl) (Nat.le_of_ble_eq_true rfl) dX8_presentOne_10
set_option maxHeartbeats 4000000 in
set_option maxRecDepth 100000 in
theorem c_X8_giveNotice {l : Launch} {D : va_G} {kA : Nat → ClassId} {M : mM} {T : mT} {sz : Nat} {w cs bs tp : Nat} {td gd bc py rf lt tl fp : Int32} {g : Nat → Option Nat} {b fr to : Int32} (hc_w : M w = some (.inr (6, [.int td, .int gd, .int bc, .int py, .int rf, .int lt, .int tl, .int fp, .ref cs, .ref bs, .ref tp]))) (hn_w : T w = none) (hc_bs : M bs = some (.inl (kA 5, 4, .inr (.inr (.inr (.inr g)))))) (ht_cs : T cs = some 3) (ht_bs : T bs = some 6) (ht_tp : T tp = some 7) (htd : 0 ≤ td.toInt ∧ td.toInt ≤ 999) (hbc : 0 ≤ bc.toInt ∧ bc.toInt ≤ 4) (htl : 0 ≤ tl.toInt ∧ tl.toInt ≤ 600) (hg : ∀ j, j < 4 → ∃ q, g j = some q ∧ T q = some 2) : mCi l yX8_giveNotice cX8_giveNotice 5 (some .int) 3 0 0 D kA M T sz [.ref w, .int b, .int fr, .int to] (fun r u => (True) ∧ u.2 = T ∧ (∀ q, FrK T q → u.1 q = M q)) := by
  unfold mCi
  refine start_W (by decide) (Nat.le_of_ble_eq_true rfl) ?_
  intro p e s m below meth c ls hC hr hlk hnm hK hH hsz hl
  have hx := hC.1
  have hb := hC.2.1
  have hl : lv_has ls 5 [(0, .ref w), (1, .int b), (2, .int fr), (3, .int to)] := hl
  have hF : ∀ q, FrK T q → M q = M q := fun q _  => rfl
  have n_w_bs : w ≠ bs := neM hc_w hc_bs (by simp)
  have n_bs_w : bs ≠ w := neM hc_bs hc_w (by simp)
  refine lv_iload_n hx hb dX8_giveNotice_0 rfl (lv_at hl 3 rfl) ?_
  refine lv_iconst (v := 1) hx hb dX8_giveNotice_1 (by decide) ?_
  refine jic_lt (tgt := 28) hx hb dX8_giveNotice_2 (by decide) (fun cq1_ => ?_) (fun cq1_ => ?_)
  · skip
    have cq1_ : to.toInt < 1 := cq1_
    refine lv_bipush (v := 30) hx hb dX8_giveNotice_28 (by decide) ?_
    exact ret_i hC hr hlk hK hH (⟨trivial, rfl, hF⟩) (Nat.le_of_ble_eq_true rfl) (Nat.le_of_ble_eq_true rfl) dX8_giveNotice_30
  · skip
    have cq1_ : 1 ≤ to.toInt := cq1_
    refine lv_aload_n hx hb dX8_giveNotice_5 rfl (lv_at hl 0 rfl) ?_
    refine lv_iload_n hx hb dX8_giveNotice_6 rfl (lv_at hl 1 rfl) ?_
    refine lv_iload_n hx hb dX8_giveNotice_7 rfl (lv_at hl 3 rfl) ?_
    refine goI hK hH (runV (As := [.int b, .int to]) (rest := []) hC hK hH (c_X8_hasSigner hc_w hn_w hc_bs ht_cs ht_bs ht_tp (by omega) (by omega) (by omega) hg) mlX8_138 (rcvM hK hH hc_w rfl) ⟨⟨Nat.le_of_ble_eq_true rfl, Nat.le_of_ble_eq_true rfl⟩, Nat.le_of_ble_eq_true rfl, Nat.le_of_ble_eq_true rfl⟩ rfl hl.1 rfl (Nat.le_of_ble_eq_true rfl) dX8_giveNotice_8) (fun rq4_ Mq2_ Tq3_ Hq_ lcq_ hP hz hH => ?_)
    try dsimp only at hP
    obtain ⟨(⟨cq5_, er_rq4_⟩ | er_rq4_), eT, eM⟩ := hP
    · skip
      have eT := eT.symm; subst eT
      have er_rq4_ := er_rq4_.symm; subst er_rq4_
      have eM := eM.symm; subst eM
      have cq5_ : 0 ≤ b.toInt ∧ b.toInt ≤ 3 ∧ 0 ≤ to.toInt ∧ to.toInt ≤ 13 := cq5_
      refine jif_eq (tgt := 28) hx hb dX8_giveNotice_11 (by decide) (fun cq6_ => absurd cq6_ (by decide)) (fun cq6_ => ?_)
      refine lv_iload_n hx hb dX8_giveNotice_14 rfl (lv_at hl 2 rfl) ?_
      refine lv_iconst (v := -1) hx hb dX8_giveNotice_15 (by decide) ?_
      refine jic_eq (tgt := 31) hx hb dX8_giveNotice_16 (by decide) (fun cq7_ => ?_) (fun cq7_ => ?_)
      · skip
        have cq7_ : fr.toInt = (-1) := cq7_
        refine lv_aload_n hx hb dX8_giveNotice_31 rfl (lv_at hl 0 rfl) ?_
        refine xg hC hK hH flX8_17 hc_w rfl dX8_giveNotice_32 ?_
        refine lv_iload_n hx hb dX8_giveNotice_35 rfl (lv_at hl 1 rfl) ?_
        refine xqld (ck := 5) hC hK hH rfl hc_bs (iIn (by omega) (by omega)) dX8_giveNotice_36 ?_
        obtain ⟨qq8_, e_qq8_, t_qq8_⟩ := hg (Int32.toNatClampNeg b) (by have := iCl (x := b) (by omega); omega)
        refine lv_qr e_qq8_ ?_
        refine lv_astore (lv' := [(4, .ref qq8_), (0, .ref w), (1, .int b), (2, .int fr), (3, .int to)]) hx hb dX8_giveNotice_37 hl (by decide) rfl (fun ls hl => ?_)
        refine lv_iload_n hx hb dX8_giveNotice_39 rfl (lv_at hl 4 rfl) ?_
        refine lv_iload_n hx hb dX8_giveNotice_40 rfl (lv_at hl 3 rfl) ?_
        refine lv_iconst (v := -1) hx hb dX8_giveNotice_41 (by decide) ?_
        refine jic_ne (tgt := 53) hx hb dX8_giveNotice_42 (by decide) (fun cq9_ => absurd cq9_ (by have := iRg fr; have : (-1 : Int32).toInt = -1 := rfl; omega)) (fun cq9_ => ?_)
        have cq9_ : fr.toInt = (-1) := cq9_
        refine lv_aload hx hb dX8_giveNotice_45 (lv_at hl 0 rfl) ?_
        refine goI hK hH (runV (As := []) (rest := [.int to]) hC hK hH (c_X1_rank t_qq8_) mlX8_160 (rcvT hK hH t_qq8_ rfl rfl) ⟨⟨Nat.le_of_ble_eq_true rfl, Nat.le_of_ble_eq_true rfl⟩, Nat.le_of_ble_eq_true rfl, Nat.le_of_ble_eq_true rfl⟩ rfl hl.1 rfl (Nat.le_of_ble_eq_true rfl) dX8_giveNotice_47) (fun rq12_ Mq10_ Tq11_ Hq_ lcq_ hP hz hH => ?_)
        try dsimp only at hP
        obtain ⟨(⟨l_rq12_, g_rq12_⟩), eT, eM⟩ := hP
        have eT := eT.symm; subst eT
        have eM := eM.symm; subst eM
        refine lv_goto (tgt := 54) hx hb dX8_giveNotice_50 (by decide) ?_
        refine jic_lt (tgt := 60) hx hb dX8_giveNotice_54 (by decide) (fun cq13_ => ?_) (fun cq13_ => ?_)
        · skip
          have cq13_ : to.toInt < rq12_.toInt := cq13_
          refine lv_aload hx hb dX8_giveNotice_60 (lv_at hl 0 rfl) ?_
          refine tgr hC hK hH flX8_163 t_qq8_ rfl rfl dX8_giveNotice_62 (fun qq14_ t_qq14_ => ?_)
          refine lv_iload_n hx hb dX8_giveNotice_65 rfl (lv_at hl 4 rfl) ?_
          refine tild hC hK hH t_qq14_ rfl (iIn (by omega) (by omega)) dX8_giveNotice_66 (fun xq15_ l_xq15_ g_xq15_ => ?_)
          refine lv_iconst (v := -1) hx hb dX8_giveNotice_67 (by decide) ?_
          refine jic_ne (tgt := 88) hx hb dX8_giveNotice_68 (by decide) (fun cq16_ => ?_) (fun cq16_ => ?_)
          · skip
            have cq16_ : xq15_.toInt ≠ (-1) := cq16_
            refine lv_bipush (v := 31) hx hb dX8_giveNotice_88 (by decide) ?_
            exact ret_i hC hr hlk hK hH (⟨trivial, rfl, hF⟩) (Nat.le_of_ble_eq_true rfl) (Nat.le_of_ble_eq_true rfl) dX8_giveNotice_90
          · skip
            have cq16_ : xq15_.toInt = (-1) := cq16_
            refine lv_aload hx hb dX8_giveNotice_71 (lv_at hl 0 rfl) ?_
            refine lv_iload_n hx hb dX8_giveNotice_73 rfl (lv_at hl 3 rfl) ?_
            refine lv_aload_n hx hb dX8_giveNotice_74 rfl (lv_at hl 1 rfl) ?_
            refine xg hC hK hH flX8_29 hc_w rfl dX8_giveNotice_75 ?_
            refine lv_aload_n hx hb dX8_giveNotice_78 rfl (lv_at hl 1 rfl) ?_
            refine xg hC hK hH flX8_33 hc_w rfl dX8_giveNotice_79 ?_
            refine goI hK hH (runV (As := [.int fr, .int td, .int gd]) (rest := []) hC hK hH (c_X1_canTell t_qq8_ (by omega)) mlX8_166 (rcvT hK hH t_qq8_ rfl rfl) ⟨⟨Nat.le_of_ble_eq_true rfl, Nat.le_of_ble_eq_true rfl⟩, Nat.le_of_ble_eq_true rfl, Nat.le_of_ble_eq_true rfl⟩ rfl hl.1 rfl (Nat.le_of_ble_eq_true rfl) dX8_giveNotice_82) (fun rq19_ Mq17_ Tq18_ Hq_ lcq_ hP hz hH => ?_)
            try dsimp only at hP
            obtain ⟨(er_rq19_ | er_rq19_), eT, eM⟩ := hP
            · skip
              have eT := eT.symm; subst eT
              have er_rq19_ := er_rq19_.symm; subst er_rq19_
              have eM := eM.symm; subst eM
              refine jif_ne (tgt := 91) hx hb dX8_giveNotice_85 (by decide) (fun cq20_ => ?_) (fun cq20_ => absurd cq20_ (by decide))
              refine lv_aload hx hb dX8_giveNotice_91 (lv_at hl 0 rfl) ?_
              refine tgr hC hK hH flX8_163 t_qq8_ rfl rfl dX8_giveNotice_93 (fun qq21_ t_qq21_ => ?_)
              refine lv_iload_n hx hb dX8_giveNotice_96 rfl (lv_at hl 4 rfl) ?_
              refine lv_aload_n hx hb dX8_giveNotice_97 rfl (lv_at hl 1 rfl) ?_
              refine xg hC hK hH flX8_29 hc_w rfl dX8_giveNotice_98 ?_
              refine tist (x := td) hC hK hH t_qq21_ rfl (iIn (by omega) (by omega)) (iRg _).1 (iRg _).2 dX8_giveNotice_101 (fun Hq_ lcq_ Mq22_ _ hfr hH => ?_)
              have hc_w : Mq22_ w = some (.inr (6, [.int td, .int gd, .int bc, .int py, .int rf, .int lt, .int tl, .int fp, .ref cs, .ref bs, .ref tp])) := (hfr w (neF (Or.inl hn_w) t_qq21_ (by decide))).trans hc_w
              have hc_bs : Mq22_ bs = some (.inl (kA 5, 4, .inr (.inr (.inr (.inr g))))) := (hfr bs (neF (Or.inr (Or.inl ht_bs)) t_qq21_ (by decide))).trans hc_bs
              have hF : ∀ q, FrK T q → Mq22_ q = M q := fun q hq  => (hfr q (neF hq t_qq21_ (by decide))).trans (hF q hq )
              refine lv_iconst (v := 0) hx hb dX8_giveNotice_102 (by decide) ?_
              exact ret_i hC hr hlk hK hH (⟨trivial, rfl, hF⟩) (Nat.le_of_ble_eq_true rfl) (Nat.le_of_ble_eq_true rfl) dX8_giveNotice_103
            · skip
              have eT := eT.symm; subst eT
              have er_rq19_ := er_rq19_.symm; subst er_rq19_
              have eM := eM.symm; subst eM
              refine jif_ne (tgt := 91) hx hb dX8_giveNotice_85 (by decide) (fun cq23_ => absurd cq23_ (by decide)) (fun cq23_ => ?_)
              refine lv_bipush (v := 31) hx hb dX8_giveNotice_88 (by decide) ?_
              exact ret_i hC hr hlk hK hH (⟨trivial, rfl, hF⟩) (Nat.le_of_ble_eq_true rfl) (Nat.le_of_ble_eq_true rfl) dX8_giveNotice_90
        · skip
          have cq13_ : rq12_.toInt ≤ to.toInt := cq13_
          refine lv_bipush (v := 30) hx hb dX8_giveNotice_57 (by decide) ?_
          exact ret_i hC hr hlk hK hH (⟨trivial, rfl, hF⟩) (Nat.le_of_ble_eq_true rfl) (Nat.le_of_ble_eq_true rfl) dX8_giveNotice_59
      · skip
        have cq7_ : fr.toInt ≠ (-1) := cq7_
        refine lv_aload_n hx hb dX8_giveNotice_19 rfl (lv_at hl 0 rfl) ?_
        refine lv_iload_n hx hb dX8_giveNotice_20 rfl (lv_at hl 1 rfl) ?_
        refine lv_iload_n hx hb dX8_giveNotice_21 rfl (lv_at hl 2 rfl) ?_
        refine goI hK hH (runV (As := [.int b, .int fr]) (rest := []) hC hK hH (c_X8_hasParty hc_w hn_w hc_bs ht_cs ht_bs ht_tp (by omega) (by omega) (by omega) hg) mlX8_76 (rcvM hK hH hc_w rfl) ⟨⟨Nat.le_of_ble_eq_true rfl, Nat.le_of_ble_eq_true rfl⟩, Nat.le_of_ble_eq_true rfl, Nat.le_of_ble_eq_true rfl⟩ rfl hl.1 rfl (Nat.le_of_ble_eq_true rfl) dX8_giveNotice_22) (fun rq26_ Mq24_ Tq25_ Hq_ lcq_ hP hz hH => ?_)
        try dsimp only at hP
        obtain ⟨(⟨cq27_, er_rq26_⟩ | er_rq26_), eT, eM⟩ := hP
        · skip
          have eT := eT.symm; subst eT
          have er_rq26_ := er_rq26_.symm; subst er_rq26_
          have eM := eM.symm; subst eM
          have cq27_ : 0 ≤ b.toInt ∧ b.toInt ≤ 3 ∧ 0 ≤ fr.toInt ∧ fr.toInt ≤ 13 := cq27_
          refine jif_ne (tgt := 31) hx hb dX8_giveNotice_25 (by decide) (fun cq28_ => ?_) (fun cq28_ => absurd cq28_ (by decide))
          refine lv_aload_n hx hb dX8_giveNotice_31 rfl (lv_at hl 0 rfl) ?_
          refine xg hC hK hH flX8_17 hc_w rfl dX8_giveNotice_32 ?_
          refine lv_iload_n hx hb dX8_giveNotice_35 rfl (lv_at hl 1 rfl) ?_
          refine xqld (ck := 5) hC hK hH rfl hc_bs (iIn (by omega) (by omega)) dX8_giveNotice_36 ?_
          obtain ⟨qq29_, e_qq29_, t_qq29_⟩ := hg (Int32.toNatClampNeg b) (by have := iCl (x := b) (by omega); omega)
          refine lv_qr e_qq29_ ?_
          refine lv_astore (lv' := [(4, .ref qq29_), (0, .ref w), (1, .int b), (2, .int fr), (3, .int to)]) hx hb dX8_giveNotice_37 hl (by decide) rfl (fun ls hl => ?_)
          refine lv_iload_n hx hb dX8_giveNotice_39 rfl (lv_at hl 4 rfl) ?_
          refine lv_iload_n hx hb dX8_giveNotice_40 rfl (lv_at hl 3 rfl) ?_
          refine lv_iconst (v := -1) hx hb dX8_giveNotice_41 (by decide) ?_
          refine jic_ne (tgt := 53) hx hb dX8_giveNotice_42 (by decide) (fun cq30_ => ?_) (fun cq30_ => absurd cq30_ (by have := iRg fr; have : (-1 : Int32).toInt = -1 := rfl; omega))
          have cq30_ : fr.toInt ≠ (-1) := cq30_
          refine lv_iload_n hx hb dX8_giveNotice_53 rfl (lv_at hl 3 rfl) ?_
          refine jic_lt (tgt := 60) hx hb dX8_giveNotice_54 (by decide) (fun cq31_ => ?_) (fun cq31_ => ?_)
          · skip
            have cq31_ : to.toInt < fr.toInt := cq31_
            refine lv_aload hx hb dX8_giveNotice_60 (lv_at hl 0 rfl) ?_
            refine tgr hC hK hH flX8_163 t_qq29_ rfl rfl dX8_giveNotice_62 (fun qq32_ t_qq32_ => ?_)
            refine lv_iload_n hx hb dX8_giveNotice_65 rfl (lv_at hl 4 rfl) ?_
            refine tild hC hK hH t_qq32_ rfl (iIn (by omega) (by omega)) dX8_giveNotice_66 (fun xq33_ l_xq33_ g_xq33_ => ?_)
            refine lv_iconst (v := -1) hx hb dX8_giveNotice_67 (by decide) ?_
            refine jic_ne (tgt := 88) hx hb dX8_giveNotice_68 (by decide) (fun cq34_ => ?_) (fun cq34_ => ?_)
            · skip
              have cq34_ : xq33_.toInt ≠ (-1) := cq34_
              refine lv_bipush (v := 31) hx hb dX8_giveNotice_88 (by decide) ?_
              exact ret_i hC hr hlk hK hH (⟨trivial, rfl, hF⟩) (Nat.le_of_ble_eq_true rfl) (Nat.le_of_ble_eq_true rfl) dX8_giveNotice_90
            · skip
              have cq34_ : xq33_.toInt = (-1) := cq34_
              refine lv_aload hx hb dX8_giveNotice_71 (lv_at hl 0 rfl) ?_
              refine lv_iload_n hx hb dX8_giveNotice_73 rfl (lv_at hl 3 rfl) ?_
              refine lv_aload_n hx hb dX8_giveNotice_74 rfl (lv_at hl 1 rfl) ?_
              refine xg hC hK hH flX8_29 hc_w rfl dX8_giveNotice_75 ?_
              refine lv_aload_n hx hb dX8_giveNotice_78 rfl (lv_at hl 1 rfl) ?_
              refine xg hC hK hH flX8_33 hc_w rfl dX8_giveNotice_79 ?_
              refine goI hK hH (runV (As := [.int fr, .int td, .int gd]) (rest := []) hC hK hH (c_X1_canTell t_qq29_ (by omega)) mlX8_166 (rcvT hK hH t_qq29_ rfl rfl) ⟨⟨Nat.le_of_ble_eq_true rfl, Nat.le_of_ble_eq_true rfl⟩, Nat.le_of_ble_eq_true rfl, Nat.le_of_ble_eq_true rfl⟩ rfl hl.1 rfl (Nat.le_of_ble_eq_true rfl) dX8_giveNotice_82) (fun rq37_ Mq35_ Tq36_ Hq_ lcq_ hP hz hH => ?_)
              try dsimp only at hP
              obtain ⟨(er_rq37_ | er_rq37_), eT, eM⟩ := hP
              · skip
                have eT := eT.symm; subst eT
                have er_rq37_ := er_rq37_.symm; subst er_rq37_
                have eM := eM.symm; subst eM
                refine jif_ne (tgt := 91) hx hb dX8_giveNotice_85 (by decide) (fun cq38_ => ?_) (fun cq38_ => absurd cq38_ (by decide))
                refine lv_aload hx hb dX8_giveNotice_91 (lv_at hl 0 rfl) ?_
                refine tgr hC hK hH flX8_163 t_qq29_ rfl rfl dX8_giveNotice_93 (fun qq39_ t_qq39_ => ?_)
                refine lv_iload_n hx hb dX8_giveNotice_96 rfl (lv_at hl 4 rfl) ?_
                refine lv_aload_n hx hb dX8_giveNotice_97 rfl (lv_at hl 1 rfl) ?_
                refine xg hC hK hH flX8_29 hc_w rfl dX8_giveNotice_98 ?_
                refine tist (x := td) hC hK hH t_qq39_ rfl (iIn (by omega) (by omega)) (iRg _).1 (iRg _).2 dX8_giveNotice_101 (fun Hq_ lcq_ Mq40_ _ hfr hH => ?_)
                have hc_w : Mq40_ w = some (.inr (6, [.int td, .int gd, .int bc, .int py, .int rf, .int lt, .int tl, .int fp, .ref cs, .ref bs, .ref tp])) := (hfr w (neF (Or.inl hn_w) t_qq39_ (by decide))).trans hc_w
                have hc_bs : Mq40_ bs = some (.inl (kA 5, 4, .inr (.inr (.inr (.inr g))))) := (hfr bs (neF (Or.inr (Or.inl ht_bs)) t_qq39_ (by decide))).trans hc_bs
                have hF : ∀ q, FrK T q → Mq40_ q = M q := fun q hq  => (hfr q (neF hq t_qq39_ (by decide))).trans (hF q hq )
                refine lv_iconst (v := 0) hx hb dX8_giveNotice_102 (by decide) ?_
                exact ret_i hC hr hlk hK hH (⟨trivial, rfl, hF⟩) (Nat.le_of_ble_eq_true rfl) (Nat.le_of_ble_eq_true rfl) dX8_giveNotice_103
              · skip
                have eT := eT.symm; subst eT
                have er_rq37_ := er_rq37_.symm; subst er_rq37_
                have eM := eM.symm; subst eM
                refine jif_ne (tgt := 91) hx hb dX8_giveNotice_85 (by decide) (fun cq41_ => absurd cq41_ (by decide)) (fun cq41_ => ?_)
                refine lv_bipush (v := 31) hx hb dX8_giveNotice_88 (by decide) ?_
                exact ret_i hC hr hlk hK hH (⟨trivial, rfl, hF⟩) (Nat.le_of_ble_eq_true rfl) (Nat.le_of_ble_eq_true rfl) dX8_giveNotice_90
          · skip
            have cq31_ : fr.toInt ≤ to.toInt := cq31_
            refine lv_bipush (v := 30) hx hb dX8_giveNotice_57 (by decide) ?_
            exact ret_i hC hr hlk hK hH (⟨trivial, rfl, hF⟩) (Nat.le_of_ble_eq_true rfl) (Nat.le_of_ble_eq_true rfl) dX8_giveNotice_59
        · skip
          have eT := eT.symm; subst eT
          have er_rq26_ := er_rq26_.symm; subst er_rq26_
          have eM := eM.symm; subst eM
          refine jif_ne (tgt := 31) hx hb dX8_giveNotice_25 (by decide) (fun cq42_ => absurd cq42_ (by decide)) (fun cq42_ => ?_)
          refine lv_bipush (v := 30) hx hb dX8_giveNotice_28 (by decide) ?_
          exact ret_i hC hr hlk hK hH (⟨trivial, rfl, hF⟩) (Nat.le_of_ble_eq_true rfl) (Nat.le_of_ble_eq_true rfl) dX8_giveNotice_30
    · skip
      have eT := eT.symm; subst eT
      have er_rq4_ := er_rq4_.symm; subst er_rq4_
      have eM := eM.symm; subst eM
      refine jif_eq (tgt := 28) hx hb dX8_giveNotice_11 (by decide) (fun cq43_ => ?_) (fun cq43_ => absurd cq43_ (by decide))
      refine lv_bipush (v := 30) hx hb dX8_giveNotice_28 (by decide) ?_
      exact ret_i hC hr hlk hK hH (⟨trivial, rfl, hF⟩) (Nat.le_of_ble_eq_true rfl) (Nat.le_of_ble_eq_true rfl) dX8_giveNotice_30
set_option maxHeartbeats 4000000 in
set_option maxRecDepth 100000 in
theorem c_X8_releaseOne {l : Launch} {D : va_G} {kA : Nat → ClassId} {M : mM} {T : mT} {sz : Nat} {w cs bs tp : Nat} {td gd bc py rf lt tl fp : Int32} {g : Nat → Option Nat} {b pt : Int32} (hc_w : M w = some (.inr (6, [.int td, .int gd, .int bc, .int py, .int rf, .int lt, .int tl, .int fp, .ref cs, .ref bs, .ref tp]))) (hn_w : T w = none) (hc_bs : M bs = some (.inl (kA 5, 4, .inr (.inr (.inr (.inr g)))))) (ht_cs : T cs = some 3) (ht_bs : T bs = some 6) (ht_tp : T tp = some 7) (htd : 0 ≤ td.toInt ∧ td.toInt ≤ 999) (hbc : 0 ≤ bc.toInt ∧ bc.toInt ≤ 4) (htl : 0 ≤ tl.toInt ∧ tl.toInt ≤ 600) (hg : ∀ j, j < 4 → ∃ q, g j = some q ∧ T q = some 2) : mCi l yX8_releaseOne cX8_releaseOne 4 (some .int) 3 0 0 D kA M T sz [.ref w, .int b, .int pt] (fun r u => (True) ∧ u.2 = T ∧ (∀ q, FrK T q → u.1 q = M q)) := by
  unfold mCi
  refine start_W (by decide) (Nat.le_of_ble_eq_true rfl) ?_
  intro p e s m below meth c ls hC hr hlk hnm hK hH hsz hl
  have hx := hC.1
  have hb := hC.2.1
  have hl : lv_has ls 4 [(0, .ref w), (1, .int b), (2, .int pt)] := hl
  have hF : ∀ q, FrK T q → M q = M q := fun q _  => rfl
  have n_w_bs : w ≠ bs := neM hc_w hc_bs (by simp)
  have n_bs_w : bs ≠ w := neM hc_bs hc_w (by simp)
  refine lv_aload_n hx hb dX8_releaseOne_0 rfl (lv_at hl 0 rfl) ?_
  refine lv_iload_n hx hb dX8_releaseOne_1 rfl (lv_at hl 1 rfl) ?_
  refine lv_iload_n hx hb dX8_releaseOne_2 rfl (lv_at hl 2 rfl) ?_
  refine goI hK hH (runV (As := [.int b, .int pt]) (rest := []) hC hK hH (c_X8_hasSigner hc_w hn_w hc_bs ht_cs ht_bs ht_tp (by omega) (by omega) (by omega) hg) mlX8_138 (rcvM hK hH hc_w rfl) ⟨⟨Nat.le_of_ble_eq_true rfl, Nat.le_of_ble_eq_true rfl⟩, Nat.le_of_ble_eq_true rfl, Nat.le_of_ble_eq_true rfl⟩ rfl hl.1 rfl (Nat.le_of_ble_eq_true rfl) dX8_releaseOne_3) (fun rq3_ Mq1_ Tq2_ Hq_ lcq_ hP hz hH => ?_)
  try dsimp only at hP
  obtain ⟨(⟨cq4_, er_rq3_⟩ | er_rq3_), eT, eM⟩ := hP
  · skip
    have eT := eT.symm; subst eT
    have er_rq3_ := er_rq3_.symm; subst er_rq3_
    have eM := eM.symm; subst eM
    have cq4_ : 0 ≤ b.toInt ∧ b.toInt ≤ 3 ∧ 0 ≤ pt.toInt ∧ pt.toInt ≤ 13 := cq4_
    refine jif_ne (tgt := 12) hx hb dX8_releaseOne_6 (by decide) (fun cq5_ => ?_) (fun cq5_ => absurd cq5_ (by decide))
    refine lv_aload_n hx hb dX8_releaseOne_12 rfl (lv_at hl 0 rfl) ?_
    refine xg hC hK hH flX8_17 hc_w rfl dX8_releaseOne_13 ?_
    refine lv_iload_n hx hb dX8_releaseOne_16 rfl (lv_at hl 1 rfl) ?_
    refine xqld (ck := 5) hC hK hH rfl hc_bs (iIn (by omega) (by omega)) dX8_releaseOne_17 ?_
    obtain ⟨qq6_, e_qq6_, t_qq6_⟩ := hg (Int32.toNatClampNeg b) (by have := iCl (x := b) (by omega); omega)
    refine lv_qr e_qq6_ ?_
    refine lv_astore_n (lv' := [(3, .ref qq6_), (0, .ref w), (1, .int b), (2, .int pt)]) hx hb dX8_releaseOne_18 rfl hl (by decide) rfl (fun ls hl => ?_)
    refine lv_aload_n hx hb dX8_releaseOne_19 rfl (lv_at hl 0 rfl) ?_
    refine goI hK hH (runV (As := []) (rest := []) hC hK hH (c_X1_hasTitle t_qq6_) mlX8_144 (rcvT hK hH t_qq6_ rfl rfl) ⟨⟨Nat.le_of_ble_eq_true rfl, Nat.le_of_ble_eq_true rfl⟩, Nat.le_of_ble_eq_true rfl, Nat.le_of_ble_eq_true rfl⟩ rfl hl.1 rfl (Nat.le_of_ble_eq_true rfl) dX8_releaseOne_20) (fun rq9_ Mq7_ Tq8_ Hq_ lcq_ hP hz hH => ?_)
    try dsimp only at hP
    obtain ⟨(er_rq9_ | er_rq9_), eT, eM⟩ := hP
    · skip
      have eT := eT.symm; subst eT
      have er_rq9_ := er_rq9_.symm; subst er_rq9_
      have eM := eM.symm; subst eM
      refine jif_eq (tgt := 42) hx hb dX8_releaseOne_23 (by decide) (fun cq10_ => absurd cq10_ (by decide)) (fun cq10_ => ?_)
      refine lv_aload_n hx hb dX8_releaseOne_26 rfl (lv_at hl 0 rfl) ?_
      refine tgr hC hK hH flX8_170 t_qq6_ rfl rfl dX8_releaseOne_27 (fun qq11_ t_qq11_ => ?_)
      refine lv_iload_n hx hb dX8_releaseOne_30 rfl (lv_at hl 3 rfl) ?_
      refine tild hC hK hH t_qq11_ rfl (iIn (by omega) (by omega)) dX8_releaseOne_31 (fun xq12_ l_xq12_ g_xq12_ => ?_)
      refine jif_ne (tgt := 42) hx hb dX8_releaseOne_32 (by decide) (fun cq13_ => ?_) (fun cq13_ => ?_)
      · skip
        have cq13_ : xq12_.toInt ≠ 0 := cq13_
        refine lv_bipush (v := 31) hx hb dX8_releaseOne_42 (by decide) ?_
        exact ret_i hC hr hlk hK hH (⟨trivial, rfl, hF⟩) (Nat.le_of_ble_eq_true rfl) (Nat.le_of_ble_eq_true rfl) dX8_releaseOne_44
      · skip
        have cq13_ : xq12_.toInt = 0 := cq13_
        refine lv_aload_n hx hb dX8_releaseOne_35 rfl (lv_at hl 0 rfl) ?_
        refine tg hC hK hH flX8_90 t_qq6_ rfl rfl dX8_releaseOne_36 (fun xq14_ l_xq14_ g_xq14_ => ?_)
        have l_xq14_ : (0 : Int) ≤ xq14_.toInt := l_xq14_
        have g_xq14_ : xq14_.toInt ≤ 1 := g_xq14_
        refine jif_eq (tgt := 45) hx hb dX8_releaseOne_39 (by decide) (fun cq15_ => ?_) (fun cq15_ => ?_)
        · skip
          have cq15_ : xq14_.toInt = 0 := cq15_
          refine lv_aload_n hx hb dX8_releaseOne_45 rfl (lv_at hl 0 rfl) ?_
          refine lv_iload_n hx hb dX8_releaseOne_46 rfl (lv_at hl 3 rfl) ?_
          refine lv_bipush (v := 15) hx hb dX8_releaseOne_47 (by decide) ?_
          refine goV hK hH (runV (As := [.int pt, .int 15]) (rest := []) hC hK hH (c_X1_free t_qq6_ (by omega)) mlX8_173 (rcvT hK hH t_qq6_ rfl rfl) ⟨⟨Nat.le_of_ble_eq_true rfl, Nat.le_of_ble_eq_true rfl⟩, Nat.le_of_ble_eq_true rfl, Nat.le_of_ble_eq_true rfl⟩ rfl hl.1 rfl (Nat.le_of_ble_eq_true rfl) dX8_releaseOne_49) (fun Mq16_ Tq17_ Hq_ lcq_ hP hz hH => ?_)
          try dsimp only at hP
          obtain ⟨(-), eT, hfr⟩ := hP
          have eT := eT.symm; subst eT
          have hc_w : Mq16_ w = some (.inr (6, [.int td, .int gd, .int bc, .int py, .int rf, .int lt, .int tl, .int fp, .ref cs, .ref bs, .ref tp])) := (hfr w (Or.inl hn_w) ).trans hc_w
          have hc_bs : Mq16_ bs = some (.inl (kA 5, 4, .inr (.inr (.inr (.inr g))))) := (hfr bs (Or.inr (Or.inl ht_bs)) ).trans hc_bs
          have hF : ∀ q, FrK T q → Mq16_ q = M q := fun q hq  => (hfr q hq ).trans (hF q hq )
          refine lv_iconst (v := 0) hx hb dX8_releaseOne_52 (by decide) ?_
          exact ret_i hC hr hlk hK hH (⟨trivial, rfl, hF⟩) (Nat.le_of_ble_eq_true rfl) (Nat.le_of_ble_eq_true rfl) dX8_releaseOne_53
        · skip
          have cq15_ : xq14_.toInt ≠ 0 := cq15_
          refine lv_bipush (v := 31) hx hb dX8_releaseOne_42 (by decide) ?_
          exact ret_i hC hr hlk hK hH (⟨trivial, rfl, hF⟩) (Nat.le_of_ble_eq_true rfl) (Nat.le_of_ble_eq_true rfl) dX8_releaseOne_44
    · skip
      have eT := eT.symm; subst eT
      have er_rq9_ := er_rq9_.symm; subst er_rq9_
      have eM := eM.symm; subst eM
      refine jif_eq (tgt := 42) hx hb dX8_releaseOne_23 (by decide) (fun cq19_ => ?_) (fun cq19_ => absurd cq19_ (by decide))
      refine lv_bipush (v := 31) hx hb dX8_releaseOne_42 (by decide) ?_
      exact ret_i hC hr hlk hK hH (⟨trivial, rfl, hF⟩) (Nat.le_of_ble_eq_true rfl) (Nat.le_of_ble_eq_true rfl) dX8_releaseOne_44
  · skip
    have eT := eT.symm; subst eT
    have er_rq3_ := er_rq3_.symm; subst er_rq3_
    have eM := eM.symm; subst eM
    refine jif_ne (tgt := 12) hx hb dX8_releaseOne_6 (by decide) (fun cq20_ => absurd cq20_ (by decide)) (fun cq20_ => ?_)
    refine lv_bipush (v := 30) hx hb dX8_releaseOne_9 (by decide) ?_
    exact ret_i hC hr hlk hK hH (⟨trivial, rfl, hF⟩) (Nat.le_of_ble_eq_true rfl) (Nat.le_of_ble_eq_true rfl) dX8_releaseOne_11
set_option maxHeartbeats 4000000 in
set_option maxRecDepth 100000 in
theorem c_X8_payOne {l : Launch} {D : va_G} {kA : Nat → ClassId} {M : mM} {T : mT} {sz : Nat} {w cs bs tp : Nat} {td gd bc py rf lt tl fp : Int32} {g : Nat → Option Nat} {b pt : Int32} (hc_w : M w = some (.inr (6, [.int td, .int gd, .int bc, .int py, .int rf, .int lt, .int tl, .int fp, .ref cs, .ref bs, .ref tp]))) (hn_w : T w = none) (hc_bs : M bs = some (.inl (kA 5, 4, .inr (.inr (.inr (.inr g)))))) (ht_cs : T cs = some 3) (ht_bs : T bs = some 6) (ht_tp : T tp = some 7) (htd : 0 ≤ td.toInt ∧ td.toInt ≤ 999) (hbc : 0 ≤ bc.toInt ∧ bc.toInt ≤ 4) (htl : 0 ≤ tl.toInt ∧ tl.toInt ≤ 600) (hg : ∀ j, j < 4 → ∃ q, g j = some q ∧ T q = some 2) : mCi l yX8_payOne cX8_payOne 5 (some .int) 4 0 0 D kA M T sz [.ref w, .int b, .int pt] (fun r u => ∃ py2 : Int32, ((-2147483648 : Int) ≤ py2.toInt ∧ py2.toInt ≤ 2147483647) ∧ (u.1 w = some (.inr (6, [.int td, .int gd, .int bc, .int py2, .int rf, .int lt, .int tl, .int fp, .ref cs, .ref bs, .ref tp]))) ∧ u.2 = T ∧ (∀ q, FrA T q → q ≠ w → u.1 q = M q)) := by
  unfold mCi
  refine start_W (by decide) (Nat.le_of_ble_eq_true rfl) ?_
  intro p e s m below meth c ls hC hr hlk hnm hK hH hsz hl
  have hx := hC.1
  have hb := hC.2.1
  have hl : lv_has ls 5 [(0, .ref w), (1, .int b), (2, .int pt)] := hl
  have hF : ∀ q, FrA T q → q ≠ w → M q = M q := fun q _ _ => rfl
  have n_w_bs : w ≠ bs := neM hc_w hc_bs (by simp)
  have n_bs_w : bs ≠ w := neM hc_bs hc_w (by simp)
  refine lv_aload_n hx hb dX8_payOne_0 rfl (lv_at hl 0 rfl) ?_
  refine lv_iload_n hx hb dX8_payOne_1 rfl (lv_at hl 1 rfl) ?_
  refine lv_iload_n hx hb dX8_payOne_2 rfl (lv_at hl 2 rfl) ?_
  refine goI hK hH (runV (As := [.int b, .int pt]) (rest := []) hC hK hH (c_X8_hasParty hc_w hn_w hc_bs ht_cs ht_bs ht_tp (by omega) (by omega) (by omega) hg) mlX8_76 (rcvM hK hH hc_w rfl) ⟨⟨Nat.le_of_ble_eq_true rfl, Nat.le_of_ble_eq_true rfl⟩, Nat.le_of_ble_eq_true rfl, Nat.le_of_ble_eq_true rfl⟩ rfl hl.1 rfl (Nat.le_of_ble_eq_true rfl) dX8_payOne_3) (fun rq3_ Mq1_ Tq2_ Hq_ lcq_ hP hz hH => ?_)
  try dsimp only at hP
  obtain ⟨(⟨cq4_, er_rq3_⟩ | er_rq3_), eT, eM⟩ := hP
  · skip
    have eT := eT.symm; subst eT
    have er_rq3_ := er_rq3_.symm; subst er_rq3_
    have eM := eM.symm; subst eM
    have cq4_ : 0 ≤ b.toInt ∧ b.toInt ≤ 3 ∧ 0 ≤ pt.toInt ∧ pt.toInt ≤ 13 := cq4_
    refine jif_ne (tgt := 12) hx hb dX8_payOne_6 (by decide) (fun cq5_ => ?_) (fun cq5_ => absurd cq5_ (by decide))
    refine lv_aload_n hx hb dX8_payOne_12 rfl (lv_at hl 0 rfl) ?_
    refine xg hC hK hH flX8_17 hc_w rfl dX8_payOne_13 ?_
    refine lv_iload_n hx hb dX8_payOne_16 rfl (lv_at hl 1 rfl) ?_
    refine xqld (ck := 5) hC hK hH rfl hc_bs (iIn (by omega) (by omega)) dX8_payOne_17 ?_
    obtain ⟨qq6_, e_qq6_, t_qq6_⟩ := hg (Int32.toNatClampNeg b) (by have := iCl (x := b) (by omega); omega)
    refine lv_qr e_qq6_ ?_
    refine lv_astore_n (lv' := [(3, .ref qq6_), (0, .ref w), (1, .int b), (2, .int pt)]) hx hb dX8_payOne_18 rfl hl (by decide) rfl (fun ls hl => ?_)
    refine lv_aload_n hx hb dX8_payOne_19 rfl (lv_at hl 0 rfl) ?_
    refine lv_iload_n hx hb dX8_payOne_20 rfl (lv_at hl 3 rfl) ?_
    refine lv_aload_n hx hb dX8_payOne_21 rfl (lv_at hl 1 rfl) ?_
    refine xg hC hK hH flX8_29 hc_w rfl dX8_payOne_22 ?_
    refine goI hK hH (runV (As := [.int pt, .int td]) (rest := []) hC hK hH (c_X1_whyNot t_qq6_ (by omega)) mlX8_152 (rcvT hK hH t_qq6_ rfl rfl) ⟨⟨Nat.le_of_ble_eq_true rfl, Nat.le_of_ble_eq_true rfl⟩, Nat.le_of_ble_eq_true rfl, Nat.le_of_ble_eq_true rfl⟩ rfl hl.1 rfl (Nat.le_of_ble_eq_true rfl) dX8_payOne_25) (fun rq9_ Mq7_ Tq8_ Hq_ lcq_ hP hz hH => ?_)
    try dsimp only at hP
    obtain ⟨(-), eT, eM⟩ := hP
    have eT := eT.symm; subst eT
    have eM := eM.symm; subst eM
    refine lv_istore (lv' := [(4, .int rq9_), (3, .ref qq6_), (0, .ref w), (1, .int b), (2, .int pt)]) hx hb dX8_payOne_28 hl (by decide) rfl (fun ls hl => ?_)
    refine lv_iload hx hb dX8_payOne_30 (lv_at hl 0 rfl) ?_
    refine jif_eq (tgt := 38) hx hb dX8_payOne_32 (by decide) (fun cq10_ => ?_) (fun cq10_ => ?_)
    · skip
      have cq10_ : rq9_.toInt = 0 := cq10_
      refine lv_aload_n hx hb dX8_payOne_38 rfl (lv_at hl 1 rfl) ?_
      refine lv_iload_n hx hb dX8_payOne_39 rfl (lv_at hl 4 rfl) ?_
      refine lv_aload_n hx hb dX8_payOne_40 rfl (lv_at hl 2 rfl) ?_
      refine xg hC hK hH flX8_9 hc_w rfl dX8_payOne_41 ?_
      refine goI hK hH (runV (As := [.int pt, .ref cs]) (rest := []) hC hK hH (c_X1_hasCash t_qq6_ ht_cs) mlX8_148 (rcvT hK hH t_qq6_ rfl rfl) ⟨⟨Nat.le_of_ble_eq_true rfl, Nat.le_of_ble_eq_true rfl⟩, Nat.le_of_ble_eq_true rfl, Nat.le_of_ble_eq_true rfl⟩ rfl hl.1 rfl (Nat.le_of_ble_eq_true rfl) dX8_payOne_44) (fun rq13_ Mq11_ Tq12_ Hq_ lcq_ hP hz hH => ?_)
      try dsimp only at hP
      obtain ⟨(er_rq13_ | er_rq13_), eT, eM⟩ := hP
      · skip
        have eT := eT.symm; subst eT
        have er_rq13_ := er_rq13_.symm; subst er_rq13_
        have eM := eM.symm; subst eM
        refine jif_ne (tgt := 53) hx hb dX8_payOne_47 (by decide) (fun cq14_ => ?_) (fun cq14_ => absurd cq14_ (by decide))
        refine lv_aload_n hx hb dX8_payOne_53 rfl (lv_at hl 1 rfl) ?_
        refine lv_iload_n hx hb dX8_payOne_54 rfl (lv_at hl 4 rfl) ?_
        refine lv_aload_n hx hb dX8_payOne_55 rfl (lv_at hl 2 rfl) ?_
        refine xg hC hK hH flX8_9 hc_w rfl dX8_payOne_56 ?_
        refine goV hK hH (runV (As := [.int pt, .ref cs]) (rest := []) hC hK hH (c_X1_settle t_qq6_ ht_cs (by omega)) mlX8_156 (rcvT hK hH t_qq6_ rfl rfl) ⟨⟨Nat.le_of_ble_eq_true rfl, Nat.le_of_ble_eq_true rfl⟩, Nat.le_of_ble_eq_true rfl, Nat.le_of_ble_eq_true rfl⟩ rfl hl.1 rfl (Nat.le_of_ble_eq_true rfl) dX8_payOne_59) (fun Mq15_ Tq16_ Hq_ lcq_ hP hz hH => ?_)
        try dsimp only at hP
        obtain ⟨(-), eT, hfr⟩ := hP
        have eT := eT.symm; subst eT
        have hc_w : Mq15_ w = some (.inr (6, [.int td, .int gd, .int bc, .int py, .int rf, .int lt, .int tl, .int fp, .ref cs, .ref bs, .ref tp])) := (hfr w (Or.inl hn_w) ).trans hc_w
        have hc_bs : Mq15_ bs = some (.inl (kA 5, 4, .inr (.inr (.inr (.inr g))))) := (hfr bs (Or.inr ht_bs) ).trans hc_bs
        have hF : ∀ q, FrA T q → q ≠ w → Mq15_ q = M q := fun q hq h0 => (hfr q hq ).trans (hF q hq h0)
        refine lv_aload_n hx hb dX8_payOne_62 rfl (lv_at hl 2 rfl) ?_
        refine lv_dup hx hb dX8_payOne_63 rfl ?_
        refine xg hC hK hH flX8_39 hc_w rfl dX8_payOne_64 ?_
        refine lv_iconst (v := 1) hx hb dX8_payOne_67 (by decide) ?_
        refine lv_iadd hx hb dX8_payOne_68 ?_
        refine lv_topi (fun zq18_ e_zq18_ => ?_)
        refine yp (v := .int zq18_) hC hK hH flX8_39 hc_w (noT hn_w) rfl rfl (Nat.le_of_ble_eq_true rfl) dX8_payOne_69 (fun Hq_ lcq_ Mq19_ hc_w hfr hH => ?_)
        have hc_w : Mq19_ w = some (.inr (6, [.int td, .int gd, .int bc, .int zq18_, .int rf, .int lt, .int tl, .int fp, .ref cs, .ref bs, .ref tp])) := hc_w
        have hc_bs : Mq19_ bs = some (.inl (kA 5, 4, .inr (.inr (.inr (.inr g))))) := (hfr bs n_bs_w).trans hc_bs
        have hF : ∀ q, FrA T q → q ≠ w → Mq19_ q = M q := fun q hq h0 => (hfr q h0).trans (hF q hq h0)
        refine lv_iconst (v := 0) hx hb dX8_payOne_72 (by decide) ?_
        exact ret_i hC hr hlk hK hH (⟨zq18_, iRg _, hc_w, rfl, hF⟩) (Nat.le_of_ble_eq_true rfl) (Nat.le_of_ble_eq_true rfl) dX8_payOne_73
      · skip
        have eT := eT.symm; subst eT
        have er_rq13_ := er_rq13_.symm; subst er_rq13_
        have eM := eM.symm; subst eM
        refine jif_ne (tgt := 53) hx hb dX8_payOne_47 (by decide) (fun cq20_ => absurd cq20_ (by decide)) (fun cq20_ => ?_)
        refine lv_bipush (v := 32) hx hb dX8_payOne_50 (by decide) ?_
        exact ret_i hC hr hlk hK hH (⟨py, iRg _, hc_w, rfl, hF⟩) (Nat.le_of_ble_eq_true rfl) (Nat.le_of_ble_eq_true rfl) dX8_payOne_52
    · skip
      have cq10_ : rq9_.toInt ≠ 0 := cq10_
      refine lv_iload hx hb dX8_payOne_35 (lv_at hl 0 rfl) ?_
      exact ret_i hC hr hlk hK hH (⟨py, iRg _, hc_w, rfl, hF⟩) (Nat.le_of_ble_eq_true rfl) (Nat.le_of_ble_eq_true rfl) dX8_payOne_37
  · skip
    have eT := eT.symm; subst eT
    have er_rq3_ := er_rq3_.symm; subst er_rq3_
    have eM := eM.symm; subst eM
    refine jif_ne (tgt := 12) hx hb dX8_payOne_6 (by decide) (fun cq21_ => absurd cq21_ (by decide)) (fun cq21_ => ?_)
    refine lv_bipush (v := 30) hx hb dX8_payOne_9 (by decide) ?_
    exact ret_i hC hr hlk hK hH (⟨py, iRg _, hc_w, rfl, hF⟩) (Nat.le_of_ble_eq_true rfl) (Nat.le_of_ble_eq_true rfl) dX8_payOne_11
set_option maxHeartbeats 4000000 in
set_option maxRecDepth 100000 in
theorem c_X8_drawOne {l : Launch} {D : va_G} {kA : Nat → ClassId} {M : mM} {T : mT} {sz : Nat} {w cs bs tp : Nat} {td gd bc py rf lt tl fp : Int32} {g : Nat → Option Nat} {dr de pe su dy op : Int32} (hc_w : M w = some (.inr (6, [.int td, .int gd, .int bc, .int py, .int rf, .int lt, .int tl, .int fp, .ref cs, .ref bs, .ref tp]))) (hn_w : T w = none) (hc_bs : M bs = some (.inl (kA 5, 4, .inr (.inr (.inr (.inr g)))))) (ht_cs : T cs = some 3) (ht_bs : T bs = some 6) (ht_tp : T tp = some 7) (htd : 0 ≤ td.toInt ∧ td.toInt ≤ 999) (hbc : 0 ≤ bc.toInt ∧ bc.toInt ≤ 4) (htl : 0 ≤ tl.toInt ∧ tl.toInt ≤ 600) (hop : op = 0 ∨ op = 1) (hg : ∀ j, j < 4 → ∃ q, g j = some q ∧ T q = some 2) : mCi l yX8_drawOne cX8_drawOne 8 (some .int) 3 0 0 D kA M T sz [.ref w, .int dr, .int de, .int pe, .int su, .int dy, .int op] (fun r u => ∃ bc2 : Int32, ((0 : Int) ≤ bc2.toInt ∧ bc2.toInt ≤ 4) ∧ (u.1 w = some (.inr (6, [.int td, .int gd, .int bc2, .int py, .int rf, .int lt, .int tl, .int fp, .ref cs, .ref bs, .ref tp]))) ∧ u.2 = T ∧ (∀ q, FrA T q → q ≠ w → u.1 q = M q)) := by
  unfold mCi
  refine start_W (by decide) (Nat.le_of_ble_eq_true rfl) ?_
  intro p e s m below meth c ls hC hr hlk hnm hK hH hsz hl
  have hx := hC.1
  have hb := hC.2.1
  have hl : lv_has ls 8 [(0, .ref w), (1, .int dr), (2, .int de), (3, .int pe), (4, .int su), (5, .int dy), (6, .int op)] := hl
  have hF : ∀ q, FrA T q → q ≠ w → M q = M q := fun q _ _ => rfl
  have n_w_bs : w ≠ bs := neM hc_w hc_bs (by simp)
  have n_bs_w : bs ≠ w := neM hc_bs hc_w (by simp)
  refine lv_aload_n hx hb dX8_drawOne_0 rfl (lv_at hl 0 rfl) ?_
  refine xg hC hK hH flX8_36 hc_w rfl dX8_drawOne_1 ?_
  refine lv_iconst (v := 4) hx hb dX8_drawOne_4 (by decide) ?_
  refine jic_ge (tgt := 29) hx hb dX8_drawOne_5 (by decide) (fun cq1_ => ?_) (fun cq1_ => ?_)
  · skip
    have cq1_ : 4 ≤ bc.toInt := cq1_
    refine lv_bipush (v := 30) hx hb dX8_drawOne_29 (by decide) ?_
    exact ret_i hC hr hlk hK hH (⟨bc, ⟨by omega, by omega⟩, hc_w, rfl, hF⟩) (Nat.le_of_ble_eq_true rfl) (Nat.le_of_ble_eq_true rfl) dX8_drawOne_31
  · skip
    have cq1_ : bc.toInt < 4 := cq1_
    refine lv_iload_n hx hb dX8_drawOne_8 rfl (lv_at hl 1 rfl) ?_
    refine goI hK hH (runSN (As := [.int dr]) (rest := []) hC hK hH (c_X9_isPerson) mlX8_94 ⟨⟨Nat.le_of_ble_eq_true rfl, Nat.le_of_ble_eq_true rfl⟩, Nat.le_of_ble_eq_true rfl, Nat.le_of_ble_eq_true rfl⟩ rfl hl.1 rfl (Nat.le_of_ble_eq_true rfl) dX8_drawOne_9) (fun rq4_ Mq2_ Tq3_ Hq_ lcq_ hP hz hH => ?_)
    try dsimp only at hP
    obtain ⟨(⟨cq5_, er_rq4_⟩ | ⟨cq6_, er_rq4_⟩), eT, eM⟩ := hP
    · skip
      have eT := eT.symm; subst eT
      have er_rq4_ := er_rq4_.symm; subst er_rq4_
      have eM := eM.symm; subst eM
      have cq5_ : 0 ≤ dr.toInt ∧ dr.toInt ≤ 7 := cq5_
      refine jif_eq (tgt := 29) hx hb dX8_drawOne_12 (by decide) (fun cq7_ => absurd cq7_ (by decide)) (fun cq7_ => ?_)
      refine lv_iload_n hx hb dX8_drawOne_15 rfl (lv_at hl 2 rfl) ?_
      refine goI hK hH (runSN (As := [.int de]) (rest := []) hC hK hH (c_X9_isPerson) mlX8_94 ⟨⟨Nat.le_of_ble_eq_true rfl, Nat.le_of_ble_eq_true rfl⟩, Nat.le_of_ble_eq_true rfl, Nat.le_of_ble_eq_true rfl⟩ rfl hl.1 rfl (Nat.le_of_ble_eq_true rfl) dX8_drawOne_16) (fun rq10_ Mq8_ Tq9_ Hq_ lcq_ hP hz hH => ?_)
      try dsimp only at hP
      obtain ⟨(⟨cq11_, er_rq10_⟩ | ⟨cq12_, er_rq10_⟩), eT, eM⟩ := hP
      · skip
        have eT := eT.symm; subst eT
        have er_rq10_ := er_rq10_.symm; subst er_rq10_
        have eM := eM.symm; subst eM
        have cq11_ : 0 ≤ de.toInt ∧ de.toInt ≤ 7 := cq11_
        refine jif_eq (tgt := 29) hx hb dX8_drawOne_19 (by decide) (fun cq13_ => absurd cq13_ (by decide)) (fun cq13_ => ?_)
        refine lv_iload_n hx hb dX8_drawOne_22 rfl (lv_at hl 3 rfl) ?_
        refine goI hK hH (runSN (As := [.int pe]) (rest := []) hC hK hH (c_X9_isPerson) mlX8_94 ⟨⟨Nat.le_of_ble_eq_true rfl, Nat.le_of_ble_eq_true rfl⟩, Nat.le_of_ble_eq_true rfl, Nat.le_of_ble_eq_true rfl⟩ rfl hl.1 rfl (Nat.le_of_ble_eq_true rfl) dX8_drawOne_23) (fun rq16_ Mq14_ Tq15_ Hq_ lcq_ hP hz hH => ?_)
        try dsimp only at hP
        obtain ⟨(⟨cq17_, er_rq16_⟩ | ⟨cq18_, er_rq16_⟩), eT, eM⟩ := hP
        · skip
          have eT := eT.symm; subst eT
          have er_rq16_ := er_rq16_.symm; subst er_rq16_
          have eM := eM.symm; subst eM
          have cq17_ : 0 ≤ pe.toInt ∧ pe.toInt ≤ 7 := cq17_
          refine jif_ne (tgt := 32) hx hb dX8_drawOne_26 (by decide) (fun cq19_ => ?_) (fun cq19_ => absurd cq19_ (by decide))
          refine lv_iload hx hb dX8_drawOne_32 (lv_at hl 4 rfl) ?_
          refine lv_iconst (v := 1) hx hb dX8_drawOne_34 (by decide) ?_
          refine jic_lt (tgt := 58) hx hb dX8_drawOne_35 (by decide) (fun cq20_ => ?_) (fun cq20_ => ?_)
          · skip
            have cq20_ : su.toInt < 1 := cq20_
            refine lv_bipush (v := 30) hx hb dX8_drawOne_58 (by decide) ?_
            exact ret_i hC hr hlk hK hH (⟨bc, ⟨by omega, by omega⟩, hc_w, rfl, hF⟩) (Nat.le_of_ble_eq_true rfl) (Nat.le_of_ble_eq_true rfl) dX8_drawOne_60
          · skip
            have cq20_ : 1 ≤ su.toInt := cq20_
            refine lv_iload hx hb dX8_drawOne_38 (lv_at hl 4 rfl) ?_
            refine lv_sipush (v := 999) hx hb dX8_drawOne_40 (by decide) ?_
            refine jic_gt (tgt := 58) hx hb dX8_drawOne_43 (by decide) (fun cq21_ => ?_) (fun cq21_ => ?_)
            · skip
              have cq21_ : 999 < su.toInt := cq21_
              refine lv_bipush (v := 30) hx hb dX8_drawOne_58 (by decide) ?_
              exact ret_i hC hr hlk hK hH (⟨bc, ⟨by omega, by omega⟩, hc_w, rfl, hF⟩) (Nat.le_of_ble_eq_true rfl) (Nat.le_of_ble_eq_true rfl) dX8_drawOne_60
            · skip
              have cq21_ : su.toInt ≤ 999 := cq21_
              refine lv_iload hx hb dX8_drawOne_46 (lv_at hl 5 rfl) ?_
              refine jif_lt (tgt := 58) hx hb dX8_drawOne_48 (by decide) (fun cq22_ => ?_) (fun cq22_ => ?_)
              · skip
                have cq22_ : dy.toInt < 0 := cq22_
                refine lv_bipush (v := 30) hx hb dX8_drawOne_58 (by decide) ?_
                exact ret_i hC hr hlk hK hH (⟨bc, ⟨by omega, by omega⟩, hc_w, rfl, hF⟩) (Nat.le_of_ble_eq_true rfl) (Nat.le_of_ble_eq_true rfl) dX8_drawOne_60
              · skip
                have cq22_ : 0 ≤ dy.toInt := cq22_
                refine lv_iload hx hb dX8_drawOne_51 (lv_at hl 5 rfl) ?_
                refine lv_bipush (v := 99) hx hb dX8_drawOne_53 (by decide) ?_
                refine jic_le (tgt := 61) hx hb dX8_drawOne_55 (by decide) (fun cq23_ => ?_) (fun cq23_ => ?_)
                · skip
                  have cq23_ : dy.toInt ≤ 99 := cq23_
                  refine lv_aload_n hx hb dX8_drawOne_61 rfl (lv_at hl 0 rfl) ?_
                  refine xg hC hK hH flX8_17 hc_w rfl dX8_drawOne_62 ?_
                  refine lv_aload_n hx hb dX8_drawOne_65 rfl (lv_at hl 0 rfl) ?_
                  refine xg hC hK hH flX8_36 hc_w rfl dX8_drawOne_66 ?_
                  refine xqld (ck := 5) hC hK hH rfl hc_bs (iIn (by omega) (by omega)) dX8_drawOne_69 ?_
                  obtain ⟨qq24_, e_qq24_, t_qq24_⟩ := hg (Int32.toNatClampNeg bc) (by have := iCl (x := bc) (by omega); omega)
                  refine lv_qr e_qq24_ ?_
                  refine lv_astore (lv' := [(7, .ref qq24_), (0, .ref w), (1, .int dr), (2, .int de), (3, .int pe), (4, .int su), (5, .int dy), (6, .int op)]) hx hb dX8_drawOne_70 hl (by decide) rfl (fun ls hl => ?_)
                  refine lv_aload hx hb dX8_drawOne_72 (lv_at hl 0 rfl) ?_
                  refine lv_iload_n hx hb dX8_drawOne_74 rfl (lv_at hl 2 rfl) ?_
                  refine lv_iload_n hx hb dX8_drawOne_75 rfl (lv_at hl 3 rfl) ?_
                  refine lv_iload_n hx hb dX8_drawOne_76 rfl (lv_at hl 4 rfl) ?_
                  refine lv_iload hx hb dX8_drawOne_77 (lv_at hl 7 rfl) ?_
                  refine goV hK hH (runV (As := [.int dr, .int de, .int pe, .int op]) (rest := []) hC hK hH (c_X1_begin t_qq24_ (by omega) (by omega)) mlX8_97 (rcvT hK hH t_qq24_ rfl rfl) ⟨⟨Nat.le_of_ble_eq_true rfl, Nat.le_of_ble_eq_true rfl⟩, Nat.le_of_ble_eq_true rfl, Nat.le_of_ble_eq_true rfl⟩ rfl hl.1 rfl (Nat.le_of_ble_eq_true rfl) dX8_drawOne_79) (fun Mq25_ Tq26_ Hq_ lcq_ hP hz hH => ?_)
                  try dsimp only at hP
                  obtain ⟨(-), eT, hfr⟩ := hP
                  have eT := eT.symm; subst eT
                  have hc_w : Mq25_ w = some (.inr (6, [.int td, .int gd, .int bc, .int py, .int rf, .int lt, .int tl, .int fp, .ref cs, .ref bs, .ref tp])) := (hfr w (Or.inl hn_w) ).trans hc_w
                  have hc_bs : Mq25_ bs = some (.inl (kA 5, 4, .inr (.inr (.inr (.inr g))))) := (hfr bs (Or.inr ht_bs) ).trans hc_bs
                  have hF : ∀ q, FrA T q → q ≠ w → Mq25_ q = M q := fun q hq h0 => (hfr q hq ).trans (hF q hq h0)
                  refine lv_aload hx hb dX8_drawOne_82 (lv_at hl 0 rfl) ?_
                  refine lv_iload hx hb dX8_drawOne_84 (lv_at hl 5 rfl) ?_
                  obtain ⟨Mq28_, fsq29_, hc_qq24_, hfr, ho_qq24_, hH⟩ := hH.unt t_qq24_ rfl
                  obtain ⟨xq30_, hl_xq30_, xq31_, hl_xq31_, xq32_, hl_xq32_, xq33_, hl_xq33_, xq34_, hl_xq34_, xq35_, hl_xq35_, xq36_, hl_xq36_, xq37_, hl_xq37_, xq38_, hl_xq38_, xq39_, hl_xq39_, xq40_, hl_xq40_, xq41_, hl_xq41_, qq42_, hl_qq42_, qq43_, hl_qq43_, qq44_, hl_qq44_, qq45_, hl_qq45_, qq46_, hl_qq46_, qq47_, hl_qq47_, qq48_, hl_qq48_, e_fsq29_⟩ := op2  ho_qq24_
                  subst e_fsq29_
                  have l_xq30_ : (-2147483648 : Int) ≤ xq30_.toInt := hl_xq30_.1
                  have g_xq30_ : xq30_.toInt ≤ 2147483647 := hl_xq30_.2
                  have l_xq31_ : (-2147483648 : Int) ≤ xq31_.toInt := hl_xq31_.1
                  have g_xq31_ : xq31_.toInt ≤ 2147483647 := hl_xq31_.2
                  have l_xq32_ : (-2147483648 : Int) ≤ xq32_.toInt := hl_xq32_.1
                  have g_xq32_ : xq32_.toInt ≤ 2147483647 := hl_xq32_.2
                  have l_xq33_ : (-2147483648 : Int) ≤ xq33_.toInt := hl_xq33_.1
                  have g_xq33_ : xq33_.toInt ≤ 2147483647 := hl_xq33_.2
                  have l_xq34_ : (-2147483648 : Int) ≤ xq34_.toInt := hl_xq34_.1
                  have g_xq34_ : xq34_.toInt ≤ 2147483647 := hl_xq34_.2
                  have l_xq35_ : (0 : Int) ≤ xq35_.toInt := hl_xq35_.1
                  have g_xq35_ : xq35_.toInt ≤ 7 := hl_xq35_.2
                  have l_xq36_ : (-2147483648 : Int) ≤ xq36_.toInt := hl_xq36_.1
                  have g_xq36_ : xq36_.toInt ≤ 2147483647 := hl_xq36_.2
                  have l_xq37_ : (0 : Int) ≤ xq37_.toInt := hl_xq37_.1
                  have g_xq37_ : xq37_.toInt ≤ 12 := hl_xq37_.2
                  have l_xq38_ : (0 : Int) ≤ xq38_.toInt := hl_xq38_.1
                  have g_xq38_ : xq38_.toInt ≤ 12 := hl_xq38_.2
                  have l_xq39_ : (0 : Int) ≤ xq39_.toInt := hl_xq39_.1
                  have g_xq39_ : xq39_.toInt ≤ 1 := hl_xq39_.2
                  have l_xq40_ : (0 : Int) ≤ xq40_.toInt := hl_xq40_.1
                  have g_xq40_ : xq40_.toInt ≤ 1 := hl_xq40_.2
                  have l_xq41_ : (0 : Int) ≤ xq41_.toInt := hl_xq41_.1
                  have g_xq41_ : xq41_.toInt ≤ 1 := hl_xq41_.2
                  have t_qq42_ := hl_qq42_
                  have t_qq43_ := hl_qq43_
                  have t_qq44_ := hl_qq44_
                  have t_qq45_ := hl_qq45_
                  have t_qq46_ := hl_qq46_
                  have t_qq47_ := hl_qq47_
                  have t_qq48_ := hl_qq48_
                  have hc_w : Mq28_ w = some (.inr (6, [.int td, .int gd, .int bc, .int py, .int rf, .int lt, .int tl, .int fp, .ref cs, .ref bs, .ref tp])) := (hfr w (neA (Or.inl hn_w) t_qq24_ (by decide))).trans hc_w
                  have hc_bs : Mq28_ bs = some (.inl (kA 5, 4, .inr (.inr (.inr (.inr g))))) := (hfr bs (neA (Or.inr ht_bs) t_qq24_ (by decide))).trans hc_bs
                  have n_w_qq24_ : w ≠ qq24_ := (neA (Or.inl hn_w) t_qq24_ (by decide))
                  have n_qq24__w : qq24_ ≠ w := Ne.symm n_w_qq24_
                  have n_bs_qq24_ : bs ≠ qq24_ := (neA (Or.inr ht_bs) t_qq24_ (by decide))
                  have n_qq24__bs : qq24_ ≠ bs := Ne.symm n_bs_qq24_
                  have hc_qq24_ : Mq28_ qq24_ = some (.inr (0, [.int xq30_, .int xq31_, .int xq32_, .int xq33_, .int xq34_, .int xq35_, .int xq36_, .int xq37_, .int xq38_, .int xq39_, .int xq40_, .int xq41_, .ref qq42_, .ref qq43_, .ref qq44_, .ref qq45_, .ref qq46_, .ref qq47_, .ref qq48_])) := hc_qq24_
                  have hF : ∀ q, FrA T q → q ≠ w → Mq28_ q = M q := fun q hq h0 => (hfr q (neA hq t_qq24_ (by decide))).trans (hF q hq h0)
                  refine yp (v := .int su) hC hK hH flX8_100 hc_qq24_ (hasT t_qq24_ (conf_set rfl ho_qq24_ (show (_ : List fS)[3]? = some _ from rfl) (okI (iRg _).1 (iRg _).2))) rfl rfl (Nat.le_of_ble_eq_true rfl) dX8_drawOne_86 (fun Hq_ lcq_ Mq49_ hc_qq24_ hfr hH => ?_)
                  have ho_qq24_ : conf kA T 2 (.inr (0, [.int xq30_, .int xq31_, .int xq32_, .int su, .int xq34_, .int xq35_, .int xq36_, .int xq37_, .int xq38_, .int xq39_, .int xq40_, .int xq41_, .ref qq42_, .ref qq43_, .ref qq44_, .ref qq45_, .ref qq46_, .ref qq47_, .ref qq48_])) := conf_set rfl ho_qq24_ (show (_ : List fS)[3]? = some _ from rfl) (okI (iRg _).1 (iRg _).2)
                  have hc_qq24_ : Mq49_ qq24_ = some (.inr (0, [.int xq30_, .int xq31_, .int xq32_, .int su, .int xq34_, .int xq35_, .int xq36_, .int xq37_, .int xq38_, .int xq39_, .int xq40_, .int xq41_, .ref qq42_, .ref qq43_, .ref qq44_, .ref qq45_, .ref qq46_, .ref qq47_, .ref qq48_])) := hc_qq24_
                  have hc_w : Mq49_ w = some (.inr (6, [.int td, .int gd, .int bc, .int py, .int rf, .int lt, .int tl, .int fp, .ref cs, .ref bs, .ref tp])) := (hfr w n_w_qq24_).trans hc_w
                  have hc_bs : Mq49_ bs = some (.inl (kA 5, 4, .inr (.inr (.inr (.inr g))))) := (hfr bs n_bs_qq24_).trans hc_bs
                  have hF : ∀ q, FrA T q → q ≠ w → Mq49_ q = M q := fun q hq h0 => (hfr q (neA hq t_qq24_ (by decide))).trans (hF q hq h0)
                  refine lv_aload hx hb dX8_drawOne_89 (lv_at hl 0 rfl) ?_
                  refine lv_aload_n hx hb dX8_drawOne_91 rfl (lv_at hl 1 rfl) ?_
                  refine xg hC hK hH flX8_29 hc_w rfl dX8_drawOne_92 ?_
                  refine lv_iload hx hb dX8_drawOne_95 (lv_at hl 6 rfl) ?_
                  refine lv_iadd hx hb dX8_drawOne_97 ?_
                  refine lv_topi (fun zq50_ e_zq50_ => ?_)
                  have h_zq50_ : zq50_.toInt = td.toInt + dy.toInt := by rw [e_zq50_, iAdd (by have := iRg td; have := iRg dy; omega) (by have := iRg td; have := iRg dy; omega)]
                  refine yp (v := .int zq50_) hC hK hH flX8_103 hc_qq24_ (hasT t_qq24_ (conf_set rfl ho_qq24_ (show (_ : List fS)[4]? = some _ from rfl) (okI (iRg _).1 (iRg _).2))) rfl rfl (Nat.le_of_ble_eq_true rfl) dX8_drawOne_98 (fun Hq_ lcq_ Mq51_ hc_qq24_ hfr hH => ?_)
                  have ho_qq24_ : conf kA T 2 (.inr (0, [.int xq30_, .int xq31_, .int xq32_, .int su, .int zq50_, .int xq35_, .int xq36_, .int xq37_, .int xq38_, .int xq39_, .int xq40_, .int xq41_, .ref qq42_, .ref qq43_, .ref qq44_, .ref qq45_, .ref qq46_, .ref qq47_, .ref qq48_])) := conf_set rfl ho_qq24_ (show (_ : List fS)[4]? = some _ from rfl) (okI (iRg _).1 (iRg _).2)
                  have hc_qq24_ : Mq51_ qq24_ = some (.inr (0, [.int xq30_, .int xq31_, .int xq32_, .int su, .int zq50_, .int xq35_, .int xq36_, .int xq37_, .int xq38_, .int xq39_, .int xq40_, .int xq41_, .ref qq42_, .ref qq43_, .ref qq44_, .ref qq45_, .ref qq46_, .ref qq47_, .ref qq48_])) := hc_qq24_
                  have hc_w : Mq51_ w = some (.inr (6, [.int td, .int gd, .int bc, .int py, .int rf, .int lt, .int tl, .int fp, .ref cs, .ref bs, .ref tp])) := (hfr w n_w_qq24_).trans hc_w
                  have hc_bs : Mq51_ bs = some (.inl (kA 5, 4, .inr (.inr (.inr (.inr g))))) := (hfr bs n_bs_qq24_).trans hc_bs
                  have hF : ∀ q, FrA T q → q ≠ w → Mq51_ q = M q := fun q hq h0 => (hfr q (neA hq t_qq24_ (by decide))).trans (hF q hq h0)
                  refine lv_aload_n hx hb dX8_drawOne_101 rfl (lv_at hl 1 rfl) ?_
                  refine lv_dup hx hb dX8_drawOne_102 rfl ?_
                  refine xg hC hK hH flX8_36 hc_w rfl dX8_drawOne_103 ?_
                  refine lv_iconst (v := 1) hx hb dX8_drawOne_106 (by decide) ?_
                  refine lv_iadd hx hb dX8_drawOne_107 ?_
                  refine lv_topi (fun zq52_ e_zq52_ => ?_)
                  have h_zq52_ : zq52_.toInt = bc.toInt + 1 := by rw [e_zq52_, iAdd (by have := iRg bc; have : (1 : Int32).toInt = 1 := rfl; omega) (by have := iRg bc; have : (1 : Int32).toInt = 1 := rfl; omega)]; rfl
                  refine yp (v := .int zq52_) hC hK hH flX8_36 hc_w (noT hn_w) rfl rfl (Nat.le_of_ble_eq_true rfl) dX8_drawOne_108 (fun Hq_ lcq_ Mq53_ hc_w hfr hH => ?_)
                  have hc_w : Mq53_ w = some (.inr (6, [.int td, .int gd, .int zq52_, .int py, .int rf, .int lt, .int tl, .int fp, .ref cs, .ref bs, .ref tp])) := hc_w
                  have hc_bs : Mq53_ bs = some (.inl (kA 5, 4, .inr (.inr (.inr (.inr g))))) := (hfr bs n_bs_w).trans hc_bs
                  have hc_qq24_ : Mq53_ qq24_ = some (.inr (0, [.int xq30_, .int xq31_, .int xq32_, .int su, .int zq50_, .int xq35_, .int xq36_, .int xq37_, .int xq38_, .int xq39_, .int xq40_, .int xq41_, .ref qq42_, .ref qq43_, .ref qq44_, .ref qq45_, .ref qq46_, .ref qq47_, .ref qq48_])) := (hfr qq24_ n_qq24__w).trans hc_qq24_
                  have hF : ∀ q, FrA T q → q ≠ w → Mq53_ q = M q := fun q hq h0 => (hfr q h0).trans (hF q hq h0)
                  refine lv_iconst (v := 0) hx hb dX8_drawOne_111 (by decide) ?_
                  exact ret_i hC hr hlk hK hH (⟨zq52_, ⟨by omega, by omega⟩, hc_w, rfl, hF⟩) (Nat.le_of_ble_eq_true rfl) (Nat.le_of_ble_eq_true rfl) dX8_drawOne_112
                · skip
                  have cq23_ : 99 < dy.toInt := cq23_
                  refine lv_bipush (v := 30) hx hb dX8_drawOne_58 (by decide) ?_
                  exact ret_i hC hr hlk hK hH (⟨bc, ⟨by omega, by omega⟩, hc_w, rfl, hF⟩) (Nat.le_of_ble_eq_true rfl) (Nat.le_of_ble_eq_true rfl) dX8_drawOne_60
        · skip
          have eT := eT.symm; subst eT
          have er_rq16_ := er_rq16_.symm; subst er_rq16_
          have eM := eM.symm; subst eM
          have cq18_ : ¬ (0 ≤ pe.toInt ∧ pe.toInt ≤ 7) := cq18_
          refine jif_ne (tgt := 32) hx hb dX8_drawOne_26 (by decide) (fun cq54_ => absurd cq54_ (by decide)) (fun cq54_ => ?_)
          refine lv_bipush (v := 30) hx hb dX8_drawOne_29 (by decide) ?_
          exact ret_i hC hr hlk hK hH (⟨bc, ⟨by omega, by omega⟩, hc_w, rfl, hF⟩) (Nat.le_of_ble_eq_true rfl) (Nat.le_of_ble_eq_true rfl) dX8_drawOne_31
      · skip
        have eT := eT.symm; subst eT
        have er_rq10_ := er_rq10_.symm; subst er_rq10_
        have eM := eM.symm; subst eM
        have cq12_ : ¬ (0 ≤ de.toInt ∧ de.toInt ≤ 7) := cq12_
        refine jif_eq (tgt := 29) hx hb dX8_drawOne_19 (by decide) (fun cq55_ => ?_) (fun cq55_ => absurd cq55_ (by decide))
        refine lv_bipush (v := 30) hx hb dX8_drawOne_29 (by decide) ?_
        exact ret_i hC hr hlk hK hH (⟨bc, ⟨by omega, by omega⟩, hc_w, rfl, hF⟩) (Nat.le_of_ble_eq_true rfl) (Nat.le_of_ble_eq_true rfl) dX8_drawOne_31
    · skip
      have eT := eT.symm; subst eT
      have er_rq4_ := er_rq4_.symm; subst er_rq4_
      have eM := eM.symm; subst eM
      have cq6_ : ¬ (0 ≤ dr.toInt ∧ dr.toInt ≤ 7) := cq6_
      refine jif_eq (tgt := 29) hx hb dX8_drawOne_12 (by decide) (fun cq56_ => ?_) (fun cq56_ => absurd cq56_ (by decide))
      refine lv_bipush (v := 30) hx hb dX8_drawOne_29 (by decide) ?_
      exact ret_i hC hr hlk hK hH (⟨bc, ⟨by omega, by omega⟩, hc_w, rfl, hF⟩) (Nat.le_of_ble_eq_true rfl) (Nat.le_of_ble_eq_true rfl) dX8_drawOne_31
