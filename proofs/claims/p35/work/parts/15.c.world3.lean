set_option maxHeartbeats 4000000 in
set_option maxRecDepth 100000 in
theorem c_X8_whyNoStep_q {l : Launch} {D : va_G} {kA : Nat → ClassId} {M : mM} {T : mT} {sz : Nat} {w cs bs tp : Nat} {td gd bc py rf lt tl fp : Int32} {g : Nat → Option Nat}{bq st ch sr no fo fb df : Nat} {dr de pe su du ha di sc ss op ac dn : Int32} {b to va : Int32} (hc_w : M w = some (.inr (6, [.int td, .int gd, .int bc, .int py, .int rf, .int lt, .int tl, .int fp, .ref cs, .ref bs, .ref tp]))) (hn_w : T w = none) (hc_bs : M bs = some (.inl (kA 5, 4, .inr (.inr (.inr (.inr g)))))) (hc_bq : M bq = some (.inr (0, [.int dr, .int de, .int pe, .int su, .int du, .int ha, .int di, .int sc, .int ss, .int op, .int ac, .int dn, .ref st, .ref ch, .ref sr, .ref no, .ref fo, .ref fb, .ref df]))) (ho_bq : conf kA T 2 (.inr (0, [.int dr, .int de, .int pe, .int su, .int du, .int ha, .int di, .int sc, .int ss, .int op, .int ac, .int dn, .ref st, .ref ch, .ref sr, .ref no, .ref fo, .ref fb, .ref df]))) (ht_cs : T cs = some 3) (ht_bs : T bs = some 6) (ht_tp : T tp = some 7) (ht_bq : T bq = some 2) (htd : 0 ≤ td.toInt ∧ td.toInt ≤ 999) (hbc : 0 ≤ bc.toInt ∧ bc.toInt ≤ 4) (htl : 0 ≤ tl.toInt ∧ tl.toInt ≤ 600) (b_sc : 0 ≤ sc.toInt ∧ sc.toInt ≤ 12) (b_dn : 0 ≤ dn.toInt ∧ dn.toInt ≤ 1) (hbr : 0 ≤ b.toInt ∧ b.toInt ≤ 3) (e_bq : g (Int32.toNatClampNeg b) = some bq) (hg : ∀ j, j < 4 → ∃ q, g j = some q ∧ T q = some 2) : mCi l yX8_whyNoStep cX8_whyNoStep 4 (some .int) 1 0 0 D kA M T sz [.ref w, .int b, .int to, .int va] (fun r u => (((sc.toInt ≤ 11 ∧ 0 ≤ to.toInt ∧ to.toInt ≤ 7) ∧ r = 0) ∨ (r = 30) ∨ (r = 31)) ∧ u.2 = T ∧ u.1 = M) := by
  unfold mCi
  refine start_W (by decide) (Nat.le_of_ble_eq_true rfl) ?_
  intro p e s m below meth c ls hC hr hlk hnm hK hH hsz hl
  have hx := hC.1
  have hb := hC.2.1
  have hl : lv_has ls 4 [(0, .ref w), (1, .int b), (2, .int to), (3, .int va)] := hl
  have n_w_bs : w ≠ bs := neM hc_w hc_bs (by simp)
  have n_w_bq : w ≠ bq := neM hc_w hc_bq (by simp)
  have n_bs_w : bs ≠ w := neM hc_bs hc_w (by simp)
  have n_bs_bq : bs ≠ bq := neM hc_bs hc_bq (by simp)
  have n_bq_w : bq ≠ w := neM hc_bq hc_w (by simp)
  have n_bq_bs : bq ≠ bs := neM hc_bq hc_bs (by simp)
  refine lv_aload_n hx hb dX8_whyNoStep_0 rfl (lv_at hl 0 rfl) ?_
  refine lv_iload_n hx hb dX8_whyNoStep_1 rfl (lv_at hl 1 rfl) ?_
  refine goI hK hH (runV (As := [.int b]) (rest := []) hC hK hH (c_X8_hasBill hc_w hn_w hc_bs ht_cs ht_bs ht_tp (by omega) (by omega) (by omega) hg) mlX8_68 (rcvM hK hH hc_w rfl) ⟨⟨Nat.le_of_ble_eq_true rfl, Nat.le_of_ble_eq_true rfl⟩, Nat.le_of_ble_eq_true rfl, Nat.le_of_ble_eq_true rfl⟩ rfl hl.1 rfl (Nat.le_of_ble_eq_true rfl) dX8_whyNoStep_2) (fun rq3_ Mq1_ Tq2_ Hq_ lcq_ hP hz hH => ?_)
  try dsimp only at hP
  obtain ⟨(⟨cq4_, er_rq3_⟩ | er_rq3_), eT, eM⟩ := hP
  · skip
    have eT := eT.symm; subst eT
    have er_rq3_ := er_rq3_.symm; subst er_rq3_
    have eM := eM.symm; subst eM
    have cq4_ : 0 ≤ b.toInt ∧ b.toInt ≤ 3 := cq4_
    refine jif_eq (tgt := 26) hx hb dX8_whyNoStep_5 (by decide) (fun cq5_ => absurd cq5_ (by decide)) (fun cq5_ => ?_)
    refine lv_iload_n hx hb dX8_whyNoStep_8 rfl (lv_at hl 2 rfl) ?_
    refine goI hK hH (runSN (As := [.int to]) (rest := []) hC hK hH (c_X9_isPerson) mlX8_94 ⟨⟨Nat.le_of_ble_eq_true rfl, Nat.le_of_ble_eq_true rfl⟩, Nat.le_of_ble_eq_true rfl, Nat.le_of_ble_eq_true rfl⟩ rfl hl.1 rfl (Nat.le_of_ble_eq_true rfl) dX8_whyNoStep_9) (fun rq8_ Mq6_ Tq7_ Hq_ lcq_ hP hz hH => ?_)
    try dsimp only at hP
    obtain ⟨(⟨cq9_, er_rq8_⟩ | ⟨cq10_, er_rq8_⟩), eT, eM⟩ := hP
    · skip
      have eT := eT.symm; subst eT
      have er_rq8_ := er_rq8_.symm; subst er_rq8_
      have eM := eM.symm; subst eM
      have cq9_ : 0 ≤ to.toInt ∧ to.toInt ≤ 7 := cq9_
      refine jif_eq (tgt := 26) hx hb dX8_whyNoStep_12 (by decide) (fun cq11_ => absurd cq11_ (by decide)) (fun cq11_ => ?_)
      refine lv_iload_n hx hb dX8_whyNoStep_15 rfl (lv_at hl 3 rfl) ?_
      refine jif_lt (tgt := 26) hx hb dX8_whyNoStep_16 (by decide) (fun cq12_ => ?_) (fun cq12_ => ?_)
      · skip
        have cq12_ : va.toInt < 0 := cq12_
        refine lv_bipush (v := 30) hx hb dX8_whyNoStep_26 (by decide) ?_
        exact ret_i hC hr hlk hK hH (⟨Or.inr (Or.inl (rfl)), rfl, rfl⟩) (Nat.le_of_ble_eq_true rfl) (Nat.le_of_ble_eq_true rfl) dX8_whyNoStep_28
      · skip
        have cq12_ : 0 ≤ va.toInt := cq12_
        refine lv_iload_n hx hb dX8_whyNoStep_19 rfl (lv_at hl 3 rfl) ?_
        refine lv_sipush (v := 999) hx hb dX8_whyNoStep_20 (by decide) ?_
        refine jic_le (tgt := 29) hx hb dX8_whyNoStep_23 (by decide) (fun cq13_ => ?_) (fun cq13_ => ?_)
        · skip
          have cq13_ : va.toInt ≤ 999 := cq13_
          refine lv_aload_n hx hb dX8_whyNoStep_29 rfl (lv_at hl 0 rfl) ?_
          refine xg hC hK hH flX8_17 hc_w rfl dX8_whyNoStep_30 ?_
          refine lv_iload_n hx hb dX8_whyNoStep_33 rfl (lv_at hl 1 rfl) ?_
          refine xqld (ck := 5) hC hK hH rfl hc_bs (iIn (by omega) (by omega)) dX8_whyNoStep_34 ?_
          refine lv_qr e_bq ?_
          refine lv_iload_n hx hb dX8_whyNoStep_35 rfl (lv_at hl 2 rfl) ?_
          refine goI hK hH (runV (As := [.int to]) (rest := []) hC hK hH (c_X1_whyNoStep hc_bq ho_bq ht_bq (by omega) (by omega)) mlX8_135 (rcvM hK hH hc_bq rfl) ⟨⟨Nat.le_of_ble_eq_true rfl, Nat.le_of_ble_eq_true rfl⟩, Nat.le_of_ble_eq_true rfl, Nat.le_of_ble_eq_true rfl⟩ rfl hl.1 rfl (Nat.le_of_ble_eq_true rfl) dX8_whyNoStep_36) (fun rq16_ Mq14_ Tq15_ Hq_ lcq_ hP hz hH => ?_)
          try dsimp only at hP
          obtain ⟨(⟨cq17_, er_rq16_⟩ | er_rq16_ | er_rq16_), eT, eM⟩ := hP
          · skip
            have eT := eT.symm; subst eT
            have er_rq16_ := er_rq16_.symm; subst er_rq16_
            have eM := eM.symm; subst eM
            have cq17_ : sc.toInt ≤ 11 := cq17_
            exact ret_i hC hr hlk hK hH (⟨Or.inl (⟨by omega, rfl⟩), rfl, rfl⟩) (Nat.le_of_ble_eq_true rfl) (Nat.le_of_ble_eq_true rfl) dX8_whyNoStep_39
          · skip
            have eT := eT.symm; subst eT
            have er_rq16_ := er_rq16_.symm; subst er_rq16_
            have eM := eM.symm; subst eM
            exact ret_i hC hr hlk hK hH (⟨Or.inr (Or.inl (rfl)), rfl, rfl⟩) (Nat.le_of_ble_eq_true rfl) (Nat.le_of_ble_eq_true rfl) dX8_whyNoStep_39
          · skip
            have eT := eT.symm; subst eT
            have er_rq16_ := er_rq16_.symm; subst er_rq16_
            have eM := eM.symm; subst eM
            exact ret_i hC hr hlk hK hH (⟨Or.inr (Or.inr (rfl)), rfl, rfl⟩) (Nat.le_of_ble_eq_true rfl) (Nat.le_of_ble_eq_true rfl) dX8_whyNoStep_39
        · skip
          have cq13_ : 999 < va.toInt := cq13_
          refine lv_bipush (v := 30) hx hb dX8_whyNoStep_26 (by decide) ?_
          exact ret_i hC hr hlk hK hH (⟨Or.inr (Or.inl (rfl)), rfl, rfl⟩) (Nat.le_of_ble_eq_true rfl) (Nat.le_of_ble_eq_true rfl) dX8_whyNoStep_28
    · skip
      have eT := eT.symm; subst eT
      have er_rq8_ := er_rq8_.symm; subst er_rq8_
      have eM := eM.symm; subst eM
      have cq10_ : ¬ (0 ≤ to.toInt ∧ to.toInt ≤ 7) := cq10_
      refine jif_eq (tgt := 26) hx hb dX8_whyNoStep_12 (by decide) (fun cq18_ => ?_) (fun cq18_ => absurd cq18_ (by decide))
      refine lv_bipush (v := 30) hx hb dX8_whyNoStep_26 (by decide) ?_
      exact ret_i hC hr hlk hK hH (⟨Or.inr (Or.inl (rfl)), rfl, rfl⟩) (Nat.le_of_ble_eq_true rfl) (Nat.le_of_ble_eq_true rfl) dX8_whyNoStep_28
  · skip
    have eT := eT.symm; subst eT
    have er_rq3_ := er_rq3_.symm; subst er_rq3_
    have eM := eM.symm; subst eM
    refine jif_eq (tgt := 26) hx hb dX8_whyNoStep_5 (by decide) (fun cq19_ => ?_) (fun cq19_ => absurd cq19_ (by decide))
    refine lv_bipush (v := 30) hx hb dX8_whyNoStep_26 (by decide) ?_
    exact ret_i hC hr hlk hK hH (⟨Or.inr (Or.inl (rfl)), rfl, rfl⟩) (Nat.le_of_ble_eq_true rfl) (Nat.le_of_ble_eq_true rfl) dX8_whyNoStep_28
set_option maxHeartbeats 4000000 in
set_option maxRecDepth 100000 in
theorem c_X8_whyNoStep_n {l : Launch} {D : va_G} {kA : Nat → ClassId} {M : mM} {T : mT} {sz : Nat} {w cs bs tp : Nat} {td gd bc py rf lt tl fp : Int32} {g : Nat → Option Nat} {b to va : Int32} (hc_w : M w = some (.inr (6, [.int td, .int gd, .int bc, .int py, .int rf, .int lt, .int tl, .int fp, .ref cs, .ref bs, .ref tp]))) (hn_w : T w = none) (hc_bs : M bs = some (.inl (kA 5, 4, .inr (.inr (.inr (.inr g)))))) (ht_cs : T cs = some 3) (ht_bs : T bs = some 6) (ht_tp : T tp = some 7) (htd : 0 ≤ td.toInt ∧ td.toInt ≤ 999) (hbc : 0 ≤ bc.toInt ∧ bc.toInt ≤ 4) (htl : 0 ≤ tl.toInt ∧ tl.toInt ≤ 600) (hbr : ¬ (0 ≤ b.toInt ∧ b.toInt ≤ 3)) (hg : ∀ j, j < 4 → ∃ q, g j = some q ∧ T q = some 2) : mCi l yX8_whyNoStep cX8_whyNoStep 4 (some .int) 1 0 0 D kA M T sz [.ref w, .int b, .int to, .int va] (fun r u => (r = 30) ∧ u.2 = T ∧ u.1 = M) := by
  unfold mCi
  refine start_W (by decide) (Nat.le_of_ble_eq_true rfl) ?_
  intro p e s m below meth c ls hC hr hlk hnm hK hH hsz hl
  have hx := hC.1
  have hb := hC.2.1
  have hl : lv_has ls 4 [(0, .ref w), (1, .int b), (2, .int to), (3, .int va)] := hl
  have n_w_bs : w ≠ bs := neM hc_w hc_bs (by simp)
  have n_bs_w : bs ≠ w := neM hc_bs hc_w (by simp)
  refine lv_aload_n hx hb dX8_whyNoStep_0 rfl (lv_at hl 0 rfl) ?_
  refine lv_iload_n hx hb dX8_whyNoStep_1 rfl (lv_at hl 1 rfl) ?_
  refine goI hK hH (runV (As := [.int b]) (rest := []) hC hK hH (c_X8_hasBill hc_w hn_w hc_bs ht_cs ht_bs ht_tp (by omega) (by omega) (by omega) hg) mlX8_68 (rcvM hK hH hc_w rfl) ⟨⟨Nat.le_of_ble_eq_true rfl, Nat.le_of_ble_eq_true rfl⟩, Nat.le_of_ble_eq_true rfl, Nat.le_of_ble_eq_true rfl⟩ rfl hl.1 rfl (Nat.le_of_ble_eq_true rfl) dX8_whyNoStep_2) (fun rq3_ Mq1_ Tq2_ Hq_ lcq_ hP hz hH => ?_)
  try dsimp only at hP
  obtain ⟨(⟨cq4_, er_rq3_⟩ | er_rq3_), eT, eM⟩ := hP
  · skip
    have eT := eT.symm; subst eT
    have er_rq3_ := er_rq3_.symm; subst er_rq3_
    have eM := eM.symm; subst eM
    have cq4_ : 0 ≤ b.toInt ∧ b.toInt ≤ 3 := cq4_
    exfalso; omega
  · skip
    have eT := eT.symm; subst eT
    have er_rq3_ := er_rq3_.symm; subst er_rq3_
    have eM := eM.symm; subst eM
    refine jif_eq (tgt := 26) hx hb dX8_whyNoStep_5 (by decide) (fun cq5_ => ?_) (fun cq5_ => absurd cq5_ (by decide))
    refine lv_bipush (v := 30) hx hb dX8_whyNoStep_26 (by decide) ?_
    exact ret_i hC hr hlk hK hH (⟨rfl, rfl, rfl⟩) (Nat.le_of_ble_eq_true rfl) (Nat.le_of_ble_eq_true rfl) dX8_whyNoStep_28
set_option maxHeartbeats 4000000 in
set_option maxRecDepth 100000 in
theorem c_X8_passOn {l : Launch} {D : va_G} {kA : Nat → ClassId} {M : mM} {T : mT} {sz : Nat} {w cs bs tp : Nat} {td gd bc py rf lt tl fp : Int32} {g : Nat → Option Nat} {b so to va no wi : Int32} (hc_w : M w = some (.inr (6, [.int td, .int gd, .int bc, .int py, .int rf, .int lt, .int tl, .int fp, .ref cs, .ref bs, .ref tp]))) (hn_w : T w = none) (hc_bs : M bs = some (.inl (kA 5, 4, .inr (.inr (.inr (.inr g)))))) (ht_cs : T cs = some 3) (ht_bs : T bs = some 6) (ht_tp : T tp = some 7) (htd : 0 ≤ td.toInt ∧ td.toInt ≤ 999) (hbc : 0 ≤ bc.toInt ∧ bc.toInt ≤ 4) (htl : 0 ≤ tl.toInt ∧ tl.toInt ≤ 600) (hno : no = 0 ∨ no = 1) (hwi : wi = 0 ∨ wi = 1) (hg : ∀ j, j < 4 → ∃ q, g j = some q ∧ T q = some 2) : mCi l yX8_passOn cX8_passOn 10 (some .int) 4 0 0 D kA M T sz [.ref w, .int b, .int so, .int to, .int va, .int no, .int wi] (fun r u => (True) ∧ u.2 = T ∧ (∀ q, FrA T q → u.1 q = M q)) := by
  unfold mCi
  refine start_W (by decide) (Nat.le_of_ble_eq_true rfl) ?_
  intro p e s m below meth c ls hC hr hlk hnm hK hH hsz hl
  have hx := hC.1
  have hb := hC.2.1
  have hl : lv_has ls 10 [(0, .ref w), (1, .int b), (2, .int so), (3, .int to), (4, .int va), (5, .int no), (6, .int wi)] := hl
  have hF : ∀ q, FrA T q → M q = M q := fun q _  => rfl
  have n_w_bs : w ≠ bs := neM hc_w hc_bs (by simp)
  have n_bs_w : bs ≠ w := neM hc_bs hc_w (by simp)
  rcases (show (0 ≤ b.toInt ∧ b.toInt ≤ 3) ∨ ¬ (0 ≤ b.toInt ∧ b.toInt ≤ 3) by omega) with hbr | hbr
  · skip
    obtain ⟨bq, e_bq, t_bq⟩ := hg (Int32.toNatClampNeg b) (by have := iCl (x := b) (by omega); omega)
    obtain ⟨Mq1_, fsq2_, hc_bq, hfr, ho_bq, hH⟩ := hH.unt t_bq rfl
    obtain ⟨xq3_, hl_xq3_, xq4_, hl_xq4_, xq5_, hl_xq5_, xq6_, hl_xq6_, xq7_, hl_xq7_, xq8_, hl_xq8_, xq9_, hl_xq9_, xq10_, hl_xq10_, xq11_, hl_xq11_, xq12_, hl_xq12_, xq13_, hl_xq13_, xq14_, hl_xq14_, qq15_, hl_qq15_, qq16_, hl_qq16_, qq17_, hl_qq17_, qq18_, hl_qq18_, qq19_, hl_qq19_, qq20_, hl_qq20_, qq21_, hl_qq21_, e_fsq2_⟩ := op2  ho_bq
    subst e_fsq2_
    have l_xq3_ : (-2147483648 : Int) ≤ xq3_.toInt := hl_xq3_.1
    have g_xq3_ : xq3_.toInt ≤ 2147483647 := hl_xq3_.2
    have l_xq4_ : (-2147483648 : Int) ≤ xq4_.toInt := hl_xq4_.1
    have g_xq4_ : xq4_.toInt ≤ 2147483647 := hl_xq4_.2
    have l_xq5_ : (-2147483648 : Int) ≤ xq5_.toInt := hl_xq5_.1
    have g_xq5_ : xq5_.toInt ≤ 2147483647 := hl_xq5_.2
    have l_xq6_ : (-2147483648 : Int) ≤ xq6_.toInt := hl_xq6_.1
    have g_xq6_ : xq6_.toInt ≤ 2147483647 := hl_xq6_.2
    have l_xq7_ : (-2147483648 : Int) ≤ xq7_.toInt := hl_xq7_.1
    have g_xq7_ : xq7_.toInt ≤ 2147483647 := hl_xq7_.2
    have l_xq8_ : (0 : Int) ≤ xq8_.toInt := hl_xq8_.1
    have g_xq8_ : xq8_.toInt ≤ 7 := hl_xq8_.2
    have l_xq9_ : (-2147483648 : Int) ≤ xq9_.toInt := hl_xq9_.1
    have g_xq9_ : xq9_.toInt ≤ 2147483647 := hl_xq9_.2
    have l_xq10_ : (0 : Int) ≤ xq10_.toInt := hl_xq10_.1
    have g_xq10_ : xq10_.toInt ≤ 12 := hl_xq10_.2
    have l_xq11_ : (0 : Int) ≤ xq11_.toInt := hl_xq11_.1
    have g_xq11_ : xq11_.toInt ≤ 12 := hl_xq11_.2
    have l_xq12_ : (0 : Int) ≤ xq12_.toInt := hl_xq12_.1
    have g_xq12_ : xq12_.toInt ≤ 1 := hl_xq12_.2
    have l_xq13_ : (0 : Int) ≤ xq13_.toInt := hl_xq13_.1
    have g_xq13_ : xq13_.toInt ≤ 1 := hl_xq13_.2
    have l_xq14_ : (0 : Int) ≤ xq14_.toInt := hl_xq14_.1
    have g_xq14_ : xq14_.toInt ≤ 1 := hl_xq14_.2
    have t_qq15_ := hl_qq15_
    have t_qq16_ := hl_qq16_
    have t_qq17_ := hl_qq17_
    have t_qq18_ := hl_qq18_
    have t_qq19_ := hl_qq19_
    have t_qq20_ := hl_qq20_
    have t_qq21_ := hl_qq21_
    have hc_w : Mq1_ w = some (.inr (6, [.int td, .int gd, .int bc, .int py, .int rf, .int lt, .int tl, .int fp, .ref cs, .ref bs, .ref tp])) := (hfr w (neA (Or.inl hn_w) t_bq (by decide))).trans hc_w
    have hc_bs : Mq1_ bs = some (.inl (kA 5, 4, .inr (.inr (.inr (.inr g))))) := (hfr bs (neA (Or.inr ht_bs) t_bq (by decide))).trans hc_bs
    have n_w_bq : w ≠ bq := (neA (Or.inl hn_w) t_bq (by decide))
    have n_bq_w : bq ≠ w := Ne.symm n_w_bq
    have n_bs_bq : bs ≠ bq := (neA (Or.inr ht_bs) t_bq (by decide))
    have n_bq_bs : bq ≠ bs := Ne.symm n_bs_bq
    have hc_bq : Mq1_ bq = some (.inr (0, [.int xq3_, .int xq4_, .int xq5_, .int xq6_, .int xq7_, .int xq8_, .int xq9_, .int xq10_, .int xq11_, .int xq12_, .int xq13_, .int xq14_, .ref qq15_, .ref qq16_, .ref qq17_, .ref qq18_, .ref qq19_, .ref qq20_, .ref qq21_])) := hc_bq
    have hF : ∀ q, FrA T q → Mq1_ q = M q := fun q hq  => (hfr q (neA hq t_bq (by decide))).trans (hF q hq )
    refine lv_iload_n hx hb dX8_passOn_0 rfl (lv_at hl 2 rfl) ?_
    refine jif_lt (tgt := 19) hx hb dX8_passOn_1 (by decide) (fun cq22_ => ?_) (fun cq22_ => ?_)
    · skip
      have cq22_ : so.toInt < 0 := cq22_
      refine lv_bipush (v := 30) hx hb dX8_passOn_19 (by decide) ?_
      exact ret_i hC hr hlk hK hH (⟨trivial, rfl, hF⟩) (Nat.le_of_ble_eq_true rfl) (Nat.le_of_ble_eq_true rfl) dX8_passOn_21
    · skip
      have cq22_ : 0 ≤ so.toInt := cq22_
      refine lv_iload_n hx hb dX8_passOn_4 rfl (lv_at hl 2 rfl) ?_
      refine lv_iconst (v := 3) hx hb dX8_passOn_5 (by decide) ?_
      refine jic_gt (tgt := 19) hx hb dX8_passOn_6 (by decide) (fun cq23_ => ?_) (fun cq23_ => ?_)
      · skip
        have cq23_ : 3 < so.toInt := cq23_
        refine lv_bipush (v := 30) hx hb dX8_passOn_19 (by decide) ?_
        exact ret_i hC hr hlk hK hH (⟨trivial, rfl, hF⟩) (Nat.le_of_ble_eq_true rfl) (Nat.le_of_ble_eq_true rfl) dX8_passOn_21
      · skip
        have cq23_ : so.toInt ≤ 3 := cq23_
        refine lv_iload hx hb dX8_passOn_9 (lv_at hl 6 rfl) ?_
        refine jif_eq (tgt := 22) hx hb dX8_passOn_11 (by decide) (fun cq24_ => ?_) (fun cq24_ => ?_)
        · skip
          have cq24_ : wi.toInt = 0 := cq24_
          refine lv_aload_n hx hb dX8_passOn_22 rfl (lv_at hl 0 rfl) ?_
          refine lv_iload_n hx hb dX8_passOn_23 rfl (lv_at hl 1 rfl) ?_
          refine lv_iload_n hx hb dX8_passOn_24 rfl (lv_at hl 3 rfl) ?_
          refine lv_iload hx hb dX8_passOn_25 (lv_at hl 4 rfl) ?_
          refine goI hK hH (runV (As := [.int b, .int to, .int va]) (rest := []) hC hK hH (c_X8_whyNoStep_q hc_w hn_w hc_bs hc_bq ho_bq ht_cs ht_bs ht_tp t_bq (by omega) (by omega) (by omega) (by omega) (by omega) (by omega) (by exact e_bq) hg) mlX8_109 (rcvM hK hH hc_w rfl) ⟨⟨Nat.le_of_ble_eq_true rfl, Nat.le_of_ble_eq_true rfl⟩, Nat.le_of_ble_eq_true rfl, Nat.le_of_ble_eq_true rfl⟩ rfl hl.1 rfl (Nat.le_of_ble_eq_true rfl) dX8_passOn_27) (fun rq27_ Mq25_ Tq26_ Hq_ lcq_ hP hz hH => ?_)
          try dsimp only at hP
          obtain ⟨(⟨cq28_, er_rq27_⟩ | er_rq27_ | er_rq27_), eT, eM⟩ := hP
          · skip
            have eT := eT.symm; subst eT
            have er_rq27_ := er_rq27_.symm; subst er_rq27_
            have eM := eM.symm; subst eM
            have cq28_ : xq10_.toInt ≤ 11 ∧ 0 ≤ to.toInt ∧ to.toInt ≤ 7 := cq28_
            refine lv_istore (lv' := [(7, .int 0), (0, .ref w), (1, .int b), (2, .int so), (3, .int to), (4, .int va), (5, .int no), (6, .int wi)]) hx hb dX8_passOn_30 hl (by decide) rfl (fun ls hl => ?_)
            refine lv_iload hx hb dX8_passOn_32 (lv_at hl 0 rfl) ?_
            refine jif_ne (tgt := 100) hx hb dX8_passOn_34 (by decide) (fun cq29_ => absurd cq29_ (by decide)) (fun cq29_ => ?_)
            refine lv_aload_n hx hb dX8_passOn_37 rfl (lv_at hl 1 rfl) ?_
            refine xg hC hK hH flX8_17 hc_w rfl dX8_passOn_38 ?_
            refine lv_iload_n hx hb dX8_passOn_41 rfl (lv_at hl 2 rfl) ?_
            refine xqld (ck := 5) hC hK hH rfl hc_bs (iIn (by omega) (by omega)) dX8_passOn_42 ?_
            refine lv_qr e_bq ?_
            refine lv_astore (lv' := [(8, .ref bq), (7, .int 0), (0, .ref w), (1, .int b), (2, .int so), (3, .int to), (4, .int va), (5, .int no), (6, .int wi)]) hx hb dX8_passOn_43 hl (by decide) rfl (fun ls hl => ?_)
            refine lv_aload hx hb dX8_passOn_45 (lv_at hl 0 rfl) ?_
            refine lv_iload_n hx hb dX8_passOn_47 rfl (lv_at hl 4 rfl) ?_
            refine lv_iload_n hx hb dX8_passOn_48 rfl (lv_at hl 4 rfl) ?_
            refine lv_iconst (v := 3) hx hb dX8_passOn_49 (by decide) ?_
            refine jic_ne (tgt := 57) hx hb dX8_passOn_50 (by decide) (fun cq30_ => ?_) (fun cq30_ => ?_)
            · skip
              have cq30_ : so.toInt ≠ 3 := cq30_
              refine lv_aload hx hb dX8_passOn_57 (lv_at hl 0 rfl) ?_
              refine xg hC hK hH flX8_113 hc_bq rfl dX8_passOn_59 ?_
              refine lv_iload_n hx hb dX8_passOn_62 rfl (lv_at hl 5 rfl) ?_
              refine lv_aload_n hx hb dX8_passOn_63 rfl (lv_at hl 2 rfl) ?_
              refine xg hC hK hH flX8_29 hc_w rfl dX8_passOn_64 ?_
              refine goR hK hH (runV (As := [.int so, .int xq8_, .int to, .int td]) (rest := []) hC hK hH (c_X1_newStep hc_bq ho_bq t_bq t_qq15_ (by omega) (by omega)) mlX8_116 (rcvM hK hH hc_bq rfl) ⟨⟨Nat.le_of_ble_eq_true rfl, Nat.le_of_ble_eq_true rfl⟩, Nat.le_of_ble_eq_true rfl, Nat.le_of_ble_eq_true rfl⟩ rfl hl.1 rfl (Nat.le_of_ble_eq_true rfl) dX8_passOn_67) (fun rq33_ Mq31_ Tq32_ Hq_ lcq_ hP hz hH => ?_)
              try dsimp only at hP
              obtain ⟨(t_rq33_), eT, hfr⟩ := hP
              have eT := eT.symm; subst eT
              have hc_w : Mq31_ w = some (.inr (6, [.int td, .int gd, .int bc, .int py, .int rf, .int lt, .int tl, .int fp, .ref cs, .ref bs, .ref tp])) := (hfr w (Or.inl hn_w) ).trans hc_w
              have hc_bs : Mq31_ bs = some (.inl (kA 5, 4, .inr (.inr (.inr (.inr g))))) := (hfr bs (Or.inr (Or.inl ht_bs)) ).trans hc_bs
              have hc_bq : Mq31_ bq = some (.inr (0, [.int xq3_, .int xq4_, .int xq5_, .int xq6_, .int xq7_, .int xq8_, .int xq9_, .int xq10_, .int xq11_, .int xq12_, .int xq13_, .int xq14_, .ref qq15_, .ref qq16_, .ref qq17_, .ref qq18_, .ref qq19_, .ref qq20_, .ref qq21_])) := (hfr bq (Or.inr (Or.inr t_bq)) ).trans hc_bq
              have hF : ∀ q, FrA T q → Mq31_ q = M q := fun q hq  => (hfr q (FrA.k hq) ).trans (hF q hq )
              refine lv_astore (lv' := [(9, .ref rq33_), (8, .ref bq), (7, .int 0), (0, .ref w), (1, .int b), (2, .int so), (3, .int to), (4, .int va), (5, .int no), (6, .int wi)]) hx hb dX8_passOn_70 hl (by decide) rfl (fun ls hl => ?_)
              refine lv_aload hx hb dX8_passOn_72 (lv_at hl 0 rfl) ?_
              refine lv_iload hx hb dX8_passOn_74 (lv_at hl 7 rfl) ?_
              refine tpu hC hK hH flX8_120 t_rq33_ rfl rfl (iRg _).1 (iRg _).2 rfl rfl dX8_passOn_76 (fun Hq_ lcq_ Mq34_ _ hfr hH => ?_)
              have hc_w : Mq34_ w = some (.inr (6, [.int td, .int gd, .int bc, .int py, .int rf, .int lt, .int tl, .int fp, .ref cs, .ref bs, .ref tp])) := (hfr w (neF (Or.inl hn_w) t_rq33_ (by decide))).trans hc_w
              have hc_bs : Mq34_ bs = some (.inl (kA 5, 4, .inr (.inr (.inr (.inr g))))) := (hfr bs (neF (Or.inr (Or.inl ht_bs)) t_rq33_ (by decide))).trans hc_bs
              have hc_bq : Mq34_ bq = some (.inr (0, [.int xq3_, .int xq4_, .int xq5_, .int xq6_, .int xq7_, .int xq8_, .int xq9_, .int xq10_, .int xq11_, .int xq12_, .int xq13_, .int xq14_, .ref qq15_, .ref qq16_, .ref qq17_, .ref qq18_, .ref qq19_, .ref qq20_, .ref qq21_])) := (hfr bq (neF (Or.inr (Or.inr t_bq)) t_rq33_ (by decide))).trans hc_bq
              have hF : ∀ q, FrA T q → Mq34_ q = M q := fun q hq  => (hfr q (neA hq t_rq33_ (by decide))).trans (hF q hq )
              refine lv_aload hx hb dX8_passOn_79 (lv_at hl 0 rfl) ?_
              refine lv_iload hx hb dX8_passOn_81 (lv_at hl 8 rfl) ?_
              refine tpu hC hK hH flX8_125 t_rq33_ rfl rfl (zl hno) (zh hno) (nz hno) (fz hno) dX8_passOn_83 (fun Hq_ lcq_ Mq35_ _ hfr hH => ?_)
              have hc_w : Mq35_ w = some (.inr (6, [.int td, .int gd, .int bc, .int py, .int rf, .int lt, .int tl, .int fp, .ref cs, .ref bs, .ref tp])) := (hfr w (neF (Or.inl hn_w) t_rq33_ (by decide))).trans hc_w
              have hc_bs : Mq35_ bs = some (.inl (kA 5, 4, .inr (.inr (.inr (.inr g))))) := (hfr bs (neF (Or.inr (Or.inl ht_bs)) t_rq33_ (by decide))).trans hc_bs
              have hc_bq : Mq35_ bq = some (.inr (0, [.int xq3_, .int xq4_, .int xq5_, .int xq6_, .int xq7_, .int xq8_, .int xq9_, .int xq10_, .int xq11_, .int xq12_, .int xq13_, .int xq14_, .ref qq15_, .ref qq16_, .ref qq17_, .ref qq18_, .ref qq19_, .ref qq20_, .ref qq21_])) := (hfr bq (neF (Or.inr (Or.inr t_bq)) t_rq33_ (by decide))).trans hc_bq
              have hF : ∀ q, FrA T q → Mq35_ q = M q := fun q hq  => (hfr q (neA hq t_rq33_ (by decide))).trans (hF q hq )
              refine lv_aload hx hb dX8_passOn_86 (lv_at hl 0 rfl) ?_
              refine lv_iload hx hb dX8_passOn_88 (lv_at hl 9 rfl) ?_
              refine tpu hC hK hH flX8_128 t_rq33_ rfl rfl (zl hwi) (zh hwi) (nz hwi) (fz hwi) dX8_passOn_90 (fun Hq_ lcq_ Mq36_ _ hfr hH => ?_)
              have hc_w : Mq36_ w = some (.inr (6, [.int td, .int gd, .int bc, .int py, .int rf, .int lt, .int tl, .int fp, .ref cs, .ref bs, .ref tp])) := (hfr w (neF (Or.inl hn_w) t_rq33_ (by decide))).trans hc_w
              have hc_bs : Mq36_ bs = some (.inl (kA 5, 4, .inr (.inr (.inr (.inr g))))) := (hfr bs (neF (Or.inr (Or.inl ht_bs)) t_rq33_ (by decide))).trans hc_bs
              have hc_bq : Mq36_ bq = some (.inr (0, [.int xq3_, .int xq4_, .int xq5_, .int xq6_, .int xq7_, .int xq8_, .int xq9_, .int xq10_, .int xq11_, .int xq12_, .int xq13_, .int xq14_, .ref qq15_, .ref qq16_, .ref qq17_, .ref qq18_, .ref qq19_, .ref qq20_, .ref qq21_])) := (hfr bq (neF (Or.inr (Or.inr t_bq)) t_rq33_ (by decide))).trans hc_bq
              have hF : ∀ q, FrA T q → Mq36_ q = M q := fun q hq  => (hfr q (neA hq t_rq33_ (by decide))).trans (hF q hq )
              refine lv_aload hx hb dX8_passOn_93 (lv_at hl 1 rfl) ?_
              refine lv_aload hx hb dX8_passOn_95 (lv_at hl 0 rfl) ?_
              refine goV hK hH (runV (As := [.ref rq33_]) (rest := []) hC hK hH (c_X1_addStep hc_bq ho_bq t_bq t_rq33_ t_qq16_ (by omega)) mlX8_131 (rcvM hK hH hc_bq rfl) ⟨⟨Nat.le_of_ble_eq_true rfl, Nat.le_of_ble_eq_true rfl⟩, Nat.le_of_ble_eq_true rfl, Nat.le_of_ble_eq_true rfl⟩ rfl hl.1 rfl (Nat.le_of_ble_eq_true rfl) dX8_passOn_97) (fun Mq37_ Tq38_ Hq_ lcq_ hP hz hH => ?_)
              try dsimp only at hP
              obtain ⟨xq40_, ⟨l_xq40_, g_xq40_⟩, xq41_, ⟨l_xq41_, g_xq41_⟩, (⟨hx_bq, hy_bq⟩), eT, hfr⟩ := hP
              have eT := eT.symm; subst eT
              have hc_w : Mq37_ w = some (.inr (6, [.int td, .int gd, .int bc, .int py, .int rf, .int lt, .int tl, .int fp, .ref cs, .ref bs, .ref tp])) := (hfr w (Or.inl hn_w) n_w_bq).trans hc_w
              have hc_bs : Mq37_ bs = some (.inl (kA 5, 4, .inr (.inr (.inr (.inr g))))) := (hfr bs (Or.inr (Or.inl ht_bs)) n_bs_bq).trans hc_bs
              have hc_bq : Mq37_ bq = some (.inr (0, [.int xq3_, .int xq4_, .int xq5_, .int xq6_, .int xq7_, .int xq40_, .int xq9_, .int xq41_, .int xq11_, .int xq12_, .int xq13_, .int xq14_, .ref qq15_, .ref qq16_, .ref qq17_, .ref qq18_, .ref qq19_, .ref qq20_, .ref qq21_])) := hx_bq
              have ho_bq : conf kA T 2 (.inr (0, [.int xq3_, .int xq4_, .int xq5_, .int xq6_, .int xq7_, .int xq40_, .int xq9_, .int xq41_, .int xq11_, .int xq12_, .int xq13_, .int xq14_, .ref qq15_, .ref qq16_, .ref qq17_, .ref qq18_, .ref qq19_, .ref qq20_, .ref qq21_])) := hy_bq
              have hF : ∀ q, FrA T q → Mq37_ q = M q := fun q hq  => (hfr q (FrA.k hq)  (neA hq t_bq (by decide))).trans (hF q hq )
              refine lv_iload hx hb dX8_passOn_100 (lv_at hl 2 rfl) ?_
              exact ret_i hC hr hlk hK hH (⟨trivial, rfl, hF⟩) (Nat.le_of_ble_eq_true rfl) (Nat.le_of_ble_eq_true rfl) dX8_passOn_102
            · skip
              have cq30_ : so.toInt = 3 := cq30_
              refine lv_iconst (v := -1) hx hb dX8_passOn_53 (by decide) ?_
              refine lv_goto (tgt := 62) hx hb dX8_passOn_54 (by decide) ?_
              refine lv_iload_n hx hb dX8_passOn_62 rfl (lv_at hl 5 rfl) ?_
              refine lv_aload_n hx hb dX8_passOn_63 rfl (lv_at hl 2 rfl) ?_
              refine xg hC hK hH flX8_29 hc_w rfl dX8_passOn_64 ?_
              refine goR hK hH (runV (As := [.int so, .int (-1), .int to, .int td]) (rest := []) hC hK hH (c_X1_newStep hc_bq ho_bq t_bq t_qq15_ (by omega) (by omega)) mlX8_116 (rcvM hK hH hc_bq rfl) ⟨⟨Nat.le_of_ble_eq_true rfl, Nat.le_of_ble_eq_true rfl⟩, Nat.le_of_ble_eq_true rfl, Nat.le_of_ble_eq_true rfl⟩ rfl hl.1 rfl (Nat.le_of_ble_eq_true rfl) dX8_passOn_67) (fun rq44_ Mq42_ Tq43_ Hq_ lcq_ hP hz hH => ?_)
              try dsimp only at hP
              obtain ⟨(t_rq44_), eT, hfr⟩ := hP
              have eT := eT.symm; subst eT
              have hc_w : Mq42_ w = some (.inr (6, [.int td, .int gd, .int bc, .int py, .int rf, .int lt, .int tl, .int fp, .ref cs, .ref bs, .ref tp])) := (hfr w (Or.inl hn_w) ).trans hc_w
              have hc_bs : Mq42_ bs = some (.inl (kA 5, 4, .inr (.inr (.inr (.inr g))))) := (hfr bs (Or.inr (Or.inl ht_bs)) ).trans hc_bs
              have hc_bq : Mq42_ bq = some (.inr (0, [.int xq3_, .int xq4_, .int xq5_, .int xq6_, .int xq7_, .int xq8_, .int xq9_, .int xq10_, .int xq11_, .int xq12_, .int xq13_, .int xq14_, .ref qq15_, .ref qq16_, .ref qq17_, .ref qq18_, .ref qq19_, .ref qq20_, .ref qq21_])) := (hfr bq (Or.inr (Or.inr t_bq)) ).trans hc_bq
              have hF : ∀ q, FrA T q → Mq42_ q = M q := fun q hq  => (hfr q (FrA.k hq) ).trans (hF q hq )
              refine lv_astore (lv' := [(9, .ref rq44_), (8, .ref bq), (7, .int 0), (0, .ref w), (1, .int b), (2, .int so), (3, .int to), (4, .int va), (5, .int no), (6, .int wi)]) hx hb dX8_passOn_70 hl (by decide) rfl (fun ls hl => ?_)
              refine lv_aload hx hb dX8_passOn_72 (lv_at hl 0 rfl) ?_
              refine lv_iload hx hb dX8_passOn_74 (lv_at hl 7 rfl) ?_
              refine tpu hC hK hH flX8_120 t_rq44_ rfl rfl (iRg _).1 (iRg _).2 rfl rfl dX8_passOn_76 (fun Hq_ lcq_ Mq45_ _ hfr hH => ?_)
              have hc_w : Mq45_ w = some (.inr (6, [.int td, .int gd, .int bc, .int py, .int rf, .int lt, .int tl, .int fp, .ref cs, .ref bs, .ref tp])) := (hfr w (neF (Or.inl hn_w) t_rq44_ (by decide))).trans hc_w
              have hc_bs : Mq45_ bs = some (.inl (kA 5, 4, .inr (.inr (.inr (.inr g))))) := (hfr bs (neF (Or.inr (Or.inl ht_bs)) t_rq44_ (by decide))).trans hc_bs
              have hc_bq : Mq45_ bq = some (.inr (0, [.int xq3_, .int xq4_, .int xq5_, .int xq6_, .int xq7_, .int xq8_, .int xq9_, .int xq10_, .int xq11_, .int xq12_, .int xq13_, .int xq14_, .ref qq15_, .ref qq16_, .ref qq17_, .ref qq18_, .ref qq19_, .ref qq20_, .ref qq21_])) := (hfr bq (neF (Or.inr (Or.inr t_bq)) t_rq44_ (by decide))).trans hc_bq
              have hF : ∀ q, FrA T q → Mq45_ q = M q := fun q hq  => (hfr q (neA hq t_rq44_ (by decide))).trans (hF q hq )
              refine lv_aload hx hb dX8_passOn_79 (lv_at hl 0 rfl) ?_
              refine lv_iload hx hb dX8_passOn_81 (lv_at hl 8 rfl) ?_
              refine tpu hC hK hH flX8_125 t_rq44_ rfl rfl (zl hno) (zh hno) (nz hno) (fz hno) dX8_passOn_83 (fun Hq_ lcq_ Mq46_ _ hfr hH => ?_)
              have hc_w : Mq46_ w = some (.inr (6, [.int td, .int gd, .int bc, .int py, .int rf, .int lt, .int tl, .int fp, .ref cs, .ref bs, .ref tp])) := (hfr w (neF (Or.inl hn_w) t_rq44_ (by decide))).trans hc_w
              have hc_bs : Mq46_ bs = some (.inl (kA 5, 4, .inr (.inr (.inr (.inr g))))) := (hfr bs (neF (Or.inr (Or.inl ht_bs)) t_rq44_ (by decide))).trans hc_bs
              have hc_bq : Mq46_ bq = some (.inr (0, [.int xq3_, .int xq4_, .int xq5_, .int xq6_, .int xq7_, .int xq8_, .int xq9_, .int xq10_, .int xq11_, .int xq12_, .int xq13_, .int xq14_, .ref qq15_, .ref qq16_, .ref qq17_, .ref qq18_, .ref qq19_, .ref qq20_, .ref qq21_])) := (hfr bq (neF (Or.inr (Or.inr t_bq)) t_rq44_ (by decide))).trans hc_bq
              have hF : ∀ q, FrA T q → Mq46_ q = M q := fun q hq  => (hfr q (neA hq t_rq44_ (by decide))).trans (hF q hq )
              refine lv_aload hx hb dX8_passOn_86 (lv_at hl 0 rfl) ?_
              refine lv_iload hx hb dX8_passOn_88 (lv_at hl 9 rfl) ?_
              refine tpu hC hK hH flX8_128 t_rq44_ rfl rfl (zl hwi) (zh hwi) (nz hwi) (fz hwi) dX8_passOn_90 (fun Hq_ lcq_ Mq47_ _ hfr hH => ?_)
              have hc_w : Mq47_ w = some (.inr (6, [.int td, .int gd, .int bc, .int py, .int rf, .int lt, .int tl, .int fp, .ref cs, .ref bs, .ref tp])) := (hfr w (neF (Or.inl hn_w) t_rq44_ (by decide))).trans hc_w
              have hc_bs : Mq47_ bs = some (.inl (kA 5, 4, .inr (.inr (.inr (.inr g))))) := (hfr bs (neF (Or.inr (Or.inl ht_bs)) t_rq44_ (by decide))).trans hc_bs
              have hc_bq : Mq47_ bq = some (.inr (0, [.int xq3_, .int xq4_, .int xq5_, .int xq6_, .int xq7_, .int xq8_, .int xq9_, .int xq10_, .int xq11_, .int xq12_, .int xq13_, .int xq14_, .ref qq15_, .ref qq16_, .ref qq17_, .ref qq18_, .ref qq19_, .ref qq20_, .ref qq21_])) := (hfr bq (neF (Or.inr (Or.inr t_bq)) t_rq44_ (by decide))).trans hc_bq
              have hF : ∀ q, FrA T q → Mq47_ q = M q := fun q hq  => (hfr q (neA hq t_rq44_ (by decide))).trans (hF q hq )
              refine lv_aload hx hb dX8_passOn_93 (lv_at hl 1 rfl) ?_
              refine lv_aload hx hb dX8_passOn_95 (lv_at hl 0 rfl) ?_
              refine goV hK hH (runV (As := [.ref rq44_]) (rest := []) hC hK hH (c_X1_addStep hc_bq ho_bq t_bq t_rq44_ t_qq16_ (by omega)) mlX8_131 (rcvM hK hH hc_bq rfl) ⟨⟨Nat.le_of_ble_eq_true rfl, Nat.le_of_ble_eq_true rfl⟩, Nat.le_of_ble_eq_true rfl, Nat.le_of_ble_eq_true rfl⟩ rfl hl.1 rfl (Nat.le_of_ble_eq_true rfl) dX8_passOn_97) (fun Mq48_ Tq49_ Hq_ lcq_ hP hz hH => ?_)
              try dsimp only at hP
              obtain ⟨xq51_, ⟨l_xq51_, g_xq51_⟩, xq52_, ⟨l_xq52_, g_xq52_⟩, (⟨hx_bq, hy_bq⟩), eT, hfr⟩ := hP
              have eT := eT.symm; subst eT
              have hc_w : Mq48_ w = some (.inr (6, [.int td, .int gd, .int bc, .int py, .int rf, .int lt, .int tl, .int fp, .ref cs, .ref bs, .ref tp])) := (hfr w (Or.inl hn_w) n_w_bq).trans hc_w
              have hc_bs : Mq48_ bs = some (.inl (kA 5, 4, .inr (.inr (.inr (.inr g))))) := (hfr bs (Or.inr (Or.inl ht_bs)) n_bs_bq).trans hc_bs
              have hc_bq : Mq48_ bq = some (.inr (0, [.int xq3_, .int xq4_, .int xq5_, .int xq6_, .int xq7_, .int xq51_, .int xq9_, .int xq52_, .int xq11_, .int xq12_, .int xq13_, .int xq14_, .ref qq15_, .ref qq16_, .ref qq17_, .ref qq18_, .ref qq19_, .ref qq20_, .ref qq21_])) := hx_bq
              have ho_bq : conf kA T 2 (.inr (0, [.int xq3_, .int xq4_, .int xq5_, .int xq6_, .int xq7_, .int xq51_, .int xq9_, .int xq52_, .int xq11_, .int xq12_, .int xq13_, .int xq14_, .ref qq15_, .ref qq16_, .ref qq17_, .ref qq18_, .ref qq19_, .ref qq20_, .ref qq21_])) := hy_bq
              have hF : ∀ q, FrA T q → Mq48_ q = M q := fun q hq  => (hfr q (FrA.k hq)  (neA hq t_bq (by decide))).trans (hF q hq )
              refine lv_iload hx hb dX8_passOn_100 (lv_at hl 2 rfl) ?_
              exact ret_i hC hr hlk hK hH (⟨trivial, rfl, hF⟩) (Nat.le_of_ble_eq_true rfl) (Nat.le_of_ble_eq_true rfl) dX8_passOn_102
          · skip
            have eT := eT.symm; subst eT
            have er_rq27_ := er_rq27_.symm; subst er_rq27_
            have eM := eM.symm; subst eM
            refine lv_istore (lv' := [(7, .int 30), (0, .ref w), (1, .int b), (2, .int so), (3, .int to), (4, .int va), (5, .int no), (6, .int wi)]) hx hb dX8_passOn_30 hl (by decide) rfl (fun ls hl => ?_)
            refine lv_iload hx hb dX8_passOn_32 (lv_at hl 0 rfl) ?_
            refine jif_ne (tgt := 100) hx hb dX8_passOn_34 (by decide) (fun cq53_ => ?_) (fun cq53_ => absurd cq53_ (by decide))
            refine lv_iload hx hb dX8_passOn_100 (lv_at hl 0 rfl) ?_
            exact ret_i hC hr hlk hK hH (⟨trivial, rfl, hF⟩) (Nat.le_of_ble_eq_true rfl) (Nat.le_of_ble_eq_true rfl) dX8_passOn_102
          · skip
            have eT := eT.symm; subst eT
            have er_rq27_ := er_rq27_.symm; subst er_rq27_
            have eM := eM.symm; subst eM
            refine lv_istore (lv' := [(7, .int 31), (0, .ref w), (1, .int b), (2, .int so), (3, .int to), (4, .int va), (5, .int no), (6, .int wi)]) hx hb dX8_passOn_30 hl (by decide) rfl (fun ls hl => ?_)
            refine lv_iload hx hb dX8_passOn_32 (lv_at hl 0 rfl) ?_
            refine jif_ne (tgt := 100) hx hb dX8_passOn_34 (by decide) (fun cq54_ => ?_) (fun cq54_ => absurd cq54_ (by decide))
            refine lv_iload hx hb dX8_passOn_100 (lv_at hl 0 rfl) ?_
            exact ret_i hC hr hlk hK hH (⟨trivial, rfl, hF⟩) (Nat.le_of_ble_eq_true rfl) (Nat.le_of_ble_eq_true rfl) dX8_passOn_102
        · skip
          have cq24_ : wi.toInt ≠ 0 := cq24_
          refine lv_iload_n hx hb dX8_passOn_14 rfl (lv_at hl 2 rfl) ?_
          refine lv_iconst (v := 3) hx hb dX8_passOn_15 (by decide) ?_
          refine jic_ne (tgt := 22) hx hb dX8_passOn_16 (by decide) (fun cq55_ => ?_) (fun cq55_ => ?_)
          · skip
            have cq55_ : so.toInt ≠ 3 := cq55_
            refine lv_aload_n hx hb dX8_passOn_22 rfl (lv_at hl 0 rfl) ?_
            refine lv_iload_n hx hb dX8_passOn_23 rfl (lv_at hl 1 rfl) ?_
            refine lv_iload_n hx hb dX8_passOn_24 rfl (lv_at hl 3 rfl) ?_
            refine lv_iload hx hb dX8_passOn_25 (lv_at hl 4 rfl) ?_
            refine goI hK hH (runV (As := [.int b, .int to, .int va]) (rest := []) hC hK hH (c_X8_whyNoStep_q hc_w hn_w hc_bs hc_bq ho_bq ht_cs ht_bs ht_tp t_bq (by omega) (by omega) (by omega) (by omega) (by omega) (by omega) (by exact e_bq) hg) mlX8_109 (rcvM hK hH hc_w rfl) ⟨⟨Nat.le_of_ble_eq_true rfl, Nat.le_of_ble_eq_true rfl⟩, Nat.le_of_ble_eq_true rfl, Nat.le_of_ble_eq_true rfl⟩ rfl hl.1 rfl (Nat.le_of_ble_eq_true rfl) dX8_passOn_27) (fun rq58_ Mq56_ Tq57_ Hq_ lcq_ hP hz hH => ?_)
            try dsimp only at hP
            obtain ⟨(⟨cq59_, er_rq58_⟩ | er_rq58_ | er_rq58_), eT, eM⟩ := hP
            · skip
              have eT := eT.symm; subst eT
              have er_rq58_ := er_rq58_.symm; subst er_rq58_
              have eM := eM.symm; subst eM
              have cq59_ : xq10_.toInt ≤ 11 ∧ 0 ≤ to.toInt ∧ to.toInt ≤ 7 := cq59_
              refine lv_istore (lv' := [(7, .int 0), (0, .ref w), (1, .int b), (2, .int so), (3, .int to), (4, .int va), (5, .int no), (6, .int wi)]) hx hb dX8_passOn_30 hl (by decide) rfl (fun ls hl => ?_)
              refine lv_iload hx hb dX8_passOn_32 (lv_at hl 0 rfl) ?_
              refine jif_ne (tgt := 100) hx hb dX8_passOn_34 (by decide) (fun cq60_ => absurd cq60_ (by decide)) (fun cq60_ => ?_)
              refine lv_aload_n hx hb dX8_passOn_37 rfl (lv_at hl 1 rfl) ?_
              refine xg hC hK hH flX8_17 hc_w rfl dX8_passOn_38 ?_
              refine lv_iload_n hx hb dX8_passOn_41 rfl (lv_at hl 2 rfl) ?_
              refine xqld (ck := 5) hC hK hH rfl hc_bs (iIn (by omega) (by omega)) dX8_passOn_42 ?_
              refine lv_qr e_bq ?_
              refine lv_astore (lv' := [(8, .ref bq), (7, .int 0), (0, .ref w), (1, .int b), (2, .int so), (3, .int to), (4, .int va), (5, .int no), (6, .int wi)]) hx hb dX8_passOn_43 hl (by decide) rfl (fun ls hl => ?_)
              refine lv_aload hx hb dX8_passOn_45 (lv_at hl 0 rfl) ?_
              refine lv_iload_n hx hb dX8_passOn_47 rfl (lv_at hl 4 rfl) ?_
              refine lv_iload_n hx hb dX8_passOn_48 rfl (lv_at hl 4 rfl) ?_
              refine lv_iconst (v := 3) hx hb dX8_passOn_49 (by decide) ?_
              refine jic_ne (tgt := 57) hx hb dX8_passOn_50 (by decide) (fun cq61_ => ?_) (fun cq61_ => absurd cq61_ (by have := iRg so; have : (3 : Int32).toInt = 3 := rfl; omega))
              have cq61_ : so.toInt ≠ 3 := cq61_
              refine lv_aload hx hb dX8_passOn_57 (lv_at hl 0 rfl) ?_
              refine xg hC hK hH flX8_113 hc_bq rfl dX8_passOn_59 ?_
              refine lv_iload_n hx hb dX8_passOn_62 rfl (lv_at hl 5 rfl) ?_
              refine lv_aload_n hx hb dX8_passOn_63 rfl (lv_at hl 2 rfl) ?_
              refine xg hC hK hH flX8_29 hc_w rfl dX8_passOn_64 ?_
              refine goR hK hH (runV (As := [.int so, .int xq8_, .int to, .int td]) (rest := []) hC hK hH (c_X1_newStep hc_bq ho_bq t_bq t_qq15_ (by omega) (by omega)) mlX8_116 (rcvM hK hH hc_bq rfl) ⟨⟨Nat.le_of_ble_eq_true rfl, Nat.le_of_ble_eq_true rfl⟩, Nat.le_of_ble_eq_true rfl, Nat.le_of_ble_eq_true rfl⟩ rfl hl.1 rfl (Nat.le_of_ble_eq_true rfl) dX8_passOn_67) (fun rq64_ Mq62_ Tq63_ Hq_ lcq_ hP hz hH => ?_)
              try dsimp only at hP
              obtain ⟨(t_rq64_), eT, hfr⟩ := hP
              have eT := eT.symm; subst eT
              have hc_w : Mq62_ w = some (.inr (6, [.int td, .int gd, .int bc, .int py, .int rf, .int lt, .int tl, .int fp, .ref cs, .ref bs, .ref tp])) := (hfr w (Or.inl hn_w) ).trans hc_w
              have hc_bs : Mq62_ bs = some (.inl (kA 5, 4, .inr (.inr (.inr (.inr g))))) := (hfr bs (Or.inr (Or.inl ht_bs)) ).trans hc_bs
              have hc_bq : Mq62_ bq = some (.inr (0, [.int xq3_, .int xq4_, .int xq5_, .int xq6_, .int xq7_, .int xq8_, .int xq9_, .int xq10_, .int xq11_, .int xq12_, .int xq13_, .int xq14_, .ref qq15_, .ref qq16_, .ref qq17_, .ref qq18_, .ref qq19_, .ref qq20_, .ref qq21_])) := (hfr bq (Or.inr (Or.inr t_bq)) ).trans hc_bq
              have hF : ∀ q, FrA T q → Mq62_ q = M q := fun q hq  => (hfr q (FrA.k hq) ).trans (hF q hq )
              refine lv_astore (lv' := [(9, .ref rq64_), (8, .ref bq), (7, .int 0), (0, .ref w), (1, .int b), (2, .int so), (3, .int to), (4, .int va), (5, .int no), (6, .int wi)]) hx hb dX8_passOn_70 hl (by decide) rfl (fun ls hl => ?_)
              refine lv_aload hx hb dX8_passOn_72 (lv_at hl 0 rfl) ?_
              refine lv_iload hx hb dX8_passOn_74 (lv_at hl 7 rfl) ?_
              refine tpu hC hK hH flX8_120 t_rq64_ rfl rfl (iRg _).1 (iRg _).2 rfl rfl dX8_passOn_76 (fun Hq_ lcq_ Mq65_ _ hfr hH => ?_)
              have hc_w : Mq65_ w = some (.inr (6, [.int td, .int gd, .int bc, .int py, .int rf, .int lt, .int tl, .int fp, .ref cs, .ref bs, .ref tp])) := (hfr w (neF (Or.inl hn_w) t_rq64_ (by decide))).trans hc_w
              have hc_bs : Mq65_ bs = some (.inl (kA 5, 4, .inr (.inr (.inr (.inr g))))) := (hfr bs (neF (Or.inr (Or.inl ht_bs)) t_rq64_ (by decide))).trans hc_bs
              have hc_bq : Mq65_ bq = some (.inr (0, [.int xq3_, .int xq4_, .int xq5_, .int xq6_, .int xq7_, .int xq8_, .int xq9_, .int xq10_, .int xq11_, .int xq12_, .int xq13_, .int xq14_, .ref qq15_, .ref qq16_, .ref qq17_, .ref qq18_, .ref qq19_, .ref qq20_, .ref qq21_])) := (hfr bq (neF (Or.inr (Or.inr t_bq)) t_rq64_ (by decide))).trans hc_bq
              have hF : ∀ q, FrA T q → Mq65_ q = M q := fun q hq  => (hfr q (neA hq t_rq64_ (by decide))).trans (hF q hq )
              refine lv_aload hx hb dX8_passOn_79 (lv_at hl 0 rfl) ?_
              refine lv_iload hx hb dX8_passOn_81 (lv_at hl 8 rfl) ?_
              refine tpu hC hK hH flX8_125 t_rq64_ rfl rfl (zl hno) (zh hno) (nz hno) (fz hno) dX8_passOn_83 (fun Hq_ lcq_ Mq66_ _ hfr hH => ?_)
              have hc_w : Mq66_ w = some (.inr (6, [.int td, .int gd, .int bc, .int py, .int rf, .int lt, .int tl, .int fp, .ref cs, .ref bs, .ref tp])) := (hfr w (neF (Or.inl hn_w) t_rq64_ (by decide))).trans hc_w
              have hc_bs : Mq66_ bs = some (.inl (kA 5, 4, .inr (.inr (.inr (.inr g))))) := (hfr bs (neF (Or.inr (Or.inl ht_bs)) t_rq64_ (by decide))).trans hc_bs
              have hc_bq : Mq66_ bq = some (.inr (0, [.int xq3_, .int xq4_, .int xq5_, .int xq6_, .int xq7_, .int xq8_, .int xq9_, .int xq10_, .int xq11_, .int xq12_, .int xq13_, .int xq14_, .ref qq15_, .ref qq16_, .ref qq17_, .ref qq18_, .ref qq19_, .ref qq20_, .ref qq21_])) := (hfr bq (neF (Or.inr (Or.inr t_bq)) t_rq64_ (by decide))).trans hc_bq
              have hF : ∀ q, FrA T q → Mq66_ q = M q := fun q hq  => (hfr q (neA hq t_rq64_ (by decide))).trans (hF q hq )
              refine lv_aload hx hb dX8_passOn_86 (lv_at hl 0 rfl) ?_
              refine lv_iload hx hb dX8_passOn_88 (lv_at hl 9 rfl) ?_
              refine tpu hC hK hH flX8_128 t_rq64_ rfl rfl (zl hwi) (zh hwi) (nz hwi) (fz hwi) dX8_passOn_90 (fun Hq_ lcq_ Mq67_ _ hfr hH => ?_)
              have hc_w : Mq67_ w = some (.inr (6, [.int td, .int gd, .int bc, .int py, .int rf, .int lt, .int tl, .int fp, .ref cs, .ref bs, .ref tp])) := (hfr w (neF (Or.inl hn_w) t_rq64_ (by decide))).trans hc_w
              have hc_bs : Mq67_ bs = some (.inl (kA 5, 4, .inr (.inr (.inr (.inr g))))) := (hfr bs (neF (Or.inr (Or.inl ht_bs)) t_rq64_ (by decide))).trans hc_bs
              have hc_bq : Mq67_ bq = some (.inr (0, [.int xq3_, .int xq4_, .int xq5_, .int xq6_, .int xq7_, .int xq8_, .int xq9_, .int xq10_, .int xq11_, .int xq12_, .int xq13_, .int xq14_, .ref qq15_, .ref qq16_, .ref qq17_, .ref qq18_, .ref qq19_, .ref qq20_, .ref qq21_])) := (hfr bq (neF (Or.inr (Or.inr t_bq)) t_rq64_ (by decide))).trans hc_bq
              have hF : ∀ q, FrA T q → Mq67_ q = M q := fun q hq  => (hfr q (neA hq t_rq64_ (by decide))).trans (hF q hq )
              refine lv_aload hx hb dX8_passOn_93 (lv_at hl 1 rfl) ?_
              refine lv_aload hx hb dX8_passOn_95 (lv_at hl 0 rfl) ?_
              refine goV hK hH (runV (As := [.ref rq64_]) (rest := []) hC hK hH (c_X1_addStep hc_bq ho_bq t_bq t_rq64_ t_qq16_ (by omega)) mlX8_131 (rcvM hK hH hc_bq rfl) ⟨⟨Nat.le_of_ble_eq_true rfl, Nat.le_of_ble_eq_true rfl⟩, Nat.le_of_ble_eq_true rfl, Nat.le_of_ble_eq_true rfl⟩ rfl hl.1 rfl (Nat.le_of_ble_eq_true rfl) dX8_passOn_97) (fun Mq68_ Tq69_ Hq_ lcq_ hP hz hH => ?_)
              try dsimp only at hP
              obtain ⟨xq71_, ⟨l_xq71_, g_xq71_⟩, xq72_, ⟨l_xq72_, g_xq72_⟩, (⟨hx_bq, hy_bq⟩), eT, hfr⟩ := hP
              have eT := eT.symm; subst eT
              have hc_w : Mq68_ w = some (.inr (6, [.int td, .int gd, .int bc, .int py, .int rf, .int lt, .int tl, .int fp, .ref cs, .ref bs, .ref tp])) := (hfr w (Or.inl hn_w) n_w_bq).trans hc_w
              have hc_bs : Mq68_ bs = some (.inl (kA 5, 4, .inr (.inr (.inr (.inr g))))) := (hfr bs (Or.inr (Or.inl ht_bs)) n_bs_bq).trans hc_bs
              have hc_bq : Mq68_ bq = some (.inr (0, [.int xq3_, .int xq4_, .int xq5_, .int xq6_, .int xq7_, .int xq71_, .int xq9_, .int xq72_, .int xq11_, .int xq12_, .int xq13_, .int xq14_, .ref qq15_, .ref qq16_, .ref qq17_, .ref qq18_, .ref qq19_, .ref qq20_, .ref qq21_])) := hx_bq
              have ho_bq : conf kA T 2 (.inr (0, [.int xq3_, .int xq4_, .int xq5_, .int xq6_, .int xq7_, .int xq71_, .int xq9_, .int xq72_, .int xq11_, .int xq12_, .int xq13_, .int xq14_, .ref qq15_, .ref qq16_, .ref qq17_, .ref qq18_, .ref qq19_, .ref qq20_, .ref qq21_])) := hy_bq
              have hF : ∀ q, FrA T q → Mq68_ q = M q := fun q hq  => (hfr q (FrA.k hq)  (neA hq t_bq (by decide))).trans (hF q hq )
              refine lv_iload hx hb dX8_passOn_100 (lv_at hl 2 rfl) ?_
              exact ret_i hC hr hlk hK hH (⟨trivial, rfl, hF⟩) (Nat.le_of_ble_eq_true rfl) (Nat.le_of_ble_eq_true rfl) dX8_passOn_102
            · skip
              have eT := eT.symm; subst eT
              have er_rq58_ := er_rq58_.symm; subst er_rq58_
              have eM := eM.symm; subst eM
              refine lv_istore (lv' := [(7, .int 30), (0, .ref w), (1, .int b), (2, .int so), (3, .int to), (4, .int va), (5, .int no), (6, .int wi)]) hx hb dX8_passOn_30 hl (by decide) rfl (fun ls hl => ?_)
              refine lv_iload hx hb dX8_passOn_32 (lv_at hl 0 rfl) ?_
              refine jif_ne (tgt := 100) hx hb dX8_passOn_34 (by decide) (fun cq73_ => ?_) (fun cq73_ => absurd cq73_ (by decide))
              refine lv_iload hx hb dX8_passOn_100 (lv_at hl 0 rfl) ?_
              exact ret_i hC hr hlk hK hH (⟨trivial, rfl, hF⟩) (Nat.le_of_ble_eq_true rfl) (Nat.le_of_ble_eq_true rfl) dX8_passOn_102
            · skip
              have eT := eT.symm; subst eT
              have er_rq58_ := er_rq58_.symm; subst er_rq58_
              have eM := eM.symm; subst eM
              refine lv_istore (lv' := [(7, .int 31), (0, .ref w), (1, .int b), (2, .int so), (3, .int to), (4, .int va), (5, .int no), (6, .int wi)]) hx hb dX8_passOn_30 hl (by decide) rfl (fun ls hl => ?_)
              refine lv_iload hx hb dX8_passOn_32 (lv_at hl 0 rfl) ?_
              refine jif_ne (tgt := 100) hx hb dX8_passOn_34 (by decide) (fun cq74_ => ?_) (fun cq74_ => absurd cq74_ (by decide))
              refine lv_iload hx hb dX8_passOn_100 (lv_at hl 0 rfl) ?_
              exact ret_i hC hr hlk hK hH (⟨trivial, rfl, hF⟩) (Nat.le_of_ble_eq_true rfl) (Nat.le_of_ble_eq_true rfl) dX8_passOn_102
          · skip
            have cq55_ : so.toInt = 3 := cq55_
            refine lv_bipush (v := 30) hx hb dX8_passOn_19 (by decide) ?_
            exact ret_i hC hr hlk hK hH (⟨trivial, rfl, hF⟩) (Nat.le_of_ble_eq_true rfl) (Nat.le_of_ble_eq_true rfl) dX8_passOn_21
  · skip
    refine lv_iload_n hx hb dX8_passOn_0 rfl (lv_at hl 2 rfl) ?_
    refine jif_lt (tgt := 19) hx hb dX8_passOn_1 (by decide) (fun cq75_ => ?_) (fun cq75_ => ?_)
    · skip
      have cq75_ : so.toInt < 0 := cq75_
      refine lv_bipush (v := 30) hx hb dX8_passOn_19 (by decide) ?_
      exact ret_i hC hr hlk hK hH (⟨trivial, rfl, hF⟩) (Nat.le_of_ble_eq_true rfl) (Nat.le_of_ble_eq_true rfl) dX8_passOn_21
    · skip
      have cq75_ : 0 ≤ so.toInt := cq75_
      refine lv_iload_n hx hb dX8_passOn_4 rfl (lv_at hl 2 rfl) ?_
      refine lv_iconst (v := 3) hx hb dX8_passOn_5 (by decide) ?_
      refine jic_gt (tgt := 19) hx hb dX8_passOn_6 (by decide) (fun cq76_ => ?_) (fun cq76_ => ?_)
      · skip
        have cq76_ : 3 < so.toInt := cq76_
        refine lv_bipush (v := 30) hx hb dX8_passOn_19 (by decide) ?_
        exact ret_i hC hr hlk hK hH (⟨trivial, rfl, hF⟩) (Nat.le_of_ble_eq_true rfl) (Nat.le_of_ble_eq_true rfl) dX8_passOn_21
      · skip
        have cq76_ : so.toInt ≤ 3 := cq76_
        refine lv_iload hx hb dX8_passOn_9 (lv_at hl 6 rfl) ?_
        refine jif_eq (tgt := 22) hx hb dX8_passOn_11 (by decide) (fun cq77_ => ?_) (fun cq77_ => ?_)
        · skip
          have cq77_ : wi.toInt = 0 := cq77_
          refine lv_aload_n hx hb dX8_passOn_22 rfl (lv_at hl 0 rfl) ?_
          refine lv_iload_n hx hb dX8_passOn_23 rfl (lv_at hl 1 rfl) ?_
          refine lv_iload_n hx hb dX8_passOn_24 rfl (lv_at hl 3 rfl) ?_
          refine lv_iload hx hb dX8_passOn_25 (lv_at hl 4 rfl) ?_
          refine goI hK hH (runV (As := [.int b, .int to, .int va]) (rest := []) hC hK hH (c_X8_whyNoStep_n hc_w hn_w hc_bs ht_cs ht_bs ht_tp (by omega) (by omega) (by omega) (by omega) hg) mlX8_109 (rcvM hK hH hc_w rfl) ⟨⟨Nat.le_of_ble_eq_true rfl, Nat.le_of_ble_eq_true rfl⟩, Nat.le_of_ble_eq_true rfl, Nat.le_of_ble_eq_true rfl⟩ rfl hl.1 rfl (Nat.le_of_ble_eq_true rfl) dX8_passOn_27) (fun rq80_ Mq78_ Tq79_ Hq_ lcq_ hP hz hH => ?_)
          try dsimp only at hP
          obtain ⟨(er_rq80_), eT, eM⟩ := hP
          have eT := eT.symm; subst eT
          have er_rq80_ := er_rq80_.symm; subst er_rq80_
          have eM := eM.symm; subst eM
          refine lv_istore (lv' := [(7, .int 30), (0, .ref w), (1, .int b), (2, .int so), (3, .int to), (4, .int va), (5, .int no), (6, .int wi)]) hx hb dX8_passOn_30 hl (by decide) rfl (fun ls hl => ?_)
          refine lv_iload hx hb dX8_passOn_32 (lv_at hl 0 rfl) ?_
          refine jif_ne (tgt := 100) hx hb dX8_passOn_34 (by decide) (fun cq81_ => ?_) (fun cq81_ => absurd cq81_ (by decide))
          refine lv_iload hx hb dX8_passOn_100 (lv_at hl 0 rfl) ?_
          exact ret_i hC hr hlk hK hH (⟨trivial, rfl, hF⟩) (Nat.le_of_ble_eq_true rfl) (Nat.le_of_ble_eq_true rfl) dX8_passOn_102
        · skip
          have cq77_ : wi.toInt ≠ 0 := cq77_
          refine lv_iload_n hx hb dX8_passOn_14 rfl (lv_at hl 2 rfl) ?_
          refine lv_iconst (v := 3) hx hb dX8_passOn_15 (by decide) ?_
          refine jic_ne (tgt := 22) hx hb dX8_passOn_16 (by decide) (fun cq82_ => ?_) (fun cq82_ => ?_)
          · skip
            have cq82_ : so.toInt ≠ 3 := cq82_
            refine lv_aload_n hx hb dX8_passOn_22 rfl (lv_at hl 0 rfl) ?_
            refine lv_iload_n hx hb dX8_passOn_23 rfl (lv_at hl 1 rfl) ?_
            refine lv_iload_n hx hb dX8_passOn_24 rfl (lv_at hl 3 rfl) ?_
            refine lv_iload hx hb dX8_passOn_25 (lv_at hl 4 rfl) ?_
            refine goI hK hH (runV (As := [.int b, .int to, .int va]) (rest := []) hC hK hH (c_X8_whyNoStep_n hc_w hn_w hc_bs ht_cs ht_bs ht_tp (by omega) (by omega) (by omega) (by omega) hg) mlX8_109 (rcvM hK hH hc_w rfl) ⟨⟨Nat.le_of_ble_eq_true rfl, Nat.le_of_ble_eq_true rfl⟩, Nat.le_of_ble_eq_true rfl, Nat.le_of_ble_eq_true rfl⟩ rfl hl.1 rfl (Nat.le_of_ble_eq_true rfl) dX8_passOn_27) (fun rq85_ Mq83_ Tq84_ Hq_ lcq_ hP hz hH => ?_)
            try dsimp only at hP
            obtain ⟨(er_rq85_), eT, eM⟩ := hP
            have eT := eT.symm; subst eT
            have er_rq85_ := er_rq85_.symm; subst er_rq85_
            have eM := eM.symm; subst eM
            refine lv_istore (lv' := [(7, .int 30), (0, .ref w), (1, .int b), (2, .int so), (3, .int to), (4, .int va), (5, .int no), (6, .int wi)]) hx hb dX8_passOn_30 hl (by decide) rfl (fun ls hl => ?_)
            refine lv_iload hx hb dX8_passOn_32 (lv_at hl 0 rfl) ?_
            refine jif_ne (tgt := 100) hx hb dX8_passOn_34 (by decide) (fun cq86_ => ?_) (fun cq86_ => absurd cq86_ (by decide))
            refine lv_iload hx hb dX8_passOn_100 (lv_at hl 0 rfl) ?_
            exact ret_i hC hr hlk hK hH (⟨trivial, rfl, hF⟩) (Nat.le_of_ble_eq_true rfl) (Nat.le_of_ble_eq_true rfl) dX8_passOn_102
          · skip
            have cq82_ : so.toInt = 3 := cq82_
            refine lv_bipush (v := 30) hx hb dX8_passOn_19 (by decide) ?_
            exact ret_i hC hr hlk hK hH (⟨trivial, rfl, hF⟩) (Nat.le_of_ble_eq_true rfl) (Nat.le_of_ble_eq_true rfl) dX8_passOn_21
set_option maxHeartbeats 4000000 in
set_option maxRecDepth 100000 in
theorem c_X8_passForged {l : Launch} {D : va_G} {kA : Nat → ClassId} {M : mM} {T : mT} {sz : Nat} {w cs bs tp : Nat} {td gd bc py rf lt tl fp : Int32} {g : Nat → Option Nat} {b nm to va no : Int32} (hc_w : M w = some (.inr (6, [.int td, .int gd, .int bc, .int py, .int rf, .int lt, .int tl, .int fp, .ref cs, .ref bs, .ref tp]))) (hn_w : T w = none) (hc_bs : M bs = some (.inl (kA 5, 4, .inr (.inr (.inr (.inr g)))))) (ht_cs : T cs = some 3) (ht_bs : T bs = some 6) (ht_tp : T tp = some 7) (htd : 0 ≤ td.toInt ∧ td.toInt ≤ 999) (hbc : 0 ≤ bc.toInt ∧ bc.toInt ≤ 4) (htl : 0 ≤ tl.toInt ∧ tl.toInt ≤ 600) (hno : no = 0 ∨ no = 1) (hg : ∀ j, j < 4 → ∃ q, g j = some q ∧ T q = some 2) : mCi l yX8_passForged cX8_passForged 9 (some .int) 4 0 0 D kA M T sz [.ref w, .int b, .int nm, .int to, .int va, .int no] (fun r u => (True) ∧ u.2 = T ∧ (∀ q, FrA T q → u.1 q = M q)) := by
  unfold mCi
  refine start_W (by decide) (Nat.le_of_ble_eq_true rfl) ?_
  intro p e s m below meth c ls hC hr hlk hnm hK hH hsz hl
  have hx := hC.1
  have hb := hC.2.1
  have hl : lv_has ls 9 [(0, .ref w), (1, .int b), (2, .int nm), (3, .int to), (4, .int va), (5, .int no)] := hl
  have hF : ∀ q, FrA T q → M q = M q := fun q _  => rfl
  have n_w_bs : w ≠ bs := neM hc_w hc_bs (by simp)
  have n_bs_w : bs ≠ w := neM hc_bs hc_w (by simp)
  rcases (show (0 ≤ b.toInt ∧ b.toInt ≤ 3) ∨ ¬ (0 ≤ b.toInt ∧ b.toInt ≤ 3) by omega) with hbr | hbr
  · skip
    obtain ⟨bq, e_bq, t_bq⟩ := hg (Int32.toNatClampNeg b) (by have := iCl (x := b) (by omega); omega)
    obtain ⟨Mq1_, fsq2_, hc_bq, hfr, ho_bq, hH⟩ := hH.unt t_bq rfl
    obtain ⟨xq3_, hl_xq3_, xq4_, hl_xq4_, xq5_, hl_xq5_, xq6_, hl_xq6_, xq7_, hl_xq7_, xq8_, hl_xq8_, xq9_, hl_xq9_, xq10_, hl_xq10_, xq11_, hl_xq11_, xq12_, hl_xq12_, xq13_, hl_xq13_, xq14_, hl_xq14_, qq15_, hl_qq15_, qq16_, hl_qq16_, qq17_, hl_qq17_, qq18_, hl_qq18_, qq19_, hl_qq19_, qq20_, hl_qq20_, qq21_, hl_qq21_, e_fsq2_⟩ := op2  ho_bq
    subst e_fsq2_
    have l_xq3_ : (-2147483648 : Int) ≤ xq3_.toInt := hl_xq3_.1
    have g_xq3_ : xq3_.toInt ≤ 2147483647 := hl_xq3_.2
    have l_xq4_ : (-2147483648 : Int) ≤ xq4_.toInt := hl_xq4_.1
    have g_xq4_ : xq4_.toInt ≤ 2147483647 := hl_xq4_.2
    have l_xq5_ : (-2147483648 : Int) ≤ xq5_.toInt := hl_xq5_.1
    have g_xq5_ : xq5_.toInt ≤ 2147483647 := hl_xq5_.2
    have l_xq6_ : (-2147483648 : Int) ≤ xq6_.toInt := hl_xq6_.1
    have g_xq6_ : xq6_.toInt ≤ 2147483647 := hl_xq6_.2
    have l_xq7_ : (-2147483648 : Int) ≤ xq7_.toInt := hl_xq7_.1
    have g_xq7_ : xq7_.toInt ≤ 2147483647 := hl_xq7_.2
    have l_xq8_ : (0 : Int) ≤ xq8_.toInt := hl_xq8_.1
    have g_xq8_ : xq8_.toInt ≤ 7 := hl_xq8_.2
    have l_xq9_ : (-2147483648 : Int) ≤ xq9_.toInt := hl_xq9_.1
    have g_xq9_ : xq9_.toInt ≤ 2147483647 := hl_xq9_.2
    have l_xq10_ : (0 : Int) ≤ xq10_.toInt := hl_xq10_.1
    have g_xq10_ : xq10_.toInt ≤ 12 := hl_xq10_.2
    have l_xq11_ : (0 : Int) ≤ xq11_.toInt := hl_xq11_.1
    have g_xq11_ : xq11_.toInt ≤ 12 := hl_xq11_.2
    have l_xq12_ : (0 : Int) ≤ xq12_.toInt := hl_xq12_.1
    have g_xq12_ : xq12_.toInt ≤ 1 := hl_xq12_.2
    have l_xq13_ : (0 : Int) ≤ xq13_.toInt := hl_xq13_.1
    have g_xq13_ : xq13_.toInt ≤ 1 := hl_xq13_.2
    have l_xq14_ : (0 : Int) ≤ xq14_.toInt := hl_xq14_.1
    have g_xq14_ : xq14_.toInt ≤ 1 := hl_xq14_.2
    have t_qq15_ := hl_qq15_
    have t_qq16_ := hl_qq16_
    have t_qq17_ := hl_qq17_
    have t_qq18_ := hl_qq18_
    have t_qq19_ := hl_qq19_
    have t_qq20_ := hl_qq20_
    have t_qq21_ := hl_qq21_
    have hc_w : Mq1_ w = some (.inr (6, [.int td, .int gd, .int bc, .int py, .int rf, .int lt, .int tl, .int fp, .ref cs, .ref bs, .ref tp])) := (hfr w (neA (Or.inl hn_w) t_bq (by decide))).trans hc_w
    have hc_bs : Mq1_ bs = some (.inl (kA 5, 4, .inr (.inr (.inr (.inr g))))) := (hfr bs (neA (Or.inr ht_bs) t_bq (by decide))).trans hc_bs
    have n_w_bq : w ≠ bq := (neA (Or.inl hn_w) t_bq (by decide))
    have n_bq_w : bq ≠ w := Ne.symm n_w_bq
    have n_bs_bq : bs ≠ bq := (neA (Or.inr ht_bs) t_bq (by decide))
    have n_bq_bs : bq ≠ bs := Ne.symm n_bs_bq
    have hc_bq : Mq1_ bq = some (.inr (0, [.int xq3_, .int xq4_, .int xq5_, .int xq6_, .int xq7_, .int xq8_, .int xq9_, .int xq10_, .int xq11_, .int xq12_, .int xq13_, .int xq14_, .ref qq15_, .ref qq16_, .ref qq17_, .ref qq18_, .ref qq19_, .ref qq20_, .ref qq21_])) := hc_bq
    have hF : ∀ q, FrA T q → Mq1_ q = M q := fun q hq  => (hfr q (neA hq t_bq (by decide))).trans (hF q hq )
    refine lv_aload_n hx hb dX8_passForged_0 rfl (lv_at hl 0 rfl) ?_
    refine lv_iload_n hx hb dX8_passForged_1 rfl (lv_at hl 1 rfl) ?_
    refine goI hK hH (runV (As := [.int b]) (rest := []) hC hK hH (c_X8_hasBill hc_w hn_w hc_bs ht_cs ht_bs ht_tp (by omega) (by omega) (by omega) hg) mlX8_68 (rcvM hK hH hc_w rfl) ⟨⟨Nat.le_of_ble_eq_true rfl, Nat.le_of_ble_eq_true rfl⟩, Nat.le_of_ble_eq_true rfl, Nat.le_of_ble_eq_true rfl⟩ rfl hl.1 rfl (Nat.le_of_ble_eq_true rfl) dX8_passForged_2) (fun rq24_ Mq22_ Tq23_ Hq_ lcq_ hP hz hH => ?_)
    try dsimp only at hP
    obtain ⟨(⟨cq25_, er_rq24_⟩ | er_rq24_), eT, eM⟩ := hP
    · skip
      have eT := eT.symm; subst eT
      have er_rq24_ := er_rq24_.symm; subst er_rq24_
      have eM := eM.symm; subst eM
      have cq25_ : 0 ≤ b.toInt ∧ b.toInt ≤ 3 := cq25_
      refine jif_eq (tgt := 28) hx hb dX8_passForged_5 (by decide) (fun cq26_ => absurd cq26_ (by decide)) (fun cq26_ => ?_)
      refine lv_iload_n hx hb dX8_passForged_8 rfl (lv_at hl 2 rfl) ?_
      refine goI hK hH (runSN (As := [.int nm]) (rest := []) hC hK hH (c_X9_isPerson) mlX8_94 ⟨⟨Nat.le_of_ble_eq_true rfl, Nat.le_of_ble_eq_true rfl⟩, Nat.le_of_ble_eq_true rfl, Nat.le_of_ble_eq_true rfl⟩ rfl hl.1 rfl (Nat.le_of_ble_eq_true rfl) dX8_passForged_9) (fun rq29_ Mq27_ Tq28_ Hq_ lcq_ hP hz hH => ?_)
      try dsimp only at hP
      obtain ⟨(⟨cq30_, er_rq29_⟩ | ⟨cq31_, er_rq29_⟩), eT, eM⟩ := hP
      · skip
        have eT := eT.symm; subst eT
        have er_rq29_ := er_rq29_.symm; subst er_rq29_
        have eM := eM.symm; subst eM
        have cq30_ : 0 ≤ nm.toInt ∧ nm.toInt ≤ 7 := cq30_
        refine jif_eq (tgt := 28) hx hb dX8_passForged_12 (by decide) (fun cq32_ => absurd cq32_ (by decide)) (fun cq32_ => ?_)
        refine lv_iload_n hx hb dX8_passForged_15 rfl (lv_at hl 2 rfl) ?_
        refine lv_aload_n hx hb dX8_passForged_16 rfl (lv_at hl 0 rfl) ?_
        refine xg hC hK hH flX8_17 hc_w rfl dX8_passForged_17 ?_
        refine lv_iload_n hx hb dX8_passForged_20 rfl (lv_at hl 1 rfl) ?_
        refine xqld (ck := 5) hC hK hH rfl hc_bs (iIn (by omega) (by omega)) dX8_passForged_21 ?_
        refine lv_qr e_bq ?_
        refine xg hC hK hH flX8_113 hc_bq rfl dX8_passForged_22 ?_
        refine jic_ne (tgt := 31) hx hb dX8_passForged_25 (by decide) (fun cq33_ => ?_) (fun cq33_ => ?_)
        · skip
          have cq33_ : nm.toInt ≠ xq8_.toInt := cq33_
          refine lv_aload_n hx hb dX8_passForged_31 rfl (lv_at hl 0 rfl) ?_
          refine lv_iload_n hx hb dX8_passForged_32 rfl (lv_at hl 1 rfl) ?_
          refine lv_iload_n hx hb dX8_passForged_33 rfl (lv_at hl 3 rfl) ?_
          refine lv_iload hx hb dX8_passForged_34 (lv_at hl 4 rfl) ?_
          refine goI hK hH (runV (As := [.int b, .int to, .int va]) (rest := []) hC hK hH (c_X8_whyNoStep_q hc_w hn_w hc_bs hc_bq ho_bq ht_cs ht_bs ht_tp t_bq (by omega) (by omega) (by omega) (by omega) (by omega) (by omega) (by exact e_bq) hg) mlX8_109 (rcvM hK hH hc_w rfl) ⟨⟨Nat.le_of_ble_eq_true rfl, Nat.le_of_ble_eq_true rfl⟩, Nat.le_of_ble_eq_true rfl, Nat.le_of_ble_eq_true rfl⟩ rfl hl.1 rfl (Nat.le_of_ble_eq_true rfl) dX8_passForged_36) (fun rq36_ Mq34_ Tq35_ Hq_ lcq_ hP hz hH => ?_)
          try dsimp only at hP
          obtain ⟨(⟨cq37_, er_rq36_⟩ | er_rq36_ | er_rq36_), eT, eM⟩ := hP
          · skip
            have eT := eT.symm; subst eT
            have er_rq36_ := er_rq36_.symm; subst er_rq36_
            have eM := eM.symm; subst eM
            have cq37_ : xq10_.toInt ≤ 11 ∧ 0 ≤ to.toInt ∧ to.toInt ≤ 7 := cq37_
            refine lv_istore (lv' := [(6, .int 0), (0, .ref w), (1, .int b), (2, .int nm), (3, .int to), (4, .int va), (5, .int no)]) hx hb dX8_passForged_39 hl (by decide) rfl (fun ls hl => ?_)
            refine lv_iload hx hb dX8_passForged_41 (lv_at hl 0 rfl) ?_
            refine jif_ne (tgt := 89) hx hb dX8_passForged_43 (by decide) (fun cq38_ => absurd cq38_ (by decide)) (fun cq38_ => ?_)
            refine lv_aload_n hx hb dX8_passForged_46 rfl (lv_at hl 1 rfl) ?_
            refine xg hC hK hH flX8_17 hc_w rfl dX8_passForged_47 ?_
            refine lv_iload_n hx hb dX8_passForged_50 rfl (lv_at hl 2 rfl) ?_
            refine xqld (ck := 5) hC hK hH rfl hc_bs (iIn (by omega) (by omega)) dX8_passForged_51 ?_
            refine lv_qr e_bq ?_
            refine lv_astore (lv' := [(7, .ref bq), (6, .int 0), (0, .ref w), (1, .int b), (2, .int nm), (3, .int to), (4, .int va), (5, .int no)]) hx hb dX8_passForged_52 hl (by decide) rfl (fun ls hl => ?_)
            refine lv_aload hx hb dX8_passForged_54 (lv_at hl 0 rfl) ?_
            refine lv_iconst (v := 1) hx hb dX8_passForged_56 (by decide) ?_
            refine lv_iload_n hx hb dX8_passForged_57 rfl (lv_at hl 4 rfl) ?_
            refine lv_iload_n hx hb dX8_passForged_58 rfl (lv_at hl 5 rfl) ?_
            refine lv_aload_n hx hb dX8_passForged_59 rfl (lv_at hl 2 rfl) ?_
            refine xg hC hK hH flX8_29 hc_w rfl dX8_passForged_60 ?_
            refine goR hK hH (runV (As := [.int 1, .int nm, .int to, .int td]) (rest := []) hC hK hH (c_X1_newStep hc_bq ho_bq t_bq t_qq15_ (by omega) (by omega)) mlX8_116 (rcvM hK hH hc_bq rfl) ⟨⟨Nat.le_of_ble_eq_true rfl, Nat.le_of_ble_eq_true rfl⟩, Nat.le_of_ble_eq_true rfl, Nat.le_of_ble_eq_true rfl⟩ rfl hl.1 rfl (Nat.le_of_ble_eq_true rfl) dX8_passForged_63) (fun rq41_ Mq39_ Tq40_ Hq_ lcq_ hP hz hH => ?_)
            try dsimp only at hP
            obtain ⟨(t_rq41_), eT, hfr⟩ := hP
            have eT := eT.symm; subst eT
            have hc_w : Mq39_ w = some (.inr (6, [.int td, .int gd, .int bc, .int py, .int rf, .int lt, .int tl, .int fp, .ref cs, .ref bs, .ref tp])) := (hfr w (Or.inl hn_w) ).trans hc_w
            have hc_bs : Mq39_ bs = some (.inl (kA 5, 4, .inr (.inr (.inr (.inr g))))) := (hfr bs (Or.inr (Or.inl ht_bs)) ).trans hc_bs
            have hc_bq : Mq39_ bq = some (.inr (0, [.int xq3_, .int xq4_, .int xq5_, .int xq6_, .int xq7_, .int xq8_, .int xq9_, .int xq10_, .int xq11_, .int xq12_, .int xq13_, .int xq14_, .ref qq15_, .ref qq16_, .ref qq17_, .ref qq18_, .ref qq19_, .ref qq20_, .ref qq21_])) := (hfr bq (Or.inr (Or.inr t_bq)) ).trans hc_bq
            have hF : ∀ q, FrA T q → Mq39_ q = M q := fun q hq  => (hfr q (FrA.k hq) ).trans (hF q hq )
            refine lv_astore (lv' := [(8, .ref rq41_), (7, .ref bq), (6, .int 0), (0, .ref w), (1, .int b), (2, .int nm), (3, .int to), (4, .int va), (5, .int no)]) hx hb dX8_passForged_66 hl (by decide) rfl (fun ls hl => ?_)
            refine lv_aload hx hb dX8_passForged_68 (lv_at hl 0 rfl) ?_
            refine lv_iload hx hb dX8_passForged_70 (lv_at hl 7 rfl) ?_
            refine tpu hC hK hH flX8_120 t_rq41_ rfl rfl (iRg _).1 (iRg _).2 rfl rfl dX8_passForged_72 (fun Hq_ lcq_ Mq42_ _ hfr hH => ?_)
            have hc_w : Mq42_ w = some (.inr (6, [.int td, .int gd, .int bc, .int py, .int rf, .int lt, .int tl, .int fp, .ref cs, .ref bs, .ref tp])) := (hfr w (neF (Or.inl hn_w) t_rq41_ (by decide))).trans hc_w
            have hc_bs : Mq42_ bs = some (.inl (kA 5, 4, .inr (.inr (.inr (.inr g))))) := (hfr bs (neF (Or.inr (Or.inl ht_bs)) t_rq41_ (by decide))).trans hc_bs
            have hc_bq : Mq42_ bq = some (.inr (0, [.int xq3_, .int xq4_, .int xq5_, .int xq6_, .int xq7_, .int xq8_, .int xq9_, .int xq10_, .int xq11_, .int xq12_, .int xq13_, .int xq14_, .ref qq15_, .ref qq16_, .ref qq17_, .ref qq18_, .ref qq19_, .ref qq20_, .ref qq21_])) := (hfr bq (neF (Or.inr (Or.inr t_bq)) t_rq41_ (by decide))).trans hc_bq
            have hF : ∀ q, FrA T q → Mq42_ q = M q := fun q hq  => (hfr q (neA hq t_rq41_ (by decide))).trans (hF q hq )
            refine lv_aload hx hb dX8_passForged_75 (lv_at hl 0 rfl) ?_
            refine lv_iload hx hb dX8_passForged_77 (lv_at hl 8 rfl) ?_
            refine tpu hC hK hH flX8_125 t_rq41_ rfl rfl (zl hno) (zh hno) (nz hno) (fz hno) dX8_passForged_79 (fun Hq_ lcq_ Mq43_ _ hfr hH => ?_)
            have hc_w : Mq43_ w = some (.inr (6, [.int td, .int gd, .int bc, .int py, .int rf, .int lt, .int tl, .int fp, .ref cs, .ref bs, .ref tp])) := (hfr w (neF (Or.inl hn_w) t_rq41_ (by decide))).trans hc_w
            have hc_bs : Mq43_ bs = some (.inl (kA 5, 4, .inr (.inr (.inr (.inr g))))) := (hfr bs (neF (Or.inr (Or.inl ht_bs)) t_rq41_ (by decide))).trans hc_bs
            have hc_bq : Mq43_ bq = some (.inr (0, [.int xq3_, .int xq4_, .int xq5_, .int xq6_, .int xq7_, .int xq8_, .int xq9_, .int xq10_, .int xq11_, .int xq12_, .int xq13_, .int xq14_, .ref qq15_, .ref qq16_, .ref qq17_, .ref qq18_, .ref qq19_, .ref qq20_, .ref qq21_])) := (hfr bq (neF (Or.inr (Or.inr t_bq)) t_rq41_ (by decide))).trans hc_bq
            have hF : ∀ q, FrA T q → Mq43_ q = M q := fun q hq  => (hfr q (neA hq t_rq41_ (by decide))).trans (hF q hq )
            refine lv_aload hx hb dX8_passForged_82 (lv_at hl 1 rfl) ?_
            refine lv_aload hx hb dX8_passForged_84 (lv_at hl 0 rfl) ?_
            refine goV hK hH (runV (As := [.ref rq41_]) (rest := []) hC hK hH (c_X1_addStep hc_bq ho_bq t_bq t_rq41_ t_qq16_ (by omega)) mlX8_131 (rcvM hK hH hc_bq rfl) ⟨⟨Nat.le_of_ble_eq_true rfl, Nat.le_of_ble_eq_true rfl⟩, Nat.le_of_ble_eq_true rfl, Nat.le_of_ble_eq_true rfl⟩ rfl hl.1 rfl (Nat.le_of_ble_eq_true rfl) dX8_passForged_86) (fun Mq44_ Tq45_ Hq_ lcq_ hP hz hH => ?_)
            try dsimp only at hP
            obtain ⟨xq47_, ⟨l_xq47_, g_xq47_⟩, xq48_, ⟨l_xq48_, g_xq48_⟩, (⟨hx_bq, hy_bq⟩), eT, hfr⟩ := hP
            have eT := eT.symm; subst eT
            have hc_w : Mq44_ w = some (.inr (6, [.int td, .int gd, .int bc, .int py, .int rf, .int lt, .int tl, .int fp, .ref cs, .ref bs, .ref tp])) := (hfr w (Or.inl hn_w) n_w_bq).trans hc_w
            have hc_bs : Mq44_ bs = some (.inl (kA 5, 4, .inr (.inr (.inr (.inr g))))) := (hfr bs (Or.inr (Or.inl ht_bs)) n_bs_bq).trans hc_bs
            have hc_bq : Mq44_ bq = some (.inr (0, [.int xq3_, .int xq4_, .int xq5_, .int xq6_, .int xq7_, .int xq47_, .int xq9_, .int xq48_, .int xq11_, .int xq12_, .int xq13_, .int xq14_, .ref qq15_, .ref qq16_, .ref qq17_, .ref qq18_, .ref qq19_, .ref qq20_, .ref qq21_])) := hx_bq
            have ho_bq : conf kA T 2 (.inr (0, [.int xq3_, .int xq4_, .int xq5_, .int xq6_, .int xq7_, .int xq47_, .int xq9_, .int xq48_, .int xq11_, .int xq12_, .int xq13_, .int xq14_, .ref qq15_, .ref qq16_, .ref qq17_, .ref qq18_, .ref qq19_, .ref qq20_, .ref qq21_])) := hy_bq
            have hF : ∀ q, FrA T q → Mq44_ q = M q := fun q hq  => (hfr q (FrA.k hq)  (neA hq t_bq (by decide))).trans (hF q hq )
            refine lv_iload hx hb dX8_passForged_89 (lv_at hl 2 rfl) ?_
            exact ret_i hC hr hlk hK hH (⟨trivial, rfl, hF⟩) (Nat.le_of_ble_eq_true rfl) (Nat.le_of_ble_eq_true rfl) dX8_passForged_91
          · skip
            have eT := eT.symm; subst eT
            have er_rq36_ := er_rq36_.symm; subst er_rq36_
            have eM := eM.symm; subst eM
            refine lv_istore (lv' := [(6, .int 30), (0, .ref w), (1, .int b), (2, .int nm), (3, .int to), (4, .int va), (5, .int no)]) hx hb dX8_passForged_39 hl (by decide) rfl (fun ls hl => ?_)
            refine lv_iload hx hb dX8_passForged_41 (lv_at hl 0 rfl) ?_
            refine jif_ne (tgt := 89) hx hb dX8_passForged_43 (by decide) (fun cq49_ => ?_) (fun cq49_ => absurd cq49_ (by decide))
            refine lv_iload hx hb dX8_passForged_89 (lv_at hl 0 rfl) ?_
            exact ret_i hC hr hlk hK hH (⟨trivial, rfl, hF⟩) (Nat.le_of_ble_eq_true rfl) (Nat.le_of_ble_eq_true rfl) dX8_passForged_91
          · skip
            have eT := eT.symm; subst eT
            have er_rq36_ := er_rq36_.symm; subst er_rq36_
            have eM := eM.symm; subst eM
            refine lv_istore (lv' := [(6, .int 31), (0, .ref w), (1, .int b), (2, .int nm), (3, .int to), (4, .int va), (5, .int no)]) hx hb dX8_passForged_39 hl (by decide) rfl (fun ls hl => ?_)
            refine lv_iload hx hb dX8_passForged_41 (lv_at hl 0 rfl) ?_
            refine jif_ne (tgt := 89) hx hb dX8_passForged_43 (by decide) (fun cq50_ => ?_) (fun cq50_ => absurd cq50_ (by decide))
            refine lv_iload hx hb dX8_passForged_89 (lv_at hl 0 rfl) ?_
            exact ret_i hC hr hlk hK hH (⟨trivial, rfl, hF⟩) (Nat.le_of_ble_eq_true rfl) (Nat.le_of_ble_eq_true rfl) dX8_passForged_91
        · skip
          have cq33_ : nm.toInt = xq8_.toInt := cq33_
          refine lv_bipush (v := 30) hx hb dX8_passForged_28 (by decide) ?_
          exact ret_i hC hr hlk hK hH (⟨trivial, rfl, hF⟩) (Nat.le_of_ble_eq_true rfl) (Nat.le_of_ble_eq_true rfl) dX8_passForged_30
      · skip
        have eT := eT.symm; subst eT
        have er_rq29_ := er_rq29_.symm; subst er_rq29_
        have eM := eM.symm; subst eM
        have cq31_ : ¬ (0 ≤ nm.toInt ∧ nm.toInt ≤ 7) := cq31_
        refine jif_eq (tgt := 28) hx hb dX8_passForged_12 (by decide) (fun cq51_ => ?_) (fun cq51_ => absurd cq51_ (by decide))
        refine lv_bipush (v := 30) hx hb dX8_passForged_28 (by decide) ?_
        exact ret_i hC hr hlk hK hH (⟨trivial, rfl, hF⟩) (Nat.le_of_ble_eq_true rfl) (Nat.le_of_ble_eq_true rfl) dX8_passForged_30
    · skip
      have eT := eT.symm; subst eT
      have er_rq24_ := er_rq24_.symm; subst er_rq24_
      have eM := eM.symm; subst eM
      refine jif_eq (tgt := 28) hx hb dX8_passForged_5 (by decide) (fun cq52_ => ?_) (fun cq52_ => absurd cq52_ (by decide))
      refine lv_bipush (v := 30) hx hb dX8_passForged_28 (by decide) ?_
      exact ret_i hC hr hlk hK hH (⟨trivial, rfl, hF⟩) (Nat.le_of_ble_eq_true rfl) (Nat.le_of_ble_eq_true rfl) dX8_passForged_30
  · skip
    refine lv_aload_n hx hb dX8_passForged_0 rfl (lv_at hl 0 rfl) ?_
    refine lv_iload_n hx hb dX8_passForged_1 rfl (lv_at hl 1 rfl) ?_
    refine goI hK hH (runV (As := [.int b]) (rest := []) hC hK hH (c_X8_hasBill hc_w hn_w hc_bs ht_cs ht_bs ht_tp (by omega) (by omega) (by omega) hg) mlX8_68 (rcvM hK hH hc_w rfl) ⟨⟨Nat.le_of_ble_eq_true rfl, Nat.le_of_ble_eq_true rfl⟩, Nat.le_of_ble_eq_true rfl, Nat.le_of_ble_eq_true rfl⟩ rfl hl.1 rfl (Nat.le_of_ble_eq_true rfl) dX8_passForged_2) (fun rq55_ Mq53_ Tq54_ Hq_ lcq_ hP hz hH => ?_)
    try dsimp only at hP
    obtain ⟨(⟨cq56_, er_rq55_⟩ | er_rq55_), eT, eM⟩ := hP
    · skip
      have eT := eT.symm; subst eT
      have er_rq55_ := er_rq55_.symm; subst er_rq55_
      have eM := eM.symm; subst eM
      have cq56_ : 0 ≤ b.toInt ∧ b.toInt ≤ 3 := cq56_
      exfalso; omega
    · skip
      have eT := eT.symm; subst eT
      have er_rq55_ := er_rq55_.symm; subst er_rq55_
      have eM := eM.symm; subst eM
      refine jif_eq (tgt := 28) hx hb dX8_passForged_5 (by decide) (fun cq57_ => ?_) (fun cq57_ => absurd cq57_ (by decide))
      refine lv_bipush (v := 30) hx hb dX8_passForged_28 (by decide) ?_
      exact ret_i hC hr hlk hK hH (⟨trivial, rfl, hF⟩) (Nat.le_of_ble_eq_true rfl) (Nat.le_of_ble_eq_true rfl) dX8_passForged_30
set_option maxHeartbeats 4000000 in
set_option maxRecDepth 100000 in
theorem c_X8_findOne {l : Launch} {D : va_G} {kA : Nat → ClassId} {M : mM} {T : mT} {sz : Nat} {w cs bs tp : Nat} {td gd bc py rf lt tl fp : Int32} {g : Nat → Option Nat} {b to : Int32} (hc_w : M w = some (.inr (6, [.int td, .int gd, .int bc, .int py, .int rf, .int lt, .int tl, .int fp, .ref cs, .ref bs, .ref tp]))) (hn_w : T w = none) (hc_bs : M bs = some (.inl (kA 5, 4, .inr (.inr (.inr (.inr g)))))) (ht_cs : T cs = some 3) (ht_bs : T bs = some 6) (ht_tp : T tp = some 7) (htd : 0 ≤ td.toInt ∧ td.toInt ≤ 999) (hbc : 0 ≤ bc.toInt ∧ bc.toInt ≤ 4) (htl : 0 ≤ tl.toInt ∧ tl.toInt ≤ 600) (hg : ∀ j, j < 4 → ∃ q, g j = some q ∧ T q = some 2) : mCi l yX8_findOne cX8_findOne 5 (some .int) 4 0 0 D kA M T sz [.ref w, .int b, .int to] (fun r u => (True) ∧ u.2 = T ∧ (∀ q, FrA T q → u.1 q = M q)) := by
  unfold mCi
  refine start_W (by decide) (Nat.le_of_ble_eq_true rfl) ?_
  intro p e s m below meth c ls hC hr hlk hnm hK hH hsz hl
  have hx := hC.1
  have hb := hC.2.1
  have hl : lv_has ls 5 [(0, .ref w), (1, .int b), (2, .int to)] := hl
  have hF : ∀ q, FrA T q → M q = M q := fun q _  => rfl
  have n_w_bs : w ≠ bs := neM hc_w hc_bs (by simp)
  have n_bs_w : bs ≠ w := neM hc_bs hc_w (by simp)
  rcases (show (0 ≤ b.toInt ∧ b.toInt ≤ 3) ∨ ¬ (0 ≤ b.toInt ∧ b.toInt ≤ 3) by omega) with hbr | hbr
  · skip
    obtain ⟨bq, e_bq, t_bq⟩ := hg (Int32.toNatClampNeg b) (by have := iCl (x := b) (by omega); omega)
    obtain ⟨Mq1_, fsq2_, hc_bq, hfr, ho_bq, hH⟩ := hH.unt t_bq rfl
    obtain ⟨xq3_, hl_xq3_, xq4_, hl_xq4_, xq5_, hl_xq5_, xq6_, hl_xq6_, xq7_, hl_xq7_, xq8_, hl_xq8_, xq9_, hl_xq9_, xq10_, hl_xq10_, xq11_, hl_xq11_, xq12_, hl_xq12_, xq13_, hl_xq13_, xq14_, hl_xq14_, qq15_, hl_qq15_, qq16_, hl_qq16_, qq17_, hl_qq17_, qq18_, hl_qq18_, qq19_, hl_qq19_, qq20_, hl_qq20_, qq21_, hl_qq21_, e_fsq2_⟩ := op2  ho_bq
    subst e_fsq2_
    have l_xq3_ : (-2147483648 : Int) ≤ xq3_.toInt := hl_xq3_.1
    have g_xq3_ : xq3_.toInt ≤ 2147483647 := hl_xq3_.2
    have l_xq4_ : (-2147483648 : Int) ≤ xq4_.toInt := hl_xq4_.1
    have g_xq4_ : xq4_.toInt ≤ 2147483647 := hl_xq4_.2
    have l_xq5_ : (-2147483648 : Int) ≤ xq5_.toInt := hl_xq5_.1
    have g_xq5_ : xq5_.toInt ≤ 2147483647 := hl_xq5_.2
    have l_xq6_ : (-2147483648 : Int) ≤ xq6_.toInt := hl_xq6_.1
    have g_xq6_ : xq6_.toInt ≤ 2147483647 := hl_xq6_.2
    have l_xq7_ : (-2147483648 : Int) ≤ xq7_.toInt := hl_xq7_.1
    have g_xq7_ : xq7_.toInt ≤ 2147483647 := hl_xq7_.2
    have l_xq8_ : (0 : Int) ≤ xq8_.toInt := hl_xq8_.1
    have g_xq8_ : xq8_.toInt ≤ 7 := hl_xq8_.2
    have l_xq9_ : (-2147483648 : Int) ≤ xq9_.toInt := hl_xq9_.1
    have g_xq9_ : xq9_.toInt ≤ 2147483647 := hl_xq9_.2
    have l_xq10_ : (0 : Int) ≤ xq10_.toInt := hl_xq10_.1
    have g_xq10_ : xq10_.toInt ≤ 12 := hl_xq10_.2
    have l_xq11_ : (0 : Int) ≤ xq11_.toInt := hl_xq11_.1
    have g_xq11_ : xq11_.toInt ≤ 12 := hl_xq11_.2
    have l_xq12_ : (0 : Int) ≤ xq12_.toInt := hl_xq12_.1
    have g_xq12_ : xq12_.toInt ≤ 1 := hl_xq12_.2
    have l_xq13_ : (0 : Int) ≤ xq13_.toInt := hl_xq13_.1
    have g_xq13_ : xq13_.toInt ≤ 1 := hl_xq13_.2
    have l_xq14_ : (0 : Int) ≤ xq14_.toInt := hl_xq14_.1
    have g_xq14_ : xq14_.toInt ≤ 1 := hl_xq14_.2
    have t_qq15_ := hl_qq15_
    have t_qq16_ := hl_qq16_
    have t_qq17_ := hl_qq17_
    have t_qq18_ := hl_qq18_
    have t_qq19_ := hl_qq19_
    have t_qq20_ := hl_qq20_
    have t_qq21_ := hl_qq21_
    have hc_w : Mq1_ w = some (.inr (6, [.int td, .int gd, .int bc, .int py, .int rf, .int lt, .int tl, .int fp, .ref cs, .ref bs, .ref tp])) := (hfr w (neA (Or.inl hn_w) t_bq (by decide))).trans hc_w
    have hc_bs : Mq1_ bs = some (.inl (kA 5, 4, .inr (.inr (.inr (.inr g))))) := (hfr bs (neA (Or.inr ht_bs) t_bq (by decide))).trans hc_bs
    have n_w_bq : w ≠ bq := (neA (Or.inl hn_w) t_bq (by decide))
    have n_bq_w : bq ≠ w := Ne.symm n_w_bq
    have n_bs_bq : bs ≠ bq := (neA (Or.inr ht_bs) t_bq (by decide))
    have n_bq_bs : bq ≠ bs := Ne.symm n_bs_bq
    have hc_bq : Mq1_ bq = some (.inr (0, [.int xq3_, .int xq4_, .int xq5_, .int xq6_, .int xq7_, .int xq8_, .int xq9_, .int xq10_, .int xq11_, .int xq12_, .int xq13_, .int xq14_, .ref qq15_, .ref qq16_, .ref qq17_, .ref qq18_, .ref qq19_, .ref qq20_, .ref qq21_])) := hc_bq
    have hF : ∀ q, FrA T q → Mq1_ q = M q := fun q hq  => (hfr q (neA hq t_bq (by decide))).trans (hF q hq )
    refine lv_aload_n hx hb dX8_findOne_0 rfl (lv_at hl 0 rfl) ?_
    refine lv_iload_n hx hb dX8_findOne_1 rfl (lv_at hl 1 rfl) ?_
    refine lv_iload_n hx hb dX8_findOne_2 rfl (lv_at hl 2 rfl) ?_
    refine lv_iconst (v := 0) hx hb dX8_findOne_3 (by decide) ?_
    refine goI hK hH (runV (As := [.int b, .int to, .int 0]) (rest := []) hC hK hH (c_X8_whyNoStep_q hc_w hn_w hc_bs hc_bq ho_bq ht_cs ht_bs ht_tp t_bq (by omega) (by omega) (by omega) (by omega) (by omega) (by omega) (by exact e_bq) hg) mlX8_109 (rcvM hK hH hc_w rfl) ⟨⟨Nat.le_of_ble_eq_true rfl, Nat.le_of_ble_eq_true rfl⟩, Nat.le_of_ble_eq_true rfl, Nat.le_of_ble_eq_true rfl⟩ rfl hl.1 rfl (Nat.le_of_ble_eq_true rfl) dX8_findOne_4) (fun rq24_ Mq22_ Tq23_ Hq_ lcq_ hP hz hH => ?_)
    try dsimp only at hP
    obtain ⟨(⟨cq25_, er_rq24_⟩ | er_rq24_ | er_rq24_), eT, eM⟩ := hP
    · skip
      have eT := eT.symm; subst eT
      have er_rq24_ := er_rq24_.symm; subst er_rq24_
      have eM := eM.symm; subst eM
      have cq25_ : xq10_.toInt ≤ 11 ∧ 0 ≤ to.toInt ∧ to.toInt ≤ 7 := cq25_
      refine lv_istore_n (lv' := [(3, .int 0), (0, .ref w), (1, .int b), (2, .int to)]) hx hb dX8_findOne_7 rfl hl (by decide) rfl (fun ls hl => ?_)
      refine lv_iload_n hx hb dX8_findOne_8 rfl (lv_at hl 0 rfl) ?_
      refine jif_ne (tgt := 37) hx hb dX8_findOne_9 (by decide) (fun cq26_ => absurd cq26_ (by decide)) (fun cq26_ => ?_)
      refine lv_aload_n hx hb dX8_findOne_12 rfl (lv_at hl 1 rfl) ?_
      refine xg hC hK hH flX8_17 hc_w rfl dX8_findOne_13 ?_
      refine lv_iload_n hx hb dX8_findOne_16 rfl (lv_at hl 2 rfl) ?_
      refine xqld (ck := 5) hC hK hH rfl hc_bs (iIn (by omega) (by omega)) dX8_findOne_17 ?_
      refine lv_qr e_bq ?_
      refine lv_astore (lv' := [(4, .ref bq), (3, .int 0), (0, .ref w), (1, .int b), (2, .int to)]) hx hb dX8_findOne_18 hl (by decide) rfl (fun ls hl => ?_)
      refine lv_aload hx hb dX8_findOne_20 (lv_at hl 0 rfl) ?_
      refine lv_aload hx hb dX8_findOne_22 (lv_at hl 0 rfl) ?_
      refine lv_iconst (v := 4) hx hb dX8_findOne_24 (by decide) ?_
      refine lv_iconst (v := -1) hx hb dX8_findOne_25 (by decide) ?_
      refine lv_iload_n hx hb dX8_findOne_26 rfl (lv_at hl 4 rfl) ?_
      refine lv_aload_n hx hb dX8_findOne_27 rfl (lv_at hl 2 rfl) ?_
      refine xg hC hK hH flX8_29 hc_w rfl dX8_findOne_28 ?_
      refine goR hK hH (runV (As := [.int 4, .int (-1), .int to, .int td]) (rest := [.ref bq]) hC hK hH (c_X1_newStep hc_bq ho_bq t_bq t_qq15_ (by omega) (by omega)) mlX8_116 (rcvM hK hH hc_bq rfl) ⟨⟨Nat.le_of_ble_eq_true rfl, Nat.le_of_ble_eq_true rfl⟩, Nat.le_of_ble_eq_true rfl, Nat.le_of_ble_eq_true rfl⟩ rfl hl.1 rfl (Nat.le_of_ble_eq_true rfl) dX8_findOne_31) (fun rq29_ Mq27_ Tq28_ Hq_ lcq_ hP hz hH => ?_)
      try dsimp only at hP
      obtain ⟨(t_rq29_), eT, hfr⟩ := hP
      have eT := eT.symm; subst eT
      have hc_w : Mq27_ w = some (.inr (6, [.int td, .int gd, .int bc, .int py, .int rf, .int lt, .int tl, .int fp, .ref cs, .ref bs, .ref tp])) := (hfr w (Or.inl hn_w) ).trans hc_w
      have hc_bs : Mq27_ bs = some (.inl (kA 5, 4, .inr (.inr (.inr (.inr g))))) := (hfr bs (Or.inr (Or.inl ht_bs)) ).trans hc_bs
      have hc_bq : Mq27_ bq = some (.inr (0, [.int xq3_, .int xq4_, .int xq5_, .int xq6_, .int xq7_, .int xq8_, .int xq9_, .int xq10_, .int xq11_, .int xq12_, .int xq13_, .int xq14_, .ref qq15_, .ref qq16_, .ref qq17_, .ref qq18_, .ref qq19_, .ref qq20_, .ref qq21_])) := (hfr bq (Or.inr (Or.inr t_bq)) ).trans hc_bq
      have hF : ∀ q, FrA T q → Mq27_ q = M q := fun q hq  => (hfr q (FrA.k hq) ).trans (hF q hq )
      refine goV hK hH (runV (As := [.ref rq29_]) (rest := []) hC hK hH (c_X1_addStep hc_bq ho_bq t_bq t_rq29_ t_qq16_ (by omega)) mlX8_131 (rcvM hK hH hc_bq rfl) ⟨⟨Nat.le_of_ble_eq_true rfl, Nat.le_of_ble_eq_true rfl⟩, Nat.le_of_ble_eq_true rfl, Nat.le_of_ble_eq_true rfl⟩ rfl hl.1 rfl (Nat.le_of_ble_eq_true rfl) dX8_findOne_34) (fun Mq30_ Tq31_ Hq_ lcq_ hP hz hH => ?_)
      try dsimp only at hP
      obtain ⟨xq33_, ⟨l_xq33_, g_xq33_⟩, xq34_, ⟨l_xq34_, g_xq34_⟩, (⟨hx_bq, hy_bq⟩), eT, hfr⟩ := hP
      have eT := eT.symm; subst eT
      have hc_w : Mq30_ w = some (.inr (6, [.int td, .int gd, .int bc, .int py, .int rf, .int lt, .int tl, .int fp, .ref cs, .ref bs, .ref tp])) := (hfr w (Or.inl hn_w) n_w_bq).trans hc_w
      have hc_bs : Mq30_ bs = some (.inl (kA 5, 4, .inr (.inr (.inr (.inr g))))) := (hfr bs (Or.inr (Or.inl ht_bs)) n_bs_bq).trans hc_bs
      have hc_bq : Mq30_ bq = some (.inr (0, [.int xq3_, .int xq4_, .int xq5_, .int xq6_, .int xq7_, .int xq33_, .int xq9_, .int xq34_, .int xq11_, .int xq12_, .int xq13_, .int xq14_, .ref qq15_, .ref qq16_, .ref qq17_, .ref qq18_, .ref qq19_, .ref qq20_, .ref qq21_])) := hx_bq
      have ho_bq : conf kA T 2 (.inr (0, [.int xq3_, .int xq4_, .int xq5_, .int xq6_, .int xq7_, .int xq33_, .int xq9_, .int xq34_, .int xq11_, .int xq12_, .int xq13_, .int xq14_, .ref qq15_, .ref qq16_, .ref qq17_, .ref qq18_, .ref qq19_, .ref qq20_, .ref qq21_])) := hy_bq
      have hF : ∀ q, FrA T q → Mq30_ q = M q := fun q hq  => (hfr q (FrA.k hq)  (neA hq t_bq (by decide))).trans (hF q hq )
      refine lv_iload_n hx hb dX8_findOne_37 rfl (lv_at hl 1 rfl) ?_
      exact ret_i hC hr hlk hK hH (⟨trivial, rfl, hF⟩) (Nat.le_of_ble_eq_true rfl) (Nat.le_of_ble_eq_true rfl) dX8_findOne_38
    · skip
      have eT := eT.symm; subst eT
      have er_rq24_ := er_rq24_.symm; subst er_rq24_
      have eM := eM.symm; subst eM
      refine lv_istore_n (lv' := [(3, .int 30), (0, .ref w), (1, .int b), (2, .int to)]) hx hb dX8_findOne_7 rfl hl (by decide) rfl (fun ls hl => ?_)
      refine lv_iload_n hx hb dX8_findOne_8 rfl (lv_at hl 0 rfl) ?_
      refine jif_ne (tgt := 37) hx hb dX8_findOne_9 (by decide) (fun cq35_ => ?_) (fun cq35_ => absurd cq35_ (by decide))
      refine lv_iload_n hx hb dX8_findOne_37 rfl (lv_at hl 0 rfl) ?_
      exact ret_i hC hr hlk hK hH (⟨trivial, rfl, hF⟩) (Nat.le_of_ble_eq_true rfl) (Nat.le_of_ble_eq_true rfl) dX8_findOne_38
    · skip
      have eT := eT.symm; subst eT
      have er_rq24_ := er_rq24_.symm; subst er_rq24_
      have eM := eM.symm; subst eM
      refine lv_istore_n (lv' := [(3, .int 31), (0, .ref w), (1, .int b), (2, .int to)]) hx hb dX8_findOne_7 rfl hl (by decide) rfl (fun ls hl => ?_)
      refine lv_iload_n hx hb dX8_findOne_8 rfl (lv_at hl 0 rfl) ?_
      refine jif_ne (tgt := 37) hx hb dX8_findOne_9 (by decide) (fun cq36_ => ?_) (fun cq36_ => absurd cq36_ (by decide))
      refine lv_iload_n hx hb dX8_findOne_37 rfl (lv_at hl 0 rfl) ?_
      exact ret_i hC hr hlk hK hH (⟨trivial, rfl, hF⟩) (Nat.le_of_ble_eq_true rfl) (Nat.le_of_ble_eq_true rfl) dX8_findOne_38
  · skip
    refine lv_aload_n hx hb dX8_findOne_0 rfl (lv_at hl 0 rfl) ?_
    refine lv_iload_n hx hb dX8_findOne_1 rfl (lv_at hl 1 rfl) ?_
    refine lv_iload_n hx hb dX8_findOne_2 rfl (lv_at hl 2 rfl) ?_
    refine lv_iconst (v := 0) hx hb dX8_findOne_3 (by decide) ?_
    refine goI hK hH (runV (As := [.int b, .int to, .int 0]) (rest := []) hC hK hH (c_X8_whyNoStep_n hc_w hn_w hc_bs ht_cs ht_bs ht_tp (by omega) (by omega) (by omega) (by omega) hg) mlX8_109 (rcvM hK hH hc_w rfl) ⟨⟨Nat.le_of_ble_eq_true rfl, Nat.le_of_ble_eq_true rfl⟩, Nat.le_of_ble_eq_true rfl, Nat.le_of_ble_eq_true rfl⟩ rfl hl.1 rfl (Nat.le_of_ble_eq_true rfl) dX8_findOne_4) (fun rq39_ Mq37_ Tq38_ Hq_ lcq_ hP hz hH => ?_)
    try dsimp only at hP
    obtain ⟨(er_rq39_), eT, eM⟩ := hP
    have eT := eT.symm; subst eT
    have er_rq39_ := er_rq39_.symm; subst er_rq39_
    have eM := eM.symm; subst eM
    refine lv_istore_n (lv' := [(3, .int 30), (0, .ref w), (1, .int b), (2, .int to)]) hx hb dX8_findOne_7 rfl hl (by decide) rfl (fun ls hl => ?_)
    refine lv_iload_n hx hb dX8_findOne_8 rfl (lv_at hl 0 rfl) ?_
    refine jif_ne (tgt := 37) hx hb dX8_findOne_9 (by decide) (fun cq40_ => ?_) (fun cq40_ => absurd cq40_ (by decide))
    refine lv_iload_n hx hb dX8_findOne_37 rfl (lv_at hl 0 rfl) ?_
    exact ret_i hC hr hlk hK hH (⟨trivial, rfl, hF⟩) (Nat.le_of_ble_eq_true rfl) (Nat.le_of_ble_eq_true rfl) dX8_findOne_38
