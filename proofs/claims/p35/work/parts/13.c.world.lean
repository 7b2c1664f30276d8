set_option maxHeartbeats 4000000 in
set_option maxRecDepth 100000 in
theorem c_X8_note {l : Launch} {D : va_G} {kA : Nat → ClassId} {M : mM} {T : mT} {sz : Nat} {w cs bs tp : Nat} {td gd bc py rf lt tl fp : Int32} {g : Nat → Option Nat} {n : Int32} (hc_w : M w = some (.inr (6, [.int td, .int gd, .int bc, .int py, .int rf, .int lt, .int tl, .int fp, .ref cs, .ref bs, .ref tp]))) (hn_w : T w = none) (hc_bs : M bs = some (.inl (kA 5, 4, .inr (.inr (.inr (.inr g)))))) (ht_cs : T cs = some 3) (ht_bs : T bs = some 6) (ht_tp : T tp = some 7) (htd : 0 ≤ td.toInt ∧ td.toInt ≤ 999) (hbc : 0 ≤ bc.toInt ∧ bc.toInt ≤ 4) (htl : 0 ≤ tl.toInt ∧ tl.toInt ≤ 600) (hg : ∀ j, j < 4 → ∃ q, g j = some q ∧ T q = some 2) : mCi l yX8_note cX8_note 2 (some .int) 0 0 0 D kA M T sz [.ref w, .int n] (fun r u => ∃ rf2 : Int32, ((-2147483648 : Int) ≤ rf2.toInt ∧ rf2.toInt ≤ 2147483647) ∧ (r = n ∧ u.1 w = some (.inr (6, [.int td, .int gd, .int bc, .int py, .int rf2, .int n, .int tl, .int fp, .ref cs, .ref bs, .ref tp]))) ∧ u.2 = T ∧ (∀ q, FrK T q → q ≠ w → u.1 q = M q)) := by
  unfold mCi
  refine start_W (by decide) (Nat.le_of_ble_eq_true rfl) ?_
  intro p e s m below meth c ls hC hr hlk hnm hK hH hsz hl
  have hx := hC.1
  have hb := hC.2.1
  have hl : lv_has ls 2 [(0, .ref w), (1, .int n)] := hl
  have hF : ∀ q, FrK T q → q ≠ w → M q = M q := fun q _ _ => rfl
  have n_w_bs : w ≠ bs := neM hc_w hc_bs (by simp)
  have n_bs_w : bs ≠ w := neM hc_bs hc_w (by simp)
  refine lv_aload_n hx hb dX8_note_0 rfl (lv_at hl 0 rfl) ?_
  refine lv_iload_n hx hb dX8_note_1 rfl (lv_at hl 1 rfl) ?_
  refine yp (v := .int n) hC hK hH flX8_45 hc_w (noT hn_w) rfl rfl (Nat.le_of_ble_eq_true rfl) dX8_note_2 (fun Hq_ lcq_ Mq1_ hc_w hfr hH => ?_)
  have hc_w : Mq1_ w = some (.inr (6, [.int td, .int gd, .int bc, .int py, .int rf, .int n, .int tl, .int fp, .ref cs, .ref bs, .ref tp])) := hc_w
  have hc_bs : Mq1_ bs = some (.inl (kA 5, 4, .inr (.inr (.inr (.inr g))))) := (hfr bs n_bs_w).trans hc_bs
  have hF : ∀ q, FrK T q → q ≠ w → Mq1_ q = M q := fun q hq h0 => (hfr q h0).trans (hF q hq h0)
  refine lv_iload_n hx hb dX8_note_5 rfl (lv_at hl 1 rfl) ?_
  refine jif_eq (tgt := 19) hx hb dX8_note_6 (by decide) (fun cq2_ => ?_) (fun cq2_ => ?_)
  · skip
    have cq2_ : n.toInt = 0 := cq2_
    refine lv_iload_n hx hb dX8_note_19 rfl (lv_at hl 1 rfl) ?_
    exact ret_i hC hr hlk hK hH (⟨rf, iRg _, ⟨rfl, hc_w⟩, rfl, hF⟩) (Nat.le_of_ble_eq_true rfl) (Nat.le_of_ble_eq_true rfl) dX8_note_20
  · skip
    have cq2_ : n.toInt ≠ 0 := cq2_
    refine lv_aload_n hx hb dX8_note_9 rfl (lv_at hl 0 rfl) ?_
    refine lv_dup hx hb dX8_note_10 rfl ?_
    refine xg hC hK hH flX8_42 hc_w rfl dX8_note_11 ?_
    refine lv_iconst (v := 1) hx hb dX8_note_14 (by decide) ?_
    refine lv_iadd hx hb dX8_note_15 ?_
    refine lv_topi (fun zq3_ e_zq3_ => ?_)
    refine yp (v := .int zq3_) hC hK hH flX8_42 hc_w (noT hn_w) rfl rfl (Nat.le_of_ble_eq_true rfl) dX8_note_16 (fun Hq_ lcq_ Mq4_ hc_w hfr hH => ?_)
    have hc_w : Mq4_ w = some (.inr (6, [.int td, .int gd, .int bc, .int py, .int zq3_, .int n, .int tl, .int fp, .ref cs, .ref bs, .ref tp])) := hc_w
    have hc_bs : Mq4_ bs = some (.inl (kA 5, 4, .inr (.inr (.inr (.inr g))))) := (hfr bs n_bs_w).trans hc_bs
    have hF : ∀ q, FrK T q → q ≠ w → Mq4_ q = M q := fun q hq h0 => (hfr q h0).trans (hF q hq h0)
    refine lv_iload_n hx hb dX8_note_19 rfl (lv_at hl 1 rfl) ?_
    exact ret_i hC hr hlk hK hH (⟨zq3_, iRg _, ⟨rfl, hc_w⟩, rfl, hF⟩) (Nat.le_of_ble_eq_true rfl) (Nat.le_of_ble_eq_true rfl) dX8_note_20
set_option maxHeartbeats 4000000 in
set_option maxRecDepth 100000 in
theorem c_X8_hasBill {l : Launch} {D : va_G} {kA : Nat → ClassId} {M : mM} {T : mT} {sz : Nat} {w cs bs tp : Nat} {td gd bc py rf lt tl fp : Int32} {g : Nat → Option Nat} {b : Int32} (hc_w : M w = some (.inr (6, [.int td, .int gd, .int bc, .int py, .int rf, .int lt, .int tl, .int fp, .ref cs, .ref bs, .ref tp]))) (hn_w : T w = none) (hc_bs : M bs = some (.inl (kA 5, 4, .inr (.inr (.inr (.inr g)))))) (ht_cs : T cs = some 3) (ht_bs : T bs = some 6) (ht_tp : T tp = some 7) (htd : 0 ≤ td.toInt ∧ td.toInt ≤ 999) (hbc : 0 ≤ bc.toInt ∧ bc.toInt ≤ 4) (htl : 0 ≤ tl.toInt ∧ tl.toInt ≤ 600) (hg : ∀ j, j < 4 → ∃ q, g j = some q ∧ T q = some 2) : mCi l yX8_hasBill cX8_hasBill 2 (some .boolean) 0 0 0 D kA M T sz [.ref w, .int b] (fun r u => (((0 ≤ b.toInt ∧ b.toInt ≤ 3) ∧ r = 1) ∨ (r = 0)) ∧ u.2 = T ∧ u.1 = M) := by
  unfold mCi
  refine start_W (by decide) (Nat.le_of_ble_eq_true rfl) ?_
  intro p e s m below meth c ls hC hr hlk hnm hK hH hsz hl
  have hx := hC.1
  have hb := hC.2.1
  have hl : lv_has ls 2 [(0, .ref w), (1, .int b)] := hl
  have n_w_bs : w ≠ bs := neM hc_w hc_bs (by simp)
  have n_bs_w : bs ≠ w := neM hc_bs hc_w (by simp)
  refine lv_iload_n hx hb dX8_hasBill_0 rfl (lv_at hl 1 rfl) ?_
  refine jif_lt (tgt := 16) hx hb dX8_hasBill_1 (by decide) (fun cq1_ => ?_) (fun cq1_ => ?_)
  · skip
    have cq1_ : b.toInt < 0 := cq1_
    refine lv_iconst (v := 0) hx hb dX8_hasBill_16 (by decide) ?_
    exact ret_z hC hr hlk hK hH (by first | exact Or.inl rfl | exact Or.inr rfl | assumption) (⟨Or.inr (rfl), rfl, rfl⟩) (Nat.le_of_ble_eq_true rfl) (Nat.le_of_ble_eq_true rfl) dX8_hasBill_17
  · skip
    have cq1_ : 0 ≤ b.toInt := cq1_
    refine lv_iload_n hx hb dX8_hasBill_4 rfl (lv_at hl 1 rfl) ?_
    refine lv_aload_n hx hb dX8_hasBill_5 rfl (lv_at hl 0 rfl) ?_
    refine xg hC hK hH flX8_36 hc_w rfl dX8_hasBill_6 ?_
    refine jic_ge (tgt := 16) hx hb dX8_hasBill_9 (by decide) (fun cq2_ => ?_) (fun cq2_ => ?_)
    · skip
      have cq2_ : bc.toInt ≤ b.toInt := cq2_
      refine lv_iconst (v := 0) hx hb dX8_hasBill_16 (by decide) ?_
      exact ret_z hC hr hlk hK hH (by first | exact Or.inl rfl | exact Or.inr rfl | assumption) (⟨Or.inr (rfl), rfl, rfl⟩) (Nat.le_of_ble_eq_true rfl) (Nat.le_of_ble_eq_true rfl) dX8_hasBill_17
    · skip
      have cq2_ : b.toInt < bc.toInt := cq2_
      refine lv_iconst (v := 1) hx hb dX8_hasBill_12 (by decide) ?_
      refine lv_goto (tgt := 17) hx hb dX8_hasBill_13 (by decide) ?_
      exact ret_z hC hr hlk hK hH (by first | exact Or.inl rfl | exact Or.inr rfl | assumption) (⟨Or.inl (⟨by omega, rfl⟩), rfl, rfl⟩) (Nat.le_of_ble_eq_true rfl) (Nat.le_of_ble_eq_true rfl) dX8_hasBill_17
set_option maxHeartbeats 4000000 in
set_option maxRecDepth 100000 in
theorem c_X8_hasParty {l : Launch} {D : va_G} {kA : Nat → ClassId} {M : mM} {T : mT} {sz : Nat} {w cs bs tp : Nat} {td gd bc py rf lt tl fp : Int32} {g : Nat → Option Nat} {b pt : Int32} (hc_w : M w = some (.inr (6, [.int td, .int gd, .int bc, .int py, .int rf, .int lt, .int tl, .int fp, .ref cs, .ref bs, .ref tp]))) (hn_w : T w = none) (hc_bs : M bs = some (.inl (kA 5, 4, .inr (.inr (.inr (.inr g)))))) (ht_cs : T cs = some 3) (ht_bs : T bs = some 6) (ht_tp : T tp = some 7) (htd : 0 ≤ td.toInt ∧ td.toInt ≤ 999) (hbc : 0 ≤ bc.toInt ∧ bc.toInt ≤ 4) (htl : 0 ≤ tl.toInt ∧ tl.toInt ≤ 600) (hg : ∀ j, j < 4 → ∃ q, g j = some q ∧ T q = some 2) : mCi l yX8_hasParty cX8_hasParty 3 (some .boolean) 1 0 0 D kA M T sz [.ref w, .int b, .int pt] (fun r u => (((0 ≤ b.toInt ∧ b.toInt ≤ 3 ∧ 0 ≤ pt.toInt ∧ pt.toInt ≤ 13) ∧ r = 1) ∨ (r = 0)) ∧ u.2 = T ∧ u.1 = M) := by
  unfold mCi
  refine start_W (by decide) (Nat.le_of_ble_eq_true rfl) ?_
  intro p e s m below meth c ls hC hr hlk hnm hK hH hsz hl
  have hx := hC.1
  have hb := hC.2.1
  have hl : lv_has ls 3 [(0, .ref w), (1, .int b), (2, .int pt)] := hl
  have n_w_bs : w ≠ bs := neM hc_w hc_bs (by simp)
  have n_bs_w : bs ≠ w := neM hc_bs hc_w (by simp)
  refine lv_aload_n hx hb dX8_hasParty_0 rfl (lv_at hl 0 rfl) ?_
  refine lv_iload_n hx hb dX8_hasParty_1 rfl (lv_at hl 1 rfl) ?_
  refine goI hK hH (runV (As := [.int b]) (rest := []) hC hK hH (c_X8_hasBill hc_w hn_w hc_bs ht_cs ht_bs ht_tp (by omega) (by omega) (by omega) hg) mlX8_68 (rcvM hK hH hc_w rfl) ⟨⟨Nat.le_of_ble_eq_true rfl, Nat.le_of_ble_eq_true rfl⟩, Nat.le_of_ble_eq_true rfl, Nat.le_of_ble_eq_true rfl⟩ rfl hl.1 rfl (Nat.le_of_ble_eq_true rfl) dX8_hasParty_2) (fun rq3_ Mq1_ Tq2_ Hq_ lcq_ hP hz hH => ?_)
  try dsimp only at hP
  obtain ⟨(⟨cq4_, er_rq3_⟩ | er_rq3_), eT, eM⟩ := hP
  · skip
    have eT := eT.symm; subst eT
    have er_rq3_ := er_rq3_.symm; subst er_rq3_
    have eM := eM.symm; subst eM
    have cq4_ : 0 ≤ b.toInt ∧ b.toInt ≤ 3 := cq4_
    refine jif_eq (tgt := 29) hx hb dX8_hasParty_5 (by decide) (fun cq5_ => absurd cq5_ (by decide)) (fun cq5_ => ?_)
    refine lv_iload_n hx hb dX8_hasParty_8 rfl (lv_at hl 2 rfl) ?_
    refine jif_lt (tgt := 29) hx hb dX8_hasParty_9 (by decide) (fun cq6_ => ?_) (fun cq6_ => ?_)
    · skip
      have cq6_ : pt.toInt < 0 := cq6_
      refine lv_iconst (v := 0) hx hb dX8_hasParty_29 (by decide) ?_
      exact ret_z hC hr hlk hK hH (by first | exact Or.inl rfl | exact Or.inr rfl | assumption) (⟨Or.inr (rfl), rfl, rfl⟩) (Nat.le_of_ble_eq_true rfl) (Nat.le_of_ble_eq_true rfl) dX8_hasParty_30
    · skip
      have cq6_ : 0 ≤ pt.toInt := cq6_
      refine lv_iload_n hx hb dX8_hasParty_12 rfl (lv_at hl 2 rfl) ?_
      refine lv_aload_n hx hb dX8_hasParty_13 rfl (lv_at hl 0 rfl) ?_
      refine xg hC hK hH flX8_17 hc_w rfl dX8_hasParty_14 ?_
      refine lv_iload_n hx hb dX8_hasParty_17 rfl (lv_at hl 1 rfl) ?_
      refine xqld (ck := 5) hC hK hH rfl hc_bs (iIn (by omega) (by omega)) dX8_hasParty_18 ?_
      obtain ⟨qq7_, e_qq7_, t_qq7_⟩ := hg (Int32.toNatClampNeg b) (by have := iCl (x := b) (by omega); omega)
      refine lv_qr e_qq7_ ?_
      refine goI hK hH (runV (As := []) (rest := [.int pt]) hC hK hH (c_X1_parties t_qq7_) mlX8_72 (rcvT hK hH t_qq7_ rfl rfl) ⟨⟨Nat.le_of_ble_eq_true rfl, Nat.le_of_ble_eq_true rfl⟩, Nat.le_of_ble_eq_true rfl, Nat.le_of_ble_eq_true rfl⟩ rfl hl.1 rfl (Nat.le_of_ble_eq_true rfl) dX8_hasParty_19) (fun rq10_ Mq8_ Tq9_ Hq_ lcq_ hP hz hH => ?_)
      try dsimp only at hP
      obtain ⟨(⟨l_rq10_, g_rq10_⟩), eT, eM⟩ := hP
      have eT := eT.symm; subst eT
      have eM := eM.symm; subst eM
      refine jic_ge (tgt := 29) hx hb dX8_hasParty_22 (by decide) (fun cq11_ => ?_) (fun cq11_ => ?_)
      · skip
        have cq11_ : rq10_.toInt ≤ pt.toInt := cq11_
        refine lv_iconst (v := 0) hx hb dX8_hasParty_29 (by decide) ?_
        exact ret_z hC hr hlk hK hH (by first | exact Or.inl rfl | exact Or.inr rfl | assumption) (⟨Or.inr (rfl), rfl, rfl⟩) (Nat.le_of_ble_eq_true rfl) (Nat.le_of_ble_eq_true rfl) dX8_hasParty_30
      · skip
        have cq11_ : pt.toInt < rq10_.toInt := cq11_
        refine lv_iconst (v := 1) hx hb dX8_hasParty_25 (by decide) ?_
        refine lv_goto (tgt := 30) hx hb dX8_hasParty_26 (by decide) ?_
        exact ret_z hC hr hlk hK hH (by first | exact Or.inl rfl | exact Or.inr rfl | assumption) (⟨Or.inl (⟨by omega, rfl⟩), rfl, rfl⟩) (Nat.le_of_ble_eq_true rfl) (Nat.le_of_ble_eq_true rfl) dX8_hasParty_30
  · skip
    have eT := eT.symm; subst eT
    have er_rq3_ := er_rq3_.symm; subst er_rq3_
    have eM := eM.symm; subst eM
    refine jif_eq (tgt := 29) hx hb dX8_hasParty_5 (by decide) (fun cq12_ => ?_) (fun cq12_ => absurd cq12_ (by decide))
    refine lv_iconst (v := 0) hx hb dX8_hasParty_29 (by decide) ?_
    exact ret_z hC hr hlk hK hH (by first | exact Or.inl rfl | exact Or.inr rfl | assumption) (⟨Or.inr (rfl), rfl, rfl⟩) (Nat.le_of_ble_eq_true rfl) (Nat.le_of_ble_eq_true rfl) dX8_hasParty_30
set_option maxHeartbeats 4000000 in
set_option maxRecDepth 100000 in
theorem c_X8_hasSigner {l : Launch} {D : va_G} {kA : Nat → ClassId} {M : mM} {T : mT} {sz : Nat} {w cs bs tp : Nat} {td gd bc py rf lt tl fp : Int32} {g : Nat → Option Nat} {b pt : Int32} (hc_w : M w = some (.inr (6, [.int td, .int gd, .int bc, .int py, .int rf, .int lt, .int tl, .int fp, .ref cs, .ref bs, .ref tp]))) (hn_w : T w = none) (hc_bs : M bs = some (.inl (kA 5, 4, .inr (.inr (.inr (.inr g)))))) (ht_cs : T cs = some 3) (ht_bs : T bs = some 6) (ht_tp : T tp = some 7) (htd : 0 ≤ td.toInt ∧ td.toInt ≤ 999) (hbc : 0 ≤ bc.toInt ∧ bc.toInt ≤ 4) (htl : 0 ≤ tl.toInt ∧ tl.toInt ≤ 600) (hg : ∀ j, j < 4 → ∃ q, g j = some q ∧ T q = some 2) : mCi l yX8_hasSigner cX8_hasSigner 3 (some .boolean) 2 0 0 D kA M T sz [.ref w, .int b, .int pt] (fun r u => (((0 ≤ b.toInt ∧ b.toInt ≤ 3 ∧ 0 ≤ pt.toInt ∧ pt.toInt ≤ 13) ∧ r = 1) ∨ (r = 0)) ∧ u.2 = T ∧ u.1 = M) := by
  unfold mCi
  refine start_W (by decide) (Nat.le_of_ble_eq_true rfl) ?_
  intro p e s m below meth c ls hC hr hlk hnm hK hH hsz hl
  have hx := hC.1
  have hb := hC.2.1
  have hl : lv_has ls 3 [(0, .ref w), (1, .int b), (2, .int pt)] := hl
  have n_w_bs : w ≠ bs := neM hc_w hc_bs (by simp)
  have n_bs_w : bs ≠ w := neM hc_bs hc_w (by simp)
  refine lv_aload_n hx hb dX8_hasSigner_0 rfl (lv_at hl 0 rfl) ?_
  refine lv_iload_n hx hb dX8_hasSigner_1 rfl (lv_at hl 1 rfl) ?_
  refine lv_iload_n hx hb dX8_hasSigner_2 rfl (lv_at hl 2 rfl) ?_
  refine goI hK hH (runV (As := [.int b, .int pt]) (rest := []) hC hK hH (c_X8_hasParty hc_w hn_w hc_bs ht_cs ht_bs ht_tp (by omega) (by omega) (by omega) hg) mlX8_76 (rcvM hK hH hc_w rfl) ⟨⟨Nat.le_of_ble_eq_true rfl, Nat.le_of_ble_eq_true rfl⟩, Nat.le_of_ble_eq_true rfl, Nat.le_of_ble_eq_true rfl⟩ rfl hl.1 rfl (Nat.le_of_ble_eq_true rfl) dX8_hasSigner_3) (fun rq3_ Mq1_ Tq2_ Hq_ lcq_ hP hz hH => ?_)
  try dsimp only at hP
  obtain ⟨(⟨cq4_, er_rq3_⟩ | er_rq3_), eT, eM⟩ := hP
  · skip
    have eT := eT.symm; subst eT
    have er_rq3_ := er_rq3_.symm; subst er_rq3_
    have eM := eM.symm; subst eM
    have cq4_ : 0 ≤ b.toInt ∧ b.toInt ≤ 3 ∧ 0 ≤ pt.toInt ∧ pt.toInt ≤ 13 := cq4_
    refine jif_eq (tgt := 26) hx hb dX8_hasSigner_6 (by decide) (fun cq5_ => absurd cq5_ (by decide)) (fun cq5_ => ?_)
    refine lv_aload_n hx hb dX8_hasSigner_9 rfl (lv_at hl 0 rfl) ?_
    refine xg hC hK hH flX8_17 hc_w rfl dX8_hasSigner_10 ?_
    refine lv_iload_n hx hb dX8_hasSigner_13 rfl (lv_at hl 1 rfl) ?_
    refine xqld (ck := 5) hC hK hH rfl hc_bs (iIn (by omega) (by omega)) dX8_hasSigner_14 ?_
    obtain ⟨qq6_, e_qq6_, t_qq6_⟩ := hg (Int32.toNatClampNeg b) (by have := iCl (x := b) (by omega); omega)
    refine lv_qr e_qq6_ ?_
    refine lv_iload_n hx hb dX8_hasSigner_15 rfl (lv_at hl 2 rfl) ?_
    refine goI hK hH (runV (As := [.int pt]) (rest := []) hC hK hH (c_X1_signed t_qq6_) mlX8_80 (rcvT hK hH t_qq6_ rfl rfl) ⟨⟨Nat.le_of_ble_eq_true rfl, Nat.le_of_ble_eq_true rfl⟩, Nat.le_of_ble_eq_true rfl, Nat.le_of_ble_eq_true rfl⟩ rfl hl.1 rfl (Nat.le_of_ble_eq_true rfl) dX8_hasSigner_16) (fun rq9_ Mq7_ Tq8_ Hq_ lcq_ hP hz hH => ?_)
    try dsimp only at hP
    obtain ⟨(⟨l_rq9_, g_rq9_⟩), eT, eM⟩ := hP
    have eT := eT.symm; subst eT
    have eM := eM.symm; subst eM
    refine jif_eq (tgt := 26) hx hb dX8_hasSigner_19 (by decide) (fun cq10_ => ?_) (fun cq10_ => ?_)
    · skip
      have cq10_ : rq9_.toInt = 0 := cq10_
      refine lv_iconst (v := 0) hx hb dX8_hasSigner_26 (by decide) ?_
      exact ret_z hC hr hlk hK hH (by first | exact Or.inl rfl | exact Or.inr rfl | assumption) (⟨Or.inr (rfl), rfl, rfl⟩) (Nat.le_of_ble_eq_true rfl) (Nat.le_of_ble_eq_true rfl) dX8_hasSigner_27
    · skip
      have cq10_ : rq9_.toInt ≠ 0 := cq10_
      refine lv_iconst (v := 1) hx hb dX8_hasSigner_22 (by decide) ?_
      refine lv_goto (tgt := 27) hx hb dX8_hasSigner_23 (by decide) ?_
      exact ret_z hC hr hlk hK hH (by first | exact Or.inl rfl | exact Or.inr rfl | assumption) (⟨Or.inl (⟨by omega, rfl⟩), rfl, rfl⟩) (Nat.le_of_ble_eq_true rfl) (Nat.le_of_ble_eq_true rfl) dX8_hasSigner_27
  · skip
    have eT := eT.symm; subst eT
    have er_rq3_ := er_rq3_.symm; subst er_rq3_
    have eM := eM.symm; subst eM
    refine jif_eq (tgt := 26) hx hb dX8_hasSigner_6 (by decide) (fun cq11_ => ?_) (fun cq11_ => absurd cq11_ (by decide))
    refine lv_iconst (v := 0) hx hb dX8_hasSigner_26 (by decide) ?_
    exact ret_z hC hr hlk hK hH (by first | exact Or.inl rfl | exact Or.inr rfl | assumption) (⟨Or.inr (rfl), rfl, rfl⟩) (Nat.le_of_ble_eq_true rfl) (Nat.le_of_ble_eq_true rfl) dX8_hasSigner_27
set_option maxHeartbeats 4000000 in
set_option maxRecDepth 100000 in
theorem c_X8_goOn {l : Launch} {D : va_G} {kA : Nat → ClassId} {M : mM} {T : mT} {sz : Nat} {w cs bs tp : Nat} {td gd bc py rf lt tl fp : Int32} {g : Nat → Option Nat} {n : Int32} (hc_w : M w = some (.inr (6, [.int td, .int gd, .int bc, .int py, .int rf, .int lt, .int tl, .int fp, .ref cs, .ref bs, .ref tp]))) (hn_w : T w = none) (hc_bs : M bs = some (.inl (kA 5, 4, .inr (.inr (.inr (.inr g)))))) (ht_cs : T cs = some 3) (ht_bs : T bs = some 6) (ht_tp : T tp = some 7) (htd : 0 ≤ td.toInt ∧ td.toInt ≤ 999) (hbc : 0 ≤ bc.toInt ∧ bc.toInt ≤ 4) (htl : 0 ≤ tl.toInt ∧ tl.toInt ≤ 600) (hg : ∀ j, j < 4 → ∃ q, g j = some q ∧ T q = some 2) : mCi l yX8_goOn cX8_goOn 2 (some .int) 0 0 0 D kA M T sz [.ref w, .int n] (fun r u => ∃ td2 : Int32, ((0 : Int) ≤ td2.toInt ∧ td2.toInt ≤ 999) ∧ (u.1 w = some (.inr (6, [.int td2, .int gd, .int bc, .int py, .int rf, .int lt, .int tl, .int fp, .ref cs, .ref bs, .ref tp]))) ∧ u.2 = T ∧ (∀ q, FrK T q → q ≠ w → u.1 q = M q)) := by
  unfold mCi
  refine start_W (by decide) (Nat.le_of_ble_eq_true rfl) ?_
  intro p e s m below meth c ls hC hr hlk hnm hK hH hsz hl
  have hx := hC.1
  have hb := hC.2.1
  have hl : lv_has ls 2 [(0, .ref w), (1, .int n)] := hl
  have hF : ∀ q, FrK T q → q ≠ w → M q = M q := fun q _ _ => rfl
  have n_w_bs : w ≠ bs := neM hc_w hc_bs (by simp)
  have n_bs_w : bs ≠ w := neM hc_bs hc_w (by simp)
  refine lv_iload_n hx hb dX8_goOn_0 rfl (lv_at hl 1 rfl) ?_
  refine lv_iconst (v := 1) hx hb dX8_goOn_1 (by decide) ?_
  refine jic_lt (tgt := 23) hx hb dX8_goOn_2 (by decide) (fun cq1_ => ?_) (fun cq1_ => ?_)
  · skip
    have cq1_ : n.toInt < 1 := cq1_
    refine lv_bipush (v := 30) hx hb dX8_goOn_23 (by decide) ?_
    exact ret_i hC hr hlk hK hH (⟨td, ⟨by omega, by omega⟩, hc_w, rfl, hF⟩) (Nat.le_of_ble_eq_true rfl) (Nat.le_of_ble_eq_true rfl) dX8_goOn_25
  · skip
    have cq1_ : 1 ≤ n.toInt := cq1_
    refine lv_iload_n hx hb dX8_goOn_5 rfl (lv_at hl 1 rfl) ?_
    refine lv_bipush (v := 99) hx hb dX8_goOn_6 (by decide) ?_
    refine jic_gt (tgt := 23) hx hb dX8_goOn_8 (by decide) (fun cq2_ => ?_) (fun cq2_ => ?_)
    · skip
      have cq2_ : 99 < n.toInt := cq2_
      refine lv_bipush (v := 30) hx hb dX8_goOn_23 (by decide) ?_
      exact ret_i hC hr hlk hK hH (⟨td, ⟨by omega, by omega⟩, hc_w, rfl, hF⟩) (Nat.le_of_ble_eq_true rfl) (Nat.le_of_ble_eq_true rfl) dX8_goOn_25
    · skip
      have cq2_ : n.toInt ≤ 99 := cq2_
      refine lv_aload_n hx hb dX8_goOn_11 rfl (lv_at hl 0 rfl) ?_
      refine xg hC hK hH flX8_29 hc_w rfl dX8_goOn_12 ?_
      refine lv_iload_n hx hb dX8_goOn_15 rfl (lv_at hl 1 rfl) ?_
      refine lv_iadd hx hb dX8_goOn_16 ?_
      refine lv_topi (fun zq3_ e_zq3_ => ?_)
      have h_zq3_ : zq3_.toInt = td.toInt + n.toInt := by rw [e_zq3_, iAdd (by have := iRg td; have := iRg n; omega) (by have := iRg td; have := iRg n; omega)]
      refine lv_sipush (v := 999) hx hb dX8_goOn_17 (by decide) ?_
      refine jic_le (tgt := 26) hx hb dX8_goOn_20 (by decide) (fun cq4_ => ?_) (fun cq4_ => ?_)
      · skip
        have cq4_ : zq3_.toInt ≤ 999 := cq4_
        refine lv_aload_n hx hb dX8_goOn_26 rfl (lv_at hl 0 rfl) ?_
        refine lv_dup hx hb dX8_goOn_27 rfl ?_
        refine xg hC hK hH flX8_29 hc_w rfl dX8_goOn_28 ?_
        refine lv_iload_n hx hb dX8_goOn_31 rfl (lv_at hl 1 rfl) ?_
        refine lv_iadd hx hb dX8_goOn_32 ?_
        refine lv_cst (v := zq3_) e_zq3_.symm ?_
        refine yp (v := .int zq3_) hC hK hH flX8_29 hc_w (noT hn_w) rfl rfl (Nat.le_of_ble_eq_true rfl) dX8_goOn_33 (fun Hq_ lcq_ Mq5_ hc_w hfr hH => ?_)
        have hc_w : Mq5_ w = some (.inr (6, [.int zq3_, .int gd, .int bc, .int py, .int rf, .int lt, .int tl, .int fp, .ref cs, .ref bs, .ref tp])) := hc_w
        have hc_bs : Mq5_ bs = some (.inl (kA 5, 4, .inr (.inr (.inr (.inr g))))) := (hfr bs n_bs_w).trans hc_bs
        have hF : ∀ q, FrK T q → q ≠ w → Mq5_ q = M q := fun q hq h0 => (hfr q h0).trans (hF q hq h0)
        refine lv_iconst (v := 0) hx hb dX8_goOn_36 (by decide) ?_
        exact ret_i hC hr hlk hK hH (⟨zq3_, ⟨by omega, by omega⟩, hc_w, rfl, hF⟩) (Nat.le_of_ble_eq_true rfl) (Nat.le_of_ble_eq_true rfl) dX8_goOn_37
      · skip
        have cq4_ : 999 < zq3_.toInt := cq4_
        refine lv_bipush (v := 30) hx hb dX8_goOn_23 (by decide) ?_
        exact ret_i hC hr hlk hK hH (⟨td, ⟨by omega, by omega⟩, hc_w, rfl, hF⟩) (Nat.le_of_ble_eq_true rfl) (Nat.le_of_ble_eq_true rfl) dX8_goOn_25
set_option maxHeartbeats 4000000 in
set_option maxRecDepth 100000 in
theorem c_X8_setGrace {l : Launch} {D : va_G} {kA : Nat → ClassId} {M : mM} {T : mT} {sz : Nat} {w cs bs tp : Nat} {td gd bc py rf lt tl fp : Int32} {g : Nat → Option Nat} {n : Int32} (hc_w : M w = some (.inr (6, [.int td, .int gd, .int bc, .int py, .int rf, .int lt, .int tl, .int fp, .ref cs, .ref bs, .ref tp]))) (hn_w : T w = none) (hc_bs : M bs = some (.inl (kA 5, 4, .inr (.inr (.inr (.inr g)))))) (ht_cs : T cs = some 3) (ht_bs : T bs = some 6) (ht_tp : T tp = some 7) (htd : 0 ≤ td.toInt ∧ td.toInt ≤ 999) (hbc : 0 ≤ bc.toInt ∧ bc.toInt ≤ 4) (htl : 0 ≤ tl.toInt ∧ tl.toInt ≤ 600) (hg : ∀ j, j < 4 → ∃ q, g j = some q ∧ T q = some 2) : mCi l yX8_setGrace cX8_setGrace 2 (some .int) 0 0 0 D kA M T sz [.ref w, .int n] (fun r u => ∃ gd2 : Int32, ((-2147483648 : Int) ≤ gd2.toInt ∧ gd2.toInt ≤ 2147483647) ∧ (((1 ≤ n.toInt ∧ n.toInt ≤ 9) ∧ r = 0 ∧ u.1 w = some (.inr (6, [.int td, .int gd2, .int bc, .int py, .int rf, .int lt, .int tl, .int fp, .ref cs, .ref bs, .ref tp]))) ∨ ((¬ (1 ≤ n.toInt ∧ n.toInt ≤ 9)) ∧ r = 30 ∧ u.1 w = some (.inr (6, [.int td, .int gd2, .int bc, .int py, .int rf, .int lt, .int tl, .int fp, .ref cs, .ref bs, .ref tp])))) ∧ u.2 = T ∧ (∀ q, FrK T q → q ≠ w → u.1 q = M q)) := by
  unfold mCi
  refine start_W (by decide) (Nat.le_of_ble_eq_true rfl) ?_
  intro p e s m below meth c ls hC hr hlk hnm hK hH hsz hl
  have hx := hC.1
  have hb := hC.2.1
  have hl : lv_has ls 2 [(0, .ref w), (1, .int n)] := hl
  have hF : ∀ q, FrK T q → q ≠ w → M q = M q := fun q _ _ => rfl
  have n_w_bs : w ≠ bs := neM hc_w hc_bs (by simp)
  have n_bs_w : bs ≠ w := neM hc_bs hc_w (by simp)
  refine lv_iload_n hx hb dX8_setGrace_0 rfl (lv_at hl 1 rfl) ?_
  refine lv_iconst (v := 1) hx hb dX8_setGrace_1 (by decide) ?_
  refine jic_lt (tgt := 11) hx hb dX8_setGrace_2 (by decide) (fun cq1_ => ?_) (fun cq1_ => ?_)
  · skip
    have cq1_ : n.toInt < 1 := cq1_
    refine lv_bipush (v := 30) hx hb dX8_setGrace_11 (by decide) ?_
    exact ret_i hC hr hlk hK hH (⟨gd, iRg _, Or.inr (⟨by omega, rfl, hc_w⟩), rfl, hF⟩) (Nat.le_of_ble_eq_true rfl) (Nat.le_of_ble_eq_true rfl) dX8_setGrace_13
  · skip
    have cq1_ : 1 ≤ n.toInt := cq1_
    refine lv_iload_n hx hb dX8_setGrace_5 rfl (lv_at hl 1 rfl) ?_
    refine lv_bipush (v := 9) hx hb dX8_setGrace_6 (by decide) ?_
    refine jic_le (tgt := 14) hx hb dX8_setGrace_8 (by decide) (fun cq2_ => ?_) (fun cq2_ => ?_)
    · skip
      have cq2_ : n.toInt ≤ 9 := cq2_
      refine lv_aload_n hx hb dX8_setGrace_14 rfl (lv_at hl 0 rfl) ?_
      refine lv_iload_n hx hb dX8_setGrace_15 rfl (lv_at hl 1 rfl) ?_
      refine yp (v := .int n) hC hK hH flX8_33 hc_w (noT hn_w) rfl rfl (Nat.le_of_ble_eq_true rfl) dX8_setGrace_16 (fun Hq_ lcq_ Mq3_ hc_w hfr hH => ?_)
      have hc_w : Mq3_ w = some (.inr (6, [.int td, .int n, .int bc, .int py, .int rf, .int lt, .int tl, .int fp, .ref cs, .ref bs, .ref tp])) := hc_w
      have hc_bs : Mq3_ bs = some (.inl (kA 5, 4, .inr (.inr (.inr (.inr g))))) := (hfr bs n_bs_w).trans hc_bs
      have hF : ∀ q, FrK T q → q ≠ w → Mq3_ q = M q := fun q hq h0 => (hfr q h0).trans (hF q hq h0)
      refine lv_iconst (v := 0) hx hb dX8_setGrace_19 (by decide) ?_
      exact ret_i hC hr hlk hK hH (⟨n, iRg _, Or.inl (⟨by omega, rfl, hc_w⟩), rfl, hF⟩) (Nat.le_of_ble_eq_true rfl) (Nat.le_of_ble_eq_true rfl) dX8_setGrace_20
    · skip
      have cq2_ : 9 < n.toInt := cq2_
      refine lv_bipush (v := 30) hx hb dX8_setGrace_11 (by decide) ?_
      exact ret_i hC hr hlk hK hH (⟨gd, iRg _, Or.inr (⟨by omega, rfl, hc_w⟩), rfl, hF⟩) (Nat.le_of_ble_eq_true rfl) (Nat.le_of_ble_eq_true rfl) dX8_setGrace_13
