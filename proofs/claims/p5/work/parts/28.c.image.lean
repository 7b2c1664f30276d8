set_option maxHeartbeats 4000000 in
set_option maxRecDepth 100000 in
theorem c_X9_again {l : Launch} {D : va_G} {kA : Nat → ClassId} {M : mM} {T : mT} {sz : Nat} {ro im rd rc cu : Nat} {w cs bs tp : Nat} {td gd bc py rf lt tl fp : Int32} {g : Nat → Option Nat}{gi : Nat → Option Nat} {ai : Nat → Nat} {ti pi : Nat → Int32} {bi : Nat → Nat → Int} {k : Int32} {fb : Nat → Int32} (hc_ro : M ro = some (.inr (7, [.ref w, .ref im, .ref rd, .ref rc, .ref cu]))) (hn_ro : T ro = none) (hc_w : M w = some (.inr (6, [.int td, .int gd, .int bc, .int py, .int rf, .int lt, .int tl, .int fp, .ref cs, .ref bs, .ref tp]))) (hn_w : T w = none) (hc_bs : M bs = some (.inl (kA 5, 4, .inr (.inr (.inr (.inr g)))))) (hc_im : M im = some (.inl (kA 6, 3, .inr (.inr (.inr (.inr gi)))))) (hn_im : T im = none) (hc_tp : M tp = some (.inl (kA 1, 600, .inl fb))) (hn_tp : T tp = none) (ht_cs : T cs = some 3) (ht_bs : T bs = some 6) (htd : 0 ≤ td.toInt ∧ td.toInt ≤ 999) (hbc : 0 ≤ bc.toInt ∧ bc.toInt ≤ 4) (htl : 0 ≤ tl.toInt ∧ tl.toInt ≤ 600) (hby : Byt fb) (him : ImsOK kA M T w tp gi ai ti pi bi) (hg : ∀ j, j < 4 → ∃ q, g j = some q ∧ T q = some 2) : mCi l yX9_again cX9_again 2 (some .boolean) 4 0 0 D kA M T sz [.ref ro, .int k] (fun r u => ∃ fb2 : Nat → Int32, (Byt fb2) ∧ ∃ td2 : Int32, ((0 : Int) ≤ td2.toInt ∧ td2.toInt ≤ 999) ∧ ∃ gd2 : Int32, ((-2147483648 : Int) ≤ gd2.toInt ∧ gd2.toInt ≤ 2147483647) ∧ ∃ bc2 : Int32, ((0 : Int) ≤ bc2.toInt ∧ bc2.toInt ≤ 4) ∧ ∃ py2 : Int32, ((-2147483648 : Int) ≤ py2.toInt ∧ py2.toInt ≤ 2147483647) ∧ ∃ rf2 : Int32, ((-2147483648 : Int) ≤ rf2.toInt ∧ rf2.toInt ≤ 2147483647) ∧ ∃ lt2 : Int32, ((-2147483648 : Int) ≤ lt2.toInt ∧ lt2.toInt ≤ 2147483647) ∧ ∃ tl2 : Int32, ((0 : Int) ≤ tl2.toInt ∧ tl2.toInt ≤ 600) ∧ ∃ fp2 : Int32, ((-2147483648 : Int) ≤ fp2.toInt ∧ fp2.toInt ≤ 2147483647) ∧ ((((0 ≤ k.toInt ∧ k.toInt ≤ 2 ∧ gi (Int32.toNatClampNeg k) ≠ none) ∧ tl2 = ti (Int32.toNatClampNeg k) ∧ fp2 = pi (Int32.toNatClampNeg k) ∧ nC fb2 = bi (Int32.toNatClampNeg k)) ∧ r = 1 ∧ u.1 w = some (.inr (6, [.int td2, .int gd2, .int bc2, .int py2, .int rf2, .int lt2, .int tl2, .int fp2, .ref cs, .ref bs, .ref tp])) ∧ u.1 tp = some (.inl (kA 1, 600, .inl fb2))) ∨ ((¬ (0 ≤ k.toInt ∧ k.toInt ≤ 2 ∧ gi (Int32.toNatClampNeg k) ≠ none) ∧ tl2 = tl ∧ fp2 = fp ∧ nC fb2 = nC fb) ∧ r = 0 ∧ u.1 w = some (.inr (6, [.int td2, .int gd2, .int bc2, .int py2, .int rf2, .int lt2, .int tl2, .int fp2, .ref cs, .ref bs, .ref tp])) ∧ u.1 tp = some (.inl (kA 1, 600, .inl fb2)))) ∧ u.2 = T ∧ (∀ q, FrA T q → q ≠ w → q ≠ tp → u.1 q = M q)) := by
  unfold mCi
  refine start_W (by decide) (Nat.le_of_ble_eq_true rfl) ?_
  intro p e s m below meth c ls hC hr hlk hnm hK hH hsz hl
  have hx := hC.1
  have hb := hC.2.1
  have hl : lv_has ls 2 [(0, .ref ro), (1, .int k)] := hl
  have hF : ∀ q, FrA T q → q ≠ w → q ≠ tp → M q = M q := fun q _ _ _ => rfl
  have n_ro_w : ro ≠ w := neM hc_ro hc_w (by simp)
  have n_ro_bs : ro ≠ bs := neM hc_ro hc_bs (by simp)
  have n_ro_im : ro ≠ im := neM hc_ro hc_im (by simp)
  have n_ro_tp : ro ≠ tp := neM hc_ro hc_tp (by simp)
  have n_w_ro : w ≠ ro := neM hc_w hc_ro (by simp)
  have n_w_bs : w ≠ bs := neM hc_w hc_bs (by simp)
  have n_w_im : w ≠ im := neM hc_w hc_im (by simp)
  have n_w_tp : w ≠ tp := neM hc_w hc_tp (by simp)
  have n_bs_ro : bs ≠ ro := neM hc_bs hc_ro (by simp)
  have n_bs_w : bs ≠ w := neM hc_bs hc_w (by simp)
  have n_bs_im : bs ≠ im := neM hc_bs hc_im (by simp)
  have n_bs_tp : bs ≠ tp := neM hc_bs hc_tp (by simp)
  have n_im_ro : im ≠ ro := neM hc_im hc_ro (by simp)
  have n_im_w : im ≠ w := neM hc_im hc_w (by simp)
  have n_im_bs : im ≠ bs := neM hc_im hc_bs (by simp)
  have n_im_tp : im ≠ tp := neM hc_im hc_tp (by simp)
  have n_tp_ro : tp ≠ ro := neM hc_tp hc_ro (by simp)
  have n_tp_w : tp ≠ w := neM hc_tp hc_w (by simp)
  have n_tp_bs : tp ≠ bs := neM hc_tp hc_bs (by simp)
  have n_tp_im : tp ≠ im := neM hc_tp hc_im (by simp)
  rcases (show k.toInt < 0 ∨ 3 ≤ k.toInt ∨ (0 ≤ k.toInt ∧ k.toInt ≤ 2) by omega) with hk | hk | hk
  · skip
    refine lv_iload_n hx hb dX9_again_0 rfl (lv_at hl 1 rfl) ?_
    refine jif_lt (tgt := 18) hx hb dX9_again_1 (by decide) (fun cq1_ => ?_) (fun cq1_ => absurd cq1_ (by have := iRg k; have : (0 : Int32).toInt = 0 := rfl; omega))
    have cq1_ : k.toInt < 0 := cq1_
    refine lv_iconst (v := 0) hx hb dX9_again_18 (by decide) ?_
    exact ret_z hC hr hlk hK hH (by first | exact Or.inl rfl | exact Or.inr rfl | assumption) (⟨fb, hby, td, ⟨by omega, by omega⟩, gd, iRg _, bc, ⟨by omega, by omega⟩, py, iRg _, rf, iRg _, lt, iRg _, tl, ⟨by omega, by omega⟩, fp, iRg _, Or.inr (⟨⟨fun z => by omega, rfl, rfl, rfl⟩, rfl, hc_w, hc_tp⟩), rfl, hF⟩) (Nat.le_of_ble_eq_true rfl) (Nat.le_of_ble_eq_true rfl) dX9_again_19
  · skip
    refine lv_iload_n hx hb dX9_again_0 rfl (lv_at hl 1 rfl) ?_
    refine jif_lt (tgt := 18) hx hb dX9_again_1 (by decide) (fun cq2_ => absurd cq2_ (by have := iRg k; have : (0 : Int32).toInt = 0 := rfl; omega)) (fun cq2_ => ?_)
    have cq2_ : 0 ≤ k.toInt := cq2_
    refine lv_iload_n hx hb dX9_again_4 rfl (lv_at hl 1 rfl) ?_
    refine lv_iconst (v := 3) hx hb dX9_again_5 (by decide) ?_
    refine jic_ge (tgt := 18) hx hb dX9_again_6 (by decide) (fun cq3_ => ?_) (fun cq3_ => absurd cq3_ (by have := iRg k; have : (3 : Int32).toInt = 3 := rfl; omega))
    have cq3_ : 3 ≤ k.toInt := cq3_
    refine lv_iconst (v := 0) hx hb dX9_again_18 (by decide) ?_
    exact ret_z hC hr hlk hK hH (by first | exact Or.inl rfl | exact Or.inr rfl | assumption) (⟨fb, hby, td, ⟨by omega, by omega⟩, gd, iRg _, bc, ⟨by omega, by omega⟩, py, iRg _, rf, iRg _, lt, iRg _, tl, ⟨by omega, by omega⟩, fp, iRg _, Or.inr (⟨⟨fun z => by omega, rfl, rfl, rfl⟩, rfl, hc_w, hc_tp⟩), rfl, hF⟩) (Nat.le_of_ble_eq_true rfl) (Nat.le_of_ble_eq_true rfl) dX9_again_19
  have hkn : (Int32.toNatClampNeg k) < 3 := by have := iCl (x := k) (by omega); omega
  obtain ⟨og, hgk⟩ : ∃ o, gi (Int32.toNatClampNeg k) = o := ⟨_, rfl⟩
  rcases og with _ | q
  · skip
    refine lv_iload_n hx hb dX9_again_0 rfl (lv_at hl 1 rfl) ?_
    refine jif_lt (tgt := 18) hx hb dX9_again_1 (by decide) (fun cq4_ => absurd cq4_ (by have := iRg k; have : (0 : Int32).toInt = 0 := rfl; omega)) (fun cq4_ => ?_)
    have cq4_ : 0 ≤ k.toInt := cq4_
    refine lv_iload_n hx hb dX9_again_4 rfl (lv_at hl 1 rfl) ?_
    refine lv_iconst (v := 3) hx hb dX9_again_5 (by decide) ?_
    refine jic_ge (tgt := 18) hx hb dX9_again_6 (by decide) (fun cq5_ => absurd cq5_ (by have := iRg k; have : (3 : Int32).toInt = 3 := rfl; omega)) (fun cq5_ => ?_)
    have cq5_ : k.toInt < 3 := cq5_
    refine lv_aload_n hx hb dX9_again_9 rfl (lv_at hl 0 rfl) ?_
    refine xg hC hK hH flX9_16 hc_ro rfl dX9_again_10 ?_
    refine lv_iload_n hx hb dX9_again_13 rfl (lv_at hl 1 rfl) ?_
    refine xqld (ck := 6) hC hK hH rfl hc_im (iIn (by omega) (by omega)) dX9_again_14 ?_
    refine lv_qn hgk ?_
    refine lv_ifnonnullN hx hb dX9_again_15 ?_
    refine lv_iconst (v := 0) hx hb dX9_again_18 (by decide) ?_
    exact ret_z hC hr hlk hK hH (by first | exact Or.inl rfl | exact Or.inr rfl | assumption) (⟨fb, hby, td, ⟨by omega, by omega⟩, gd, iRg _, bc, ⟨by omega, by omega⟩, py, iRg _, rf, iRg _, lt, iRg _, tl, ⟨by omega, by omega⟩, fp, iRg _, Or.inr (⟨⟨fun z => z.2.2 hgk, rfl, rfl, rfl⟩, rfl, hc_w, hc_tp⟩), rfl, hF⟩) (Nat.le_of_ble_eq_true rfl) (Nat.le_of_ble_eq_true rfl) dX9_again_19
  · skip
    have hIq := him.1 _ _ hkn hgk
    obtain ⟨iaq16_, e_iaq16_⟩ : ∃ t : Nat, t = ai (Int32.toNatClampNeg k) := ⟨_, rfl⟩
    obtain ⟨tqq17_, e_tqq17_⟩ : ∃ t : Int32, t = ti (Int32.toNatClampNeg k) := ⟨_, rfl⟩
    obtain ⟨pqq18_, e_pqq18_⟩ : ∃ t : Int32, t = pi (Int32.toNatClampNeg k) := ⟨_, rfl⟩
    rw [← e_iaq16_, ← e_tqq17_, ← e_pqq18_] at hIq
    obtain ⟨⟨n_q_w, n_q_tp, n_iaq16__w, n_iaq16__tp⟩, hn_q, hn_iaq16_, icsq6_, ibsq7_, itdq8_, igdq9_, ibcq10_, ipyq11_, irfq12_, iltq13_, igq14_, ifq15_, hc_q, hc_ibsq7_, hc_iaq16_, t_icsq6_, t_ibsq7_, htd_q, hbc_q, htl_q, hby_ifq15_, hnc_ifq15_, hg_igq14_⟩ := hIq
    have n_w_q : w ≠ q := Ne.symm n_q_w
    have n_tp_q : tp ≠ q := Ne.symm n_q_tp
    have n_w_iaq16_ : w ≠ iaq16_ := Ne.symm n_iaq16__w
    have n_tp_iaq16_ : tp ≠ iaq16_ := Ne.symm n_iaq16__tp
    have n_ro_q : ro ≠ q := neM hc_ro hc_q (by simp)
    have n_ro_ibsq7_ : ro ≠ ibsq7_ := neM hc_ro hc_ibsq7_ (by simp)
    have n_ro_iaq16_ : ro ≠ iaq16_ := neM hc_ro hc_iaq16_ (by simp)
    have n_w_ibsq7_ : w ≠ ibsq7_ := neM hc_w hc_ibsq7_ (by simp)
    have n_bs_q : bs ≠ q := neM hc_bs hc_q (by simp)
    have n_bs_iaq16_ : bs ≠ iaq16_ := neM hc_bs hc_iaq16_ (by simp)
    have n_im_q : im ≠ q := neM hc_im hc_q (by simp)
    have n_im_ibsq7_ : im ≠ ibsq7_ := neM hc_im hc_ibsq7_ (by simp)
    have n_im_iaq16_ : im ≠ iaq16_ := neM hc_im hc_iaq16_ (by simp)
    have n_tp_ibsq7_ : tp ≠ ibsq7_ := neM hc_tp hc_ibsq7_ (by simp)
    have n_q_ro : q ≠ ro := neM hc_q hc_ro (by simp)
    have n_q_bs : q ≠ bs := neM hc_q hc_bs (by simp)
    have n_q_im : q ≠ im := neM hc_q hc_im (by simp)
    have n_q_ibsq7_ : q ≠ ibsq7_ := neM hc_q hc_ibsq7_ (by simp)
    have n_q_iaq16_ : q ≠ iaq16_ := neM hc_q hc_iaq16_ (by simp)
    have n_ibsq7__ro : ibsq7_ ≠ ro := neM hc_ibsq7_ hc_ro (by simp)
    have n_ibsq7__w : ibsq7_ ≠ w := neM hc_ibsq7_ hc_w (by simp)
    have n_ibsq7__im : ibsq7_ ≠ im := neM hc_ibsq7_ hc_im (by simp)
    have n_ibsq7__tp : ibsq7_ ≠ tp := neM hc_ibsq7_ hc_tp (by simp)
    have n_ibsq7__q : ibsq7_ ≠ q := neM hc_ibsq7_ hc_q (by simp)
    have n_ibsq7__iaq16_ : ibsq7_ ≠ iaq16_ := neM hc_ibsq7_ hc_iaq16_ (by simp)
    have n_iaq16__ro : iaq16_ ≠ ro := neM hc_iaq16_ hc_ro (by simp)
    have n_iaq16__bs : iaq16_ ≠ bs := neM hc_iaq16_ hc_bs (by simp)
    have n_iaq16__im : iaq16_ ≠ im := neM hc_iaq16_ hc_im (by simp)
    have n_iaq16__q : iaq16_ ≠ q := neM hc_iaq16_ hc_q (by simp)
    have n_iaq16__ibsq7_ : iaq16_ ≠ ibsq7_ := neM hc_iaq16_ hc_ibsq7_ (by simp)
    refine lv_iload_n hx hb dX9_again_0 rfl (lv_at hl 1 rfl) ?_
    refine jif_lt (tgt := 18) hx hb dX9_again_1 (by decide) (fun cq19_ => absurd cq19_ (by have := iRg k; have : (0 : Int32).toInt = 0 := rfl; omega)) (fun cq19_ => ?_)
    have cq19_ : 0 ≤ k.toInt := cq19_
    refine lv_iload_n hx hb dX9_again_4 rfl (lv_at hl 1 rfl) ?_
    refine lv_iconst (v := 3) hx hb dX9_again_5 (by decide) ?_
    refine jic_ge (tgt := 18) hx hb dX9_again_6 (by decide) (fun cq20_ => absurd cq20_ (by have := iRg k; have : (3 : Int32).toInt = 3 := rfl; omega)) (fun cq20_ => ?_)
    have cq20_ : k.toInt < 3 := cq20_
    refine lv_aload_n hx hb dX9_again_9 rfl (lv_at hl 0 rfl) ?_
    refine xg hC hK hH flX9_16 hc_ro rfl dX9_again_10 ?_
    refine lv_iload_n hx hb dX9_again_13 rfl (lv_at hl 1 rfl) ?_
    refine xqld (ck := 6) hC hK hH rfl hc_im (iIn (by omega) (by omega)) dX9_again_14 ?_
    refine lv_qr hgk ?_
    refine lv_ifnonnull (tgt := 20) hx hb dX9_again_15 (by decide) ?_
    refine lv_aload_n hx hb dX9_again_20 rfl (lv_at hl 0 rfl) ?_
    refine xg hC hK hH flX9_12 hc_ro rfl dX9_again_21 ?_
    refine lv_aload_n hx hb dX9_again_24 rfl (lv_at hl 0 rfl) ?_
    refine xg hC hK hH flX9_16 hc_ro rfl dX9_again_25 ?_
    refine lv_iload_n hx hb dX9_again_28 rfl (lv_at hl 1 rfl) ?_
    refine xqld (ck := 6) hC hK hH rfl hc_im (iIn (by omega) (by omega)) dX9_again_29 ?_
    refine lv_qr hgk ?_
    refine goV hK hH (runV (As := [.ref q]) (rest := []) hC hK hH (c_X8_copy hc_w hn_w hc_q hn_q hc_bs hc_ibsq7_ hc_iaq16_ hn_iaq16_ hc_tp hn_tp t_icsq6_ t_ibsq7_ ht_cs ht_bs (by omega) (by omega) (by omega) (by exact hby_ifq15_) (by exact hby) hg_igq14_ hg n_w_q n_q_w n_iaq16__tp n_tp_iaq16_) mlX9_343 (rcvM hK hH hc_w rfl) ⟨⟨Nat.le_of_ble_eq_true rfl, Nat.le_of_ble_eq_true rfl⟩, Nat.le_of_ble_eq_true rfl, Nat.le_of_ble_eq_true rfl⟩ rfl hl.1 rfl (Nat.le_of_ble_eq_true rfl) dX9_again_30) (fun Mq21_ Tq22_ Hq_ lcq_ hP hz hH => ?_)
    try dsimp only at hP
    obtain ⟨gq24_, h_gq24_, (⟨hx_w, hx_tp⟩), eT, hfr⟩ := hP
    have eT := eT.symm; subst eT
    have hc_ro : Mq21_ ro = some (.inr (7, [.ref w, .ref im, .ref rd, .ref rc, .ref cu])) := (hfr ro (Or.inl hn_ro) n_ro_w n_ro_tp).trans hc_ro
    have hc_w : Mq21_ w = some (.inr (6, [.int itdq8_, .int igdq9_, .int ibcq10_, .int ipyq11_, .int irfq12_, .int iltq13_, .int tqq17_, .int pqq18_, .ref cs, .ref bs, .ref tp])) := hx_w
    have hc_bs : Mq21_ bs = some (.inl (kA 5, 4, .inr (.inr (.inr (.inr g))))) := (hfr bs (Or.inr ht_bs) n_bs_w n_bs_tp).trans hc_bs
    have hc_im : Mq21_ im = some (.inl (kA 6, 3, .inr (.inr (.inr (.inr gi))))) := (hfr im (Or.inl hn_im) n_im_w n_im_tp).trans hc_im
    have hc_tp : Mq21_ tp = some (.inl (kA 1, 600, .inl gq24_)) := hx_tp
    have hc_q : Mq21_ q = some (.inr (6, [.int itdq8_, .int igdq9_, .int ibcq10_, .int ipyq11_, .int irfq12_, .int iltq13_, .int tqq17_, .int pqq18_, .ref icsq6_, .ref ibsq7_, .ref iaq16_])) := (hfr q (Or.inl hn_q) n_q_w n_q_tp).trans hc_q
    have hc_ibsq7_ : Mq21_ ibsq7_ = some (.inl (kA 5, 4, .inr (.inr (.inr (.inr igq14_))))) := (hfr ibsq7_ (Or.inr t_ibsq7_) n_ibsq7__w n_ibsq7__tp).trans hc_ibsq7_
    have hc_iaq16_ : Mq21_ iaq16_ = some (.inl (kA 1, 600, .inl ifq15_)) := (hfr iaq16_ (Or.inl hn_iaq16_) n_iaq16__w n_iaq16__tp).trans hc_iaq16_
    have hF : ∀ q, FrA T q → q ≠ w → q ≠ tp → Mq21_ q = M q := fun q hq h0 h1 => (hfr q hq  h0 h1).trans (hF q hq h0 h1)
    refine lv_iconst (v := 1) hx hb dX9_again_33 (by decide) ?_
    exact ret_z hC hr hlk hK hH (by first | exact Or.inl rfl | exact Or.inr rfl | assumption) (⟨gq24_, h_gq24_.1, itdq8_, ⟨by omega, by omega⟩, igdq9_, iRg _, ibcq10_, ⟨by omega, by omega⟩, ipyq11_, iRg _, irfq12_, iRg _, iltq13_, iRg _, tqq17_, ⟨by omega, by omega⟩, pqq18_, iRg _, Or.inl (⟨⟨⟨by omega, by omega, by rw [hgk]; simp⟩, e_tqq17_, e_pqq18_, h_gq24_.2.trans hnc_ifq15_⟩, rfl, hc_w, hc_tp⟩), rfl, hF⟩) (Nat.le_of_ble_eq_true rfl) (Nat.le_of_ble_eq_true rfl) dX9_again_34
set_option maxHeartbeats 4000000 in
set_option maxRecDepth 100000 in
theorem c_X9_image {l : Launch} {D : va_G} {kA : Nat → ClassId} {M : mM} {T : mT} {sz : Nat} {ro im rd rc cu : Nat} {w cs bs tp : Nat} {td gd bc py rf lt tl fp : Int32} {g : Nat → Option Nat}{gi : Nat → Option Nat} {ai : Nat → Nat} {ti pi : Nat → Int32} {bi : Nat → Nat → Int} {k : Int32} {fb : Nat → Int32} (hc_ro : M ro = some (.inr (7, [.ref w, .ref im, .ref rd, .ref rc, .ref cu]))) (hn_ro : T ro = none) (hc_w : M w = some (.inr (6, [.int td, .int gd, .int bc, .int py, .int rf, .int lt, .int tl, .int fp, .ref cs, .ref bs, .ref tp]))) (hn_w : T w = none) (hc_bs : M bs = some (.inl (kA 5, 4, .inr (.inr (.inr (.inr g)))))) (hc_im : M im = some (.inl (kA 6, 3, .inr (.inr (.inr (.inr gi)))))) (hn_im : T im = none) (hc_tp : M tp = some (.inl (kA 1, 600, .inl fb))) (hn_tp : T tp = none) (ht_cs : T cs = some 3) (ht_bs : T bs = some 6) (htd : 0 ≤ td.toInt ∧ td.toInt ≤ 999) (hbc : 0 ≤ bc.toInt ∧ bc.toInt ≤ 4) (htl : 0 ≤ tl.toInt ∧ tl.toInt ≤ 600) (hby : Byt fb) (him : ImsOK kA M T w tp gi ai ti pi bi) (hg : ∀ j, j < 4 → ∃ q, g j = some q ∧ T q = some 2) : mCi l yX9_image cX9_image 2 (some .boolean) 4 92 1627 D kA M T sz [.ref ro, .int k] (fun r u => ∃ (gi' : Nat → Option Nat) (ai' : Nat → Nat) (ti' pi' : Nat → Int32) (bi' : Nat → Nat → Int), u.1 im = some (.inl (kA 6, 3, .inr (.inr (.inr (.inr gi'))))) ∧ u.2 im = none ∧ ImsOK kA u.1 u.2 w tp gi' ai' ti' pi' bi' ∧ (((0 ≤ k.toInt ∧ k.toInt ≤ 2) ∧ r = 1 ∧ (∃ q, gi' = va_up gi (Int32.toNatClampNeg k) (some q)) ∧ ti' = upd ti (Int32.toNatClampNeg k) tl ∧ pi' = upd pi (Int32.toNatClampNeg k) fp ∧ bi' = upB bi (Int32.toNatClampNeg k) (nC fb)) ∨ (¬ (0 ≤ k.toInt ∧ k.toInt ≤ 2) ∧ r = 0 ∧ gi' = gi ∧ ti' = ti ∧ pi' = pi ∧ bi' = bi)) ∧ (∀ a t, T a = some t → u.2 a = some t) ∧ (∀ a, a ≠ im → a < sz → u.2 a = T a) ∧ ∀ a, FrA T a → a ≠ im → a < sz → gi (Int32.toNatClampNeg k) ≠ some a → (gi (Int32.toNatClampNeg k) ≠ none → ai (Int32.toNatClampNeg k) ≠ a) → u.1 a = M a) := by
  unfold mCi
  refine start_W (by decide) (Nat.le_of_ble_eq_true rfl) ?_
  intro p e s m below meth c ls hC hr hlk hnm hK hH hsz hl
  have hx := hC.1
  have hb := hC.2.1
  have hl : lv_has ls 2 [(0, .ref ro), (1, .int k)] := hl
  have hF : ∀ q, FrA T q → M q = M q := fun q _  => rfl
  have n_ro_w : ro ≠ w := neM hc_ro hc_w (by simp)
  have n_ro_bs : ro ≠ bs := neM hc_ro hc_bs (by simp)
  have n_ro_im : ro ≠ im := neM hc_ro hc_im (by simp)
  have n_ro_tp : ro ≠ tp := neM hc_ro hc_tp (by simp)
  have n_w_ro : w ≠ ro := neM hc_w hc_ro (by simp)
  have n_w_bs : w ≠ bs := neM hc_w hc_bs (by simp)
  have n_w_im : w ≠ im := neM hc_w hc_im (by simp)
  have n_w_tp : w ≠ tp := neM hc_w hc_tp (by simp)
  have n_bs_ro : bs ≠ ro := neM hc_bs hc_ro (by simp)
  have n_bs_w : bs ≠ w := neM hc_bs hc_w (by simp)
  have n_bs_im : bs ≠ im := neM hc_bs hc_im (by simp)
  have n_bs_tp : bs ≠ tp := neM hc_bs hc_tp (by simp)
  have n_im_ro : im ≠ ro := neM hc_im hc_ro (by simp)
  have n_im_w : im ≠ w := neM hc_im hc_w (by simp)
  have n_im_bs : im ≠ bs := neM hc_im hc_bs (by simp)
  have n_im_tp : im ≠ tp := neM hc_im hc_tp (by simp)
  have n_tp_ro : tp ≠ ro := neM hc_tp hc_ro (by simp)
  have n_tp_w : tp ≠ w := neM hc_tp hc_w (by simp)
  have n_tp_bs : tp ≠ bs := neM hc_tp hc_bs (by simp)
  have n_tp_im : tp ≠ im := neM hc_tp hc_im (by simp)
  have hF : ∀ a, FrA T a → a ≠ im → a < sz → gi (Int32.toNatClampNeg k) ≠ some a → (gi (Int32.toNatClampNeg k) ≠ none → ai (Int32.toNatClampNeg k) ≠ a) → M a = M a := fun a _ _ _ _ _ => rfl
  have hTF : ∀ a, a ≠ im → a < sz → T a = T a := fun a _ _ => rfl
  have hTT : ∀ a t, T a = some t → T a = some t := fun _ _ h => h
  have hlt0 : ∀ a, M a ≠ none → a < sz := fun a h => by rw [← hsz]; exact hH.1.ltM h
  have hM_im := hc_im
  have hT_w := hn_w
  have hT_tp := hn_tp
  rcases (show k.toInt < 0 ∨ 3 ≤ k.toInt ∨ (0 ≤ k.toInt ∧ k.toInt ≤ 2) by omega) with hk | hk | hk
  · skip
    refine lv_iload_n hx hb dX9_image_0 rfl (lv_at hl 1 rfl) ?_
    refine jif_lt (tgt := 9) hx hb dX9_image_1 (by decide) (fun cq1_ => ?_) (fun cq1_ => absurd cq1_ (by have := iRg k; have : (0 : Int32).toInt = 0 := rfl; omega))
    have cq1_ : k.toInt < 0 := cq1_
    refine lv_iconst (v := 0) hx hb dX9_image_9 (by decide) ?_
    exact ret_z hC hr hlk hK hH (Or.inl rfl) (⟨gi, ai, ti, pi, bi, hc_im, hn_im, him, Or.inr ⟨by omega, rfl, rfl, rfl, rfl, rfl⟩, hTT, hTF, hF⟩) (Nat.le_of_ble_eq_true rfl) (Nat.le_of_ble_eq_true rfl) dX9_image_10
  · skip
    refine lv_iload_n hx hb dX9_image_0 rfl (lv_at hl 1 rfl) ?_
    refine jif_lt (tgt := 9) hx hb dX9_image_1 (by decide) (fun cq2_ => absurd cq2_ (by have := iRg k; have : (0 : Int32).toInt = 0 := rfl; omega)) (fun cq2_ => ?_)
    have cq2_ : 0 ≤ k.toInt := cq2_
    refine lv_iload_n hx hb dX9_image_4 rfl (lv_at hl 1 rfl) ?_
    refine lv_iconst (v := 3) hx hb dX9_image_5 (by decide) ?_
    refine jic_lt (tgt := 11) hx hb dX9_image_6 (by decide) (fun cq3_ => absurd cq3_ (by have := iRg k; have : (3 : Int32).toInt = 3 := rfl; omega)) (fun cq3_ => ?_)
    have cq3_ : 3 ≤ k.toInt := cq3_
    refine lv_iconst (v := 0) hx hb dX9_image_9 (by decide) ?_
    exact ret_z hC hr hlk hK hH (Or.inl rfl) (⟨gi, ai, ti, pi, bi, hc_im, hn_im, him, Or.inr ⟨by omega, rfl, rfl, rfl, rfl, rfl⟩, hTT, hTF, hF⟩) (Nat.le_of_ble_eq_true rfl) (Nat.le_of_ble_eq_true rfl) dX9_image_10
  have hkn : (Int32.toNatClampNeg k) < 3 := by have := iCl (x := k) (by omega); omega
  obtain ⟨og, hgk⟩ : ∃ o, gi (Int32.toNatClampNeg k) = o := ⟨_, rfl⟩
  rcases og with _ | q
  · skip
    refine lv_iload_n hx hb dX9_image_0 rfl (lv_at hl 1 rfl) ?_
    refine jif_lt (tgt := 9) hx hb dX9_image_1 (by decide) (fun cq4_ => absurd cq4_ (by have := iRg k; have : (0 : Int32).toInt = 0 := rfl; omega)) (fun cq4_ => ?_)
    have cq4_ : 0 ≤ k.toInt := cq4_
    refine lv_iload_n hx hb dX9_image_4 rfl (lv_at hl 1 rfl) ?_
    refine lv_iconst (v := 3) hx hb dX9_image_5 (by decide) ?_
    refine jic_lt (tgt := 11) hx hb dX9_image_6 (by decide) (fun cq5_ => ?_) (fun cq5_ => absurd cq5_ (by have := iRg k; have : (3 : Int32).toInt = 3 := rfl; omega))
    have cq5_ : k.toInt < 3 := cq5_
    refine lv_aload_n hx hb dX9_image_11 rfl (lv_at hl 0 rfl) ?_
    refine xg hC hK hH flX9_16 hc_ro rfl dX9_image_12 ?_
    refine lv_iload_n hx hb dX9_image_15 rfl (lv_at hl 1 rfl) ?_
    refine xqld (ck := 6) hC hK hH rfl hc_im (iIn (by omega) (by omega)) dX9_image_16 ?_
    refine lv_qn hgk ?_
    refine lv_ifnonnullN hx hb dX9_image_17 ?_
    refine lv_aload_n hx hb dX9_image_20 rfl (lv_at hl 0 rfl) ?_
    refine xg hC hK hH flX9_16 hc_ro rfl dX9_image_21 ?_
    refine lv_iload_n hx hb dX9_image_24 rfl (lv_at hl 1 rfl) ?_
    refine ynew hC hK hH nlX9_9 (Nat.le_of_ble_eq_true rfl) (Nat.le_of_ble_eq_true rfl) dX9_image_25 (fun qq6_ Hq_ Mq7_ e_qq6_ hz nM_qq6_ hn_qq6_ hc_qq6_ hfr hN => ?_)
    have g_qq6_ : sz ≤ qq6_ := by rw [← hsz, e_qq6_]; exact hH.2.1.1
    have n_ro_qq6_ : ro ≠ qq6_ := neN hc_ro nM_qq6_
    have n_qq6__ro : qq6_ ≠ ro := Ne.symm n_ro_qq6_
    have n_w_qq6_ : w ≠ qq6_ := neN hc_w nM_qq6_
    have n_qq6__w : qq6_ ≠ w := Ne.symm n_w_qq6_
    have n_bs_qq6_ : bs ≠ qq6_ := neN hc_bs nM_qq6_
    have n_qq6__bs : qq6_ ≠ bs := Ne.symm n_bs_qq6_
    have n_im_qq6_ : im ≠ qq6_ := neN hc_im nM_qq6_
    have n_qq6__im : qq6_ ≠ im := Ne.symm n_im_qq6_
    have n_tp_qq6_ : tp ≠ qq6_ := neN hc_tp nM_qq6_
    have n_qq6__tp : qq6_ ≠ tp := Ne.symm n_tp_qq6_
    have hH := hN
    have hc_qq6_ : Mq7_ qq6_ = some (.inr (6, [.int 0, .int 0, .int 0, .int 0, .int 0, .int 0, .int 0, .int 0, .null, .null, .null])) := hc_qq6_
    have hc_ro : Mq7_ ro = some (.inr (7, [.ref w, .ref im, .ref rd, .ref rc, .ref cu])) := (hfr ro n_ro_qq6_).trans hc_ro
    have hc_w : Mq7_ w = some (.inr (6, [.int td, .int gd, .int bc, .int py, .int rf, .int lt, .int tl, .int fp, .ref cs, .ref bs, .ref tp])) := (hfr w n_w_qq6_).trans hc_w
    have hc_bs : Mq7_ bs = some (.inl (kA 5, 4, .inr (.inr (.inr (.inr g))))) := (hfr bs n_bs_qq6_).trans hc_bs
    have hc_im : Mq7_ im = some (.inl (kA 6, 3, .inr (.inr (.inr (.inr gi))))) := (hfr im n_im_qq6_).trans hc_im
    have hc_tp : Mq7_ tp = some (.inl (kA 1, 600, .inl fb)) := (hfr tp n_tp_qq6_).trans hc_tp
    have hF : ∀ a, FrA T a → a ≠ im → a < sz → gi (Int32.toNatClampNeg k) ≠ some a → (gi (Int32.toNatClampNeg k) ≠ none → ai (Int32.toNatClampNeg k) ≠ a) → Mq7_ a = M a := fun a hA h0 h1 h2 h3 => (hfr a (Nat.ne_of_lt (Nat.lt_of_lt_of_le h1 g_qq6_))).trans (hF a hA h0 h1 h2 h3)
    refine lv_dup hx hb dX9_image_28 rfl ?_
    have gH : sz ≤ Array.size Hq_ := by rw [← hsz]; exact hH.2.1.1
    have lt_ro : ro < Array.size Hq_ := hH.1.ltM (by rw [hc_ro]; simp)
    have lt_w : w < Array.size Hq_ := hH.1.ltM (by rw [hc_w]; simp)
    have lt_bs : bs < Array.size Hq_ := hH.1.ltM (by rw [hc_bs]; simp)
    have lt_im : im < Array.size Hq_ := hH.1.ltM (by rw [hc_im]; simp)
    have lt_tp : tp < Array.size Hq_ := hH.1.ltM (by rw [hc_tp]; simp)
    have lt_qq6_ : qq6_ < Array.size Hq_ := hH.1.ltM (by rw [hc_qq6_]; simp)
    refine goV hK hH (runI (As := []) (rest := [.ref qq6_, .int k, .ref im]) hC hK hH (c_X8_init hc_qq6_ hn_qq6_ lt_qq6_) mlX9_11 ⟨⟨Nat.le_of_ble_eq_true rfl, Nat.le_of_ble_eq_true rfl⟩, Nat.le_of_ble_eq_true rfl, Nat.le_of_ble_eq_true rfl⟩ rfl hl.1 rfl (Nat.le_of_ble_eq_true rfl) dX9_image_29) (fun Mq8_ Tq9_ Hq_ lcq_ hP hz hH => ?_)
    try dsimp only at hP
    obtain ⟨csq10_, bsq11_, tpq12_, Fgq13_, hc_qq6_, hn_qq6_, hc_bsq11_, hc_tpq12_, hn_tpq12_, t_csq10_, t_bsq11_, g_csq10_, g_bsq11_, g_tpq12_, h_Fgq13_, hsub, hfT, hfr⟩ := hP
    have n_ro_csq10_ : ro ≠ csq10_ := Nat.ne_of_lt (Nat.lt_of_lt_of_le lt_ro g_csq10_)
    have n_csq10__ro : csq10_ ≠ ro := Ne.symm n_ro_csq10_
    have n_w_csq10_ : w ≠ csq10_ := Nat.ne_of_lt (Nat.lt_of_lt_of_le lt_w g_csq10_)
    have n_csq10__w : csq10_ ≠ w := Ne.symm n_w_csq10_
    have n_bs_csq10_ : bs ≠ csq10_ := Nat.ne_of_lt (Nat.lt_of_lt_of_le lt_bs g_csq10_)
    have n_csq10__bs : csq10_ ≠ bs := Ne.symm n_bs_csq10_
    have n_im_csq10_ : im ≠ csq10_ := Nat.ne_of_lt (Nat.lt_of_lt_of_le lt_im g_csq10_)
    have n_csq10__im : csq10_ ≠ im := Ne.symm n_im_csq10_
    have n_tp_csq10_ : tp ≠ csq10_ := Nat.ne_of_lt (Nat.lt_of_lt_of_le lt_tp g_csq10_)
    have n_csq10__tp : csq10_ ≠ tp := Ne.symm n_tp_csq10_
    have n_qq6__csq10_ : qq6_ ≠ csq10_ := Nat.ne_of_lt (Nat.lt_of_lt_of_le lt_qq6_ g_csq10_)
    have n_csq10__qq6_ : csq10_ ≠ qq6_ := Ne.symm n_qq6__csq10_
    have n_ro_bsq11_ : ro ≠ bsq11_ := Nat.ne_of_lt (Nat.lt_of_lt_of_le lt_ro g_bsq11_)
    have n_bsq11__ro : bsq11_ ≠ ro := Ne.symm n_ro_bsq11_
    have n_w_bsq11_ : w ≠ bsq11_ := Nat.ne_of_lt (Nat.lt_of_lt_of_le lt_w g_bsq11_)
    have n_bsq11__w : bsq11_ ≠ w := Ne.symm n_w_bsq11_
    have n_bs_bsq11_ : bs ≠ bsq11_ := Nat.ne_of_lt (Nat.lt_of_lt_of_le lt_bs g_bsq11_)
    have n_bsq11__bs : bsq11_ ≠ bs := Ne.symm n_bs_bsq11_
    have n_im_bsq11_ : im ≠ bsq11_ := Nat.ne_of_lt (Nat.lt_of_lt_of_le lt_im g_bsq11_)
    have n_bsq11__im : bsq11_ ≠ im := Ne.symm n_im_bsq11_
    have n_tp_bsq11_ : tp ≠ bsq11_ := Nat.ne_of_lt (Nat.lt_of_lt_of_le lt_tp g_bsq11_)
    have n_bsq11__tp : bsq11_ ≠ tp := Ne.symm n_tp_bsq11_
    have n_qq6__bsq11_ : qq6_ ≠ bsq11_ := Nat.ne_of_lt (Nat.lt_of_lt_of_le lt_qq6_ g_bsq11_)
    have n_bsq11__qq6_ : bsq11_ ≠ qq6_ := Ne.symm n_qq6__bsq11_
    have n_ro_tpq12_ : ro ≠ tpq12_ := Nat.ne_of_lt (Nat.lt_of_lt_of_le lt_ro g_tpq12_)
    have n_tpq12__ro : tpq12_ ≠ ro := Ne.symm n_ro_tpq12_
    have n_w_tpq12_ : w ≠ tpq12_ := Nat.ne_of_lt (Nat.lt_of_lt_of_le lt_w g_tpq12_)
    have n_tpq12__w : tpq12_ ≠ w := Ne.symm n_w_tpq12_
    have n_bs_tpq12_ : bs ≠ tpq12_ := Nat.ne_of_lt (Nat.lt_of_lt_of_le lt_bs g_tpq12_)
    have n_tpq12__bs : tpq12_ ≠ bs := Ne.symm n_bs_tpq12_
    have n_im_tpq12_ : im ≠ tpq12_ := Nat.ne_of_lt (Nat.lt_of_lt_of_le lt_im g_tpq12_)
    have n_tpq12__im : tpq12_ ≠ im := Ne.symm n_im_tpq12_
    have n_tp_tpq12_ : tp ≠ tpq12_ := Nat.ne_of_lt (Nat.lt_of_lt_of_le lt_tp g_tpq12_)
    have n_tpq12__tp : tpq12_ ≠ tp := Ne.symm n_tp_tpq12_
    have n_qq6__tpq12_ : qq6_ ≠ tpq12_ := Nat.ne_of_lt (Nat.lt_of_lt_of_le lt_qq6_ g_tpq12_)
    have n_tpq12__qq6_ : tpq12_ ≠ qq6_ := Ne.symm n_qq6__tpq12_
    have hc_ro : Mq8_ ro = some (.inr (7, [.ref w, .ref im, .ref rd, .ref rc, .ref cu])) := (hfr ro (Or.inl hn_ro) n_ro_qq6_ lt_ro).trans hc_ro
    have hn_ro : Tq9_ ro = none := (hfT ro n_ro_qq6_ lt_ro).trans hn_ro
    have hc_w : Mq8_ w = some (.inr (6, [.int td, .int gd, .int bc, .int py, .int rf, .int lt, .int tl, .int fp, .ref cs, .ref bs, .ref tp])) := (hfr w (Or.inl hn_w) n_w_qq6_ lt_w).trans hc_w
    have hn_w : Tq9_ w = none := (hfT w n_w_qq6_ lt_w).trans hn_w
    have hc_bs : Mq8_ bs = some (.inl (kA 5, 4, .inr (.inr (.inr (.inr g))))) := (hfr bs (Or.inr ht_bs) n_bs_qq6_ lt_bs).trans hc_bs
    have hc_im : Mq8_ im = some (.inl (kA 6, 3, .inr (.inr (.inr (.inr gi))))) := (hfr im (Or.inl hn_im) n_im_qq6_ lt_im).trans hc_im
    have hn_im : Tq9_ im = none := (hfT im n_im_qq6_ lt_im).trans hn_im
    have hc_tp : Mq8_ tp = some (.inl (kA 1, 600, .inl fb)) := (hfr tp (Or.inl hn_tp) n_tp_qq6_ lt_tp).trans hc_tp
    have hn_tp : Tq9_ tp = none := (hfT tp n_tp_qq6_ lt_tp).trans hn_tp
    have ht_cs : Tq9_ cs = some 3 := hsub _ _ ht_cs
    have ht_bs : Tq9_ bs = some 6 := hsub _ _ ht_bs
    have hg : ∀ j, j < 4 → ∃ q, g j = some q ∧ Tq9_ q = some 2 := fun j hj => (hg j hj).imp (fun q h => ⟨h.1, hsub _ _ h.2⟩)
    have g_csq10_ : sz ≤ csq10_ := Nat.le_trans gH g_csq10_
    have g_bsq11_ : sz ≤ bsq11_ := Nat.le_trans gH g_bsq11_
    have g_tpq12_ : sz ≤ tpq12_ := Nat.le_trans gH g_tpq12_
    have hTT : ∀ a t, T a = some t → Tq9_ a = some t := fun a t h => hsub _ _ (hTT a t h)
    have hF : ∀ a, FrA T a → a ≠ im → a < sz → gi (Int32.toNatClampNeg k) ≠ some a → (gi (Int32.toNatClampNeg k) ≠ none → ai (Int32.toNatClampNeg k) ≠ a) → Mq8_ a = M a := fun a hA h0 h1 h2 h3 => (hfr a (FrA.mv (hTF a h0 h1) hA) (Nat.ne_of_lt (Nat.lt_of_lt_of_le h1 g_qq6_)) (Nat.lt_of_lt_of_le h1 gH)).trans (hF a hA h0 h1 h2 h3)
    have hTF : ∀ a, a ≠ im → a < sz → Tq9_ a = T a := fun a h0 h1 => (hfT a (Nat.ne_of_lt (Nat.lt_of_lt_of_le h1 g_qq6_)) (Nat.lt_of_lt_of_le h1 gH)).trans (hTF a h0 h1)
    have n_bsq11__tpq12_ : bsq11_ ≠ tpq12_ := neM hc_bsq11_ hc_tpq12_ (by simp)
    have n_tpq12__bsq11_ : tpq12_ ≠ bsq11_ := neM hc_tpq12_ hc_bsq11_ (by simp)
    refine yqst (ck := 6) (cv := 6) (v := qq6_) hC hK hH rfl rfl hc_im ⟨_, hH.1.1 _ _ hc_qq6_⟩ (noT hn_im) (iIn (by omega) (by omega)) dX9_image_32 (fun Hq_ lcq_ Mq14_ hc_im hfr hH => ?_)
    have hc_im : Mq14_ im = some (.inl (kA 6, 3, .inr (.inr (.inr (.inr (va_up gi (Int32.toNatClampNeg k) (some qq6_))))))) := hc_im
    have hc_ro : Mq14_ ro = some (.inr (7, [.ref w, .ref im, .ref rd, .ref rc, .ref cu])) := (hfr ro n_ro_im).trans hc_ro
    have hc_w : Mq14_ w = some (.inr (6, [.int td, .int gd, .int bc, .int py, .int rf, .int lt, .int tl, .int fp, .ref cs, .ref bs, .ref tp])) := (hfr w n_w_im).trans hc_w
    have hc_bs : Mq14_ bs = some (.inl (kA 5, 4, .inr (.inr (.inr (.inr g))))) := (hfr bs n_bs_im).trans hc_bs
    have hc_tp : Mq14_ tp = some (.inl (kA 1, 600, .inl fb)) := (hfr tp n_tp_im).trans hc_tp
    have hc_qq6_ : Mq14_ qq6_ = some (.inr (6, [.int 0, .int 2, .int 0, .int 0, .int 0, .int 0, .int 0, .int (-1), .ref csq10_, .ref bsq11_, .ref tpq12_])) := (hfr qq6_ n_qq6__im).trans hc_qq6_
    have hc_bsq11_ : Mq14_ bsq11_ = some (.inl (kA 5, 4, .inr (.inr (.inr (.inr Fgq13_))))) := (hfr bsq11_ n_bsq11__im).trans hc_bsq11_
    have hc_tpq12_ : Mq14_ tpq12_ = some (.inl (kA 1, 600, .inl (fun _ => 0))) := (hfr tpq12_ n_tpq12__im).trans hc_tpq12_
    have hF : ∀ a, FrA T a → a ≠ im → a < sz → gi (Int32.toNatClampNeg k) ≠ some a → (gi (Int32.toNatClampNeg k) ≠ none → ai (Int32.toNatClampNeg k) ≠ a) → Mq14_ a = M a := fun a hA h0 h1 h2 h3 => (hfr a h0).trans (hF a hA h0 h1 h2 h3)
    refine lv_aload_n hx hb dX9_image_33 rfl (lv_at hl 0 rfl) ?_
    refine xg hC hK hH flX9_16 hc_ro rfl dX9_image_34 ?_
    refine lv_iload_n hx hb dX9_image_37 rfl (lv_at hl 1 rfl) ?_
    refine xqld (ck := 6) hC hK hH rfl hc_im (iIn (by omega) (by omega)) dX9_image_38 ?_
    refine lv_qr (upS _ _ _) ?_
    refine lv_aload_n hx hb dX9_image_39 rfl (lv_at hl 0 rfl) ?_
    refine xg hC hK hH flX9_12 hc_ro rfl dX9_image_40 ?_
    refine goV hK hH (runV (As := [.ref w]) (rest := []) hC hK hH (c_X8_copy hc_qq6_ hn_qq6_ hc_w hn_w hc_bsq11_ hc_bs hc_tp hn_tp hc_tpq12_ hn_tpq12_ ht_cs ht_bs t_csq10_ t_bsq11_ (by omega) (by omega) (by omega) (by exact hby) (by exact Byt0) hg h_Fgq13_ n_qq6__w n_w_qq6_ n_tp_tpq12_ n_tpq12__tp) mlX9_343 (rcvM hK hH hc_qq6_ rfl) ⟨⟨Nat.le_of_ble_eq_true rfl, Nat.le_of_ble_eq_true rfl⟩, Nat.le_of_ble_eq_true rfl, Nat.le_of_ble_eq_true rfl⟩ rfl hl.1 rfl (Nat.le_of_ble_eq_true rfl) dX9_image_43) (fun Mq15_ Tq16_ Hq_ lcq_ hP hz hH => ?_)
    try dsimp only at hP
    obtain ⟨gq18_, h_gq18_, (⟨hx_qq6_, hx_tpq12_⟩), eT, hfr⟩ := hP
    have eT := eT.symm; subst eT
    have hc_ro : Mq15_ ro = some (.inr (7, [.ref w, .ref im, .ref rd, .ref rc, .ref cu])) := (hfr ro (Or.inl hn_ro) n_ro_qq6_ n_ro_tpq12_).trans hc_ro
    have hc_w : Mq15_ w = some (.inr (6, [.int td, .int gd, .int bc, .int py, .int rf, .int lt, .int tl, .int fp, .ref cs, .ref bs, .ref tp])) := (hfr w (Or.inl hn_w) n_w_qq6_ n_w_tpq12_).trans hc_w
    have hc_bs : Mq15_ bs = some (.inl (kA 5, 4, .inr (.inr (.inr (.inr g))))) := (hfr bs (Or.inr ht_bs) n_bs_qq6_ n_bs_tpq12_).trans hc_bs
    have hc_im : Mq15_ im = some (.inl (kA 6, 3, .inr (.inr (.inr (.inr (va_up gi (Int32.toNatClampNeg k) (some qq6_))))))) := (hfr im (Or.inl hn_im) n_im_qq6_ n_im_tpq12_).trans hc_im
    have hc_tp : Mq15_ tp = some (.inl (kA 1, 600, .inl fb)) := (hfr tp (Or.inl hn_tp) n_tp_qq6_ n_tp_tpq12_).trans hc_tp
    have hc_qq6_ : Mq15_ qq6_ = some (.inr (6, [.int td, .int gd, .int bc, .int py, .int rf, .int lt, .int tl, .int fp, .ref csq10_, .ref bsq11_, .ref tpq12_])) := hx_qq6_
    have hc_bsq11_ : Mq15_ bsq11_ = some (.inl (kA 5, 4, .inr (.inr (.inr (.inr Fgq13_))))) := (hfr bsq11_ (Or.inr t_bsq11_) n_bsq11__qq6_ n_bsq11__tpq12_).trans hc_bsq11_
    have hc_tpq12_ : Mq15_ tpq12_ = some (.inl (kA 1, 600, .inl gq18_)) := hx_tpq12_
    have hF : ∀ a, FrA T a → a ≠ im → a < sz → gi (Int32.toNatClampNeg k) ≠ some a → (gi (Int32.toNatClampNeg k) ≠ none → ai (Int32.toNatClampNeg k) ≠ a) → Mq15_ a = M a := fun a hA h0 h1 h2 h3 => (hfr a (FrA.mv (hTF a h0 h1) hA) (Nat.ne_of_lt (Nat.lt_of_lt_of_le h1 g_qq6_)) (Nat.ne_of_lt (Nat.lt_of_lt_of_le h1 g_tpq12_))).trans (hF a hA h0 h1 h2 h3)
    refine lv_iconst (v := 1) hx hb dX9_image_46 (by decide) ?_
    have hI : ImgOK kA Mq15_ Tq9_ w tp qq6_ tpq12_ tl fp (nC fb) := ⟨⟨n_qq6__w, n_qq6__tp, n_tpq12__w, n_tpq12__tp⟩, hn_qq6_, hn_tpq12_, csq10_, bsq11_, td, gd, bc, py, rf, lt, Fgq13_, gq18_, hc_qq6_, hc_bsq11_, hc_tpq12_, t_csq10_, t_bsq11_, by omega, by omega, by omega, h_gq18_.1, h_gq18_.2, h_Fgq13_⟩
    have hI2 : ImsOK kA Mq15_ Tq9_ w tp (va_up gi (Int32.toNatClampNeg k) (some qq6_)) (upA ai (Int32.toNatClampNeg k) tpq12_) (upd ti (Int32.toNatClampNeg k) tl) (upd pi (Int32.toNatClampNeg k) fp) (upB bi (Int32.toNatClampNeg k) (nC fb)) := him.put hkn hT_w hT_tp hTT (fun a ha hW => hTF a (fun z => by rw [z] at hW; rcases hW _ hM_im with ⟨fs, h⟩ | ⟨g9, h⟩ | ⟨f9, h⟩ <;> simp at h) (hlt0 a ha)) (fun a hA ha hW hw2 ht2 h2 h3 => hF a hA (fun z => by rw [z] at hW; rcases hW _ hM_im with ⟨fs, h⟩ | ⟨g9, h⟩ | ⟨f9, h⟩ <;> simp at h) (hlt0 a ha) h2 h3) hI (fun j p hj hjk hp => by have h9 := him.1 j p hj hp; obtain ⟨-, -, -, a1, a2, a3, a4, a5, a6, a7, a8, b1, b2, h3, -, h4, -⟩ := h9; exact ⟨fun z => by have h8 := hlt0 p (by rw [h3]; simp); rw [z] at h8; exact absurd h8 (Nat.not_lt.mpr g_qq6_), fun z => by have h8 := hlt0 _ (by rw [h4]; simp); rw [z] at h8; exact absurd h8 (Nat.not_lt.mpr g_tpq12_)⟩)
    exact ret_z hC hr hlk hK hH (Or.inr rfl) (⟨va_up gi (Int32.toNatClampNeg k) (some qq6_), upA ai (Int32.toNatClampNeg k) tpq12_, upd ti (Int32.toNatClampNeg k) tl, upd pi (Int32.toNatClampNeg k) fp, upB bi (Int32.toNatClampNeg k) (nC fb), hc_im, hn_im, hI2, Or.inl ⟨by omega, rfl, ⟨_, rfl⟩, rfl, rfl, rfl⟩, hTT, hTF, hF⟩) (Nat.le_of_ble_eq_true rfl) (Nat.le_of_ble_eq_true rfl) dX9_image_47
  · skip
    have hIq := him.1 _ _ hkn hgk
    obtain ⟨iaq29_, e_iaq29_⟩ : ∃ t : Nat, t = ai (Int32.toNatClampNeg k) := ⟨_, rfl⟩
    obtain ⟨tqq30_, e_tqq30_⟩ : ∃ t : Int32, t = ti (Int32.toNatClampNeg k) := ⟨_, rfl⟩
    obtain ⟨pqq31_, e_pqq31_⟩ : ∃ t : Int32, t = pi (Int32.toNatClampNeg k) := ⟨_, rfl⟩
    rw [← e_iaq29_, ← e_tqq30_, ← e_pqq31_] at hIq
    obtain ⟨⟨n_q_w, n_q_tp, n_iaq29__w, n_iaq29__tp⟩, hn_q, hn_iaq29_, icsq19_, ibsq20_, itdq21_, igdq22_, ibcq23_, ipyq24_, irfq25_, iltq26_, igq27_, ifq28_, hc_q, hc_ibsq20_, hc_iaq29_, t_icsq19_, t_ibsq20_, htd_q, hbc_q, htl_q, hby_ifq28_, hnc_ifq28_, hg_igq27_⟩ := hIq
    have n_w_q : w ≠ q := Ne.symm n_q_w
    have n_tp_q : tp ≠ q := Ne.symm n_q_tp
    have n_w_iaq29_ : w ≠ iaq29_ := Ne.symm n_iaq29__w
    have n_tp_iaq29_ : tp ≠ iaq29_ := Ne.symm n_iaq29__tp
    have n_ro_q : ro ≠ q := neM hc_ro hc_q (by simp)
    have n_ro_ibsq20_ : ro ≠ ibsq20_ := neM hc_ro hc_ibsq20_ (by simp)
    have n_ro_iaq29_ : ro ≠ iaq29_ := neM hc_ro hc_iaq29_ (by simp)
    have n_w_ibsq20_ : w ≠ ibsq20_ := neM hc_w hc_ibsq20_ (by simp)
    have n_bs_q : bs ≠ q := neM hc_bs hc_q (by simp)
    have n_bs_iaq29_ : bs ≠ iaq29_ := neM hc_bs hc_iaq29_ (by simp)
    have n_im_q : im ≠ q := neM hc_im hc_q (by simp)
    have n_im_ibsq20_ : im ≠ ibsq20_ := neM hc_im hc_ibsq20_ (by simp)
    have n_im_iaq29_ : im ≠ iaq29_ := neM hc_im hc_iaq29_ (by simp)
    have n_tp_ibsq20_ : tp ≠ ibsq20_ := neM hc_tp hc_ibsq20_ (by simp)
    have n_q_ro : q ≠ ro := neM hc_q hc_ro (by simp)
    have n_q_bs : q ≠ bs := neM hc_q hc_bs (by simp)
    have n_q_im : q ≠ im := neM hc_q hc_im (by simp)
    have n_q_ibsq20_ : q ≠ ibsq20_ := neM hc_q hc_ibsq20_ (by simp)
    have n_q_iaq29_ : q ≠ iaq29_ := neM hc_q hc_iaq29_ (by simp)
    have n_ibsq20__ro : ibsq20_ ≠ ro := neM hc_ibsq20_ hc_ro (by simp)
    have n_ibsq20__w : ibsq20_ ≠ w := neM hc_ibsq20_ hc_w (by simp)
    have n_ibsq20__im : ibsq20_ ≠ im := neM hc_ibsq20_ hc_im (by simp)
    have n_ibsq20__tp : ibsq20_ ≠ tp := neM hc_ibsq20_ hc_tp (by simp)
    have n_ibsq20__q : ibsq20_ ≠ q := neM hc_ibsq20_ hc_q (by simp)
    have n_ibsq20__iaq29_ : ibsq20_ ≠ iaq29_ := neM hc_ibsq20_ hc_iaq29_ (by simp)
    have n_iaq29__ro : iaq29_ ≠ ro := neM hc_iaq29_ hc_ro (by simp)
    have n_iaq29__bs : iaq29_ ≠ bs := neM hc_iaq29_ hc_bs (by simp)
    have n_iaq29__im : iaq29_ ≠ im := neM hc_iaq29_ hc_im (by simp)
    have n_iaq29__q : iaq29_ ≠ q := neM hc_iaq29_ hc_q (by simp)
    have n_iaq29__ibsq20_ : iaq29_ ≠ ibsq20_ := neM hc_iaq29_ hc_ibsq20_ (by simp)
    refine lv_iload_n hx hb dX9_image_0 rfl (lv_at hl 1 rfl) ?_
    refine jif_lt (tgt := 9) hx hb dX9_image_1 (by decide) (fun cq32_ => absurd cq32_ (by have := iRg k; have : (0 : Int32).toInt = 0 := rfl; omega)) (fun cq32_ => ?_)
    have cq32_ : 0 ≤ k.toInt := cq32_
    refine lv_iload_n hx hb dX9_image_4 rfl (lv_at hl 1 rfl) ?_
    refine lv_iconst (v := 3) hx hb dX9_image_5 (by decide) ?_
    refine jic_lt (tgt := 11) hx hb dX9_image_6 (by decide) (fun cq33_ => ?_) (fun cq33_ => absurd cq33_ (by have := iRg k; have : (3 : Int32).toInt = 3 := rfl; omega))
    have cq33_ : k.toInt < 3 := cq33_
    refine lv_aload_n hx hb dX9_image_11 rfl (lv_at hl 0 rfl) ?_
    refine xg hC hK hH flX9_16 hc_ro rfl dX9_image_12 ?_
    refine lv_iload_n hx hb dX9_image_15 rfl (lv_at hl 1 rfl) ?_
    refine xqld (ck := 6) hC hK hH rfl hc_im (iIn (by omega) (by omega)) dX9_image_16 ?_
    refine lv_qr hgk ?_
    refine lv_ifnonnull (tgt := 33) hx hb dX9_image_17 (by decide) ?_
    refine lv_aload_n hx hb dX9_image_33 rfl (lv_at hl 0 rfl) ?_
    refine xg hC hK hH flX9_16 hc_ro rfl dX9_image_34 ?_
    refine lv_iload_n hx hb dX9_image_37 rfl (lv_at hl 1 rfl) ?_
    refine xqld (ck := 6) hC hK hH rfl hc_im (iIn (by omega) (by omega)) dX9_image_38 ?_
    refine lv_qr hgk ?_
    refine lv_aload_n hx hb dX9_image_39 rfl (lv_at hl 0 rfl) ?_
    refine xg hC hK hH flX9_12 hc_ro rfl dX9_image_40 ?_
    refine goV hK hH (runV (As := [.ref w]) (rest := []) hC hK hH (c_X8_copy hc_q hn_q hc_w hn_w hc_ibsq20_ hc_bs hc_tp hn_tp hc_iaq29_ hn_iaq29_ ht_cs ht_bs t_icsq19_ t_ibsq20_ (by omega) (by omega) (by omega) (by exact hby) (by exact hby_ifq28_) hg hg_igq27_ n_q_w n_w_q n_tp_iaq29_ n_iaq29__tp) mlX9_343 (rcvM hK hH hc_q rfl) ⟨⟨Nat.le_of_ble_eq_true rfl, Nat.le_of_ble_eq_true rfl⟩, Nat.le_of_ble_eq_true rfl, Nat.le_of_ble_eq_true rfl⟩ rfl hl.1 rfl (Nat.le_of_ble_eq_true rfl) dX9_image_43) (fun Mq34_ Tq35_ Hq_ lcq_ hP hz hH => ?_)
    try dsimp only at hP
    obtain ⟨gq37_, h_gq37_, (⟨hx_q, hx_iaq29_⟩), eT, hfr⟩ := hP
    have eT := eT.symm; subst eT
    have hc_ro : Mq34_ ro = some (.inr (7, [.ref w, .ref im, .ref rd, .ref rc, .ref cu])) := (hfr ro (Or.inl hn_ro) n_ro_q n_ro_iaq29_).trans hc_ro
    have hc_w : Mq34_ w = some (.inr (6, [.int td, .int gd, .int bc, .int py, .int rf, .int lt, .int tl, .int fp, .ref cs, .ref bs, .ref tp])) := (hfr w (Or.inl hn_w) n_w_q n_w_iaq29_).trans hc_w
    have hc_bs : Mq34_ bs = some (.inl (kA 5, 4, .inr (.inr (.inr (.inr g))))) := (hfr bs (Or.inr ht_bs) n_bs_q n_bs_iaq29_).trans hc_bs
    have hc_im : Mq34_ im = some (.inl (kA 6, 3, .inr (.inr (.inr (.inr gi))))) := (hfr im (Or.inl hn_im) n_im_q n_im_iaq29_).trans hc_im
    have hc_tp : Mq34_ tp = some (.inl (kA 1, 600, .inl fb)) := (hfr tp (Or.inl hn_tp) n_tp_q n_tp_iaq29_).trans hc_tp
    have hc_q : Mq34_ q = some (.inr (6, [.int td, .int gd, .int bc, .int py, .int rf, .int lt, .int tl, .int fp, .ref icsq19_, .ref ibsq20_, .ref iaq29_])) := hx_q
    have hc_ibsq20_ : Mq34_ ibsq20_ = some (.inl (kA 5, 4, .inr (.inr (.inr (.inr igq27_))))) := (hfr ibsq20_ (Or.inr t_ibsq20_) n_ibsq20__q n_ibsq20__iaq29_).trans hc_ibsq20_
    have hc_iaq29_ : Mq34_ iaq29_ = some (.inl (kA 1, 600, .inl gq37_)) := hx_iaq29_
    have hF : ∀ a, FrA T a → a ≠ im → a < sz → gi (Int32.toNatClampNeg k) ≠ some a → (gi (Int32.toNatClampNeg k) ≠ none → ai (Int32.toNatClampNeg k) ≠ a) → Mq34_ a = M a := fun a hA h0 h1 h2 h3 => (hfr a (FrA.mv (hTF a h0 h1) hA) (fun z => h2 (by rw [hgk, z])) (fun z => h3 (by rw [hgk]; simp) (by rw [z, e_iaq29_]))).trans (hF a hA h0 h1 h2 h3)
    refine lv_iconst (v := 1) hx hb dX9_image_46 (by decide) ?_
    have hI : ImgOK kA Mq34_ T w tp q iaq29_ tl fp (nC fb) := ⟨⟨n_q_w, n_q_tp, n_iaq29__w, n_iaq29__tp⟩, hn_q, hn_iaq29_, icsq19_, ibsq20_, td, gd, bc, py, rf, lt, igq27_, gq37_, hc_q, hc_ibsq20_, hc_iaq29_, t_icsq19_, t_ibsq20_, by omega, by omega, by omega, h_gq37_.1, h_gq37_.2, hg_igq27_⟩
    have hI2 : ImsOK kA Mq34_ T w tp (va_up gi (Int32.toNatClampNeg k) (some q)) (upA ai (Int32.toNatClampNeg k) iaq29_) (upd ti (Int32.toNatClampNeg k) tl) (upd pi (Int32.toNatClampNeg k) fp) (upB bi (Int32.toNatClampNeg k) (nC fb)) := him.put hkn hT_w hT_tp hTT (fun a ha hW => hTF a (fun z => by rw [z] at hW; rcases hW _ hM_im with ⟨fs, h⟩ | ⟨g9, h⟩ | ⟨f9, h⟩ <;> simp at h) (hlt0 a ha)) (fun a hA ha hW hw2 ht2 h2 h3 => hF a hA (fun z => by rw [z] at hW; rcases hW _ hM_im with ⟨fs, h⟩ | ⟨g9, h⟩ | ⟨f9, h⟩ <;> simp at h) (hlt0 a ha) h2 h3) hI (fun j p hj hjk hp => ⟨fun z => hjk (him.2.1 _ _ p hj hkn hp (by rw [z]; exact hgk)), fun z => hjk (him.2.2 j _ hj hkn (by rw [hp]; simp) (by rw [hgk]; simp) (z.trans e_iaq29_))⟩)
    rw [va_up_same hgk] at hI2
    exact ret_z hC hr hlk hK hH (Or.inr rfl) (⟨gi, upA ai (Int32.toNatClampNeg k) iaq29_, upd ti (Int32.toNatClampNeg k) tl, upd pi (Int32.toNatClampNeg k) fp, upB bi (Int32.toNatClampNeg k) (nC fb), hc_im, hn_im, hI2, Or.inl ⟨by omega, rfl, ⟨q, (va_up_same hgk).symm⟩, rfl, rfl, rfl⟩, hTT, hTF, hF⟩) (Nat.le_of_ble_eq_true rfl) (Nat.le_of_ble_eq_true rfl) dX9_image_47
