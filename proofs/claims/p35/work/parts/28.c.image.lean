set_option maxHeartbeats 4000000 in
set_option maxRecDepth 100000 in
theorem c_X9_again {l : Launch} {D : va_G} {kA : Nat → ClassId} {M : mM} {T : mT} {sz : Nat} {ro im rd rc cu : Nat} {w cs bs tp : Nat} {td gd bc py rf lt tl fp : Int32} {g : Nat → Option Nat}{gi : Nat → Option Nat} {ti : Nat → Int32} {k : Int32} (hc_ro : M ro = some (.inr (7, [.ref w, .ref im, .ref rd, .ref rc, .ref cu]))) (hn_ro : T ro = none) (hc_w : M w = some (.inr (6, [.int td, .int gd, .int bc, .int py, .int rf, .int lt, .int tl, .int fp, .ref cs, .ref bs, .ref tp]))) (hn_w : T w = none) (hc_bs : M bs = some (.inl (kA 5, 4, .inr (.inr (.inr (.inr g)))))) (hc_im : M im = some (.inl (kA 6, 3, .inr (.inr (.inr (.inr gi)))))) (hn_im : T im = none) (ht_cs : T cs = some 3) (ht_bs : T bs = some 6) (ht_tp : T tp = some 7) (htd : 0 ≤ td.toInt ∧ td.toInt ≤ 999) (hbc : 0 ≤ bc.toInt ∧ bc.toInt ≤ 4) (htl : 0 ≤ tl.toInt ∧ tl.toInt ≤ 600) (him : ImsOK kA M T w gi ti) (hg : ∀ j, j < 4 → ∃ q, g j = some q ∧ T q = some 2) : mCi l yX9_again cX9_again 2 (some .boolean) 4 0 0 D kA M T sz [.ref ro, .int k] (fun r u => ∃ td2 : Int32, ((0 : Int) ≤ td2.toInt ∧ td2.toInt ≤ 999) ∧ ∃ gd2 : Int32, ((-2147483648 : Int) ≤ gd2.toInt ∧ gd2.toInt ≤ 2147483647) ∧ ∃ bc2 : Int32, ((0 : Int) ≤ bc2.toInt ∧ bc2.toInt ≤ 4) ∧ ∃ py2 : Int32, ((-2147483648 : Int) ≤ py2.toInt ∧ py2.toInt ≤ 2147483647) ∧ ∃ rf2 : Int32, ((-2147483648 : Int) ≤ rf2.toInt ∧ rf2.toInt ≤ 2147483647) ∧ ∃ lt2 : Int32, ((-2147483648 : Int) ≤ lt2.toInt ∧ lt2.toInt ≤ 2147483647) ∧ ∃ tl2 : Int32, ((0 : Int) ≤ tl2.toInt ∧ tl2.toInt ≤ 600) ∧ ∃ fp2 : Int32, ((-2147483648 : Int) ≤ fp2.toInt ∧ fp2.toInt ≤ 2147483647) ∧ ((((0 ≤ k.toInt ∧ k.toInt ≤ 2 ∧ gi (Int32.toNatClampNeg k) ≠ none) ∧ tl2 = ti (Int32.toNatClampNeg k)) ∧ r = 1 ∧ u.1 w = some (.inr (6, [.int td2, .int gd2, .int bc2, .int py2, .int rf2, .int lt2, .int tl2, .int fp2, .ref cs, .ref bs, .ref tp]))) ∨ ((¬ (0 ≤ k.toInt ∧ k.toInt ≤ 2 ∧ gi (Int32.toNatClampNeg k) ≠ none) ∧ tl2 = tl) ∧ r = 0 ∧ u.1 w = some (.inr (6, [.int td2, .int gd2, .int bc2, .int py2, .int rf2, .int lt2, .int tl2, .int fp2, .ref cs, .ref bs, .ref tp])))) ∧ u.2 = T ∧ (∀ q, FrA T q → q ≠ w → u.1 q = M q)) := by
  unfold mCi
  refine start_W (by decide) (Nat.le_of_ble_eq_true rfl) ?_
  intro p e s m below meth c ls hC hr hlk hnm hK hH hsz hl
  have hx := hC.1
  have hb := hC.2.1
  have hl : lv_has ls 2 [(0, .ref ro), (1, .int k)] := hl
  have hF : ∀ q, FrA T q → q ≠ w → M q = M q := fun q _ _ => rfl
  have n_ro_w : ro ≠ w := neM hc_ro hc_w (by simp)
  have n_ro_bs : ro ≠ bs := neM hc_ro hc_bs (by simp)
  have n_ro_im : ro ≠ im := neM hc_ro hc_im (by simp)
  have n_w_ro : w ≠ ro := neM hc_w hc_ro (by simp)
  have n_w_bs : w ≠ bs := neM hc_w hc_bs (by simp)
  have n_w_im : w ≠ im := neM hc_w hc_im (by simp)
  have n_bs_ro : bs ≠ ro := neM hc_bs hc_ro (by simp)
  have n_bs_w : bs ≠ w := neM hc_bs hc_w (by simp)
  have n_bs_im : bs ≠ im := neM hc_bs hc_im (by simp)
  have n_im_ro : im ≠ ro := neM hc_im hc_ro (by simp)
  have n_im_w : im ≠ w := neM hc_im hc_w (by simp)
  have n_im_bs : im ≠ bs := neM hc_im hc_bs (by simp)
  rcases (show k.toInt < 0 ∨ 3 ≤ k.toInt ∨ (0 ≤ k.toInt ∧ k.toInt ≤ 2) by omega) with hk | hk | hk
  · skip
    refine lv_iload_n hx hb dX9_again_0 rfl (lv_at hl 1 rfl) ?_
    refine jif_lt (tgt := 18) hx hb dX9_again_1 (by decide) (fun cq1_ => ?_) (fun cq1_ => absurd cq1_ (by have := iRg k; have : (0 : Int32).toInt = 0 := rfl; omega))
    have cq1_ : k.toInt < 0 := cq1_
    refine lv_iconst (v := 0) hx hb dX9_again_18 (by decide) ?_
    exact ret_z hC hr hlk hK hH (by first | exact Or.inl rfl | exact Or.inr rfl | assumption) (⟨td, ⟨by omega, by omega⟩, gd, iRg _, bc, ⟨by omega, by omega⟩, py, iRg _, rf, iRg _, lt, iRg _, tl, ⟨by omega, by omega⟩, fp, iRg _, Or.inr (⟨⟨fun z => by omega, rfl⟩, rfl, hc_w⟩), rfl, hF⟩) (Nat.le_of_ble_eq_true rfl) (Nat.le_of_ble_eq_true rfl) dX9_again_19
  · skip
    refine lv_iload_n hx hb dX9_again_0 rfl (lv_at hl 1 rfl) ?_
    refine jif_lt (tgt := 18) hx hb dX9_again_1 (by decide) (fun cq2_ => absurd cq2_ (by have := iRg k; have : (0 : Int32).toInt = 0 := rfl; omega)) (fun cq2_ => ?_)
    have cq2_ : 0 ≤ k.toInt := cq2_
    refine lv_iload_n hx hb dX9_again_4 rfl (lv_at hl 1 rfl) ?_
    refine lv_iconst (v := 3) hx hb dX9_again_5 (by decide) ?_
    refine jic_ge (tgt := 18) hx hb dX9_again_6 (by decide) (fun cq3_ => ?_) (fun cq3_ => absurd cq3_ (by have := iRg k; have : (3 : Int32).toInt = 3 := rfl; omega))
    have cq3_ : 3 ≤ k.toInt := cq3_
    refine lv_iconst (v := 0) hx hb dX9_again_18 (by decide) ?_
    exact ret_z hC hr hlk hK hH (by first | exact Or.inl rfl | exact Or.inr rfl | assumption) (⟨td, ⟨by omega, by omega⟩, gd, iRg _, bc, ⟨by omega, by omega⟩, py, iRg _, rf, iRg _, lt, iRg _, tl, ⟨by omega, by omega⟩, fp, iRg _, Or.inr (⟨⟨fun z => by omega, rfl⟩, rfl, hc_w⟩), rfl, hF⟩) (Nat.le_of_ble_eq_true rfl) (Nat.le_of_ble_eq_true rfl) dX9_again_19
  have hkn : (Int32.toNatClampNeg k) < 3 := by have := iCl (x := k) (by omega); omega
  obtain ⟨og, hgk⟩ : ∃ o, gi (Int32.toNatClampNeg k) = o := ⟨_, rfl⟩
  rcases og with _ | q
  · skip
    refine lv_iload_n hx hb dX9_again_0 rfl (lv_at hl 1 rfl) ?_
    refine jif_lt (tgt := 18) hx hb dX9_again_1 (by decide) (fun cq4_ => absurd cq4_ (by have := iRg k; have : (0 : Int32).toInt = 0 := rfl; omega)) (fun cq4_ => ?_)
    have cq4_ : 0 ≤ k.toInt := cq4_
    refine lv_iload_n hx hb dX9_again_4 rfl (lv_at hl 1 rfl) ?_
    refine lv_iconst (v := 3) hx hb dX9_again_5 (by decide) ?_
    refine jic_ge (tgt := 18) hx hb dX9_again_6 (by decide) (fun cq5_ => absurd cq5_ (by have := iRg k; have : (3 : Int32).toInt = 3 := rfl; omega)) (fun cq5_ => ?_)
    have cq5_ : k.toInt < 3 := cq5_
    refine lv_aload_n hx hb dX9_again_9 rfl (lv_at hl 0 rfl) ?_
    refine xg hC hK hH flX9_16 hc_ro rfl dX9_again_10 ?_
    refine lv_iload_n hx hb dX9_again_13 rfl (lv_at hl 1 rfl) ?_
    refine xqld (ck := 6) hC hK hH rfl hc_im (iIn (by omega) (by omega)) dX9_again_14 ?_
    refine lv_qn hgk ?_
    refine lv_ifnonnullN hx hb dX9_again_15 ?_
    refine lv_iconst (v := 0) hx hb dX9_again_18 (by decide) ?_
    exact ret_z hC hr hlk hK hH (by first | exact Or.inl rfl | exact Or.inr rfl | assumption) (⟨td, ⟨by omega, by omega⟩, gd, iRg _, bc, ⟨by omega, by omega⟩, py, iRg _, rf, iRg _, lt, iRg _, tl, ⟨by omega, by omega⟩, fp, iRg _, Or.inr (⟨⟨fun z => z.2.2 hgk, rfl⟩, rfl, hc_w⟩), rfl, hF⟩) (Nat.le_of_ble_eq_true rfl) (Nat.le_of_ble_eq_true rfl) dX9_again_19
  · skip
    obtain ⟨n_q_w, hn_q, icsq6_, ibsq7_, itpq8_, itdq9_, igdq10_, ibcq11_, ipyq12_, irfq13_, iltq14_, ifpq15_, igq16_, hc_q, hc_ibsq7_, t_icsq6_, t_ibsq7_, t_itpq8_, htd_q, hbc_q, htl_q, hg_igq16_⟩ := him.1 _ _ hkn hgk
    have n_w_q : w ≠ q := Ne.symm n_q_w
    obtain ⟨tqq17_, e_tqq17_⟩ : ∃ t : Int32, t = ti (Int32.toNatClampNeg k) := ⟨_, rfl⟩
    rw [← e_tqq17_] at hc_q htl_q
    have n_ro_q : ro ≠ q := neM hc_ro hc_q (by simp)
    have n_ro_ibsq7_ : ro ≠ ibsq7_ := neM hc_ro hc_ibsq7_ (by simp)
    have n_w_ibsq7_ : w ≠ ibsq7_ := neM hc_w hc_ibsq7_ (by simp)
    have n_bs_q : bs ≠ q := neM hc_bs hc_q (by simp)
    have n_im_q : im ≠ q := neM hc_im hc_q (by simp)
    have n_im_ibsq7_ : im ≠ ibsq7_ := neM hc_im hc_ibsq7_ (by simp)
    have n_q_ro : q ≠ ro := neM hc_q hc_ro (by simp)
    have n_q_bs : q ≠ bs := neM hc_q hc_bs (by simp)
    have n_q_im : q ≠ im := neM hc_q hc_im (by simp)
    have n_q_ibsq7_ : q ≠ ibsq7_ := neM hc_q hc_ibsq7_ (by simp)
    have n_ibsq7__ro : ibsq7_ ≠ ro := neM hc_ibsq7_ hc_ro (by simp)
    have n_ibsq7__w : ibsq7_ ≠ w := neM hc_ibsq7_ hc_w (by simp)
    have n_ibsq7__im : ibsq7_ ≠ im := neM hc_ibsq7_ hc_im (by simp)
    have n_ibsq7__q : ibsq7_ ≠ q := neM hc_ibsq7_ hc_q (by simp)
    refine lv_iload_n hx hb dX9_again_0 rfl (lv_at hl 1 rfl) ?_
    refine jif_lt (tgt := 18) hx hb dX9_again_1 (by decide) (fun cq18_ => absurd cq18_ (by have := iRg k; have : (0 : Int32).toInt = 0 := rfl; omega)) (fun cq18_ => ?_)
    have cq18_ : 0 ≤ k.toInt := cq18_
    refine lv_iload_n hx hb dX9_again_4 rfl (lv_at hl 1 rfl) ?_
    refine lv_iconst (v := 3) hx hb dX9_again_5 (by decide) ?_
    refine jic_ge (tgt := 18) hx hb dX9_again_6 (by decide) (fun cq19_ => absurd cq19_ (by have := iRg k; have : (3 : Int32).toInt = 3 := rfl; omega)) (fun cq19_ => ?_)
    have cq19_ : k.toInt < 3 := cq19_
    refine lv_aload_n hx hb dX9_again_9 rfl (lv_at hl 0 rfl) ?_
    refine xg hC hK hH flX9_16 hc_ro rfl dX9_again_10 ?_
    refine lv_iload_n hx hb dX9_again_13 rfl (lv_at hl 1 rfl) ?_
    refine xqld (ck := 6) hC hK hH rfl hc_im (iIn (by omega) (by omega)) dX9_again_14 ?_
    refine lv_qr hgk ?_
    refine lv_ifnonnull (tgt := 20) hx hb dX9_again_15 (by decide) ?_
    refine lv_aload_n hx hb dX9_again_20 rfl (lv_at hl 0 rfl) ?_
    refine xg hC hK hH flX9_12 hc_ro rfl dX9_again_21 ?_
    refine lv_aload_n hx hb dX9_again_24 rfl (lv_at hl 0 rfl) ?_
    refine xg hC hK hH flX9_16 hc_ro rfl dX9_again_25 ?_
    refine lv_iload_n hx hb dX9_again_28 rfl (lv_at hl 1 rfl) ?_
    refine xqld (ck := 6) hC hK hH rfl hc_im (iIn (by omega) (by omega)) dX9_again_29 ?_
    refine lv_qr hgk ?_
    refine goV hK hH (runV (As := [.ref q]) (rest := []) hC hK hH (c_X8_copy hc_w hn_w hc_q hn_q hc_bs hc_ibsq7_ t_icsq6_ t_ibsq7_ t_itpq8_ ht_cs ht_bs ht_tp (by omega) (by omega) (by omega) hg_igq16_ hg n_w_q n_q_w) mlX9_343 (rcvM hK hH hc_w rfl) ⟨⟨Nat.le_of_ble_eq_true rfl, Nat.le_of_ble_eq_true rfl⟩, Nat.le_of_ble_eq_true rfl, Nat.le_of_ble_eq_true rfl⟩ rfl hl.1 rfl (Nat.le_of_ble_eq_true rfl) dX9_again_30) (fun Mq20_ Tq21_ Hq_ lcq_ hP hz hH => ?_)
    try dsimp only at hP
    obtain ⟨(hx_w), eT, hfr⟩ := hP
    have eT := eT.symm; subst eT
    have hc_ro : Mq20_ ro = some (.inr (7, [.ref w, .ref im, .ref rd, .ref rc, .ref cu])) := (hfr ro (Or.inl hn_ro) n_ro_w).trans hc_ro
    have hc_w : Mq20_ w = some (.inr (6, [.int itdq9_, .int igdq10_, .int ibcq11_, .int ipyq12_, .int irfq13_, .int iltq14_, .int tqq17_, .int ifpq15_, .ref cs, .ref bs, .ref tp])) := hx_w
    have hc_bs : Mq20_ bs = some (.inl (kA 5, 4, .inr (.inr (.inr (.inr g))))) := (hfr bs (Or.inr ht_bs) n_bs_w).trans hc_bs
    have hc_im : Mq20_ im = some (.inl (kA 6, 3, .inr (.inr (.inr (.inr gi))))) := (hfr im (Or.inl hn_im) n_im_w).trans hc_im
    have hc_q : Mq20_ q = some (.inr (6, [.int itdq9_, .int igdq10_, .int ibcq11_, .int ipyq12_, .int irfq13_, .int iltq14_, .int tqq17_, .int ifpq15_, .ref icsq6_, .ref ibsq7_, .ref itpq8_])) := (hfr q (Or.inl hn_q) n_q_w).trans hc_q
    have hc_ibsq7_ : Mq20_ ibsq7_ = some (.inl (kA 5, 4, .inr (.inr (.inr (.inr igq16_))))) := (hfr ibsq7_ (Or.inr t_ibsq7_) n_ibsq7__w).trans hc_ibsq7_
    have hF : ∀ q, FrA T q → q ≠ w → Mq20_ q = M q := fun q hq h0 => (hfr q hq  h0).trans (hF q hq h0)
    refine lv_iconst (v := 1) hx hb dX9_again_33 (by decide) ?_
    exact ret_z hC hr hlk hK hH (by first | exact Or.inl rfl | exact Or.inr rfl | assumption) (⟨itdq9_, ⟨by omega, by omega⟩, igdq10_, iRg _, ibcq11_, ⟨by omega, by omega⟩, ipyq12_, iRg _, irfq13_, iRg _, iltq14_, iRg _, tqq17_, ⟨by omega, by omega⟩, ifpq15_, iRg _, Or.inl (⟨⟨⟨by omega, by omega, by rw [hgk]; simp⟩, e_tqq17_⟩, rfl, hc_w⟩), rfl, hF⟩) (Nat.le_of_ble_eq_true rfl) (Nat.le_of_ble_eq_true rfl) dX9_again_34
set_option maxHeartbeats 4000000 in
set_option maxRecDepth 100000 in
theorem c_X9_image {l : Launch} {D : va_G} {kA : Nat → ClassId} {M : mM} {T : mT} {sz : Nat} {ro im rd rc cu : Nat} {w cs bs tp : Nat} {td gd bc py rf lt tl fp : Int32} {g : Nat → Option Nat}{gi : Nat → Option Nat} {ti : Nat → Int32} {k : Int32} (hc_ro : M ro = some (.inr (7, [.ref w, .ref im, .ref rd, .ref rc, .ref cu]))) (hn_ro : T ro = none) (hc_w : M w = some (.inr (6, [.int td, .int gd, .int bc, .int py, .int rf, .int lt, .int tl, .int fp, .ref cs, .ref bs, .ref tp]))) (hn_w : T w = none) (hc_bs : M bs = some (.inl (kA 5, 4, .inr (.inr (.inr (.inr g)))))) (hc_im : M im = some (.inl (kA 6, 3, .inr (.inr (.inr (.inr gi)))))) (hn_im : T im = none) (ht_cs : T cs = some 3) (ht_bs : T bs = some 6) (ht_tp : T tp = some 7) (htd : 0 ≤ td.toInt ∧ td.toInt ≤ 999) (hbc : 0 ≤ bc.toInt ∧ bc.toInt ≤ 4) (htl : 0 ≤ tl.toInt ∧ tl.toInt ≤ 600) (him : ImsOK kA M T w gi ti) (hg : ∀ j, j < 4 → ∃ q, g j = some q ∧ T q = some 2) : mCi l yX9_image cX9_image 2 (some .boolean) 4 92 1627 D kA M T sz [.ref ro, .int k] (fun r u => ∃ (gi' : Nat → Option Nat) (ti' : Nat → Int32), u.1 im = some (.inl (kA 6, 3, .inr (.inr (.inr (.inr gi'))))) ∧ u.2 im = none ∧ ImsOK kA u.1 u.2 w gi' ti' ∧ (((0 ≤ k.toInt ∧ k.toInt ≤ 2) ∧ r = 1 ∧ (∃ q, gi' = va_up gi (Int32.toNatClampNeg k) (some q)) ∧ ti' = upd ti (Int32.toNatClampNeg k) tl) ∨ (¬ (0 ≤ k.toInt ∧ k.toInt ≤ 2) ∧ r = 0 ∧ gi' = gi ∧ ti' = ti)) ∧ (∀ a t, T a = some t → u.2 a = some t) ∧ (∀ a, a ≠ im → a < sz → u.2 a = T a) ∧ ∀ a, FrA T a → a ≠ im → a < sz → gi (Int32.toNatClampNeg k) ≠ some a → u.1 a = M a) := by
  unfold mCi
  refine start_W (by decide) (Nat.le_of_ble_eq_true rfl) ?_
  intro p e s m below meth c ls hC hr hlk hnm hK hH hsz hl
  have hx := hC.1
  have hb := hC.2.1
  have hl : lv_has ls 2 [(0, .ref ro), (1, .int k)] := hl
  have hF : ∀ q, FrA T q → M q = M q := fun q _  => rfl
  have n_ro_w : ro ≠ w := neM hc_ro hc_w (by simp)
  have n_ro_bs : ro ≠ bs := neM hc_ro hc_bs (by simp)
  have n_ro_im : ro ≠ im := neM hc_ro hc_im (by simp)
  have n_w_ro : w ≠ ro := neM hc_w hc_ro (by simp)
  have n_w_bs : w ≠ bs := neM hc_w hc_bs (by simp)
  have n_w_im : w ≠ im := neM hc_w hc_im (by simp)
  have n_bs_ro : bs ≠ ro := neM hc_bs hc_ro (by simp)
  have n_bs_w : bs ≠ w := neM hc_bs hc_w (by simp)
  have n_bs_im : bs ≠ im := neM hc_bs hc_im (by simp)
  have n_im_ro : im ≠ ro := neM hc_im hc_ro (by simp)
  have n_im_w : im ≠ w := neM hc_im hc_w (by simp)
  have n_im_bs : im ≠ bs := neM hc_im hc_bs (by simp)
  have hF : ∀ a, FrA T a → a ≠ im → a < sz → gi (Int32.toNatClampNeg k) ≠ some a → M a = M a := fun a _ _ _ _ => rfl
  have hTF : ∀ a, a ≠ im → a < sz → T a = T a := fun a _ _ => rfl
  have hTT : ∀ a t, T a = some t → T a = some t := fun _ _ h => h
  have hlt0 : ∀ a, M a ≠ none → a < sz := fun a h => by rw [← hsz]; exact hH.1.ltM h
  have hM_im := hc_im
  have hT_w := hn_w
  rcases (show k.toInt < 0 ∨ 3 ≤ k.toInt ∨ (0 ≤ k.toInt ∧ k.toInt ≤ 2) by omega) with hk | hk | hk
  · skip
    refine lv_iload_n hx hb dX9_image_0 rfl (lv_at hl 1 rfl) ?_
    refine jif_lt (tgt := 9) hx hb dX9_image_1 (by decide) (fun cq1_ => ?_) (fun cq1_ => absurd cq1_ (by have := iRg k; have : (0 : Int32).toInt = 0 := rfl; omega))
    have cq1_ : k.toInt < 0 := cq1_
    refine lv_iconst (v := 0) hx hb dX9_image_9 (by decide) ?_
    exact ret_z hC hr hlk hK hH (Or.inl rfl) (⟨gi, ti, hc_im, hn_im, him, Or.inr ⟨by omega, rfl, rfl, rfl⟩, hTT, hTF, hF⟩) (Nat.le_of_ble_eq_true rfl) (Nat.le_of_ble_eq_true rfl) dX9_image_10
  · skip
    refine lv_iload_n hx hb dX9_image_0 rfl (lv_at hl 1 rfl) ?_
    refine jif_lt (tgt := 9) hx hb dX9_image_1 (by decide) (fun cq2_ => absurd cq2_ (by have := iRg k; have : (0 : Int32).toInt = 0 := rfl; omega)) (fun cq2_ => ?_)
    have cq2_ : 0 ≤ k.toInt := cq2_
    refine lv_iload_n hx hb dX9_image_4 rfl (lv_at hl 1 rfl) ?_
    refine lv_iconst (v := 3) hx hb dX9_image_5 (by decide) ?_
    refine jic_lt (tgt := 11) hx hb dX9_image_6 (by decide) (fun cq3_ => absurd cq3_ (by have := iRg k; have : (3 : Int32).toInt = 3 := rfl; omega)) (fun cq3_ => ?_)
    have cq3_ : 3 ≤ k.toInt := cq3_
    refine lv_iconst (v := 0) hx hb dX9_image_9 (by decide) ?_
    exact ret_z hC hr hlk hK hH (Or.inl rfl) (⟨gi, ti, hc_im, hn_im, him, Or.inr ⟨by omega, rfl, rfl, rfl⟩, hTT, hTF, hF⟩) (Nat.le_of_ble_eq_true rfl) (Nat.le_of_ble_eq_true rfl) dX9_image_10
  have hkn : (Int32.toNatClampNeg k) < 3 := by have := iCl (x := k) (by omega); omega
  obtain ⟨og, hgk⟩ : ∃ o, gi (Int32.toNatClampNeg k) = o := ⟨_, rfl⟩
  rcases og with _ | q
  · skip
    refine lv_iload_n hx hb dX9_image_0 rfl (lv_at hl 1 rfl) ?_
    refine jif_lt (tgt := 9) hx hb dX9_image_1 (by decide) (fun cq4_ => absurd cq4_ (by have := iRg k; have : (0 : Int32).toInt = 0 := rfl; omega)) (fun cq4_ => ?_)
    have cq4_ : 0 ≤ k.toInt := cq4_
    refine lv_iload_n hx hb dX9_image_4 rfl (lv_at hl 1 rfl) ?_
    refine lv_iconst (v := 3) hx hb dX9_image_5 (by decide) ?_
    refine jic_lt (tgt := 11) hx hb dX9_image_6 (by decide) (fun cq5_ => ?_) (fun cq5_ => absurd cq5_ (by have := iRg k; have : (3 : Int32).toInt = 3 := rfl; omega))
    have cq5_ : k.toInt < 3 := cq5_
    refine lv_aload_n hx hb dX9_image_11 rfl (lv_at hl 0 rfl) ?_
    refine xg hC hK hH flX9_16 hc_ro rfl dX9_image_12 ?_
    refine lv_iload_n hx hb dX9_image_15 rfl (lv_at hl 1 rfl) ?_
    refine xqld (ck := 6) hC hK hH rfl hc_im (iIn (by omega) (by omega)) dX9_image_16 ?_
    refine lv_qn hgk ?_
    refine lv_ifnonnullN hx hb dX9_image_17 ?_
    refine lv_aload_n hx hb dX9_image_20 rfl (lv_at hl 0 rfl) ?_
    refine xg hC hK hH flX9_16 hc_ro rfl dX9_image_21 ?_
    refine lv_iload_n hx hb dX9_image_24 rfl (lv_at hl 1 rfl) ?_
    refine ynew hC hK hH nlX9_9 (Nat.le_of_ble_eq_true rfl) (Nat.le_of_ble_eq_true rfl) dX9_image_25 (fun qq6_ Hq_ Mq7_ e_qq6_ hz nM_qq6_ hn_qq6_ hc_qq6_ hfr hN => ?_)
    have g_qq6_ : sz ≤ qq6_ := by rw [← hsz, e_qq6_]; exact hH.2.1.1
    have n_ro_qq6_ : ro ≠ qq6_ := neN hc_ro nM_qq6_
    have n_qq6__ro : qq6_ ≠ ro := Ne.symm n_ro_qq6_
    have n_w_qq6_ : w ≠ qq6_ := neN hc_w nM_qq6_
    have n_qq6__w : qq6_ ≠ w := Ne.symm n_w_qq6_
    have n_bs_qq6_ : bs ≠ qq6_ := neN hc_bs nM_qq6_
    have n_qq6__bs : qq6_ ≠ bs := Ne.symm n_bs_qq6_
    have n_im_qq6_ : im ≠ qq6_ := neN hc_im nM_qq6_
    have n_qq6__im : qq6_ ≠ im := Ne.symm n_im_qq6_
    have hH := hN
    have hc_qq6_ : Mq7_ qq6_ = some (.inr (6, [.int 0, .int 0, .int 0, .int 0, .int 0, .int 0, .int 0, .int 0, .null, .null, .null])) := hc_qq6_
    have hc_ro : Mq7_ ro = some (.inr (7, [.ref w, .ref im, .ref rd, .ref rc, .ref cu])) := (hfr ro n_ro_qq6_).trans hc_ro
    have hc_w : Mq7_ w = some (.inr (6, [.int td, .int gd, .int bc, .int py, .int rf, .int lt, .int tl, .int fp, .ref cs, .ref bs, .ref tp])) := (hfr w n_w_qq6_).trans hc_w
    have hc_bs : Mq7_ bs = some (.inl (kA 5, 4, .inr (.inr (.inr (.inr g))))) := (hfr bs n_bs_qq6_).trans hc_bs
    have hc_im : Mq7_ im = some (.inl (kA 6, 3, .inr (.inr (.inr (.inr gi))))) := (hfr im n_im_qq6_).trans hc_im
    have hF : ∀ a, FrA T a → a ≠ im → a < sz → gi (Int32.toNatClampNeg k) ≠ some a → Mq7_ a = M a := fun a hA h0 h1 h2 => (hfr a (Nat.ne_of_lt (Nat.lt_of_lt_of_le h1 g_qq6_))).trans (hF a hA h0 h1 h2)
    refine lv_dup hx hb dX9_image_28 rfl ?_
    have gH : sz ≤ Array.size Hq_ := by rw [← hsz]; exact hH.2.1.1
    have lt_ro : ro < Array.size Hq_ := hH.1.ltM (by rw [hc_ro]; simp)
    have lt_w : w < Array.size Hq_ := hH.1.ltM (by rw [hc_w]; simp)
    have lt_bs : bs < Array.size Hq_ := hH.1.ltM (by rw [hc_bs]; simp)
    have lt_im : im < Array.size Hq_ := hH.1.ltM (by rw [hc_im]; simp)
    have lt_qq6_ : qq6_ < Array.size Hq_ := hH.1.ltM (by rw [hc_qq6_]; simp)
    refine goV hK hH (runI (As := []) (rest := [.ref qq6_, .int k, .ref im]) hC hK hH (c_X8_init hc_qq6_ hn_qq6_ lt_qq6_) mlX9_11 ⟨⟨Nat.le_of_ble_eq_true rfl, Nat.le_of_ble_eq_true rfl⟩, Nat.le_of_ble_eq_true rfl, Nat.le_of_ble_eq_true rfl⟩ rfl hl.1 rfl (Nat.le_of_ble_eq_true rfl) dX9_image_29) (fun Mq8_ Tq9_ Hq_ lcq_ hP hz hH => ?_)
    try dsimp only at hP
    obtain ⟨csq10_, bsq11_, tpq12_, Fgq13_, hc_qq6_, hn_qq6_, hc_bsq11_, t_csq10_, t_bsq11_, t_tpq12_, g_csq10_, g_bsq11_, g_tpq12_, h_Fgq13_, hsub, hfT, hfr⟩ := hP
    have n_ro_csq10_ : ro ≠ csq10_ := Nat.ne_of_lt (Nat.lt_of_lt_of_le lt_ro g_csq10_)
    have n_csq10__ro : csq10_ ≠ ro := Ne.symm n_ro_csq10_
    have n_w_csq10_ : w ≠ csq10_ := Nat.ne_of_lt (Nat.lt_of_lt_of_le lt_w g_csq10_)
    have n_csq10__w : csq10_ ≠ w := Ne.symm n_w_csq10_
    have n_bs_csq10_ : bs ≠ csq10_ := Nat.ne_of_lt (Nat.lt_of_lt_of_le lt_bs g_csq10_)
    have n_csq10__bs : csq10_ ≠ bs := Ne.symm n_bs_csq10_
    have n_im_csq10_ : im ≠ csq10_ := Nat.ne_of_lt (Nat.lt_of_lt_of_le lt_im g_csq10_)
    have n_csq10__im : csq10_ ≠ im := Ne.symm n_im_csq10_
    have n_qq6__csq10_ : qq6_ ≠ csq10_ := Nat.ne_of_lt (Nat.lt_of_lt_of_le lt_qq6_ g_csq10_)
    have n_csq10__qq6_ : csq10_ ≠ qq6_ := Ne.symm n_qq6__csq10_
    have n_ro_bsq11_ : ro ≠ bsq11_ := Nat.ne_of_lt (Nat.lt_of_lt_of_le lt_ro g_bsq11_)
    have n_bsq11__ro : bsq11_ ≠ ro := Ne.symm n_ro_bsq11_
    have n_w_bsq11_ : w ≠ bsq11_ := Nat.ne_of_lt (Nat.lt_of_lt_of_le lt_w g_bsq11_)
    have n_bsq11__w : bsq11_ ≠ w := Ne.symm n_w_bsq11_
    have n_bs_bsq11_ : bs ≠ bsq11_ := Nat.ne_of_lt (Nat.lt_of_lt_of_le lt_bs g_bsq11_)
    have n_bsq11__bs : bsq11_ ≠ bs := Ne.symm n_bs_bsq11_
    have n_im_bsq11_ : im ≠ bsq11_ := Nat.ne_of_lt (Nat.lt_of_lt_of_le lt_im g_bsq11_)
    have n_bsq11__im : bsq11_ ≠ im := Ne.symm n_im_bsq11_
    have n_qq6__bsq11_ : qq6_ ≠ bsq11_ := Nat.ne_of_lt (Nat.lt_of_lt_of_le lt_qq6_ g_bsq11_)
    have n_bsq11__qq6_ : bsq11_ ≠ qq6_ := Ne.symm n_qq6__bsq11_
    have n_ro_tpq12_ : ro ≠ tpq12_ := Nat.ne_of_lt (Nat.lt_of_lt_of_le lt_ro g_tpq12_)
    have n_tpq12__ro : tpq12_ ≠ ro := Ne.symm n_ro_tpq12_
    have n_w_tpq12_ : w ≠ tpq12_ := Nat.ne_of_lt (Nat.lt_of_lt_of_le lt_w g_tpq12_)
    have n_tpq12__w : tpq12_ ≠ w := Ne.symm n_w_tpq12_
    have n_bs_tpq12_ : bs ≠ tpq12_ := Nat.ne_of_lt (Nat.lt_of_lt_of_le lt_bs g_tpq12_)
    have n_tpq12__bs : tpq12_ ≠ bs := Ne.symm n_bs_tpq12_
    have n_im_tpq12_ : im ≠ tpq12_ := Nat.ne_of_lt (Nat.lt_of_lt_of_le lt_im g_tpq12_)
    have n_tpq12__im : tpq12_ ≠ im := Ne.symm n_im_tpq12_
    have n_qq6__tpq12_ : qq6_ ≠ tpq12_ := Nat.ne_of_lt (Nat.lt_of_lt_of_le lt_qq6_ g_tpq12_)
    have n_tpq12__qq6_ : tpq12_ ≠ qq6_ := Ne.symm n_qq6__tpq12_
    have hc_ro : Mq8_ ro = some (.inr (7, [.ref w, .ref im, .ref rd, .ref rc, .ref cu])) := (hfr ro (Or.inl hn_ro) n_ro_qq6_ lt_ro).trans hc_ro
    have hn_ro : Tq9_ ro = none := (hfT ro n_ro_qq6_ lt_ro).trans hn_ro
    have hc_w : Mq8_ w = some (.inr (6, [.int td, .int gd, .int bc, .int py, .int rf, .int lt, .int tl, .int fp, .ref cs, .ref bs, .ref tp])) := (hfr w (Or.inl hn_w) n_w_qq6_ lt_w).trans hc_w
    have hn_w : Tq9_ w = none := (hfT w n_w_qq6_ lt_w).trans hn_w
    have hc_bs : Mq8_ bs = some (.inl (kA 5, 4, .inr (.inr (.inr (.inr g))))) := (hfr bs (Or.inr ht_bs) n_bs_qq6_ lt_bs).trans hc_bs
    have hc_im : Mq8_ im = some (.inl (kA 6, 3, .inr (.inr (.inr (.inr gi))))) := (hfr im (Or.inl hn_im) n_im_qq6_ lt_im).trans hc_im
    have hn_im : Tq9_ im = none := (hfT im n_im_qq6_ lt_im).trans hn_im
    have ht_cs : Tq9_ cs = some 3 := hsub _ _ ht_cs
    have ht_bs : Tq9_ bs = some 6 := hsub _ _ ht_bs
    have ht_tp : Tq9_ tp = some 7 := hsub _ _ ht_tp
    have hg : ∀ j, j < 4 → ∃ q, g j = some q ∧ Tq9_ q = some 2 := fun j hj => (hg j hj).imp (fun q h => ⟨h.1, hsub _ _ h.2⟩)
    have g_csq10_ : sz ≤ csq10_ := Nat.le_trans gH g_csq10_
    have g_bsq11_ : sz ≤ bsq11_ := Nat.le_trans gH g_bsq11_
    have g_tpq12_ : sz ≤ tpq12_ := Nat.le_trans gH g_tpq12_
    have hTT : ∀ a t, T a = some t → Tq9_ a = some t := fun a t h => hsub _ _ (hTT a t h)
    have hF : ∀ a, FrA T a → a ≠ im → a < sz → gi (Int32.toNatClampNeg k) ≠ some a → Mq8_ a = M a := fun a hA h0 h1 h2 => (hfr a (FrA.mv (hTF a h0 h1) hA) (Nat.ne_of_lt (Nat.lt_of_lt_of_le h1 g_qq6_)) (Nat.lt_of_lt_of_le h1 gH)).trans (hF a hA h0 h1 h2)
    have hTF : ∀ a, a ≠ im → a < sz → Tq9_ a = T a := fun a h0 h1 => (hfT a (Nat.ne_of_lt (Nat.lt_of_lt_of_le h1 g_qq6_)) (Nat.lt_of_lt_of_le h1 gH)).trans (hTF a h0 h1)
    refine yqst (ck := 6) (cv := 6) (v := qq6_) hC hK hH rfl rfl hc_im ⟨_, hH.1.1 _ _ hc_qq6_⟩ (noT hn_im) (iIn (by omega) (by omega)) dX9_image_32 (fun Hq_ lcq_ Mq14_ hc_im hfr hH => ?_)
    have hc_im : Mq14_ im = some (.inl (kA 6, 3, .inr (.inr (.inr (.inr (va_up gi (Int32.toNatClampNeg k) (some qq6_))))))) := hc_im
    have hc_ro : Mq14_ ro = some (.inr (7, [.ref w, .ref im, .ref rd, .ref rc, .ref cu])) := (hfr ro n_ro_im).trans hc_ro
    have hc_w : Mq14_ w = some (.inr (6, [.int td, .int gd, .int bc, .int py, .int rf, .int lt, .int tl, .int fp, .ref cs, .ref bs, .ref tp])) := (hfr w n_w_im).trans hc_w
    have hc_bs : Mq14_ bs = some (.inl (kA 5, 4, .inr (.inr (.inr (.inr g))))) := (hfr bs n_bs_im).trans hc_bs
    have hc_qq6_ : Mq14_ qq6_ = some (.inr (6, [.int 0, .int 2, .int 0, .int 0, .int 0, .int 0, .int 0, .int (-1), .ref csq10_, .ref bsq11_, .ref tpq12_])) := (hfr qq6_ n_qq6__im).trans hc_qq6_
    have hc_bsq11_ : Mq14_ bsq11_ = some (.inl (kA 5, 4, .inr (.inr (.inr (.inr Fgq13_))))) := (hfr bsq11_ n_bsq11__im).trans hc_bsq11_
    have hF : ∀ a, FrA T a → a ≠ im → a < sz → gi (Int32.toNatClampNeg k) ≠ some a → Mq14_ a = M a := fun a hA h0 h1 h2 => (hfr a h0).trans (hF a hA h0 h1 h2)
    refine lv_aload_n hx hb dX9_image_33 rfl (lv_at hl 0 rfl) ?_
    refine xg hC hK hH flX9_16 hc_ro rfl dX9_image_34 ?_
    refine lv_iload_n hx hb dX9_image_37 rfl (lv_at hl 1 rfl) ?_
    refine xqld (ck := 6) hC hK hH rfl hc_im (iIn (by omega) (by omega)) dX9_image_38 ?_
    refine lv_qr (upS _ _ _) ?_
    refine lv_aload_n hx hb dX9_image_39 rfl (lv_at hl 0 rfl) ?_
    refine xg hC hK hH flX9_12 hc_ro rfl dX9_image_40 ?_
    refine goV hK hH (runV (As := [.ref w]) (rest := []) hC hK hH (c_X8_copy hc_qq6_ hn_qq6_ hc_w hn_w hc_bsq11_ hc_bs ht_cs ht_bs ht_tp t_csq10_ t_bsq11_ t_tpq12_ (by omega) (by omega) (by omega) hg h_Fgq13_ n_qq6__w n_w_qq6_) mlX9_343 (rcvM hK hH hc_qq6_ rfl) ⟨⟨Nat.le_of_ble_eq_true rfl, Nat.le_of_ble_eq_true rfl⟩, Nat.le_of_ble_eq_true rfl, Nat.le_of_ble_eq_true rfl⟩ rfl hl.1 rfl (Nat.le_of_ble_eq_true rfl) dX9_image_43) (fun Mq15_ Tq16_ Hq_ lcq_ hP hz hH => ?_)
    try dsimp only at hP
    obtain ⟨(hx_qq6_), eT, hfr⟩ := hP
    have eT := eT.symm; subst eT
    have hc_ro : Mq15_ ro = some (.inr (7, [.ref w, .ref im, .ref rd, .ref rc, .ref cu])) := (hfr ro (Or.inl hn_ro) n_ro_qq6_).trans hc_ro
    have hc_w : Mq15_ w = some (.inr (6, [.int td, .int gd, .int bc, .int py, .int rf, .int lt, .int tl, .int fp, .ref cs, .ref bs, .ref tp])) := (hfr w (Or.inl hn_w) n_w_qq6_).trans hc_w
    have hc_bs : Mq15_ bs = some (.inl (kA 5, 4, .inr (.inr (.inr (.inr g))))) := (hfr bs (Or.inr ht_bs) n_bs_qq6_).trans hc_bs
    have hc_im : Mq15_ im = some (.inl (kA 6, 3, .inr (.inr (.inr (.inr (va_up gi (Int32.toNatClampNeg k) (some qq6_))))))) := (hfr im (Or.inl hn_im) n_im_qq6_).trans hc_im
    have hc_qq6_ : Mq15_ qq6_ = some (.inr (6, [.int td, .int gd, .int bc, .int py, .int rf, .int lt, .int tl, .int fp, .ref csq10_, .ref bsq11_, .ref tpq12_])) := hx_qq6_
    have hc_bsq11_ : Mq15_ bsq11_ = some (.inl (kA 5, 4, .inr (.inr (.inr (.inr Fgq13_))))) := (hfr bsq11_ (Or.inr t_bsq11_) n_bsq11__qq6_).trans hc_bsq11_
    have hF : ∀ a, FrA T a → a ≠ im → a < sz → gi (Int32.toNatClampNeg k) ≠ some a → Mq15_ a = M a := fun a hA h0 h1 h2 => (hfr a (FrA.mv (hTF a h0 h1) hA) (Nat.ne_of_lt (Nat.lt_of_lt_of_le h1 g_qq6_))).trans (hF a hA h0 h1 h2)
    refine lv_iconst (v := 1) hx hb dX9_image_46 (by decide) ?_
    have hI : ImgOK kA Mq15_ Tq9_ w qq6_ tl := ⟨n_qq6__w, hn_qq6_, csq10_, bsq11_, tpq12_, td, gd, bc, py, rf, lt, fp, Fgq13_, hc_qq6_, hc_bsq11_, t_csq10_, t_bsq11_, t_tpq12_, by omega, by omega, by omega, h_Fgq13_⟩
    have hI2 : ImsOK kA Mq15_ Tq9_ w (va_up gi (Int32.toNatClampNeg k) (some qq6_)) (upd ti (Int32.toNatClampNeg k) tl) := him.put hkn hT_w hTT (fun a ha hW => hTF a (fun z => by rw [z] at hW; rcases hW _ hM_im with ⟨fs, h⟩ | ⟨g9, h⟩ <;> simp at h) (hlt0 a ha)) (fun a hA ha hW hw2 h2 => hF a hA (fun z => by rw [z] at hW; rcases hW _ hM_im with ⟨fs, h⟩ | ⟨g9, h⟩ <;> simp at h) (hlt0 a ha) h2) hI (fun j p hj hjk hp => fun z => by have h9 := him.1 j p hj hp; obtain ⟨-, -, a1, a2, a3, a4, a5, a6, a7, a8, a9, b1, b2, h3, -⟩ := h9; have h8 := hlt0 p (by rw [h3]; simp); rw [z] at h8; exact absurd h8 (Nat.not_lt.mpr g_qq6_))
    exact ret_z hC hr hlk hK hH (Or.inr rfl) (⟨va_up gi (Int32.toNatClampNeg k) (some qq6_), upd ti (Int32.toNatClampNeg k) tl, hc_im, hn_im, hI2, Or.inl ⟨by omega, rfl, ⟨_, rfl⟩, rfl⟩, hTT, hTF, hF⟩) (Nat.le_of_ble_eq_true rfl) (Nat.le_of_ble_eq_true rfl) dX9_image_47
  · skip
    obtain ⟨n_q_w, hn_q, icsq18_, ibsq19_, itpq20_, itdq21_, igdq22_, ibcq23_, ipyq24_, irfq25_, iltq26_, ifpq27_, igq28_, hc_q, hc_ibsq19_, t_icsq18_, t_ibsq19_, t_itpq20_, htd_q, hbc_q, htl_q, hg_igq28_⟩ := him.1 _ _ hkn hgk
    have n_w_q : w ≠ q := Ne.symm n_q_w
    obtain ⟨tqq29_, e_tqq29_⟩ : ∃ t : Int32, t = ti (Int32.toNatClampNeg k) := ⟨_, rfl⟩
    rw [← e_tqq29_] at hc_q htl_q
    have n_ro_q : ro ≠ q := neM hc_ro hc_q (by simp)
    have n_ro_ibsq19_ : ro ≠ ibsq19_ := neM hc_ro hc_ibsq19_ (by simp)
    have n_w_ibsq19_ : w ≠ ibsq19_ := neM hc_w hc_ibsq19_ (by simp)
    have n_bs_q : bs ≠ q := neM hc_bs hc_q (by simp)
    have n_im_q : im ≠ q := neM hc_im hc_q (by simp)
    have n_im_ibsq19_ : im ≠ ibsq19_ := neM hc_im hc_ibsq19_ (by simp)
    have n_q_ro : q ≠ ro := neM hc_q hc_ro (by simp)
    have n_q_bs : q ≠ bs := neM hc_q hc_bs (by simp)
    have n_q_im : q ≠ im := neM hc_q hc_im (by simp)
    have n_q_ibsq19_ : q ≠ ibsq19_ := neM hc_q hc_ibsq19_ (by simp)
    have n_ibsq19__ro : ibsq19_ ≠ ro := neM hc_ibsq19_ hc_ro (by simp)
    have n_ibsq19__w : ibsq19_ ≠ w := neM hc_ibsq19_ hc_w (by simp)
    have n_ibsq19__im : ibsq19_ ≠ im := neM hc_ibsq19_ hc_im (by simp)
    have n_ibsq19__q : ibsq19_ ≠ q := neM hc_ibsq19_ hc_q (by simp)
    refine lv_iload_n hx hb dX9_image_0 rfl (lv_at hl 1 rfl) ?_
    refine jif_lt (tgt := 9) hx hb dX9_image_1 (by decide) (fun cq30_ => absurd cq30_ (by have := iRg k; have : (0 : Int32).toInt = 0 := rfl; omega)) (fun cq30_ => ?_)
    have cq30_ : 0 ≤ k.toInt := cq30_
    refine lv_iload_n hx hb dX9_image_4 rfl (lv_at hl 1 rfl) ?_
    refine lv_iconst (v := 3) hx hb dX9_image_5 (by decide) ?_
    refine jic_lt (tgt := 11) hx hb dX9_image_6 (by decide) (fun cq31_ => ?_) (fun cq31_ => absurd cq31_ (by have := iRg k; have : (3 : Int32).toInt = 3 := rfl; omega))
    have cq31_ : k.toInt < 3 := cq31_
    refine lv_aload_n hx hb dX9_image_11 rfl (lv_at hl 0 rfl) ?_
    refine xg hC hK hH flX9_16 hc_ro rfl dX9_image_12 ?_
    refine lv_iload_n hx hb dX9_image_15 rfl (lv_at hl 1 rfl) ?_
    refine xqld (ck := 6) hC hK hH rfl hc_im (iIn (by omega) (by omega)) dX9_image_16 ?_
    refine lv_qr hgk ?_
    refine lv_ifnonnull (tgt := 33) hx hb dX9_image_17 (by decide) ?_
    refine lv_aload_n hx hb dX9_image_33 rfl (lv_at hl 0 rfl) ?_
    refine xg hC hK hH flX9_16 hc_ro rfl dX9_image_34 ?_
    refine lv_iload_n hx hb dX9_image_37 rfl (lv_at hl 1 rfl) ?_
    refine xqld (ck := 6) hC hK hH rfl hc_im (iIn (by omega) (by omega)) dX9_image_38 ?_
    refine lv_qr hgk ?_
    refine lv_aload_n hx hb dX9_image_39 rfl (lv_at hl 0 rfl) ?_
    refine xg hC hK hH flX9_12 hc_ro rfl dX9_image_40 ?_
    refine goV hK hH (runV (As := [.ref w]) (rest := []) hC hK hH (c_X8_copy hc_q hn_q hc_w hn_w hc_ibsq19_ hc_bs ht_cs ht_bs ht_tp t_icsq18_ t_ibsq19_ t_itpq20_ (by omega) (by omega) (by omega) hg hg_igq28_ n_q_w n_w_q) mlX9_343 (rcvM hK hH hc_q rfl) ⟨⟨Nat.le_of_ble_eq_true rfl, Nat.le_of_ble_eq_true rfl⟩, Nat.le_of_ble_eq_true rfl, Nat.le_of_ble_eq_true rfl⟩ rfl hl.1 rfl (Nat.le_of_ble_eq_true rfl) dX9_image_43) (fun Mq32_ Tq33_ Hq_ lcq_ hP hz hH => ?_)
    try dsimp only at hP
    obtain ⟨(hx_q), eT, hfr⟩ := hP
    have eT := eT.symm; subst eT
    have hc_ro : Mq32_ ro = some (.inr (7, [.ref w, .ref im, .ref rd, .ref rc, .ref cu])) := (hfr ro (Or.inl hn_ro) n_ro_q).trans hc_ro
    have hc_w : Mq32_ w = some (.inr (6, [.int td, .int gd, .int bc, .int py, .int rf, .int lt, .int tl, .int fp, .ref cs, .ref bs, .ref tp])) := (hfr w (Or.inl hn_w) n_w_q).trans hc_w
    have hc_bs : Mq32_ bs = some (.inl (kA 5, 4, .inr (.inr (.inr (.inr g))))) := (hfr bs (Or.inr ht_bs) n_bs_q).trans hc_bs
    have hc_im : Mq32_ im = some (.inl (kA 6, 3, .inr (.inr (.inr (.inr gi))))) := (hfr im (Or.inl hn_im) n_im_q).trans hc_im
    have hc_q : Mq32_ q = some (.inr (6, [.int td, .int gd, .int bc, .int py, .int rf, .int lt, .int tl, .int fp, .ref icsq18_, .ref ibsq19_, .ref itpq20_])) := hx_q
    have hc_ibsq19_ : Mq32_ ibsq19_ = some (.inl (kA 5, 4, .inr (.inr (.inr (.inr igq28_))))) := (hfr ibsq19_ (Or.inr t_ibsq19_) n_ibsq19__q).trans hc_ibsq19_
    have hF : ∀ a, FrA T a → a ≠ im → a < sz → gi (Int32.toNatClampNeg k) ≠ some a → Mq32_ a = M a := fun a hA h0 h1 h2 => (hfr a (FrA.mv (hTF a h0 h1) hA) (fun z => h2 (by rw [hgk, z]))).trans (hF a hA h0 h1 h2)
    refine lv_iconst (v := 1) hx hb dX9_image_46 (by decide) ?_
    have hI : ImgOK kA Mq32_ T w q tl := ⟨n_q_w, hn_q, icsq18_, ibsq19_, itpq20_, td, gd, bc, py, rf, lt, fp, igq28_, hc_q, hc_ibsq19_, t_icsq18_, t_ibsq19_, t_itpq20_, by omega, by omega, by omega, hg_igq28_⟩
    have hI2 : ImsOK kA Mq32_ T w (va_up gi (Int32.toNatClampNeg k) (some q)) (upd ti (Int32.toNatClampNeg k) tl) := him.put hkn hT_w hTT (fun a ha hW => hTF a (fun z => by rw [z] at hW; rcases hW _ hM_im with ⟨fs, h⟩ | ⟨g9, h⟩ <;> simp at h) (hlt0 a ha)) (fun a hA ha hW hw2 h2 => hF a hA (fun z => by rw [z] at hW; rcases hW _ hM_im with ⟨fs, h⟩ | ⟨g9, h⟩ <;> simp at h) (hlt0 a ha) h2) hI (fun j p hj hjk hp => fun z => hjk (him.2 _ _ p hj hkn hp (by rw [z]; exact hgk)))
    rw [va_up_same hgk] at hI2
    exact ret_z hC hr hlk hK hH (Or.inr rfl) (⟨gi, upd ti (Int32.toNatClampNeg k) tl, hc_im, hn_im, hI2, Or.inl ⟨by omega, rfl, ⟨q, (va_up_same hgk).symm⟩, rfl⟩, hTT, hTF, hF⟩) (Nat.le_of_ble_eq_true rfl) (Nat.le_of_ble_eq_true rfl) dX9_image_47
