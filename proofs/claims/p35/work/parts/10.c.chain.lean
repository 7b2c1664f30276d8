theorem cpX2_71 : CPL RX2 71 := ⟨TB_t 560 (by decide +kernel) rfl, TB_t 562 (by decide +kernel) rfl, TB_t 561 (by decide +kernel) rfl, TB_t 19 (by decide +kernel) rfl⟩
theorem op2 {kA : Nat → ClassId} {T : mT} {fs : List Value} (h : conf kA T 2 (.inr (0, fs))) : ∃ x0 : Int32, ((-2147483648 : Int) ≤ x0.toInt ∧ x0.toInt ≤ 2147483647) ∧ ∃ x1 : Int32, ((-2147483648 : Int) ≤ x1.toInt ∧ x1.toInt ≤ 2147483647) ∧ ∃ x2 : Int32, ((-2147483648 : Int) ≤ x2.toInt ∧ x2.toInt ≤ 2147483647) ∧ ∃ x3 : Int32, ((-2147483648 : Int) ≤ x3.toInt ∧ x3.toInt ≤ 2147483647) ∧ ∃ x4 : Int32, ((-2147483648 : Int) ≤ x4.toInt ∧ x4.toInt ≤ 2147483647) ∧ ∃ x5 : Int32, ((0 : Int) ≤ x5.toInt ∧ x5.toInt ≤ 7) ∧ ∃ x6 : Int32, ((-2147483648 : Int) ≤ x6.toInt ∧ x6.toInt ≤ 2147483647) ∧ ∃ x7 : Int32, ((0 : Int) ≤ x7.toInt ∧ x7.toInt ≤ 12) ∧ ∃ x8 : Int32, ((0 : Int) ≤ x8.toInt ∧ x8.toInt ≤ 12) ∧ ∃ x9 : Int32, ((0 : Int) ≤ x9.toInt ∧ x9.toInt ≤ 1) ∧ ∃ x10 : Int32, ((0 : Int) ≤ x10.toInt ∧ x10.toInt ≤ 1) ∧ ∃ x11 : Int32, ((0 : Int) ≤ x11.toInt ∧ x11.toInt ≤ 1) ∧ ∃ x12 : Nat, T x12 = some 4 ∧ ∃ x13 : Nat, T x13 = some 1 ∧ ∃ x14 : Nat, T x14 = some 1 ∧ ∃ x15 : Nat, T x15 = some 5 ∧ ∃ x16 : Nat, T x16 = some 5 ∧ ∃ x17 : Nat, T x17 = some 5 ∧ ∃ x18 : Nat, T x18 = some 5 ∧ fs = [.int x0, .int x1, .int x2, .int x3, .int x4, .int x5, .int x6, .int x7, .int x8, .int x9, .int x10, .int x11, .ref x12, .ref x13, .ref x14, .ref x15, .ref x16, .ref x17, .ref x18] := by
  unfold conf at h
  obtain ⟨fs', h1, h2, h3⟩ := h
  cases h1
  match fs, h2, h3 with
  | [a0, a1, a2, a3, a4, a5, a6, a7, a8, a9, a10, a11, a12, a13, a14, a15, a16, a17, a18], _, h3 =>
    obtain ⟨v0, w0, x0, e0, r0⟩ := h3 0 _ rfl
    cases w0
    subst e0
    obtain ⟨v1, w1, x1, e1, r1⟩ := h3 1 _ rfl
    cases w1
    subst e1
    obtain ⟨v2, w2, x2, e2, r2⟩ := h3 2 _ rfl
    cases w2
    subst e2
    obtain ⟨v3, w3, x3, e3, r3⟩ := h3 3 _ rfl
    cases w3
    subst e3
    obtain ⟨v4, w4, x4, e4, r4⟩ := h3 4 _ rfl
    cases w4
    subst e4
    obtain ⟨v5, w5, x5, e5, r5⟩ := h3 5 _ rfl
    cases w5
    subst e5
    obtain ⟨v6, w6, x6, e6, r6⟩ := h3 6 _ rfl
    cases w6
    subst e6
    obtain ⟨v7, w7, x7, e7, r7⟩ := h3 7 _ rfl
    cases w7
    subst e7
    obtain ⟨v8, w8, x8, e8, r8⟩ := h3 8 _ rfl
    cases w8
    subst e8
    obtain ⟨v9, w9, x9, e9, r9⟩ := h3 9 _ rfl
    cases w9
    subst e9
    obtain ⟨v10, w10, x10, e10, r10⟩ := h3 10 _ rfl
    cases w10
    subst e10
    obtain ⟨v11, w11, x11, e11, r11⟩ := h3 11 _ rfl
    cases w11
    subst e11
    obtain ⟨v12, w12, x12, e12, r12⟩ := h3 12 _ rfl
    cases w12
    subst e12
    obtain ⟨v13, w13, x13, e13, r13⟩ := h3 13 _ rfl
    cases w13
    subst e13
    obtain ⟨v14, w14, x14, e14, r14⟩ := h3 14 _ rfl
    cases w14
    subst e14
    obtain ⟨v15, w15, x15, e15, r15⟩ := h3 15 _ rfl
    cases w15
    subst e15
    obtain ⟨v16, w16, x16, e16, r16⟩ := h3 16 _ rfl
    cases w16
    subst e16
    obtain ⟨v17, w17, x17, e17, r17⟩ := h3 17 _ rfl
    cases w17
    subst e17
    obtain ⟨v18, w18, x18, e18, r18⟩ := h3 18 _ rfl
    cases w18
    subst e18
    exact ⟨x0, r0, x1, r1, x2, r2, x3, r3, x4, r4, x5, r5, x6, r6, x7, r7, x8, r8, x9, r9, x10, r10, x11, r11, x12, r12, x13, r13, x14, r14, x15, r15, x16, r16, x17, r17, x18, r18, rfl⟩

set_option maxHeartbeats 4000000 in
set_option maxRecDepth 100000 in
theorem c_X6_forged {l : Launch} {D : va_G} {kA : Nat → ClassId} {M : mM} {T : mT} {sz : Nat} {h : Nat} (ht_h : T h = some 0) : mCi l yX6_forged cX6_forged 1 (some .boolean) 0 0 0 D kA M T sz [.ref h] (fun r u => ((r = 1) ∨ (r = 0)) ∧ u.2 = T ∧ u.1 = M) := by
  unfold mCi
  refine start_W (by decide) (Nat.le_of_ble_eq_true rfl) ?_
  intro p e s m below meth c ls hC hr hlk hnm hK hH hsz hl
  have hx := hC.1
  have hb := hC.2.1
  have hl : lv_has ls 1 [(0, .ref h)] := hl
  refine lv_aload_n hx hb dX6_forged_0 rfl (lv_at hl 0 rfl) ?_
  refine tg hC hK hH flX6_9 ht_h rfl rfl dX6_forged_1 (fun xq1_ l_xq1_ g_xq1_ => ?_)
  refine lv_iconst (v := -1) hx hb dX6_forged_4 (by decide) ?_
  refine jic_eq (tgt := 23) hx hb dX6_forged_5 (by decide) (fun cq2_ => ?_) (fun cq2_ => ?_)
  · skip
    have cq2_ : xq1_.toInt = (-1) := cq2_
    refine lv_iconst (v := 0) hx hb dX6_forged_23 (by decide) ?_
    exact ret_z hC hr hlk hK hH (by first | exact Or.inl rfl | exact Or.inr rfl | assumption) (⟨Or.inr (rfl), rfl, rfl⟩) (Nat.le_of_ble_eq_true rfl) (Nat.le_of_ble_eq_true rfl) dX6_forged_24
  · skip
    have cq2_ : xq1_.toInt ≠ (-1) := cq2_
    refine lv_aload_n hx hb dX6_forged_8 rfl (lv_at hl 0 rfl) ?_
    refine tg hC hK hH flX6_9 ht_h rfl rfl dX6_forged_9 (fun xq3_ l_xq3_ g_xq3_ => ?_)
    refine lv_aload_n hx hb dX6_forged_12 rfl (lv_at hl 0 rfl) ?_
    refine tg hC hK hH flX6_15 ht_h rfl rfl dX6_forged_13 (fun xq4_ l_xq4_ g_xq4_ => ?_)
    refine jic_eq (tgt := 23) hx hb dX6_forged_16 (by decide) (fun cq5_ => ?_) (fun cq5_ => ?_)
    · skip
      have cq5_ : xq3_.toInt = xq4_.toInt := cq5_
      refine lv_iconst (v := 0) hx hb dX6_forged_23 (by decide) ?_
      exact ret_z hC hr hlk hK hH (by first | exact Or.inl rfl | exact Or.inr rfl | assumption) (⟨Or.inr (rfl), rfl, rfl⟩) (Nat.le_of_ble_eq_true rfl) (Nat.le_of_ble_eq_true rfl) dX6_forged_24
    · skip
      have cq5_ : xq3_.toInt ≠ xq4_.toInt := cq5_
      refine lv_iconst (v := 1) hx hb dX6_forged_19 (by decide) ?_
      refine lv_goto (tgt := 24) hx hb dX6_forged_20 (by decide) ?_
      exact ret_z hC hr hlk hK hH (by first | exact Or.inl rfl | exact Or.inr rfl | assumption) (⟨Or.inl (rfl), rfl, rfl⟩) (Nat.le_of_ble_eq_true rfl) (Nat.le_of_ble_eq_true rfl) dX6_forged_24
set_option maxHeartbeats 4000000 in
set_option maxRecDepth 100000 in
theorem c_X6_signed {l : Launch} {D : va_G} {kA : Nat → ClassId} {M : mM} {T : mT} {sz : Nat} {h : Nat} (ht_h : T h = some 0) : mCi l yX6_signed cX6_signed 1 (some .boolean) 0 0 0 D kA M T sz [.ref h] (fun r u => ((r = 1) ∨ (r = 0)) ∧ u.2 = T ∧ u.1 = M) := by
  unfold mCi
  refine start_W (by decide) (Nat.le_of_ble_eq_true rfl) ?_
  intro p e s m below meth c ls hC hr hlk hnm hK hH hsz hl
  have hx := hC.1
  have hb := hC.2.1
  have hl : lv_has ls 1 [(0, .ref h)] := hl
  refine lv_aload_n hx hb dX6_signed_0 rfl (lv_at hl 0 rfl) ?_
  refine tg hC hK hH flX6_9 ht_h rfl rfl dX6_signed_1 (fun xq1_ l_xq1_ g_xq1_ => ?_)
  refine lv_iconst (v := -1) hx hb dX6_signed_4 (by decide) ?_
  refine jic_eq (tgt := 23) hx hb dX6_signed_5 (by decide) (fun cq2_ => ?_) (fun cq2_ => ?_)
  · skip
    have cq2_ : xq1_.toInt = (-1) := cq2_
    refine lv_iconst (v := 0) hx hb dX6_signed_23 (by decide) ?_
    exact ret_z hC hr hlk hK hH (by first | exact Or.inl rfl | exact Or.inr rfl | assumption) (⟨Or.inr (rfl), rfl, rfl⟩) (Nat.le_of_ble_eq_true rfl) (Nat.le_of_ble_eq_true rfl) dX6_signed_24
  · skip
    have cq2_ : xq1_.toInt ≠ (-1) := cq2_
    refine lv_aload_n hx hb dX6_signed_8 rfl (lv_at hl 0 rfl) ?_
    refine tg hC hK hH flX6_9 ht_h rfl rfl dX6_signed_9 (fun xq3_ l_xq3_ g_xq3_ => ?_)
    refine lv_aload_n hx hb dX6_signed_12 rfl (lv_at hl 0 rfl) ?_
    refine tg hC hK hH flX6_15 ht_h rfl rfl dX6_signed_13 (fun xq4_ l_xq4_ g_xq4_ => ?_)
    refine jic_ne (tgt := 23) hx hb dX6_signed_16 (by decide) (fun cq5_ => ?_) (fun cq5_ => ?_)
    · skip
      have cq5_ : xq3_.toInt ≠ xq4_.toInt := cq5_
      refine lv_iconst (v := 0) hx hb dX6_signed_23 (by decide) ?_
      exact ret_z hC hr hlk hK hH (by first | exact Or.inl rfl | exact Or.inr rfl | assumption) (⟨Or.inr (rfl), rfl, rfl⟩) (Nat.le_of_ble_eq_true rfl) (Nat.le_of_ble_eq_true rfl) dX6_signed_24
    · skip
      have cq5_ : xq3_.toInt = xq4_.toInt := cq5_
      refine lv_iconst (v := 1) hx hb dX6_signed_19 (by decide) ?_
      refine lv_goto (tgt := 24) hx hb dX6_signed_20 (by decide) ?_
      exact ret_z hC hr hlk hK hH (by first | exact Or.inl rfl | exact Or.inr rfl | assumption) (⟨Or.inl (rfl), rfl, rfl⟩) (Nat.le_of_ble_eq_true rfl) (Nat.le_of_ble_eq_true rfl) dX6_signed_24
set_option maxHeartbeats 4000000 in
set_option maxRecDepth 100000 in
theorem c_X6_copy {l : Launch} {D : va_G} {kA : Nat → ClassId} {M : mM} {T : mT} {sz : Nat} {h o : Nat} (ht_h : T h = some 0) (ht_o : T o = some 0) : mCv l yX6_copy cX6_copy 2 0 0 0 D kA M T sz [.ref h, .ref o] (fun u => (True) ∧ u.2 = T ∧ (∀ q, FrK T q → u.1 q = M q)) := by
  unfold mCv
  refine start_W (by decide) (Nat.le_of_ble_eq_true rfl) ?_
  intro p e s m below meth c ls hC hr hlk hnm hK hH hsz hl
  have hx := hC.1
  have hb := hC.2.1
  have hl : lv_has ls 2 [(0, .ref h), (1, .ref o)] := hl
  have hF : ∀ q, FrK T q → M q = M q := fun q _  => rfl
  refine lv_aload_n hx hb dX6_copy_0 rfl (lv_at hl 0 rfl) ?_
  refine lv_aload_n hx hb dX6_copy_1 rfl (lv_at hl 1 rfl) ?_
  refine tg hC hK hH flX6_18 ht_o rfl rfl dX6_copy_2 (fun xq1_ l_xq1_ g_xq1_ => ?_)
  refine tpu hC hK hH flX6_18 ht_h rfl rfl (iRg _).1 (iRg _).2 rfl rfl dX6_copy_5 (fun Hq_ lcq_ Mq2_ _ hfr hH => ?_)
  have hF : ∀ q, FrK T q → Mq2_ q = M q := fun q hq  => (hfr q (neF hq ht_h (by decide))).trans (hF q hq )
  refine lv_aload_n hx hb dX6_copy_8 rfl (lv_at hl 0 rfl) ?_
  refine lv_aload_n hx hb dX6_copy_9 rfl (lv_at hl 1 rfl) ?_
  refine tg hC hK hH flX6_15 ht_o rfl rfl dX6_copy_10 (fun xq3_ l_xq3_ g_xq3_ => ?_)
  refine tpu hC hK hH flX6_15 ht_h rfl rfl (iRg _).1 (iRg _).2 rfl rfl dX6_copy_13 (fun Hq_ lcq_ Mq4_ _ hfr hH => ?_)
  have hF : ∀ q, FrK T q → Mq4_ q = M q := fun q hq  => (hfr q (neF hq ht_h (by decide))).trans (hF q hq )
  refine lv_aload_n hx hb dX6_copy_16 rfl (lv_at hl 0 rfl) ?_
  refine lv_aload_n hx hb dX6_copy_17 rfl (lv_at hl 1 rfl) ?_
  refine tg hC hK hH flX6_9 ht_o rfl rfl dX6_copy_18 (fun xq5_ l_xq5_ g_xq5_ => ?_)
  refine tpu hC hK hH flX6_9 ht_h rfl rfl (iRg _).1 (iRg _).2 rfl rfl dX6_copy_21 (fun Hq_ lcq_ Mq6_ _ hfr hH => ?_)
  have hF : ∀ q, FrK T q → Mq6_ q = M q := fun q hq  => (hfr q (neF hq ht_h (by decide))).trans (hF q hq )
  refine lv_aload_n hx hb dX6_copy_24 rfl (lv_at hl 0 rfl) ?_
  refine lv_aload_n hx hb dX6_copy_25 rfl (lv_at hl 1 rfl) ?_
  refine tg hC hK hH flX6_21 ht_o rfl rfl dX6_copy_26 (fun xq7_ l_xq7_ g_xq7_ => ?_)
  have l_xq7_ : (0 : Int) ≤ xq7_.toInt := l_xq7_
  have g_xq7_ : xq7_.toInt ≤ 7 := g_xq7_
  refine tpu hC hK hH flX6_21 ht_h rfl rfl (by show (0 : Int) ≤ xq7_.toInt; omega) (by show xq7_.toInt ≤ (7 : Int); omega) rfl rfl dX6_copy_29 (fun Hq_ lcq_ Mq8_ _ hfr hH => ?_)
  have hF : ∀ q, FrK T q → Mq8_ q = M q := fun q hq  => (hfr q (neF hq ht_h (by decide))).trans (hF q hq )
  refine lv_aload_n hx hb dX6_copy_32 rfl (lv_at hl 0 rfl) ?_
  refine lv_aload_n hx hb dX6_copy_33 rfl (lv_at hl 1 rfl) ?_
  refine tg hC hK hH flX6_24 ht_o rfl rfl dX6_copy_34 (fun xq9_ l_xq9_ g_xq9_ => ?_)
  refine tpu hC hK hH flX6_24 ht_h rfl rfl (iRg _).1 (iRg _).2 rfl rfl dX6_copy_37 (fun Hq_ lcq_ Mq10_ _ hfr hH => ?_)
  have hF : ∀ q, FrK T q → Mq10_ q = M q := fun q hq  => (hfr q (neF hq ht_h (by decide))).trans (hF q hq )
  refine lv_aload_n hx hb dX6_copy_40 rfl (lv_at hl 0 rfl) ?_
  refine lv_aload_n hx hb dX6_copy_41 rfl (lv_at hl 1 rfl) ?_
  refine tg hC hK hH flX6_27 ht_o rfl rfl dX6_copy_42 (fun xq11_ l_xq11_ g_xq11_ => ?_)
  refine tpu hC hK hH flX6_27 ht_h rfl rfl (iRg _).1 (iRg _).2 rfl rfl dX6_copy_45 (fun Hq_ lcq_ Mq12_ _ hfr hH => ?_)
  have hF : ∀ q, FrK T q → Mq12_ q = M q := fun q hq  => (hfr q (neF hq ht_h (by decide))).trans (hF q hq )
  refine lv_aload_n hx hb dX6_copy_48 rfl (lv_at hl 0 rfl) ?_
  refine lv_aload_n hx hb dX6_copy_49 rfl (lv_at hl 1 rfl) ?_
  refine tg hC hK hH flX6_30 ht_o rfl rfl dX6_copy_50 (fun xq13_ l_xq13_ g_xq13_ => ?_)
  refine tpu hC hK hH flX6_30 ht_h rfl rfl (iRg _).1 (iRg _).2 rfl rfl dX6_copy_53 (fun Hq_ lcq_ Mq14_ _ hfr hH => ?_)
  have hF : ∀ q, FrK T q → Mq14_ q = M q := fun q hq  => (hfr q (neF hq ht_h (by decide))).trans (hF q hq )
  refine lv_aload_n hx hb dX6_copy_56 rfl (lv_at hl 0 rfl) ?_
  refine lv_aload_n hx hb dX6_copy_57 rfl (lv_at hl 1 rfl) ?_
  refine tg hC hK hH flX6_33 ht_o rfl rfl dX6_copy_58 (fun xq15_ l_xq15_ g_xq15_ => ?_)
  refine tpu hC hK hH flX6_33 ht_h rfl rfl (iRg _).1 (iRg _).2 rfl rfl dX6_copy_61 (fun Hq_ lcq_ Mq16_ _ hfr hH => ?_)
  have hF : ∀ q, FrK T q → Mq16_ q = M q := fun q hq  => (hfr q (neF hq ht_h (by decide))).trans (hF q hq )
  refine lv_aload_n hx hb dX6_copy_64 rfl (lv_at hl 0 rfl) ?_
  refine lv_aload_n hx hb dX6_copy_65 rfl (lv_at hl 1 rfl) ?_
  refine tg hC hK hH flX6_36 ht_o rfl rfl dX6_copy_66 (fun xq17_ l_xq17_ g_xq17_ => ?_)
  have l_xq17_ : (0 : Int) ≤ xq17_.toInt := l_xq17_
  have g_xq17_ : xq17_.toInt ≤ 1 := g_xq17_
  refine tpu hC hK hH flX6_36 ht_h rfl rfl (zl (z01 l_xq17_ g_xq17_)) (zh (z01 l_xq17_ g_xq17_)) (nz (z01 l_xq17_ g_xq17_)) (fz (z01 l_xq17_ g_xq17_)) dX6_copy_69 (fun Hq_ lcq_ Mq18_ _ hfr hH => ?_)
  have hF : ∀ q, FrK T q → Mq18_ q = M q := fun q hq  => (hfr q (neF hq ht_h (by decide))).trans (hF q hq )
  refine lv_aload_n hx hb dX6_copy_72 rfl (lv_at hl 0 rfl) ?_
  refine lv_aload_n hx hb dX6_copy_73 rfl (lv_at hl 1 rfl) ?_
  refine tg hC hK hH flX6_40 ht_o rfl rfl dX6_copy_74 (fun xq19_ l_xq19_ g_xq19_ => ?_)
  have l_xq19_ : (0 : Int) ≤ xq19_.toInt := l_xq19_
  have g_xq19_ : xq19_.toInt ≤ 1 := g_xq19_
  refine tpu hC hK hH flX6_40 ht_h rfl rfl (zl (z01 l_xq19_ g_xq19_)) (zh (z01 l_xq19_ g_xq19_)) (nz (z01 l_xq19_ g_xq19_)) (fz (z01 l_xq19_ g_xq19_)) dX6_copy_77 (fun Hq_ lcq_ Mq20_ _ hfr hH => ?_)
  have hF : ∀ q, FrK T q → Mq20_ q = M q := fun q hq  => (hfr q (neF hq ht_h (by decide))).trans (hF q hq )
  refine lv_aload_n hx hb dX6_copy_80 rfl (lv_at hl 0 rfl) ?_
  refine lv_aload_n hx hb dX6_copy_81 rfl (lv_at hl 1 rfl) ?_
  refine tg hC hK hH flX6_43 ht_o rfl rfl dX6_copy_82 (fun xq21_ l_xq21_ g_xq21_ => ?_)
  have l_xq21_ : (0 : Int) ≤ xq21_.toInt := l_xq21_
  have g_xq21_ : xq21_.toInt ≤ 1 := g_xq21_
  refine tpu hC hK hH flX6_43 ht_h rfl rfl (zl (z01 l_xq21_ g_xq21_)) (zh (z01 l_xq21_ g_xq21_)) (nz (z01 l_xq21_ g_xq21_)) (fz (z01 l_xq21_ g_xq21_)) dX6_copy_85 (fun Hq_ lcq_ Mq22_ _ hfr hH => ?_)
  have hF : ∀ q, FrK T q → Mq22_ q = M q := fun q hq  => (hfr q (neF hq ht_h (by decide))).trans (hF q hq )
  exact ret_v hC hr hlk hK hH (⟨trivial, rfl, hF⟩) (Nat.le_of_ble_eq_true rfl) (Nat.le_of_ble_eq_true rfl) dX6_copy_88
set_option maxHeartbeats 4000000 in
set_option maxRecDepth 100000 in
theorem c_J7_fill_53178 {l : Launch} {D : va_G} {kA : Nat → ClassId} {M : mM} {T : mT} {sz : Nat} {a : Nat} {x : Int32} (ht_a : T a = some 3) : mCv l yJ7_fill_53178 cJ7_fill_53178 4 0 0 0 D kA M T sz [.ref a, .int x] (fun u => (True) ∧ u.2 = T ∧ (∀ q, FrK T q → u.1 q = M q)) := by
  unfold mCv
  refine start_W (by decide) (Nat.le_of_ble_eq_true rfl) ?_
  intro p e s m below meth c ls hC hr hlk hnm hK hH hsz hl
  have hx := hC.1
  have hb := hC.2.1
  have hl : lv_has ls 4 [(0, .ref a), (1, .int x)] := hl
  have hF : ∀ q, FrK T q → M q = M q := fun q _  => rfl
  refine lv_iconst (v := 0) hx hb dJ7_fill_53178_0 (by decide) ?_
  refine lv_istore_n (lv' := [(2, .int 0), (0, .ref a), (1, .int x)]) hx hb dJ7_fill_53178_1 rfl hl (by decide) rfl (fun ls hl => ?_)
  refine lv_aload_n hx hb dJ7_fill_53178_2 rfl (lv_at hl 1 rfl) ?_
  refine tlen (v := 8) hC hK hH ht_a rfl rfl rfl dJ7_fill_53178_3 ?_
  refine lv_istore_n (lv' := [(3, .int 8), (2, .int 0), (0, .ref a), (1, .int x)]) hx hb dJ7_fill_53178_4 rfl hl (by decide) rfl (fun ls hl => ?_)
  refine lv_iload_n hx hb dJ7_fill_53178_5 rfl (lv_at hl 1 rfl) ?_
  refine lv_iload_n hx hb dJ7_fill_53178_6 rfl (lv_at hl 0 rfl) ?_
  refine jic_ge (tgt := 20) hx hb dJ7_fill_53178_7 (by decide) (fun cq1_ => absurd cq1_ (by decide)) (fun cq1_ => ?_)
  refine lv_aload_n hx hb dJ7_fill_53178_10 rfl (lv_at hl 2 rfl) ?_
  refine lv_iload_n hx hb dJ7_fill_53178_11 rfl (lv_at hl 1 rfl) ?_
  refine lv_iload_n hx hb dJ7_fill_53178_12 rfl (lv_at hl 3 rfl) ?_
  refine tist (x := x) hC hK hH ht_a rfl (iIn (by decide) (by decide)) (iRg _).1 (iRg _).2 dJ7_fill_53178_13 (fun Hq_ lcq_ Mq2_ _ hfr hH => ?_)
  have hF : ∀ q, FrK T q → Mq2_ q = M q := fun q hq  => (hfr q (neF hq ht_a (by decide))).trans (hF q hq )
  refine lv_iinc (v := 1) (lv' := [(2, .int 1), (3, .int 8), (0, .ref a), (1, .int x)]) hx hb dJ7_fill_53178_14 hl (k := 1) rfl (by decide) (by decide) rfl (fun ls hl => ?_)
  refine lv_goto (tgt := 5) hx hb dJ7_fill_53178_17 (by decide) ?_
  refine lv_iload_n hx hb dJ7_fill_53178_5 rfl (lv_at hl 0 rfl) ?_
  refine lv_iload_n hx hb dJ7_fill_53178_6 rfl (lv_at hl 1 rfl) ?_
  refine jic_ge (tgt := 20) hx hb dJ7_fill_53178_7 (by decide) (fun cq3_ => absurd cq3_ (by decide)) (fun cq3_ => ?_)
  refine lv_aload_n hx hb dJ7_fill_53178_10 rfl (lv_at hl 2 rfl) ?_
  refine lv_iload_n hx hb dJ7_fill_53178_11 rfl (lv_at hl 0 rfl) ?_
  refine lv_iload_n hx hb dJ7_fill_53178_12 rfl (lv_at hl 3 rfl) ?_
  refine tist (x := x) hC hK hH ht_a rfl (iIn (by decide) (by decide)) (iRg _).1 (iRg _).2 dJ7_fill_53178_13 (fun Hq_ lcq_ Mq4_ _ hfr hH => ?_)
  have hF : ∀ q, FrK T q → Mq4_ q = M q := fun q hq  => (hfr q (neF hq ht_a (by decide))).trans (hF q hq )
  refine lv_iinc (v := 2) (lv' := [(2, .int 2), (3, .int 8), (0, .ref a), (1, .int x)]) hx hb dJ7_fill_53178_14 hl (k := 0) rfl (by decide) (by decide) rfl (fun ls hl => ?_)
  refine lv_goto (tgt := 5) hx hb dJ7_fill_53178_17 (by decide) ?_
  refine lv_iload_n hx hb dJ7_fill_53178_5 rfl (lv_at hl 0 rfl) ?_
  refine lv_iload_n hx hb dJ7_fill_53178_6 rfl (lv_at hl 1 rfl) ?_
  refine jic_ge (tgt := 20) hx hb dJ7_fill_53178_7 (by decide) (fun cq5_ => absurd cq5_ (by decide)) (fun cq5_ => ?_)
  refine lv_aload_n hx hb dJ7_fill_53178_10 rfl (lv_at hl 2 rfl) ?_
  refine lv_iload_n hx hb dJ7_fill_53178_11 rfl (lv_at hl 0 rfl) ?_
  refine lv_iload_n hx hb dJ7_fill_53178_12 rfl (lv_at hl 3 rfl) ?_
  refine tist (x := x) hC hK hH ht_a rfl (iIn (by decide) (by decide)) (iRg _).1 (iRg _).2 dJ7_fill_53178_13 (fun Hq_ lcq_ Mq6_ _ hfr hH => ?_)
  have hF : ∀ q, FrK T q → Mq6_ q = M q := fun q hq  => (hfr q (neF hq ht_a (by decide))).trans (hF q hq )
  refine lv_iinc (v := 3) (lv' := [(2, .int 3), (3, .int 8), (0, .ref a), (1, .int x)]) hx hb dJ7_fill_53178_14 hl (k := 0) rfl (by decide) (by decide) rfl (fun ls hl => ?_)
  refine lv_goto (tgt := 5) hx hb dJ7_fill_53178_17 (by decide) ?_
  refine lv_iload_n hx hb dJ7_fill_53178_5 rfl (lv_at hl 0 rfl) ?_
  refine lv_iload_n hx hb dJ7_fill_53178_6 rfl (lv_at hl 1 rfl) ?_
  refine jic_ge (tgt := 20) hx hb dJ7_fill_53178_7 (by decide) (fun cq7_ => absurd cq7_ (by decide)) (fun cq7_ => ?_)
  refine lv_aload_n hx hb dJ7_fill_53178_10 rfl (lv_at hl 2 rfl) ?_
  refine lv_iload_n hx hb dJ7_fill_53178_11 rfl (lv_at hl 0 rfl) ?_
  refine lv_iload_n hx hb dJ7_fill_53178_12 rfl (lv_at hl 3 rfl) ?_
  refine tist (x := x) hC hK hH ht_a rfl (iIn (by decide) (by decide)) (iRg _).1 (iRg _).2 dJ7_fill_53178_13 (fun Hq_ lcq_ Mq8_ _ hfr hH => ?_)
  have hF : ∀ q, FrK T q → Mq8_ q = M q := fun q hq  => (hfr q (neF hq ht_a (by decide))).trans (hF q hq )
  refine lv_iinc (v := 4) (lv' := [(2, .int 4), (3, .int 8), (0, .ref a), (1, .int x)]) hx hb dJ7_fill_53178_14 hl (k := 0) rfl (by decide) (by decide) rfl (fun ls hl => ?_)
  refine lv_goto (tgt := 5) hx hb dJ7_fill_53178_17 (by decide) ?_
  refine lv_iload_n hx hb dJ7_fill_53178_5 rfl (lv_at hl 0 rfl) ?_
  refine lv_iload_n hx hb dJ7_fill_53178_6 rfl (lv_at hl 1 rfl) ?_
  refine jic_ge (tgt := 20) hx hb dJ7_fill_53178_7 (by decide) (fun cq9_ => absurd cq9_ (by decide)) (fun cq9_ => ?_)
  refine lv_aload_n hx hb dJ7_fill_53178_10 rfl (lv_at hl 2 rfl) ?_
  refine lv_iload_n hx hb dJ7_fill_53178_11 rfl (lv_at hl 0 rfl) ?_
  refine lv_iload_n hx hb dJ7_fill_53178_12 rfl (lv_at hl 3 rfl) ?_
  refine tist (x := x) hC hK hH ht_a rfl (iIn (by decide) (by decide)) (iRg _).1 (iRg _).2 dJ7_fill_53178_13 (fun Hq_ lcq_ Mq10_ _ hfr hH => ?_)
  have hF : ∀ q, FrK T q → Mq10_ q = M q := fun q hq  => (hfr q (neF hq ht_a (by decide))).trans (hF q hq )
  refine lv_iinc (v := 5) (lv' := [(2, .int 5), (3, .int 8), (0, .ref a), (1, .int x)]) hx hb dJ7_fill_53178_14 hl (k := 0) rfl (by decide) (by decide) rfl (fun ls hl => ?_)
  refine lv_goto (tgt := 5) hx hb dJ7_fill_53178_17 (by decide) ?_
  refine lv_iload_n hx hb dJ7_fill_53178_5 rfl (lv_at hl 0 rfl) ?_
  refine lv_iload_n hx hb dJ7_fill_53178_6 rfl (lv_at hl 1 rfl) ?_
  refine jic_ge (tgt := 20) hx hb dJ7_fill_53178_7 (by decide) (fun cq11_ => absurd cq11_ (by decide)) (fun cq11_ => ?_)
  refine lv_aload_n hx hb dJ7_fill_53178_10 rfl (lv_at hl 2 rfl) ?_
  refine lv_iload_n hx hb dJ7_fill_53178_11 rfl (lv_at hl 0 rfl) ?_
  refine lv_iload_n hx hb dJ7_fill_53178_12 rfl (lv_at hl 3 rfl) ?_
  refine tist (x := x) hC hK hH ht_a rfl (iIn (by decide) (by decide)) (iRg _).1 (iRg _).2 dJ7_fill_53178_13 (fun Hq_ lcq_ Mq12_ _ hfr hH => ?_)
  have hF : ∀ q, FrK T q → Mq12_ q = M q := fun q hq  => (hfr q (neF hq ht_a (by decide))).trans (hF q hq )
  refine lv_iinc (v := 6) (lv' := [(2, .int 6), (3, .int 8), (0, .ref a), (1, .int x)]) hx hb dJ7_fill_53178_14 hl (k := 0) rfl (by decide) (by decide) rfl (fun ls hl => ?_)
  refine lv_goto (tgt := 5) hx hb dJ7_fill_53178_17 (by decide) ?_
  refine lv_iload_n hx hb dJ7_fill_53178_5 rfl (lv_at hl 0 rfl) ?_
  refine lv_iload_n hx hb dJ7_fill_53178_6 rfl (lv_at hl 1 rfl) ?_
  refine jic_ge (tgt := 20) hx hb dJ7_fill_53178_7 (by decide) (fun cq13_ => absurd cq13_ (by decide)) (fun cq13_ => ?_)
  refine lv_aload_n hx hb dJ7_fill_53178_10 rfl (lv_at hl 2 rfl) ?_
  refine lv_iload_n hx hb dJ7_fill_53178_11 rfl (lv_at hl 0 rfl) ?_
  refine lv_iload_n hx hb dJ7_fill_53178_12 rfl (lv_at hl 3 rfl) ?_
  refine tist (x := x) hC hK hH ht_a rfl (iIn (by decide) (by decide)) (iRg _).1 (iRg _).2 dJ7_fill_53178_13 (fun Hq_ lcq_ Mq14_ _ hfr hH => ?_)
  have hF : ∀ q, FrK T q → Mq14_ q = M q := fun q hq  => (hfr q (neF hq ht_a (by decide))).trans (hF q hq )
  refine lv_iinc (v := 7) (lv' := [(2, .int 7), (3, .int 8), (0, .ref a), (1, .int x)]) hx hb dJ7_fill_53178_14 hl (k := 0) rfl (by decide) (by decide) rfl (fun ls hl => ?_)
  refine lv_goto (tgt := 5) hx hb dJ7_fill_53178_17 (by decide) ?_
  refine lv_iload_n hx hb dJ7_fill_53178_5 rfl (lv_at hl 0 rfl) ?_
  refine lv_iload_n hx hb dJ7_fill_53178_6 rfl (lv_at hl 1 rfl) ?_
  refine jic_ge (tgt := 20) hx hb dJ7_fill_53178_7 (by decide) (fun cq15_ => absurd cq15_ (by decide)) (fun cq15_ => ?_)
  refine lv_aload_n hx hb dJ7_fill_53178_10 rfl (lv_at hl 2 rfl) ?_
  refine lv_iload_n hx hb dJ7_fill_53178_11 rfl (lv_at hl 0 rfl) ?_
  refine lv_iload_n hx hb dJ7_fill_53178_12 rfl (lv_at hl 3 rfl) ?_
  refine tist (x := x) hC hK hH ht_a rfl (iIn (by decide) (by decide)) (iRg _).1 (iRg _).2 dJ7_fill_53178_13 (fun Hq_ lcq_ Mq16_ _ hfr hH => ?_)
  have hF : ∀ q, FrK T q → Mq16_ q = M q := fun q hq  => (hfr q (neF hq ht_a (by decide))).trans (hF q hq )
  refine lv_iinc (v := 8) (lv' := [(2, .int 8), (3, .int 8), (0, .ref a), (1, .int x)]) hx hb dJ7_fill_53178_14 hl (k := 0) rfl (by decide) (by decide) rfl (fun ls hl => ?_)
  refine lv_goto (tgt := 5) hx hb dJ7_fill_53178_17 (by decide) ?_
  refine lv_iload_n hx hb dJ7_fill_53178_5 rfl (lv_at hl 0 rfl) ?_
  refine lv_iload_n hx hb dJ7_fill_53178_6 rfl (lv_at hl 1 rfl) ?_
  refine jic_ge (tgt := 20) hx hb dJ7_fill_53178_7 (by decide) (fun cq17_ => ?_) (fun cq17_ => absurd cq17_ (by decide))
  exact ret_v hC hr hlk hK hH (⟨trivial, rfl, hF⟩) (Nat.le_of_ble_eq_true rfl) (Nat.le_of_ble_eq_true rfl) dJ7_fill_53178_20
set_option maxHeartbeats 4000000 in
set_option maxRecDepth 100000 in
theorem c_X2_own {l : Launch} {D : va_G} {kA : Nat → ClassId} {M : mM} {T : mT} {sz : Nat} {h : Nat} {ps wi : Int32} (ht_h : T h = some 1) (hps : 0 ≤ ps.toInt ∧ ps.toInt ≤ 7) : mCv l yX2_own cX2_own 3 0 0 0 D kA M T sz [.ref h, .int ps, .int wi] (fun u => (True) ∧ u.2 = T ∧ (∀ q, FrK T q → u.1 q = M q)) := by
  unfold mCv
  refine start_W (by decide) (Nat.le_of_ble_eq_true rfl) ?_
  intro p e s m below meth c ls hC hr hlk hnm hK hH hsz hl
  have hx := hC.1
  have hb := hC.2.1
  have hl : lv_has ls 3 [(0, .ref h), (1, .int ps), (2, .int wi)] := hl
  have hF : ∀ q, FrK T q → M q = M q := fun q _  => rfl
  refine lv_aload_n hx hb dX2_own_0 rfl (lv_at hl 0 rfl) ?_
  refine lv_iload_n hx hb dX2_own_1 rfl (lv_at hl 1 rfl) ?_
  refine tpu hC hK hH flX2_65 ht_h rfl rfl (iRg _).1 (iRg _).2 rfl rfl dX2_own_2 (fun Hq_ lcq_ Mq1_ _ hfr hH => ?_)
  have hF : ∀ q, FrK T q → Mq1_ q = M q := fun q hq  => (hfr q (neF hq ht_h (by decide))).trans (hF q hq )
  refine lv_aload_n hx hb dX2_own_5 rfl (lv_at hl 0 rfl) ?_
  refine lv_iload_n hx hb dX2_own_6 rfl (lv_at hl 2 rfl) ?_
  refine tpu hC hK hH flX2_68 ht_h rfl rfl (iRg _).1 (iRg _).2 rfl rfl dX2_own_7 (fun Hq_ lcq_ Mq2_ _ hfr hH => ?_)
  have hF : ∀ q, FrK T q → Mq2_ q = M q := fun q hq  => (hfr q (neF hq ht_h (by decide))).trans (hF q hq )
  refine lv_aload_n hx hb dX2_own_10 rfl (lv_at hl 0 rfl) ?_
  refine tgr hC hK hH flX2_9 ht_h rfl rfl dX2_own_11 (fun qq3_ t_qq3_ => ?_)
  refine lv_iload_n hx hb dX2_own_14 rfl (lv_at hl 1 rfl) ?_
  refine tild hC hK hH t_qq3_ rfl (iIn (by omega) (by omega)) dX2_own_15 (fun xq4_ l_xq4_ g_xq4_ => ?_)
  refine jif_ne (tgt := 26) hx hb dX2_own_16 (by decide) (fun cq5_ => ?_) (fun cq5_ => ?_)
  · skip
    have cq5_ : xq4_.toInt ≠ 0 := cq5_
    exact ret_v hC hr hlk hK hH (⟨trivial, rfl, hF⟩) (Nat.le_of_ble_eq_true rfl) (Nat.le_of_ble_eq_true rfl) dX2_own_26
  · skip
    have cq5_ : xq4_.toInt = 0 := cq5_
    refine lv_aload_n hx hb dX2_own_19 rfl (lv_at hl 0 rfl) ?_
    refine tgr hC hK hH flX2_9 ht_h rfl rfl dX2_own_20 (fun qq6_ t_qq6_ => ?_)
    refine lv_iload_n hx hb dX2_own_23 rfl (lv_at hl 1 rfl) ?_
    refine lv_iload_n hx hb dX2_own_24 rfl (lv_at hl 2 rfl) ?_
    refine tist (x := wi) hC hK hH t_qq6_ rfl (iIn (by omega) (by omega)) (iRg _).1 (iRg _).2 dX2_own_25 (fun Hq_ lcq_ Mq7_ _ hfr hH => ?_)
    have hF : ∀ q, FrK T q → Mq7_ q = M q := fun q hq  => (hfr q (neF hq t_qq6_ (by decide))).trans (hF q hq )
    exact ret_v hC hr hlk hK hH (⟨trivial, rfl, hF⟩) (Nat.le_of_ble_eq_true rfl) (Nat.le_of_ble_eq_true rfl) dX2_own_26
set_option maxHeartbeats 4000000 in
set_option maxRecDepth 100000 in
theorem c_X2_begin {l : Launch} {D : va_G} {kA : Nat → ClassId} {M : mM} {T : mT} {sz : Nat} {h : Nat} {ps op : Int32} (ht_h : T h = some 1) (hps : 0 ≤ ps.toInt ∧ ps.toInt ≤ 7) : mCv l yX2_begin cX2_begin 3 1 0 0 D kA M T sz [.ref h, .int ps, .int op] (fun u => (True) ∧ u.2 = T ∧ (∀ q, FrK T q → u.1 q = M q)) := by
  unfold mCv
  refine start_W (by decide) (Nat.le_of_ble_eq_true rfl) ?_
  intro p e s m below meth c ls hC hr hlk hnm hK hH hsz hl
  have hx := hC.1
  have hb := hC.2.1
  have hl : lv_has ls 3 [(0, .ref h), (1, .int ps), (2, .int op)] := hl
  have hF : ∀ q, FrK T q → M q = M q := fun q _  => rfl
  refine lv_aload_n hx hb dX2_begin_0 rfl (lv_at hl 0 rfl) ?_
  refine lv_iload_n hx hb dX2_begin_1 rfl (lv_at hl 2 rfl) ?_
  refine jif_eq (tgt := 9) hx hb dX2_begin_2 (by decide) (fun cq1_ => ?_) (fun cq1_ => ?_)
  · skip
    have cq1_ : op.toInt = 0 := cq1_
    refine lv_iconst (v := 0) hx hb dX2_begin_9 (by decide) ?_
    refine tpu hC hK hH flX2_15 ht_h rfl rfl (iRg _).1 (iRg _).2 rfl rfl dX2_begin_10 (fun Hq_ lcq_ Mq2_ _ hfr hH => ?_)
    have hF : ∀ q, FrK T q → Mq2_ q = M q := fun q hq  => (hfr q (neF hq ht_h (by decide))).trans (hF q hq )
    refine lv_aload_n hx hb dX2_begin_13 rfl (lv_at hl 0 rfl) ?_
    refine lv_iload_n hx hb dX2_begin_14 rfl (lv_at hl 2 rfl) ?_
    refine jif_eq (tgt := 22) hx hb dX2_begin_15 (by decide) (fun cq3_ => ?_) (fun cq3_ => absurd cq3_ (by have := iRg op; have : (0 : Int32).toInt = 0 := rfl; omega))
    have cq3_ : op.toInt = 0 := cq3_
    refine lv_iload_n hx hb dX2_begin_22 rfl (lv_at hl 1 rfl) ?_
    refine tpu hC hK hH flX2_19 ht_h rfl rfl (iRg _).1 (iRg _).2 rfl rfl dX2_begin_23 (fun Hq_ lcq_ Mq4_ _ hfr hH => ?_)
    have hF : ∀ q, FrK T q → Mq4_ q = M q := fun q hq  => (hfr q (neF hq ht_h (by decide))).trans (hF q hq )
    refine lv_aload_n hx hb dX2_begin_26 rfl (lv_at hl 0 rfl) ?_
    refine lv_iconst (v := -1) hx hb dX2_begin_27 (by decide) ?_
    refine tpu hC hK hH flX2_22 ht_h rfl rfl (iRg _).1 (iRg _).2 rfl rfl dX2_begin_28 (fun Hq_ lcq_ Mq5_ _ hfr hH => ?_)
    have hF : ∀ q, FrK T q → Mq5_ q = M q := fun q hq  => (hfr q (neF hq ht_h (by decide))).trans (hF q hq )
    refine lv_aload_n hx hb dX2_begin_31 rfl (lv_at hl 0 rfl) ?_
    refine lv_iconst (v := 0) hx hb dX2_begin_32 (by decide) ?_
    refine tpu hC hK hH flX2_25 ht_h rfl rfl (iRg _).1 (iRg _).2 rfl rfl dX2_begin_33 (fun Hq_ lcq_ Mq6_ _ hfr hH => ?_)
    have hF : ∀ q, FrK T q → Mq6_ q = M q := fun q hq  => (hfr q (neF hq ht_h (by decide))).trans (hF q hq )
    refine lv_aload_n hx hb dX2_begin_36 rfl (lv_at hl 0 rfl) ?_
    refine lv_iconst (v := 0) hx hb dX2_begin_37 (by decide) ?_
    refine tpu hC hK hH flX2_28 ht_h rfl rfl (by decide) (by decide) rfl rfl dX2_begin_38 (fun Hq_ lcq_ Mq7_ _ hfr hH => ?_)
    have hF : ∀ q, FrK T q → Mq7_ q = M q := fun q hq  => (hfr q (neF hq ht_h (by decide))).trans (hF q hq )
    refine lv_aload_n hx hb dX2_begin_41 rfl (lv_at hl 0 rfl) ?_
    refine tgr hC hK hH flX2_9 ht_h rfl rfl dX2_begin_42 (fun qq8_ t_qq8_ => ?_)
    refine lv_iconst (v := 0) hx hb dX2_begin_45 (by decide) ?_
    refine goV hK hH (runS (As := [.ref qq8_, .int 0]) (rest := []) hC hK hH (c_J7_fill_53178 t_qq8_) mlX2_32 ⟨⟨Nat.le_of_ble_eq_true rfl, Nat.le_of_ble_eq_true rfl⟩, Nat.le_of_ble_eq_true rfl, Nat.le_of_ble_eq_true rfl⟩ rfl hl.1 rfl (Nat.le_of_ble_eq_true rfl) dX2_begin_46) (fun Mq9_ Tq10_ Hq_ lcq_ hP hz hH => ?_)
    try dsimp only at hP
    obtain ⟨(-), eT, hfr⟩ := hP
    have eT := eT.symm; subst eT
    have hF : ∀ q, FrK T q → Mq9_ q = M q := fun q hq  => (hfr q hq ).trans (hF q hq )
    refine lv_aload_n hx hb dX2_begin_49 rfl (lv_at hl 0 rfl) ?_
    refine lv_iload_n hx hb dX2_begin_50 rfl (lv_at hl 1 rfl) ?_
    refine lv_iconst (v := 1) hx hb dX2_begin_51 (by decide) ?_
    refine goV hK hH (runV (As := [.int ps, .int 1]) (rest := []) hC hK hH (c_X2_own ht_h (by omega)) mlX2_38 (rcvT hK hH ht_h rfl rfl) ⟨⟨Nat.le_of_ble_eq_true rfl, Nat.le_of_ble_eq_true rfl⟩, Nat.le_of_ble_eq_true rfl, Nat.le_of_ble_eq_true rfl⟩ rfl hl.1 rfl (Nat.le_of_ble_eq_true rfl) dX2_begin_52) (fun Mq12_ Tq13_ Hq_ lcq_ hP hz hH => ?_)
    try dsimp only at hP
    obtain ⟨(-), eT, hfr⟩ := hP
    have eT := eT.symm; subst eT
    have hF : ∀ q, FrK T q → Mq12_ q = M q := fun q hq  => (hfr q hq ).trans (hF q hq )
    exact ret_v hC hr hlk hK hH (⟨trivial, rfl, hF⟩) (Nat.le_of_ble_eq_true rfl) (Nat.le_of_ble_eq_true rfl) dX2_begin_55
  · skip
    have cq1_ : op.toInt ≠ 0 := cq1_
    refine lv_iconst (v := 1) hx hb dX2_begin_5 (by decide) ?_
    refine lv_goto (tgt := 10) hx hb dX2_begin_6 (by decide) ?_
    refine tpu hC hK hH flX2_15 ht_h rfl rfl (iRg _).1 (iRg _).2 rfl rfl dX2_begin_10 (fun Hq_ lcq_ Mq15_ _ hfr hH => ?_)
    have hF : ∀ q, FrK T q → Mq15_ q = M q := fun q hq  => (hfr q (neF hq ht_h (by decide))).trans (hF q hq )
    refine lv_aload_n hx hb dX2_begin_13 rfl (lv_at hl 0 rfl) ?_
    refine lv_iload_n hx hb dX2_begin_14 rfl (lv_at hl 2 rfl) ?_
    refine jif_eq (tgt := 22) hx hb dX2_begin_15 (by decide) (fun cq16_ => ?_) (fun cq16_ => ?_)
    · skip
      have cq16_ : op.toInt = 0 := cq16_
      refine lv_iload_n hx hb dX2_begin_22 rfl (lv_at hl 1 rfl) ?_
      refine tpu hC hK hH flX2_19 ht_h rfl rfl (iRg _).1 (iRg _).2 rfl rfl dX2_begin_23 (fun Hq_ lcq_ Mq17_ _ hfr hH => ?_)
      have hF : ∀ q, FrK T q → Mq17_ q = M q := fun q hq  => (hfr q (neF hq ht_h (by decide))).trans (hF q hq )
      refine lv_aload_n hx hb dX2_begin_26 rfl (lv_at hl 0 rfl) ?_
      refine lv_iconst (v := -1) hx hb dX2_begin_27 (by decide) ?_
      refine tpu hC hK hH flX2_22 ht_h rfl rfl (iRg _).1 (iRg _).2 rfl rfl dX2_begin_28 (fun Hq_ lcq_ Mq18_ _ hfr hH => ?_)
      have hF : ∀ q, FrK T q → Mq18_ q = M q := fun q hq  => (hfr q (neF hq ht_h (by decide))).trans (hF q hq )
      refine lv_aload_n hx hb dX2_begin_31 rfl (lv_at hl 0 rfl) ?_
      refine lv_iconst (v := 0) hx hb dX2_begin_32 (by decide) ?_
      refine tpu hC hK hH flX2_25 ht_h rfl rfl (iRg _).1 (iRg _).2 rfl rfl dX2_begin_33 (fun Hq_ lcq_ Mq19_ _ hfr hH => ?_)
      have hF : ∀ q, FrK T q → Mq19_ q = M q := fun q hq  => (hfr q (neF hq ht_h (by decide))).trans (hF q hq )
      refine lv_aload_n hx hb dX2_begin_36 rfl (lv_at hl 0 rfl) ?_
      refine lv_iconst (v := 0) hx hb dX2_begin_37 (by decide) ?_
      refine tpu hC hK hH flX2_28 ht_h rfl rfl (by decide) (by decide) rfl rfl dX2_begin_38 (fun Hq_ lcq_ Mq20_ _ hfr hH => ?_)
      have hF : ∀ q, FrK T q → Mq20_ q = M q := fun q hq  => (hfr q (neF hq ht_h (by decide))).trans (hF q hq )
      refine lv_aload_n hx hb dX2_begin_41 rfl (lv_at hl 0 rfl) ?_
      refine tgr hC hK hH flX2_9 ht_h rfl rfl dX2_begin_42 (fun qq21_ t_qq21_ => ?_)
      refine lv_iconst (v := 0) hx hb dX2_begin_45 (by decide) ?_
      refine goV hK hH (runS (As := [.ref qq21_, .int 0]) (rest := []) hC hK hH (c_J7_fill_53178 t_qq21_) mlX2_32 ⟨⟨Nat.le_of_ble_eq_true rfl, Nat.le_of_ble_eq_true rfl⟩, Nat.le_of_ble_eq_true rfl, Nat.le_of_ble_eq_true rfl⟩ rfl hl.1 rfl (Nat.le_of_ble_eq_true rfl) dX2_begin_46) (fun Mq22_ Tq23_ Hq_ lcq_ hP hz hH => ?_)
      try dsimp only at hP
      obtain ⟨(-), eT, hfr⟩ := hP
      have eT := eT.symm; subst eT
      have hF : ∀ q, FrK T q → Mq22_ q = M q := fun q hq  => (hfr q hq ).trans (hF q hq )
      refine lv_aload_n hx hb dX2_begin_49 rfl (lv_at hl 0 rfl) ?_
      refine lv_iload_n hx hb dX2_begin_50 rfl (lv_at hl 1 rfl) ?_
      refine lv_iconst (v := 1) hx hb dX2_begin_51 (by decide) ?_
      refine goV hK hH (runV (As := [.int ps, .int 1]) (rest := []) hC hK hH (c_X2_own ht_h (by omega)) mlX2_38 (rcvT hK hH ht_h rfl rfl) ⟨⟨Nat.le_of_ble_eq_true rfl, Nat.le_of_ble_eq_true rfl⟩, Nat.le_of_ble_eq_true rfl, Nat.le_of_ble_eq_true rfl⟩ rfl hl.1 rfl (Nat.le_of_ble_eq_true rfl) dX2_begin_52) (fun Mq25_ Tq26_ Hq_ lcq_ hP hz hH => ?_)
      try dsimp only at hP
      obtain ⟨(-), eT, hfr⟩ := hP
      have eT := eT.symm; subst eT
      have hF : ∀ q, FrK T q → Mq25_ q = M q := fun q hq  => (hfr q hq ).trans (hF q hq )
      exact ret_v hC hr hlk hK hH (⟨trivial, rfl, hF⟩) (Nat.le_of_ble_eq_true rfl) (Nat.le_of_ble_eq_true rfl) dX2_begin_55
    · skip
      have cq16_ : op.toInt ≠ 0 := cq16_
      refine lv_iconst (v := -1) hx hb dX2_begin_18 (by decide) ?_
      refine lv_goto (tgt := 23) hx hb dX2_begin_19 (by decide) ?_
      refine tpu hC hK hH flX2_19 ht_h rfl rfl (iRg _).1 (iRg _).2 rfl rfl dX2_begin_23 (fun Hq_ lcq_ Mq28_ _ hfr hH => ?_)
      have hF : ∀ q, FrK T q → Mq28_ q = M q := fun q hq  => (hfr q (neF hq ht_h (by decide))).trans (hF q hq )
      refine lv_aload_n hx hb dX2_begin_26 rfl (lv_at hl 0 rfl) ?_
      refine lv_iconst (v := -1) hx hb dX2_begin_27 (by decide) ?_
      refine tpu hC hK hH flX2_22 ht_h rfl rfl (iRg _).1 (iRg _).2 rfl rfl dX2_begin_28 (fun Hq_ lcq_ Mq29_ _ hfr hH => ?_)
      have hF : ∀ q, FrK T q → Mq29_ q = M q := fun q hq  => (hfr q (neF hq ht_h (by decide))).trans (hF q hq )
      refine lv_aload_n hx hb dX2_begin_31 rfl (lv_at hl 0 rfl) ?_
      refine lv_iconst (v := 0) hx hb dX2_begin_32 (by decide) ?_
      refine tpu hC hK hH flX2_25 ht_h rfl rfl (iRg _).1 (iRg _).2 rfl rfl dX2_begin_33 (fun Hq_ lcq_ Mq30_ _ hfr hH => ?_)
      have hF : ∀ q, FrK T q → Mq30_ q = M q := fun q hq  => (hfr q (neF hq ht_h (by decide))).trans (hF q hq )
      refine lv_aload_n hx hb dX2_begin_36 rfl (lv_at hl 0 rfl) ?_
      refine lv_iconst (v := 0) hx hb dX2_begin_37 (by decide) ?_
      refine tpu hC hK hH flX2_28 ht_h rfl rfl (by decide) (by decide) rfl rfl dX2_begin_38 (fun Hq_ lcq_ Mq31_ _ hfr hH => ?_)
      have hF : ∀ q, FrK T q → Mq31_ q = M q := fun q hq  => (hfr q (neF hq ht_h (by decide))).trans (hF q hq )
      refine lv_aload_n hx hb dX2_begin_41 rfl (lv_at hl 0 rfl) ?_
      refine tgr hC hK hH flX2_9 ht_h rfl rfl dX2_begin_42 (fun qq32_ t_qq32_ => ?_)
      refine lv_iconst (v := 0) hx hb dX2_begin_45 (by decide) ?_
      refine goV hK hH (runS (As := [.ref qq32_, .int 0]) (rest := []) hC hK hH (c_J7_fill_53178 t_qq32_) mlX2_32 ⟨⟨Nat.le_of_ble_eq_true rfl, Nat.le_of_ble_eq_true rfl⟩, Nat.le_of_ble_eq_true rfl, Nat.le_of_ble_eq_true rfl⟩ rfl hl.1 rfl (Nat.le_of_ble_eq_true rfl) dX2_begin_46) (fun Mq33_ Tq34_ Hq_ lcq_ hP hz hH => ?_)
      try dsimp only at hP
      obtain ⟨(-), eT, hfr⟩ := hP
      have eT := eT.symm; subst eT
      have hF : ∀ q, FrK T q → Mq33_ q = M q := fun q hq  => (hfr q hq ).trans (hF q hq )
      refine lv_aload_n hx hb dX2_begin_49 rfl (lv_at hl 0 rfl) ?_
      refine lv_iload_n hx hb dX2_begin_50 rfl (lv_at hl 1 rfl) ?_
      refine lv_iconst (v := 1) hx hb dX2_begin_51 (by decide) ?_
      refine goV hK hH (runV (As := [.int ps, .int 1]) (rest := []) hC hK hH (c_X2_own ht_h (by omega)) mlX2_38 (rcvT hK hH ht_h rfl rfl) ⟨⟨Nat.le_of_ble_eq_true rfl, Nat.le_of_ble_eq_true rfl⟩, Nat.le_of_ble_eq_true rfl, Nat.le_of_ble_eq_true rfl⟩ rfl hl.1 rfl (Nat.le_of_ble_eq_true rfl) dX2_begin_52) (fun Mq36_ Tq37_ Hq_ lcq_ hP hz hH => ?_)
      try dsimp only at hP
      obtain ⟨(-), eT, hfr⟩ := hP
      have eT := eT.symm; subst eT
      have hF : ∀ q, FrK T q → Mq36_ q = M q := fun q hq  => (hfr q hq ).trans (hF q hq )
      exact ret_v hC hr hlk hK hH (⟨trivial, rfl, hF⟩) (Nat.le_of_ble_eq_true rfl) (Nat.le_of_ble_eq_true rfl) dX2_begin_55
set_option maxHeartbeats 4000000 in
set_option maxRecDepth 100000 in
theorem c_X2_copy {l : Launch} {D : va_G} {kA : Nat → ClassId} {M : mM} {T : mT} {sz : Nat} {h o : Nat} (ht_h : T h = some 1) (ht_o : T o = some 1) : mCv l yX2_copy cX2_copy 2 1 0 0 D kA M T sz [.ref h, .ref o] (fun u => (True) ∧ u.2 = T ∧ (∀ q, FrK T q → u.1 q = M q)) := by
  unfold mCv
  refine start_W (by decide) (Nat.le_of_ble_eq_true rfl) ?_
  intro p e s m below meth c ls hC hr hlk hnm hK hH hsz hl
  have hx := hC.1
  have hb := hC.2.1
  have hl : lv_has ls 2 [(0, .ref h), (1, .ref o)] := hl
  have hF : ∀ q, FrK T q → M q = M q := fun q _  => rfl
  refine lv_aload_n hx hb dX2_copy_0 rfl (lv_at hl 0 rfl) ?_
  refine lv_aload_n hx hb dX2_copy_1 rfl (lv_at hl 1 rfl) ?_
  refine tg hC hK hH flX2_15 ht_o rfl rfl dX2_copy_2 (fun xq1_ l_xq1_ g_xq1_ => ?_)
  refine tpu hC hK hH flX2_15 ht_h rfl rfl (iRg _).1 (iRg _).2 rfl rfl dX2_copy_5 (fun Hq_ lcq_ Mq2_ _ hfr hH => ?_)
  have hF : ∀ q, FrK T q → Mq2_ q = M q := fun q hq  => (hfr q (neF hq ht_h (by decide))).trans (hF q hq )
  refine lv_aload_n hx hb dX2_copy_8 rfl (lv_at hl 0 rfl) ?_
  refine lv_aload_n hx hb dX2_copy_9 rfl (lv_at hl 1 rfl) ?_
  refine tg hC hK hH flX2_19 ht_o rfl rfl dX2_copy_10 (fun xq3_ l_xq3_ g_xq3_ => ?_)
  refine tpu hC hK hH flX2_19 ht_h rfl rfl (iRg _).1 (iRg _).2 rfl rfl dX2_copy_13 (fun Hq_ lcq_ Mq4_ _ hfr hH => ?_)
  have hF : ∀ q, FrK T q → Mq4_ q = M q := fun q hq  => (hfr q (neF hq ht_h (by decide))).trans (hF q hq )
  refine lv_aload_n hx hb dX2_copy_16 rfl (lv_at hl 0 rfl) ?_
  refine lv_aload_n hx hb dX2_copy_17 rfl (lv_at hl 1 rfl) ?_
  refine tg hC hK hH flX2_65 ht_o rfl rfl dX2_copy_18 (fun xq5_ l_xq5_ g_xq5_ => ?_)
  refine tpu hC hK hH flX2_65 ht_h rfl rfl (iRg _).1 (iRg _).2 rfl rfl dX2_copy_21 (fun Hq_ lcq_ Mq6_ _ hfr hH => ?_)
  have hF : ∀ q, FrK T q → Mq6_ q = M q := fun q hq  => (hfr q (neF hq ht_h (by decide))).trans (hF q hq )
  refine lv_aload_n hx hb dX2_copy_24 rfl (lv_at hl 0 rfl) ?_
  refine lv_aload_n hx hb dX2_copy_25 rfl (lv_at hl 1 rfl) ?_
  refine tg hC hK hH flX2_68 ht_o rfl rfl dX2_copy_26 (fun xq7_ l_xq7_ g_xq7_ => ?_)
  refine tpu hC hK hH flX2_68 ht_h rfl rfl (iRg _).1 (iRg _).2 rfl rfl dX2_copy_29 (fun Hq_ lcq_ Mq8_ _ hfr hH => ?_)
  have hF : ∀ q, FrK T q → Mq8_ q = M q := fun q hq  => (hfr q (neF hq ht_h (by decide))).trans (hF q hq )
  refine lv_aload_n hx hb dX2_copy_32 rfl (lv_at hl 0 rfl) ?_
  refine lv_aload_n hx hb dX2_copy_33 rfl (lv_at hl 1 rfl) ?_
  refine tg hC hK hH flX2_22 ht_o rfl rfl dX2_copy_34 (fun xq9_ l_xq9_ g_xq9_ => ?_)
  refine tpu hC hK hH flX2_22 ht_h rfl rfl (iRg _).1 (iRg _).2 rfl rfl dX2_copy_37 (fun Hq_ lcq_ Mq10_ _ hfr hH => ?_)
  have hF : ∀ q, FrK T q → Mq10_ q = M q := fun q hq  => (hfr q (neF hq ht_h (by decide))).trans (hF q hq )
  refine lv_aload_n hx hb dX2_copy_40 rfl (lv_at hl 0 rfl) ?_
  refine lv_aload_n hx hb dX2_copy_41 rfl (lv_at hl 1 rfl) ?_
  refine tg hC hK hH flX2_25 ht_o rfl rfl dX2_copy_42 (fun xq11_ l_xq11_ g_xq11_ => ?_)
  refine tpu hC hK hH flX2_25 ht_h rfl rfl (iRg _).1 (iRg _).2 rfl rfl dX2_copy_45 (fun Hq_ lcq_ Mq12_ _ hfr hH => ?_)
  have hF : ∀ q, FrK T q → Mq12_ q = M q := fun q hq  => (hfr q (neF hq ht_h (by decide))).trans (hF q hq )
  refine lv_aload_n hx hb dX2_copy_48 rfl (lv_at hl 0 rfl) ?_
  refine lv_aload_n hx hb dX2_copy_49 rfl (lv_at hl 1 rfl) ?_
  refine tg hC hK hH flX2_28 ht_o rfl rfl dX2_copy_50 (fun xq13_ l_xq13_ g_xq13_ => ?_)
  have l_xq13_ : (0 : Int) ≤ xq13_.toInt := l_xq13_
  have g_xq13_ : xq13_.toInt ≤ 1 := g_xq13_
  refine tpu hC hK hH flX2_28 ht_h rfl rfl (zl (z01 l_xq13_ g_xq13_)) (zh (z01 l_xq13_ g_xq13_)) (nz (z01 l_xq13_ g_xq13_)) (fz (z01 l_xq13_ g_xq13_)) dX2_copy_53 (fun Hq_ lcq_ Mq14_ _ hfr hH => ?_)
  have hF : ∀ q, FrK T q → Mq14_ q = M q := fun q hq  => (hfr q (neF hq ht_h (by decide))).trans (hF q hq )
  refine lv_aload_n hx hb dX2_copy_56 rfl (lv_at hl 1 rfl) ?_
  refine tgr hC hK hH flX2_9 ht_o rfl rfl dX2_copy_57 (fun qq15_ t_qq15_ => ?_)
  refine lv_iconst (v := 0) hx hb dX2_copy_60 (by decide) ?_
  refine lv_aload_n hx hb dX2_copy_61 rfl (lv_at hl 0 rfl) ?_
  refine tgr hC hK hH flX2_9 ht_h rfl rfl dX2_copy_62 (fun qq16_ t_qq16_ => ?_)
  refine lv_iconst (v := 0) hx hb dX2_copy_65 (by decide) ?_
  refine lv_bipush (v := 8) hx hb dX2_copy_66 (by decide) ?_
  refine tcpy hC hK hH hl.1 cpX2_71 t_qq15_ t_qq16_ rfl rfl rfl (fun _ _ _ => rfl) (by decide) (by decide) (by decide) (Nat.le_of_ble_eq_true rfl) (Nat.le_of_ble_eq_true rfl) (Nat.le_of_ble_eq_true rfl) (Nat.le_of_ble_eq_true rfl) dX2_copy_68 (fun Hq_ lcq_ Mq17_ _ hfr hH => ?_)
  have hF : ∀ q, FrK T q → Mq17_ q = M q := fun q hq  => (hfr q (neF hq t_qq16_ (by decide))).trans (hF q hq )
  exact ret_v hC hr hlk hK hH (⟨trivial, rfl, hF⟩) (Nat.le_of_ble_eq_true rfl) (Nat.le_of_ble_eq_true rfl) dX2_copy_71
set_option maxHeartbeats 4000000 in
set_option maxRecDepth 100000 in
theorem c_X2_entitles {l : Launch} {D : va_G} {kA : Nat → ClassId} {M : mM} {T : mT} {sz : Nat} {h : Nat} {ha : Int32} (ht_h : T h = some 1) : mCi l yX2_entitles cX2_entitles 2 (some .boolean) 0 0 0 D kA M T sz [.ref h, .int ha] (fun r u => ((r = 1) ∨ (r = 0)) ∧ u.2 = T ∧ u.1 = M) := by
  unfold mCi
  refine start_W (by decide) (Nat.le_of_ble_eq_true rfl) ?_
  intro p e s m below meth c ls hC hr hlk hnm hK hH hsz hl
  have hx := hC.1
  have hb := hC.2.1
  have hl : lv_has ls 2 [(0, .ref h), (1, .int ha)] := hl
  refine lv_aload_n hx hb dX2_entitles_0 rfl (lv_at hl 0 rfl) ?_
  refine tg hC hK hH flX2_22 ht_h rfl rfl dX2_entitles_1 (fun xq1_ l_xq1_ g_xq1_ => ?_)
  refine lv_iconst (v := -1) hx hb dX2_entitles_4 (by decide) ?_
  refine jic_ne (tgt := 35) hx hb dX2_entitles_5 (by decide) (fun cq2_ => ?_) (fun cq2_ => ?_)
  · skip
    have cq2_ : xq1_.toInt ≠ (-1) := cq2_
    refine lv_iconst (v := 0) hx hb dX2_entitles_35 (by decide) ?_
    exact ret_z hC hr hlk hK hH (by first | exact Or.inl rfl | exact Or.inr rfl | assumption) (⟨Or.inr (rfl), rfl, rfl⟩) (Nat.le_of_ble_eq_true rfl) (Nat.le_of_ble_eq_true rfl) dX2_entitles_36
  · skip
    have cq2_ : xq1_.toInt = (-1) := cq2_
    refine lv_aload_n hx hb dX2_entitles_8 rfl (lv_at hl 0 rfl) ?_
    refine tg hC hK hH flX2_28 ht_h rfl rfl dX2_entitles_9 (fun xq3_ l_xq3_ g_xq3_ => ?_)
    have l_xq3_ : (0 : Int) ≤ xq3_.toInt := l_xq3_
    have g_xq3_ : xq3_.toInt ≤ 1 := g_xq3_
    refine jif_ne (tgt := 35) hx hb dX2_entitles_12 (by decide) (fun cq4_ => ?_) (fun cq4_ => ?_)
    · skip
      have cq4_ : xq3_.toInt ≠ 0 := cq4_
      refine lv_iconst (v := 0) hx hb dX2_entitles_35 (by decide) ?_
      exact ret_z hC hr hlk hK hH (by first | exact Or.inl rfl | exact Or.inr rfl | assumption) (⟨Or.inr (rfl), rfl, rfl⟩) (Nat.le_of_ble_eq_true rfl) (Nat.le_of_ble_eq_true rfl) dX2_entitles_36
    · skip
      have cq4_ : xq3_.toInt = 0 := cq4_
      refine lv_aload_n hx hb dX2_entitles_15 rfl (lv_at hl 0 rfl) ?_
      refine tg hC hK hH flX2_15 ht_h rfl rfl dX2_entitles_16 (fun xq5_ l_xq5_ g_xq5_ => ?_)
      refine lv_iconst (v := 1) hx hb dX2_entitles_19 (by decide) ?_
      refine jic_eq (tgt := 31) hx hb dX2_entitles_20 (by decide) (fun cq6_ => ?_) (fun cq6_ => ?_)
      · skip
        have cq6_ : xq5_.toInt = 1 := cq6_
        refine lv_iconst (v := 1) hx hb dX2_entitles_31 (by decide) ?_
        refine lv_goto (tgt := 36) hx hb dX2_entitles_32 (by decide) ?_
        exact ret_z hC hr hlk hK hH (by first | exact Or.inl rfl | exact Or.inr rfl | assumption) (⟨Or.inl (rfl), rfl, rfl⟩) (Nat.le_of_ble_eq_true rfl) (Nat.le_of_ble_eq_true rfl) dX2_entitles_36
      · skip
        have cq6_ : xq5_.toInt ≠ 1 := cq6_
        refine lv_aload_n hx hb dX2_entitles_23 rfl (lv_at hl 0 rfl) ?_
        refine tg hC hK hH flX2_19 ht_h rfl rfl dX2_entitles_24 (fun xq7_ l_xq7_ g_xq7_ => ?_)
        refine lv_iload_n hx hb dX2_entitles_27 rfl (lv_at hl 1 rfl) ?_
        refine jic_ne (tgt := 35) hx hb dX2_entitles_28 (by decide) (fun cq8_ => ?_) (fun cq8_ => ?_)
        · skip
          have cq8_ : xq7_.toInt ≠ ha.toInt := cq8_
          refine lv_iconst (v := 0) hx hb dX2_entitles_35 (by decide) ?_
          exact ret_z hC hr hlk hK hH (by first | exact Or.inl rfl | exact Or.inr rfl | assumption) (⟨Or.inr (rfl), rfl, rfl⟩) (Nat.le_of_ble_eq_true rfl) (Nat.le_of_ble_eq_true rfl) dX2_entitles_36
        · skip
          have cq8_ : xq7_.toInt = ha.toInt := cq8_
          refine lv_iconst (v := 1) hx hb dX2_entitles_31 (by decide) ?_
          refine lv_goto (tgt := 36) hx hb dX2_entitles_32 (by decide) ?_
          exact ret_z hC hr hlk hK hH (by first | exact Or.inl rfl | exact Or.inr rfl | assumption) (⟨Or.inl (rfl), rfl, rfl⟩) (Nat.le_of_ble_eq_true rfl) (Nat.le_of_ble_eq_true rfl) dX2_entitles_36
set_option maxHeartbeats 4000000 in
set_option maxRecDepth 100000 in
theorem c_X2_breakAt {l : Launch} {D : va_G} {kA : Nat → ClassId} {M : mM} {T : mT} {sz : Nat} {h : Nat} {at_ ca : Int32} (ht_h : T h = some 1) : mCv l yX2_breakAt cX2_breakAt 3 0 0 0 D kA M T sz [.ref h, .int at_, .int ca] (fun u => (True) ∧ u.2 = T ∧ (∀ q, FrK T q → u.1 q = M q)) := by
  unfold mCv
  refine start_W (by decide) (Nat.le_of_ble_eq_true rfl) ?_
  intro p e s m below meth c ls hC hr hlk hnm hK hH hsz hl
  have hx := hC.1
  have hb := hC.2.1
  have hl : lv_has ls 3 [(0, .ref h), (1, .int at_), (2, .int ca)] := hl
  have hF : ∀ q, FrK T q → M q = M q := fun q _  => rfl
  refine lv_aload_n hx hb dX2_breakAt_0 rfl (lv_at hl 0 rfl) ?_
  refine lv_iload_n hx hb dX2_breakAt_1 rfl (lv_at hl 1 rfl) ?_
  refine tpu hC hK hH flX2_22 ht_h rfl rfl (iRg _).1 (iRg _).2 rfl rfl dX2_breakAt_2 (fun Hq_ lcq_ Mq1_ _ hfr hH => ?_)
  have hF : ∀ q, FrK T q → Mq1_ q = M q := fun q hq  => (hfr q (neF hq ht_h (by decide))).trans (hF q hq )
  refine lv_aload_n hx hb dX2_breakAt_5 rfl (lv_at hl 0 rfl) ?_
  refine lv_iload_n hx hb dX2_breakAt_6 rfl (lv_at hl 2 rfl) ?_
  refine tpu hC hK hH flX2_25 ht_h rfl rfl (iRg _).1 (iRg _).2 rfl rfl dX2_breakAt_7 (fun Hq_ lcq_ Mq2_ _ hfr hH => ?_)
  have hF : ∀ q, FrK T q → Mq2_ q = M q := fun q hq  => (hfr q (neF hq ht_h (by decide))).trans (hF q hq )
  exact ret_v hC hr hlk hK hH (⟨trivial, rfl, hF⟩) (Nat.le_of_ble_eq_true rfl) (Nat.le_of_ble_eq_true rfl) dX2_breakAt_10
set_option maxHeartbeats 4000000 in
set_option maxRecDepth 100000 in
theorem c_X2_delivered {l : Launch} {D : va_G} {kA : Nat → ClassId} {M : mM} {T : mT} {sz : Nat} {h st : Nat} (ht_h : T h = some 1) (ht_st : T st = some 0) : mCi l yX2_delivered cX2_delivered 2 (some .boolean) 0 0 0 D kA M T sz [.ref h, .ref st] (fun r u => ((r = 1) ∨ (r = 0)) ∧ u.2 = T ∧ (∀ q, FrK T q → u.1 q = M q)) := by
  unfold mCi
  refine start_W (by decide) (Nat.le_of_ble_eq_true rfl) ?_
  intro p e s m below meth c ls hC hr hlk hnm hK hH hsz hl
  have hx := hC.1
  have hb := hC.2.1
  have hl : lv_has ls 2 [(0, .ref h), (1, .ref st)] := hl
  have hF : ∀ q, FrK T q → M q = M q := fun q _  => rfl
  refine lv_aload_n hx hb dX2_delivered_0 rfl (lv_at hl 0 rfl) ?_
  refine tg hC hK hH flX2_15 ht_h rfl rfl dX2_delivered_1 (fun xq1_ l_xq1_ g_xq1_ => ?_)
  refine lv_iconst (v := 1) hx hb dX2_delivered_4 (by decide) ?_
  refine jic_ne (tgt := 10) hx hb dX2_delivered_5 (by decide) (fun cq2_ => ?_) (fun cq2_ => ?_)
  · skip
    have cq2_ : xq1_.toInt ≠ 1 := cq2_
    refine lv_aload_n hx hb dX2_delivered_10 rfl (lv_at hl 0 rfl) ?_
    refine lv_aload_n hx hb dX2_delivered_11 rfl (lv_at hl 1 rfl) ?_
    refine tg hC hK hH flX2_77 ht_st rfl rfl dX2_delivered_12 (fun xq3_ l_xq3_ g_xq3_ => ?_)
    have l_xq3_ : (0 : Int) ≤ xq3_.toInt := l_xq3_
    have g_xq3_ : xq3_.toInt ≤ 7 := g_xq3_
    refine lv_aload_n hx hb dX2_delivered_15 rfl (lv_at hl 0 rfl) ?_
    refine tg hC hK hH flX2_19 ht_h rfl rfl dX2_delivered_16 (fun xq4_ l_xq4_ g_xq4_ => ?_)
    refine jic_ne (tgt := 40) hx hb dX2_delivered_19 (by decide) (fun cq5_ => ?_) (fun cq5_ => ?_)
    · skip
      have cq5_ : xq3_.toInt ≠ xq4_.toInt := cq5_
      refine lv_iconst (v := 1) hx hb dX2_delivered_40 (by decide) ?_
      refine lv_goto (tgt := 45) hx hb dX2_delivered_41 (by decide) ?_
      refine tpu hC hK hH flX2_28 ht_h rfl rfl (by decide) (by decide) rfl rfl dX2_delivered_45 (fun Hq_ lcq_ Mq6_ _ hfr hH => ?_)
      have hF : ∀ q, FrK T q → Mq6_ q = M q := fun q hq  => (hfr q (neF hq ht_h (by decide))).trans (hF q hq )
      refine lv_iconst (v := 0) hx hb dX2_delivered_48 (by decide) ?_
      exact ret_z hC hr hlk hK hH (by first | exact Or.inl rfl | exact Or.inr rfl | assumption) (⟨Or.inr (rfl), rfl, hF⟩) (Nat.le_of_ble_eq_true rfl) (Nat.le_of_ble_eq_true rfl) dX2_delivered_49
    · skip
      have cq5_ : xq3_.toInt = xq4_.toInt := cq5_
      refine lv_aload_n hx hb dX2_delivered_22 rfl (lv_at hl 0 rfl) ?_
      refine tg hC hK hH flX2_15 ht_h rfl rfl dX2_delivered_23 (fun xq7_ l_xq7_ g_xq7_ => ?_)
      refine jif_ne (tgt := 44) hx hb dX2_delivered_26 (by decide) (fun cq8_ => ?_) (fun cq8_ => ?_)
      · skip
        have cq8_ : xq7_.toInt ≠ 0 := cq8_
        refine lv_iconst (v := 0) hx hb dX2_delivered_44 (by decide) ?_
        refine tpu hC hK hH flX2_28 ht_h rfl rfl (by decide) (by decide) rfl rfl dX2_delivered_45 (fun Hq_ lcq_ Mq9_ _ hfr hH => ?_)
        have hF : ∀ q, FrK T q → Mq9_ q = M q := fun q hq  => (hfr q (neF hq ht_h (by decide))).trans (hF q hq )
        refine lv_iconst (v := 0) hx hb dX2_delivered_48 (by decide) ?_
        exact ret_z hC hr hlk hK hH (by first | exact Or.inl rfl | exact Or.inr rfl | assumption) (⟨Or.inr (rfl), rfl, hF⟩) (Nat.le_of_ble_eq_true rfl) (Nat.le_of_ble_eq_true rfl) dX2_delivered_49
      · skip
        have cq8_ : xq7_.toInt = 0 := cq8_
        refine lv_aload_n hx hb dX2_delivered_29 rfl (lv_at hl 1 rfl) ?_
        refine tg hC hK hH flX2_77 ht_st rfl rfl dX2_delivered_30 (fun xq10_ l_xq10_ g_xq10_ => ?_)
        have l_xq10_ : (0 : Int) ≤ xq10_.toInt := l_xq10_
        have g_xq10_ : xq10_.toInt ≤ 7 := g_xq10_
        refine lv_aload_n hx hb dX2_delivered_33 rfl (lv_at hl 0 rfl) ?_
        refine tg hC hK hH flX2_65 ht_h rfl rfl dX2_delivered_34 (fun xq11_ l_xq11_ g_xq11_ => ?_)
        refine jic_eq (tgt := 44) hx hb dX2_delivered_37 (by decide) (fun cq12_ => ?_) (fun cq12_ => ?_)
        · skip
          have cq12_ : xq10_.toInt = xq11_.toInt := cq12_
          refine lv_iconst (v := 0) hx hb dX2_delivered_44 (by decide) ?_
          refine tpu hC hK hH flX2_28 ht_h rfl rfl (by decide) (by decide) rfl rfl dX2_delivered_45 (fun Hq_ lcq_ Mq13_ _ hfr hH => ?_)
          have hF : ∀ q, FrK T q → Mq13_ q = M q := fun q hq  => (hfr q (neF hq ht_h (by decide))).trans (hF q hq )
          refine lv_iconst (v := 0) hx hb dX2_delivered_48 (by decide) ?_
          exact ret_z hC hr hlk hK hH (by first | exact Or.inl rfl | exact Or.inr rfl | assumption) (⟨Or.inr (rfl), rfl, hF⟩) (Nat.le_of_ble_eq_true rfl) (Nat.le_of_ble_eq_true rfl) dX2_delivered_49
        · skip
          have cq12_ : xq10_.toInt ≠ xq11_.toInt := cq12_
          refine lv_iconst (v := 1) hx hb dX2_delivered_40 (by decide) ?_
          refine lv_goto (tgt := 45) hx hb dX2_delivered_41 (by decide) ?_
          refine tpu hC hK hH flX2_28 ht_h rfl rfl (by decide) (by decide) rfl rfl dX2_delivered_45 (fun Hq_ lcq_ Mq14_ _ hfr hH => ?_)
          have hF : ∀ q, FrK T q → Mq14_ q = M q := fun q hq  => (hfr q (neF hq ht_h (by decide))).trans (hF q hq )
          refine lv_iconst (v := 0) hx hb dX2_delivered_48 (by decide) ?_
          exact ret_z hC hr hlk hK hH (by first | exact Or.inl rfl | exact Or.inr rfl | assumption) (⟨Or.inr (rfl), rfl, hF⟩) (Nat.le_of_ble_eq_true rfl) (Nat.le_of_ble_eq_true rfl) dX2_delivered_49
  · skip
    have cq2_ : xq1_.toInt = 1 := cq2_
    refine lv_iconst (v := 1) hx hb dX2_delivered_8 (by decide) ?_
    exact ret_z hC hr hlk hK hH (by first | exact Or.inl rfl | exact Or.inr rfl | assumption) (⟨Or.inl (rfl), rfl, hF⟩) (Nat.le_of_ble_eq_true rfl) (Nat.le_of_ble_eq_true rfl) dX2_delivered_9
set_option maxHeartbeats 4000000 in
set_option maxRecDepth 100000 in
theorem c_X2_endorsed {l : Launch} {D : va_G} {kA : Nat → ClassId} {M : mM} {T : mT} {sz : Nat} {h st : Nat} {at_ cu : Int32} (ht_h : T h = some 1) (ht_st : T st = some 0) : mCi l yX2_endorsed cX2_endorsed 4 (some .boolean) 1 0 0 D kA M T sz [.ref h, .ref st, .int at_, .int cu] (fun r u => ((r = 1) ∨ (r = 0)) ∧ u.2 = T ∧ (∀ q, FrK T q → u.1 q = M q)) := by
  unfold mCi
  refine start_W (by decide) (Nat.le_of_ble_eq_true rfl) ?_
  intro p e s m below meth c ls hC hr hlk hnm hK hH hsz hl
  have hx := hC.1
  have hb := hC.2.1
  have hl : lv_has ls 4 [(0, .ref h), (1, .ref st), (2, .int at_), (3, .int cu)] := hl
  have hF : ∀ q, FrK T q → M q = M q := fun q _  => rfl
  refine lv_aload_n hx hb dX2_endorsed_0 rfl (lv_at hl 0 rfl) ?_
  refine tg hC hK hH flX2_15 ht_h rfl rfl dX2_endorsed_1 (fun xq1_ l_xq1_ g_xq1_ => ?_)
  refine lv_iconst (v := 1) hx hb dX2_endorsed_4 (by decide) ?_
  refine jic_eq (tgt := 28) hx hb dX2_endorsed_5 (by decide) (fun cq2_ => ?_) (fun cq2_ => ?_)
  · skip
    have cq2_ : xq1_.toInt = 1 := cq2_
    refine lv_aload_n hx hb dX2_endorsed_28 rfl (lv_at hl 0 rfl) ?_
    refine tg hC hK hH flX2_15 ht_h rfl rfl dX2_endorsed_29 (fun xq3_ l_xq3_ g_xq3_ => ?_)
    refine lv_iconst (v := 1) hx hb dX2_endorsed_32 (by decide) ?_
    refine jic_eq (tgt := 56) hx hb dX2_endorsed_33 (by decide) (fun cq4_ => ?_) (fun cq4_ => ?_)
    · skip
      have cq4_ : xq3_.toInt = 1 := cq4_
      refine lv_aload_n hx hb dX2_endorsed_56 rfl (lv_at hl 0 rfl) ?_
      refine tg hC hK hH flX2_15 ht_h rfl rfl dX2_endorsed_57 (fun xq5_ l_xq5_ g_xq5_ => ?_)
      refine lv_iconst (v := 2) hx hb dX2_endorsed_60 (by decide) ?_
      refine jic_eq (tgt := 72) hx hb dX2_endorsed_61 (by decide) (fun cq6_ => ?_) (fun cq6_ => ?_)
      · skip
        have cq6_ : xq5_.toInt = 2 := cq6_
        refine lv_aload_n hx hb dX2_endorsed_72 rfl (lv_at hl 0 rfl) ?_
        refine lv_iconst (v := 2) hx hb dX2_endorsed_73 (by decide) ?_
        refine tpu hC hK hH flX2_15 ht_h rfl rfl (iRg _).1 (iRg _).2 rfl rfl dX2_endorsed_74 (fun Hq_ lcq_ Mq7_ _ hfr hH => ?_)
        have hF : ∀ q, FrK T q → Mq7_ q = M q := fun q hq  => (hfr q (neF hq ht_h (by decide))).trans (hF q hq )
        refine lv_aload_n hx hb dX2_endorsed_77 rfl (lv_at hl 0 rfl) ?_
        refine lv_aload_n hx hb dX2_endorsed_78 rfl (lv_at hl 1 rfl) ?_
        refine tg hC hK hH flX2_77 ht_st rfl rfl dX2_endorsed_79 (fun xq8_ l_xq8_ g_xq8_ => ?_)
        have l_xq8_ : (0 : Int) ≤ xq8_.toInt := l_xq8_
        have g_xq8_ : xq8_.toInt ≤ 7 := g_xq8_
        refine tpu hC hK hH flX2_19 ht_h rfl rfl (iRg _).1 (iRg _).2 rfl rfl dX2_endorsed_82 (fun Hq_ lcq_ Mq9_ _ hfr hH => ?_)
        have hF : ∀ q, FrK T q → Mq9_ q = M q := fun q hq  => (hfr q (neF hq ht_h (by decide))).trans (hF q hq )
        refine lv_iconst (v := 0) hx hb dX2_endorsed_85 (by decide) ?_
        exact ret_z hC hr hlk hK hH (by first | exact Or.inl rfl | exact Or.inr rfl | assumption) (⟨Or.inr (rfl), rfl, hF⟩) (Nat.le_of_ble_eq_true rfl) (Nat.le_of_ble_eq_true rfl) dX2_endorsed_86
      · skip
        have cq6_ : xq5_.toInt ≠ 2 := cq6_
        refine lv_aload_n hx hb dX2_endorsed_64 rfl (lv_at hl 1 rfl) ?_
        refine tg hC hK hH flX2_48 ht_st rfl rfl dX2_endorsed_65 (fun xq10_ l_xq10_ g_xq10_ => ?_)
        refine lv_iconst (v := 2) hx hb dX2_endorsed_68 (by decide) ?_
        refine jic_ne (tgt := 87) hx hb dX2_endorsed_69 (by decide) (fun cq11_ => ?_) (fun cq11_ => ?_)
        · skip
          have cq11_ : xq10_.toInt ≠ 2 := cq11_
          refine lv_aload_n hx hb dX2_endorsed_87 rfl (lv_at hl 0 rfl) ?_
          refine lv_aload_n hx hb dX2_endorsed_88 rfl (lv_at hl 1 rfl) ?_
          refine tg hC hK hH flX2_48 ht_st rfl rfl dX2_endorsed_89 (fun xq12_ l_xq12_ g_xq12_ => ?_)
          refine jif_ne (tgt := 99) hx hb dX2_endorsed_92 (by decide) (fun cq13_ => ?_) (fun cq13_ => ?_)
          · skip
            have cq13_ : xq12_.toInt ≠ 0 := cq13_
            refine lv_iconst (v := 0) hx hb dX2_endorsed_99 (by decide) ?_
            refine tpu hC hK hH flX2_15 ht_h rfl rfl (iRg _).1 (iRg _).2 rfl rfl dX2_endorsed_100 (fun Hq_ lcq_ Mq14_ _ hfr hH => ?_)
            have hF : ∀ q, FrK T q → Mq14_ q = M q := fun q hq  => (hfr q (neF hq ht_h (by decide))).trans (hF q hq )
            refine lv_aload_n hx hb dX2_endorsed_103 rfl (lv_at hl 0 rfl) ?_
            refine lv_aload_n hx hb dX2_endorsed_104 rfl (lv_at hl 1 rfl) ?_
            refine tg hC hK hH flX2_48 ht_st rfl rfl dX2_endorsed_105 (fun xq15_ l_xq15_ g_xq15_ => ?_)
            refine jif_ne (tgt := 115) hx hb dX2_endorsed_108 (by decide) (fun cq16_ => ?_) (fun cq16_ => ?_)
            · skip
              have cq16_ : xq15_.toInt ≠ 0 := cq16_
              refine lv_aload_n hx hb dX2_endorsed_115 rfl (lv_at hl 1 rfl) ?_
              refine tg hC hK hH flX2_77 ht_st rfl rfl dX2_endorsed_116 (fun xq17_ l_xq17_ g_xq17_ => ?_)
              have l_xq17_ : (0 : Int) ≤ xq17_.toInt := l_xq17_
              have g_xq17_ : xq17_.toInt ≤ 7 := g_xq17_
              refine tpu hC hK hH flX2_19 ht_h rfl rfl (iRg _).1 (iRg _).2 rfl rfl dX2_endorsed_119 (fun Hq_ lcq_ Mq18_ _ hfr hH => ?_)
              have hF : ∀ q, FrK T q → Mq18_ q = M q := fun q hq  => (hfr q (neF hq ht_h (by decide))).trans (hF q hq )
              refine lv_iconst (v := 1) hx hb dX2_endorsed_122 (by decide) ?_
              exact ret_z hC hr hlk hK hH (by first | exact Or.inl rfl | exact Or.inr rfl | assumption) (⟨Or.inl (rfl), rfl, hF⟩) (Nat.le_of_ble_eq_true rfl) (Nat.le_of_ble_eq_true rfl) dX2_endorsed_123
            · skip
              have cq16_ : xq15_.toInt = 0 := cq16_
              refine lv_iconst (v := -1) hx hb dX2_endorsed_111 (by decide) ?_
              refine lv_goto (tgt := 119) hx hb dX2_endorsed_112 (by decide) ?_
              refine tpu hC hK hH flX2_19 ht_h rfl rfl (iRg _).1 (iRg _).2 rfl rfl dX2_endorsed_119 (fun Hq_ lcq_ Mq19_ _ hfr hH => ?_)
              have hF : ∀ q, FrK T q → Mq19_ q = M q := fun q hq  => (hfr q (neF hq ht_h (by decide))).trans (hF q hq )
              refine lv_iconst (v := 1) hx hb dX2_endorsed_122 (by decide) ?_
              exact ret_z hC hr hlk hK hH (by first | exact Or.inl rfl | exact Or.inr rfl | assumption) (⟨Or.inl (rfl), rfl, hF⟩) (Nat.le_of_ble_eq_true rfl) (Nat.le_of_ble_eq_true rfl) dX2_endorsed_123
          · skip
            have cq13_ : xq12_.toInt = 0 := cq13_
            refine lv_iconst (v := 1) hx hb dX2_endorsed_95 (by decide) ?_
            refine lv_goto (tgt := 100) hx hb dX2_endorsed_96 (by decide) ?_
            refine tpu hC hK hH flX2_15 ht_h rfl rfl (iRg _).1 (iRg _).2 rfl rfl dX2_endorsed_100 (fun Hq_ lcq_ Mq20_ _ hfr hH => ?_)
            have hF : ∀ q, FrK T q → Mq20_ q = M q := fun q hq  => (hfr q (neF hq ht_h (by decide))).trans (hF q hq )
            refine lv_aload_n hx hb dX2_endorsed_103 rfl (lv_at hl 0 rfl) ?_
            refine lv_aload_n hx hb dX2_endorsed_104 rfl (lv_at hl 1 rfl) ?_
            refine tg hC hK hH flX2_48 ht_st rfl rfl dX2_endorsed_105 (fun xq21_ l_xq21_ g_xq21_ => ?_)
            refine jif_ne (tgt := 115) hx hb dX2_endorsed_108 (by decide) (fun cq22_ => ?_) (fun cq22_ => ?_)
            · skip
              have cq22_ : xq21_.toInt ≠ 0 := cq22_
              refine lv_aload_n hx hb dX2_endorsed_115 rfl (lv_at hl 1 rfl) ?_
              refine tg hC hK hH flX2_77 ht_st rfl rfl dX2_endorsed_116 (fun xq23_ l_xq23_ g_xq23_ => ?_)
              have l_xq23_ : (0 : Int) ≤ xq23_.toInt := l_xq23_
              have g_xq23_ : xq23_.toInt ≤ 7 := g_xq23_
              refine tpu hC hK hH flX2_19 ht_h rfl rfl (iRg _).1 (iRg _).2 rfl rfl dX2_endorsed_119 (fun Hq_ lcq_ Mq24_ _ hfr hH => ?_)
              have hF : ∀ q, FrK T q → Mq24_ q = M q := fun q hq  => (hfr q (neF hq ht_h (by decide))).trans (hF q hq )
              refine lv_iconst (v := 1) hx hb dX2_endorsed_122 (by decide) ?_
              exact ret_z hC hr hlk hK hH (by first | exact Or.inl rfl | exact Or.inr rfl | assumption) (⟨Or.inl (rfl), rfl, hF⟩) (Nat.le_of_ble_eq_true rfl) (Nat.le_of_ble_eq_true rfl) dX2_endorsed_123
            · skip
              have cq22_ : xq21_.toInt = 0 := cq22_
              refine lv_iconst (v := -1) hx hb dX2_endorsed_111 (by decide) ?_
              refine lv_goto (tgt := 119) hx hb dX2_endorsed_112 (by decide) ?_
              refine tpu hC hK hH flX2_19 ht_h rfl rfl (iRg _).1 (iRg _).2 rfl rfl dX2_endorsed_119 (fun Hq_ lcq_ Mq25_ _ hfr hH => ?_)
              have hF : ∀ q, FrK T q → Mq25_ q = M q := fun q hq  => (hfr q (neF hq ht_h (by decide))).trans (hF q hq )
              refine lv_iconst (v := 1) hx hb dX2_endorsed_122 (by decide) ?_
              exact ret_z hC hr hlk hK hH (by first | exact Or.inl rfl | exact Or.inr rfl | assumption) (⟨Or.inl (rfl), rfl, hF⟩) (Nat.le_of_ble_eq_true rfl) (Nat.le_of_ble_eq_true rfl) dX2_endorsed_123
        · skip
          have cq11_ : xq10_.toInt = 2 := cq11_
          refine lv_aload_n hx hb dX2_endorsed_72 rfl (lv_at hl 0 rfl) ?_
          refine lv_iconst (v := 2) hx hb dX2_endorsed_73 (by decide) ?_
          refine tpu hC hK hH flX2_15 ht_h rfl rfl (iRg _).1 (iRg _).2 rfl rfl dX2_endorsed_74 (fun Hq_ lcq_ Mq26_ _ hfr hH => ?_)
          have hF : ∀ q, FrK T q → Mq26_ q = M q := fun q hq  => (hfr q (neF hq ht_h (by decide))).trans (hF q hq )
          refine lv_aload_n hx hb dX2_endorsed_77 rfl (lv_at hl 0 rfl) ?_
          refine lv_aload_n hx hb dX2_endorsed_78 rfl (lv_at hl 1 rfl) ?_
          refine tg hC hK hH flX2_77 ht_st rfl rfl dX2_endorsed_79 (fun xq27_ l_xq27_ g_xq27_ => ?_)
          have l_xq27_ : (0 : Int) ≤ xq27_.toInt := l_xq27_
          have g_xq27_ : xq27_.toInt ≤ 7 := g_xq27_
          refine tpu hC hK hH flX2_19 ht_h rfl rfl (iRg _).1 (iRg _).2 rfl rfl dX2_endorsed_82 (fun Hq_ lcq_ Mq28_ _ hfr hH => ?_)
          have hF : ∀ q, FrK T q → Mq28_ q = M q := fun q hq  => (hfr q (neF hq ht_h (by decide))).trans (hF q hq )
          refine lv_iconst (v := 0) hx hb dX2_endorsed_85 (by decide) ?_
          exact ret_z hC hr hlk hK hH (by first | exact Or.inl rfl | exact Or.inr rfl | assumption) (⟨Or.inr (rfl), rfl, hF⟩) (Nat.le_of_ble_eq_true rfl) (Nat.le_of_ble_eq_true rfl) dX2_endorsed_86
    · skip
      have cq4_ : xq3_.toInt ≠ 1 := cq4_
      refine lv_aload_n hx hb dX2_endorsed_36 rfl (lv_at hl 1 rfl) ?_
      refine goI hK hH (runV (As := []) (rest := []) hC hK hH (c_X6_forged ht_st) mlX2_86 (rcvT hK hH ht_st rfl rfl) ⟨⟨Nat.le_of_ble_eq_true rfl, Nat.le_of_ble_eq_true rfl⟩, Nat.le_of_ble_eq_true rfl, Nat.le_of_ble_eq_true rfl⟩ rfl hl.1 rfl (Nat.le_of_ble_eq_true rfl) dX2_endorsed_37) (fun rq31_ Mq29_ Tq30_ Hq_ lcq_ hP hz hH => ?_)
      try dsimp only at hP
      obtain ⟨(er_rq31_ | er_rq31_), eT, eM⟩ := hP
      · skip
        have eT := eT.symm; subst eT
        have er_rq31_ := er_rq31_.symm; subst er_rq31_
        have eM := eM.symm; subst eM
        refine jif_eq (tgt := 56) hx hb dX2_endorsed_40 (by decide) (fun cq32_ => absurd cq32_ (by decide)) (fun cq32_ => ?_)
        refine lv_iload_n hx hb dX2_endorsed_43 rfl (lv_at hl 3 rfl) ?_
        refine jif_ne (tgt := 56) hx hb dX2_endorsed_44 (by decide) (fun cq33_ => ?_) (fun cq33_ => ?_)
        · skip
          have cq33_ : cu.toInt ≠ 0 := cq33_
          refine lv_aload_n hx hb dX2_endorsed_56 rfl (lv_at hl 0 rfl) ?_
          refine tg hC hK hH flX2_15 ht_h rfl rfl dX2_endorsed_57 (fun xq34_ l_xq34_ g_xq34_ => ?_)
          refine lv_iconst (v := 2) hx hb dX2_endorsed_60 (by decide) ?_
          refine jic_eq (tgt := 72) hx hb dX2_endorsed_61 (by decide) (fun cq35_ => ?_) (fun cq35_ => ?_)
          · skip
            have cq35_ : xq34_.toInt = 2 := cq35_
            refine lv_aload_n hx hb dX2_endorsed_72 rfl (lv_at hl 0 rfl) ?_
            refine lv_iconst (v := 2) hx hb dX2_endorsed_73 (by decide) ?_
            refine tpu hC hK hH flX2_15 ht_h rfl rfl (iRg _).1 (iRg _).2 rfl rfl dX2_endorsed_74 (fun Hq_ lcq_ Mq36_ _ hfr hH => ?_)
            have hF : ∀ q, FrK T q → Mq36_ q = M q := fun q hq  => (hfr q (neF hq ht_h (by decide))).trans (hF q hq )
            refine lv_aload_n hx hb dX2_endorsed_77 rfl (lv_at hl 0 rfl) ?_
            refine lv_aload_n hx hb dX2_endorsed_78 rfl (lv_at hl 1 rfl) ?_
            refine tg hC hK hH flX2_77 ht_st rfl rfl dX2_endorsed_79 (fun xq37_ l_xq37_ g_xq37_ => ?_)
            have l_xq37_ : (0 : Int) ≤ xq37_.toInt := l_xq37_
            have g_xq37_ : xq37_.toInt ≤ 7 := g_xq37_
            refine tpu hC hK hH flX2_19 ht_h rfl rfl (iRg _).1 (iRg _).2 rfl rfl dX2_endorsed_82 (fun Hq_ lcq_ Mq38_ _ hfr hH => ?_)
            have hF : ∀ q, FrK T q → Mq38_ q = M q := fun q hq  => (hfr q (neF hq ht_h (by decide))).trans (hF q hq )
            refine lv_iconst (v := 0) hx hb dX2_endorsed_85 (by decide) ?_
            exact ret_z hC hr hlk hK hH (by first | exact Or.inl rfl | exact Or.inr rfl | assumption) (⟨Or.inr (rfl), rfl, hF⟩) (Nat.le_of_ble_eq_true rfl) (Nat.le_of_ble_eq_true rfl) dX2_endorsed_86
          · skip
            have cq35_ : xq34_.toInt ≠ 2 := cq35_
            refine lv_aload_n hx hb dX2_endorsed_64 rfl (lv_at hl 1 rfl) ?_
            refine tg hC hK hH flX2_48 ht_st rfl rfl dX2_endorsed_65 (fun xq39_ l_xq39_ g_xq39_ => ?_)
            refine lv_iconst (v := 2) hx hb dX2_endorsed_68 (by decide) ?_
            refine jic_ne (tgt := 87) hx hb dX2_endorsed_69 (by decide) (fun cq40_ => ?_) (fun cq40_ => ?_)
            · skip
              have cq40_ : xq39_.toInt ≠ 2 := cq40_
              refine lv_aload_n hx hb dX2_endorsed_87 rfl (lv_at hl 0 rfl) ?_
              refine lv_aload_n hx hb dX2_endorsed_88 rfl (lv_at hl 1 rfl) ?_
              refine tg hC hK hH flX2_48 ht_st rfl rfl dX2_endorsed_89 (fun xq41_ l_xq41_ g_xq41_ => ?_)
              refine jif_ne (tgt := 99) hx hb dX2_endorsed_92 (by decide) (fun cq42_ => ?_) (fun cq42_ => ?_)
              · skip
                have cq42_ : xq41_.toInt ≠ 0 := cq42_
                refine lv_iconst (v := 0) hx hb dX2_endorsed_99 (by decide) ?_
                refine tpu hC hK hH flX2_15 ht_h rfl rfl (iRg _).1 (iRg _).2 rfl rfl dX2_endorsed_100 (fun Hq_ lcq_ Mq43_ _ hfr hH => ?_)
                have hF : ∀ q, FrK T q → Mq43_ q = M q := fun q hq  => (hfr q (neF hq ht_h (by decide))).trans (hF q hq )
                refine lv_aload_n hx hb dX2_endorsed_103 rfl (lv_at hl 0 rfl) ?_
                refine lv_aload_n hx hb dX2_endorsed_104 rfl (lv_at hl 1 rfl) ?_
                refine tg hC hK hH flX2_48 ht_st rfl rfl dX2_endorsed_105 (fun xq44_ l_xq44_ g_xq44_ => ?_)
                refine jif_ne (tgt := 115) hx hb dX2_endorsed_108 (by decide) (fun cq45_ => ?_) (fun cq45_ => ?_)
                · skip
                  have cq45_ : xq44_.toInt ≠ 0 := cq45_
                  refine lv_aload_n hx hb dX2_endorsed_115 rfl (lv_at hl 1 rfl) ?_
                  refine tg hC hK hH flX2_77 ht_st rfl rfl dX2_endorsed_116 (fun xq46_ l_xq46_ g_xq46_ => ?_)
                  have l_xq46_ : (0 : Int) ≤ xq46_.toInt := l_xq46_
                  have g_xq46_ : xq46_.toInt ≤ 7 := g_xq46_
                  refine tpu hC hK hH flX2_19 ht_h rfl rfl (iRg _).1 (iRg _).2 rfl rfl dX2_endorsed_119 (fun Hq_ lcq_ Mq47_ _ hfr hH => ?_)
                  have hF : ∀ q, FrK T q → Mq47_ q = M q := fun q hq  => (hfr q (neF hq ht_h (by decide))).trans (hF q hq )
                  refine lv_iconst (v := 1) hx hb dX2_endorsed_122 (by decide) ?_
                  exact ret_z hC hr hlk hK hH (by first | exact Or.inl rfl | exact Or.inr rfl | assumption) (⟨Or.inl (rfl), rfl, hF⟩) (Nat.le_of_ble_eq_true rfl) (Nat.le_of_ble_eq_true rfl) dX2_endorsed_123
                · skip
                  have cq45_ : xq44_.toInt = 0 := cq45_
                  refine lv_iconst (v := -1) hx hb dX2_endorsed_111 (by decide) ?_
                  refine lv_goto (tgt := 119) hx hb dX2_endorsed_112 (by decide) ?_
                  refine tpu hC hK hH flX2_19 ht_h rfl rfl (iRg _).1 (iRg _).2 rfl rfl dX2_endorsed_119 (fun Hq_ lcq_ Mq48_ _ hfr hH => ?_)
                  have hF : ∀ q, FrK T q → Mq48_ q = M q := fun q hq  => (hfr q (neF hq ht_h (by decide))).trans (hF q hq )
                  refine lv_iconst (v := 1) hx hb dX2_endorsed_122 (by decide) ?_
                  exact ret_z hC hr hlk hK hH (by first | exact Or.inl rfl | exact Or.inr rfl | assumption) (⟨Or.inl (rfl), rfl, hF⟩) (Nat.le_of_ble_eq_true rfl) (Nat.le_of_ble_eq_true rfl) dX2_endorsed_123
              · skip
                have cq42_ : xq41_.toInt = 0 := cq42_
                refine lv_iconst (v := 1) hx hb dX2_endorsed_95 (by decide) ?_
                refine lv_goto (tgt := 100) hx hb dX2_endorsed_96 (by decide) ?_
                refine tpu hC hK hH flX2_15 ht_h rfl rfl (iRg _).1 (iRg _).2 rfl rfl dX2_endorsed_100 (fun Hq_ lcq_ Mq49_ _ hfr hH => ?_)
                have hF : ∀ q, FrK T q → Mq49_ q = M q := fun q hq  => (hfr q (neF hq ht_h (by decide))).trans (hF q hq )
                refine lv_aload_n hx hb dX2_endorsed_103 rfl (lv_at hl 0 rfl) ?_
                refine lv_aload_n hx hb dX2_endorsed_104 rfl (lv_at hl 1 rfl) ?_
                refine tg hC hK hH flX2_48 ht_st rfl rfl dX2_endorsed_105 (fun xq50_ l_xq50_ g_xq50_ => ?_)
                refine jif_ne (tgt := 115) hx hb dX2_endorsed_108 (by decide) (fun cq51_ => ?_) (fun cq51_ => ?_)
                · skip
                  have cq51_ : xq50_.toInt ≠ 0 := cq51_
                  refine lv_aload_n hx hb dX2_endorsed_115 rfl (lv_at hl 1 rfl) ?_
                  refine tg hC hK hH flX2_77 ht_st rfl rfl dX2_endorsed_116 (fun xq52_ l_xq52_ g_xq52_ => ?_)
                  have l_xq52_ : (0 : Int) ≤ xq52_.toInt := l_xq52_
                  have g_xq52_ : xq52_.toInt ≤ 7 := g_xq52_
                  refine tpu hC hK hH flX2_19 ht_h rfl rfl (iRg _).1 (iRg _).2 rfl rfl dX2_endorsed_119 (fun Hq_ lcq_ Mq53_ _ hfr hH => ?_)
                  have hF : ∀ q, FrK T q → Mq53_ q = M q := fun q hq  => (hfr q (neF hq ht_h (by decide))).trans (hF q hq )
                  refine lv_iconst (v := 1) hx hb dX2_endorsed_122 (by decide) ?_
                  exact ret_z hC hr hlk hK hH (by first | exact Or.inl rfl | exact Or.inr rfl | assumption) (⟨Or.inl (rfl), rfl, hF⟩) (Nat.le_of_ble_eq_true rfl) (Nat.le_of_ble_eq_true rfl) dX2_endorsed_123
                · skip
                  have cq51_ : xq50_.toInt = 0 := cq51_
                  refine lv_iconst (v := -1) hx hb dX2_endorsed_111 (by decide) ?_
                  refine lv_goto (tgt := 119) hx hb dX2_endorsed_112 (by decide) ?_
                  refine tpu hC hK hH flX2_19 ht_h rfl rfl (iRg _).1 (iRg _).2 rfl rfl dX2_endorsed_119 (fun Hq_ lcq_ Mq54_ _ hfr hH => ?_)
                  have hF : ∀ q, FrK T q → Mq54_ q = M q := fun q hq  => (hfr q (neF hq ht_h (by decide))).trans (hF q hq )
                  refine lv_iconst (v := 1) hx hb dX2_endorsed_122 (by decide) ?_
                  exact ret_z hC hr hlk hK hH (by first | exact Or.inl rfl | exact Or.inr rfl | assumption) (⟨Or.inl (rfl), rfl, hF⟩) (Nat.le_of_ble_eq_true rfl) (Nat.le_of_ble_eq_true rfl) dX2_endorsed_123
            · skip
              have cq40_ : xq39_.toInt = 2 := cq40_
              refine lv_aload_n hx hb dX2_endorsed_72 rfl (lv_at hl 0 rfl) ?_
              refine lv_iconst (v := 2) hx hb dX2_endorsed_73 (by decide) ?_
              refine tpu hC hK hH flX2_15 ht_h rfl rfl (iRg _).1 (iRg _).2 rfl rfl dX2_endorsed_74 (fun Hq_ lcq_ Mq55_ _ hfr hH => ?_)
              have hF : ∀ q, FrK T q → Mq55_ q = M q := fun q hq  => (hfr q (neF hq ht_h (by decide))).trans (hF q hq )
              refine lv_aload_n hx hb dX2_endorsed_77 rfl (lv_at hl 0 rfl) ?_
              refine lv_aload_n hx hb dX2_endorsed_78 rfl (lv_at hl 1 rfl) ?_
              refine tg hC hK hH flX2_77 ht_st rfl rfl dX2_endorsed_79 (fun xq56_ l_xq56_ g_xq56_ => ?_)
              have l_xq56_ : (0 : Int) ≤ xq56_.toInt := l_xq56_
              have g_xq56_ : xq56_.toInt ≤ 7 := g_xq56_
              refine tpu hC hK hH flX2_19 ht_h rfl rfl (iRg _).1 (iRg _).2 rfl rfl dX2_endorsed_82 (fun Hq_ lcq_ Mq57_ _ hfr hH => ?_)
              have hF : ∀ q, FrK T q → Mq57_ q = M q := fun q hq  => (hfr q (neF hq ht_h (by decide))).trans (hF q hq )
              refine lv_iconst (v := 0) hx hb dX2_endorsed_85 (by decide) ?_
              exact ret_z hC hr hlk hK hH (by first | exact Or.inl rfl | exact Or.inr rfl | assumption) (⟨Or.inr (rfl), rfl, hF⟩) (Nat.le_of_ble_eq_true rfl) (Nat.le_of_ble_eq_true rfl) dX2_endorsed_86
        · skip
          have cq33_ : cu.toInt = 0 := cq33_
          refine lv_aload_n hx hb dX2_endorsed_47 rfl (lv_at hl 0 rfl) ?_
          refine lv_iload_n hx hb dX2_endorsed_48 rfl (lv_at hl 2 rfl) ?_
          refine lv_bipush (v := 12) hx hb dX2_endorsed_49 (by decide) ?_
          refine goV hK hH (runV (As := [.int at_, .int 12]) (rest := []) hC hK hH (c_X2_breakAt ht_h) mlX2_83 (rcvT hK hH ht_h rfl rfl) ⟨⟨Nat.le_of_ble_eq_true rfl, Nat.le_of_ble_eq_true rfl⟩, Nat.le_of_ble_eq_true rfl, Nat.le_of_ble_eq_true rfl⟩ rfl hl.1 rfl (Nat.le_of_ble_eq_true rfl) dX2_endorsed_51) (fun Mq58_ Tq59_ Hq_ lcq_ hP hz hH => ?_)
          try dsimp only at hP
          obtain ⟨(-), eT, hfr⟩ := hP
          have eT := eT.symm; subst eT
          have hF : ∀ q, FrK T q → Mq58_ q = M q := fun q hq  => (hfr q hq ).trans (hF q hq )
          refine lv_iconst (v := 0) hx hb dX2_endorsed_54 (by decide) ?_
          exact ret_z hC hr hlk hK hH (by first | exact Or.inl rfl | exact Or.inr rfl | assumption) (⟨Or.inr (rfl), rfl, hF⟩) (Nat.le_of_ble_eq_true rfl) (Nat.le_of_ble_eq_true rfl) dX2_endorsed_55
      · skip
        have eT := eT.symm; subst eT
        have er_rq31_ := er_rq31_.symm; subst er_rq31_
        have eM := eM.symm; subst eM
        refine jif_eq (tgt := 56) hx hb dX2_endorsed_40 (by decide) (fun cq61_ => ?_) (fun cq61_ => absurd cq61_ (by decide))
        refine lv_aload_n hx hb dX2_endorsed_56 rfl (lv_at hl 0 rfl) ?_
        refine tg hC hK hH flX2_15 ht_h rfl rfl dX2_endorsed_57 (fun xq62_ l_xq62_ g_xq62_ => ?_)
        refine lv_iconst (v := 2) hx hb dX2_endorsed_60 (by decide) ?_
        refine jic_eq (tgt := 72) hx hb dX2_endorsed_61 (by decide) (fun cq63_ => ?_) (fun cq63_ => ?_)
        · skip
          have cq63_ : xq62_.toInt = 2 := cq63_
          refine lv_aload_n hx hb dX2_endorsed_72 rfl (lv_at hl 0 rfl) ?_
          refine lv_iconst (v := 2) hx hb dX2_endorsed_73 (by decide) ?_
          refine tpu hC hK hH flX2_15 ht_h rfl rfl (iRg _).1 (iRg _).2 rfl rfl dX2_endorsed_74 (fun Hq_ lcq_ Mq64_ _ hfr hH => ?_)
          have hF : ∀ q, FrK T q → Mq64_ q = M q := fun q hq  => (hfr q (neF hq ht_h (by decide))).trans (hF q hq )
          refine lv_aload_n hx hb dX2_endorsed_77 rfl (lv_at hl 0 rfl) ?_
          refine lv_aload_n hx hb dX2_endorsed_78 rfl (lv_at hl 1 rfl) ?_
          refine tg hC hK hH flX2_77 ht_st rfl rfl dX2_endorsed_79 (fun xq65_ l_xq65_ g_xq65_ => ?_)
          have l_xq65_ : (0 : Int) ≤ xq65_.toInt := l_xq65_
          have g_xq65_ : xq65_.toInt ≤ 7 := g_xq65_
          refine tpu hC hK hH flX2_19 ht_h rfl rfl (iRg _).1 (iRg _).2 rfl rfl dX2_endorsed_82 (fun Hq_ lcq_ Mq66_ _ hfr hH => ?_)
          have hF : ∀ q, FrK T q → Mq66_ q = M q := fun q hq  => (hfr q (neF hq ht_h (by decide))).trans (hF q hq )
          refine lv_iconst (v := 0) hx hb dX2_endorsed_85 (by decide) ?_
          exact ret_z hC hr hlk hK hH (by first | exact Or.inl rfl | exact Or.inr rfl | assumption) (⟨Or.inr (rfl), rfl, hF⟩) (Nat.le_of_ble_eq_true rfl) (Nat.le_of_ble_eq_true rfl) dX2_endorsed_86
        · skip
          have cq63_ : xq62_.toInt ≠ 2 := cq63_
          refine lv_aload_n hx hb dX2_endorsed_64 rfl (lv_at hl 1 rfl) ?_
          refine tg hC hK hH flX2_48 ht_st rfl rfl dX2_endorsed_65 (fun xq67_ l_xq67_ g_xq67_ => ?_)
          refine lv_iconst (v := 2) hx hb dX2_endorsed_68 (by decide) ?_
          refine jic_ne (tgt := 87) hx hb dX2_endorsed_69 (by decide) (fun cq68_ => ?_) (fun cq68_ => ?_)
          · skip
            have cq68_ : xq67_.toInt ≠ 2 := cq68_
            refine lv_aload_n hx hb dX2_endorsed_87 rfl (lv_at hl 0 rfl) ?_
            refine lv_aload_n hx hb dX2_endorsed_88 rfl (lv_at hl 1 rfl) ?_
            refine tg hC hK hH flX2_48 ht_st rfl rfl dX2_endorsed_89 (fun xq69_ l_xq69_ g_xq69_ => ?_)
            refine jif_ne (tgt := 99) hx hb dX2_endorsed_92 (by decide) (fun cq70_ => ?_) (fun cq70_ => ?_)
            · skip
              have cq70_ : xq69_.toInt ≠ 0 := cq70_
              refine lv_iconst (v := 0) hx hb dX2_endorsed_99 (by decide) ?_
              refine tpu hC hK hH flX2_15 ht_h rfl rfl (iRg _).1 (iRg _).2 rfl rfl dX2_endorsed_100 (fun Hq_ lcq_ Mq71_ _ hfr hH => ?_)
              have hF : ∀ q, FrK T q → Mq71_ q = M q := fun q hq  => (hfr q (neF hq ht_h (by decide))).trans (hF q hq )
              refine lv_aload_n hx hb dX2_endorsed_103 rfl (lv_at hl 0 rfl) ?_
              refine lv_aload_n hx hb dX2_endorsed_104 rfl (lv_at hl 1 rfl) ?_
              refine tg hC hK hH flX2_48 ht_st rfl rfl dX2_endorsed_105 (fun xq72_ l_xq72_ g_xq72_ => ?_)
              refine jif_ne (tgt := 115) hx hb dX2_endorsed_108 (by decide) (fun cq73_ => ?_) (fun cq73_ => ?_)
              · skip
                have cq73_ : xq72_.toInt ≠ 0 := cq73_
                refine lv_aload_n hx hb dX2_endorsed_115 rfl (lv_at hl 1 rfl) ?_
                refine tg hC hK hH flX2_77 ht_st rfl rfl dX2_endorsed_116 (fun xq74_ l_xq74_ g_xq74_ => ?_)
                have l_xq74_ : (0 : Int) ≤ xq74_.toInt := l_xq74_
                have g_xq74_ : xq74_.toInt ≤ 7 := g_xq74_
                refine tpu hC hK hH flX2_19 ht_h rfl rfl (iRg _).1 (iRg _).2 rfl rfl dX2_endorsed_119 (fun Hq_ lcq_ Mq75_ _ hfr hH => ?_)
                have hF : ∀ q, FrK T q → Mq75_ q = M q := fun q hq  => (hfr q (neF hq ht_h (by decide))).trans (hF q hq )
                refine lv_iconst (v := 1) hx hb dX2_endorsed_122 (by decide) ?_
                exact ret_z hC hr hlk hK hH (by first | exact Or.inl rfl | exact Or.inr rfl | assumption) (⟨Or.inl (rfl), rfl, hF⟩) (Nat.le_of_ble_eq_true rfl) (Nat.le_of_ble_eq_true rfl) dX2_endorsed_123
              · skip
                have cq73_ : xq72_.toInt = 0 := cq73_
                refine lv_iconst (v := -1) hx hb dX2_endorsed_111 (by decide) ?_
                refine lv_goto (tgt := 119) hx hb dX2_endorsed_112 (by decide) ?_
                refine tpu hC hK hH flX2_19 ht_h rfl rfl (iRg _).1 (iRg _).2 rfl rfl dX2_endorsed_119 (fun Hq_ lcq_ Mq76_ _ hfr hH => ?_)
                have hF : ∀ q, FrK T q → Mq76_ q = M q := fun q hq  => (hfr q (neF hq ht_h (by decide))).trans (hF q hq )
                refine lv_iconst (v := 1) hx hb dX2_endorsed_122 (by decide) ?_
                exact ret_z hC hr hlk hK hH (by first | exact Or.inl rfl | exact Or.inr rfl | assumption) (⟨Or.inl (rfl), rfl, hF⟩) (Nat.le_of_ble_eq_true rfl) (Nat.le_of_ble_eq_true rfl) dX2_endorsed_123
            · skip
              have cq70_ : xq69_.toInt = 0 := cq70_
              refine lv_iconst (v := 1) hx hb dX2_endorsed_95 (by decide) ?_
              refine lv_goto (tgt := 100) hx hb dX2_endorsed_96 (by decide) ?_
              refine tpu hC hK hH flX2_15 ht_h rfl rfl (iRg _).1 (iRg _).2 rfl rfl dX2_endorsed_100 (fun Hq_ lcq_ Mq77_ _ hfr hH => ?_)
              have hF : ∀ q, FrK T q → Mq77_ q = M q := fun q hq  => (hfr q (neF hq ht_h (by decide))).trans (hF q hq )
              refine lv_aload_n hx hb dX2_endorsed_103 rfl (lv_at hl 0 rfl) ?_
              refine lv_aload_n hx hb dX2_endorsed_104 rfl (lv_at hl 1 rfl) ?_
              refine tg hC hK hH flX2_48 ht_st rfl rfl dX2_endorsed_105 (fun xq78_ l_xq78_ g_xq78_ => ?_)
              refine jif_ne (tgt := 115) hx hb dX2_endorsed_108 (by decide) (fun cq79_ => ?_) (fun cq79_ => ?_)
              · skip
                have cq79_ : xq78_.toInt ≠ 0 := cq79_
                refine lv_aload_n hx hb dX2_endorsed_115 rfl (lv_at hl 1 rfl) ?_
                refine tg hC hK hH flX2_77 ht_st rfl rfl dX2_endorsed_116 (fun xq80_ l_xq80_ g_xq80_ => ?_)
                have l_xq80_ : (0 : Int) ≤ xq80_.toInt := l_xq80_
                have g_xq80_ : xq80_.toInt ≤ 7 := g_xq80_
                refine tpu hC hK hH flX2_19 ht_h rfl rfl (iRg _).1 (iRg _).2 rfl rfl dX2_endorsed_119 (fun Hq_ lcq_ Mq81_ _ hfr hH => ?_)
                have hF : ∀ q, FrK T q → Mq81_ q = M q := fun q hq  => (hfr q (neF hq ht_h (by decide))).trans (hF q hq )
                refine lv_iconst (v := 1) hx hb dX2_endorsed_122 (by decide) ?_
                exact ret_z hC hr hlk hK hH (by first | exact Or.inl rfl | exact Or.inr rfl | assumption) (⟨Or.inl (rfl), rfl, hF⟩) (Nat.le_of_ble_eq_true rfl) (Nat.le_of_ble_eq_true rfl) dX2_endorsed_123
              · skip
                have cq79_ : xq78_.toInt = 0 := cq79_
                refine lv_iconst (v := -1) hx hb dX2_endorsed_111 (by decide) ?_
                refine lv_goto (tgt := 119) hx hb dX2_endorsed_112 (by decide) ?_
                refine tpu hC hK hH flX2_19 ht_h rfl rfl (iRg _).1 (iRg _).2 rfl rfl dX2_endorsed_119 (fun Hq_ lcq_ Mq82_ _ hfr hH => ?_)
                have hF : ∀ q, FrK T q → Mq82_ q = M q := fun q hq  => (hfr q (neF hq ht_h (by decide))).trans (hF q hq )
                refine lv_iconst (v := 1) hx hb dX2_endorsed_122 (by decide) ?_
                exact ret_z hC hr hlk hK hH (by first | exact Or.inl rfl | exact Or.inr rfl | assumption) (⟨Or.inl (rfl), rfl, hF⟩) (Nat.le_of_ble_eq_true rfl) (Nat.le_of_ble_eq_true rfl) dX2_endorsed_123
          · skip
            have cq68_ : xq67_.toInt = 2 := cq68_
            refine lv_aload_n hx hb dX2_endorsed_72 rfl (lv_at hl 0 rfl) ?_
            refine lv_iconst (v := 2) hx hb dX2_endorsed_73 (by decide) ?_
            refine tpu hC hK hH flX2_15 ht_h rfl rfl (iRg _).1 (iRg _).2 rfl rfl dX2_endorsed_74 (fun Hq_ lcq_ Mq83_ _ hfr hH => ?_)
            have hF : ∀ q, FrK T q → Mq83_ q = M q := fun q hq  => (hfr q (neF hq ht_h (by decide))).trans (hF q hq )
            refine lv_aload_n hx hb dX2_endorsed_77 rfl (lv_at hl 0 rfl) ?_
            refine lv_aload_n hx hb dX2_endorsed_78 rfl (lv_at hl 1 rfl) ?_
            refine tg hC hK hH flX2_77 ht_st rfl rfl dX2_endorsed_79 (fun xq84_ l_xq84_ g_xq84_ => ?_)
            have l_xq84_ : (0 : Int) ≤ xq84_.toInt := l_xq84_
            have g_xq84_ : xq84_.toInt ≤ 7 := g_xq84_
            refine tpu hC hK hH flX2_19 ht_h rfl rfl (iRg _).1 (iRg _).2 rfl rfl dX2_endorsed_82 (fun Hq_ lcq_ Mq85_ _ hfr hH => ?_)
            have hF : ∀ q, FrK T q → Mq85_ q = M q := fun q hq  => (hfr q (neF hq ht_h (by decide))).trans (hF q hq )
            refine lv_iconst (v := 0) hx hb dX2_endorsed_85 (by decide) ?_
            exact ret_z hC hr hlk hK hH (by first | exact Or.inl rfl | exact Or.inr rfl | assumption) (⟨Or.inr (rfl), rfl, hF⟩) (Nat.le_of_ble_eq_true rfl) (Nat.le_of_ble_eq_true rfl) dX2_endorsed_86
  · skip
    have cq2_ : xq1_.toInt ≠ 1 := cq2_
    refine lv_aload_n hx hb dX2_endorsed_8 rfl (lv_at hl 1 rfl) ?_
    refine tg hC hK hH flX2_80 ht_st rfl rfl dX2_endorsed_9 (fun xq86_ l_xq86_ g_xq86_ => ?_)
    refine lv_aload_n hx hb dX2_endorsed_12 rfl (lv_at hl 0 rfl) ?_
    refine tg hC hK hH flX2_19 ht_h rfl rfl dX2_endorsed_13 (fun xq87_ l_xq87_ g_xq87_ => ?_)
    refine jic_eq (tgt := 28) hx hb dX2_endorsed_16 (by decide) (fun cq88_ => ?_) (fun cq88_ => ?_)
    · skip
      have cq88_ : xq86_.toInt = xq87_.toInt := cq88_
      refine lv_aload_n hx hb dX2_endorsed_28 rfl (lv_at hl 0 rfl) ?_
      refine tg hC hK hH flX2_15 ht_h rfl rfl dX2_endorsed_29 (fun xq89_ l_xq89_ g_xq89_ => ?_)
      refine lv_iconst (v := 1) hx hb dX2_endorsed_32 (by decide) ?_
      refine jic_eq (tgt := 56) hx hb dX2_endorsed_33 (by decide) (fun cq90_ => ?_) (fun cq90_ => ?_)
      · skip
        have cq90_ : xq89_.toInt = 1 := cq90_
        refine lv_aload_n hx hb dX2_endorsed_56 rfl (lv_at hl 0 rfl) ?_
        refine tg hC hK hH flX2_15 ht_h rfl rfl dX2_endorsed_57 (fun xq91_ l_xq91_ g_xq91_ => ?_)
        refine lv_iconst (v := 2) hx hb dX2_endorsed_60 (by decide) ?_
        refine jic_eq (tgt := 72) hx hb dX2_endorsed_61 (by decide) (fun cq92_ => ?_) (fun cq92_ => ?_)
        · skip
          have cq92_ : xq91_.toInt = 2 := cq92_
          refine lv_aload_n hx hb dX2_endorsed_72 rfl (lv_at hl 0 rfl) ?_
          refine lv_iconst (v := 2) hx hb dX2_endorsed_73 (by decide) ?_
          refine tpu hC hK hH flX2_15 ht_h rfl rfl (iRg _).1 (iRg _).2 rfl rfl dX2_endorsed_74 (fun Hq_ lcq_ Mq93_ _ hfr hH => ?_)
          have hF : ∀ q, FrK T q → Mq93_ q = M q := fun q hq  => (hfr q (neF hq ht_h (by decide))).trans (hF q hq )
          refine lv_aload_n hx hb dX2_endorsed_77 rfl (lv_at hl 0 rfl) ?_
          refine lv_aload_n hx hb dX2_endorsed_78 rfl (lv_at hl 1 rfl) ?_
          refine tg hC hK hH flX2_77 ht_st rfl rfl dX2_endorsed_79 (fun xq94_ l_xq94_ g_xq94_ => ?_)
          have l_xq94_ : (0 : Int) ≤ xq94_.toInt := l_xq94_
          have g_xq94_ : xq94_.toInt ≤ 7 := g_xq94_
          refine tpu hC hK hH flX2_19 ht_h rfl rfl (iRg _).1 (iRg _).2 rfl rfl dX2_endorsed_82 (fun Hq_ lcq_ Mq95_ _ hfr hH => ?_)
          have hF : ∀ q, FrK T q → Mq95_ q = M q := fun q hq  => (hfr q (neF hq ht_h (by decide))).trans (hF q hq )
          refine lv_iconst (v := 0) hx hb dX2_endorsed_85 (by decide) ?_
          exact ret_z hC hr hlk hK hH (by first | exact Or.inl rfl | exact Or.inr rfl | assumption) (⟨Or.inr (rfl), rfl, hF⟩) (Nat.le_of_ble_eq_true rfl) (Nat.le_of_ble_eq_true rfl) dX2_endorsed_86
        · skip
          have cq92_ : xq91_.toInt ≠ 2 := cq92_
          refine lv_aload_n hx hb dX2_endorsed_64 rfl (lv_at hl 1 rfl) ?_
          refine tg hC hK hH flX2_48 ht_st rfl rfl dX2_endorsed_65 (fun xq96_ l_xq96_ g_xq96_ => ?_)
          refine lv_iconst (v := 2) hx hb dX2_endorsed_68 (by decide) ?_
          refine jic_ne (tgt := 87) hx hb dX2_endorsed_69 (by decide) (fun cq97_ => ?_) (fun cq97_ => ?_)
          · skip
            have cq97_ : xq96_.toInt ≠ 2 := cq97_
            refine lv_aload_n hx hb dX2_endorsed_87 rfl (lv_at hl 0 rfl) ?_
            refine lv_aload_n hx hb dX2_endorsed_88 rfl (lv_at hl 1 rfl) ?_
            refine tg hC hK hH flX2_48 ht_st rfl rfl dX2_endorsed_89 (fun xq98_ l_xq98_ g_xq98_ => ?_)
            refine jif_ne (tgt := 99) hx hb dX2_endorsed_92 (by decide) (fun cq99_ => ?_) (fun cq99_ => ?_)
            · skip
              have cq99_ : xq98_.toInt ≠ 0 := cq99_
              refine lv_iconst (v := 0) hx hb dX2_endorsed_99 (by decide) ?_
              refine tpu hC hK hH flX2_15 ht_h rfl rfl (iRg _).1 (iRg _).2 rfl rfl dX2_endorsed_100 (fun Hq_ lcq_ Mq100_ _ hfr hH => ?_)
              have hF : ∀ q, FrK T q → Mq100_ q = M q := fun q hq  => (hfr q (neF hq ht_h (by decide))).trans (hF q hq )
              refine lv_aload_n hx hb dX2_endorsed_103 rfl (lv_at hl 0 rfl) ?_
              refine lv_aload_n hx hb dX2_endorsed_104 rfl (lv_at hl 1 rfl) ?_
              refine tg hC hK hH flX2_48 ht_st rfl rfl dX2_endorsed_105 (fun xq101_ l_xq101_ g_xq101_ => ?_)
              refine jif_ne (tgt := 115) hx hb dX2_endorsed_108 (by decide) (fun cq102_ => ?_) (fun cq102_ => ?_)
              · skip
                have cq102_ : xq101_.toInt ≠ 0 := cq102_
                refine lv_aload_n hx hb dX2_endorsed_115 rfl (lv_at hl 1 rfl) ?_
                refine tg hC hK hH flX2_77 ht_st rfl rfl dX2_endorsed_116 (fun xq103_ l_xq103_ g_xq103_ => ?_)
                have l_xq103_ : (0 : Int) ≤ xq103_.toInt := l_xq103_
                have g_xq103_ : xq103_.toInt ≤ 7 := g_xq103_
                refine tpu hC hK hH flX2_19 ht_h rfl rfl (iRg _).1 (iRg _).2 rfl rfl dX2_endorsed_119 (fun Hq_ lcq_ Mq104_ _ hfr hH => ?_)
                have hF : ∀ q, FrK T q → Mq104_ q = M q := fun q hq  => (hfr q (neF hq ht_h (by decide))).trans (hF q hq )
                refine lv_iconst (v := 1) hx hb dX2_endorsed_122 (by decide) ?_
                exact ret_z hC hr hlk hK hH (by first | exact Or.inl rfl | exact Or.inr rfl | assumption) (⟨Or.inl (rfl), rfl, hF⟩) (Nat.le_of_ble_eq_true rfl) (Nat.le_of_ble_eq_true rfl) dX2_endorsed_123
              · skip
                have cq102_ : xq101_.toInt = 0 := cq102_
                refine lv_iconst (v := -1) hx hb dX2_endorsed_111 (by decide) ?_
                refine lv_goto (tgt := 119) hx hb dX2_endorsed_112 (by decide) ?_
                refine tpu hC hK hH flX2_19 ht_h rfl rfl (iRg _).1 (iRg _).2 rfl rfl dX2_endorsed_119 (fun Hq_ lcq_ Mq105_ _ hfr hH => ?_)
                have hF : ∀ q, FrK T q → Mq105_ q = M q := fun q hq  => (hfr q (neF hq ht_h (by decide))).trans (hF q hq )
                refine lv_iconst (v := 1) hx hb dX2_endorsed_122 (by decide) ?_
                exact ret_z hC hr hlk hK hH (by first | exact Or.inl rfl | exact Or.inr rfl | assumption) (⟨Or.inl (rfl), rfl, hF⟩) (Nat.le_of_ble_eq_true rfl) (Nat.le_of_ble_eq_true rfl) dX2_endorsed_123
            · skip
              have cq99_ : xq98_.toInt = 0 := cq99_
              refine lv_iconst (v := 1) hx hb dX2_endorsed_95 (by decide) ?_
              refine lv_goto (tgt := 100) hx hb dX2_endorsed_96 (by decide) ?_
              refine tpu hC hK hH flX2_15 ht_h rfl rfl (iRg _).1 (iRg _).2 rfl rfl dX2_endorsed_100 (fun Hq_ lcq_ Mq106_ _ hfr hH => ?_)
              have hF : ∀ q, FrK T q → Mq106_ q = M q := fun q hq  => (hfr q (neF hq ht_h (by decide))).trans (hF q hq )
              refine lv_aload_n hx hb dX2_endorsed_103 rfl (lv_at hl 0 rfl) ?_
              refine lv_aload_n hx hb dX2_endorsed_104 rfl (lv_at hl 1 rfl) ?_
              refine tg hC hK hH flX2_48 ht_st rfl rfl dX2_endorsed_105 (fun xq107_ l_xq107_ g_xq107_ => ?_)
              refine jif_ne (tgt := 115) hx hb dX2_endorsed_108 (by decide) (fun cq108_ => ?_) (fun cq108_ => ?_)
              · skip
                have cq108_ : xq107_.toInt ≠ 0 := cq108_
                refine lv_aload_n hx hb dX2_endorsed_115 rfl (lv_at hl 1 rfl) ?_
                refine tg hC hK hH flX2_77 ht_st rfl rfl dX2_endorsed_116 (fun xq109_ l_xq109_ g_xq109_ => ?_)
                have l_xq109_ : (0 : Int) ≤ xq109_.toInt := l_xq109_
                have g_xq109_ : xq109_.toInt ≤ 7 := g_xq109_
                refine tpu hC hK hH flX2_19 ht_h rfl rfl (iRg _).1 (iRg _).2 rfl rfl dX2_endorsed_119 (fun Hq_ lcq_ Mq110_ _ hfr hH => ?_)
                have hF : ∀ q, FrK T q → Mq110_ q = M q := fun q hq  => (hfr q (neF hq ht_h (by decide))).trans (hF q hq )
                refine lv_iconst (v := 1) hx hb dX2_endorsed_122 (by decide) ?_
                exact ret_z hC hr hlk hK hH (by first | exact Or.inl rfl | exact Or.inr rfl | assumption) (⟨Or.inl (rfl), rfl, hF⟩) (Nat.le_of_ble_eq_true rfl) (Nat.le_of_ble_eq_true rfl) dX2_endorsed_123
              · skip
                have cq108_ : xq107_.toInt = 0 := cq108_
                refine lv_iconst (v := -1) hx hb dX2_endorsed_111 (by decide) ?_
                refine lv_goto (tgt := 119) hx hb dX2_endorsed_112 (by decide) ?_
                refine tpu hC hK hH flX2_19 ht_h rfl rfl (iRg _).1 (iRg _).2 rfl rfl dX2_endorsed_119 (fun Hq_ lcq_ Mq111_ _ hfr hH => ?_)
                have hF : ∀ q, FrK T q → Mq111_ q = M q := fun q hq  => (hfr q (neF hq ht_h (by decide))).trans (hF q hq )
                refine lv_iconst (v := 1) hx hb dX2_endorsed_122 (by decide) ?_
                exact ret_z hC hr hlk hK hH (by first | exact Or.inl rfl | exact Or.inr rfl | assumption) (⟨Or.inl (rfl), rfl, hF⟩) (Nat.le_of_ble_eq_true rfl) (Nat.le_of_ble_eq_true rfl) dX2_endorsed_123
          · skip
            have cq97_ : xq96_.toInt = 2 := cq97_
            refine lv_aload_n hx hb dX2_endorsed_72 rfl (lv_at hl 0 rfl) ?_
            refine lv_iconst (v := 2) hx hb dX2_endorsed_73 (by decide) ?_
            refine tpu hC hK hH flX2_15 ht_h rfl rfl (iRg _).1 (iRg _).2 rfl rfl dX2_endorsed_74 (fun Hq_ lcq_ Mq112_ _ hfr hH => ?_)
            have hF : ∀ q, FrK T q → Mq112_ q = M q := fun q hq  => (hfr q (neF hq ht_h (by decide))).trans (hF q hq )
            refine lv_aload_n hx hb dX2_endorsed_77 rfl (lv_at hl 0 rfl) ?_
            refine lv_aload_n hx hb dX2_endorsed_78 rfl (lv_at hl 1 rfl) ?_
            refine tg hC hK hH flX2_77 ht_st rfl rfl dX2_endorsed_79 (fun xq113_ l_xq113_ g_xq113_ => ?_)
            have l_xq113_ : (0 : Int) ≤ xq113_.toInt := l_xq113_
            have g_xq113_ : xq113_.toInt ≤ 7 := g_xq113_
            refine tpu hC hK hH flX2_19 ht_h rfl rfl (iRg _).1 (iRg _).2 rfl rfl dX2_endorsed_82 (fun Hq_ lcq_ Mq114_ _ hfr hH => ?_)
            have hF : ∀ q, FrK T q → Mq114_ q = M q := fun q hq  => (hfr q (neF hq ht_h (by decide))).trans (hF q hq )
            refine lv_iconst (v := 0) hx hb dX2_endorsed_85 (by decide) ?_
            exact ret_z hC hr hlk hK hH (by first | exact Or.inl rfl | exact Or.inr rfl | assumption) (⟨Or.inr (rfl), rfl, hF⟩) (Nat.le_of_ble_eq_true rfl) (Nat.le_of_ble_eq_true rfl) dX2_endorsed_86
      · skip
        have cq90_ : xq89_.toInt ≠ 1 := cq90_
        refine lv_aload_n hx hb dX2_endorsed_36 rfl (lv_at hl 1 rfl) ?_
        refine goI hK hH (runV (As := []) (rest := []) hC hK hH (c_X6_forged ht_st) mlX2_86 (rcvT hK hH ht_st rfl rfl) ⟨⟨Nat.le_of_ble_eq_true rfl, Nat.le_of_ble_eq_true rfl⟩, Nat.le_of_ble_eq_true rfl, Nat.le_of_ble_eq_true rfl⟩ rfl hl.1 rfl (Nat.le_of_ble_eq_true rfl) dX2_endorsed_37) (fun rq117_ Mq115_ Tq116_ Hq_ lcq_ hP hz hH => ?_)
        try dsimp only at hP
        obtain ⟨(er_rq117_ | er_rq117_), eT, eM⟩ := hP
        · skip
          have eT := eT.symm; subst eT
          have er_rq117_ := er_rq117_.symm; subst er_rq117_
          have eM := eM.symm; subst eM
          refine jif_eq (tgt := 56) hx hb dX2_endorsed_40 (by decide) (fun cq118_ => absurd cq118_ (by decide)) (fun cq118_ => ?_)
          refine lv_iload_n hx hb dX2_endorsed_43 rfl (lv_at hl 3 rfl) ?_
          refine jif_ne (tgt := 56) hx hb dX2_endorsed_44 (by decide) (fun cq119_ => ?_) (fun cq119_ => ?_)
          · skip
            have cq119_ : cu.toInt ≠ 0 := cq119_
            refine lv_aload_n hx hb dX2_endorsed_56 rfl (lv_at hl 0 rfl) ?_
            refine tg hC hK hH flX2_15 ht_h rfl rfl dX2_endorsed_57 (fun xq120_ l_xq120_ g_xq120_ => ?_)
            refine lv_iconst (v := 2) hx hb dX2_endorsed_60 (by decide) ?_
            refine jic_eq (tgt := 72) hx hb dX2_endorsed_61 (by decide) (fun cq121_ => ?_) (fun cq121_ => ?_)
            · skip
              have cq121_ : xq120_.toInt = 2 := cq121_
              refine lv_aload_n hx hb dX2_endorsed_72 rfl (lv_at hl 0 rfl) ?_
              refine lv_iconst (v := 2) hx hb dX2_endorsed_73 (by decide) ?_
              refine tpu hC hK hH flX2_15 ht_h rfl rfl (iRg _).1 (iRg _).2 rfl rfl dX2_endorsed_74 (fun Hq_ lcq_ Mq122_ _ hfr hH => ?_)
              have hF : ∀ q, FrK T q → Mq122_ q = M q := fun q hq  => (hfr q (neF hq ht_h (by decide))).trans (hF q hq )
              refine lv_aload_n hx hb dX2_endorsed_77 rfl (lv_at hl 0 rfl) ?_
              refine lv_aload_n hx hb dX2_endorsed_78 rfl (lv_at hl 1 rfl) ?_
              refine tg hC hK hH flX2_77 ht_st rfl rfl dX2_endorsed_79 (fun xq123_ l_xq123_ g_xq123_ => ?_)
              have l_xq123_ : (0 : Int) ≤ xq123_.toInt := l_xq123_
              have g_xq123_ : xq123_.toInt ≤ 7 := g_xq123_
              refine tpu hC hK hH flX2_19 ht_h rfl rfl (iRg _).1 (iRg _).2 rfl rfl dX2_endorsed_82 (fun Hq_ lcq_ Mq124_ _ hfr hH => ?_)
              have hF : ∀ q, FrK T q → Mq124_ q = M q := fun q hq  => (hfr q (neF hq ht_h (by decide))).trans (hF q hq )
              refine lv_iconst (v := 0) hx hb dX2_endorsed_85 (by decide) ?_
              exact ret_z hC hr hlk hK hH (by first | exact Or.inl rfl | exact Or.inr rfl | assumption) (⟨Or.inr (rfl), rfl, hF⟩) (Nat.le_of_ble_eq_true rfl) (Nat.le_of_ble_eq_true rfl) dX2_endorsed_86
            · skip
              have cq121_ : xq120_.toInt ≠ 2 := cq121_
              refine lv_aload_n hx hb dX2_endorsed_64 rfl (lv_at hl 1 rfl) ?_
              refine tg hC hK hH flX2_48 ht_st rfl rfl dX2_endorsed_65 (fun xq125_ l_xq125_ g_xq125_ => ?_)
              refine lv_iconst (v := 2) hx hb dX2_endorsed_68 (by decide) ?_
              refine jic_ne (tgt := 87) hx hb dX2_endorsed_69 (by decide) (fun cq126_ => ?_) (fun cq126_ => ?_)
              · skip
                have cq126_ : xq125_.toInt ≠ 2 := cq126_
                refine lv_aload_n hx hb dX2_endorsed_87 rfl (lv_at hl 0 rfl) ?_
                refine lv_aload_n hx hb dX2_endorsed_88 rfl (lv_at hl 1 rfl) ?_
                refine tg hC hK hH flX2_48 ht_st rfl rfl dX2_endorsed_89 (fun xq127_ l_xq127_ g_xq127_ => ?_)
                refine jif_ne (tgt := 99) hx hb dX2_endorsed_92 (by decide) (fun cq128_ => ?_) (fun cq128_ => ?_)
                · skip
                  have cq128_ : xq127_.toInt ≠ 0 := cq128_
                  refine lv_iconst (v := 0) hx hb dX2_endorsed_99 (by decide) ?_
                  refine tpu hC hK hH flX2_15 ht_h rfl rfl (iRg _).1 (iRg _).2 rfl rfl dX2_endorsed_100 (fun Hq_ lcq_ Mq129_ _ hfr hH => ?_)
                  have hF : ∀ q, FrK T q → Mq129_ q = M q := fun q hq  => (hfr q (neF hq ht_h (by decide))).trans (hF q hq )
                  refine lv_aload_n hx hb dX2_endorsed_103 rfl (lv_at hl 0 rfl) ?_
                  refine lv_aload_n hx hb dX2_endorsed_104 rfl (lv_at hl 1 rfl) ?_
                  refine tg hC hK hH flX2_48 ht_st rfl rfl dX2_endorsed_105 (fun xq130_ l_xq130_ g_xq130_ => ?_)
                  refine jif_ne (tgt := 115) hx hb dX2_endorsed_108 (by decide) (fun cq131_ => ?_) (fun cq131_ => ?_)
                  · skip
                    have cq131_ : xq130_.toInt ≠ 0 := cq131_
                    refine lv_aload_n hx hb dX2_endorsed_115 rfl (lv_at hl 1 rfl) ?_
                    refine tg hC hK hH flX2_77 ht_st rfl rfl dX2_endorsed_116 (fun xq132_ l_xq132_ g_xq132_ => ?_)
                    have l_xq132_ : (0 : Int) ≤ xq132_.toInt := l_xq132_
                    have g_xq132_ : xq132_.toInt ≤ 7 := g_xq132_
                    refine tpu hC hK hH flX2_19 ht_h rfl rfl (iRg _).1 (iRg _).2 rfl rfl dX2_endorsed_119 (fun Hq_ lcq_ Mq133_ _ hfr hH => ?_)
                    have hF : ∀ q, FrK T q → Mq133_ q = M q := fun q hq  => (hfr q (neF hq ht_h (by decide))).trans (hF q hq )
                    refine lv_iconst (v := 1) hx hb dX2_endorsed_122 (by decide) ?_
                    exact ret_z hC hr hlk hK hH (by first | exact Or.inl rfl | exact Or.inr rfl | assumption) (⟨Or.inl (rfl), rfl, hF⟩) (Nat.le_of_ble_eq_true rfl) (Nat.le_of_ble_eq_true rfl) dX2_endorsed_123
                  · skip
                    have cq131_ : xq130_.toInt = 0 := cq131_
                    refine lv_iconst (v := -1) hx hb dX2_endorsed_111 (by decide) ?_
                    refine lv_goto (tgt := 119) hx hb dX2_endorsed_112 (by decide) ?_
                    refine tpu hC hK hH flX2_19 ht_h rfl rfl (iRg _).1 (iRg _).2 rfl rfl dX2_endorsed_119 (fun Hq_ lcq_ Mq134_ _ hfr hH => ?_)
                    have hF : ∀ q, FrK T q → Mq134_ q = M q := fun q hq  => (hfr q (neF hq ht_h (by decide))).trans (hF q hq )
                    refine lv_iconst (v := 1) hx hb dX2_endorsed_122 (by decide) ?_
                    exact ret_z hC hr hlk hK hH (by first | exact Or.inl rfl | exact Or.inr rfl | assumption) (⟨Or.inl (rfl), rfl, hF⟩) (Nat.le_of_ble_eq_true rfl) (Nat.le_of_ble_eq_true rfl) dX2_endorsed_123
                · skip
                  have cq128_ : xq127_.toInt = 0 := cq128_
                  refine lv_iconst (v := 1) hx hb dX2_endorsed_95 (by decide) ?_
                  refine lv_goto (tgt := 100) hx hb dX2_endorsed_96 (by decide) ?_
                  refine tpu hC hK hH flX2_15 ht_h rfl rfl (iRg _).1 (iRg _).2 rfl rfl dX2_endorsed_100 (fun Hq_ lcq_ Mq135_ _ hfr hH => ?_)
                  have hF : ∀ q, FrK T q → Mq135_ q = M q := fun q hq  => (hfr q (neF hq ht_h (by decide))).trans (hF q hq )
                  refine lv_aload_n hx hb dX2_endorsed_103 rfl (lv_at hl 0 rfl) ?_
                  refine lv_aload_n hx hb dX2_endorsed_104 rfl (lv_at hl 1 rfl) ?_
                  refine tg hC hK hH flX2_48 ht_st rfl rfl dX2_endorsed_105 (fun xq136_ l_xq136_ g_xq136_ => ?_)
                  refine jif_ne (tgt := 115) hx hb dX2_endorsed_108 (by decide) (fun cq137_ => ?_) (fun cq137_ => ?_)
                  · skip
                    have cq137_ : xq136_.toInt ≠ 0 := cq137_
                    refine lv_aload_n hx hb dX2_endorsed_115 rfl (lv_at hl 1 rfl) ?_
                    refine tg hC hK hH flX2_77 ht_st rfl rfl dX2_endorsed_116 (fun xq138_ l_xq138_ g_xq138_ => ?_)
                    have l_xq138_ : (0 : Int) ≤ xq138_.toInt := l_xq138_
                    have g_xq138_ : xq138_.toInt ≤ 7 := g_xq138_
                    refine tpu hC hK hH flX2_19 ht_h rfl rfl (iRg _).1 (iRg _).2 rfl rfl dX2_endorsed_119 (fun Hq_ lcq_ Mq139_ _ hfr hH => ?_)
                    have hF : ∀ q, FrK T q → Mq139_ q = M q := fun q hq  => (hfr q (neF hq ht_h (by decide))).trans (hF q hq )
                    refine lv_iconst (v := 1) hx hb dX2_endorsed_122 (by decide) ?_
                    exact ret_z hC hr hlk hK hH (by first | exact Or.inl rfl | exact Or.inr rfl | assumption) (⟨Or.inl (rfl), rfl, hF⟩) (Nat.le_of_ble_eq_true rfl) (Nat.le_of_ble_eq_true rfl) dX2_endorsed_123
                  · skip
                    have cq137_ : xq136_.toInt = 0 := cq137_
                    refine lv_iconst (v := -1) hx hb dX2_endorsed_111 (by decide) ?_
                    refine lv_goto (tgt := 119) hx hb dX2_endorsed_112 (by decide) ?_
                    refine tpu hC hK hH flX2_19 ht_h rfl rfl (iRg _).1 (iRg _).2 rfl rfl dX2_endorsed_119 (fun Hq_ lcq_ Mq140_ _ hfr hH => ?_)
                    have hF : ∀ q, FrK T q → Mq140_ q = M q := fun q hq  => (hfr q (neF hq ht_h (by decide))).trans (hF q hq )
                    refine lv_iconst (v := 1) hx hb dX2_endorsed_122 (by decide) ?_
                    exact ret_z hC hr hlk hK hH (by first | exact Or.inl rfl | exact Or.inr rfl | assumption) (⟨Or.inl (rfl), rfl, hF⟩) (Nat.le_of_ble_eq_true rfl) (Nat.le_of_ble_eq_true rfl) dX2_endorsed_123
              · skip
                have cq126_ : xq125_.toInt = 2 := cq126_
                refine lv_aload_n hx hb dX2_endorsed_72 rfl (lv_at hl 0 rfl) ?_
                refine lv_iconst (v := 2) hx hb dX2_endorsed_73 (by decide) ?_
                refine tpu hC hK hH flX2_15 ht_h rfl rfl (iRg _).1 (iRg _).2 rfl rfl dX2_endorsed_74 (fun Hq_ lcq_ Mq141_ _ hfr hH => ?_)
                have hF : ∀ q, FrK T q → Mq141_ q = M q := fun q hq  => (hfr q (neF hq ht_h (by decide))).trans (hF q hq )
                refine lv_aload_n hx hb dX2_endorsed_77 rfl (lv_at hl 0 rfl) ?_
                refine lv_aload_n hx hb dX2_endorsed_78 rfl (lv_at hl 1 rfl) ?_
                refine tg hC hK hH flX2_77 ht_st rfl rfl dX2_endorsed_79 (fun xq142_ l_xq142_ g_xq142_ => ?_)
                have l_xq142_ : (0 : Int) ≤ xq142_.toInt := l_xq142_
                have g_xq142_ : xq142_.toInt ≤ 7 := g_xq142_
                refine tpu hC hK hH flX2_19 ht_h rfl rfl (iRg _).1 (iRg _).2 rfl rfl dX2_endorsed_82 (fun Hq_ lcq_ Mq143_ _ hfr hH => ?_)
                have hF : ∀ q, FrK T q → Mq143_ q = M q := fun q hq  => (hfr q (neF hq ht_h (by decide))).trans (hF q hq )
                refine lv_iconst (v := 0) hx hb dX2_endorsed_85 (by decide) ?_
                exact ret_z hC hr hlk hK hH (by first | exact Or.inl rfl | exact Or.inr rfl | assumption) (⟨Or.inr (rfl), rfl, hF⟩) (Nat.le_of_ble_eq_true rfl) (Nat.le_of_ble_eq_true rfl) dX2_endorsed_86
          · skip
            have cq119_ : cu.toInt = 0 := cq119_
            refine lv_aload_n hx hb dX2_endorsed_47 rfl (lv_at hl 0 rfl) ?_
            refine lv_iload_n hx hb dX2_endorsed_48 rfl (lv_at hl 2 rfl) ?_
            refine lv_bipush (v := 12) hx hb dX2_endorsed_49 (by decide) ?_
            refine goV hK hH (runV (As := [.int at_, .int 12]) (rest := []) hC hK hH (c_X2_breakAt ht_h) mlX2_83 (rcvT hK hH ht_h rfl rfl) ⟨⟨Nat.le_of_ble_eq_true rfl, Nat.le_of_ble_eq_true rfl⟩, Nat.le_of_ble_eq_true rfl, Nat.le_of_ble_eq_true rfl⟩ rfl hl.1 rfl (Nat.le_of_ble_eq_true rfl) dX2_endorsed_51) (fun Mq144_ Tq145_ Hq_ lcq_ hP hz hH => ?_)
            try dsimp only at hP
            obtain ⟨(-), eT, hfr⟩ := hP
            have eT := eT.symm; subst eT
            have hF : ∀ q, FrK T q → Mq144_ q = M q := fun q hq  => (hfr q hq ).trans (hF q hq )
            refine lv_iconst (v := 0) hx hb dX2_endorsed_54 (by decide) ?_
            exact ret_z hC hr hlk hK hH (by first | exact Or.inl rfl | exact Or.inr rfl | assumption) (⟨Or.inr (rfl), rfl, hF⟩) (Nat.le_of_ble_eq_true rfl) (Nat.le_of_ble_eq_true rfl) dX2_endorsed_55
        · skip
          have eT := eT.symm; subst eT
          have er_rq117_ := er_rq117_.symm; subst er_rq117_
          have eM := eM.symm; subst eM
          refine jif_eq (tgt := 56) hx hb dX2_endorsed_40 (by decide) (fun cq147_ => ?_) (fun cq147_ => absurd cq147_ (by decide))
          refine lv_aload_n hx hb dX2_endorsed_56 rfl (lv_at hl 0 rfl) ?_
          refine tg hC hK hH flX2_15 ht_h rfl rfl dX2_endorsed_57 (fun xq148_ l_xq148_ g_xq148_ => ?_)
          refine lv_iconst (v := 2) hx hb dX2_endorsed_60 (by decide) ?_
          refine jic_eq (tgt := 72) hx hb dX2_endorsed_61 (by decide) (fun cq149_ => ?_) (fun cq149_ => ?_)
          · skip
            have cq149_ : xq148_.toInt = 2 := cq149_
            refine lv_aload_n hx hb dX2_endorsed_72 rfl (lv_at hl 0 rfl) ?_
            refine lv_iconst (v := 2) hx hb dX2_endorsed_73 (by decide) ?_
            refine tpu hC hK hH flX2_15 ht_h rfl rfl (iRg _).1 (iRg _).2 rfl rfl dX2_endorsed_74 (fun Hq_ lcq_ Mq150_ _ hfr hH => ?_)
            have hF : ∀ q, FrK T q → Mq150_ q = M q := fun q hq  => (hfr q (neF hq ht_h (by decide))).trans (hF q hq )
            refine lv_aload_n hx hb dX2_endorsed_77 rfl (lv_at hl 0 rfl) ?_
            refine lv_aload_n hx hb dX2_endorsed_78 rfl (lv_at hl 1 rfl) ?_
            refine tg hC hK hH flX2_77 ht_st rfl rfl dX2_endorsed_79 (fun xq151_ l_xq151_ g_xq151_ => ?_)
            have l_xq151_ : (0 : Int) ≤ xq151_.toInt := l_xq151_
            have g_xq151_ : xq151_.toInt ≤ 7 := g_xq151_
            refine tpu hC hK hH flX2_19 ht_h rfl rfl (iRg _).1 (iRg _).2 rfl rfl dX2_endorsed_82 (fun Hq_ lcq_ Mq152_ _ hfr hH => ?_)
            have hF : ∀ q, FrK T q → Mq152_ q = M q := fun q hq  => (hfr q (neF hq ht_h (by decide))).trans (hF q hq )
            refine lv_iconst (v := 0) hx hb dX2_endorsed_85 (by decide) ?_
            exact ret_z hC hr hlk hK hH (by first | exact Or.inl rfl | exact Or.inr rfl | assumption) (⟨Or.inr (rfl), rfl, hF⟩) (Nat.le_of_ble_eq_true rfl) (Nat.le_of_ble_eq_true rfl) dX2_endorsed_86
          · skip
            have cq149_ : xq148_.toInt ≠ 2 := cq149_
            refine lv_aload_n hx hb dX2_endorsed_64 rfl (lv_at hl 1 rfl) ?_
            refine tg hC hK hH flX2_48 ht_st rfl rfl dX2_endorsed_65 (fun xq153_ l_xq153_ g_xq153_ => ?_)
            refine lv_iconst (v := 2) hx hb dX2_endorsed_68 (by decide) ?_
            refine jic_ne (tgt := 87) hx hb dX2_endorsed_69 (by decide) (fun cq154_ => ?_) (fun cq154_ => ?_)
            · skip
              have cq154_ : xq153_.toInt ≠ 2 := cq154_
              refine lv_aload_n hx hb dX2_endorsed_87 rfl (lv_at hl 0 rfl) ?_
              refine lv_aload_n hx hb dX2_endorsed_88 rfl (lv_at hl 1 rfl) ?_
              refine tg hC hK hH flX2_48 ht_st rfl rfl dX2_endorsed_89 (fun xq155_ l_xq155_ g_xq155_ => ?_)
              refine jif_ne (tgt := 99) hx hb dX2_endorsed_92 (by decide) (fun cq156_ => ?_) (fun cq156_ => ?_)
              · skip
                have cq156_ : xq155_.toInt ≠ 0 := cq156_
                refine lv_iconst (v := 0) hx hb dX2_endorsed_99 (by decide) ?_
                refine tpu hC hK hH flX2_15 ht_h rfl rfl (iRg _).1 (iRg _).2 rfl rfl dX2_endorsed_100 (fun Hq_ lcq_ Mq157_ _ hfr hH => ?_)
                have hF : ∀ q, FrK T q → Mq157_ q = M q := fun q hq  => (hfr q (neF hq ht_h (by decide))).trans (hF q hq )
                refine lv_aload_n hx hb dX2_endorsed_103 rfl (lv_at hl 0 rfl) ?_
                refine lv_aload_n hx hb dX2_endorsed_104 rfl (lv_at hl 1 rfl) ?_
                refine tg hC hK hH flX2_48 ht_st rfl rfl dX2_endorsed_105 (fun xq158_ l_xq158_ g_xq158_ => ?_)
                refine jif_ne (tgt := 115) hx hb dX2_endorsed_108 (by decide) (fun cq159_ => ?_) (fun cq159_ => ?_)
                · skip
                  have cq159_ : xq158_.toInt ≠ 0 := cq159_
                  refine lv_aload_n hx hb dX2_endorsed_115 rfl (lv_at hl 1 rfl) ?_
                  refine tg hC hK hH flX2_77 ht_st rfl rfl dX2_endorsed_116 (fun xq160_ l_xq160_ g_xq160_ => ?_)
                  have l_xq160_ : (0 : Int) ≤ xq160_.toInt := l_xq160_
                  have g_xq160_ : xq160_.toInt ≤ 7 := g_xq160_
                  refine tpu hC hK hH flX2_19 ht_h rfl rfl (iRg _).1 (iRg _).2 rfl rfl dX2_endorsed_119 (fun Hq_ lcq_ Mq161_ _ hfr hH => ?_)
                  have hF : ∀ q, FrK T q → Mq161_ q = M q := fun q hq  => (hfr q (neF hq ht_h (by decide))).trans (hF q hq )
                  refine lv_iconst (v := 1) hx hb dX2_endorsed_122 (by decide) ?_
                  exact ret_z hC hr hlk hK hH (by first | exact Or.inl rfl | exact Or.inr rfl | assumption) (⟨Or.inl (rfl), rfl, hF⟩) (Nat.le_of_ble_eq_true rfl) (Nat.le_of_ble_eq_true rfl) dX2_endorsed_123
                · skip
                  have cq159_ : xq158_.toInt = 0 := cq159_
                  refine lv_iconst (v := -1) hx hb dX2_endorsed_111 (by decide) ?_
                  refine lv_goto (tgt := 119) hx hb dX2_endorsed_112 (by decide) ?_
                  refine tpu hC hK hH flX2_19 ht_h rfl rfl (iRg _).1 (iRg _).2 rfl rfl dX2_endorsed_119 (fun Hq_ lcq_ Mq162_ _ hfr hH => ?_)
                  have hF : ∀ q, FrK T q → Mq162_ q = M q := fun q hq  => (hfr q (neF hq ht_h (by decide))).trans (hF q hq )
                  refine lv_iconst (v := 1) hx hb dX2_endorsed_122 (by decide) ?_
                  exact ret_z hC hr hlk hK hH (by first | exact Or.inl rfl | exact Or.inr rfl | assumption) (⟨Or.inl (rfl), rfl, hF⟩) (Nat.le_of_ble_eq_true rfl) (Nat.le_of_ble_eq_true rfl) dX2_endorsed_123
              · skip
                have cq156_ : xq155_.toInt = 0 := cq156_
                refine lv_iconst (v := 1) hx hb dX2_endorsed_95 (by decide) ?_
                refine lv_goto (tgt := 100) hx hb dX2_endorsed_96 (by decide) ?_
                refine tpu hC hK hH flX2_15 ht_h rfl rfl (iRg _).1 (iRg _).2 rfl rfl dX2_endorsed_100 (fun Hq_ lcq_ Mq163_ _ hfr hH => ?_)
                have hF : ∀ q, FrK T q → Mq163_ q = M q := fun q hq  => (hfr q (neF hq ht_h (by decide))).trans (hF q hq )
                refine lv_aload_n hx hb dX2_endorsed_103 rfl (lv_at hl 0 rfl) ?_
                refine lv_aload_n hx hb dX2_endorsed_104 rfl (lv_at hl 1 rfl) ?_
                refine tg hC hK hH flX2_48 ht_st rfl rfl dX2_endorsed_105 (fun xq164_ l_xq164_ g_xq164_ => ?_)
                refine jif_ne (tgt := 115) hx hb dX2_endorsed_108 (by decide) (fun cq165_ => ?_) (fun cq165_ => ?_)
                · skip
                  have cq165_ : xq164_.toInt ≠ 0 := cq165_
                  refine lv_aload_n hx hb dX2_endorsed_115 rfl (lv_at hl 1 rfl) ?_
                  refine tg hC hK hH flX2_77 ht_st rfl rfl dX2_endorsed_116 (fun xq166_ l_xq166_ g_xq166_ => ?_)
                  have l_xq166_ : (0 : Int) ≤ xq166_.toInt := l_xq166_
                  have g_xq166_ : xq166_.toInt ≤ 7 := g_xq166_
                  refine tpu hC hK hH flX2_19 ht_h rfl rfl (iRg _).1 (iRg _).2 rfl rfl dX2_endorsed_119 (fun Hq_ lcq_ Mq167_ _ hfr hH => ?_)
                  have hF : ∀ q, FrK T q → Mq167_ q = M q := fun q hq  => (hfr q (neF hq ht_h (by decide))).trans (hF q hq )
                  refine lv_iconst (v := 1) hx hb dX2_endorsed_122 (by decide) ?_
                  exact ret_z hC hr hlk hK hH (by first | exact Or.inl rfl | exact Or.inr rfl | assumption) (⟨Or.inl (rfl), rfl, hF⟩) (Nat.le_of_ble_eq_true rfl) (Nat.le_of_ble_eq_true rfl) dX2_endorsed_123
                · skip
                  have cq165_ : xq164_.toInt = 0 := cq165_
                  refine lv_iconst (v := -1) hx hb dX2_endorsed_111 (by decide) ?_
                  refine lv_goto (tgt := 119) hx hb dX2_endorsed_112 (by decide) ?_
                  refine tpu hC hK hH flX2_19 ht_h rfl rfl (iRg _).1 (iRg _).2 rfl rfl dX2_endorsed_119 (fun Hq_ lcq_ Mq168_ _ hfr hH => ?_)
                  have hF : ∀ q, FrK T q → Mq168_ q = M q := fun q hq  => (hfr q (neF hq ht_h (by decide))).trans (hF q hq )
                  refine lv_iconst (v := 1) hx hb dX2_endorsed_122 (by decide) ?_
                  exact ret_z hC hr hlk hK hH (by first | exact Or.inl rfl | exact Or.inr rfl | assumption) (⟨Or.inl (rfl), rfl, hF⟩) (Nat.le_of_ble_eq_true rfl) (Nat.le_of_ble_eq_true rfl) dX2_endorsed_123
            · skip
              have cq154_ : xq153_.toInt = 2 := cq154_
              refine lv_aload_n hx hb dX2_endorsed_72 rfl (lv_at hl 0 rfl) ?_
              refine lv_iconst (v := 2) hx hb dX2_endorsed_73 (by decide) ?_
              refine tpu hC hK hH flX2_15 ht_h rfl rfl (iRg _).1 (iRg _).2 rfl rfl dX2_endorsed_74 (fun Hq_ lcq_ Mq169_ _ hfr hH => ?_)
              have hF : ∀ q, FrK T q → Mq169_ q = M q := fun q hq  => (hfr q (neF hq ht_h (by decide))).trans (hF q hq )
              refine lv_aload_n hx hb dX2_endorsed_77 rfl (lv_at hl 0 rfl) ?_
              refine lv_aload_n hx hb dX2_endorsed_78 rfl (lv_at hl 1 rfl) ?_
              refine tg hC hK hH flX2_77 ht_st rfl rfl dX2_endorsed_79 (fun xq170_ l_xq170_ g_xq170_ => ?_)
              have l_xq170_ : (0 : Int) ≤ xq170_.toInt := l_xq170_
              have g_xq170_ : xq170_.toInt ≤ 7 := g_xq170_
              refine tpu hC hK hH flX2_19 ht_h rfl rfl (iRg _).1 (iRg _).2 rfl rfl dX2_endorsed_82 (fun Hq_ lcq_ Mq171_ _ hfr hH => ?_)
              have hF : ∀ q, FrK T q → Mq171_ q = M q := fun q hq  => (hfr q (neF hq ht_h (by decide))).trans (hF q hq )
              refine lv_iconst (v := 0) hx hb dX2_endorsed_85 (by decide) ?_
              exact ret_z hC hr hlk hK hH (by first | exact Or.inl rfl | exact Or.inr rfl | assumption) (⟨Or.inr (rfl), rfl, hF⟩) (Nat.le_of_ble_eq_true rfl) (Nat.le_of_ble_eq_true rfl) dX2_endorsed_86
    · skip
      have cq88_ : xq86_.toInt ≠ xq87_.toInt := cq88_
      refine lv_aload_n hx hb dX2_endorsed_19 rfl (lv_at hl 0 rfl) ?_
      refine lv_iload_n hx hb dX2_endorsed_20 rfl (lv_at hl 2 rfl) ?_
      refine lv_bipush (v := 13) hx hb dX2_endorsed_21 (by decide) ?_
      refine goV hK hH (runV (As := [.int at_, .int 13]) (rest := []) hC hK hH (c_X2_breakAt ht_h) mlX2_83 (rcvT hK hH ht_h rfl rfl) ⟨⟨Nat.le_of_ble_eq_true rfl, Nat.le_of_ble_eq_true rfl⟩, Nat.le_of_ble_eq_true rfl, Nat.le_of_ble_eq_true rfl⟩ rfl hl.1 rfl (Nat.le_of_ble_eq_true rfl) dX2_endorsed_23) (fun Mq172_ Tq173_ Hq_ lcq_ hP hz hH => ?_)
      try dsimp only at hP
      obtain ⟨(-), eT, hfr⟩ := hP
      have eT := eT.symm; subst eT
      have hF : ∀ q, FrK T q → Mq172_ q = M q := fun q hq  => (hfr q hq ).trans (hF q hq )
      refine lv_iconst (v := 0) hx hb dX2_endorsed_26 (by decide) ?_
      exact ret_z hC hr hlk hK hH (by first | exact Or.inl rfl | exact Or.inr rfl | assumption) (⟨Or.inr (rfl), rfl, hF⟩) (Nat.le_of_ble_eq_true rfl) (Nat.le_of_ble_eq_true rfl) dX2_endorsed_27
set_option maxHeartbeats 4000000 in
set_option maxRecDepth 100000 in
theorem c_X2_gradeOf {l : Launch} {D : va_G} {kA : Nat → ClassId} {M : mM} {T : mT} {sz : Nat} {h st : Nat} (ht_h : T h = some 1) (ht_st : T st = some 0) : mCi l yX2_gradeOf cX2_gradeOf 2 (some .int) 0 0 0 D kA M T sz [.ref h, .ref st] (fun r u => (True) ∧ u.2 = T ∧ u.1 = M) := by
  unfold mCi
  refine start_W (by decide) (Nat.le_of_ble_eq_true rfl) ?_
  intro p e s m below meth c ls hC hr hlk hnm hK hH hsz hl
  have hx := hC.1
  have hb := hC.2.1
  have hl : lv_has ls 2 [(0, .ref h), (1, .ref st)] := hl
  refine lv_aload_n hx hb dX2_gradeOf_0 rfl (lv_at hl 0 rfl) ?_
  refine tgr hC hK hH flX2_9 ht_h rfl rfl dX2_gradeOf_1 (fun qq1_ t_qq1_ => ?_)
  refine lv_aload_n hx hb dX2_gradeOf_4 rfl (lv_at hl 1 rfl) ?_
  refine tg hC hK hH flX2_77 ht_st rfl rfl dX2_gradeOf_5 (fun xq2_ l_xq2_ g_xq2_ => ?_)
  have l_xq2_ : (0 : Int) ≤ xq2_.toInt := l_xq2_
  have g_xq2_ : xq2_.toInt ≤ 7 := g_xq2_
  refine tild hC hK hH t_qq1_ rfl (iIn (by omega) (by omega)) dX2_gradeOf_8 (fun xq3_ l_xq3_ g_xq3_ => ?_)
  refine jif_eq (tgt := 22) hx hb dX2_gradeOf_9 (by decide) (fun cq4_ => ?_) (fun cq4_ => ?_)
  · skip
    have cq4_ : xq3_.toInt = 0 := cq4_
    refine lv_aload_n hx hb dX2_gradeOf_22 rfl (lv_at hl 1 rfl) ?_
    refine tg hC hK hH flX2_94 ht_st rfl rfl dX2_gradeOf_23 (fun xq5_ l_xq5_ g_xq5_ => ?_)
    have l_xq5_ : (0 : Int) ≤ xq5_.toInt := l_xq5_
    have g_xq5_ : xq5_.toInt ≤ 1 := g_xq5_
    refine jif_eq (tgt := 31) hx hb dX2_gradeOf_26 (by decide) (fun cq6_ => ?_) (fun cq6_ => ?_)
    · skip
      have cq6_ : xq5_.toInt = 0 := cq6_
      refine lv_aload_n hx hb dX2_gradeOf_31 rfl (lv_at hl 0 rfl) ?_
      refine tg hC hK hH flX2_68 ht_h rfl rfl dX2_gradeOf_32 (fun xq7_ l_xq7_ g_xq7_ => ?_)
      refine lv_iconst (v := 2) hx hb dX2_gradeOf_35 (by decide) ?_
      refine jic_lt (tgt := 43) hx hb dX2_gradeOf_36 (by decide) (fun cq8_ => ?_) (fun cq8_ => ?_)
      · skip
        have cq8_ : xq7_.toInt < 2 := cq8_
        refine lv_iconst (v := 1) hx hb dX2_gradeOf_43 (by decide) ?_
        exact ret_i hC hr hlk hK hH (⟨trivial, rfl, rfl⟩) (Nat.le_of_ble_eq_true rfl) (Nat.le_of_ble_eq_true rfl) dX2_gradeOf_44
      · skip
        have cq8_ : 2 ≤ xq7_.toInt := cq8_
        refine lv_iconst (v := 2) hx hb dX2_gradeOf_39 (by decide) ?_
        refine lv_goto (tgt := 44) hx hb dX2_gradeOf_40 (by decide) ?_
        exact ret_i hC hr hlk hK hH (⟨trivial, rfl, rfl⟩) (Nat.le_of_ble_eq_true rfl) (Nat.le_of_ble_eq_true rfl) dX2_gradeOf_44
    · skip
      have cq6_ : xq5_.toInt ≠ 0 := cq6_
      refine lv_iconst (v := 3) hx hb dX2_gradeOf_29 (by decide) ?_
      exact ret_i hC hr hlk hK hH (⟨trivial, rfl, rfl⟩) (Nat.le_of_ble_eq_true rfl) (Nat.le_of_ble_eq_true rfl) dX2_gradeOf_30
  · skip
    have cq4_ : xq3_.toInt ≠ 0 := cq4_
    refine lv_aload_n hx hb dX2_gradeOf_12 rfl (lv_at hl 0 rfl) ?_
    refine tgr hC hK hH flX2_9 ht_h rfl rfl dX2_gradeOf_13 (fun qq9_ t_qq9_ => ?_)
    refine lv_aload_n hx hb dX2_gradeOf_16 rfl (lv_at hl 1 rfl) ?_
    refine tg hC hK hH flX2_77 ht_st rfl rfl dX2_gradeOf_17 (fun xq10_ l_xq10_ g_xq10_ => ?_)
    have l_xq10_ : (0 : Int) ≤ xq10_.toInt := l_xq10_
    have g_xq10_ : xq10_.toInt ≤ 7 := g_xq10_
    refine tild hC hK hH t_qq9_ rfl (iIn (by omega) (by omega)) dX2_gradeOf_20 (fun xq11_ l_xq11_ g_xq11_ => ?_)
    exact ret_i hC hr hlk hK hH (⟨trivial, rfl, rfl⟩) (Nat.le_of_ble_eq_true rfl) (Nat.le_of_ble_eq_true rfl) dX2_gradeOf_21
set_option maxHeartbeats 4000000 in
set_option maxRecDepth 100000 in
theorem c_X2_give {l : Launch} {D : va_G} {kA : Nat → ClassId} {M : mM} {T : mT} {sz : Nat} {h st : Nat} (ht_h : T h = some 1) (ht_st : T st = some 0) : mCv l yX2_give cX2_give 2 1 0 0 D kA M T sz [.ref h, .ref st] (fun u => (True) ∧ u.2 = T ∧ (∀ q, FrK T q → u.1 q = M q)) := by
  unfold mCv
  refine start_W (by decide) (Nat.le_of_ble_eq_true rfl) ?_
  intro p e s m below meth c ls hC hr hlk hnm hK hH hsz hl
  have hx := hC.1
  have hb := hC.2.1
  have hl : lv_has ls 2 [(0, .ref h), (1, .ref st)] := hl
  have hF : ∀ q, FrK T q → M q = M q := fun q _  => rfl
  refine lv_aload_n hx hb dX2_give_0 rfl (lv_at hl 0 rfl) ?_
  refine tg hC hK hH flX2_28 ht_h rfl rfl dX2_give_1 (fun xq1_ l_xq1_ g_xq1_ => ?_)
  have l_xq1_ : (0 : Int) ≤ xq1_.toInt := l_xq1_
  have g_xq1_ : xq1_.toInt ≤ 1 := g_xq1_
  refine jif_ne (tgt := 23) hx hb dX2_give_4 (by decide) (fun cq2_ => ?_) (fun cq2_ => ?_)
  · skip
    have cq2_ : xq1_.toInt ≠ 0 := cq2_
    refine lv_aload_n hx hb dX2_give_23 rfl (lv_at hl 1 rfl) ?_
    refine tg hC hK hH flX2_77 ht_st rfl rfl dX2_give_24 (fun xq3_ l_xq3_ g_xq3_ => ?_)
    have l_xq3_ : (0 : Int) ≤ xq3_.toInt := l_xq3_
    have g_xq3_ : xq3_.toInt ≤ 7 := g_xq3_
    refine lv_aload_n hx hb dX2_give_27 rfl (lv_at hl 0 rfl) ?_
    refine tg hC hK hH flX2_65 ht_h rfl rfl dX2_give_28 (fun xq4_ l_xq4_ g_xq4_ => ?_)
    refine jic_ne (tgt := 42) hx hb dX2_give_31 (by decide) (fun cq5_ => ?_) (fun cq5_ => ?_)
    · skip
      have cq5_ : xq3_.toInt ≠ xq4_.toInt := cq5_
      refine lv_aload_n hx hb dX2_give_42 rfl (lv_at hl 1 rfl) ?_
      refine tg hC hK hH flX2_94 ht_st rfl rfl dX2_give_43 (fun xq6_ l_xq6_ g_xq6_ => ?_)
      have l_xq6_ : (0 : Int) ≤ xq6_.toInt := l_xq6_
      have g_xq6_ : xq6_.toInt ≤ 1 := g_xq6_
      refine jif_eq (tgt := 63) hx hb dX2_give_46 (by decide) (fun cq7_ => ?_) (fun cq7_ => ?_)
      · skip
        have cq7_ : xq6_.toInt = 0 := cq7_
        exact ret_v hC hr hlk hK hH (⟨trivial, rfl, hF⟩) (Nat.le_of_ble_eq_true rfl) (Nat.le_of_ble_eq_true rfl) dX2_give_63
      · skip
        have cq7_ : xq6_.toInt ≠ 0 := cq7_
        refine lv_aload_n hx hb dX2_give_49 rfl (lv_at hl 0 rfl) ?_
        refine lv_aload_n hx hb dX2_give_50 rfl (lv_at hl 1 rfl) ?_
        refine tg hC hK hH flX2_77 ht_st rfl rfl dX2_give_51 (fun xq8_ l_xq8_ g_xq8_ => ?_)
        have l_xq8_ : (0 : Int) ≤ xq8_.toInt := l_xq8_
        have g_xq8_ : xq8_.toInt ≤ 7 := g_xq8_
        refine lv_iconst (v := 3) hx hb dX2_give_54 (by decide) ?_
        refine goV hK hH (runV (As := [.int xq8_, .int 3]) (rest := []) hC hK hH (c_X2_own ht_h (by omega)) mlX2_38 (rcvT hK hH ht_h rfl rfl) ⟨⟨Nat.le_of_ble_eq_true rfl, Nat.le_of_ble_eq_true rfl⟩, Nat.le_of_ble_eq_true rfl, Nat.le_of_ble_eq_true rfl⟩ rfl hl.1 rfl (Nat.le_of_ble_eq_true rfl) dX2_give_55) (fun Mq9_ Tq10_ Hq_ lcq_ hP hz hH => ?_)
        try dsimp only at hP
        obtain ⟨(-), eT, hfr⟩ := hP
        have eT := eT.symm; subst eT
        have hF : ∀ q, FrK T q → Mq9_ q = M q := fun q hq  => (hfr q hq ).trans (hF q hq )
        refine lv_aload_n hx hb dX2_give_58 rfl (lv_at hl 0 rfl) ?_
        refine lv_iconst (v := 0) hx hb dX2_give_59 (by decide) ?_
        refine tpu hC hK hH flX2_28 ht_h rfl rfl (by decide) (by decide) rfl rfl dX2_give_60 (fun Hq_ lcq_ Mq12_ _ hfr hH => ?_)
        have hF : ∀ q, FrK T q → Mq12_ q = M q := fun q hq  => (hfr q (neF hq ht_h (by decide))).trans (hF q hq )
        exact ret_v hC hr hlk hK hH (⟨trivial, rfl, hF⟩) (Nat.le_of_ble_eq_true rfl) (Nat.le_of_ble_eq_true rfl) dX2_give_63
    · skip
      have cq5_ : xq3_.toInt = xq4_.toInt := cq5_
      refine lv_aload_n hx hb dX2_give_34 rfl (lv_at hl 0 rfl) ?_
      refine lv_iconst (v := 0) hx hb dX2_give_35 (by decide) ?_
      refine tpu hC hK hH flX2_28 ht_h rfl rfl (by decide) (by decide) rfl rfl dX2_give_36 (fun Hq_ lcq_ Mq13_ _ hfr hH => ?_)
      have hF : ∀ q, FrK T q → Mq13_ q = M q := fun q hq  => (hfr q (neF hq ht_h (by decide))).trans (hF q hq )
      refine lv_goto (tgt := 63) hx hb dX2_give_39 (by decide) ?_
      exact ret_v hC hr hlk hK hH (⟨trivial, rfl, hF⟩) (Nat.le_of_ble_eq_true rfl) (Nat.le_of_ble_eq_true rfl) dX2_give_63
  · skip
    have cq2_ : xq1_.toInt = 0 := cq2_
    refine lv_aload_n hx hb dX2_give_7 rfl (lv_at hl 0 rfl) ?_
    refine lv_aload_n hx hb dX2_give_8 rfl (lv_at hl 1 rfl) ?_
    refine tg hC hK hH flX2_77 ht_st rfl rfl dX2_give_9 (fun xq14_ l_xq14_ g_xq14_ => ?_)
    have l_xq14_ : (0 : Int) ≤ xq14_.toInt := l_xq14_
    have g_xq14_ : xq14_.toInt ≤ 7 := g_xq14_
    refine lv_aload_n hx hb dX2_give_12 rfl (lv_at hl 0 rfl) ?_
    refine lv_aload_n hx hb dX2_give_13 rfl (lv_at hl 1 rfl) ?_
    refine goI hK hH (runV (As := [.ref st]) (rest := [.int xq14_, .ref h]) hC hK hH (c_X2_gradeOf ht_h ht_st) mlX2_90 (rcvT hK hH ht_h rfl rfl) ⟨⟨Nat.le_of_ble_eq_true rfl, Nat.le_of_ble_eq_true rfl⟩, Nat.le_of_ble_eq_true rfl, Nat.le_of_ble_eq_true rfl⟩ rfl hl.1 rfl (Nat.le_of_ble_eq_true rfl) dX2_give_14) (fun rq17_ Mq15_ Tq16_ Hq_ lcq_ hP hz hH => ?_)
    try dsimp only at hP
    obtain ⟨(-), eT, eM⟩ := hP
    have eT := eT.symm; subst eT
    have eM := eM.symm; subst eM
    refine goV hK hH (runV (As := [.int xq14_, .int rq17_]) (rest := []) hC hK hH (c_X2_own ht_h (by omega)) mlX2_38 (rcvT hK hH ht_h rfl rfl) ⟨⟨Nat.le_of_ble_eq_true rfl, Nat.le_of_ble_eq_true rfl⟩, Nat.le_of_ble_eq_true rfl, Nat.le_of_ble_eq_true rfl⟩ rfl hl.1 rfl (Nat.le_of_ble_eq_true rfl) dX2_give_17) (fun Mq18_ Tq19_ Hq_ lcq_ hP hz hH => ?_)
    try dsimp only at hP
    obtain ⟨(-), eT, hfr⟩ := hP
    have eT := eT.symm; subst eT
    have hF : ∀ q, FrK T q → Mq18_ q = M q := fun q hq  => (hfr q hq ).trans (hF q hq )
    refine lv_goto (tgt := 63) hx hb dX2_give_20 (by decide) ?_
    exact ret_v hC hr hlk hK hH (⟨trivial, rfl, hF⟩) (Nat.le_of_ble_eq_true rfl) (Nat.le_of_ble_eq_true rfl) dX2_give_63
set_option maxHeartbeats 4000000 in
set_option maxRecDepth 100000 in
theorem c_X2_follow {l : Launch} {D : va_G} {kA : Nat → ClassId} {M : mM} {T : mT} {sz : Nat} {h st : Nat} {at_ cu : Int32} (ht_h : T h = some 1) (ht_st : T st = some 0) : mCv l yX2_follow cX2_follow 4 2 0 0 D kA M T sz [.ref h, .ref st, .int at_, .int cu] (fun u => (True) ∧ u.2 = T ∧ (∀ q, FrK T q → u.1 q = M q)) := by
  unfold mCv
  refine start_W (by decide) (Nat.le_of_ble_eq_true rfl) ?_
  intro p e s m below meth c ls hC hr hlk hnm hK hH hsz hl
  have hx := hC.1
  have hb := hC.2.1
  have hl : lv_has ls 4 [(0, .ref h), (1, .ref st), (2, .int at_), (3, .int cu)] := hl
  have hF : ∀ q, FrK T q → M q = M q := fun q _  => rfl
  refine lv_aload_n hx hb dX2_follow_0 rfl (lv_at hl 0 rfl) ?_
  refine tg hC hK hH flX2_22 ht_h rfl rfl dX2_follow_1 (fun xq1_ l_xq1_ g_xq1_ => ?_)
  refine lv_iconst (v := -1) hx hb dX2_follow_4 (by decide) ?_
  refine jic_eq (tgt := 9) hx hb dX2_follow_5 (by decide) (fun cq2_ => ?_) (fun cq2_ => ?_)
  · skip
    have cq2_ : xq1_.toInt = (-1) := cq2_
    refine lv_iload_n hx hb dX2_follow_9 rfl (lv_at hl 3 rfl) ?_
    refine jif_eq (tgt := 18) hx hb dX2_follow_10 (by decide) (fun cq3_ => ?_) (fun cq3_ => ?_)
    · skip
      have cq3_ : cu.toInt = 0 := cq3_
      refine lv_aload_n hx hb dX2_follow_18 rfl (lv_at hl 1 rfl) ?_
      refine tg hC hK hH flX2_48 ht_st rfl rfl dX2_follow_19 (fun xq4_ l_xq4_ g_xq4_ => ?_)
      refine lv_iconst (v := 4) hx hb dX2_follow_22 (by decide) ?_
      refine jic_ne (tgt := 34) hx hb dX2_follow_23 (by decide) (fun cq5_ => ?_) (fun cq5_ => ?_)
      · skip
        have cq5_ : xq4_.toInt ≠ 4 := cq5_
        refine lv_aload_n hx hb dX2_follow_34 rfl (lv_at hl 1 rfl) ?_
        refine tg hC hK hH flX2_48 ht_st rfl rfl dX2_follow_35 (fun xq6_ l_xq6_ g_xq6_ => ?_)
        refine lv_iconst (v := 3) hx hb dX2_follow_38 (by decide) ?_
        refine jic_ne (tgt := 53) hx hb dX2_follow_39 (by decide) (fun cq7_ => ?_) (fun cq7_ => ?_)
        · skip
          have cq7_ : xq6_.toInt ≠ 3 := cq7_
          refine lv_aload_n hx hb dX2_follow_53 rfl (lv_at hl 0 rfl) ?_
          refine lv_aload_n hx hb dX2_follow_54 rfl (lv_at hl 1 rfl) ?_
          refine lv_iload_n hx hb dX2_follow_55 rfl (lv_at hl 2 rfl) ?_
          refine lv_iload_n hx hb dX2_follow_56 rfl (lv_at hl 3 rfl) ?_
          refine goI hK hH (runV (As := [.ref st, .int at_, .int cu]) (rest := []) hC hK hH (c_X2_endorsed ht_h ht_st) mlX2_57 (rcvT hK hH ht_h rfl rfl) ⟨⟨Nat.le_of_ble_eq_true rfl, Nat.le_of_ble_eq_true rfl⟩, Nat.le_of_ble_eq_true rfl, Nat.le_of_ble_eq_true rfl⟩ rfl hl.1 rfl (Nat.le_of_ble_eq_true rfl) dX2_follow_57) (fun rq10_ Mq8_ Tq9_ Hq_ lcq_ hP hz hH => ?_)
          try dsimp only at hP
          obtain ⟨(er_rq10_ | er_rq10_), eT, hfr⟩ := hP
          · skip
            have eT := eT.symm; subst eT
            have er_rq10_ := er_rq10_.symm; subst er_rq10_
            have hF : ∀ q, FrK T q → Mq8_ q = M q := fun q hq  => (hfr q hq ).trans (hF q hq )
            refine jif_eq (tgt := 68) hx hb dX2_follow_60 (by decide) (fun cq11_ => absurd cq11_ (by decide)) (fun cq11_ => ?_)
            refine lv_aload_n hx hb dX2_follow_63 rfl (lv_at hl 0 rfl) ?_
            refine lv_aload_n hx hb dX2_follow_64 rfl (lv_at hl 1 rfl) ?_
            refine goV hK hH (runV (As := [.ref st]) (rest := []) hC hK hH (c_X2_give ht_h ht_st) mlX2_61 (rcvT hK hH ht_h rfl rfl) ⟨⟨Nat.le_of_ble_eq_true rfl, Nat.le_of_ble_eq_true rfl⟩, Nat.le_of_ble_eq_true rfl, Nat.le_of_ble_eq_true rfl⟩ rfl hl.1 rfl (Nat.le_of_ble_eq_true rfl) dX2_follow_65) (fun Mq12_ Tq13_ Hq_ lcq_ hP hz hH => ?_)
            try dsimp only at hP
            obtain ⟨(-), eT, hfr⟩ := hP
            have eT := eT.symm; subst eT
            have hF : ∀ q, FrK T q → Mq12_ q = M q := fun q hq  => (hfr q hq ).trans (hF q hq )
            exact ret_v hC hr hlk hK hH (⟨trivial, rfl, hF⟩) (Nat.le_of_ble_eq_true rfl) (Nat.le_of_ble_eq_true rfl) dX2_follow_68
          · skip
            have eT := eT.symm; subst eT
            have er_rq10_ := er_rq10_.symm; subst er_rq10_
            have hF : ∀ q, FrK T q → Mq8_ q = M q := fun q hq  => (hfr q hq ).trans (hF q hq )
            refine jif_eq (tgt := 68) hx hb dX2_follow_60 (by decide) (fun cq15_ => ?_) (fun cq15_ => absurd cq15_ (by decide))
            exact ret_v hC hr hlk hK hH (⟨trivial, rfl, hF⟩) (Nat.le_of_ble_eq_true rfl) (Nat.le_of_ble_eq_true rfl) dX2_follow_68
        · skip
          have cq7_ : xq6_.toInt = 3 := cq7_
          refine lv_aload_n hx hb dX2_follow_42 rfl (lv_at hl 0 rfl) ?_
          refine lv_aload_n hx hb dX2_follow_43 rfl (lv_at hl 1 rfl) ?_
          refine goI hK hH (runV (As := [.ref st]) (rest := []) hC hK hH (c_X2_delivered ht_h ht_st) mlX2_53 (rcvT hK hH ht_h rfl rfl) ⟨⟨Nat.le_of_ble_eq_true rfl, Nat.le_of_ble_eq_true rfl⟩, Nat.le_of_ble_eq_true rfl, Nat.le_of_ble_eq_true rfl⟩ rfl hl.1 rfl (Nat.le_of_ble_eq_true rfl) dX2_follow_44) (fun rq18_ Mq16_ Tq17_ Hq_ lcq_ hP hz hH => ?_)
          try dsimp only at hP
          obtain ⟨(er_rq18_ | er_rq18_), eT, hfr⟩ := hP
          · skip
            have eT := eT.symm; subst eT
            have er_rq18_ := er_rq18_.symm; subst er_rq18_
            have hF : ∀ q, FrK T q → Mq16_ q = M q := fun q hq  => (hfr q hq ).trans (hF q hq )
            refine jif_eq (tgt := 68) hx hb dX2_follow_47 (by decide) (fun cq19_ => absurd cq19_ (by decide)) (fun cq19_ => ?_)
            refine lv_goto (tgt := 63) hx hb dX2_follow_50 (by decide) ?_
            refine lv_aload_n hx hb dX2_follow_63 rfl (lv_at hl 0 rfl) ?_
            refine lv_aload_n hx hb dX2_follow_64 rfl (lv_at hl 1 rfl) ?_
            refine goV hK hH (runV (As := [.ref st]) (rest := []) hC hK hH (c_X2_give ht_h ht_st) mlX2_61 (rcvT hK hH ht_h rfl rfl) ⟨⟨Nat.le_of_ble_eq_true rfl, Nat.le_of_ble_eq_true rfl⟩, Nat.le_of_ble_eq_true rfl, Nat.le_of_ble_eq_true rfl⟩ rfl hl.1 rfl (Nat.le_of_ble_eq_true rfl) dX2_follow_65) (fun Mq20_ Tq21_ Hq_ lcq_ hP hz hH => ?_)
            try dsimp only at hP
            obtain ⟨(-), eT, hfr⟩ := hP
            have eT := eT.symm; subst eT
            have hF : ∀ q, FrK T q → Mq20_ q = M q := fun q hq  => (hfr q hq ).trans (hF q hq )
            exact ret_v hC hr hlk hK hH (⟨trivial, rfl, hF⟩) (Nat.le_of_ble_eq_true rfl) (Nat.le_of_ble_eq_true rfl) dX2_follow_68
          · skip
            have eT := eT.symm; subst eT
            have er_rq18_ := er_rq18_.symm; subst er_rq18_
            have hF : ∀ q, FrK T q → Mq16_ q = M q := fun q hq  => (hfr q hq ).trans (hF q hq )
            refine jif_eq (tgt := 68) hx hb dX2_follow_47 (by decide) (fun cq23_ => ?_) (fun cq23_ => absurd cq23_ (by decide))
            exact ret_v hC hr hlk hK hH (⟨trivial, rfl, hF⟩) (Nat.le_of_ble_eq_true rfl) (Nat.le_of_ble_eq_true rfl) dX2_follow_68
      · skip
        have cq5_ : xq4_.toInt = 4 := cq5_
        refine lv_aload_n hx hb dX2_follow_26 rfl (lv_at hl 0 rfl) ?_
        refine lv_iconst (v := 1) hx hb dX2_follow_27 (by decide) ?_
        refine tpu hC hK hH flX2_28 ht_h rfl rfl (by decide) (by decide) rfl rfl dX2_follow_28 (fun Hq_ lcq_ Mq24_ _ hfr hH => ?_)
        have hF : ∀ q, FrK T q → Mq24_ q = M q := fun q hq  => (hfr q (neF hq ht_h (by decide))).trans (hF q hq )
        refine lv_goto (tgt := 68) hx hb dX2_follow_31 (by decide) ?_
        exact ret_v hC hr hlk hK hH (⟨trivial, rfl, hF⟩) (Nat.le_of_ble_eq_true rfl) (Nat.le_of_ble_eq_true rfl) dX2_follow_68
    · skip
      have cq3_ : cu.toInt ≠ 0 := cq3_
      refine lv_aload_n hx hb dX2_follow_13 rfl (lv_at hl 0 rfl) ?_
      refine lv_iconst (v := 0) hx hb dX2_follow_14 (by decide) ?_
      refine tpu hC hK hH flX2_28 ht_h rfl rfl (by decide) (by decide) rfl rfl dX2_follow_15 (fun Hq_ lcq_ Mq25_ _ hfr hH => ?_)
      have hF : ∀ q, FrK T q → Mq25_ q = M q := fun q hq  => (hfr q (neF hq ht_h (by decide))).trans (hF q hq )
      refine lv_aload_n hx hb dX2_follow_18 rfl (lv_at hl 1 rfl) ?_
      refine tg hC hK hH flX2_48 ht_st rfl rfl dX2_follow_19 (fun xq26_ l_xq26_ g_xq26_ => ?_)
      refine lv_iconst (v := 4) hx hb dX2_follow_22 (by decide) ?_
      refine jic_ne (tgt := 34) hx hb dX2_follow_23 (by decide) (fun cq27_ => ?_) (fun cq27_ => ?_)
      · skip
        have cq27_ : xq26_.toInt ≠ 4 := cq27_
        refine lv_aload_n hx hb dX2_follow_34 rfl (lv_at hl 1 rfl) ?_
        refine tg hC hK hH flX2_48 ht_st rfl rfl dX2_follow_35 (fun xq28_ l_xq28_ g_xq28_ => ?_)
        refine lv_iconst (v := 3) hx hb dX2_follow_38 (by decide) ?_
        refine jic_ne (tgt := 53) hx hb dX2_follow_39 (by decide) (fun cq29_ => ?_) (fun cq29_ => ?_)
        · skip
          have cq29_ : xq28_.toInt ≠ 3 := cq29_
          refine lv_aload_n hx hb dX2_follow_53 rfl (lv_at hl 0 rfl) ?_
          refine lv_aload_n hx hb dX2_follow_54 rfl (lv_at hl 1 rfl) ?_
          refine lv_iload_n hx hb dX2_follow_55 rfl (lv_at hl 2 rfl) ?_
          refine lv_iload_n hx hb dX2_follow_56 rfl (lv_at hl 3 rfl) ?_
          refine goI hK hH (runV (As := [.ref st, .int at_, .int cu]) (rest := []) hC hK hH (c_X2_endorsed ht_h ht_st) mlX2_57 (rcvT hK hH ht_h rfl rfl) ⟨⟨Nat.le_of_ble_eq_true rfl, Nat.le_of_ble_eq_true rfl⟩, Nat.le_of_ble_eq_true rfl, Nat.le_of_ble_eq_true rfl⟩ rfl hl.1 rfl (Nat.le_of_ble_eq_true rfl) dX2_follow_57) (fun rq32_ Mq30_ Tq31_ Hq_ lcq_ hP hz hH => ?_)
          try dsimp only at hP
          obtain ⟨(er_rq32_ | er_rq32_), eT, hfr⟩ := hP
          · skip
            have eT := eT.symm; subst eT
            have er_rq32_ := er_rq32_.symm; subst er_rq32_
            have hF : ∀ q, FrK T q → Mq30_ q = M q := fun q hq  => (hfr q hq ).trans (hF q hq )
            refine jif_eq (tgt := 68) hx hb dX2_follow_60 (by decide) (fun cq33_ => absurd cq33_ (by decide)) (fun cq33_ => ?_)
            refine lv_aload_n hx hb dX2_follow_63 rfl (lv_at hl 0 rfl) ?_
            refine lv_aload_n hx hb dX2_follow_64 rfl (lv_at hl 1 rfl) ?_
            refine goV hK hH (runV (As := [.ref st]) (rest := []) hC hK hH (c_X2_give ht_h ht_st) mlX2_61 (rcvT hK hH ht_h rfl rfl) ⟨⟨Nat.le_of_ble_eq_true rfl, Nat.le_of_ble_eq_true rfl⟩, Nat.le_of_ble_eq_true rfl, Nat.le_of_ble_eq_true rfl⟩ rfl hl.1 rfl (Nat.le_of_ble_eq_true rfl) dX2_follow_65) (fun Mq34_ Tq35_ Hq_ lcq_ hP hz hH => ?_)
            try dsimp only at hP
            obtain ⟨(-), eT, hfr⟩ := hP
            have eT := eT.symm; subst eT
            have hF : ∀ q, FrK T q → Mq34_ q = M q := fun q hq  => (hfr q hq ).trans (hF q hq )
            exact ret_v hC hr hlk hK hH (⟨trivial, rfl, hF⟩) (Nat.le_of_ble_eq_true rfl) (Nat.le_of_ble_eq_true rfl) dX2_follow_68
          · skip
            have eT := eT.symm; subst eT
            have er_rq32_ := er_rq32_.symm; subst er_rq32_
            have hF : ∀ q, FrK T q → Mq30_ q = M q := fun q hq  => (hfr q hq ).trans (hF q hq )
            refine jif_eq (tgt := 68) hx hb dX2_follow_60 (by decide) (fun cq37_ => ?_) (fun cq37_ => absurd cq37_ (by decide))
            exact ret_v hC hr hlk hK hH (⟨trivial, rfl, hF⟩) (Nat.le_of_ble_eq_true rfl) (Nat.le_of_ble_eq_true rfl) dX2_follow_68
        · skip
          have cq29_ : xq28_.toInt = 3 := cq29_
          refine lv_aload_n hx hb dX2_follow_42 rfl (lv_at hl 0 rfl) ?_
          refine lv_aload_n hx hb dX2_follow_43 rfl (lv_at hl 1 rfl) ?_
          refine goI hK hH (runV (As := [.ref st]) (rest := []) hC hK hH (c_X2_delivered ht_h ht_st) mlX2_53 (rcvT hK hH ht_h rfl rfl) ⟨⟨Nat.le_of_ble_eq_true rfl, Nat.le_of_ble_eq_true rfl⟩, Nat.le_of_ble_eq_true rfl, Nat.le_of_ble_eq_true rfl⟩ rfl hl.1 rfl (Nat.le_of_ble_eq_true rfl) dX2_follow_44) (fun rq40_ Mq38_ Tq39_ Hq_ lcq_ hP hz hH => ?_)
          try dsimp only at hP
          obtain ⟨(er_rq40_ | er_rq40_), eT, hfr⟩ := hP
          · skip
            have eT := eT.symm; subst eT
            have er_rq40_ := er_rq40_.symm; subst er_rq40_
            have hF : ∀ q, FrK T q → Mq38_ q = M q := fun q hq  => (hfr q hq ).trans (hF q hq )
            refine jif_eq (tgt := 68) hx hb dX2_follow_47 (by decide) (fun cq41_ => absurd cq41_ (by decide)) (fun cq41_ => ?_)
            refine lv_goto (tgt := 63) hx hb dX2_follow_50 (by decide) ?_
            refine lv_aload_n hx hb dX2_follow_63 rfl (lv_at hl 0 rfl) ?_
            refine lv_aload_n hx hb dX2_follow_64 rfl (lv_at hl 1 rfl) ?_
            refine goV hK hH (runV (As := [.ref st]) (rest := []) hC hK hH (c_X2_give ht_h ht_st) mlX2_61 (rcvT hK hH ht_h rfl rfl) ⟨⟨Nat.le_of_ble_eq_true rfl, Nat.le_of_ble_eq_true rfl⟩, Nat.le_of_ble_eq_true rfl, Nat.le_of_ble_eq_true rfl⟩ rfl hl.1 rfl (Nat.le_of_ble_eq_true rfl) dX2_follow_65) (fun Mq42_ Tq43_ Hq_ lcq_ hP hz hH => ?_)
            try dsimp only at hP
            obtain ⟨(-), eT, hfr⟩ := hP
            have eT := eT.symm; subst eT
            have hF : ∀ q, FrK T q → Mq42_ q = M q := fun q hq  => (hfr q hq ).trans (hF q hq )
            exact ret_v hC hr hlk hK hH (⟨trivial, rfl, hF⟩) (Nat.le_of_ble_eq_true rfl) (Nat.le_of_ble_eq_true rfl) dX2_follow_68
          · skip
            have eT := eT.symm; subst eT
            have er_rq40_ := er_rq40_.symm; subst er_rq40_
            have hF : ∀ q, FrK T q → Mq38_ q = M q := fun q hq  => (hfr q hq ).trans (hF q hq )
            refine jif_eq (tgt := 68) hx hb dX2_follow_47 (by decide) (fun cq45_ => ?_) (fun cq45_ => absurd cq45_ (by decide))
            exact ret_v hC hr hlk hK hH (⟨trivial, rfl, hF⟩) (Nat.le_of_ble_eq_true rfl) (Nat.le_of_ble_eq_true rfl) dX2_follow_68
      · skip
        have cq27_ : xq26_.toInt = 4 := cq27_
        refine lv_aload_n hx hb dX2_follow_26 rfl (lv_at hl 0 rfl) ?_
        refine lv_iconst (v := 1) hx hb dX2_follow_27 (by decide) ?_
        refine tpu hC hK hH flX2_28 ht_h rfl rfl (by decide) (by decide) rfl rfl dX2_follow_28 (fun Hq_ lcq_ Mq46_ _ hfr hH => ?_)
        have hF : ∀ q, FrK T q → Mq46_ q = M q := fun q hq  => (hfr q (neF hq ht_h (by decide))).trans (hF q hq )
        refine lv_goto (tgt := 68) hx hb dX2_follow_31 (by decide) ?_
        exact ret_v hC hr hlk hK hH (⟨trivial, rfl, hF⟩) (Nat.le_of_ble_eq_true rfl) (Nat.le_of_ble_eq_true rfl) dX2_follow_68
  · skip
    have cq2_ : xq1_.toInt ≠ (-1) := cq2_
    exact ret_v hC hr hlk hK hH (⟨trivial, rfl, hF⟩) (Nat.le_of_ble_eq_true rfl) (Nat.le_of_ble_eq_true rfl) dX2_follow_8
