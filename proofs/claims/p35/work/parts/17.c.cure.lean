theorem mmX3_63 : MML RX3 63 := ⟨TB_t 831 (by decide +kernel) rfl, TB_t 415 (by decide +kernel) rfl, TB_t 12 (by decide +kernel) rfl, TB_t 416 (by decide +kernel) rfl⟩
set_option maxHeartbeats 4000000 in
set_option maxRecDepth 100000 in
theorem c_X3_fewestFrom : ∀ (n : Nat) {l : Launch} {D : va_G} {kA : Nat → ClassId} {M : mM} {T : mT} {sz : Nat} {b tr : Nat} {at_ : Int32} (ht_b : T b = some 2) (ht_tr : T tr = some 8) (hn : at_.toInt + (n : Int) = 12) (h0 : 0 ≤ at_.toInt), mCi l yX3_fewestFrom cX3_fewestFrom 7 (some .int) (4 + n) 0 0 D kA M T sz [.ref b, .ref tr, .int at_] (fun r u => (True) ∧ u.2 = T ∧ (∀ q, FrK T q → u.1 q = M q)) := by
  intro n
  induction n with
  | zero =>
    intro l D kA M T sz b tr at_ ht_b ht_tr hn h0
    unfold mCi
    refine start_W (by decide) (Nat.le_of_ble_eq_true rfl) ?_
    intro p e s m below meth c ls hC hr hlk hnm hK hH hsz hl
    have hx := hC.1
    have hb := hC.2.1
    have hl : lv_has ls 7 [(0, .ref b), (1, .ref tr), (2, .int at_)] := hl
    have hF : ∀ q, FrK T q → M q = M q := fun q _ => rfl
    have h9 : at_.toInt = 12 := by omega
    refine lv_aload_n hx hb dX3_fewestFrom_0 rfl (lv_at hl 1 rfl) ?_
    refine lv_iload_n hx hb dX3_fewestFrom_1 rfl (lv_at hl 2 rfl) ?_
    refine tqld hC hK hH ht_tr rfl rfl (iIn (by omega) (by omega)) dX3_fewestFrom_2 (fun qq1_ t_qq1_ => ?_)
    refine lv_astore_n (lv' := [(3, .ref qq1_), (0, .ref b), (1, .ref tr), (2, .int at_)]) hx hb dX3_fewestFrom_3 rfl hl (by decide) rfl (fun ls hl => ?_)
    refine lv_aload_n hx hb dX3_fewestFrom_4 rfl (lv_at hl 0 rfl) ?_
    refine tg hC hK hH flX3_36 t_qq1_ rfl rfl dX3_fewestFrom_5 (fun xq2_ l_xq2_ g_xq2_ => ?_)
    refine lv_iconst (v := -1) hx hb dX3_fewestFrom_8 (by decide) ?_
    refine jic_eq (tgt := 15) hx hb dX3_fewestFrom_9 (by decide) (fun cq3_ => ?_) (fun cq3_ => ?_)
    · skip
      have cq3_ : xq2_.toInt = (-1) := cq3_
      refine lv_iload_n hx hb dX3_fewestFrom_15 rfl (lv_at hl 3 rfl) ?_
      refine lv_aload_n hx hb dX3_fewestFrom_16 rfl (lv_at hl 1 rfl) ?_
      refine tg hC hK hH flX3_39 ht_b rfl rfl dX3_fewestFrom_17 (fun xq4_ l_xq4_ g_xq4_ => ?_)
      have l_xq4_ : (0 : Int) ≤ xq4_.toInt := l_xq4_
      have g_xq4_ : xq4_.toInt ≤ 12 := g_xq4_
      refine jic_ge (tgt := 29) hx hb dX3_fewestFrom_20 (by decide) (fun cq5_ => ?_) (fun cq5_ => absurd cq5_ (by have := iRg at_; have := iRg xq4_; omega))
      have cq5_ : xq4_.toInt ≤ at_.toInt := cq5_
      refine lv_aload_n hx hb dX3_fewestFrom_29 rfl (lv_at hl 0 rfl) ?_
      refine lv_aload_n hx hb dX3_fewestFrom_30 rfl (lv_at hl 1 rfl) ?_
      refine tg hC hK hH flX3_42 ht_b rfl rfl dX3_fewestFrom_31 (fun xq6_ l_xq6_ g_xq6_ => ?_)
      have l_xq6_ : (0 : Int) ≤ xq6_.toInt := l_xq6_
      have g_xq6_ : xq6_.toInt ≤ 7 := g_xq6_
      refine goI hK hH (runV (As := [.int xq6_]) (rest := []) hC hK hH (c_X2_entitles t_qq1_) mlX3_45 (rcvT hK hH t_qq1_ rfl rfl) ⟨⟨Nat.le_of_ble_eq_true rfl, Nat.le_of_ble_eq_true rfl⟩, Nat.le_of_ble_eq_true rfl, Nat.le_of_ble_eq_true rfl⟩ rfl hl.1 rfl (Nat.le_of_ble_eq_true rfl) dX3_fewestFrom_34) (fun rq9_ Mq7_ Tq8_ Hq_ lcq_ hP hz hH => ?_)
      try dsimp only at hP
      obtain ⟨(er_rq9_ | er_rq9_), eT, eM⟩ := hP
      · skip
        have eT := eT.symm; subst eT
        have er_rq9_ := er_rq9_.symm; subst er_rq9_
        have eM := eM.symm; subst eM
        refine jif_eq (tgt := 44) hx hb dX3_fewestFrom_37 (by decide) (fun cq10_ => absurd cq10_ (by decide)) (fun cq10_ => ?_)
        refine lv_iconst (v := 0) hx hb dX3_fewestFrom_40 (by decide) ?_
        refine lv_goto (tgt := 46) hx hb dX3_fewestFrom_41 (by decide) ?_
        exact ret_i hC hr hlk hK hH (⟨trivial, rfl, hF⟩) (Nat.le_of_ble_eq_true rfl) (Nat.le_of_ble_eq_true rfl) dX3_fewestFrom_46
      · skip
        have eT := eT.symm; subst eT
        have er_rq9_ := er_rq9_.symm; subst er_rq9_
        have eM := eM.symm; subst eM
        refine jif_eq (tgt := 44) hx hb dX3_fewestFrom_37 (by decide) (fun cq11_ => ?_) (fun cq11_ => absurd cq11_ (by decide))
        refine lv_bipush (v := 99) hx hb dX3_fewestFrom_44 (by decide) ?_
        exact ret_i hC hr hlk hK hH (⟨trivial, rfl, hF⟩) (Nat.le_of_ble_eq_true rfl) (Nat.le_of_ble_eq_true rfl) dX3_fewestFrom_46
    · skip
      have cq3_ : xq2_.toInt ≠ (-1) := cq3_
      refine lv_bipush (v := 99) hx hb dX3_fewestFrom_12 (by decide) ?_
      exact ret_i hC hr hlk hK hH (⟨trivial, rfl, hF⟩) (Nat.le_of_ble_eq_true rfl) (Nat.le_of_ble_eq_true rfl) dX3_fewestFrom_14
  | succ n ih =>
    intro l D kA M T sz b tr at_ ht_b ht_tr hn h0
    unfold mCi
    refine start_W (by decide) (Nat.le_of_ble_eq_true rfl) ?_
    intro p e s m below meth c ls hC hr hlk hnm hK hH hsz hl
    have hx := hC.1
    have hb := hC.2.1
    have hl : lv_has ls 7 [(0, .ref b), (1, .ref tr), (2, .int at_)] := hl
    have hF : ∀ q, FrK T q → M q = M q := fun q _ => rfl
    have h9 : at_.toInt ≤ 11 := by omega
    refine lv_aload_n hx hb dX3_fewestFrom_0 rfl (lv_at hl 1 rfl) ?_
    refine lv_iload_n hx hb dX3_fewestFrom_1 rfl (lv_at hl 2 rfl) ?_
    refine tqld hC hK hH ht_tr rfl rfl (iIn (by omega) (by omega)) dX3_fewestFrom_2 (fun qq1_ t_qq1_ => ?_)
    refine lv_astore_n (lv' := [(3, .ref qq1_), (0, .ref b), (1, .ref tr), (2, .int at_)]) hx hb dX3_fewestFrom_3 rfl hl (by decide) rfl (fun ls hl => ?_)
    refine lv_aload_n hx hb dX3_fewestFrom_4 rfl (lv_at hl 0 rfl) ?_
    refine tg hC hK hH flX3_36 t_qq1_ rfl rfl dX3_fewestFrom_5 (fun xq2_ l_xq2_ g_xq2_ => ?_)
    refine lv_iconst (v := -1) hx hb dX3_fewestFrom_8 (by decide) ?_
    refine jic_eq (tgt := 15) hx hb dX3_fewestFrom_9 (by decide) (fun cq3_ => ?_) (fun cq3_ => ?_)
    · skip
      have cq3_ : xq2_.toInt = (-1) := cq3_
      refine lv_iload_n hx hb dX3_fewestFrom_15 rfl (lv_at hl 3 rfl) ?_
      refine lv_aload_n hx hb dX3_fewestFrom_16 rfl (lv_at hl 1 rfl) ?_
      refine tg hC hK hH flX3_39 ht_b rfl rfl dX3_fewestFrom_17 (fun xq4_ l_xq4_ g_xq4_ => ?_)
      have l_xq4_ : (0 : Int) ≤ xq4_.toInt := l_xq4_
      have g_xq4_ : xq4_.toInt ≤ 12 := g_xq4_
      refine jic_ge (tgt := 29) hx hb dX3_fewestFrom_20 (by decide) (fun cq5_ => ?_) (fun cq5_ => ?_)
      · skip
        have cq5_ : xq4_.toInt ≤ at_.toInt := cq5_
        refine lv_aload_n hx hb dX3_fewestFrom_29 rfl (lv_at hl 0 rfl) ?_
        refine lv_aload_n hx hb dX3_fewestFrom_30 rfl (lv_at hl 1 rfl) ?_
        refine tg hC hK hH flX3_42 ht_b rfl rfl dX3_fewestFrom_31 (fun xq6_ l_xq6_ g_xq6_ => ?_)
        have l_xq6_ : (0 : Int) ≤ xq6_.toInt := l_xq6_
        have g_xq6_ : xq6_.toInt ≤ 7 := g_xq6_
        refine goI hK hH (runV (As := [.int xq6_]) (rest := []) hC hK hH (c_X2_entitles t_qq1_) mlX3_45 (rcvT hK hH t_qq1_ rfl rfl) (rOKn (by decide) (by decide)) rfl hl.1 rfl (Nat.le_of_ble_eq_true rfl) dX3_fewestFrom_34) (fun rq9_ Mq7_ Tq8_ Hq_ lcq_ hP hz hH => ?_)
        try dsimp only at hP
        obtain ⟨(er_rq9_ | er_rq9_), eT, eM⟩ := hP
        · skip
          have eT := eT.symm; subst eT
          have er_rq9_ := er_rq9_.symm; subst er_rq9_
          have eM := eM.symm; subst eM
          refine jif_eq (tgt := 44) hx hb dX3_fewestFrom_37 (by decide) (fun cq10_ => absurd cq10_ (by decide)) (fun cq10_ => ?_)
          refine lv_iconst (v := 0) hx hb dX3_fewestFrom_40 (by decide) ?_
          refine lv_goto (tgt := 46) hx hb dX3_fewestFrom_41 (by decide) ?_
          exact ret_i hC hr hlk hK hH (⟨trivial, rfl, hF⟩) (Nat.le_of_ble_eq_true rfl) (Nat.le_of_ble_eq_true rfl) dX3_fewestFrom_46
        · skip
          have eT := eT.symm; subst eT
          have er_rq9_ := er_rq9_.symm; subst er_rq9_
          have eM := eM.symm; subst eM
          refine jif_eq (tgt := 44) hx hb dX3_fewestFrom_37 (by decide) (fun cq11_ => ?_) (fun cq11_ => absurd cq11_ (by decide))
          refine lv_bipush (v := 99) hx hb dX3_fewestFrom_44 (by decide) ?_
          exact ret_i hC hr hlk hK hH (⟨trivial, rfl, hF⟩) (Nat.le_of_ble_eq_true rfl) (Nat.le_of_ble_eq_true rfl) dX3_fewestFrom_46
      · skip
        have cq5_ : at_.toInt < xq4_.toInt := cq5_
        refine lv_iload_n hx hb dX3_fewestFrom_23 rfl (lv_at hl 3 rfl) ?_
        refine lv_bipush (v := 12) hx hb dX3_fewestFrom_24 (by decide) ?_
        refine jic_lt (tgt := 47) hx hb dX3_fewestFrom_26 (by decide) (fun cq12_ => ?_) (fun cq12_ => absurd cq12_ (by have := iRg at_; have : (12 : Int32).toInt = 12 := rfl; omega))
        have cq12_ : at_.toInt < 12 := cq12_
        refine lv_aload_n hx hb dX3_fewestFrom_47 rfl (lv_at hl 1 rfl) ?_
        refine tgr hC hK hH flX3_49 ht_b rfl rfl dX3_fewestFrom_48 (fun qq13_ t_qq13_ => ?_)
        refine lv_iload_n hx hb dX3_fewestFrom_51 rfl (lv_at hl 3 rfl) ?_
        refine tqld hC hK hH t_qq13_ rfl rfl (iIn (by omega) (by omega)) dX3_fewestFrom_52 (fun qq14_ t_qq14_ => ?_)
        refine lv_astore (lv' := [(4, .ref qq14_), (3, .ref qq1_), (0, .ref b), (1, .ref tr), (2, .int at_)]) hx hb dX3_fewestFrom_53 hl (by decide) rfl (fun ls hl => ?_)
        refine lv_aload_n hx hb dX3_fewestFrom_55 rfl (lv_at hl 3 rfl) ?_
        refine lv_iload_n hx hb dX3_fewestFrom_56 rfl (lv_at hl 4 rfl) ?_
        refine lv_iconst (v := 1) hx hb dX3_fewestFrom_57 (by decide) ?_
        refine lv_iadd hx hb dX3_fewestFrom_58 ?_
        refine lv_topi (fun zq15_ e_zq15_ => ?_)
        have h_zq15_ : zq15_.toInt = at_.toInt + 1 := by rw [e_zq15_, iAdd (by have := iRg at_; have : (1 : Int32).toInt = 1 := rfl; omega) (by have := iRg at_; have : (1 : Int32).toInt = 1 := rfl; omega)]; rfl
        refine tqld hC hK hH ht_tr rfl rfl (iIn (by omega) (by omega)) dX3_fewestFrom_59 (fun qq16_ t_qq16_ => ?_)
        refine lv_astore (lv' := [(5, .ref qq16_), (4, .ref qq14_), (3, .ref qq1_), (0, .ref b), (1, .ref tr), (2, .int at_)]) hx hb dX3_fewestFrom_60 hl (by decide) rfl (fun ls hl => ?_)
        refine lv_aload hx hb dX3_fewestFrom_62 (lv_at hl 0 rfl) ?_
        refine lv_aload_n hx hb dX3_fewestFrom_64 rfl (lv_at hl 2 rfl) ?_
        refine goV hK hH (runV (As := [.ref qq1_]) (rest := []) hC hK hH (c_X2_copy t_qq16_ t_qq1_) mlX3_28 (rcvT hK hH t_qq16_ rfl rfl) (rOKn (by decide) (by decide)) rfl hl.1 rfl (Nat.le_of_ble_eq_true rfl) dX3_fewestFrom_65) (fun Mq17_ Tq18_ Hq_ lcq_ hP hz hH => ?_)
        try dsimp only at hP
        obtain ⟨(-), eT, hfr⟩ := hP
        have eT := eT.symm; subst eT
        have hF : ∀ q, FrK T q → Mq17_ q = M q := fun q hq  => (hfr q hq ).trans (hF q hq )
        refine lv_aload hx hb dX3_fewestFrom_68 (lv_at hl 0 rfl) ?_
        refine lv_aload hx hb dX3_fewestFrom_70 (lv_at hl 1 rfl) ?_
        refine lv_iload_n hx hb dX3_fewestFrom_72 rfl (lv_at hl 5 rfl) ?_
        refine lv_iconst (v := 0) hx hb dX3_fewestFrom_73 (by decide) ?_
        refine goV hK hH (runV (As := [.ref qq14_, .int at_, .int 0]) (rest := []) hC hK hH (c_X2_follow t_qq16_ t_qq14_) mlX3_53 (rcvT hK hH t_qq16_ rfl rfl) (rOKn (by decide) (by decide)) rfl hl.1 rfl (Nat.le_of_ble_eq_true rfl) dX3_fewestFrom_74) (fun Mq20_ Tq21_ Hq_ lcq_ hP hz hH => ?_)
        try dsimp only at hP
        obtain ⟨(-), eT, hfr⟩ := hP
        have eT := eT.symm; subst eT
        have hF : ∀ q, FrK T q → Mq20_ q = M q := fun q hq  => (hfr q hq ).trans (hF q hq )
        refine lv_aload_n hx hb dX3_fewestFrom_77 rfl (lv_at hl 3 rfl) ?_
        refine lv_aload_n hx hb dX3_fewestFrom_78 rfl (lv_at hl 4 rfl) ?_
        refine lv_iload_n hx hb dX3_fewestFrom_79 rfl (lv_at hl 5 rfl) ?_
        refine lv_iconst (v := 1) hx hb dX3_fewestFrom_80 (by decide) ?_
        refine lv_iadd hx hb dX3_fewestFrom_81 ?_
        refine lv_cst (v := zq15_) e_zq15_.symm ?_
        refine goI hK hH (runS (As := [.ref b, .ref tr, .int zq15_]) (rest := []) hC hK hH (ih ht_b ht_tr (by omega) (by omega)) mlX3_32 (rOKs (by decide)) rfl hl.1 rfl (Nat.le_of_ble_eq_true rfl) dX3_fewestFrom_82) (fun rq25_ Mq23_ Tq24_ Hq_ lcq_ hP hz hH => ?_)
        try dsimp only at hP
        obtain ⟨-, eT, hfr⟩ := hP
        have eT := eT.symm; subst eT
        have hF : ∀ q, FrK T q → Mq23_ q = M q := fun q hq => (hfr q hq).trans (hF q hq)
        refine lv_istore (lv' := [(6, .int rq25_), (5, .ref qq16_), (4, .ref qq14_), (3, .ref qq1_), (0, .ref b), (1, .ref tr), (2, .int at_)]) hx hb dX3_fewestFrom_85 hl (by decide) rfl (fun ls hl => ?_)
        refine lv_aload hx hb dX3_fewestFrom_87 (lv_at hl 2 rfl) ?_
        refine goI hK hH (runV (As := []) (rest := []) hC hK hH (c_X6_forged t_qq14_) mlX3_57 (rcvT hK hH t_qq14_ rfl rfl) (rOKn (by decide) (by decide)) rfl hl.1 rfl (Nat.le_of_ble_eq_true rfl) dX3_fewestFrom_89) (fun rq28_ Mq26_ Tq27_ Hq_ lcq_ hP hz hH => ?_)
        try dsimp only at hP
        obtain ⟨(er_rq28_ | er_rq28_), eT, eM⟩ := hP
        · skip
          have eT := eT.symm; subst eT
          have er_rq28_ := er_rq28_.symm; subst er_rq28_
          have eM := eM.symm; subst eM
          refine jif_eq (tgt := 127) hx hb dX3_fewestFrom_92 (by decide) (fun cq29_ => absurd cq29_ (by decide)) (fun cq29_ => ?_)
          refine lv_aload hx hb dX3_fewestFrom_95 (lv_at hl 1 rfl) ?_
          refine lv_aload_n hx hb dX3_fewestFrom_97 rfl (lv_at hl 3 rfl) ?_
          refine goV hK hH (runV (As := [.ref qq1_]) (rest := []) hC hK hH (c_X2_copy t_qq16_ t_qq1_) mlX3_28 (rcvT hK hH t_qq16_ rfl rfl) (rOKn (by decide) (by decide)) rfl hl.1 rfl (Nat.le_of_ble_eq_true rfl) dX3_fewestFrom_98) (fun Mq30_ Tq31_ Hq_ lcq_ hP hz hH => ?_)
          try dsimp only at hP
          obtain ⟨(-), eT, hfr⟩ := hP
          have eT := eT.symm; subst eT
          have hF : ∀ q, FrK T q → Mq30_ q = M q := fun q hq  => (hfr q hq ).trans (hF q hq )
          refine lv_aload hx hb dX3_fewestFrom_101 (lv_at hl 1 rfl) ?_
          refine lv_aload hx hb dX3_fewestFrom_103 (lv_at hl 2 rfl) ?_
          refine lv_iload_n hx hb dX3_fewestFrom_105 rfl (lv_at hl 6 rfl) ?_
          refine lv_iconst (v := 1) hx hb dX3_fewestFrom_106 (by decide) ?_
          refine goV hK hH (runV (As := [.ref qq14_, .int at_, .int 1]) (rest := []) hC hK hH (c_X2_follow t_qq16_ t_qq14_) mlX3_53 (rcvT hK hH t_qq16_ rfl rfl) (rOKn (by decide) (by decide)) rfl hl.1 rfl (Nat.le_of_ble_eq_true rfl) dX3_fewestFrom_107) (fun Mq33_ Tq34_ Hq_ lcq_ hP hz hH => ?_)
          try dsimp only at hP
          obtain ⟨(-), eT, hfr⟩ := hP
          have eT := eT.symm; subst eT
          have hF : ∀ q, FrK T q → Mq33_ q = M q := fun q hq  => (hfr q hq ).trans (hF q hq )
          refine lv_iload hx hb dX3_fewestFrom_110 (lv_at hl 0 rfl) ?_
          refine lv_iconst (v := 1) hx hb dX3_fewestFrom_112 (by decide) ?_
          refine lv_aload_n hx hb dX3_fewestFrom_113 rfl (lv_at hl 4 rfl) ?_
          refine lv_aload_n hx hb dX3_fewestFrom_114 rfl (lv_at hl 5 rfl) ?_
          refine lv_iload_n hx hb dX3_fewestFrom_115 rfl (lv_at hl 6 rfl) ?_
          refine lv_iconst (v := 1) hx hb dX3_fewestFrom_116 (by decide) ?_
          refine lv_iadd hx hb dX3_fewestFrom_117 ?_
          refine lv_cst (v := zq15_) e_zq15_.symm ?_
          refine goI hK hH (runS (As := [.ref b, .ref tr, .int zq15_]) (rest := [.int 1, .int rq25_]) hC hK hH (ih ht_b ht_tr (by omega) (by omega)) mlX3_32 (rOKs (by decide)) rfl hl.1 rfl (Nat.le_of_ble_eq_true rfl) dX3_fewestFrom_118) (fun rq38_ Mq36_ Tq37_ Hq_ lcq_ hP hz hH => ?_)
          try dsimp only at hP
          obtain ⟨-, eT, hfr⟩ := hP
          have eT := eT.symm; subst eT
          have hF : ∀ q, FrK T q → Mq36_ q = M q := fun q hq => (hfr q hq).trans (hF q hq)
          refine lv_iadd hx hb dX3_fewestFrom_121 ?_
          refine lv_topi (fun zq39_ e_zq39_ => ?_)
          refine xmin hC hl.1 mmX3_63 (fr4 _) (lo4 _ _ (by decide)) (Nat.le_of_ble_eq_true rfl) (Nat.le_of_ble_eq_true rfl) dX3_fewestFrom_122 ?_
          refine lv_topi (fun zq40_ e_zq40_ => ?_)
          refine lv_istore (lv' := [(6, .int zq40_), (5, .ref qq16_), (4, .ref qq14_), (3, .ref qq1_), (0, .ref b), (1, .ref tr), (2, .int at_)]) hx hb dX3_fewestFrom_125 hl (by decide) rfl (fun ls hl => ?_)
          refine lv_iload hx hb dX3_fewestFrom_127 (lv_at hl 0 rfl) ?_
          exact ret_i hC hr hlk hK hH (⟨trivial, rfl, hF⟩) (Nat.le_of_ble_eq_true rfl) (Nat.le_of_ble_eq_true rfl) dX3_fewestFrom_129
        · skip
          have eT := eT.symm; subst eT
          have er_rq28_ := er_rq28_.symm; subst er_rq28_
          have eM := eM.symm; subst eM
          refine jif_eq (tgt := 127) hx hb dX3_fewestFrom_92 (by decide) (fun cq41_ => ?_) (fun cq41_ => absurd cq41_ (by decide))
          refine lv_iload hx hb dX3_fewestFrom_127 (lv_at hl 0 rfl) ?_
          exact ret_i hC hr hlk hK hH (⟨trivial, rfl, hF⟩) (Nat.le_of_ble_eq_true rfl) (Nat.le_of_ble_eq_true rfl) dX3_fewestFrom_129
    · skip
      have cq3_ : xq2_.toInt ≠ (-1) := cq3_
      refine lv_bipush (v := 99) hx hb dX3_fewestFrom_12 (by decide) ?_
      exact ret_i hC hr hlk hK hH (⟨trivial, rfl, hF⟩) (Nat.le_of_ble_eq_true rfl) (Nat.le_of_ble_eq_true rfl) dX3_fewestFrom_14
